/-- only numbers of the work row have changed, and of these only such -/
def gm_E (S : Nat → Prop) (M M' : gx_M) : Prop := (∀ c, c ≠ 6 → M' c = M c) ∧ ∀ j, ¬ S j → M' 6 j = M 6 j
theorem gm_Er (S : Nat → Prop) (M : gx_M) : gm_E S M M := ⟨fun _ _ => rfl, fun _ _ => rfl⟩
theorem gm_Et {S : Nat → Prop} {M M1 M2 : gx_M} (h1 : gm_E S M M1) (h2 : gm_E S M1 M2) : gm_E S M M2 := ⟨fun c hc => (h2.1 c hc).trans (h1.1 c hc), fun j hj => (h2.2 j hj).trans (h1.2 j hj)⟩
theorem gm_Ew {S S' : Nat → Prop} {M M1 : gx_M} (h1 : gm_E S M M1) (h : ∀ j, S j → S' j) : gm_E S' M M1 := ⟨h1.1, fun j hj => h1.2 j (fun q => hj (h j q))⟩
theorem gm_Eb {S : Nat → Prop} {M : gx_M} {t n : Nat} {f : Nat → Int} (h : ∀ j, t ≤ j → j < t + n → S j) : gm_E S M (gx_blk M 6 t n f) := ⟨fun c hc => gx_blk_nc hc, fun j hj => gx_blk_out (by
  by_cases h1 : t ≤ j
  · by_cases h2 : j < t + n
    · exact absurd (h j h1 h2) hj
    · omega
  · omega)⟩
theorem gm_Eo {S : Nat → Prop} {M M1 : gx_M} {a : Nat} (h : gm_E S M M1) (ha : ∀ j, a ≤ j → j < a + 9 → ¬ S j) : mx_of (M1 6) a = mx_of (M 6) a := mx_of_ext (fun k hk => h.2 _ (ha _ (by omega) (by omega)))
theorem gm_Ez {S : Nat → Prop} {M M1 : gx_M} {n : Nat} {m : Int} (h : gm_E S M M1) (hz : gm_Z M n m) : gm_Z M1 n m := by
  unfold gm_Z
  rw [h.1 1 (by decide)]
  exact hz
/-- the operations, as the reference has them -/
def mx_prod (n : Nat) (m : Int) (u a b : Nat → Int) : Nat → Int := mx_lin m (mx_mul n m (mx_mul n m a u) b) ((m + 1) / 2) (mx_mul n m (mx_mul n m b u) a) ((m + 1) / 2)
def mx_oper (n : Nat) (m : Int) (u a b : Nat → Int) : Nat → Int := mx_mul n m (mx_mul n m (mx_mul n m (mx_mul n m a u) b) u) a
def mx_trip (n : Nat) (m : Int) (u a b c : Nat → Int) : Nat → Int := mx_lin m (mx_mul n m (mx_mul n m (mx_mul n m (mx_mul n m a u) b) u) c) ((m + 1) / 2) (mx_mul n m (mx_mul n m (mx_mul n m (mx_mul n m c u) b) u) a) ((m + 1) / 2)
def gm_S (t : Nat) : Nat → Prop := fun j => (45 ≤ j ∧ j < 81) ∨ (t ≤ j ∧ j < t + 9)
theorem mx_half {m : Int} (h : 3 ≤ m ∧ m ≤ 11) : -10 ≤ (m + 1) / 2 ∧ (m + 1) / 2 ≤ 10 := by omega
set_option maxRecDepth 100000 in
set_option maxHeartbeats 4000000 in
theorem c_X8_product {La : List gx_K} (hM : gm_H La) {M : gx_M} {n : Nat} {m : Int} (hz : gm_Z M n m) {a b t : Nat} (ha : a + 9 ≤ 45 ∨ 81 ≤ a) (ha2 : a + 9 ≤ 1926) (hb : b + 9 ≤ 45 ∨ 81 ≤ b) (hb2 : b + 9 ≤ 1926) (ht : t + 9 ≤ 45 ∨ 81 ≤ t) (ht2 : t + 9 ≤ 1926) (oa : mx_ok m (mx_of (M 6) a)) (ob : mx_ok m (mx_of (M 6) b)) (ou : mx_ok m (mx_of (M 6) 27)) : gx_Cv La yX8_product wsX8_product 2 [gx_R 0, gx_I a, gx_I b, gx_I t] M (fun M' => mx_of (M' 6) t = mx_prod n m (mx_of (M 6) 27) (mx_of (M 6) a) (mx_of (M 6) b) ∧ gm_E (gm_S t) M M') := by
  have hzm := gm_Zm hz
  have hh := mx_half (m := m) (by omega)
  generalize hA : mx_of (M 6) a = A at oa ⊢
  generalize hB : mx_of (M 6) b = B at ob ⊢
  generalize hU : mx_of (M 6) 27 = U at ou ⊢
  refine gx_start_v (L := [gx_R 0, gx_I a, gx_I b, gx_I t]) (by decide) rfl rfl (Nat.le_of_ble_eq_true rfl) rfl ?_
  intro _ _ _ _ _ _ _ _ _ _ _ _ C
  refine gx_aload_n C dX8_product_0 rfl ?_
  refine gx_iload_n C dX8_product_1 rfl ?_
  refine gx_bipush C dX8_product_2 rfl ?_
  refine gx_bipush C dX8_product_4 rfl ?_
  refine gx_callV C 8 rfl (gm_0 hM) (c_X8_times hM hz (a := a) (b := 27) (t := 45) (by omega) (by omega) (by omega) (by omega) (by omega) (by rw [hA]; exact oa) (by rw [hU]; exact ou)) (cwV 3 (gx_hts C) gX8_product_X8_times rfl rfl rfl (by decide +kernel) ⟨Nat.le_of_ble_eq_true rfl, Nat.le_of_ble_eq_true rfl⟩) rfl rfl (Nat.le_of_ble_eq_true rfl) ⟨Nat.le_refl _, Nat.le_refl _⟩ dX8_product_6 (fun M1 h1 => ?_)
  rw [hA, hU] at h1
  have z1 : gm_Z M1 n m := by rw [h1]; exact gm_Zb hz
  have a1 : mx_of (M1 6) a = A := by rw [h1, mx_of_blo (by omega), hA]
  have b1 : mx_of (M1 6) b = B := by rw [h1, mx_of_blo (by omega), hB]
  have u1 : mx_of (M1 6) 27 = U := by rw [h1, mx_of_blo (by omega), hU]
  have t1 : mx_of (M1 6) 45 = mx_mul n m A U := by rw [h1]; exact mx_of_mul
  have E1 : gm_E (gm_S t) M M1 := by rw [h1]; exact gm_Eb (fun j h1 h2 => Or.inl (by omega))
  clear h1
  refine gx_aload_n C dX8_product_9 rfl ?_
  refine gx_bipush C dX8_product_10 rfl ?_
  refine gx_iload_n C dX8_product_12 rfl ?_
  refine gx_bipush C dX8_product_13 rfl ?_
  refine gx_callV C 8 rfl (gm_0 hM) (c_X8_times hM z1 (a := 45) (b := b) (t := 54) (by omega) (by omega) (by omega) (by omega) (by omega) (by rw [t1]; exact mx_mul_ok hzm.1 _ _) (by rw [b1]; exact ob)) (cwV 3 (gx_hts C) gX8_product_X8_times rfl rfl rfl (by decide +kernel) ⟨Nat.le_of_ble_eq_true rfl, Nat.le_of_ble_eq_true rfl⟩) rfl rfl (Nat.le_of_ble_eq_true rfl) ⟨Nat.le_refl _, Nat.le_refl _⟩ dX8_product_15 (fun M2 h1 => ?_)
  rw [t1, b1] at h1
  have z2 : gm_Z M2 n m := by rw [h1]; exact gm_Zb z1
  have a2 : mx_of (M2 6) a = A := by rw [h1, mx_of_blo (by omega), a1]
  have b2 : mx_of (M2 6) b = B := by rw [h1, mx_of_blo (by omega), b1]
  have u2 : mx_of (M2 6) 27 = U := by rw [h1, mx_of_blo (by omega), u1]
  have t2 : mx_of (M2 6) 54 = mx_mul n m (mx_mul n m A U) B := by rw [h1]; exact mx_of_mul
  have E2 : gm_E (gm_S t) M M2 := gm_Et E1 (by rw [h1]; exact gm_Eb (fun j h1 h2 => Or.inl (by omega)))
  clear h1
  refine gx_aload_n C dX8_product_18 rfl ?_
  refine gx_iload_n C dX8_product_19 rfl ?_
  refine gx_bipush C dX8_product_20 rfl ?_
  refine gx_bipush C dX8_product_22 rfl ?_
  refine gx_callV C 8 rfl (gm_0 hM) (c_X8_times hM z2 (a := b) (b := 27) (t := 45) (by omega) (by omega) (by omega) (by omega) (by omega) (by rw [b2]; exact ob) (by rw [u2]; exact ou)) (cwV 3 (gx_hts C) gX8_product_X8_times rfl rfl rfl (by decide +kernel) ⟨Nat.le_of_ble_eq_true rfl, Nat.le_of_ble_eq_true rfl⟩) rfl rfl (Nat.le_of_ble_eq_true rfl) ⟨Nat.le_refl _, Nat.le_refl _⟩ dX8_product_24 (fun M3 h1 => ?_)
  rw [b2, u2] at h1
  have z3 : gm_Z M3 n m := by rw [h1]; exact gm_Zb z2
  have a3 : mx_of (M3 6) a = A := by rw [h1, mx_of_blo (by omega), a2]
  have v3 : mx_of (M3 6) 54 = mx_mul n m (mx_mul n m A U) B := by rw [h1, mx_of_blo (by omega), t2]
  have t3 : mx_of (M3 6) 45 = mx_mul n m B U := by rw [h1]; exact mx_of_mul
  have E3 : gm_E (gm_S t) M M3 := gm_Et E2 (by rw [h1]; exact gm_Eb (fun j h1 h2 => Or.inl (by omega)))
  clear h1
  refine gx_aload_n C dX8_product_27 rfl ?_
  refine gx_bipush C dX8_product_28 rfl ?_
  refine gx_iload_n C dX8_product_30 rfl ?_
  refine gx_bipush C dX8_product_31 rfl ?_
  refine gx_callV C 8 rfl (gm_0 hM) (c_X8_times hM z3 (a := 45) (b := a) (t := 63) (by omega) (by omega) (by omega) (by omega) (by omega) (by rw [t3]; exact mx_mul_ok hzm.1 _ _) (by rw [a3]; exact oa)) (cwV 3 (gx_hts C) gX8_product_X8_times rfl rfl rfl (by decide +kernel) ⟨Nat.le_of_ble_eq_true rfl, Nat.le_of_ble_eq_true rfl⟩) rfl rfl (Nat.le_of_ble_eq_true rfl) ⟨Nat.le_refl _, Nat.le_refl _⟩ dX8_product_33 (fun M4 h1 => ?_)
  rw [t3, a3] at h1
  have z4 : gm_Z M4 n m := by rw [h1]; exact gm_Zb z3
  have v4 : mx_of (M4 6) 54 = mx_mul n m (mx_mul n m A U) B := by rw [h1, mx_of_blo (by omega), v3]
  have t4 : mx_of (M4 6) 63 = mx_mul n m (mx_mul n m B U) A := by rw [h1]; exact mx_of_mul
  have E4 : gm_E (gm_S t) M M4 := gm_Et E3 (by rw [h1]; exact gm_Eb (fun j h1 h2 => Or.inl (by omega)))
  clear h1
  refine gx_aload_n C dX8_product_36 rfl ?_
  refine gx_bipush C dX8_product_37 rfl ?_
  refine gx_aload_n C dX8_product_39 rfl ?_
  refine gx_callI C 8 rfl (gm_0 hM) (c_X8_half hM z4) (cwV 0 (gx_hts C) gX8_product_X8_half rfl rfl rfl (by decide +kernel) ⟨Nat.le_of_ble_eq_true rfl, Nat.le_of_ble_eq_true rfl⟩) rfl rfl (Nat.le_of_ble_eq_true rfl) ⟨Nat.le_refl _, Nat.le_refl _⟩ dX8_product_40 (fun z M5 h1 => ?_)
  obtain ⟨rfl, rfl⟩ := h1
  refine gx_bipush C dX8_product_43 rfl ?_
  refine gx_aload_n C dX8_product_45 rfl ?_
  refine gx_callI C 8 rfl (gm_0 hM) (c_X8_half hM z4) (cwV 0 (gx_hts C) gX8_product_X8_half rfl rfl rfl (by decide +kernel) ⟨Nat.le_of_ble_eq_true rfl, Nat.le_of_ble_eq_true rfl⟩) rfl rfl (Nat.le_of_ble_eq_true rfl) ⟨Nat.le_refl _, Nat.le_refl _⟩ dX8_product_46 (fun z M6 h1 => ?_)
  obtain ⟨rfl, rfl⟩ := h1
  refine gx_iload_n C dX8_product_49 rfl ?_
  refine gx_callV C 8 rfl (gm_0 hM) (c_X8_add hM z4 (a := 54) (b := 63) (t := t) (by omega) (by omega) (by omega) (by omega) (by omega) (by rw [v4]; exact mx_mul_ok hzm.1 _ _) (by rw [t4]; exact mx_mul_ok hzm.1 _ _) hh hh) (cwV 5 (gx_hts C) gX8_product_X8_add rfl rfl rfl (by decide +kernel) ⟨Nat.le_of_ble_eq_true rfl, Nat.le_of_ble_eq_true rfl⟩) rfl rfl (Nat.le_of_ble_eq_true rfl) ⟨Nat.le_refl _, Nat.le_refl _⟩ dX8_product_50 (fun M7 h1 => ?_)
  rw [v4, t4] at h1
  have hq : mx_of (M7 6) t = mx_prod n m U A B ∧ gm_E (gm_S t) M M7 := ⟨by rw [h1]; exact mx_of_lin, gm_Et E4 (by rw [h1]; exact gm_Eb (fun j h1 h2 => Or.inr (by omega)))⟩
  exact gx_vret C dX8_product_53 hq
set_option maxRecDepth 100000 in
set_option maxHeartbeats 4000000 in
theorem c_X8_operator {La : List gx_K} (hM : gm_H La) {M : gx_M} {n : Nat} {m : Int} (hz : gm_Z M n m) {a b t : Nat} (ha : a + 9 ≤ 45 ∨ 81 ≤ a) (ha2 : a + 9 ≤ 1926) (hb : b + 9 ≤ 45 ∨ 81 ≤ b) (hb2 : b + 9 ≤ 1926) (ht : t + 9 ≤ 45 ∨ 81 ≤ t) (ht2 : t + 9 ≤ 1926) (oa : mx_ok m (mx_of (M 6) a)) (ob : mx_ok m (mx_of (M 6) b)) (ou : mx_ok m (mx_of (M 6) 27)) : gx_Cv La yX8_operator wsX8_operator 2 [gx_R 0, gx_I a, gx_I b, gx_I t] M (fun M' => mx_of (M' 6) t = mx_oper n m (mx_of (M 6) 27) (mx_of (M 6) a) (mx_of (M 6) b) ∧ gm_E (gm_S t) M M') := by
  have hzm := gm_Zm hz
  generalize hA : mx_of (M 6) a = A at oa ⊢
  generalize hB : mx_of (M 6) b = B at ob ⊢
  generalize hU : mx_of (M 6) 27 = U at ou ⊢
  refine gx_start_v (L := [gx_R 0, gx_I a, gx_I b, gx_I t]) (by decide) rfl rfl (Nat.le_of_ble_eq_true rfl) rfl ?_
  intro _ _ _ _ _ _ _ _ _ _ _ _ C
  refine gx_aload_n C dX8_operator_0 rfl ?_
  refine gx_iload_n C dX8_operator_1 rfl ?_
  refine gx_bipush C dX8_operator_2 rfl ?_
  refine gx_bipush C dX8_operator_4 rfl ?_
  refine gx_callV C 8 rfl (gm_0 hM) (c_X8_times hM hz (a := a) (b := 27) (t := 45) (by omega) (by omega) (by omega) (by omega) (by omega) (by rw [hA]; exact oa) (by rw [hU]; exact ou)) (cwV 3 (gx_hts C) gX8_operator_X8_times rfl rfl rfl (by decide +kernel) ⟨Nat.le_of_ble_eq_true rfl, Nat.le_of_ble_eq_true rfl⟩) rfl rfl (Nat.le_of_ble_eq_true rfl) ⟨Nat.le_refl _, Nat.le_refl _⟩ dX8_operator_6 (fun M1 h1 => ?_)
  rw [hA, hU] at h1
  have z1 : gm_Z M1 n m := by rw [h1]; exact gm_Zb hz
  have a1 : mx_of (M1 6) a = A := by rw [h1, mx_of_blo (by omega), hA]
  have b1 : mx_of (M1 6) b = B := by rw [h1, mx_of_blo (by omega), hB]
  have u1 : mx_of (M1 6) 27 = U := by rw [h1, mx_of_blo (by omega), hU]
  have t1 : mx_of (M1 6) 45 = mx_mul n m A U := by rw [h1]; exact mx_of_mul
  have E1 : gm_E (gm_S t) M M1 := by rw [h1]; exact gm_Eb (fun j h1 h2 => Or.inl (by omega))
  clear h1
  refine gx_aload_n C dX8_operator_9 rfl ?_
  refine gx_bipush C dX8_operator_10 rfl ?_
  refine gx_iload_n C dX8_operator_12 rfl ?_
  refine gx_bipush C dX8_operator_13 rfl ?_
  refine gx_callV C 8 rfl (gm_0 hM) (c_X8_times hM z1 (a := 45) (b := b) (t := 54) (by omega) (by omega) (by omega) (by omega) (by omega) (by rw [t1]; exact mx_mul_ok hzm.1 _ _) (by rw [b1]; exact ob)) (cwV 3 (gx_hts C) gX8_operator_X8_times rfl rfl rfl (by decide +kernel) ⟨Nat.le_of_ble_eq_true rfl, Nat.le_of_ble_eq_true rfl⟩) rfl rfl (Nat.le_of_ble_eq_true rfl) ⟨Nat.le_refl _, Nat.le_refl _⟩ dX8_operator_15 (fun M2 h1 => ?_)
  rw [t1, b1] at h1
  have z2 : gm_Z M2 n m := by rw [h1]; exact gm_Zb z1
  have a2 : mx_of (M2 6) a = A := by rw [h1, mx_of_blo (by omega), a1]
  have u2 : mx_of (M2 6) 27 = U := by rw [h1, mx_of_blo (by omega), u1]
  have t2 : mx_of (M2 6) 54 = mx_mul n m (mx_mul n m A U) B := by rw [h1]; exact mx_of_mul
  have E2 : gm_E (gm_S t) M M2 := gm_Et E1 (by rw [h1]; exact gm_Eb (fun j h1 h2 => Or.inl (by omega)))
  clear h1
  refine gx_aload_n C dX8_operator_18 rfl ?_
  refine gx_bipush C dX8_operator_19 rfl ?_
  refine gx_bipush C dX8_operator_21 rfl ?_
  refine gx_bipush C dX8_operator_23 rfl ?_
  refine gx_callV C 8 rfl (gm_0 hM) (c_X8_times hM z2 (a := 54) (b := 27) (t := 45) (by omega) (by omega) (by omega) (by omega) (by omega) (by rw [t2]; exact mx_mul_ok hzm.1 _ _) (by rw [u2]; exact ou)) (cwV 3 (gx_hts C) gX8_operator_X8_times rfl rfl rfl (by decide +kernel) ⟨Nat.le_of_ble_eq_true rfl, Nat.le_of_ble_eq_true rfl⟩) rfl rfl (Nat.le_of_ble_eq_true rfl) ⟨Nat.le_refl _, Nat.le_refl _⟩ dX8_operator_25 (fun M3 h1 => ?_)
  rw [t2, u2] at h1
  have z3 : gm_Z M3 n m := by rw [h1]; exact gm_Zb z2
  have a3 : mx_of (M3 6) a = A := by rw [h1, mx_of_blo (by omega), a2]
  have t3 : mx_of (M3 6) 45 = mx_mul n m (mx_mul n m (mx_mul n m A U) B) U := by rw [h1]; exact mx_of_mul
  have E3 : gm_E (gm_S t) M M3 := gm_Et E2 (by rw [h1]; exact gm_Eb (fun j h1 h2 => Or.inl (by omega)))
  clear h1
  refine gx_aload_n C dX8_operator_28 rfl ?_
  refine gx_bipush C dX8_operator_29 rfl ?_
  refine gx_iload_n C dX8_operator_31 rfl ?_
  refine gx_bipush C dX8_operator_32 rfl ?_
  refine gx_callV C 8 rfl (gm_0 hM) (c_X8_times hM z3 (a := 45) (b := a) (t := 63) (by omega) (by omega) (by omega) (by omega) (by omega) (by rw [t3]; exact mx_mul_ok hzm.1 _ _) (by rw [a3]; exact oa)) (cwV 3 (gx_hts C) gX8_operator_X8_times rfl rfl rfl (by decide +kernel) ⟨Nat.le_of_ble_eq_true rfl, Nat.le_of_ble_eq_true rfl⟩) rfl rfl (Nat.le_of_ble_eq_true rfl) ⟨Nat.le_refl _, Nat.le_refl _⟩ dX8_operator_34 (fun M4 h1 => ?_)
  rw [t3, a3] at h1
  have t4 : mx_of (M4 6) 63 = mx_oper n m U A B := by rw [h1]; exact mx_of_mul
  have E4 : gm_E (gm_S t) M M4 := gm_Et E3 (by rw [h1]; exact gm_Eb (fun j h1 h2 => Or.inl (by omega)))
  clear h1
  refine gx_aload_n C dX8_operator_37 rfl ?_
  refine gx_bipush C dX8_operator_38 rfl ?_
  refine gx_iload_n C dX8_operator_40 rfl ?_
  refine gx_callV C 8 rfl (gm_0 hM) (c_X8_copy hM (a := 63) (t := t) (by omega) (by omega) (by omega)) (cwV 2 (gx_hts C) gX8_operator_X8_copy rfl rfl rfl (by decide +kernel) ⟨Nat.le_of_ble_eq_true rfl, Nat.le_of_ble_eq_true rfl⟩) rfl rfl (Nat.le_of_ble_eq_true rfl) ⟨Nat.le_refl _, Nat.le_refl _⟩ dX8_operator_41 (fun M5 h1 => ?_)
  have hq : mx_of (M5 6) t = mx_oper n m U A B ∧ gm_E (gm_S t) M M5 := ⟨by rw [h1, ← t4]; exact mx_of_of, gm_Et E4 (by rw [h1]; exact gm_Eb (fun j h1 h2 => Or.inr (by omega)))⟩
  exact gx_vret C dX8_operator_44 hq
set_option maxRecDepth 100000 in
set_option maxHeartbeats 4000000 in
theorem c_X8_triple {La : List gx_K} (hM : gm_H La) {M : gx_M} {n : Nat} {m : Int} (hz : gm_Z M n m) {a b c t : Nat} (ha : a + 9 ≤ 45 ∨ 81 ≤ a) (ha2 : a + 9 ≤ 1926) (hb : b + 9 ≤ 45 ∨ 81 ≤ b) (hb2 : b + 9 ≤ 1926) (hc : c + 9 ≤ 45 ∨ 81 ≤ c) (hc2 : c + 9 ≤ 1926) (ht : t + 9 ≤ 45 ∨ 81 ≤ t) (ht2 : t + 9 ≤ 1926) (oa : mx_ok m (mx_of (M 6) a)) (ob : mx_ok m (mx_of (M 6) b)) (oc : mx_ok m (mx_of (M 6) c)) (ou : mx_ok m (mx_of (M 6) 27)) : gx_Cv La yX8_triple wsX8_triple 2 [gx_R 0, gx_I a, gx_I b, gx_I c, gx_I t] M (fun M' => mx_of (M' 6) t = mx_trip n m (mx_of (M 6) 27) (mx_of (M 6) a) (mx_of (M 6) b) (mx_of (M 6) c) ∧ gm_E (gm_S t) M M') := by
  have hzm := gm_Zm hz
  have hh := mx_half (m := m) (by omega)
  generalize hA : mx_of (M 6) a = A at oa ⊢
  generalize hB : mx_of (M 6) b = B at ob ⊢
  generalize hCC : mx_of (M 6) c = G at oc ⊢
  generalize hU : mx_of (M 6) 27 = U at ou ⊢
  refine gx_start_v (L := [gx_R 0, gx_I a, gx_I b, gx_I c, gx_I t]) (by decide) rfl rfl (Nat.le_of_ble_eq_true rfl) rfl ?_
  intro _ _ _ _ _ _ _ _ _ _ _ _ C
  refine gx_aload_n C dX8_triple_0 rfl ?_
  refine gx_iload_n C dX8_triple_1 rfl ?_
  refine gx_bipush C dX8_triple_2 rfl ?_
  refine gx_bipush C dX8_triple_4 rfl ?_
  refine gx_callV C 8 rfl (gm_0 hM) (c_X8_times hM hz (a := a) (b := 27) (t := 45) (by omega) (by omega) (by omega) (by omega) (by omega) (by rw [hA]; exact oa) (by rw [hU]; exact ou)) (cwV 3 (gx_hts C) gX8_triple_X8_times rfl rfl rfl (by decide +kernel) ⟨Nat.le_of_ble_eq_true rfl, Nat.le_of_ble_eq_true rfl⟩) rfl rfl (Nat.le_of_ble_eq_true rfl) ⟨Nat.le_refl _, Nat.le_refl _⟩ dX8_triple_6 (fun M1 h1 => ?_)
  rw [hA, hU] at h1
  have z1 : gm_Z M1 n m := by rw [h1]; exact gm_Zb hz
  have a1 : mx_of (M1 6) a = A := by rw [h1, mx_of_blo (by omega), hA]
  have b1 : mx_of (M1 6) b = B := by rw [h1, mx_of_blo (by omega), hB]
  have c1 : mx_of (M1 6) c = G := by rw [h1, mx_of_blo (by omega), hCC]
  have u1 : mx_of (M1 6) 27 = U := by rw [h1, mx_of_blo (by omega), hU]
  have t1 : mx_of (M1 6) 45 = mx_mul n m A U := by rw [h1]; exact mx_of_mul
  have E1 : gm_E (gm_S t) M M1 := by rw [h1]; exact gm_Eb (fun j h1 h2 => Or.inl (by omega))
  clear h1
  refine gx_aload_n C dX8_triple_9 rfl ?_
  refine gx_bipush C dX8_triple_10 rfl ?_
  refine gx_iload_n C dX8_triple_12 rfl ?_
  refine gx_bipush C dX8_triple_13 rfl ?_
  refine gx_callV C 8 rfl (gm_0 hM) (c_X8_times hM z1 (a := 45) (b := b) (t := 54) (by omega) (by omega) (by omega) (by omega) (by omega) (by rw [t1]; exact mx_mul_ok hzm.1 _ _) (by rw [b1]; exact ob)) (cwV 3 (gx_hts C) gX8_triple_X8_times rfl rfl rfl (by decide +kernel) ⟨Nat.le_of_ble_eq_true rfl, Nat.le_of_ble_eq_true rfl⟩) rfl rfl (Nat.le_of_ble_eq_true rfl) ⟨Nat.le_refl _, Nat.le_refl _⟩ dX8_triple_15 (fun M2 h1 => ?_)
  rw [t1, b1] at h1
  have z2 : gm_Z M2 n m := by rw [h1]; exact gm_Zb z1
  have a2 : mx_of (M2 6) a = A := by rw [h1, mx_of_blo (by omega), a1]
  have b2 : mx_of (M2 6) b = B := by rw [h1, mx_of_blo (by omega), b1]
  have c2 : mx_of (M2 6) c = G := by rw [h1, mx_of_blo (by omega), c1]
  have u2 : mx_of (M2 6) 27 = U := by rw [h1, mx_of_blo (by omega), u1]
  have t2 : mx_of (M2 6) 54 = mx_mul n m (mx_mul n m A U) B := by rw [h1]; exact mx_of_mul
  have E2 : gm_E (gm_S t) M M2 := gm_Et E1 (by rw [h1]; exact gm_Eb (fun j h1 h2 => Or.inl (by omega)))
  clear h1
  refine gx_aload_n C dX8_triple_18 rfl ?_
  refine gx_bipush C dX8_triple_19 rfl ?_
  refine gx_bipush C dX8_triple_21 rfl ?_
  refine gx_bipush C dX8_triple_23 rfl ?_
  refine gx_callV C 8 rfl (gm_0 hM) (c_X8_times hM z2 (a := 54) (b := 27) (t := 45) (by omega) (by omega) (by omega) (by omega) (by omega) (by rw [t2]; exact mx_mul_ok hzm.1 _ _) (by rw [u2]; exact ou)) (cwV 3 (gx_hts C) gX8_triple_X8_times rfl rfl rfl (by decide +kernel) ⟨Nat.le_of_ble_eq_true rfl, Nat.le_of_ble_eq_true rfl⟩) rfl rfl (Nat.le_of_ble_eq_true rfl) ⟨Nat.le_refl _, Nat.le_refl _⟩ dX8_triple_25 (fun M3 h1 => ?_)
  rw [t2, u2] at h1
  have z3 : gm_Z M3 n m := by rw [h1]; exact gm_Zb z2
  have a3 : mx_of (M3 6) a = A := by rw [h1, mx_of_blo (by omega), a2]
  have b3 : mx_of (M3 6) b = B := by rw [h1, mx_of_blo (by omega), b2]
  have c3 : mx_of (M3 6) c = G := by rw [h1, mx_of_blo (by omega), c2]
  have u3 : mx_of (M3 6) 27 = U := by rw [h1, mx_of_blo (by omega), u2]
  have t3 : mx_of (M3 6) 45 = mx_mul n m (mx_mul n m (mx_mul n m A U) B) U := by rw [h1]; exact mx_of_mul
  have E3 : gm_E (gm_S t) M M3 := gm_Et E2 (by rw [h1]; exact gm_Eb (fun j h1 h2 => Or.inl (by omega)))
  clear h1
  refine gx_aload_n C dX8_triple_28 rfl ?_
  refine gx_bipush C dX8_triple_29 rfl ?_
  refine gx_iload_n C dX8_triple_31 rfl ?_
  refine gx_bipush C dX8_triple_32 rfl ?_
  refine gx_callV C 8 rfl (gm_0 hM) (c_X8_times hM z3 (a := 45) (b := c) (t := 63) (by omega) (by omega) (by omega) (by omega) (by omega) (by rw [t3]; exact mx_mul_ok hzm.1 _ _) (by rw [c3]; exact oc)) (cwV 3 (gx_hts C) gX8_triple_X8_times rfl rfl rfl (by decide +kernel) ⟨Nat.le_of_ble_eq_true rfl, Nat.le_of_ble_eq_true rfl⟩) rfl rfl (Nat.le_of_ble_eq_true rfl) ⟨Nat.le_refl _, Nat.le_refl _⟩ dX8_triple_34 (fun M4 h1 => ?_)
  rw [t3, c3] at h1
  have z4 : gm_Z M4 n m := by rw [h1]; exact gm_Zb z3
  have a4 : mx_of (M4 6) a = A := by rw [h1, mx_of_blo (by omega), a3]
  have b4 : mx_of (M4 6) b = B := by rw [h1, mx_of_blo (by omega), b3]
  have c4 : mx_of (M4 6) c = G := by rw [h1, mx_of_blo (by omega), c3]
  have u4 : mx_of (M4 6) 27 = U := by rw [h1, mx_of_blo (by omega), u3]
  have t4 : mx_of (M4 6) 63 = mx_mul n m (mx_mul n m (mx_mul n m (mx_mul n m A U) B) U) G := by rw [h1]; exact mx_of_mul
  have E4 : gm_E (gm_S t) M M4 := gm_Et E3 (by rw [h1]; exact gm_Eb (fun j h1 h2 => Or.inl (by omega)))
  clear h1
  refine gx_aload_n C dX8_triple_37 rfl ?_
  refine gx_iload_n C dX8_triple_38 rfl ?_
  refine gx_bipush C dX8_triple_39 rfl ?_
  refine gx_bipush C dX8_triple_41 rfl ?_
  refine gx_callV C 8 rfl (gm_0 hM) (c_X8_times hM z4 (a := c) (b := 27) (t := 45) (by omega) (by omega) (by omega) (by omega) (by omega) (by rw [c4]; exact oc) (by rw [u4]; exact ou)) (cwV 3 (gx_hts C) gX8_triple_X8_times rfl rfl rfl (by decide +kernel) ⟨Nat.le_of_ble_eq_true rfl, Nat.le_of_ble_eq_true rfl⟩) rfl rfl (Nat.le_of_ble_eq_true rfl) ⟨Nat.le_refl _, Nat.le_refl _⟩ dX8_triple_43 (fun M5 h1 => ?_)
  rw [c4, u4] at h1
  have z5 : gm_Z M5 n m := by rw [h1]; exact gm_Zb z4
  have a5 : mx_of (M5 6) a = A := by rw [h1, mx_of_blo (by omega), a4]
  have b5 : mx_of (M5 6) b = B := by rw [h1, mx_of_blo (by omega), b4]
  have u5 : mx_of (M5 6) 27 = U := by rw [h1, mx_of_blo (by omega), u4]
  have v5 : mx_of (M5 6) 63 = mx_mul n m (mx_mul n m (mx_mul n m (mx_mul n m A U) B) U) G := by rw [h1, mx_of_blo (by omega), t4]
  have t5 : mx_of (M5 6) 45 = mx_mul n m G U := by rw [h1]; exact mx_of_mul
  have E5 : gm_E (gm_S t) M M5 := gm_Et E4 (by rw [h1]; exact gm_Eb (fun j h1 h2 => Or.inl (by omega)))
  clear h1
  refine gx_aload_n C dX8_triple_46 rfl ?_
  refine gx_bipush C dX8_triple_47 rfl ?_
  refine gx_iload_n C dX8_triple_49 rfl ?_
  refine gx_bipush C dX8_triple_50 rfl ?_
  refine gx_callV C 8 rfl (gm_0 hM) (c_X8_times hM z5 (a := 45) (b := b) (t := 54) (by omega) (by omega) (by omega) (by omega) (by omega) (by rw [t5]; exact mx_mul_ok hzm.1 _ _) (by rw [b5]; exact ob)) (cwV 3 (gx_hts C) gX8_triple_X8_times rfl rfl rfl (by decide +kernel) ⟨Nat.le_of_ble_eq_true rfl, Nat.le_of_ble_eq_true rfl⟩) rfl rfl (Nat.le_of_ble_eq_true rfl) ⟨Nat.le_refl _, Nat.le_refl _⟩ dX8_triple_52 (fun M6 h1 => ?_)
  rw [t5, b5] at h1
  have z6 : gm_Z M6 n m := by rw [h1]; exact gm_Zb z5
  have a6 : mx_of (M6 6) a = A := by rw [h1, mx_of_blo (by omega), a5]
  have u6 : mx_of (M6 6) 27 = U := by rw [h1, mx_of_blo (by omega), u5]
  have v6 : mx_of (M6 6) 63 = mx_mul n m (mx_mul n m (mx_mul n m (mx_mul n m A U) B) U) G := by rw [h1, mx_of_blo (by omega), v5]
  have t6 : mx_of (M6 6) 54 = mx_mul n m (mx_mul n m G U) B := by rw [h1]; exact mx_of_mul
  have E6 : gm_E (gm_S t) M M6 := gm_Et E5 (by rw [h1]; exact gm_Eb (fun j h1 h2 => Or.inl (by omega)))
  clear h1
  refine gx_aload_n C dX8_triple_55 rfl ?_
  refine gx_bipush C dX8_triple_56 rfl ?_
  refine gx_bipush C dX8_triple_58 rfl ?_
  refine gx_bipush C dX8_triple_60 rfl ?_
  refine gx_callV C 8 rfl (gm_0 hM) (c_X8_times hM z6 (a := 54) (b := 27) (t := 45) (by omega) (by omega) (by omega) (by omega) (by omega) (by rw [t6]; exact mx_mul_ok hzm.1 _ _) (by rw [u6]; exact ou)) (cwV 3 (gx_hts C) gX8_triple_X8_times rfl rfl rfl (by decide +kernel) ⟨Nat.le_of_ble_eq_true rfl, Nat.le_of_ble_eq_true rfl⟩) rfl rfl (Nat.le_of_ble_eq_true rfl) ⟨Nat.le_refl _, Nat.le_refl _⟩ dX8_triple_62 (fun M7 h1 => ?_)
  rw [t6, u6] at h1
  have z7 : gm_Z M7 n m := by rw [h1]; exact gm_Zb z6
  have a7 : mx_of (M7 6) a = A := by rw [h1, mx_of_blo (by omega), a6]
  have v7 : mx_of (M7 6) 63 = mx_mul n m (mx_mul n m (mx_mul n m (mx_mul n m A U) B) U) G := by rw [h1, mx_of_blo (by omega), v6]
  have t7 : mx_of (M7 6) 45 = mx_mul n m (mx_mul n m (mx_mul n m G U) B) U := by rw [h1]; exact mx_of_mul
  have E7 : gm_E (gm_S t) M M7 := gm_Et E6 (by rw [h1]; exact gm_Eb (fun j h1 h2 => Or.inl (by omega)))
  clear h1
  refine gx_aload_n C dX8_triple_65 rfl ?_
  refine gx_bipush C dX8_triple_66 rfl ?_
  refine gx_iload_n C dX8_triple_68 rfl ?_
  refine gx_bipush C dX8_triple_69 rfl ?_
  refine gx_callV C 8 rfl (gm_0 hM) (c_X8_times hM z7 (a := 45) (b := a) (t := 72) (by omega) (by omega) (by omega) (by omega) (by omega) (by rw [t7]; exact mx_mul_ok hzm.1 _ _) (by rw [a7]; exact oa)) (cwV 3 (gx_hts C) gX8_triple_X8_times rfl rfl rfl (by decide +kernel) ⟨Nat.le_of_ble_eq_true rfl, Nat.le_of_ble_eq_true rfl⟩) rfl rfl (Nat.le_of_ble_eq_true rfl) ⟨Nat.le_refl _, Nat.le_refl _⟩ dX8_triple_71 (fun M8 h1 => ?_)
  rw [t7, a7] at h1
  have z8 : gm_Z M8 n m := by rw [h1]; exact gm_Zb z7
  have v8 : mx_of (M8 6) 63 = mx_mul n m (mx_mul n m (mx_mul n m (mx_mul n m A U) B) U) G := by rw [h1, mx_of_blo (by omega), v7]
  have t8 : mx_of (M8 6) 72 = mx_mul n m (mx_mul n m (mx_mul n m (mx_mul n m G U) B) U) A := by rw [h1]; exact mx_of_mul
  have E8 : gm_E (gm_S t) M M8 := gm_Et E7 (by rw [h1]; exact gm_Eb (fun j h1 h2 => Or.inl (by omega)))
  clear h1
  refine gx_aload_n C dX8_triple_74 rfl ?_
  refine gx_bipush C dX8_triple_75 rfl ?_
  refine gx_aload_n C dX8_triple_77 rfl ?_
  refine gx_callI C 8 rfl (gm_0 hM) (c_X8_half hM z8) (cwV 0 (gx_hts C) gX8_triple_X8_half rfl rfl rfl (by decide +kernel) ⟨Nat.le_of_ble_eq_true rfl, Nat.le_of_ble_eq_true rfl⟩) rfl rfl (Nat.le_of_ble_eq_true rfl) ⟨Nat.le_refl _, Nat.le_refl _⟩ dX8_triple_78 (fun z M9 h1 => ?_)
  obtain ⟨rfl, rfl⟩ := h1
  refine gx_bipush C dX8_triple_81 rfl ?_
  refine gx_aload_n C dX8_triple_83 rfl ?_
  refine gx_callI C 8 rfl (gm_0 hM) (c_X8_half hM z8) (cwV 0 (gx_hts C) gX8_triple_X8_half rfl rfl rfl (by decide +kernel) ⟨Nat.le_of_ble_eq_true rfl, Nat.le_of_ble_eq_true rfl⟩) rfl rfl (Nat.le_of_ble_eq_true rfl) ⟨Nat.le_refl _, Nat.le_refl _⟩ dX8_triple_84 (fun z M9 h1 => ?_)
  obtain ⟨rfl, rfl⟩ := h1
  refine gx_iload C dX8_triple_87 rfl ?_
  refine gx_callV C 8 rfl (gm_0 hM) (c_X8_add hM z8 (a := 63) (b := 72) (t := t) (by omega) (by omega) (by omega) (by omega) (by omega) (by rw [v8]; exact mx_mul_ok hzm.1 _ _) (by rw [t8]; exact mx_mul_ok hzm.1 _ _) hh hh) (cwV 5 (gx_hts C) gX8_triple_X8_add rfl rfl rfl (by decide +kernel) ⟨Nat.le_of_ble_eq_true rfl, Nat.le_of_ble_eq_true rfl⟩) rfl rfl (Nat.le_of_ble_eq_true rfl) ⟨Nat.le_refl _, Nat.le_refl _⟩ dX8_triple_89 (fun M10 h1 => ?_)
  rw [v8, t8] at h1
  have hq : mx_of (M10 6) t = mx_trip n m U A B G ∧ gm_E (gm_S t) M M10 := ⟨by rw [h1]; exact mx_of_lin, gm_Et E8 (by rw [h1]; exact gm_Eb (fun j h1 h2 => Or.inr (by omega)))⟩
  exact gx_vret C dX8_triple_92 hq
set_option maxRecDepth 100000 in
set_option maxHeartbeats 4000000 in
theorem c_X8_inverse {La : List gx_K} (hM : gm_H La) {M : gx_M} {n : Nat} {m : Int} (hz : gm_Z M n m) {a t : Nat} (ha : a + 9 ≤ 36 ∨ 81 ≤ a) (ha2 : a + 9 ≤ 1926) (ht : t + 9 ≤ 36 ∨ 81 ≤ t) (ht2 : t + 9 ≤ 1926) (oa : mx_ok m (mx_of (M 6) a)) (ov : mx_ok m (mx_of (M 6) 36)) : gx_Ci La yX8_inverse wsX8_inverse 3 [gx_R 0, gx_I a, gx_I t] M (fun z M' => (z = 0 ∨ z = 1) ∧ (z = 0 ↔ mx_det n m (mx_of (M 6) a) = 0) ∧ (z = 1 → mx_of (M' 6) t = mx_mul n m (mx_mul n m (mx_of (M 6) 36) (mx_inv n m (mx_of (M 6) a))) (mx_of (M 6) 36)) ∧ gm_E (gm_S t) M M') := by
  have hzm := gm_Zm hz
  generalize hA : mx_of (M 6) a = A at oa ⊢
  generalize hV : mx_of (M 6) 36 = V at ov ⊢
  have hdb := mx_det_b (n := n) (m := m) hzm.1 A
  refine gx_start_i (L := [gx_R 0, gx_I a, gx_I t]) (by decide) rfl rfl (Nat.le_of_ble_eq_true rfl) rfl ?_
  intro _ _ _ _ _ _ _ _ _ _ _ _ C
  refine gx_aload_n C dX8_inverse_0 rfl ?_
  refine gx_iload_n C dX8_inverse_1 rfl ?_
  refine gx_callI C 8 rfl (gm_0 hM) (c_X8_determinant hM hz ha2 (by rw [hA]; exact oa)) (cwV 1 (gx_hts C) gX8_inverse_X8_determinant rfl rfl rfl (by decide +kernel) ⟨Nat.le_of_ble_eq_true rfl, Nat.le_of_ble_eq_true rfl⟩) rfl rfl (Nat.le_of_ble_eq_true rfl) ⟨Nat.le_refl _, Nat.le_refl _⟩ dX8_inverse_2 (fun z M1 h1 => ?_)
  obtain ⟨rfl, h1⟩ := h1
  rw [hA] at h1
  subst h1
  refine gx_if_ne C dX8_inverse_5 rfl (by unfold gx_3; omega) (fun hb5 => ?_) (fun hb5 => ?_)
  · refine gx_aload_n C dX8_inverse_10 rfl ?_
    refine gx_iload_n C dX8_inverse_11 rfl ?_
    refine gx_bipush C dX8_inverse_12 rfl ?_
    refine gx_callV C 8 rfl (gm_0 hM) (c_X8_invert hM hz (a := a) (t := 45) (by omega) (by omega) (by omega) (by rw [hA]; exact oa)) (cwV 2 (gx_hts C) gX8_inverse_X8_invert rfl rfl rfl (by decide +kernel) ⟨Nat.le_of_ble_eq_true rfl, Nat.le_of_ble_eq_true rfl⟩) rfl rfl (Nat.le_of_ble_eq_true rfl) ⟨Nat.le_refl _, Nat.le_refl _⟩ dX8_inverse_14 (fun M2 h1 => ?_)
    rw [hA] at h1
    have z2 : gm_Z M2 n m := by rw [h1]; exact gm_Zb hz
    have v2 : mx_of (M2 6) 36 = V := by rw [h1, mx_of_blo (by omega), hV]
    have t2 : mx_of (M2 6) 45 = mx_inv n m A := by rw [h1]; exact mx_of_inv
    have E2 : gm_E (gm_S t) M1 M2 := by rw [h1]; exact gm_Eb (fun j h1 h2 => Or.inl (by omega))
    clear h1
    refine gx_aload_n C dX8_inverse_17 rfl ?_
    refine gx_bipush C dX8_inverse_18 rfl ?_
    refine gx_bipush C dX8_inverse_20 rfl ?_
    refine gx_bipush C dX8_inverse_22 rfl ?_
    refine gx_callV C 8 rfl (gm_0 hM) (c_X8_times hM z2 (a := 36) (b := 45) (t := 54) (by omega) (by omega) (by omega) (by omega) (by omega) (by rw [v2]; exact ov) (by rw [t2]; exact mx_inv_ok hzm.1 _)) (cwV 3 (gx_hts C) gX8_inverse_X8_times rfl rfl rfl (by decide +kernel) ⟨Nat.le_of_ble_eq_true rfl, Nat.le_of_ble_eq_true rfl⟩) rfl rfl (Nat.le_of_ble_eq_true rfl) ⟨Nat.le_refl _, Nat.le_refl _⟩ dX8_inverse_24 (fun M3 h1 => ?_)
    rw [v2, t2] at h1
    have z3 : gm_Z M3 n m := by rw [h1]; exact gm_Zb z2
    have v3 : mx_of (M3 6) 36 = V := by rw [h1, mx_of_blo (by omega), v2]
    have t3 : mx_of (M3 6) 54 = mx_mul n m V (mx_inv n m A) := by rw [h1]; exact mx_of_mul
    have E3 : gm_E (gm_S t) M1 M3 := gm_Et E2 (by rw [h1]; exact gm_Eb (fun j h1 h2 => Or.inl (by omega)))
    clear h1
    refine gx_aload_n C dX8_inverse_27 rfl ?_
    refine gx_bipush C dX8_inverse_28 rfl ?_
    refine gx_bipush C dX8_inverse_30 rfl ?_
    refine gx_bipush C dX8_inverse_32 rfl ?_
    refine gx_callV C 8 rfl (gm_0 hM) (c_X8_times hM z3 (a := 54) (b := 36) (t := 63) (by omega) (by omega) (by omega) (by omega) (by omega) (by rw [t3]; exact mx_mul_ok hzm.1 _ _) (by rw [v3]; exact ov)) (cwV 3 (gx_hts C) gX8_inverse_X8_times rfl rfl rfl (by decide +kernel) ⟨Nat.le_of_ble_eq_true rfl, Nat.le_of_ble_eq_true rfl⟩) rfl rfl (Nat.le_of_ble_eq_true rfl) ⟨Nat.le_refl _, Nat.le_refl _⟩ dX8_inverse_34 (fun M4 h1 => ?_)
    rw [v3, t3] at h1
    have t4 : mx_of (M4 6) 63 = mx_mul n m (mx_mul n m V (mx_inv n m A)) V := by rw [h1]; exact mx_of_mul
    have E4 : gm_E (gm_S t) M1 M4 := gm_Et E3 (by rw [h1]; exact gm_Eb (fun j h1 h2 => Or.inl (by omega)))
    clear h1
    refine gx_aload_n C dX8_inverse_37 rfl ?_
    refine gx_bipush C dX8_inverse_38 rfl ?_
    refine gx_iload_n C dX8_inverse_40 rfl ?_
    refine gx_callV C 8 rfl (gm_0 hM) (c_X8_copy hM (a := 63) (t := t) (by omega) (by omega) (by omega)) (cwV 2 (gx_hts C) gX8_inverse_X8_copy rfl rfl rfl (by decide +kernel) ⟨Nat.le_of_ble_eq_true rfl, Nat.le_of_ble_eq_true rfl⟩) rfl rfl (Nat.le_of_ble_eq_true rfl) ⟨Nat.le_refl _, Nat.le_refl _⟩ dX8_inverse_41 (fun M5 h1 => ?_)
    refine gx_iconst C dX8_inverse_44 ?_
    have hq : (1 : Int) = 1 → mx_of (M5 6) t = mx_mul n m (mx_mul n m V (mx_inv n m A)) V := fun _ => by rw [h1, ← t4]; exact mx_of_of
    have hE : gm_E (gm_S t) M1 M5 := gm_Et E4 (by rw [h1]; exact gm_Eb (fun j h1 h2 => Or.inr (by omega)))
    exact gx_zret C (by omega) dX8_inverse_45 ⟨by omega, by omega, hq, hE⟩
  · refine gx_iconst C dX8_inverse_8 ?_
    exact gx_zret C (by omega) dX8_inverse_9 ⟨by omega, by omega, by omega, gm_Er _ _⟩
set_option maxRecDepth 100000 in
set_option maxHeartbeats 4000000 in
theorem c_X8_isOwnSquare {La : List gx_K} (hM : gm_H La) {M : gx_M} {n : Nat} {m : Int} (hz : gm_Z M n m) {a : Nat} (ha : a + 9 ≤ 45 ∨ 90 ≤ a) (ha2 : a + 9 ≤ 1926) (oa : mx_ok m (mx_of (M 6) a)) (ou : mx_ok m (mx_of (M 6) 27)) : gx_Ci La yX8_isOwnSquare wsX8_isOwnSquare 3 [gx_R 0, gx_I a] M (fun z M' => (z = 0 ∨ z = 1) ∧ (z = 1 ↔ mx_prod n m (mx_of (M 6) 27) (mx_of (M 6) a) (mx_of (M 6) a) = mx_of (M 6) a) ∧ gm_E (gm_S 81) M M') := by
  have hzm := gm_Zm hz
  refine gx_start_i (L := [gx_R 0, gx_I a]) (by decide) rfl rfl (Nat.le_of_ble_eq_true rfl) rfl ?_
  intro _ _ _ _ _ _ _ _ _ _ _ _ C
  refine gx_aload_n C dX8_isOwnSquare_0 rfl ?_
  refine gx_iload_n C dX8_isOwnSquare_1 rfl ?_
  refine gx_iload_n C dX8_isOwnSquare_2 rfl ?_
  refine gx_bipush C dX8_isOwnSquare_3 rfl ?_
  refine gx_callV C 8 rfl (gm_0 hM) (c_X8_product hM hz (a := a) (b := a) (t := 81) (by omega) (by omega) (by omega) (by omega) (by omega) (by omega) oa oa ou) (cwV 3 (gx_hts C) gX8_isOwnSquare_X8_product rfl rfl rfl (by decide +kernel) ⟨Nat.le_of_ble_eq_true rfl, Nat.le_of_ble_eq_true rfl⟩) rfl rfl (Nat.le_of_ble_eq_true rfl) ⟨Nat.le_refl _, Nat.le_refl _⟩ dX8_isOwnSquare_5 (fun M1 h1 => ?_)
  obtain ⟨h1, h2⟩ := h1
  have a1 : mx_of (M1 6) a = mx_of (M 6) a := gm_Eo h2 (fun j h1 h2 => by unfold gm_S; omega)
  refine gx_aload_n C dX8_isOwnSquare_8 rfl ?_
  refine gx_iload_n C dX8_isOwnSquare_9 rfl ?_
  refine gx_bipush C dX8_isOwnSquare_10 rfl ?_
  refine gx_callI C 8 rfl (gm_0 hM) (c_X8_areAlike hM (m := m) (by omega) (a := a) (b := 81) (by omega) (by omega) (by rw [a1]; exact oa) (by rw [h1]; exact mx_lin_ok hzm.1 _ _ _ _)) (cwV 2 (gx_hts C) gX8_isOwnSquare_X8_areAlike rfl rfl rfl (by decide +kernel) ⟨Nat.le_of_ble_eq_true rfl, Nat.le_of_ble_eq_true rfl⟩) rfl rfl (Nat.le_of_ble_eq_true rfl) ⟨Nat.le_refl _, Nat.le_refl _⟩ dX8_isOwnSquare_12 (fun z M2 h3 => ?_)
  obtain ⟨rfl, h4, h5⟩ := h3
  rw [a1, h1] at h5
  exact gx_zret C h4 dX8_isOwnSquare_15 ⟨h4, h5.trans eq_comm, h2⟩
