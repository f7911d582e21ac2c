set_option maxRecDepth 100000 in
set_option maxHeartbeats 4000000 in
theorem c_X7_areSame {La : List gx_K} (hL : gd_H La) {M : gx_M} {s : sp_S} (hs : sp_ok s) (hR : sd_R s M) {r q : Int} (hr : gx_3 r) (hq : gx_3 q) : gx_Ci La yX7_areSame wsX7_areSame 1 [gx_R 12, gx_I r, gx_I q] M (fun z M' => sp_same s r q z ∧ M' = M) := by
  have hZ := hs.1
  have hm : s.1 82 ≤ 11 := by have := hZ.2.1; omega
  by_cases hok : (0 ≤ r ∧ r ≤ 7) ∧ (0 ≤ q ∧ q ≤ 7)
  · have he1 := gd_el hL (r := r.toNat) (by omega)
    have he2 := gd_el hL (r := q.toNat) (by omega)
    have o1 : mx_ok (s.1 82) (zs_el s.1 r.toNat) := by unfold zs_el; rw [if_pos (by omega)]; exact (hZ.2.2.1 _ (by omega)).1
    have o2 : mx_ok (s.1 82) (zs_el s.1 q.toNat) := by unfold zs_el; rw [if_pos (by omega)]; exact (hZ.2.2.1 _ (by omega)).1
    refine gx_start_i (L := [gx_R 12, gx_I r, gx_I q]) (by decide) rfl rfl (Nat.le_of_ble_eq_true rfl) rfl ?_
    intro _ _ _ _ _ _ _ _ _ _ _ _ C
    refine gx_iload_n C dX7_areSame_0 rfl ?_
    refine gx_statI C (c_X7_isRegister hr) (cwS 1 (gx_hts C) gX7_areSame_X7_isRegister rfl rfl rfl (by decide +kernel) ⟨Nat.le_of_ble_eq_true rfl, Nat.le_of_ble_eq_true rfl⟩) rfl rfl (Nat.le_of_ble_eq_true rfl) ⟨Nat.le_refl _, Nat.le_refl _⟩ dX7_areSame_1 (fun z P hz => ?_)
    obtain ⟨rfl, rfl⟩ := hz
    rw [if_pos (by omega)]
    refine gx_if_eq C dX7_areSame_4 rfl (by unfold gx_3; omega) (fun hb4 => absurd hb4 (by omega)) (fun hb4 => ?_)
    refine gx_iload_n C dX7_areSame_7 rfl ?_
    refine gx_statI C (c_X7_isRegister hq) (cwS 1 (gx_hts C) gX7_areSame_X7_isRegister rfl rfl rfl (by decide +kernel) ⟨Nat.le_of_ble_eq_true rfl, Nat.le_of_ble_eq_true rfl⟩) rfl rfl (Nat.le_of_ble_eq_true rfl) ⟨Nat.le_refl _, Nat.le_refl _⟩ dX7_areSame_8 (fun z P2 hz => ?_)
    obtain ⟨rfl, rfl⟩ := hz
    rw [if_pos (by omega)]
    refine gx_if_ne C dX7_areSame_11 rfl (by unfold gx_3; omega) (fun hb11 => ?_) (fun hb11 => absurd (by omega) hb11)
    refine gx_aload_n C dX7_areSame_16 rfl ?_
    refine gx_getR C 7 _ 0 rfl (gd_12 hL) rfl (by decide) nX7_areSame_7 (gx_hts C _ fX7_areSame_12) dX7_areSame_17 ?_
    refine gx_getRN C 0 _ 0 rfl (gd_13 hL) rfl (by decide) nX7_areSame_0 ((gx_hN C).1 ("PeirceDesk", 48, "PeirceDesk$Algebra", "now", "LPeirceDesk$State;", "PeirceDesk") (by decide +kernel) |> va_Nw.use rfl) dX7_areSame_20 ?_
    refine gx_getRN C 6 _ 2 rfl (gd_now hL).1 rfl (by decide) nX7_areSame_6 ((gx_hN C).1 ("PeirceDesk", 75, "PeirceDesk$State", "elements", "[[I", "PeirceDesk") (by decide +kernel) |> va_Nw.use rfl) dX7_areSame_23 ?_
    refine gx_iload_n C dX7_areSame_26 rfl ?_
    refine gx_aaload C (gd_now hL).2.1 (by decide) (by omega) dX7_areSame_27 (show _ = 48 + 1 * r.toNat by omega) ?_
    refine gx_aload_n C dX7_areSame_28 rfl ?_
    refine gx_getR C 7 _ 0 rfl (gd_12 hL) rfl (by decide) nX7_areSame_7 (gx_hts C _ fX7_areSame_12) dX7_areSame_29 ?_
    refine gx_getRN C 0 _ 0 rfl (gd_13 hL) rfl (by decide) nX7_areSame_0 ((gx_hN C).1 ("PeirceDesk", 48, "PeirceDesk$Algebra", "now", "LPeirceDesk$State;", "PeirceDesk") (by decide +kernel) |> va_Nw.use rfl) dX7_areSame_32 ?_
    refine gx_getRN C 6 _ 2 rfl (gd_now hL).1 rfl (by decide) nX7_areSame_6 ((gx_hN C).1 ("PeirceDesk", 75, "PeirceDesk$State", "elements", "[[I", "PeirceDesk") (by decide +kernel) |> va_Nw.use rfl) dX7_areSame_35 ?_
    refine gx_iload_n C dX7_areSame_38 rfl ?_
    refine gx_aaload C (gd_now hL).2.1 (by decide) (by omega) dX7_areSame_39 (show _ = 48 + 1 * q.toNat by omega) ?_
    refine gx_statI C (c_X7_same (m := s.1 82) hm he1 he2 (by rw [sd_el hR (by omega)]; exact o1) (by rw [sd_el hR (by omega)]; exact o2)) (cwS 2 (gx_hts C) gX7_areSame_X7_same rfl rfl rfl (by decide +kernel) ⟨Nat.le_of_ble_eq_true rfl, Nat.le_of_ble_eq_true rfl⟩) rfl rfl (Nat.le_of_ble_eq_true rfl) ⟨Nat.le_refl _, Nat.le_refl _⟩ dX7_areSame_40 (fun z P3 hz => ?_)
    obtain ⟨rfl, h4, h5⟩ := hz
    rw [sd_el hR (by omega), sd_el hR (by omega)] at h5
    refine gx_if_eq C dX7_areSame_43 rfl (by unfold gx_3; omega) (fun hb43 => ?_) (fun hb43 => ?_)
    · refine gx_iconst C dX7_areSame_50 ?_
      exact gx_iret C dX7_areSame_51 ⟨by unfold sp_same; rw [if_pos hok]; exact ⟨Or.inl rfl, ⟨fun h => absurd h (by decide), fun h => absurd (h5.mpr h) (by omega)⟩⟩, rfl⟩
    · refine gx_iconst C dX7_areSame_46 ?_
      refine gx_goto C dX7_areSame_47 rfl ?_
      exact gx_iret C dX7_areSame_51 ⟨by unfold sp_same; rw [if_pos hok]; exact ⟨Or.inr rfl, ⟨fun _ => h5.mp (by omega), fun _ => rfl⟩⟩, rfl⟩
  · have bad : sp_same s r q (-1) := by unfold sp_same; rw [if_neg hok]
    refine gx_start_i (L := [gx_R 12, gx_I r, gx_I q]) (by decide) rfl rfl (Nat.le_of_ble_eq_true rfl) rfl ?_
    intro _ _ _ _ _ _ _ _ _ _ _ _ C
    refine gx_iload_n C dX7_areSame_0 rfl ?_
    refine gx_statI C (c_X7_isRegister hr) (cwS 1 (gx_hts C) gX7_areSame_X7_isRegister rfl rfl rfl (by decide +kernel) ⟨Nat.le_of_ble_eq_true rfl, Nat.le_of_ble_eq_true rfl⟩) rfl rfl (Nat.le_of_ble_eq_true rfl) ⟨Nat.le_refl _, Nat.le_refl _⟩ dX7_areSame_1 (fun z P hz => ?_)
    obtain ⟨rfl, rfl⟩ := hz
    by_cases h1 : 0 ≤ r ∧ r ≤ 7
    · rw [if_pos h1]
      refine gx_if_eq C dX7_areSame_4 rfl (by unfold gx_3; omega) (fun hb4 => absurd hb4 (by omega)) (fun hb4 => ?_)
      refine gx_iload_n C dX7_areSame_7 rfl ?_
      refine gx_statI C (c_X7_isRegister hq) (cwS 1 (gx_hts C) gX7_areSame_X7_isRegister rfl rfl rfl (by decide +kernel) ⟨Nat.le_of_ble_eq_true rfl, Nat.le_of_ble_eq_true rfl⟩) rfl rfl (Nat.le_of_ble_eq_true rfl) ⟨Nat.le_refl _, Nat.le_refl _⟩ dX7_areSame_8 (fun z P2 hz => ?_)
      obtain ⟨rfl, rfl⟩ := hz
      rw [if_neg (by omega)]
      refine gx_if_ne C dX7_areSame_11 rfl (by unfold gx_3; omega) (fun hb11 => absurd hb11 (by omega)) (fun hb11 => ?_)
      refine gx_iconst C dX7_areSame_14 ?_
      exact gx_iret C dX7_areSame_15 ⟨bad, rfl⟩
    · rw [if_neg h1]
      refine gx_if_eq C dX7_areSame_4 rfl (by unfold gx_3; omega) (fun hb4 => ?_) (fun hb4 => absurd (by omega) hb4)
      refine gx_iconst C dX7_areSame_14 ?_
      exact gx_iret C dX7_areSame_15 ⟨bad, rfl⟩
/-! sums of products: the three columns of a small element, its transpose -/
def mx_z (n : Nat) (a : Nat → Int) : Prop := (∀ i j, i < 3 → j < 3 → n ≤ i → a (3 * i + j) = 0 ∧ a (3 * j + i) = 0) ∧ ∀ k, 9 ≤ k → a k = 0
def mx_s (a : Nat → Int) : Prop := ∀ i j, i < 3 → j < 3 → a (3 * i + j) = a (3 * j + i)
theorem mx_ps_z {n : Nat} (hn : n = 2 ∨ n = 3) {a b : Nat → Int} (ha : mx_z n a) {r c : Nat} (hr : r < 3) : mx_ps a b r c 3 = mx_ps a b r c n := by
  rcases hn with rfl | rfl
  · show mx_ps a b r c 2 + a (3 * r + 2) * b (3 * 2 + c) = _
    rw [(ha.1 2 r (by omega) hr (by omega)).2, Int.zero_mul, Int.add_zero]
  · rfl
theorem mx_ps_0 {n : Nat} {a b : Nat → Int} (ha : mx_z n a) {r c : Nat} (hr : r < 3) (h : n ≤ r) : ∀ k, k ≤ 3 → mx_ps a b r c k = 0
  | 0, _ => rfl
  | k + 1, hk => by
    show mx_ps a b r c k + a (3 * r + k) * b (3 * k + c) = 0
    rw [mx_ps_0 ha hr h k (by omega), (ha.1 r k hr (by omega) h).1, Int.zero_mul, Int.add_zero]
theorem mx_ps_1 {n : Nat} {a b : Nat → Int} (hb : mx_z n b) {r c : Nat} (hc : c < 3) (h : n ≤ c) : ∀ k, k ≤ 3 → mx_ps a b r c k = 0
  | 0, _ => rfl
  | k + 1, hk => by
    show mx_ps a b r c k + a (3 * r + k) * b (3 * k + c) = 0
    rw [mx_ps_1 hb hc h k (by omega), (hb.1 c k hc (by omega) h).2, Int.mul_zero, Int.add_zero]
/-- three rows of products are as good as n -/
theorem mx_mul3 {n : Nat} (hn : n = 2 ∨ n = 3) {m : Int} {a b : Nat → Int} (ha : mx_z n a) (hb : mx_z n b) : mx_mul 3 m a b = mx_mul n m a b := by
  funext k
  unfold mx_mul
  by_cases h9 : k < 9
  · rw [if_pos (by omega)]
    by_cases h : k / 3 < n ∧ k % 3 < n
    · rw [if_pos ⟨h9, h⟩, mx_ps_z hn ha (by omega)]
    · rw [if_neg (fun g => h g.2)]
      rcases (show n ≤ k / 3 ∨ n ≤ k % 3 by omega) with g | g
      · rw [mx_ps_0 ha (by omega) g 3 (by omega)]
        rfl
      · rw [mx_ps_1 hb (by omega) g 3 (by omega)]
        rfl
  · rw [if_neg (by omega), if_neg (by omega)]
theorem mx_mul_z {n : Nat} {m : Int} {a b : Nat → Int} : mx_z n (mx_mul n m a b) := by
  refine ⟨fun i j hi hj h => ⟨?_, ?_⟩, mx_mul_9⟩
  · unfold mx_mul
    exact if_neg (by omega)
  · unfold mx_mul
    exact if_neg (by omega)
