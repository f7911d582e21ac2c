theorem gm_X6 {S : Nat → Prop} {M M' : gx_M} (h : gm_E S M M') : gm_X M M' := gm_XE h
theorem zs_m {Z : Nat → Int} (h : zs_ok Z) : 3 ≤ Z 82 ∧ Z 82 ≤ 11 := by
  have := h.2.1
  omega
def zs_nn (s : sp_S) : Nat := (s.1 81).toNat
abbrev zs_mm (s : sp_S) : Int := s.1 82
def sp_entry (s : sp_S) (r i j : Int) (z : Int) : Prop :=
  if (0 ≤ r ∧ r ≤ 9) ∧ (0 ≤ i ∧ i < s.1 81 ∧ 0 ≤ j ∧ j < s.1 81) then z = zs_el s.1 r.toNat (3 * i.toNat + j.toNat) else z = -1
def sp_same (s : sp_S) (r q : Int) (z : Int) : Prop :=
  if (0 ≤ r ∧ r ≤ 7) ∧ (0 ≤ q ∧ q ≤ 7) then (z = 0 ∨ z = 1) ∧ (z = 1 ↔ zs_el s.1 r.toNat = zs_el s.1 q.toNat) else z = -1
/-- the product of a desk -/
def zs_prod (s : sp_S) (a b : Nat → Int) : Nat → Int := mx_prod (zs_nn s) (s.1 82) (zs_el s.1 8) a b
def zs_oper (s : sp_S) (a b : Nat → Int) : Nat → Int := mx_oper (zs_nn s) (s.1 82) (zs_el s.1 8) a b
def zs_po (s : sp_S) (a b : Nat → Int) : Nat → Nat → Int := mx_po (zs_nn s) (s.1 82) (zs_el s.1 8) a b
def sp_power (s : sp_S) (r k i j : Int) (z : Int) : Prop :=
  if (0 ≤ r ∧ r ≤ 7) ∧ (0 ≤ i ∧ i < s.1 81 ∧ 0 ≤ j ∧ j < s.1 81) then (if 0 ≤ k ∧ k ≤ 2000 then z = zs_po s (zs_el s.1 r.toNat) (zs_el s.1 9) k.toNat (3 * i.toNat + j.toNat) else z = -2) else z = -1
def sp_rule (s : sp_S) (a b c w : Int) (z : Int) : Prop :=
  if (0 ≤ a ∧ a ≤ 7) ∧ (0 ≤ b ∧ b ≤ 7) ∧ (0 ≤ c ∧ c ≤ 7) then (if 0 ≤ w ∧ w ≤ 1 then
    (if w = 1 then z = mx_tr (s.1 82) (zs_oper s (zs_oper s (zs_el s.1 a.toNat) (zs_el s.1 b.toNat)) (zs_el s.1 c.toNat))
     else (z = 0 ∨ z = 1) ∧ (z = 1 ↔ zs_oper s (zs_oper s (zs_el s.1 a.toNat) (zs_el s.1 b.toNat)) (zs_el s.1 c.toNat) = zs_oper s (zs_el s.1 a.toNat) (zs_oper s (zs_el s.1 b.toNat) (zs_oper s (zs_el s.1 a.toNat) (zs_el s.1 c.toNat)))))
    else z = -2) else z = -1
theorem mx_ok_e {m : Int} {f g : Nat → Int} (e : g = f) (h : mx_ok m f) : mx_ok m g := by rw [e]; exact h
set_option maxRecDepth 100000 in
set_option maxHeartbeats 4000000 in
theorem c_X8_entry {La : List gx_K} (hM : gm_H La) {M : gx_M} {s : sp_S} (hs : sp_ok s) (hR : sm_R s M) {r i j : Int} (hr : gx_3 r) (hi : gx_3 i) (hj : gx_3 j) : gx_Ci La yX8_entry wsX8_entry 5 [gx_R 0, gx_I r, gx_I i, gx_I j] M (fun z M' => sp_entry s r i j z ∧ sm_Q s M M') := by
  have hz := sm_Z hs hR
  have hn := sm_n hs
  have bad : ¬((0 ≤ r ∧ r ≤ 9) ∧ (0 ≤ i ∧ i < s.1 81 ∧ 0 ≤ j ∧ j < s.1 81)) → sp_entry s r i j (-1) ∧ sm_Q s M M := fun h => ⟨by unfold sp_entry; rw [if_neg h], sm_XQ hR (gm_Xr M)⟩
  refine gx_start_i (L := [gx_R 0, gx_I r, gx_I i, gx_I j]) (by decide) rfl rfl (Nat.le_of_ble_eq_true rfl) rfl ?_
  intro _ _ _ _ _ _ _ _ _ _ _ _ C
  refine gx_iload_n C dX8_entry_0 rfl ?_
  refine gx_iconst C dX8_entry_1 ?_
  refine gx_bipush C dX8_entry_2 rfl ?_
  refine gx_statI C (c_X8_in hr (by unfold gx_3; omega) (by unfold gx_3; omega)) (cwS 3 (gx_hts C) gX8_entry_X8_in rfl rfl rfl (by decide +kernel) ⟨Nat.le_of_ble_eq_true rfl, Nat.le_of_ble_eq_true rfl⟩) rfl rfl (Nat.le_of_ble_eq_true rfl) ⟨Nat.le_refl _, Nat.le_refl _⟩ dX8_entry_4 (fun z M1 h1 => ?_)
  obtain ⟨rfl, h1⟩ := h1
  by_cases hq : 0 ≤ r ∧ r ≤ 9
  · rw [if_pos hq] at h1
    subst h1
    refine gx_if_eq C dX8_entry_7 rfl (by unfold gx_3; omega) (fun hb7 => absurd hb7 (by omega)) (fun hb7 => ?_)
    refine gx_aload_n C dX8_entry_10 rfl ?_
    refine gx_iload_n C dX8_entry_11 rfl ?_
    refine gx_iload_n C dX8_entry_12 rfl ?_
    refine gx_callI C 8 rfl (gm_0 hM) (c_X8_isCell hM hz hi hj) (cwV 2 (gx_hts C) gX8_entry_X8_isCell rfl rfl rfl (by decide +kernel) ⟨Nat.le_of_ble_eq_true rfl, Nat.le_of_ble_eq_true rfl⟩) rfl rfl (Nat.le_of_ble_eq_true rfl) ⟨Nat.le_refl _, Nat.le_refl _⟩ dX8_entry_13 (fun z M2 h1 => ?_)
    obtain ⟨rfl, h1⟩ := h1
    by_cases hw : 0 ≤ i ∧ i < ((s.1 81).toNat : Int) ∧ 0 ≤ j ∧ j < ((s.1 81).toNat : Int)
    · rw [if_pos hw] at h1
      subst h1
      have hg : (0 ≤ r ∧ r ≤ 9) ∧ (0 ≤ i ∧ i < s.1 81 ∧ 0 ≤ j ∧ j < s.1 81) := by omega
      obtain ⟨r', rfl⟩ : ∃ k : Nat, r = k := ⟨r.toNat, by omega⟩
      obtain ⟨i', rfl⟩ : ∃ k : Nat, i = k := ⟨i.toNat, by omega⟩
      obtain ⟨j', rfl⟩ : ∃ k : Nat, j = k := ⟨j.toNat, by omega⟩
      have hnn := hs.1.1
      refine gx_if_ne C dX8_entry_16 rfl (by unfold gx_3; omega) (fun hb16 => ?_) (fun hb16 => absurd (by omega) hb16)
      refine gx_aload_n C dX8_entry_21 rfl ?_
      refine gx_iload_n C dX8_entry_22 rfl ?_
      refine gx_iconst C dX8_entry_23 ?_
      refine gx_callV C 8 rfl (gm_0 hM) (c_X8_loadS hM hs hR (r := r') (t := 0) rfl (by omega) (by omega) (by omega)) (cwV 2 (gx_hts C) gX8_entry_X8_load rfl rfl rfl (by decide +kernel) ⟨Nat.le_of_ble_eq_true rfl, Nat.le_of_ble_eq_true rfl⟩) rfl rfl (Nat.le_of_ble_eq_true rfl) ⟨Nat.le_refl _, Nat.le_refl _⟩ dX8_entry_24 (fun M3 h2 => ?_)
      obtain ⟨h3, h4, h5, h6⟩ := h2
      have e1 : M3 6 ((0 + 3 * (i' : Int) + (j' : Int)).toNat) = zs_el s.1 r' (3 * i' + j') := by
        rw [← h3, mx_of_at (by omega), show (0 + 3 * (i' : Int) + (j' : Int)).toNat = 0 + (3 * i' + j') by omega]
      refine gx_aload_n C dX8_entry_27 rfl ?_
      refine gx_getR C 8 _ 7 rfl (gm_0 hM) rfl (by decide) nX8_entry_8 (gx_hts C _ fX8_entry_27) dX8_entry_28 ?_
      refine gx_iconst C dX8_entry_31 ?_
      refine gx_iconst C dX8_entry_32 ?_
      refine gx_iload_n C dX8_entry_33 rfl ?_
      refine gx_imul C dX8_entry_34 ?_
      refine gx_iadd C dX8_entry_35 ?_
      refine gx_iload_n C dX8_entry_36 rfl ?_
      refine gx_iadd C dX8_entry_37 ?_
      refine gx_iaload C (gm_6 hM) (by omega) dX8_entry_38 e1 ?_
      exact gx_iret C dX8_entry_39 ⟨by unfold sp_entry; rw [if_pos hg]; rfl, sm_XQ hR (gm_X6 h6)⟩
    · rw [if_neg hw] at h1
      subst h1
      refine gx_if_ne C dX8_entry_16 rfl (by unfold gx_3; omega) (fun hb16 => absurd hb16 (by omega)) (fun hb16 => ?_)
      refine gx_iconst C dX8_entry_19 ?_
      exact gx_iret C dX8_entry_20 (bad (by omega))
  · rw [if_neg hq] at h1
    subst h1
    refine gx_if_eq C dX8_entry_7 rfl (by unfold gx_3; omega) (fun hb7 => ?_) (fun hb7 => absurd (by omega) hb7)
    refine gx_iconst C dX8_entry_19 ?_
    exact gx_iret C dX8_entry_20 (bad (by omega))
set_option maxRecDepth 100000 in
set_option maxHeartbeats 4000000 in
theorem c_X8_areSame {La : List gx_K} (hM : gm_H La) {M : gx_M} {s : sp_S} (hs : sp_ok s) (hR : sm_R s M) {r q : Int} (hr : gx_3 r) (hq : gx_3 q) : gx_Ci La yX8_areSame wsX8_areSame 5 [gx_R 0, gx_I r, gx_I q] M (fun z M' => sp_same s r q z ∧ sm_Q s M M') := by
  have hz := sm_Z hs hR
  have hzm := gm_Zm hz
  have bad : ¬((0 ≤ r ∧ r ≤ 7) ∧ (0 ≤ q ∧ q ≤ 7)) → sp_same s r q (-1) ∧ sm_Q s M M := fun h => ⟨by unfold sp_same; rw [if_neg h], sm_XQ hR (gm_Xr M)⟩
  refine gx_start_i (L := [gx_R 0, gx_I r, gx_I q]) (by decide) rfl rfl (Nat.le_of_ble_eq_true rfl) rfl ?_
  intro _ _ _ _ _ _ _ _ _ _ _ _ C
  refine gx_iload_n C dX8_areSame_0 rfl ?_
  refine gx_statI C (c_X8_isRegister hr) (cwS 1 (gx_hts C) gX8_areSame_X8_isRegister rfl rfl rfl (by decide +kernel) ⟨Nat.le_of_ble_eq_true rfl, Nat.le_of_ble_eq_true rfl⟩) rfl rfl (Nat.le_of_ble_eq_true rfl) ⟨Nat.le_refl _, Nat.le_refl _⟩ dX8_areSame_1 (fun z M1 h1 => ?_)
  obtain ⟨rfl, h1⟩ := h1
  by_cases hr7 : 0 ≤ r ∧ r ≤ 7
  · rw [if_pos hr7] at h1
    subst h1
    refine gx_if_eq C dX8_areSame_4 rfl (by unfold gx_3; omega) (fun hb4 => absurd hb4 (by omega)) (fun hb4 => ?_)
    refine gx_iload_n C dX8_areSame_7 rfl ?_
    refine gx_statI C (c_X8_isRegister hq) (cwS 1 (gx_hts C) gX8_areSame_X8_isRegister rfl rfl rfl (by decide +kernel) ⟨Nat.le_of_ble_eq_true rfl, Nat.le_of_ble_eq_true rfl⟩) rfl rfl (Nat.le_of_ble_eq_true rfl) ⟨Nat.le_refl _, Nat.le_refl _⟩ dX8_areSame_8 (fun z M2 h1 => ?_)
    obtain ⟨rfl, h1⟩ := h1
    by_cases hq7 : 0 ≤ q ∧ q ≤ 7
    · rw [if_pos hq7] at h1
      subst h1
      obtain ⟨r', rfl⟩ : ∃ k : Nat, r = k := ⟨r.toNat, by omega⟩
      obtain ⟨q', rfl⟩ : ∃ k : Nat, q = k := ⟨q.toNat, by omega⟩
      refine gx_if_ne C dX8_areSame_11 rfl (by unfold gx_3; omega) (fun hb11 => ?_) (fun hb11 => absurd (by omega) hb11)
      refine gx_aload_n C dX8_areSame_16 rfl ?_
      refine gx_iload_n C dX8_areSame_17 rfl ?_
      refine gx_iconst C dX8_areSame_18 ?_
      refine gx_callV C 8 rfl (gm_0 hM) (c_X8_loadS hM hs hR (r := r') (t := 0) rfl (by omega) (by omega) (by omega)) (cwV 2 (gx_hts C) gX8_areSame_X8_load rfl rfl rfl (by decide +kernel) ⟨Nat.le_of_ble_eq_true rfl, Nat.le_of_ble_eq_true rfl⟩) rfl rfl (Nat.le_of_ble_eq_true rfl) ⟨Nat.le_refl _, Nat.le_refl _⟩ dX8_areSame_19 (fun M3 h2 => ?_)
      obtain ⟨h3, h4, h5, h6⟩ := h2
      have R3 := sm_X hR (gm_X6 h6)
      refine gx_aload_n C dX8_areSame_22 rfl ?_
      refine gx_iload_n C dX8_areSame_23 rfl ?_
      refine gx_bipush C dX8_areSame_24 rfl ?_
      refine gx_callV C 8 rfl (gm_0 hM) (c_X8_loadS hM hs R3 (r := q') (t := 9) rfl (by omega) (by omega) (by omega)) (cwV 2 (gx_hts C) gX8_areSame_X8_load rfl rfl rfl (by decide +kernel) ⟨Nat.le_of_ble_eq_true rfl, Nat.le_of_ble_eq_true rfl⟩) rfl rfl (Nat.le_of_ble_eq_true rfl) ⟨Nat.le_refl _, Nat.le_refl _⟩ dX8_areSame_26 (fun M4 h2 => ?_)
      obtain ⟨g3, g4, g5, g6⟩ := h2
      have a4 : mx_of (M4 6) 0 = zs_el s.1 r' := by rw [gm_Eo g6 (fun j h1 h2 => by omega), h3]
      refine gx_aload_n C dX8_areSame_29 rfl ?_
      refine gx_iconst C dX8_areSame_30 ?_
      refine gx_bipush C dX8_areSame_31 rfl ?_
      refine gx_callI C 8 rfl (gm_0 hM) (c_X8_areAlike hM (m := s.1 82) (by omega) (a := 0) (b := 9) (by omega) (by omega) (mx_ok_e a4 (zs_el_ok hs.1 (by omega))) (mx_ok_e g3 (zs_el_ok hs.1 (by omega)))) (cwV 2 (gx_hts C) gX8_areSame_X8_areAlike rfl rfl rfl (by decide +kernel) ⟨Nat.le_of_ble_eq_true rfl, Nat.le_of_ble_eq_true rfl⟩) rfl rfl (Nat.le_of_ble_eq_true rfl) ⟨Nat.le_refl _, Nat.le_refl _⟩ dX8_areSame_33 (fun z M5 h7 => ?_)
      obtain ⟨rfl, h8, h9⟩ := h7
      rw [a4, g3] at h9
      have fin : sp_same s r' q' z ∧ sm_Q s M2 M5 := ⟨by unfold sp_same; rw [if_pos ⟨hr7, hq7⟩]; exact ⟨h8, h9⟩, sm_XQ hR (gm_Xt (gm_X6 h6) (gm_X6 g6))⟩
      refine gx_if_eq C dX8_areSame_36 rfl (by unfold gx_3; omega) (fun hb36 => ?_) (fun hb36 => ?_)
      · have z0 : z = 0 := hb36
        subst z0
        refine gx_iconst C dX8_areSame_43 ?_
        exact gx_iret C dX8_areSame_44 fin
      · have z0 : z = 1 := by omega
        subst z0
        refine gx_iconst C dX8_areSame_39 ?_
        refine gx_goto C dX8_areSame_40 rfl ?_
        exact gx_iret C dX8_areSame_44 fin
    · rw [if_neg hq7] at h1
      subst h1
      refine gx_if_ne C dX8_areSame_11 rfl (by unfold gx_3; omega) (fun hb11 => absurd hb11 (by omega)) (fun hb11 => ?_)
      refine gx_iconst C dX8_areSame_14 ?_
      exact gx_iret C dX8_areSame_15 (bad (by omega))
  · rw [if_neg hr7] at h1
    subst h1
    refine gx_if_eq C dX8_areSame_4 rfl (by unfold gx_3; omega) (fun hb4 => ?_) (fun hb4 => absurd (by omega) hb4)
    refine gx_iconst C dX8_areSame_14 ?_
    exact gx_iret C dX8_areSame_15 (bad (by omega))
set_option maxRecDepth 100000 in
set_option maxHeartbeats 4000000 in
theorem c_X8_power {La : List gx_K} (hM : gm_H La) {M : gx_M} {s : sp_S} (hs : sp_ok s) (hR : sm_R s M) {r k i j : Int} (hr : gx_3 r) (hk : gx_3 k) (hi : gx_3 i) (hj : gx_3 j) : gx_Ci La yX8_power wsX8_power 5 [gx_R 0, gx_I r, gx_I k, gx_I i, gx_I j] M (fun z M' => sp_power s r k i j z ∧ sm_Q s M M') := by
  have hz := sm_Z hs hR
  have hzm := gm_Zm hz
  have hn := sm_n hs
  have bad : ¬((0 ≤ r ∧ r ≤ 7) ∧ (0 ≤ i ∧ i < s.1 81 ∧ 0 ≤ j ∧ j < s.1 81)) → sp_power s r k i j (-1) ∧ sm_Q s M M := fun h => ⟨by unfold sp_power; rw [if_neg h], sm_XQ hR (gm_Xr M)⟩
  refine gx_start_i (L := [gx_R 0, gx_I r, gx_I k, gx_I i, gx_I j, gx_U]) (by decide) rfl rfl (Nat.le_of_ble_eq_true rfl) rfl ?_
  intro _ _ _ _ _ _ _ _ _ _ _ _ C
  refine gx_iload_n C dX8_power_0 rfl ?_
  refine gx_statI C (c_X8_isRegister hr) (cwS 1 (gx_hts C) gX8_power_X8_isRegister rfl rfl rfl (by decide +kernel) ⟨Nat.le_of_ble_eq_true rfl, Nat.le_of_ble_eq_true rfl⟩) rfl rfl (Nat.le_of_ble_eq_true rfl) ⟨Nat.le_refl _, Nat.le_refl _⟩ dX8_power_1 (fun z M1 h1 => ?_)
  obtain ⟨rfl, h1⟩ := h1
  by_cases hq : 0 ≤ r ∧ r ≤ 7
  · rw [if_pos hq] at h1
    subst h1
    refine gx_if_eq C dX8_power_4 rfl (by unfold gx_3; omega) (fun hb4 => absurd hb4 (by omega)) (fun hb4 => ?_)
    refine gx_aload_n C dX8_power_7 rfl ?_
    refine gx_iload_n C dX8_power_8 rfl ?_
    refine gx_iload C dX8_power_9 rfl ?_
    refine gx_callI C 8 rfl (gm_0 hM) (c_X8_isCell hM hz hi hj) (cwV 2 (gx_hts C) gX8_power_X8_isCell rfl rfl rfl (by decide +kernel) ⟨Nat.le_of_ble_eq_true rfl, Nat.le_of_ble_eq_true rfl⟩) rfl rfl (Nat.le_of_ble_eq_true rfl) ⟨Nat.le_refl _, Nat.le_refl _⟩ dX8_power_11 (fun z M2 h1 => ?_)
    obtain ⟨rfl, h1⟩ := h1
    by_cases hw : 0 ≤ i ∧ i < ((s.1 81).toNat : Int) ∧ 0 ≤ j ∧ j < ((s.1 81).toNat : Int)
    · rw [if_pos hw] at h1
      subst h1
      have hg : (0 ≤ r ∧ r ≤ 7) ∧ (0 ≤ i ∧ i < s.1 81 ∧ 0 ≤ j ∧ j < s.1 81) := by omega
      refine gx_if_ne C dX8_power_14 rfl (by unfold gx_3; omega) (fun hb14 => ?_) (fun hb14 => absurd (by omega) hb14)
      refine gx_iload_n C dX8_power_19 rfl ?_
      refine gx_iconst C dX8_power_20 ?_
      refine gx_sipush C dX8_power_21 rfl ?_
      refine gx_statI C (c_X8_in hk (by unfold gx_3; omega) (by unfold gx_3; omega)) (cwS 3 (gx_hts C) gX8_power_X8_in rfl rfl rfl (by decide +kernel) ⟨Nat.le_of_ble_eq_true rfl, Nat.le_of_ble_eq_true rfl⟩) rfl rfl (Nat.le_of_ble_eq_true rfl) ⟨Nat.le_refl _, Nat.le_refl _⟩ dX8_power_24 (fun z M3 h1 => ?_)
      obtain ⟨rfl, h1⟩ := h1
      by_cases hu : 0 ≤ k ∧ k ≤ 2000
      · rw [if_pos hu] at h1
        subst h1
        obtain ⟨r', rfl⟩ : ∃ q : Nat, r = q := ⟨r.toNat, by omega⟩
        obtain ⟨k', rfl⟩ : ∃ q : Nat, k = q := ⟨k.toNat, by omega⟩
        obtain ⟨i', rfl⟩ : ∃ q : Nat, i = q := ⟨i.toNat, by omega⟩
        obtain ⟨j', rfl⟩ : ∃ q : Nat, j = q := ⟨j.toNat, by omega⟩
        have hnn := hs.1.1
        refine gx_if_ne C dX8_power_27 rfl (by unfold gx_3; omega) (fun hb27 => ?_) (fun hb27 => absurd (by omega) hb27)
        refine gx_aload_n C dX8_power_33 rfl ?_
        refine gx_iload_n C dX8_power_34 rfl ?_
        refine gx_iconst C dX8_power_35 ?_
        refine gx_callV C 8 rfl (gm_0 hM) (c_X8_loadS hM hs hR (r := r') (t := 0) rfl (by omega) (by omega) (by omega)) (cwV 2 (gx_hts C) gX8_power_X8_load rfl rfl rfl (by decide +kernel) ⟨Nat.le_of_ble_eq_true rfl, Nat.le_of_ble_eq_true rfl⟩) rfl rfl (Nat.le_of_ble_eq_true rfl) ⟨Nat.le_refl _, Nat.le_refl _⟩ dX8_power_36 (fun M4 h2 => ?_)
        obtain ⟨h3, h4, h5, h6⟩ := h2
        have R4 := sm_X hR (gm_X6 h6)
        refine gx_aload_n C dX8_power_39 rfl ?_
        refine gx_bipush C dX8_power_40 rfl ?_
        refine gx_bipush C dX8_power_42 rfl ?_
        refine gx_callV C 8 rfl (gm_0 hM) (c_X8_copy hM (a := 36) (t := 108) (by omega) (by omega) (by omega)) (cwV 2 (gx_hts C) gX8_power_X8_copy rfl rfl rfl (by decide +kernel) ⟨Nat.le_of_ble_eq_true rfl, Nat.le_of_ble_eq_true rfl⟩) rfl rfl (Nat.le_of_ble_eq_true rfl) ⟨Nat.le_refl _, Nat.le_refl _⟩ dX8_power_44 (fun M5 h7 => ?_)
        rw [h5] at h7
        have ov := zs_el_ok hs.1 (r := 9) (by omega)
        have oa := zs_el_ok hs.1 (r := r') (by omega)
        have ou := zs_el_ok hs.1 (r := 8) (by omega)
        have p5 : mx_of (M5 6) 108 = zs_el s.1 9 := by rw [h7]; rw [← h5]; exact mx_of_of
        have E5 : gm_E gm_S2 M4 M5 := by rw [h7]; exact gm_Eb (fun j h1 h2 => Or.inr (by omega))
        refine gx_iconst C dX8_power_47 ?_
        refine gx_istore C dX8_power_48 (by decide) rfl ?_
        refine gx_for k' (fun q (_ : gx_M) => [gx_R 0, gx_I (r' : Int), gx_I (k' : Int), gx_I (i' : Int), gx_I (j' : Int), gx_I (q : Int)]) (fun M' => M') (fun q M' => mx_of (M' 6) 108 = zs_po s (zs_el s.1 r') (zs_el s.1 9) q ∧ gm_E gm_S2 M4 M') 0 M5 (by omega) ⟨p5, E5⟩ (fun q M' hq2 hI ih => ?_) (fun M' hI => ?_)
        · obtain ⟨g1, g2⟩ := hI
          have a2 : mx_of (M' 6) 0 = zs_el s.1 r' := by rw [gm_Eo g2 (fun j h1 h2 => by unfold gm_S2; omega), h3]
          have u2 : mx_of (M' 6) 27 = zs_el s.1 8 := by rw [gm_Eo g2 (fun j h1 h2 => by unfold gm_S2; omega), h4]
          have op : mx_ok (s.1 82) (zs_po s (zs_el s.1 r') (zs_el s.1 9) q) := mx_po_ok hzm.1 ov q
          refine gx_iload C dX8_power_50 rfl ?_
          refine gx_iload_n C dX8_power_52 rfl ?_
          refine gx_icmp_ge C dX8_power_53 rfl (by unfold gx_3; omega) (by unfold gx_3; omega) (fun hb53 => absurd hb53 (by omega)) (fun hb53 => ?_)
          refine gx_aload_n C dX8_power_56 rfl ?_
          refine gx_bipush C dX8_power_57 rfl ?_
          refine gx_iconst C dX8_power_59 ?_
          refine gx_bipush C dX8_power_60 rfl ?_
          refine gx_callV C 8 rfl (gm_0 hM) (c_X8_product hM (sm_Z hs (sm_X R4 (gm_X6 g2))) (a := 108) (b := 0) (t := 108) (by omega) (by omega) (by omega) (by omega) (by omega) (by omega) (mx_ok_e g1 op) (mx_ok_e a2 oa) (mx_ok_e u2 ou)) (cwV 3 (gx_hts C) gX8_power_X8_product rfl rfl rfl (by decide +kernel) ⟨Nat.le_of_ble_eq_true rfl, Nat.le_of_ble_eq_true rfl⟩) rfl rfl (Nat.le_of_ble_eq_true rfl) ⟨Nat.le_refl _, Nat.le_refl _⟩ dX8_power_62 (fun M6 h8 => ?_)
          rw [u2, g1, a2] at h8
          refine gx_iinc C dX8_power_65 (by decide) rfl rfl ?_
          refine gx_goto C dX8_power_68 rfl ?_
          exact ih _ ⟨h8.1, gm_Et g2 (gm_Ew h8.2 (fun j h => by unfold gm_S at h; unfold gm_S2; omega))⟩
        · obtain ⟨g1, g2⟩ := hI
          have e1 : M' 6 ((108 + 3 * (i' : Int) + (j' : Int)).toNat) = zs_po s (zs_el s.1 r') (zs_el s.1 9) k' (3 * i' + j') := by
            rw [← g1, mx_of_at (by omega), show (108 + 3 * (i' : Int) + (j' : Int)).toNat = 108 + (3 * i' + j') by omega]
          refine gx_iload C dX8_power_50 rfl ?_
          refine gx_iload_n C dX8_power_52 rfl ?_
          refine gx_icmp_ge C dX8_power_53 rfl (by unfold gx_3; omega) (by unfold gx_3; omega) (fun hb53 => ?_) (fun hb53 => absurd (by omega) hb53)
          refine gx_aload_n C dX8_power_71 rfl ?_
          refine gx_getR C 8 _ 7 rfl (gm_0 hM) rfl (by decide) nX8_power_8 (gx_hts C _ fX8_power_27) dX8_power_72 ?_
          refine gx_bipush C dX8_power_75 rfl ?_
          refine gx_iconst C dX8_power_77 ?_
          refine gx_iload_n C dX8_power_78 rfl ?_
          refine gx_imul C dX8_power_79 ?_
          refine gx_iadd C dX8_power_80 ?_
          refine gx_iload C dX8_power_81 rfl ?_
          refine gx_iadd C dX8_power_83 ?_
          refine gx_iaload C (gm_6 hM) (by omega) dX8_power_84 e1 ?_
          exact gx_iret C dX8_power_85 ⟨by unfold sp_power; rw [if_pos hg, if_pos hu]; rfl, sm_XQ hR (gm_Xt (gm_X6 h6) (gm_X6 g2))⟩
      · rw [if_neg hu] at h1
        subst h1
        refine gx_if_ne C dX8_power_27 rfl (by unfold gx_3; omega) (fun hb27 => absurd hb27 (by omega)) (fun hb27 => ?_)
        refine gx_bipush C dX8_power_30 rfl ?_
        exact gx_iret C dX8_power_32 ⟨by unfold sp_power; rw [if_pos hg, if_neg hu], sm_XQ hR (gm_Xr M3)⟩
    · rw [if_neg hw] at h1
      subst h1
      refine gx_if_ne C dX8_power_14 rfl (by unfold gx_3; omega) (fun hb14 => absurd hb14 (by omega)) (fun hb14 => ?_)
      refine gx_iconst C dX8_power_17 ?_
      exact gx_iret C dX8_power_18 (bad (by omega))
  · rw [if_neg hq] at h1
    subst h1
    refine gx_if_eq C dX8_power_4 rfl (by unfold gx_3; omega) (fun hb4 => ?_) (fun hb4 => absurd (by omega) hb4)
    refine gx_iconst C dX8_power_17 ?_
    exact gx_iret C dX8_power_18 (bad (by omega))
