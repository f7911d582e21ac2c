/-- of a kind -/
def zs_kind (s : sp_S) (w : Int) (a : Nat → Int) : Prop :=
  if w = 0 then zs_sq s a else if w = 1 then mx_det (zs_nn s) (s.1 82) a ≠ 0 else if w = 2 then ∃ k, k < 10 ∧ zs_po s a a k = fun _ => 0 else zs_prod s a a = zs_el s.1 9
/-- so many below N with P -/
def mx_cnt (P : Nat → Prop) : Nat → Int → Prop
  | 0, z => z = 0
  | k + 1, z => ∃ y, mx_cnt P k y ∧ ((P k ∧ z = y + 1) ∨ (¬ P k ∧ z = y))
theorem mx_cnt_b {P : Nat → Prop} : ∀ k z, mx_cnt P k z → 0 ≤ z ∧ z ≤ k
  | 0, z, h => by
    have : z = 0 := h
    omega
  | k + 1, z, h => by
    obtain ⟨y, h1, h2⟩ := h
    have := mx_cnt_b k y h1
    rcases h2 with ⟨-, h2⟩ | ⟨-, h2⟩ <;> omega
theorem mx_cnt_u {P : Nat → Prop} : ∀ k z w, mx_cnt P k z → mx_cnt P k w → z = w
  | 0, z, w, h, g => by
    have h1 : z = 0 := h
    have g1 : w = 0 := g
    rw [h1, g1]
  | k + 1, z, w, h, g => by
    obtain ⟨y, h1, h2⟩ := h
    obtain ⟨x, g1, g2⟩ := g
    have e := mx_cnt_u k y x h1 g1
    subst e
    rcases h2 with ⟨a, h2⟩ | ⟨a, h2⟩ <;> rcases g2 with ⟨b, g2⟩ | ⟨b, g2⟩
    · rw [h2, g2]
    · exact absurd a b
    · exact absurd b a
    · rw [h2, g2]
/-- the element of a number -/
def mx_vec (q k : Nat) : Nat → Int := fun i => if i = 0 then ((k % q : Nat) : Int) else if i = 1 ∨ i = 3 then ((k / q % q : Nat) : Int) else if i = 4 then ((k / q / q : Nat) : Int) else 0
def sp_many (s : sp_S) (w : Int) (z : Int) : Prop :=
  if 0 ≤ w ∧ w ≤ 3 then (if s.1 81 = 3 then z = -5 else mx_cnt (fun k => zs_kind s w (mx_vec (s.1 82).toNat k)) ((s.1 82).toNat * (s.1 82).toNat * (s.1 82).toNat) z) else z = -2
def gm_S3 : Nat → Prop := fun j => (45 ≤ j ∧ j < 90) ∨ (108 ≤ j ∧ j < 117)
set_option maxRecDepth 100000 in
set_option maxHeartbeats 4000000 in
theorem c_X8_isOfKind {La : List gx_K} (hM : gm_H La) {M : gx_M} {s : sp_S} (hs : sp_ok s) (hz : gm_Z M (s.1 81).toNat (s.1 82)) {a : Nat → Int} (ha : mx_of (M 6) 0 = a) (oa : mx_ok (s.1 82) a) (hu : mx_of (M 6) 27 = zs_el s.1 8) (hv : mx_of (M 6) 36 = zs_el s.1 9) {w : Int} (hw : 0 ≤ w ∧ w ≤ 3) : gx_Ci La yX8_isOfKind wsX8_isOfKind 4 [gx_R 0, gx_I 0, gx_I w] M (fun z M' => (z = 0 ∨ z = 1) ∧ (z = 1 ↔ zs_kind s w a) ∧ gm_E gm_S3 M M') := by
  have hzm := gm_Zm hz
  have ou := zs_el_ok hs.1 (r := 8) (by omega)
  have ov := zs_el_ok hs.1 (r := 9) (by omega)
  refine gx_start_i (L := [gx_R 0, gx_I 0, gx_I w]) (by decide) rfl rfl (Nat.le_of_ble_eq_true rfl) rfl ?_
  intro _ _ _ _ _ _ _ _ _ _ _ _ C
  refine gx_iload_n C dX8_isOfKind_0 rfl ?_
  rcases (show w = 0 ∨ w = 1 ∨ w = 2 ∨ w = 3 by omega) with rfl | rfl | rfl | rfl
  · refine gx_tabIn (tgt := 28) C dX8_isOfKind_1 (by unfold gx_3; omega) (by decide) (by decide) rfl rfl ?_
    refine gx_aload_n C dX8_isOfKind_28 rfl ?_
    refine gx_iload_n C dX8_isOfKind_29 rfl ?_
    refine gx_callI C 8 rfl (gm_0 hM) (c_X8_isOwnSquare hM hz (a := 0) (by omega) (by omega) (mx_ok_e ha oa) (mx_ok_e hu ou)) (cwV 1 (gx_hts C) gX8_isOfKind_X8_isOwnSquare rfl rfl rfl (by decide +kernel) ⟨Nat.le_of_ble_eq_true rfl, Nat.le_of_ble_eq_true rfl⟩) rfl rfl (Nat.le_of_ble_eq_true rfl) ⟨Nat.le_refl _, Nat.le_refl _⟩ dX8_isOfKind_30 (fun z M1 h1 => ?_)
    obtain ⟨h1, h2, h3⟩ := h1
    rw [hu, ha] at h2
    exact gx_zret C h1 dX8_isOfKind_33 ⟨h1, h2, gm_Ew h3 (fun j h => by unfold gm_S at h; unfold gm_S3; omega)⟩
  · refine gx_tabIn (tgt := 34) C dX8_isOfKind_1 (by unfold gx_3; omega) (by decide) (by decide) rfl rfl ?_
    refine gx_aload_n C dX8_isOfKind_34 rfl ?_
    refine gx_iload_n C dX8_isOfKind_35 rfl ?_
    refine gx_callI C 8 rfl (gm_0 hM) (c_X8_determinant hM hz (a := 0) (by omega) (mx_ok_e ha oa)) (cwV 1 (gx_hts C) gX8_isOfKind_X8_determinant rfl rfl rfl (by decide +kernel) ⟨Nat.le_of_ble_eq_true rfl, Nat.le_of_ble_eq_true rfl⟩) rfl rfl (Nat.le_of_ble_eq_true rfl) ⟨Nat.le_refl _, Nat.le_refl _⟩ dX8_isOfKind_36 (fun z M1 h1 => ?_)
    obtain ⟨rfl, h1⟩ := h1
    rw [ha] at h1
    have hdb := mx_det_b (n := (s.1 81).toNat) (m := s.1 82) hzm.1 a
    subst h1
    refine gx_if_eq C dX8_isOfKind_39 rfl (by unfold gx_3; omega) (fun hb39 => ?_) (fun hb39 => ?_)
    · refine gx_iconst C dX8_isOfKind_46 ?_
      exact gx_zret C (by omega) dX8_isOfKind_47 ⟨Or.inl rfl, ⟨fun h => absurd h (by decide), fun h => absurd hb39 h⟩, gm_Er _ _⟩
    · refine gx_iconst C dX8_isOfKind_42 ?_
      refine gx_goto C dX8_isOfKind_43 rfl ?_
      exact gx_zret C (by omega) dX8_isOfKind_47 ⟨Or.inr rfl, ⟨fun _ => hb39, fun _ => rfl⟩, gm_Er _ _⟩
  · refine gx_tabIn (tgt := 48) C dX8_isOfKind_1 (by unfold gx_3; omega) (by decide) (by decide) rfl rfl ?_
    refine gx_aload_n C dX8_isOfKind_48 rfl ?_
    refine gx_iload_n C dX8_isOfKind_49 rfl ?_
    refine gx_callI C 8 rfl (gm_0 hM) (c_X8_endOf hM hz (a := 0) (by omega) (by omega) (mx_ok_e ha oa) (mx_ok_e hu ou)) (cwV 1 (gx_hts C) gX8_isOfKind_X8_endOf rfl rfl rfl (by decide +kernel) ⟨Nat.le_of_ble_eq_true rfl, Nat.le_of_ble_eq_true rfl⟩) rfl rfl (Nat.le_of_ble_eq_true rfl) ⟨Nat.le_refl _, Nat.le_refl _⟩ dX8_isOfKind_50 (fun z M1 h1 => ?_)
    obtain ⟨h1, h3⟩ := h1
    rw [hu, ha] at h1
    have hE : gm_E gm_S3 M M1 := gm_Ew h3 (fun j h => by unfold gm_S2 at h; unfold gm_S3; omega)
    rcases h1 with ⟨k, k1, k2, k3, k4⟩ | ⟨k1, k2⟩
    · refine gx_bipush C dX8_isOfKind_53 rfl ?_
      refine gx_icmp_eq C dX8_isOfKind_55 rfl (by unfold gx_3; omega) (by unfold gx_3; omega) (fun hb55 => absurd hb55 (by omega)) (fun hb55 => ?_)
      refine gx_iconst C dX8_isOfKind_58 ?_
      refine gx_goto C dX8_isOfKind_59 rfl ?_
      exact gx_zret C (by omega) dX8_isOfKind_63 ⟨Or.inr rfl, ⟨fun _ => ⟨k, k1, k2⟩, fun _ => rfl⟩, hE⟩
    · subst k2
      refine gx_bipush C dX8_isOfKind_53 rfl ?_
      refine gx_icmp_eq C dX8_isOfKind_55 rfl (by unfold gx_3; omega) (by unfold gx_3; omega) (fun hb55 => ?_) (fun hb55 => absurd (by omega) hb55)
      refine gx_iconst C dX8_isOfKind_62 ?_
      exact gx_zret C (by omega) dX8_isOfKind_63 ⟨Or.inl rfl, ⟨fun h => absurd h (by decide), fun ⟨k, q1, q2⟩ => absurd q2 (k1 k q1)⟩, hE⟩
  · refine gx_tabOut (tgt := 64) C dX8_isOfKind_1 (by unfold gx_3; omega) (by decide) rfl ?_
    refine gx_aload_n C dX8_isOfKind_64 rfl ?_
    refine gx_iload_n C dX8_isOfKind_65 rfl ?_
    refine gx_iload_n C dX8_isOfKind_66 rfl ?_
    refine gx_bipush C dX8_isOfKind_67 rfl ?_
    refine gx_callV C 8 rfl (gm_0 hM) (c_X8_product hM hz (a := 0) (b := 0) (t := 81) (by omega) (by omega) (by omega) (by omega) (by omega) (by omega) (mx_ok_e ha oa) (mx_ok_e ha oa) (mx_ok_e hu ou)) (cwV 3 (gx_hts C) gX8_isOfKind_X8_product rfl rfl rfl (by decide +kernel) ⟨Nat.le_of_ble_eq_true rfl, Nat.le_of_ble_eq_true rfl⟩) rfl rfl (Nat.le_of_ble_eq_true rfl) ⟨Nat.le_refl _, Nat.le_refl _⟩ dX8_isOfKind_69 (fun M1 h1 => ?_)
    obtain ⟨h1, h2⟩ := h1
    rw [hu, ha] at h1
    have v1 : mx_of (M1 6) 36 = zs_el s.1 9 := by rw [gm_Eo h2 (fun j h1 h2 => by unfold gm_S; omega), hv]
    refine gx_aload_n C dX8_isOfKind_72 rfl ?_
    refine gx_bipush C dX8_isOfKind_73 rfl ?_
    refine gx_bipush C dX8_isOfKind_75 rfl ?_
    refine gx_callI C 8 rfl (gm_0 hM) (c_X8_areAlike hM (m := s.1 82) (by omega) (a := 81) (b := 36) (by omega) (by omega) (mx_ok_e h1 (mx_lin_ok hzm.1 _ _ _ _)) (mx_ok_e v1 ov)) (cwV 2 (gx_hts C) gX8_isOfKind_X8_areAlike rfl rfl rfl (by decide +kernel) ⟨Nat.le_of_ble_eq_true rfl, Nat.le_of_ble_eq_true rfl⟩) rfl rfl (Nat.le_of_ble_eq_true rfl) ⟨Nat.le_refl _, Nat.le_refl _⟩ dX8_isOfKind_77 (fun z M2 h3 => ?_)
    obtain ⟨rfl, h5, h6⟩ := h3
    rw [h1, v1] at h6
    exact gx_zret C h5 dX8_isOfKind_80 ⟨h5, h6, gm_Ew h2 (fun j h => by unfold gm_S at h; unfold gm_S3; omega)⟩
theorem mx_mn (k q : Nat) : ((k : Int)).tmod (q : Int) = ((k % q : Nat) : Int) := by
  rw [gx_tmod (by omega)]
  rfl
theorem mx_dn (k q : Nat) : ((k : Int)).tdiv (q : Int) = ((k / q : Nat) : Int) := by
  rw [gx_tdiv (by omega)]
  rfl
set_option maxRecDepth 100000 in
set_option maxHeartbeats 4000000 in
theorem c_X8_howMany {La : List gx_K} (hM : gm_H La) {M : gx_M} {s : sp_S} (hs : sp_ok s) (hR : sm_R s M) {w : Int} (hw : gx_3 w) : gx_Ci La yX8_howMany wsX8_howMany 5 [gx_R 0, gx_I w] M (fun z M' => sp_many s w z ∧ sm_Q s M M') := by
  have hz := sm_Z hs hR
  have hzm := gm_Zm hz
  have hn := sm_n hs
  refine gx_start_i (L := [gx_R 0, gx_I w, gx_U, gx_U, gx_U]) (by decide) rfl rfl (Nat.le_of_ble_eq_true rfl) rfl ?_
  intro _ _ _ _ _ _ _ _ _ _ _ _ C
  refine gx_iload_n C dX8_howMany_0 rfl ?_
  refine gx_iconst C dX8_howMany_1 ?_
  refine gx_iconst C dX8_howMany_2 ?_
  refine gx_statI C (c_X8_in hw (by unfold gx_3; omega) (by unfold gx_3; omega)) (cwS 3 (gx_hts C) gX8_howMany_X8_in rfl rfl rfl (by decide +kernel) ⟨Nat.le_of_ble_eq_true rfl, Nat.le_of_ble_eq_true rfl⟩) rfl rfl (Nat.le_of_ble_eq_true rfl) ⟨Nat.le_refl _, Nat.le_refl _⟩ dX8_howMany_3 (fun z M1 h1 => ?_)
  obtain ⟨rfl, h1⟩ := h1
  by_cases hq : 0 ≤ w ∧ w ≤ 3
  · rw [if_pos hq] at h1
    subst h1
    refine gx_if_ne C dX8_howMany_6 rfl (by unfold gx_3; omega) (fun hb6 => ?_) (fun hb6 => absurd (by omega) hb6)
    refine gx_aload_n C dX8_howMany_12 rfl ?_
    refine gx_getR C 8 _ 0 rfl (gm_0 hM) rfl (by decide) nX8_howMany_8 (gx_hts C _ fX8_howMany_7) dX8_howMany_13 ?_
    refine gx_bipush C dX8_howMany_16 rfl ?_
    refine gx_iaload C (gm_1 hM) (by omega) dX8_howMany_18 hz.1 ?_
    refine gx_iconst C dX8_howMany_19 ?_
    refine gx_icmp_ne C dX8_howMany_20 rfl (by unfold gx_3; omega) (by unfold gx_3; omega) (fun hb20 => ?_) (fun hb20 => ?_)
    · obtain ⟨q, hqm⟩ : ∃ q : Nat, s.1 82 = q := ⟨(s.1 82).toNat, by omega⟩
      have hq4 : q = 3 ∨ q = 5 ∨ q = 7 ∨ q = 11 := by have := hs.1.2.1; omega
      have hN : q * q * q ≤ 1331 := by rcases hq4 with rfl | rfl | rfl | rfl <;> decide
      have hN3 : (q : Int) * (q : Int) * (q : Int) = ((q * q * q : Nat) : Int) := by rw [Int.natCast_mul, Int.natCast_mul]
      have hQ2 : (q : Int) * (q : Int) ≤ 121 ∧ 0 ≤ (q : Int) * (q : Int) := by rcases hq4 with rfl | rfl | rfl | rfl <;> decide
      have ou := zs_el_ok hs.1 (r := 8) (by omega)
      have ov := zs_el_ok hs.1 (r := 9) (by omega)
      refine gx_aload_n C dX8_howMany_26 rfl ?_
      refine gx_callV C 8 rfl (gm_0 hM) (c_X8_layBase hM hz (sm_ou hs hR)) (cwV 0 (gx_hts C) gX8_howMany_X8_layBase rfl rfl rfl (by decide +kernel) ⟨Nat.le_of_ble_eq_true rfl, Nat.le_of_ble_eq_true rfl⟩) rfl rfl (Nat.le_of_ble_eq_true rfl) ⟨Nat.le_refl _, Nat.le_refl _⟩ dX8_howMany_27 (fun M2 h2 => ?_)
      have u2 : mx_of (M2 6) 27 = zs_el s.1 8 := by rw [h2, mx_of_blo (by omega), mx_of_of, sm_el72 hR]; rfl
      have v2 : mx_of (M2 6) 36 = zs_el s.1 9 := by rw [h2, mx_of_inv, sm_el72 hR]; rfl
      have X2 : gm_X M1 M2 := by rw [h2]; exact gm_Xt gm_Xb gm_Xb
      have z2 := sm_Z hs (sm_X hR X2)
      refine gx_aload_n C dX8_howMany_30 rfl ?_
      refine gx_getR C 8 _ 0 rfl (gm_0 hM) rfl (by decide) nX8_howMany_8 (gx_hts C _ fX8_howMany_7) dX8_howMany_31 ?_
      refine gx_bipush C dX8_howMany_34 rfl ?_
      refine gx_iaload C (gm_1 hM) (by omega) dX8_howMany_36 (z2.2.1.trans hqm) ?_
      refine gx_istore_n C dX8_howMany_37 (by decide) rfl ?_
      refine gx_iconst C dX8_howMany_38 ?_
      refine gx_istore_n C dX8_howMany_39 (by decide) rfl ?_
      refine gx_iconst C dX8_howMany_40 ?_
      refine gx_istore C dX8_howMany_41 (by decide) rfl ?_
      refine gx_for (q * q * q) (fun k (p : gx_M × Int) => [gx_R 0, gx_I w, gx_I (q : Int), gx_I p.2, gx_I (k : Int)]) (fun p => p.1) (fun k p => mx_cnt (fun k => zs_kind s w (mx_vec q k)) k p.2 ∧ gm_X M1 p.1 ∧ mx_of (p.1 6) 27 = zs_el s.1 8 ∧ mx_of (p.1 6) 36 = zs_el s.1 9) 0 (M2, 0) (by omega) ⟨rfl, X2, u2, v2⟩ (fun k p hk hI ih => ?_) (fun p hI => ?_)
      · obtain ⟨M', y⟩ := p
        obtain ⟨i1, i2, i3, i4⟩ := hI
        simp only at i1 i2 i3 i4
        have hyb := mx_cnt_b k y i1
        have d1 : k % q < q := Nat.mod_lt _ (by omega)
        have d2 : k / q % q < q := Nat.mod_lt _ (by omega)
        have d3 : k / q / q < q := Nat.div_lt_of_lt_mul (Nat.div_lt_of_lt_mul (by rw [← Nat.mul_assoc]; exact hk))
        have d4 : k / q ≤ k := Nat.div_le_self _ _
        have d5 : (0 : Int) ≤ (k : Int) / (q : Int) := Int.natCast_nonneg (k / q)
        have d6 : (0 : Int) ≤ ((k / q : Nat) : Int) / (q : Int) := Int.natCast_nonneg (k / q / q)
        have d7 : (0 : Int) ≤ ((k / q : Nat) : Int) % (q : Int) := Int.natCast_nonneg (k / q % q)
        refine gx_iload C dX8_howMany_43 rfl ?_
        refine gx_iload_n C dX8_howMany_45 rfl ?_
        refine gx_iload_n C dX8_howMany_46 rfl ?_
        refine gx_imul C dX8_howMany_47 ?_
        refine gx_iload_n C dX8_howMany_48 rfl ?_
        refine gx_imul C dX8_howMany_49 ?_
        rw [hN3]
        refine gx_icmp_ge C dX8_howMany_50 rfl (by unfold gx_3; omega) (by unfold gx_3; omega) (fun hb50 => absurd hb50 (by omega)) (fun hb50 => ?_)
        refine gx_aload_n C dX8_howMany_53 rfl ?_
        refine gx_iconst C dX8_howMany_54 ?_
        refine gx_callV C 8 rfl (gm_0 hM) (c_X8_blank hM (t := 0) (by omega)) (cwV 1 (gx_hts C) gX8_howMany_X8_blank rfl rfl rfl (by decide +kernel) ⟨Nat.le_of_ble_eq_true rfl, Nat.le_of_ble_eq_true rfl⟩) rfl rfl (Nat.le_of_ble_eq_true rfl) ⟨Nat.le_refl _, Nat.le_refl _⟩ dX8_howMany_55 (fun P1 h3 => ?_)
        refine gx_aload_n C dX8_howMany_58 rfl ?_
        refine gx_getR C 8 _ 7 rfl (gm_0 hM) rfl (by decide) nX8_howMany_8 (gx_hts C _ fX8_howMany_27) dX8_howMany_59 ?_
        refine gx_iconst C dX8_howMany_62 ?_
        refine gx_iload C dX8_howMany_63 rfl ?_
        refine gx_iload_n C dX8_howMany_65 rfl ?_
        refine gx_irem C dX8_howMany_66 (by unfold gx_3; omega) (by unfold gx_3; omega) (by omega) (mx_mn k q) ?_
        refine gx_iastore C (gm_6 hM) (by omega) dX8_howMany_67 (show _ = 0 + 0 by rfl) ?_
        refine gx_aload_n C dX8_howMany_68 rfl ?_
        refine gx_getR C 8 _ 7 rfl (gm_0 hM) rfl (by decide) nX8_howMany_8 (gx_hts C _ fX8_howMany_27) dX8_howMany_69 ?_
        refine gx_iconst C dX8_howMany_72 ?_
        refine gx_iload C dX8_howMany_73 rfl ?_
        refine gx_iload_n C dX8_howMany_75 rfl ?_
        refine gx_idiv C dX8_howMany_76 (by unfold gx_3; omega) (by unfold gx_3; omega) (by omega) (mx_dn k q) ?_
        refine gx_iload_n C dX8_howMany_77 rfl ?_
        refine gx_irem C dX8_howMany_78 (by unfold gx_3; omega) (by unfold gx_3; omega) (by omega) (mx_mn (k / q) q) ?_
        refine gx_iastore C (gm_6 hM) (by omega) dX8_howMany_79 (show _ = 0 + 1 by rfl) ?_
        refine gx_aload_n C dX8_howMany_80 rfl ?_
        refine gx_getR C 8 _ 7 rfl (gm_0 hM) rfl (by decide) nX8_howMany_8 (gx_hts C _ fX8_howMany_27) dX8_howMany_81 ?_
        refine gx_iconst C dX8_howMany_84 ?_
        refine gx_iload C dX8_howMany_85 rfl ?_
        refine gx_iload_n C dX8_howMany_87 rfl ?_
        refine gx_idiv C dX8_howMany_88 (by unfold gx_3; omega) (by unfold gx_3; omega) (by omega) (mx_dn k q) ?_
        refine gx_iload_n C dX8_howMany_89 rfl ?_
        refine gx_irem C dX8_howMany_90 (by unfold gx_3; omega) (by unfold gx_3; omega) (by omega) (mx_mn (k / q) q) ?_
        refine gx_iastore C (gm_6 hM) (by omega) dX8_howMany_91 (show _ = 0 + 3 by rfl) ?_
        refine gx_aload_n C dX8_howMany_92 rfl ?_
        refine gx_getR C 8 _ 7 rfl (gm_0 hM) rfl (by decide) nX8_howMany_8 (gx_hts C _ fX8_howMany_27) dX8_howMany_93 ?_
        refine gx_iconst C dX8_howMany_96 ?_
        refine gx_iload C dX8_howMany_97 rfl ?_
        refine gx_iload_n C dX8_howMany_99 rfl ?_
        refine gx_idiv C dX8_howMany_100 (by unfold gx_3; omega) (by unfold gx_3; omega) (by omega) (mx_dn k q) ?_
        refine gx_iload_n C dX8_howMany_101 rfl ?_
        refine gx_idiv C dX8_howMany_102 (by unfold gx_3; omega) (by unfold gx_3; omega) (by omega) (mx_dn (k / q) q) ?_
        refine gx_iastore C (gm_6 hM) (by omega) dX8_howMany_103 (show _ = 0 + 4 by rfl) ?_
        rw [h3, gx_blk_u (by omega), gx_blk_u (by omega), gx_blk_u (by omega), gx_blk_u (by omega)]
        have hvec : gx_blk M' 6 0 9 (fun i => if i = 4 then ((k / q / q : Nat) : Int) else if i = 3 then ((k / q % q : Nat) : Int) else if i = 1 then ((k / q % q : Nat) : Int) else if i = 0 then ((k % q : Nat) : Int) else 0) = gx_blk M' 6 0 9 (mx_vec q k) := by
          refine gx_blk_f (fun i hi => ?_)
          rcases (show i = 0 ∨ i = 1 ∨ i = 3 ∨ i = 4 ∨ (i ≠ 0 ∧ i ≠ 1 ∧ i ≠ 3 ∧ i ≠ 4) by omega) with rfl | rfl | rfl | rfl | ⟨q0, q1, q3, q4⟩
          · rfl
          · rfl
          · rfl
          · rfl
          · unfold mx_vec
            rw [if_neg q4, if_neg q3, if_neg q1, if_neg q0, if_neg q0, if_neg (by omega), if_neg q4]
        rw [hvec]
        have a5 : mx_of (gx_blk M' 6 0 9 (mx_vec q k) 6) 0 = mx_vec q k := by
          rw [mx_of_blk]
          exact mx_cut (fun i hi => by unfold mx_vec; rw [if_neg (by omega), if_neg (by omega), if_neg (by omega)])
        have ao : mx_ok (s.1 82) (mx_vec q k) := fun i hi => by
          unfold mx_vec
          rw [hqm]
          split
          · omega
          · split
            · omega
            · split <;> omega
        have u5 : mx_of (gx_blk M' 6 0 9 (mx_vec q k) 6) 27 = zs_el s.1 8 := by rw [mx_of_blo (by omega), i3]
        have v5 : mx_of (gx_blk M' 6 0 9 (mx_vec q k) 6) 36 = zs_el s.1 9 := by rw [mx_of_blo (by omega), i4]
        have X5 : gm_X M1 (gx_blk M' 6 0 9 (mx_vec q k)) := gm_Xt i2 gm_Xb
        generalize gx_blk M' 6 0 9 (mx_vec q k) = P6 at a5 u5 v5 X5 ⊢
        refine gx_iload_n C dX8_howMany_104 rfl ?_
        refine gx_aload_n C dX8_howMany_105 rfl ?_
        refine gx_iconst C dX8_howMany_106 ?_
        refine gx_iload_n C dX8_howMany_107 rfl ?_
        refine gx_callI C 8 rfl (gm_0 hM) (c_X8_isOfKind hM hs (sm_Z hs (sm_X hR X5)) a5 ao u5 v5 hq) (cwV 2 (gx_hts C) gX8_howMany_X8_isOfKind rfl rfl rfl (by decide +kernel) ⟨Nat.le_of_ble_eq_true rfl, Nat.le_of_ble_eq_true rfl⟩) rfl rfl (Nat.le_of_ble_eq_true rfl) ⟨Nat.le_refl _, Nat.le_refl _⟩ dX8_howMany_108 (fun z P7 h7 => ?_)
        obtain ⟨h8, h9, E7⟩ := h7
        have So : ∀ {t : Nat}, (t + 9 ≤ 45) → mx_of (P7 6) t = mx_of (P6 6) t := fun h => gm_Eo E7 (fun j h1 h2 => by unfold gm_S3; omega)
        have fin := fun (y' : Int) (hy' : mx_cnt (fun k => zs_kind s w (mx_vec q k)) (k + 1) y') => ih (P7, y') ⟨hy', gm_Xt X5 (gm_X6 E7), by show mx_of (P7 6) _ = _; rw [So (by omega), u5], by show mx_of (P7 6) _ = _; rw [So (by omega), v5]⟩
        refine gx_if_eq C dX8_howMany_111 rfl (by unfold gx_3; omega) (fun hb111 => ?_) (fun hb111 => ?_)
        · refine gx_iconst C dX8_howMany_118 ?_
          refine gx_iadd C dX8_howMany_119 ?_
          refine gx_istore_n C dX8_howMany_120 (by decide) rfl ?_
          refine gx_iinc C dX8_howMany_121 (by decide) rfl rfl ?_
          refine gx_goto C dX8_howMany_124 rfl ?_
          exact fin (y + 0) ⟨y, i1, Or.inr ⟨fun h => by have := h9.mpr h; omega, by omega⟩⟩
        · refine gx_iconst C dX8_howMany_114 ?_
          refine gx_goto C dX8_howMany_115 rfl ?_
          refine gx_iadd C dX8_howMany_119 ?_
          refine gx_istore_n C dX8_howMany_120 (by decide) rfl ?_
          refine gx_iinc C dX8_howMany_121 (by decide) rfl rfl ?_
          refine gx_goto C dX8_howMany_124 rfl ?_
          exact fin (y + 1) ⟨y, i1, Or.inl ⟨h9.mp (by omega), rfl⟩⟩
      · obtain ⟨M', y⟩ := p
        obtain ⟨i1, i2, i3, i4⟩ := hI
        simp only at i1 i2 i3 i4
        refine gx_iload C dX8_howMany_43 rfl ?_
        refine gx_iload_n C dX8_howMany_45 rfl ?_
        refine gx_iload_n C dX8_howMany_46 rfl ?_
        refine gx_imul C dX8_howMany_47 ?_
        refine gx_iload_n C dX8_howMany_48 rfl ?_
        refine gx_imul C dX8_howMany_49 ?_
        rw [hN3]
        refine gx_icmp_ge C dX8_howMany_50 rfl (by unfold gx_3; omega) (by unfold gx_3; omega) (fun hb50 => ?_) (fun hb50 => absurd (by omega) hb50)
        refine gx_iload_n C dX8_howMany_127 rfl ?_
        exact gx_iret C dX8_howMany_128 ⟨by unfold sp_many; rw [if_pos hq, if_neg (by omega), hqm]; exact i1, sm_XQ hR i2⟩
    · refine gx_bipush C dX8_howMany_23 rfl ?_
      exact gx_iret C dX8_howMany_25 ⟨by unfold sp_many; rw [if_pos hq, if_pos (by omega)], sm_XQ hR (gm_Xr M1)⟩
  · rw [if_neg hq] at h1
    subst h1
    refine gx_if_ne C dX8_howMany_6 rfl (by unfold gx_3; omega) (fun hb6 => absurd hb6 (by omega)) (fun hb6 => ?_)
    refine gx_bipush C dX8_howMany_9 rfl ?_
    exact gx_iret C dX8_howMany_11 ⟨by unfold sp_many; rw [if_neg hq], sm_XQ hR (gm_Xr M1)⟩
