theorem mx_ok_of {m : Int} {f g : Nat → Int} (h : mx_ok m f) (e : g = f) : mx_ok m g := by rw [e]; exact h
theorem gx_blk_v {M : gx_M} {c o : Nat} {f g : Nat → Int} (h : ∀ k, k < 9 → f k = g k) : gx_blk M c o 9 f = gx_blk M c o 9 g := gx_blk_f h
set_option maxRecDepth 100000 in
set_option maxHeartbeats 4000000 in
theorem c_X8_invert {La : List gx_K} (hM : gm_H La) {M : gx_M} {n : Nat} {m : Int} (hz : gm_Z M n m) {a t : Nat} (ha : a + 9 ≤ 1926) (ht : t + 9 ≤ 1926) (hat : a + 9 ≤ t ∨ t + 9 ≤ a) (oa : mx_ok m (mx_of (M 6) a)) : gx_Cv La yX8_invert wsX8_invert 2 [gx_R 0, gx_I a, gx_I t] M (fun M' => M' = gx_blk M 6 t 9 (mx_inv n m (mx_of (M 6) a))) := by
  have hzm := gm_Zm hz
  refine gx_start_v (L := [gx_R 0, gx_I a, gx_I t, gx_U, gx_U, gx_U, gx_U]) (by decide) rfl rfl (Nat.le_of_ble_eq_true rfl) rfl ?_
  intro _ _ _ _ _ _ _ _ _ _ _ _ C
  refine gx_aload_n C dX8_invert_0 rfl ?_
  refine gx_aload_n C dX8_invert_1 rfl ?_
  refine gx_iload_n C dX8_invert_2 rfl ?_
  refine gx_callI C 8 rfl (gm_0 hM) (c_X8_determinant hM hz ha oa) (cwV 1 (gx_hts C) gX8_invert_X8_determinant rfl rfl rfl (by decide +kernel) ⟨Nat.le_of_ble_eq_true rfl, Nat.le_of_ble_eq_true rfl⟩) rfl rfl (Nat.le_of_ble_eq_true rfl) ⟨Nat.le_refl _, Nat.le_refl _⟩ dX8_invert_3 (fun z M1 h1 => ?_)
  obtain ⟨rfl, rfl⟩ := h1
  have hdb := mx_det_b (n := n) (m := m) (by omega) (mx_of (M1 6) a)
  refine gx_callI C 8 rfl (gm_0 hM) (c_X8_over hM hz hdb) (cwV 1 (gx_hts C) gX8_invert_X8_over rfl rfl rfl (by decide +kernel) ⟨Nat.le_of_ble_eq_true rfl, Nat.le_of_ble_eq_true rfl⟩) rfl rfl (Nat.le_of_ble_eq_true rfl) ⟨Nat.le_refl _, Nat.le_refl _⟩ dX8_invert_6 (fun z M2 h1 => ?_)
  obtain ⟨rfl, hz1⟩ := h1
  have hob := mx_ovb (v := mx_det n m (mx_of (M2 6) a)) (m := m) (m.toNat - 1)
  rw [← hz1] at hob
  have hob : 0 ≤ z ∧ z ≤ 10 := by omega
  have hinv : ∀ k, mx_inv n m (mx_of (M2 6) a) k = if n = 2 then (if k = 0 then mx_of (M2 6) a 4 * z % m else if k = 1 then -mx_of (M2 6) a 1 * z % m else if k = 3 then -mx_of (M2 6) a 3 * z % m else if k = 4 then mx_of (M2 6) a 0 * z % m else 0) else if k < 9 then mx_min (mx_of (M2 6) a) k % m * z % m else 0 := fun k => by rw [hz1]; rfl
  refine gx_istore_n C dX8_invert_9 (by decide) rfl ?_
  refine gx_aload_n C dX8_invert_10 rfl ?_
  refine gx_getR C 8 _ 0 rfl (gm_0 hM) rfl (by decide) nX8_invert_8 (gx_hts C _ fX8_invert_7) dX8_invert_11 ?_
  refine gx_bipush C dX8_invert_14 rfl ?_
  refine gx_iaload C (gm_1 hM) (by omega) dX8_invert_16 hz.1 ?_
  refine gx_iconst C dX8_invert_17 ?_
  refine gx_icmp_ne C dX8_invert_18 rfl (by unfold gx_3; omega) (by unfold gx_3; omega) (fun hb18 => ?_) (fun hb18 => ?_)
  · refine gx_iconst C dX8_invert_113 ?_
    refine gx_istore C dX8_invert_114 (by decide) rfl ?_
    refine gx_for 3 (fun r (M' : gx_M) => [gx_R 0, gx_I a, gx_I t, gx_I z, gx_I (r : Int), gx_U, gx_U]) (fun M' => M') (fun r M' => M' = gx_blk M2 6 t (3 * r) (mx_inv n m (mx_of (M2 6) a))) 0 _ (by omega) (by rw [gx_blk_0]) (fun r M' hr hI ih => ?_) (fun M' hI => ?_)
    · refine gx_iload C dX8_invert_116 rfl ?_
      refine gx_iconst C dX8_invert_118 ?_
      refine gx_icmp_ge C dX8_invert_119 rfl (by unfold gx_3; omega) (by unfold gx_3; omega) (fun hb119 => absurd hb119 (by omega)) (fun hb119 => ?_)
      refine gx_iconst C dX8_invert_122 ?_
      refine gx_istore C dX8_invert_123 (by decide) rfl ?_
      refine gx_for 3 (fun c (M' : gx_M) => [gx_R 0, gx_I a, gx_I t, gx_I z, gx_I (r : Int), gx_I (c : Int), gx_U]) (fun M' => M') (fun c M' => M' = gx_blk M2 6 t (3 * r + c) (mx_inv n m (mx_of (M2 6) a))) 0 _ (by omega) hI (fun c M' hc hI ih2 => ?_) (fun M' hI => ?_)
      · have hz' : gm_Z M' n m := by rw [hI]; exact gm_Zb hz
        have he : mx_of (M' 6) a = mx_of (M2 6) a := by rw [hI]; exact mx_of_ext (fun k hk => gx_blk_out (by omega))
        refine gx_iload C dX8_invert_125 rfl ?_
        refine gx_iconst C dX8_invert_127 ?_
        refine gx_icmp_ge C dX8_invert_128 rfl (by unfold gx_3; omega) (by unfold gx_3; omega) (fun hb128 => absurd hb128 (by omega)) (fun hb128 => ?_)
        refine gx_aload_n C dX8_invert_131 rfl ?_
        refine gx_iload_n C dX8_invert_132 rfl ?_
        refine gx_iload C dX8_invert_133 rfl ?_
        refine gx_iconst C dX8_invert_135 ?_
        refine gx_iadd C dX8_invert_136 ?_
        refine gx_iload C dX8_invert_137 rfl ?_
        refine gx_iconst C dX8_invert_139 ?_
        refine gx_iadd C dX8_invert_140 ?_
        refine gx_callI C 8 rfl (gm_0 hM) (c_X8_cellOf hM (r := c + 1) (c := r + 1) ha (by omega) (by omega) (by omega) (by omega)) (cwV 3 (gx_hts C) gX8_invert_X8_cellOf rfl rfl rfl (by decide +kernel) ⟨Nat.le_of_ble_eq_true rfl, Nat.le_of_ble_eq_true rfl⟩) rfl rfl (Nat.le_of_ble_eq_true rfl) ⟨Nat.le_refl _, Nat.le_refl _⟩ dX8_invert_141 (fun x1 M3 h1 => ?_)
        obtain ⟨rfl, rfl⟩ := h1
        refine gx_aload_n C dX8_invert_144 rfl ?_
        refine gx_iload_n C dX8_invert_145 rfl ?_
        refine gx_iload C dX8_invert_146 rfl ?_
        refine gx_iconst C dX8_invert_148 ?_
        refine gx_iadd C dX8_invert_149 ?_
        refine gx_iload C dX8_invert_150 rfl ?_
        refine gx_iconst C dX8_invert_152 ?_
        refine gx_iadd C dX8_invert_153 ?_
        refine gx_callI C 8 rfl (gm_0 hM) (c_X8_cellOf hM (r := c + 2) (c := r + 2) ha (by omega) (by omega) (by omega) (by omega)) (cwV 3 (gx_hts C) gX8_invert_X8_cellOf rfl rfl rfl (by decide +kernel) ⟨Nat.le_of_ble_eq_true rfl, Nat.le_of_ble_eq_true rfl⟩) rfl rfl (Nat.le_of_ble_eq_true rfl) ⟨Nat.le_refl _, Nat.le_refl _⟩ dX8_invert_154 (fun x1 M3 h1 => ?_)
        obtain ⟨rfl, rfl⟩ := h1
        refine gx_imul C dX8_invert_157 ?_
        refine gx_aload_n C dX8_invert_158 rfl ?_
        refine gx_iload_n C dX8_invert_159 rfl ?_
        refine gx_iload C dX8_invert_160 rfl ?_
        refine gx_iconst C dX8_invert_162 ?_
        refine gx_iadd C dX8_invert_163 ?_
        refine gx_iload C dX8_invert_164 rfl ?_
        refine gx_iconst C dX8_invert_166 ?_
        refine gx_iadd C dX8_invert_167 ?_
        refine gx_callI C 8 rfl (gm_0 hM) (c_X8_cellOf hM (r := c + 1) (c := r + 2) ha (by omega) (by omega) (by omega) (by omega)) (cwV 3 (gx_hts C) gX8_invert_X8_cellOf rfl rfl rfl (by decide +kernel) ⟨Nat.le_of_ble_eq_true rfl, Nat.le_of_ble_eq_true rfl⟩) rfl rfl (Nat.le_of_ble_eq_true rfl) ⟨Nat.le_refl _, Nat.le_refl _⟩ dX8_invert_168 (fun x1 M3 h1 => ?_)
        obtain ⟨rfl, rfl⟩ := h1
        refine gx_aload_n C dX8_invert_171 rfl ?_
        refine gx_iload_n C dX8_invert_172 rfl ?_
        refine gx_iload C dX8_invert_173 rfl ?_
        refine gx_iconst C dX8_invert_175 ?_
        refine gx_iadd C dX8_invert_176 ?_
        refine gx_iload C dX8_invert_177 rfl ?_
        refine gx_iconst C dX8_invert_179 ?_
        refine gx_iadd C dX8_invert_180 ?_
        refine gx_callI C 8 rfl (gm_0 hM) (c_X8_cellOf hM (r := c + 2) (c := r + 1) ha (by omega) (by omega) (by omega) (by omega)) (cwV 3 (gx_hts C) gX8_invert_X8_cellOf rfl rfl rfl (by decide +kernel) ⟨Nat.le_of_ble_eq_true rfl, Nat.le_of_ble_eq_true rfl⟩) rfl rfl (Nat.le_of_ble_eq_true rfl) ⟨Nat.le_refl _, Nat.le_refl _⟩ dX8_invert_181 (fun x1 M3 h1 => ?_)
        obtain ⟨rfl, rfl⟩ := h1
        rw [he]
        have hmb := mx_mb (by omega) oa (c + 1) (r + 1) (c + 2) (r + 2) (c + 1) (r + 2) (c + 2) (r + 1)
        refine gx_imul C dX8_invert_184 ?_
        refine gx_isub C dX8_invert_185 ?_
        refine gx_istore C dX8_invert_186 (by decide) rfl ?_
        refine gx_aload_n C dX8_invert_188 rfl ?_
        refine gx_getR C 8 _ 7 rfl (gm_0 hM) rfl (by decide) nX8_invert_8 (gx_hts C _ fX8_invert_27) dX8_invert_189 ?_
        refine gx_iload_n C dX8_invert_192 rfl ?_
        refine gx_iconst C dX8_invert_193 ?_
        refine gx_iload C dX8_invert_194 rfl ?_
        refine gx_imul C dX8_invert_196 ?_
        refine gx_iadd C dX8_invert_197 ?_
        refine gx_iload C dX8_invert_198 rfl ?_
        refine gx_iadd C dX8_invert_200 ?_
        refine gx_aload_n C dX8_invert_201 rfl ?_
        refine gx_aload_n C dX8_invert_202 rfl ?_
        refine gx_iload C dX8_invert_203 rfl ?_
        refine gx_callI C 8 rfl (gm_0 hM) (c_X8_within hM hz' (by omega)) (cwV 1 (gx_hts C) gX8_invert_X8_within rfl rfl rfl (by decide +kernel) ⟨Nat.le_of_ble_eq_true rfl, Nat.le_of_ble_eq_true rfl⟩) rfl rfl (Nat.le_of_ble_eq_true rfl) ⟨Nat.le_refl _, Nat.le_refl _⟩ dX8_invert_205 (fun x1 M4 h1 => ?_)
        obtain ⟨rfl, rfl⟩ := h1
        have hw1 := mx_md (m := m) (by omega) (mx_at (mx_of (M2 6) a) (c + 1) (r + 1) * mx_at (mx_of (M2 6) a) (c + 2) (r + 2) - mx_at (mx_of (M2 6) a) (c + 1) (r + 2) * mx_at (mx_of (M2 6) a) (c + 2) (r + 1))
        have hw2 := mx_pr (m := 11) (by omega) (x := (mx_at (mx_of (M2 6) a) (c + 1) (r + 1) * mx_at (mx_of (M2 6) a) (c + 2) (r + 2) - mx_at (mx_of (M2 6) a) (c + 1) (r + 2) * mx_at (mx_of (M2 6) a) (c + 2) (r + 1)) % m) (y := z) (by omega) (by omega)
        refine gx_iload_n C dX8_invert_208 rfl ?_
        refine gx_imul C dX8_invert_209 ?_
        refine gx_callI C 8 rfl (gm_0 hM) (c_X8_within hM hz' (by omega)) (cwV 1 (gx_hts C) gX8_invert_X8_within rfl rfl rfl (by decide +kernel) ⟨Nat.le_of_ble_eq_true rfl, Nat.le_of_ble_eq_true rfl⟩) rfl rfl (Nat.le_of_ble_eq_true rfl) ⟨Nat.le_refl _, Nat.le_refl _⟩ dX8_invert_210 (fun x1 M5 h1 => ?_)
        obtain ⟨rfl, rfl⟩ := h1
        refine gx_iastore C (gm_6 hM) (by omega) dX8_invert_213 (show _ = t + (3 * r + c) by omega) ?_
        refine gx_iinc C dX8_invert_214 (by decide) rfl rfl ?_
        refine gx_goto C dX8_invert_217 rfl ?_
        refine gx_weak (L' := [gx_R 0, gx_I a, gx_I t, gx_I z, gx_I (r : Int), gx_I ((c + 1 : Nat) : Int), gx_U]) ⟨Or.inr rfl, Or.inr rfl, Or.inr rfl, Or.inr rfl, Or.inr rfl, Or.inr rfl, Or.inl rfl, trivial⟩ (ih2 _ ?_)
        rw [hI]
        refine gx_blk_s ?_
        rw [hinv, if_neg (by omega), if_pos (by omega)]
        unfold mx_min
        rw [show (3 * r + c) / 3 = r by omega, show (3 * r + c) % 3 = c by omega]
      · refine gx_iload C dX8_invert_125 rfl ?_
        refine gx_iconst C dX8_invert_127 ?_
        refine gx_icmp_ge C dX8_invert_128 rfl (by unfold gx_3; omega) (by unfold gx_3; omega) (fun hb128 => ?_) (fun hb128 => absurd (by omega) hb128)
        refine gx_iinc C dX8_invert_220 (by decide) rfl rfl ?_
        refine gx_goto C dX8_invert_223 rfl ?_
        exact gx_weak (L' := [gx_R 0, gx_I a, gx_I t, gx_I z, gx_I ((r + 1 : Nat) : Int), gx_U, gx_U]) ⟨Or.inr rfl, Or.inr rfl, Or.inr rfl, Or.inr rfl, Or.inr rfl, Or.inl rfl, Or.inl rfl, trivial⟩ (ih _ (by rw [hI, show 3 * (r + 1) = 3 * r + 3 by omega]))
    · refine gx_iload C dX8_invert_116 rfl ?_
      refine gx_iconst C dX8_invert_118 ?_
      refine gx_icmp_ge C dX8_invert_119 rfl (by unfold gx_3; omega) (by unfold gx_3; omega) (fun hb119 => ?_) (fun hb119 => absurd (by omega) hb119)
      exact gx_vret C dX8_invert_226 hI
  · have h0 := oa 0 (by omega)
    have h1 := oa 1 (by omega)
    have h3 := oa 3 (by omega)
    have h4 := oa 4 (by omega)
    have b0 : -100 ≤ mx_of (M2 6) a 0 * z ∧ mx_of (M2 6) a 0 * z ≤ 100 := mx_sm (by omega) (by omega)
    have b1 : -100 ≤ mx_of (M2 6) a 1 * z ∧ mx_of (M2 6) a 1 * z ≤ 100 := mx_sm (by omega) (by omega)
    have b3 : -100 ≤ mx_of (M2 6) a 3 * z ∧ mx_of (M2 6) a 3 * z ≤ 100 := mx_sm (by omega) (by omega)
    have b4 : -100 ≤ mx_of (M2 6) a 4 * z ∧ mx_of (M2 6) a 4 * z ≤ 100 := mx_sm (by omega) (by omega)
    have n1 : -mx_of (M2 6) a 1 * z = -(mx_of (M2 6) a 1 * z) := Int.neg_mul _ _
    have n3 : -mx_of (M2 6) a 3 * z = -(mx_of (M2 6) a 3 * z) := Int.neg_mul _ _
    refine gx_aload_n C dX8_invert_21 rfl ?_
    refine gx_iload_n C dX8_invert_22 rfl ?_
    refine gx_callV C 8 rfl (gm_0 hM) (c_X8_blank hM ht) (cwV 1 (gx_hts C) gX8_invert_X8_blank rfl rfl rfl (by decide +kernel) ⟨Nat.le_of_ble_eq_true rfl, Nat.le_of_ble_eq_true rfl⟩) rfl rfl (Nat.le_of_ble_eq_true rfl) ⟨Nat.le_refl _, Nat.le_refl _⟩ dX8_invert_23 (fun M3 hq => ?_)
    subst hq
    have e0 : gx_blk M2 6 t 9 (fun _ => 0) 6 ((a : Int).toNat) = mx_of (M2 6) a 0 := gm_rdb (by omega) (by omega) (by omega)
    refine gx_aload_n C dX8_invert_26 rfl ?_
    refine gx_getR C 8 _ 7 rfl (gm_0 hM) rfl (by decide) nX8_invert_8 (gx_hts C _ fX8_invert_27) dX8_invert_27 ?_
    refine gx_iload_n C dX8_invert_30 rfl ?_
    refine gx_aload_n C dX8_invert_31 rfl ?_
    refine gx_aload_n C dX8_invert_32 rfl ?_
    refine gx_getR C 8 _ 7 rfl (gm_0 hM) rfl (by decide) nX8_invert_8 (gx_hts C _ fX8_invert_27) dX8_invert_33 ?_
    refine gx_iload_n C dX8_invert_36 rfl ?_
    refine gx_iconst C dX8_invert_37 ?_
    refine gx_iadd C dX8_invert_38 ?_
    refine gx_iaload C (gm_6 hM) (by omega) dX8_invert_39 (gm_rdb (a := a) (j := 4) (by omega) (by omega) (by omega)) ?_
    refine gx_iload_n C dX8_invert_40 rfl ?_
    refine gx_imul C dX8_invert_41 ?_
    refine gx_callI C 8 rfl (gm_0 hM) (c_X8_within hM (gm_Zb hz) (by omega)) (cwV 1 (gx_hts C) gX8_invert_X8_within rfl rfl rfl (by decide +kernel) ⟨Nat.le_of_ble_eq_true rfl, Nat.le_of_ble_eq_true rfl⟩) rfl rfl (Nat.le_of_ble_eq_true rfl) ⟨Nat.le_refl _, Nat.le_refl _⟩ dX8_invert_42 (fun x1 M4 hq => ?_)
    obtain ⟨rfl, rfl⟩ := hq
    refine gx_iastore C (gm_6 hM) (by omega) dX8_invert_45 (show _ = t + 0 by omega) ?_
    rw [gx_blk_u (by omega)]
    refine gx_aload_n C dX8_invert_46 rfl ?_
    refine gx_getR C 8 _ 7 rfl (gm_0 hM) rfl (by decide) nX8_invert_8 (gx_hts C _ fX8_invert_27) dX8_invert_47 ?_
    refine gx_iload_n C dX8_invert_50 rfl ?_
    refine gx_iconst C dX8_invert_51 ?_
    refine gx_iadd C dX8_invert_52 ?_
    refine gx_aload_n C dX8_invert_53 rfl ?_
    refine gx_aload_n C dX8_invert_54 rfl ?_
    refine gx_getR C 8 _ 7 rfl (gm_0 hM) rfl (by decide) nX8_invert_8 (gx_hts C _ fX8_invert_27) dX8_invert_55 ?_
    refine gx_iload_n C dX8_invert_58 rfl ?_
    refine gx_iconst C dX8_invert_59 ?_
    refine gx_iadd C dX8_invert_60 ?_
    refine gx_iaload C (gm_6 hM) (by omega) dX8_invert_61 (gm_rdb (a := a) (j := 1) (by omega) (by omega) (by omega)) ?_
    refine gx_ineg C dX8_invert_62 ?_
    refine gx_iload_n C dX8_invert_63 rfl ?_
    refine gx_imul C dX8_invert_64 ?_
    refine gx_callI C 8 rfl (gm_0 hM) (c_X8_within hM (gm_Zb hz) (by omega)) (cwV 1 (gx_hts C) gX8_invert_X8_within rfl rfl rfl (by decide +kernel) ⟨Nat.le_of_ble_eq_true rfl, Nat.le_of_ble_eq_true rfl⟩) rfl rfl (Nat.le_of_ble_eq_true rfl) ⟨Nat.le_refl _, Nat.le_refl _⟩ dX8_invert_65 (fun x1 M4 hq => ?_)
    obtain ⟨rfl, rfl⟩ := hq
    refine gx_iastore C (gm_6 hM) (by omega) dX8_invert_68 (show _ = t + 1 by omega) ?_
    rw [gx_blk_u (by omega)]
    refine gx_aload_n C dX8_invert_69 rfl ?_
    refine gx_getR C 8 _ 7 rfl (gm_0 hM) rfl (by decide) nX8_invert_8 (gx_hts C _ fX8_invert_27) dX8_invert_70 ?_
    refine gx_iload_n C dX8_invert_73 rfl ?_
    refine gx_iconst C dX8_invert_74 ?_
    refine gx_iadd C dX8_invert_75 ?_
    refine gx_aload_n C dX8_invert_76 rfl ?_
    refine gx_aload_n C dX8_invert_77 rfl ?_
    refine gx_getR C 8 _ 7 rfl (gm_0 hM) rfl (by decide) nX8_invert_8 (gx_hts C _ fX8_invert_27) dX8_invert_78 ?_
    refine gx_iload_n C dX8_invert_81 rfl ?_
    refine gx_iconst C dX8_invert_82 ?_
    refine gx_iadd C dX8_invert_83 ?_
    refine gx_iaload C (gm_6 hM) (by omega) dX8_invert_84 (gm_rdb (a := a) (j := 3) (by omega) (by omega) (by omega)) ?_
    refine gx_ineg C dX8_invert_85 ?_
    refine gx_iload_n C dX8_invert_86 rfl ?_
    refine gx_imul C dX8_invert_87 ?_
    refine gx_callI C 8 rfl (gm_0 hM) (c_X8_within hM (gm_Zb hz) (by omega)) (cwV 1 (gx_hts C) gX8_invert_X8_within rfl rfl rfl (by decide +kernel) ⟨Nat.le_of_ble_eq_true rfl, Nat.le_of_ble_eq_true rfl⟩) rfl rfl (Nat.le_of_ble_eq_true rfl) ⟨Nat.le_refl _, Nat.le_refl _⟩ dX8_invert_88 (fun x1 M4 hq => ?_)
    obtain ⟨rfl, rfl⟩ := hq
    refine gx_iastore C (gm_6 hM) (by omega) dX8_invert_91 (show _ = t + 3 by omega) ?_
    rw [gx_blk_u (by omega)]
    refine gx_aload_n C dX8_invert_92 rfl ?_
    refine gx_getR C 8 _ 7 rfl (gm_0 hM) rfl (by decide) nX8_invert_8 (gx_hts C _ fX8_invert_27) dX8_invert_93 ?_
    refine gx_iload_n C dX8_invert_96 rfl ?_
    refine gx_iconst C dX8_invert_97 ?_
    refine gx_iadd C dX8_invert_98 ?_
    refine gx_aload_n C dX8_invert_99 rfl ?_
    refine gx_aload_n C dX8_invert_100 rfl ?_
    refine gx_getR C 8 _ 7 rfl (gm_0 hM) rfl (by decide) nX8_invert_8 (gx_hts C _ fX8_invert_27) dX8_invert_101 ?_
    refine gx_iload_n C dX8_invert_104 rfl ?_
    refine gx_iaload C (gm_6 hM) (by omega) dX8_invert_105 (gm_rdb (a := a) (j := 0) (by omega) (by omega) (by omega)) ?_
    refine gx_iload_n C dX8_invert_106 rfl ?_
    refine gx_imul C dX8_invert_107 ?_
    refine gx_callI C 8 rfl (gm_0 hM) (c_X8_within hM (gm_Zb hz) (by omega)) (cwV 1 (gx_hts C) gX8_invert_X8_within rfl rfl rfl (by decide +kernel) ⟨Nat.le_of_ble_eq_true rfl, Nat.le_of_ble_eq_true rfl⟩) rfl rfl (Nat.le_of_ble_eq_true rfl) ⟨Nat.le_refl _, Nat.le_refl _⟩ dX8_invert_108 (fun x1 M4 hq => ?_)
    obtain ⟨rfl, rfl⟩ := hq
    refine gx_iastore C (gm_6 hM) (by omega) dX8_invert_111 (show _ = t + 4 by omega) ?_
    rw [gx_blk_u (by omega)]
    have hf : gx_blk M2 6 t 9 (fun k => if k = 4 then mx_of (M2 6) a 0 * z % m else if k = 3 then -mx_of (M2 6) a 3 * z % m else if k = 1 then -mx_of (M2 6) a 1 * z % m else if k = 0 then mx_of (M2 6) a 4 * z % m else 0) = gx_blk M2 6 t 9 (mx_inv n m (mx_of (M2 6) a)) := by
      refine gx_blk_f (fun k hk => ?_)
      have hn2 : n = 2 := by omega
      rw [hinv]
      simp only [if_pos hn2]
      rcases (show k = 0 ∨ k = 1 ∨ k = 3 ∨ k = 4 ∨ (k ≠ 0 ∧ k ≠ 1 ∧ k ≠ 3 ∧ k ≠ 4) by omega) with rfl | rfl | rfl | rfl | ⟨q0, q1, q3, q4⟩
      · rfl
      · rfl
      · rfl
      · rfl
      · simp only [if_neg q0, if_neg q1, if_neg q3, if_neg q4]
    exact gx_vret C dX8_invert_112 hf
set_option maxRecDepth 100000 in
set_option maxHeartbeats 4000000 in
theorem c_X8_layBase {La : List gx_K} (hM : gm_H La) {M : gx_M} {n : Nat} {m : Int} (hz : gm_Z M n m) (ou : mx_ok m (mx_of (M 1) 72)) : gx_Cv La yX8_layBase wsX8_layBase 3 [gx_R 0] M (fun M' => M' = gx_blk (gx_blk M 6 27 9 (mx_of (M 1) 72)) 6 36 9 (mx_inv n m (mx_of (M 1) 72))) := by
  refine gx_start_v (L := [gx_R 0, gx_U]) (by decide) rfl rfl (Nat.le_of_ble_eq_true rfl) rfl ?_
  intro _ _ _ _ _ _ _ _ _ _ _ _ C
  refine gx_iconst C dX8_layBase_0 ?_
  refine gx_istore_n C dX8_layBase_1 (by decide) rfl ?_
  refine gx_for 9 (fun k (M' : gx_M) => [gx_R 0, gx_I (k : Int)]) (fun M' => M') (fun k M' => M' = gx_blk M 6 27 k (mx_of (M 1) 72)) 0 M (by omega) gx_blk_0.symm (fun k M' hk hI ih => ?_) (fun M' hI => ?_)
  · have e1 : M' 1 ((72 + (k : Int)).toNat) = mx_of (M 1) 72 k := by
      rw [hI, gx_blk_nc (by decide), mx_of_at hk, show (72 + (k : Int)).toNat = 72 + k by omega]
    refine gx_iload_n C dX8_layBase_2 rfl ?_
    refine gx_bipush C dX8_layBase_3 rfl ?_
    refine gx_icmp_ge C dX8_layBase_5 rfl (by unfold gx_3; omega) (by unfold gx_3; omega) (fun hb5 => absurd hb5 (by omega)) (fun hb5 => ?_)
    refine gx_aload_n C dX8_layBase_8 rfl ?_
    refine gx_getR C 8 _ 7 rfl (gm_0 hM) rfl (by decide) nX8_layBase_8 (gx_hts C _ fX8_layBase_27) dX8_layBase_9 ?_
    refine gx_bipush C dX8_layBase_12 rfl ?_
    refine gx_iload_n C dX8_layBase_14 rfl ?_
    refine gx_iadd C dX8_layBase_15 ?_
    refine gx_aload_n C dX8_layBase_16 rfl ?_
    refine gx_getR C 8 _ 0 rfl (gm_0 hM) rfl (by decide) nX8_layBase_8 (gx_hts C _ fX8_layBase_7) dX8_layBase_17 ?_
    refine gx_bipush C dX8_layBase_20 rfl ?_
    refine gx_iload_n C dX8_layBase_22 rfl ?_
    refine gx_iadd C dX8_layBase_23 ?_
    refine gx_iaload C (gm_1 hM) (by omega) dX8_layBase_24 e1 ?_
    refine gx_iastore C (gm_6 hM) (by omega) dX8_layBase_25 (show _ = 27 + k by omega) ?_
    refine gx_iinc C dX8_layBase_26 (by decide) rfl rfl ?_
    refine gx_goto C dX8_layBase_29 rfl ?_
    exact ih _ (by rw [hI]; exact gx_blk_s rfl)
  · subst hI
    refine gx_iload_n C dX8_layBase_2 rfl ?_
    refine gx_bipush C dX8_layBase_3 rfl ?_
    refine gx_icmp_ge C dX8_layBase_5 rfl (by unfold gx_3; omega) (by unfold gx_3; omega) (fun hb5 => ?_) (fun hb5 => absurd (by omega) hb5)
    refine gx_aload_n C dX8_layBase_32 rfl ?_
    refine gx_bipush C dX8_layBase_33 rfl ?_
    refine gx_bipush C dX8_layBase_35 rfl ?_
    have e2 : mx_of (gx_blk M 6 27 9 (mx_of (M 1) 72) 6) 27 = mx_of (M 1) 72 := mx_of_of
    refine gx_callV C 8 rfl (gm_0 hM) (c_X8_invert hM (gm_Zb hz) (a := 27) (t := 36) (by omega) (by omega) (by omega) (by rw [e2]; exact ou)) (cwV 2 (gx_hts C) gX8_layBase_X8_invert rfl rfl rfl (by decide +kernel) ⟨Nat.le_of_ble_eq_true rfl, Nat.le_of_ble_eq_true rfl⟩) rfl rfl (Nat.le_of_ble_eq_true rfl) ⟨Nat.le_refl _, Nat.le_refl _⟩ dX8_layBase_37 (fun M1 h1 => ?_)
    subst h1
    rw [e2]
    exact gx_vret C dX8_layBase_40 rfl
/-- register, base or unit -/
def gm_el (M : gx_M) (n : Nat) (m : Int) (r : Nat) : Nat → Int := if r < 8 then mx_of (M 1) (9 * r) else if r = 8 then mx_of (M 1) 72 else mx_inv n m (mx_of (M 1) 72)
theorem gm_el_9 {M : gx_M} {n : Nat} {m : Int} {r : Nat} : ∀ k, 9 ≤ k → gm_el M n m r k = 0 := fun k hk => by
  unfold gm_el
  split
  · exact if_neg (by omega)
  · split
    · exact if_neg (by omega)
    · exact mx_inv_9 k hk
theorem mx_of_el {M M0 : gx_M} {t n r : Nat} {m : Int} : mx_of (gx_blk M 6 t 9 (gm_el M0 n m r) 6) t = gm_el M0 n m r := by rw [mx_of_blk, mx_cut gm_el_9]
set_option maxRecDepth 100000 in
set_option maxHeartbeats 4000000 in
theorem c_X8_load {La : List gx_K} (hM : gm_H La) {M : gx_M} {n : Nat} {m : Int} (hz : gm_Z M n m) (ou : mx_ok m (mx_of (M 1) 72)) {r t : Nat} {x : Int} (hx : x = r) (hr : r < 10) (ht : t + 9 ≤ 1926) (hd : t + 9 ≤ 27 ∨ 45 ≤ t) : gx_Cv La yX8_load wsX8_load 4 [gx_R 0, gx_I x, gx_I t] M (fun M' => M' = gx_blk (gx_blk (gx_blk M 6 27 9 (mx_of (M 1) 72)) 6 36 9 (mx_inv n m (mx_of (M 1) 72))) 6 t 9 (gm_el M n m r)) := by
  subst hx
  refine gx_start_v (L := [gx_R 0, gx_I (r : Int), gx_I t, gx_U]) (by decide) rfl rfl (Nat.le_of_ble_eq_true rfl) rfl ?_
  intro _ _ _ _ _ _ _ _ _ _ _ _ C
  refine gx_aload_n C dX8_load_0 rfl ?_
  refine gx_callV C 8 rfl (gm_0 hM) (c_X8_layBase hM hz ou) (cwV 0 (gx_hts C) gX8_load_X8_layBase rfl rfl rfl (by decide +kernel) ⟨Nat.le_of_ble_eq_true rfl, Nat.le_of_ble_eq_true rfl⟩) rfl rfl (Nat.le_of_ble_eq_true rfl) ⟨Nat.le_refl _, Nat.le_refl _⟩ dX8_load_1 (fun M1 h1 => ?_)
  have eU : mx_of (M1 6) 27 = mx_of (M 1) 72 := by rw [h1, mx_of_blo (by omega)]; exact mx_of_of
  have eV : mx_of (M1 6) 36 = mx_inv n m (mx_of (M 1) 72) := by rw [h1]; exact mx_of_inv
  have e1 : M1 1 = M 1 := by rw [h1, gx_blk_nc (by decide), gx_blk_nc (by decide)]
  rw [← h1]
  refine gx_iconst C dX8_load_4 ?_
  refine gx_istore_n C dX8_load_5 (by decide) rfl ?_
  refine gx_for 9 (fun k (M' : gx_M) => [gx_R 0, gx_I (r : Int), gx_I t, gx_I (k : Int)]) (fun M' => M') (fun k M' => M' = gx_blk M1 6 t k (gm_el M n m r)) 0 M1 (by omega) gx_blk_0.symm (fun k M' hk hI ih => ?_) (fun M' hI => ?_)
  · refine gx_iload_n C dX8_load_6 rfl ?_
    refine gx_bipush C dX8_load_7 rfl ?_
    refine gx_icmp_ge C dX8_load_9 rfl (by unfold gx_3; omega) (by unfold gx_3; omega) (fun hb9 => absurd hb9 (by omega)) (fun hb9 => ?_)
    refine gx_aload_n C dX8_load_12 rfl ?_
    refine gx_getR C 8 _ 7 rfl (gm_0 hM) rfl (by decide) nX8_load_8 (gx_hts C _ fX8_load_27) dX8_load_13 ?_
    refine gx_iload_n C dX8_load_16 rfl ?_
    refine gx_iload_n C dX8_load_17 rfl ?_
    refine gx_iadd C dX8_load_18 ?_
    refine gx_iload_n C dX8_load_19 rfl ?_
    refine gx_bipush C dX8_load_20 rfl ?_
    refine gx_icmp_ge C dX8_load_22 rfl (by unfold gx_3; omega) (by unfold gx_3; omega) (fun hb22 => ?_) (fun hb22 => ?_)
    · refine gx_aload_n C dX8_load_39 rfl ?_
      refine gx_getR C 8 _ 7 rfl (gm_0 hM) rfl (by decide) nX8_load_8 (gx_hts C _ fX8_load_27) dX8_load_40 ?_
      refine gx_iload_n C dX8_load_43 rfl ?_
      refine gx_bipush C dX8_load_44 rfl ?_
      refine gx_icmp_ne C dX8_load_46 rfl (by unfold gx_3; omega) (by unfold gx_3; omega) (fun hb46 => ?_) (fun hb46 => ?_)
      · refine gx_bipush C dX8_load_54 rfl ?_
        refine gx_iload_n C dX8_load_56 rfl ?_
        refine gx_iadd C dX8_load_57 ?_
        refine gx_iaload C (gm_6 hM) (by omega) dX8_load_58 (show _ = gm_el M n m r k by rw [hI]; unfold gm_el; rw [if_neg (by omega), if_neg (by omega), ← eV]; exact gm_rdb (by omega) (by omega) hk) ?_
        refine gx_iastore C (gm_6 hM) (by omega) dX8_load_59 (show _ = t + k by omega) ?_
        refine gx_iinc C dX8_load_60 (by decide) rfl rfl ?_
        refine gx_goto C dX8_load_63 rfl ?_
        exact ih _ (by rw [hI]; exact gx_blk_s rfl)
      · refine gx_bipush C dX8_load_49 rfl ?_
        refine gx_goto C dX8_load_51 rfl ?_
        refine gx_iload_n C dX8_load_56 rfl ?_
        refine gx_iadd C dX8_load_57 ?_
        refine gx_iaload C (gm_6 hM) (by omega) dX8_load_58 (show _ = gm_el M n m r k by rw [hI]; unfold gm_el; rw [if_neg (by omega), if_pos (by omega), ← eU]; exact gm_rdb (by omega) (by omega) hk) ?_
        refine gx_iastore C (gm_6 hM) (by omega) dX8_load_59 (show _ = t + k by omega) ?_
        refine gx_iinc C dX8_load_60 (by decide) rfl rfl ?_
        refine gx_goto C dX8_load_63 rfl ?_
        exact ih _ (by rw [hI]; exact gx_blk_s rfl)
    · have e3 : M' 1 ((9 * (r : Int) + (k : Int)).toNat) = gm_el M n m r k := by
        rw [hI, gx_blk_nc (by decide), e1]
        unfold gm_el
        rw [if_pos (by omega), mx_of_at hk, show (9 * (r : Int) + (k : Int)).toNat = 9 * r + k by omega]
      refine gx_aload_n C dX8_load_25 rfl ?_
      refine gx_getR C 8 _ 0 rfl (gm_0 hM) rfl (by decide) nX8_load_8 (gx_hts C _ fX8_load_7) dX8_load_26 ?_
      refine gx_bipush C dX8_load_29 rfl ?_
      refine gx_iload_n C dX8_load_31 rfl ?_
      refine gx_imul C dX8_load_32 ?_
      refine gx_iload_n C dX8_load_33 rfl ?_
      refine gx_iadd C dX8_load_34 ?_
      refine gx_iaload C (gm_1 hM) (by omega) dX8_load_35 e3 ?_
      refine gx_goto C dX8_load_36 rfl ?_
      refine gx_iastore C (gm_6 hM) (by omega) dX8_load_59 (show _ = t + k by omega) ?_
      refine gx_iinc C dX8_load_60 (by decide) rfl rfl ?_
      refine gx_goto C dX8_load_63 rfl ?_
      exact ih _ (by rw [hI]; exact gx_blk_s rfl)
  · refine gx_iload_n C dX8_load_6 rfl ?_
    refine gx_bipush C dX8_load_7 rfl ?_
    refine gx_icmp_ge C dX8_load_9 rfl (by unfold gx_3; omega) (by unfold gx_3; omega) (fun hb9 => ?_) (fun hb9 => absurd (by omega) hb9)
    exact gx_vret C dX8_load_66 hI
set_option maxRecDepth 100000 in
set_option maxHeartbeats 4000000 in
theorem c_X8_store {La : List gx_K} (hM : gm_H La) {M : gx_M} {r a : Nat} {x : Int} (hx : x = r) (hr : r < 8) (ha : a + 9 ≤ 1926) : gx_Cv La yX8_store wsX8_store 0 [gx_R 0, gx_I a, gx_I x] M (fun M' => M' = gx_blk M 1 (9 * r) 9 (mx_of (M 6) a)) := by
  subst hx
  refine gx_start_v (L := [gx_R 0, gx_I a, gx_I (r : Int), gx_U]) (by decide) rfl rfl (Nat.le_of_ble_eq_true rfl) rfl ?_
  intro _ _ _ _ _ _ _ _ _ _ _ _ C
  refine gx_iconst C dX8_store_0 ?_
  refine gx_istore_n C dX8_store_1 (by decide) rfl ?_
  refine gx_for 9 (fun k (M' : gx_M) => [gx_R 0, gx_I a, gx_I (r : Int), gx_I (k : Int)]) (fun M' => M') (fun k M' => M' = gx_blk M 1 (9 * r) k (mx_of (M 6) a)) 0 M (by omega) gx_blk_0.symm (fun k M' hk hI ih => ?_) (fun M' hI => ?_)
  · have e1 : M' 6 (((a : Int) + (k : Int)).toNat) = mx_of (M 6) a k := by
      rw [hI, gx_blk_nc (by decide)]
      exact gm_rd (by omega) hk
    refine gx_iload_n C dX8_store_2 rfl ?_
    refine gx_bipush C dX8_store_3 rfl ?_
    refine gx_icmp_ge C dX8_store_5 rfl (by unfold gx_3; omega) (by unfold gx_3; omega) (fun hb5 => absurd hb5 (by omega)) (fun hb5 => ?_)
    refine gx_aload_n C dX8_store_8 rfl ?_
    refine gx_getR C 8 _ 0 rfl (gm_0 hM) rfl (by decide) nX8_store_8 (gx_hts C _ fX8_store_7) dX8_store_9 ?_
    refine gx_bipush C dX8_store_12 rfl ?_
    refine gx_iload_n C dX8_store_14 rfl ?_
    refine gx_imul C dX8_store_15 ?_
    refine gx_iload_n C dX8_store_16 rfl ?_
    refine gx_iadd C dX8_store_17 ?_
    refine gx_aload_n C dX8_store_18 rfl ?_
    refine gx_getR C 8 _ 7 rfl (gm_0 hM) rfl (by decide) nX8_store_8 (gx_hts C _ fX8_store_27) dX8_store_19 ?_
    refine gx_iload_n C dX8_store_22 rfl ?_
    refine gx_iload_n C dX8_store_23 rfl ?_
    refine gx_iadd C dX8_store_24 ?_
    refine gx_iaload C (gm_6 hM) (by omega) dX8_store_25 e1 ?_
    refine gx_iastore C (gm_1 hM) (by omega) dX8_store_26 (show _ = 9 * r + k by omega) ?_
    refine gx_iinc C dX8_store_27 (by decide) rfl rfl ?_
    refine gx_goto C dX8_store_30 rfl ?_
    exact ih _ (by rw [hI]; exact gx_blk_s rfl)
  · refine gx_iload_n C dX8_store_2 rfl ?_
    refine gx_bipush C dX8_store_3 rfl ?_
    refine gx_icmp_ge C dX8_store_5 rfl (by unfold gx_3; omega) (by unfold gx_3; omega) (fun hb5 => ?_) (fun hb5 => absurd (by omega) hb5)
    exact gx_vret C dX8_store_33 hI
