set_option maxRecDepth 100000 in
set_option maxHeartbeats 4000000 in
theorem c_X3_charactersIn {La : List gx_K} {M : gx_M} {N : Nat} (hN : N < 18446744073709551616) : gx_Ci La yX3_charactersIn wsX3_charactersIn 0 [gx_J (gl_l N)] M (fun z M' => M' = M ∧ ((∃ n, pt_ok N n ∧ z = (n : Int)) ∨ ((¬ ∃ n, pt_ok N n) ∧ z = 0))) := by
  have hw255 : Cond.constantLong RX3 19 255 ∈ wsX3_charactersIn := by decide +kernel
  have hlt : ∀ k, N / 256 ^ k < 18446744073709551616 := fun k => Nat.lt_of_le_of_lt (Nat.div_le_self _ _) hN
  refine gx_start_i (L := [gx_J (gl_l N), gx_U, gx_U, gx_U, gx_U, gx_U]) (by decide) rfl rfl (Nat.le_of_ble_eq_true rfl) rfl ?_
  intro _ _ _ _ _ _ _ _ _ _ _ _ C
  refine gx_lload_n C dX3_charactersIn_0 rfl ?_
  refine gx_lstore_n C dX3_charactersIn_1 (by decide) rfl ?_
  refine gx_iconst C dX3_charactersIn_2 ?_
  refine gx_istore C dX3_charactersIn_3 (by decide) rfl ?_
  refine gx_cut 57 (fun (k : Nat) => [gx_J (gl_l N), gx_U, gx_J (gl_l (N / 256 ^ k)), gx_U, gx_I (k : Int), gx_U]) (fun _ => []) (fun _ => M) (fun k => k ≤ 8 ∧ (∀ j, j < k → 33 ≤ pt_b N j ∧ pt_b N j ≤ 126) ∧ (k < 8 → pt_b N k = 0)) (fun k hq => ?_) (fun at57 => ?_)
  · obtain ⟨q1, q2, q3⟩ := hq
    obtain ⟨z, hz1, hz2, hz3, hz4⟩ := gl_cmp (hlt k)
    refine gx_lload_n C dX3_charactersIn_57 rfl ?_
    refine gx_lconst C dX3_charactersIn_58 ?_
    refine gx_lcmp C dX3_charactersIn_59 hz1 ?_
    refine gx_if_ne C dX3_charactersIn_60 rfl (by unfold gx_3; omega) (fun hb60 => ?_) (fun hb60 => ?_)
    · refine gx_iconst C dX3_charactersIn_68 ?_
      exact gx_iret C dX3_charactersIn_69 ⟨rfl, Or.inr ⟨pt_no (j := k) (fun h => hb60 (hz4.mpr h)) (fun h => by
        rcases Nat.lt_or_ge k 8 with g | g
        · rw [q3 g] at h
          omega
        · have h8 : k = 8 := by omega
          rw [h8] at hz4
          exact hb60 (hz4.mpr (Nat.div_eq_of_lt hN))), rfl⟩⟩
    · refine gx_iload C dX3_charactersIn_63 rfl ?_
      refine gx_goto C dX3_charactersIn_65 rfl ?_
      have h0 : N / 256 ^ k = 0 := hz4.mp (by omega)
      have fin : (∃ n, pt_ok N n ∧ (k : Int) = (n : Int)) ∨ ((¬ ∃ n, pt_ok N n) ∧ (k : Int) = 0) := by
        by_cases k0 : k = 0
        · subst k0
          refine Or.inr ⟨fun ⟨n, g⟩ => ?_, rfl⟩
          have h := (g.2.2.2 0 (by have := g.1; omega)).1
          unfold pt_b at h
          rw [h0] at h
          omega
        · exact Or.inl ⟨k, ⟨by omega, q1, h0, q2⟩, rfl⟩
      exact gx_iret C dX3_charactersIn_69 ⟨rfl, fin⟩
  · refine gx_lcast (L' := [gx_J (gl_l N), gx_U, gx_J (gl_l (N / 256 ^ 0)), gx_U, gx_I ((0 : Nat) : Int), gx_U]) (by rw [Nat.pow_zero, Nat.div_one]; rfl) ?_
    refine gx_for 8 (fun k (_ : Unit) => [gx_J (gl_l N), gx_U, gx_J (gl_l (N / 256 ^ k)), gx_U, gx_I (k : Int), gx_U]) (fun _ => M) (fun k _ => ∀ j, j < k → 33 ≤ pt_b N j ∧ pt_b N j ≤ 126) 0 () (by omega) (fun j hj => absurd hj (Nat.not_lt_zero j)) (fun k _ hk hI ih => ?_) (fun _ hI => ?_)
    · have hb256 : pt_b N k < 256 := Nat.mod_lt _ (by decide)
      have eand : gl_l (N / 256 ^ k) &&& 255 = gl_l (pt_b N k) := gl_and (hlt k)
      obtain ⟨z, hz1, hz2, hz3, hz4⟩ := gl_cmp (N := pt_b N k) (by omega)
      refine gx_iload C dX3_charactersIn_5 rfl ?_
      refine gx_bipush C dX3_charactersIn_7 rfl ?_
      refine gx_icmp_ge C dX3_charactersIn_9 rfl (by unfold gx_3; omega) (by unfold gx_3; omega) (fun hb9 => absurd hb9 (by omega)) (fun hb9 => ?_)
      refine gx_lload_n C dX3_charactersIn_12 rfl ?_
      refine gx_ldc2 C hw255 dX3_charactersIn_13 ?_
      refine gx_land C dX3_charactersIn_16 eand ?_
      refine gx_lconst C dX3_charactersIn_17 ?_
      refine gx_lcmp C dX3_charactersIn_18 hz1 ?_
      refine gx_if_eq C dX3_charactersIn_19 rfl (by unfold gx_3; omega) (fun hb19 => ?_) (fun hb19 => ?_)
      · exact at57 k ⟨by omega, hI, fun _ => hz4.mp hb19⟩
      · have hne : pt_b N k ≠ 0 := fun h => hb19 (hz4.mpr h)
        have hk0 : N / 256 ^ k ≠ 0 := fun h => hne (by unfold pt_b; rw [h])
        refine gx_lload_n C dX3_charactersIn_22 rfl ?_
        refine gx_ldc2 C hw255 dX3_charactersIn_23 ?_
        refine gx_land C dX3_charactersIn_26 eand ?_
        refine gx_l2i C dX3_charactersIn_27 (show (gl_l (pt_b N k)).toInt32 = gx_i ((pt_b N k : Nat) : Int) from gl_i0 ⟨pt_b N k, hb256⟩) ?_
        refine gx_istore C dX3_charactersIn_28 (by decide) rfl ?_
        refine gx_iload C dX3_charactersIn_30 rfl ?_
        refine gx_bipush C dX3_charactersIn_32 rfl ?_
        have bad : ¬(33 ≤ pt_b N k ∧ pt_b N k ≤ 126) → ((∃ n, pt_ok N n ∧ (0 : Int) = (n : Int)) ∨ ((¬ ∃ n, pt_ok N n) ∧ (0 : Int) = 0)) := fun h => Or.inr ⟨pt_no hk0 h, rfl⟩
        refine gx_icmp_lt C dX3_charactersIn_34 rfl (show gx_3 ((pt_b N k : Nat) : Int) by unfold gx_3; omega) (by unfold gx_3; omega) (fun hb34 => ?_) (fun hb34 => ?_)
        · refine gx_iconst C dX3_charactersIn_44 ?_
          exact gx_iret C dX3_charactersIn_45 ⟨rfl, bad (by omega)⟩
        · refine gx_iload C dX3_charactersIn_37 rfl ?_
          refine gx_bipush C dX3_charactersIn_39 rfl ?_
          refine gx_icmp_le C dX3_charactersIn_41 rfl (show gx_3 ((pt_b N k : Nat) : Int) by unfold gx_3; omega) (by unfold gx_3; omega) (fun hb41 => ?_) (fun hb41 => ?_)
          · refine gx_lload_n C dX3_charactersIn_46 rfl ?_
            refine gx_bipush C dX3_charactersIn_47 rfl ?_
            refine gx_lushr C dX3_charactersIn_49 (hlt k) (k := 8) rfl (by decide) ?_
            refine gx_lstore_n C dX3_charactersIn_50 (by decide) rfl ?_
            refine gx_iinc C dX3_charactersIn_51 (by decide) rfl rfl ?_
            refine gx_goto C dX3_charactersIn_54 rfl ?_
            refine gx_weak (L' := [gx_J (gl_l N), gx_U, gx_J (gl_l (N / 256 ^ k / 2 ^ 8)), gx_U, gx_I ((k + 1 : Nat) : Int), gx_U]) ⟨Or.inr rfl, Or.inl rfl, Or.inr rfl, Or.inl rfl, Or.inr rfl, Or.inl rfl, trivial⟩ ?_
            refine gx_lcast (L' := [gx_J (gl_l N), gx_U, gx_J (gl_l (N / 256 ^ (k + 1))), gx_U, gx_I ((k + 1 : Nat) : Int), gx_U]) (by rw [← pt_div]) (ih () (mx_all.mpr ⟨hI, by omega⟩))
          · refine gx_iconst C dX3_charactersIn_44 ?_
            exact gx_iret C dX3_charactersIn_45 ⟨rfl, bad (by omega)⟩
    · refine gx_iload C dX3_charactersIn_5 rfl ?_
      refine gx_bipush C dX3_charactersIn_7 rfl ?_
      refine gx_icmp_ge C dX3_charactersIn_9 rfl (by unfold gx_3; omega) (by unfold gx_3; omega) (fun hb9 => ?_) (fun hb9 => absurd (by omega) hb9)
      exact at57 8 ⟨Nat.le_refl _, hI, fun h => absurd h (by omega)⟩
set_option maxRecDepth 100000 in
set_option maxHeartbeats 4000000 in
theorem c_X3_append {La : List gx_K} (hL : gd_H La) {M : gx_M} {N n tn : Nat} (hN : N < 18446744073709551616) (hn : n ≤ 8) (h1 : M 14 1 = (tn : Int)) (htn : tn + n ≤ 60) : gx_Cv La yX3_append wsX3_append 0 [gx_R 14, gx_J (gl_l N), gx_I n] M (fun M' => (∀ c, c ≠ 14 → c ≠ 41 → M' c = M c) ∧ (∀ j, j ≠ 1 → M' 14 j = M 14 j) ∧ M' 14 1 = ((tn + n : Nat) : Int) ∧ ∀ j, M' 41 j = if tn ≤ j ∧ j < tn + n then ((pt_b N (n - 1 - (j - tn)) : Nat) : Int) else M 41 j) := by
  have hw255 : Cond.constantLong RX3 19 255 ∈ wsX3_append := by decide +kernel
  have hlt : ∀ k, N / 256 ^ k < 18446744073709551616 := fun k => Nat.lt_of_le_of_lt (Nat.div_le_self _ _) hN
  refine gx_start_v (L := [gx_R 14, gx_J (gl_l N), gx_U, gx_I n, gx_U]) (by decide) rfl rfl (Nat.le_of_ble_eq_true rfl) rfl ?_
  intro _ _ _ _ _ _ _ _ _ _ _ _ C
  refine gx_iload_n C dX3_append_0 rfl ?_
  refine gx_iconst C dX3_append_1 ?_
  refine gx_isub C dX3_append_2 ?_
  refine gx_istore C dX3_append_3 (by decide) rfl ?_
  refine gx_lcast (L' := [gx_R 14, gx_J (gl_l N), gx_U, gx_I (n : Int), gx_I ((n : Int) - 1 - ((0 : Nat) : Int))]) (by rw [show (n : Int) - 1 - ((0 : Nat) : Int) = (n : Int) - 1 by omega]; rfl) ?_
  refine gx_for n (fun i (_ : gx_M) => [gx_R 14, gx_J (gl_l N), gx_U, gx_I (n : Int), gx_I ((n : Int) - 1 - (i : Int))]) (fun M' => M') (fun i M' => (∀ c, c ≠ 14 → c ≠ 41 → M' c = M c) ∧ (∀ j, j ≠ 1 → M' 14 j = M 14 j) ∧ M' 14 1 = ((tn + i : Nat) : Int) ∧ ∀ j, M' 41 j = if tn ≤ j ∧ j < tn + i then ((pt_b N (n - 1 - (j - tn)) : Nat) : Int) else M 41 j) 0 M (by omega) ⟨fun _ _ _ => rfl, fun _ _ => rfl, by rw [h1]; rfl, fun j => by rw [if_neg (by omega)]⟩ (fun i M' hi hI ih => ?_) (fun M' hI => ?_)
  · obtain ⟨i1, i2, i3, i4⟩ := hI
    have hb256 : pt_b N (n - 1 - i) < 256 := Nat.mod_lt _ (by decide)
    have eand : gl_l (N / 2 ^ (8 * (n - 1 - i))) &&& 255 = gl_l (pt_b N (n - 1 - i)) := by
      rw [pt_2, gl_and (hlt _)]
      rfl
    refine gx_iload C dX3_append_5 rfl ?_
    refine gx_if_lt C dX3_append_7 rfl (by unfold gx_3; omega) (fun hb7 => absurd hb7 (by omega)) (fun hb7 => ?_)
    refine gx_aload_n C dX3_append_10 rfl ?_
    refine gx_getI C 3 _ 1 rfl (gd_14 hL) rfl (by decide) nX3_append_3 (gx_hts C _ fX3_append_21) dX3_append_11 i3 ?_
    refine gx_bipush C dX3_append_14 rfl ?_
    refine gx_icmp_ge C dX3_append_16 rfl (by unfold gx_3; omega) (by unfold gx_3; omega) (fun hb16 => absurd hb16 (by omega)) (fun hb16 => ?_)
    refine gx_aload_n C dX3_append_19 rfl ?_
    refine gx_getR C 3 _ 0 rfl (gd_14 hL) rfl (by decide) nX3_append_3 (gx_hts C _ fX3_append_9) dX3_append_20 ?_
    refine gx_aload_n C dX3_append_23 rfl ?_
    refine gx_getI C 3 _ 1 rfl (gd_14 hL) rfl (by decide) nX3_append_3 (gx_hts C _ fX3_append_21) dX3_append_24 i3 ?_
    refine gx_lload_n C dX3_append_27 rfl ?_
    refine gx_bipush C dX3_append_28 rfl ?_
    refine gx_iload C dX3_append_30 rfl ?_
    refine gx_imul C dX3_append_32 ?_
    refine gx_lushr C dX3_append_33 hN (k := 8 * (n - 1 - i)) (by omega) (by omega) ?_
    refine gx_ldc2 C hw255 dX3_append_34 ?_
    refine gx_land C dX3_append_37 eand ?_
    refine gx_l2i C dX3_append_38 (gl_i0 ⟨pt_b N (n - 1 - i), hb256⟩) ?_
    refine gx_i2c C dX3_append_39 (by show 0 ≤ ((pt_b N (n - 1 - i) : Nat) : Int) ∧ ((pt_b N (n - 1 - i) : Nat) : Int) < 256; omega) ?_
    refine gx_castore C (gd_41 hL) (by omega) (by show 0 ≤ ((pt_b N (n - 1 - i) : Nat) : Int) ∧ ((pt_b N (n - 1 - i) : Nat) : Int) < 65536; omega) dX3_append_40 (show _ = tn + i by omega) ?_
    refine gx_aload_n C dX3_append_41 rfl ?_
    refine gx_dup C dX3_append_42 rfl ?_
    refine gx_getI C 3 _ 1 rfl (gd_14 hL) rfl (by decide) nX3_append_3 (gx_hts C _ fX3_append_21) dX3_append_43 (show gx_u M' 41 (tn + i) ((pt_b N (n - 1 - i) : Nat) : Int) 14 1 = ((tn + i : Nat) : Int) from i3) ?_
    refine gx_iconst C dX3_append_46 ?_
    refine gx_iadd C dX3_append_47 ?_
    refine gx_putI C 3 _ 1 rfl (gd_14 hL) rfl (by decide) nX3_append_3 tyX3 tyX3_ok nmX3 (gx_hts C _ fX3_append_21) rfl rfl dX3_append_48 ?_
    refine gx_iinc C dX3_append_51 (by decide) rfl rfl ?_
    refine gx_goto C dX3_append_54 rfl ?_
    refine gx_lcast (L' := [gx_R 14, gx_J (gl_l N), gx_U, gx_I (n : Int), gx_I ((n : Int) - 1 - ((i + 1 : Nat) : Int))]) (by rw [show (n : Int) - 1 - ((i + 1 : Nat) : Int) = (n : Int) - 1 - (i : Int) + -1 by omega]; rfl) (ih _ ⟨fun c a b => by rw [gx_u_nc a, gx_u_nc b]; exact i1 c a b, fun j hj => by rw [gx_u_ne (by omega), gx_u_nc (by decide)]; exact i2 j hj, by rw [gx_u_eq]; omega, fun j => ?_⟩)
    rw [gx_u_nc (by decide), gx_u_at]
    by_cases e : j = tn + i
    · rw [if_pos ⟨rfl, e⟩, if_pos (by omega), e, show tn + i - tn = i by omega]
    · rw [if_neg (fun q => e q.2), i4]
      by_cases e2 : tn ≤ j ∧ j < tn + i
      · rw [if_pos e2, if_pos (by omega)]
      · rw [if_neg e2, if_neg (by omega)]
  · refine gx_iload C dX3_append_5 rfl ?_
    refine gx_if_lt C dX3_append_7 rfl (by unfold gx_3; omega) (fun hb7 => ?_) (fun hb7 => absurd (by omega) hb7)
    exact gx_vret C dX3_append_57 hI
