/-! WHAT THE CALLS ANSWER: for each call, from a desk s with its arguments, the answer z and the desk behind it -/
def sp_undo (s : sp_S) (z : Int) (s' : sp_S) : Prop :=
  if s.2.1.1 = 0 then z = -5 ∧ s' = s else z = (s.2.1.1 : Int) - 1 ∧ s' = (s.2.1.2 (s.2.1.1 - 1), (s.2.1.1 - 1, s.2.1.2), s.2.2.1, s.2.2.2)
def sp_save (s : sp_S) (j : Int) (z : Int) (s' : sp_S) : Prop :=
  if 0 ≤ j ∧ j ≤ 1 then z = s.1 81 ∧ s' = (s.1, s.2.1, (fun (i : Nat) => if (i : Int) = j then 1 else s.2.2.1.1 i, fun (i : Nat) => if (i : Int) = j then s.1 else s.2.2.1.2 i), s.2.2.2) else z = -2 ∧ s' = s
def sp_restore (s : sp_S) (j : Int) (z : Int) (s' : sp_S) : Prop :=
  if 0 ≤ j ∧ j ≤ 1 then (if s.2.2.1.1 j.toNat = 1 then z = s.2.2.1.2 j.toNat 81 ∧ s' = sp_push s (s.2.2.1.2 j.toNat) else z = -5 ∧ s' = s) else z = -2 ∧ s' = s
def sp_begin (s : sp_S) (a b : Int) (z : Int) (s' : sp_S) : Prop :=
  if (a = 2 ∨ a = 3) ∧ (b = 3 ∨ b = 5 ∨ b = 7 ∨ b = 11) then z = s.1 81 ∧ s' = sp_push s (zs_new a b) else z = -2 ∧ s' = s
/-- a number of a register changed, and the one across -/
def zs_set (Z : Nat → Int) (r i j : Nat) (v : Int) : Nat → Int := fun k => if k = 9 * r + 3 * j + i then v else if k = 9 * r + 3 * i + j then v else Z k
def sp_set (s : sp_S) (r i j v : Int) (z : Int) (s' : sp_S) : Prop :=
  if (0 ≤ r ∧ r ≤ 7) ∧ (0 ≤ i ∧ i < s.1 81 ∧ 0 ≤ j ∧ j < s.1 81) then (if 0 ≤ v ∧ v < s.1 82 then z = mx_of s.1 (9 * r.toNat) (3 * i.toNat + j.toNat) ∧ s' = sp_push s (zs_set s.1 r.toNat i.toNat j.toNat v) else z = -2 ∧ s' = s) else z = -1 ∧ s' = s
def mx_id (n : Int) : Nat → Int := fun k => if k % 4 = 0 ∧ ((k / 4 : Nat) : Int) < n then 1 else 0
def zs_put (Z : Nat → Int) (o : Nat) (f : Nat → Int) : Nat → Int := fun k => if o ≤ k ∧ k < o + 9 then f (k - o) else Z k
def sp_bel (s : sp_S) (r : Int) : Nat → Int := if r = -6 then mx_id (s.1 81) else mx_of s.1 (9 * r.toNat)
def sp_base (s : sp_S) (r : Int) (z : Int) (s' : sp_S) : Prop :=
  if r = -6 ∨ (0 ≤ r ∧ r ≤ 7) then (if mx_det (s.1 81).toNat (s.1 82) (sp_bel s r) = 0 then z = -5 ∧ s' = s else z = mx_det (s.1 81).toNat (s.1 82) (sp_bel s r) ∧ s' = sp_push s (zs_put s.1 72 (sp_bel s r))) else z = -1 ∧ s' = s
theorem sm_Rp {s : sp_S} {Z : Nat → Int} {M M1 : gx_M} (h : sm_R (sp_push s s.1) M) (h1 : ∀ k, k < 83 → M1 1 k = Z k) (h2 : ∀ c, c ≠ 1 → (c ≤ 5) → M1 c = M c) : sm_R (sp_push s Z) M1 := by
  obtain ⟨a1, a2, a3, a4, a5, a6, a7⟩ := h
  exact ⟨h1, by rw [h2 0 (by decide) (by decide)]; exact a2, fun i k hi hk => by rw [h2 2 (by decide) (by decide)]; exact a3 i k hi hk, fun j hj => by rw [h2 4 (by decide) (by decide)]; exact a4 j hj, fun j k hj hs hk => by rw [h2 3 (by decide) (by decide)]; exact a5 j k hj hs hk, by rw [h2 0 (by decide) (by decide)]; exact a6, fun i hi => by rw [h2 5 (by decide) (by decide)]; exact a7 i hi⟩
set_option maxRecDepth 100000 in
set_option maxHeartbeats 4000000 in
theorem c_X8_undo {La : List gx_K} (hM : gm_H La) {M : gx_M} {s : sp_S} (hs : sp_ok s) (hR : sm_R s M) : gx_Ci La yX8_undo wsX8_undo 0 [gx_R 0] M (fun z M' => ∃ s', sp_undo s z s' ∧ sm_Q s' M M') := by
  have hR0 := hR
  obtain ⟨h1, h2, h3, h4, h5, h6, h7⟩ := hR
  have hs6 := hs.2.1
  refine gx_start_i (L := [gx_R 0, gx_U]) (by decide) rfl rfl (Nat.le_of_ble_eq_true rfl) rfl ?_
  intro _ _ _ _ _ _ _ _ _ _ _ _ C
  refine gx_aload_n C dX8_undo_0 rfl ?_
  refine gx_getI C 8 _ 4 rfl (gm_0 hM) rfl (by decide) nX8_undo_8 (gx_hts C _ fX8_undo_53) dX8_undo_1 h2 ?_
  refine gx_if_ne C dX8_undo_4 rfl (by unfold gx_3; omega) (fun hb4 => ?_) (fun hb4 => ?_)
  · have hn : 0 < s.2.1.1 := by omega
    refine gx_aload_n C dX8_undo_10 rfl ?_
    refine gx_dup C dX8_undo_11 rfl ?_
    refine gx_getI C 8 _ 4 rfl (gm_0 hM) rfl (by decide) nX8_undo_8 (gx_hts C _ fX8_undo_53) dX8_undo_12 h2 ?_
    refine gx_iconst C dX8_undo_15 ?_
    refine gx_isub C dX8_undo_16 ?_
    refine gx_putI C 8 _ 4 rfl (gm_0 hM) rfl (by decide) nX8_undo_8 tyX8 tyX8_ok nmX8 (gx_hts C _ fX8_undo_53) rfl rfl dX8_undo_17 ?_
    refine gx_iconst C dX8_undo_20 ?_
    refine gx_istore_n C dX8_undo_21 (by decide) rfl ?_
    have f1 : ∀ j, j ≠ 4 → gx_u M 0 4 ((s.2.1.1 : Int) - 1) 0 j = M 0 j := fun j hj => gx_u_ne (by omega)
    refine gx_for 83 (fun k (_ : gx_M) => [gx_R 0, gx_I (k : Int)]) (fun M' => M') (fun k M' => M' = gx_blk (gx_u M 0 4 ((s.2.1.1 : Int) - 1)) 1 0 k (s.2.1.2 (s.2.1.1 - 1))) 0 _ (by omega) gx_blk_0.symm (fun k M' hk hI ih => ?_) (fun M' hI => ?_)
    · have e1 : M' 0 4 = (s.2.1.1 : Int) - 1 := by rw [hI, gx_blk_nc (by decide), gx_u_eq]
      have e2 : M' 2 ((((s.2.1.1 : Int) - 1) * 83 + (k : Int)).toNat) = s.2.1.2 (s.2.1.1 - 1) k := by
        rw [hI, gx_blk_nc (by decide), gx_u_nc (by decide), show (((s.2.1.1 : Int) - 1) * 83 + (k : Int)).toNat = 83 * (s.2.1.1 - 1) + k by omega]
        exact h3 _ k (by omega) hk
      refine gx_iload_n C dX8_undo_22 rfl ?_
      refine gx_bipush C dX8_undo_23 rfl ?_
      refine gx_icmp_ge C dX8_undo_25 rfl (by unfold gx_3; omega) (by unfold gx_3; omega) (fun hb25 => absurd hb25 (by omega)) (fun hb25 => ?_)
      refine gx_aload_n C dX8_undo_28 rfl ?_
      refine gx_getR C 8 _ 0 rfl (gm_0 hM) rfl (by decide) nX8_undo_8 (gx_hts C _ fX8_undo_7) dX8_undo_29 ?_
      refine gx_iload_n C dX8_undo_32 rfl ?_
      refine gx_aload_n C dX8_undo_33 rfl ?_
      refine gx_getR C 8 _ 1 rfl (gm_0 hM) rfl (by decide) nX8_undo_8 (gx_hts C _ fX8_undo_13) dX8_undo_34 ?_
      refine gx_aload_n C dX8_undo_37 rfl ?_
      refine gx_getI C 8 _ 4 rfl (gm_0 hM) rfl (by decide) nX8_undo_8 (gx_hts C _ fX8_undo_53) dX8_undo_38 e1 ?_
      refine gx_bipush C dX8_undo_41 rfl ?_
      refine gx_imul C dX8_undo_43 ?_
      refine gx_iload_n C dX8_undo_44 rfl ?_
      refine gx_iadd C dX8_undo_45 ?_
      refine gx_iaload C (gm_2 hM) (by omega) dX8_undo_46 e2 ?_
      refine gx_iastore C (gm_1 hM) (by omega) dX8_undo_47 (show _ = 0 + k by omega) ?_
      refine gx_iinc C dX8_undo_48 (by decide) rfl rfl ?_
      refine gx_goto C dX8_undo_51 rfl ?_
      exact ih _ (by rw [hI]; exact gx_blk_s rfl)
    · have e1 : M' 0 4 = (s.2.1.1 : Int) - 1 := by rw [hI, gx_blk_nc (by decide), gx_u_eq]
      have f0 : ∀ c, c ≠ 0 → c ≠ 1 → M' c = M c := fun c a b => by rw [hI, gx_blk_nc b, gx_u_nc a]
      have f2 : ∀ j, j ≠ 4 → M' 0 j = M 0 j := fun j hj => by rw [hI, gx_blk_nc (by decide)]; exact f1 j hj
      have fin : sm_Q (s.2.1.2 (s.2.1.1 - 1), (s.2.1.1 - 1, s.2.1.2), s.2.2.1, s.2.2.2) M M' := by
        refine ⟨⟨fun k hk => ?_, by rw [e1]; show _ = ((s.2.1.1 - 1 : Nat) : Int); omega, fun i k hi hk => ?_, fun j hj => by rw [f0 4 (by decide) (by decide)]; exact h4 j hj, fun j k hj hs hk => by rw [f0 3 (by decide) (by decide)]; exact h5 j k hj hs hk, by rw [f2 6 (by decide)]; exact h6, fun i hi => by rw [f0 5 (by decide) (by decide)]; exact h7 i hi⟩, fun c hc => f0 c (by omega) (by omega)⟩
        · rw [hI]
          have := gx_blk_in (M := gx_u M 0 4 ((s.2.1.1 : Int) - 1)) (c := 1) (o := 0) (n := 83) (k := k) (f := s.2.1.2 (s.2.1.1 - 1)) hk
          rw [Nat.zero_add] at this
          exact this
        · have hi2 : i < s.2.1.1 - 1 := hi
          rw [f0 2 (by decide) (by decide)]
          exact h3 i k (by omega) hk
      refine gx_iload_n C dX8_undo_22 rfl ?_
      refine gx_bipush C dX8_undo_23 rfl ?_
      refine gx_icmp_ge C dX8_undo_25 rfl (by unfold gx_3; omega) (by unfold gx_3; omega) (fun hb25 => ?_) (fun hb25 => absurd (by omega) hb25)
      refine gx_aload_n C dX8_undo_54 rfl ?_
      refine gx_getI C 8 _ 4 rfl (gm_0 hM) rfl (by decide) nX8_undo_8 (gx_hts C _ fX8_undo_53) dX8_undo_55 e1 ?_
      exact gx_iret C dX8_undo_58 ⟨_, by unfold sp_undo; rw [if_neg (by omega)]; exact ⟨rfl, rfl⟩, fin⟩
  · refine gx_bipush C dX8_undo_7 rfl ?_
    exact gx_iret C dX8_undo_9 ⟨s, by unfold sp_undo; rw [if_pos (by omega)]; exact ⟨rfl, rfl⟩, sm_XQ hR0 (gm_Xr M)⟩
set_option maxRecDepth 100000 in
set_option maxHeartbeats 4000000 in
theorem c_X8_save {La : List gx_K} (hM : gm_H La) {M : gx_M} {s : sp_S} (hs : sp_ok s) (hR : sm_R s M) {x : Int} (hx : gx_3 x) : gx_Ci La yX8_save wsX8_save 1 [gx_R 0, gx_I x] M (fun z M' => ∃ s', sp_save s x z s' ∧ sm_Q s' M M') := by
  have hR0 := hR
  obtain ⟨h1, h2, h3, h4, h5, h6, h7⟩ := hR
  refine gx_start_i (L := [gx_R 0, gx_I x, gx_U]) (by decide) rfl rfl (Nat.le_of_ble_eq_true rfl) rfl ?_
  intro _ _ _ _ _ _ _ _ _ _ _ _ C
  refine gx_iload_n C dX8_save_0 rfl ?_
  refine gx_iconst C dX8_save_1 ?_
  refine gx_iconst C dX8_save_2 ?_
  refine gx_statI C (c_X8_in hx (by unfold gx_3; omega) (by unfold gx_3; omega)) (cwS 3 (gx_hts C) gX8_save_X8_in rfl rfl rfl (by decide +kernel) ⟨Nat.le_of_ble_eq_true rfl, Nat.le_of_ble_eq_true rfl⟩) rfl rfl (Nat.le_of_ble_eq_true rfl) ⟨Nat.le_refl _, Nat.le_refl _⟩ dX8_save_3 (fun z M1 hz => ?_)
  obtain ⟨rfl, hz⟩ := hz
  by_cases hq : 0 ≤ x ∧ x ≤ 1
  · rw [if_pos hq] at hz
    subst hz
    obtain ⟨j, rfl⟩ : ∃ j : Nat, x = j := ⟨x.toNat, by omega⟩
    have hj2 : j < 2 := by omega
    refine gx_if_ne C dX8_save_6 rfl (by unfold gx_3; omega) (fun hb6 => ?_) (fun hb6 => absurd (by omega) hb6)
    refine gx_aload_n C dX8_save_12 rfl ?_
    refine gx_getR C 8 _ 3 rfl (gm_0 hM) rfl (by decide) nX8_save_8 (gx_hts C _ fX8_save_19) dX8_save_13 ?_
    refine gx_iload_n C dX8_save_16 rfl ?_
    refine gx_iconst C dX8_save_17 ?_
    refine gx_bastore C (gm_4 hM) (by omega) (by omega) dX8_save_18 (show _ = j by omega) ?_
    refine gx_iconst C dX8_save_19 ?_
    refine gx_istore_n C dX8_save_20 (by decide) rfl ?_
    refine gx_for 83 (fun k (_ : gx_M) => [gx_R 0, gx_I (j : Int), gx_I (k : Int)]) (fun M' => M') (fun k M' => M' = gx_blk (gx_u M1 4 j 1) 3 (83 * j) k s.1) 0 _ (by omega) gx_blk_0.symm (fun k M' hk hI ih => ?_) (fun M' hI => ?_)
    · have e2 : M' 1 ((k : Int).toNat) = s.1 k := by rw [hI, gx_blk_nc (by decide), gx_u_nc (by decide)]; exact h1 k hk
      refine gx_iload_n C dX8_save_21 rfl ?_
      refine gx_bipush C dX8_save_22 rfl ?_
      refine gx_icmp_ge C dX8_save_24 rfl (by unfold gx_3; omega) (by unfold gx_3; omega) (fun hb24 => absurd hb24 (by omega)) (fun hb24 => ?_)
      refine gx_aload_n C dX8_save_27 rfl ?_
      refine gx_getR C 8 _ 2 rfl (gm_0 hM) rfl (by decide) nX8_save_8 (gx_hts C _ fX8_save_16) dX8_save_28 ?_
      refine gx_iload_n C dX8_save_31 rfl ?_
      refine gx_bipush C dX8_save_32 rfl ?_
      refine gx_imul C dX8_save_34 ?_
      refine gx_iload_n C dX8_save_35 rfl ?_
      refine gx_iadd C dX8_save_36 ?_
      refine gx_aload_n C dX8_save_37 rfl ?_
      refine gx_getR C 8 _ 0 rfl (gm_0 hM) rfl (by decide) nX8_save_8 (gx_hts C _ fX8_save_7) dX8_save_38 ?_
      refine gx_iload_n C dX8_save_41 rfl ?_
      refine gx_iaload C (gm_1 hM) (by omega) dX8_save_42 e2 ?_
      refine gx_iastore C (gm_3 hM) (by omega) dX8_save_43 (show _ = 83 * j + k by omega) ?_
      refine gx_iinc C dX8_save_44 (by decide) rfl rfl ?_
      refine gx_goto C dX8_save_47 rfl ?_
      exact ih _ (by rw [hI]; exact gx_blk_s rfl)
    · have e2 : M' 1 ((81 : Int).toNat) = s.1 81 := by rw [hI, gx_blk_nc (by decide), gx_u_nc (by decide)]; exact h1 81 (by omega)
      have f0 : ∀ c, c ≠ 3 → c ≠ 4 → M' c = M1 c := fun c a b => by rw [hI, gx_blk_nc a, gx_u_nc b]
      have fin : sm_Q (s.1, s.2.1, (fun (i : Nat) => if (i : Int) = (j : Int) then 1 else s.2.2.1.1 i, fun (i : Nat) => if (i : Int) = (j : Int) then s.1 else s.2.2.1.2 i), s.2.2.2) M1 M' := by
        refine ⟨⟨fun k hk => by rw [f0 1 (by decide) (by decide)]; exact h1 k hk, by rw [f0 0 (by decide) (by decide)]; exact h2, fun i k hi hk => by rw [f0 2 (by decide) (by decide)]; exact h3 i k hi hk, fun i hi => ?_, fun i k hi hsv hk => ?_, by rw [f0 0 (by decide) (by decide)]; exact h6, fun i hi => by rw [f0 5 (by decide) (by decide)]; exact h7 i hi⟩, fun c hc => f0 c (by omega) (by omega)⟩
        · rw [hI, gx_blk_nc (by decide)]
          show _ = if (i : Int) = (j : Int) then 1 else s.2.2.1.1 i
          by_cases e : i = j
          · rw [if_pos (by omega), e, gx_u_eq]
          · rw [if_neg (by omega), gx_u_ne (by omega)]
            exact h4 i hi
        · rw [hI]
          show _ = (if (i : Int) = (j : Int) then s.1 else s.2.2.1.2 i) k
          by_cases e : i = j
          · rw [if_pos (by omega), e, gx_blk_in hk]
          · have hsv2 : (if (i : Int) = (j : Int) then 1 else s.2.2.1.1 i) = 1 := hsv
            rw [if_neg (by omega)] at hsv2
            rw [if_neg (by omega), gx_blk_out (by omega), gx_u_nc (by decide)]
            exact h5 i k hi hsv2 hk
      refine gx_iload_n C dX8_save_21 rfl ?_
      refine gx_bipush C dX8_save_22 rfl ?_
      refine gx_icmp_ge C dX8_save_24 rfl (by unfold gx_3; omega) (by unfold gx_3; omega) (fun hb24 => ?_) (fun hb24 => absurd (by omega) hb24)
      refine gx_aload_n C dX8_save_50 rfl ?_
      refine gx_getR C 8 _ 0 rfl (gm_0 hM) rfl (by decide) nX8_save_8 (gx_hts C _ fX8_save_7) dX8_save_51 ?_
      refine gx_bipush C dX8_save_54 rfl ?_
      refine gx_iaload C (gm_1 hM) (by omega) dX8_save_56 e2 ?_
      exact gx_iret C dX8_save_57 ⟨_, by unfold sp_save; rw [if_pos hq]; exact ⟨rfl, rfl⟩, fin⟩
  · rw [if_neg hq] at hz
    subst hz
    refine gx_if_ne C dX8_save_6 rfl (by unfold gx_3; omega) (fun hb6 => absurd hb6 (by omega)) (fun hb6 => ?_)
    refine gx_bipush C dX8_save_9 rfl ?_
    exact gx_iret C dX8_save_11 ⟨s, by unfold sp_save; rw [if_neg hq]; exact ⟨rfl, rfl⟩, sm_XQ hR0 (gm_Xr M1)⟩
theorem gx_b0 {M : gx_M} {c n k : Nat} {f : Nat → Int} (h : k < n) : gx_blk M c 0 n f c k = f k := by
  have := gx_blk_in (M := M) (c := c) (o := 0) (n := n) (k := k) (f := f) h
  rwa [Nat.zero_add] at this
set_option maxRecDepth 100000 in
set_option maxHeartbeats 4000000 in
theorem c_X8_restore {La : List gx_K} (hM : gm_H La) {M : gx_M} {s : sp_S} (hs : sp_ok s) (hR : sm_R s M) {x : Int} (hx : gx_3 x) : gx_Ci La yX8_restore wsX8_restore 1 [gx_R 0, gx_I x] M (fun z M' => ∃ s', sp_restore s x z s' ∧ sm_Q s' M M') := by
  have hR0 := hR
  obtain ⟨h1, h2, h3, h4, h5, h6, h7⟩ := hR
  refine gx_start_i (L := [gx_R 0, gx_I x, gx_U]) (by decide) rfl rfl (Nat.le_of_ble_eq_true rfl) rfl ?_
  intro _ _ _ _ _ _ _ _ _ _ _ _ C
  refine gx_iload_n C dX8_restore_0 rfl ?_
  refine gx_iconst C dX8_restore_1 ?_
  refine gx_iconst C dX8_restore_2 ?_
  refine gx_statI C (c_X8_in hx (by unfold gx_3; omega) (by unfold gx_3; omega)) (cwS 3 (gx_hts C) gX8_restore_X8_in rfl rfl rfl (by decide +kernel) ⟨Nat.le_of_ble_eq_true rfl, Nat.le_of_ble_eq_true rfl⟩) rfl rfl (Nat.le_of_ble_eq_true rfl) ⟨Nat.le_refl _, Nat.le_refl _⟩ dX8_restore_3 (fun z M1 hz => ?_)
  obtain ⟨rfl, hz⟩ := hz
  by_cases hq : 0 ≤ x ∧ x ≤ 1
  · rw [if_pos hq] at hz
    subst hz
    obtain ⟨j, rfl⟩ : ∃ j : Nat, x = j := ⟨x.toNat, by omega⟩
    have hj2 : j < 2 := by omega
    have hsv := hs.2.2.2.1 j hj2
    have e4 : M1 4 ((j : Int).toNat) = s.2.2.1.1 j := h4 j hj2
    refine gx_if_ne C dX8_restore_6 rfl (by unfold gx_3; omega) (fun hb6 => ?_) (fun hb6 => absurd (by omega) hb6)
    refine gx_aload_n C dX8_restore_12 rfl ?_
    refine gx_getR C 8 _ 3 rfl (gm_0 hM) rfl (by decide) nX8_restore_8 (gx_hts C _ fX8_restore_19) dX8_restore_13 ?_
    refine gx_iload_n C dX8_restore_16 rfl ?_
    refine gx_baload C (gm_4 hM) (by omega) dX8_restore_17 e4 ?_
    refine gx_if_ne C dX8_restore_18 rfl (by unfold gx_3; omega) (fun hb18 => ?_) (fun hb18 => ?_)
    · have hsv1 : s.2.2.1.1 j = 1 := by omega
      refine gx_aload_n C dX8_restore_24 rfl ?_
      refine gx_callV C 8 rfl (gm_0 hM) (c_X8_record hM hR0 hs.2.1) (cwV 0 (gx_hts C) gX8_restore_X8_record rfl rfl rfl (by decide +kernel) ⟨Nat.le_of_ble_eq_true rfl, Nat.le_of_ble_eq_true rfl⟩) rfl rfl (Nat.le_of_ble_eq_true rfl) ⟨Nat.le_refl _, Nat.le_refl _⟩ dX8_restore_25 (fun M2 h8 => ?_)
      obtain ⟨⟨hR2, hF2⟩, h9, h10⟩ := h8
      have e3 : M2 3 = M1 3 := h9 3 (by decide) (by decide)
      refine gx_iconst C dX8_restore_28 ?_
      refine gx_istore_n C dX8_restore_29 (by decide) rfl ?_
      refine gx_for 83 (fun k (_ : gx_M) => [gx_R 0, gx_I (j : Int), gx_I (k : Int)]) (fun M' => M') (fun k M' => M' = gx_blk M2 1 0 k (s.2.2.1.2 j)) 0 _ (by omega) gx_blk_0.symm (fun k M' hk hI ih => ?_) (fun M' hI => ?_)
      · have e2 : M' 3 (((j : Int) * 83 + (k : Int)).toNat) = s.2.2.1.2 j k := by
          rw [hI, gx_blk_nc (by decide), e3, show ((j : Int) * 83 + (k : Int)).toNat = 83 * j + k by omega]
          exact h5 j k hj2 hsv1 hk
        refine gx_iload_n C dX8_restore_30 rfl ?_
        refine gx_bipush C dX8_restore_31 rfl ?_
        refine gx_icmp_ge C dX8_restore_33 rfl (by unfold gx_3; omega) (by unfold gx_3; omega) (fun hb33 => absurd hb33 (by omega)) (fun hb33 => ?_)
        refine gx_aload_n C dX8_restore_36 rfl ?_
        refine gx_getR C 8 _ 0 rfl (gm_0 hM) rfl (by decide) nX8_restore_8 (gx_hts C _ fX8_restore_7) dX8_restore_37 ?_
        refine gx_iload_n C dX8_restore_40 rfl ?_
        refine gx_aload_n C dX8_restore_41 rfl ?_
        refine gx_getR C 8 _ 2 rfl (gm_0 hM) rfl (by decide) nX8_restore_8 (gx_hts C _ fX8_restore_16) dX8_restore_42 ?_
        refine gx_iload_n C dX8_restore_45 rfl ?_
        refine gx_bipush C dX8_restore_46 rfl ?_
        refine gx_imul C dX8_restore_48 ?_
        refine gx_iload_n C dX8_restore_49 rfl ?_
        refine gx_iadd C dX8_restore_50 ?_
        refine gx_iaload C (gm_3 hM) (by omega) dX8_restore_51 e2 ?_
        refine gx_iastore C (gm_1 hM) (by omega) dX8_restore_52 (show _ = 0 + k by omega) ?_
        refine gx_iinc C dX8_restore_53 (by decide) rfl rfl ?_
        refine gx_goto C dX8_restore_56 rfl ?_
        exact ih _ (by rw [hI]; exact gx_blk_s rfl)
      · have e2 : M' 1 ((81 : Int).toNat) = s.2.2.1.2 j 81 := by rw [hI]; exact gx_b0 (by omega)
        have fin : sm_Q (sp_push s (s.2.2.1.2 j)) M1 M' := ⟨sm_Rp hR2 (fun k hk => by rw [hI]; exact gx_b0 hk) (fun c hc _ => by rw [hI, gx_blk_nc hc]), fun c hc => by rw [hI, gx_blk_nc (by omega), hF2 c hc]⟩
        refine gx_iload_n C dX8_restore_30 rfl ?_
        refine gx_bipush C dX8_restore_31 rfl ?_
        refine gx_icmp_ge C dX8_restore_33 rfl (by unfold gx_3; omega) (by unfold gx_3; omega) (fun hb33 => ?_) (fun hb33 => absurd (by omega) hb33)
        refine gx_aload_n C dX8_restore_59 rfl ?_
        refine gx_getR C 8 _ 0 rfl (gm_0 hM) rfl (by decide) nX8_restore_8 (gx_hts C _ fX8_restore_7) dX8_restore_60 ?_
        refine gx_bipush C dX8_restore_63 rfl ?_
        refine gx_iaload C (gm_1 hM) (by omega) dX8_restore_65 e2 ?_
        exact gx_iret C dX8_restore_66 ⟨_, by unfold sp_restore; rw [if_pos hq]; show (if s.2.2.1.1 j = 1 then _ else _); rw [if_pos hsv1]; exact ⟨rfl, rfl⟩, fin⟩
    · refine gx_bipush C dX8_restore_21 rfl ?_
      exact gx_iret C dX8_restore_23 ⟨s, by unfold sp_restore; rw [if_pos hq]; show (if s.2.2.1.1 j = 1 then _ else _); rw [if_neg (by omega)]; exact ⟨rfl, rfl⟩, sm_XQ hR0 (gm_Xr M1)⟩
  · rw [if_neg hq] at hz
    subst hz
    refine gx_if_ne C dX8_restore_6 rfl (by unfold gx_3; omega) (fun hb6 => absurd hb6 (by omega)) (fun hb6 => ?_)
    refine gx_bipush C dX8_restore_9 rfl ?_
    exact gx_iret C dX8_restore_11 ⟨s, by unfold sp_restore; rw [if_neg hq]; exact ⟨rfl, rfl⟩, sm_XQ hR0 (gm_Xr M1)⟩
set_option maxRecDepth 100000 in
set_option maxHeartbeats 4000000 in
theorem c_X8_begin {La : List gx_K} (hM : gm_H La) {M : gx_M} {s : sp_S} (hs : sp_ok s) (hR : sm_R s M) {a b : Int} (ha : gx_3 a) (hb : gx_3 b) : gx_Ci La yX8_begin wsX8_begin 1 [gx_R 0, gx_I a, gx_I b] M (fun z M' => ∃ s', sp_begin s a b z s' ∧ sm_Q s' M M') := by
  refine gx_start_i (L := [gx_R 0, gx_I a, gx_I b, gx_U, gx_U]) (by decide) rfl rfl (Nat.le_of_ble_eq_true rfl) rfl ?_
  intro _ _ _ _ _ _ _ _ _ _ _ _ C
  have good : ∀ {l D tc ad p e s2 m args below meth c} (C : gx_C p (gx_rm 1) s2 m args meth c cX8_begin yX8_begin.cls 5 wsX8_begin (some .int) D tc ad La (gx_A ad La.length s2.heap.size) s2.heap) (q : Int), (q = 1 ∧ (b = 3 ∨ b = 5 ∨ b = 7 ∨ b = 11)) ∨ (q = 0 ∧ ¬(b = 3 ∨ b = 5 ∨ b = 7 ∨ b = 11)) → gx_G p l e (gx_rm 1) s2 m args below meth c 0 0 (MQ below (va_Qi (fun r (M' : gx_M) => ∃ z, r = gx_i z ∧ ∃ s', sp_begin s a b z s' ∧ sm_Q s' M M') (fun M' t => va_P D vwCl (gx_w La tc ad M') t.heap) (gx_A ad La.length s2.heap.size)) args s2 0 0 (gx_A ad La.length s2.heap.size)) 5 D tc ad La (gx_A ad La.length s2.heap.size) s2.heap 27 [gx_R 0, gx_I a, gx_I b, gx_U, gx_U] [gx_I q] M := by
    intro l D tc ad p e s2 m args below meth c C q hq
    have bad : ¬((a = 2 ∨ a = 3) ∧ (b = 3 ∨ b = 5 ∨ b = 7 ∨ b = 11)) → ∃ s', sp_begin s a b (-2) s' ∧ sm_Q s' M M := fun h => ⟨s, by unfold sp_begin; rw [if_neg h]; exact ⟨rfl, rfl⟩, sm_XQ hR (gm_Xr M)⟩
    refine gx_istore_n C dX8_begin_27 (by decide) rfl ?_
    refine gx_iload_n C dX8_begin_28 rfl ?_
    rcases hq with ⟨rfl, hq⟩ | ⟨rfl, hq⟩
    · refine gx_if_eq C dX8_begin_29 rfl (by unfold gx_3; omega) (fun hb29 => absurd hb29 (by omega)) (fun hb29 => ?_)
      refine gx_iload_n C dX8_begin_32 rfl ?_
      refine gx_iconst C dX8_begin_33 ?_
      refine gx_iconst C dX8_begin_34 ?_
      refine gx_statI C (c_X8_in ha (by unfold gx_3; omega) (by unfold gx_3; omega)) (cwS 3 (gx_hts C) gX8_begin_X8_in rfl rfl rfl (by decide +kernel) ⟨Nat.le_of_ble_eq_true rfl, Nat.le_of_ble_eq_true rfl⟩) rfl rfl (Nat.le_of_ble_eq_true rfl) ⟨Nat.le_refl _, Nat.le_refl _⟩ dX8_begin_35 (fun z M1 hz => ?_)
      obtain ⟨rfl, hz⟩ := hz
      by_cases hw : 2 ≤ a ∧ a ≤ 3
      · rw [if_pos hw] at hz
        subst hz
        refine gx_if_ne C dX8_begin_38 rfl (by unfold gx_3; omega) (fun hb38 => ?_) (fun hb38 => absurd (by omega) hb38)
        refine gx_aload_n C dX8_begin_44 rfl ?_
        refine gx_callV C 8 rfl (gm_0 hM) (c_X8_record hM hR hs.2.1) (cwV 0 (gx_hts C) gX8_begin_X8_record rfl rfl rfl (by decide +kernel) ⟨Nat.le_of_ble_eq_true rfl, Nat.le_of_ble_eq_true rfl⟩) rfl rfl (Nat.le_of_ble_eq_true rfl) ⟨Nat.le_refl _, Nat.le_refl _⟩ dX8_begin_45 (fun M2 h8 => ?_)
        obtain ⟨⟨hR2, hF2⟩, h9, h10⟩ := h8
        have e1 : M2 1 ((81 : Int).toNat) = s.1 81 := hR2.1 81 (by omega)
        refine gx_aload_n C dX8_begin_48 rfl ?_
        refine gx_getR C 8 _ 0 rfl (gm_0 hM) rfl (by decide) nX8_begin_8 (gx_hts C _ fX8_begin_7) dX8_begin_49 ?_
        refine gx_bipush C dX8_begin_52 rfl ?_
        refine gx_iaload C (gm_1 hM) (by omega) dX8_begin_54 e1 ?_
        refine gx_istore C dX8_begin_55 (by decide) rfl ?_
        refine gx_aload_n C dX8_begin_57 rfl ?_
        refine gx_iload_n C dX8_begin_58 rfl ?_
        refine gx_iload_n C dX8_begin_59 rfl ?_
        refine gx_callV C 8 rfl (gm_0 hM) (c_X8_clear hM (n := a) (m := b) (by omega)) (cwV 2 (gx_hts C) gX8_begin_X8_clear rfl rfl rfl (by decide +kernel) ⟨Nat.le_of_ble_eq_true rfl, Nat.le_of_ble_eq_true rfl⟩) rfl rfl (Nat.le_of_ble_eq_true rfl) ⟨Nat.le_refl _, Nat.le_refl _⟩ dX8_begin_60 (fun M3 h8 => ?_)
        refine gx_iload C dX8_begin_63 rfl ?_
        have fin : sm_Q (sp_push s (zs_new a b)) M1 M3 := ⟨sm_Rp hR2 (fun k hk => by rw [h8]; exact gx_b0 hk) (fun c hc _ => by rw [h8, gx_blk_nc hc]), fun c hc => by rw [h8, gx_blk_nc (by omega), hF2 c hc]⟩
        exact gx_iret C dX8_begin_65 ⟨_, by unfold sp_begin; rw [if_pos ⟨by omega, hq⟩]; exact ⟨rfl, rfl⟩, fin⟩
      · rw [if_neg hw] at hz
        subst hz
        refine gx_if_ne C dX8_begin_38 rfl (by unfold gx_3; omega) (fun hb38 => absurd hb38 (by omega)) (fun hb38 => ?_)
        refine gx_bipush C dX8_begin_41 rfl ?_
        exact gx_iret C dX8_begin_43 (bad (fun h => hw (by omega)))
    · refine gx_if_eq C dX8_begin_29 rfl (by unfold gx_3; omega) (fun hb29 => ?_) (fun hb29 => absurd (by omega) hb29)
      refine gx_bipush C dX8_begin_41 rfl ?_
      exact gx_iret C dX8_begin_43 (bad (fun h => hq h.2))
  refine gx_iload_n C dX8_begin_0 rfl ?_
  refine gx_iconst C dX8_begin_1 ?_
  refine gx_icmp_eq C dX8_begin_2 rfl hb (by unfold gx_3; omega) (fun hb2 => ?_) (fun hb2 => ?_)
  · refine gx_iconst C dX8_begin_22 ?_
    refine gx_goto C dX8_begin_23 rfl ?_
    exact good C 1 (Or.inl ⟨rfl, by omega⟩)
  · refine gx_iload_n C dX8_begin_5 rfl ?_
    refine gx_iconst C dX8_begin_6 ?_
    refine gx_icmp_eq C dX8_begin_7 rfl hb (by unfold gx_3; omega) (fun hb7 => ?_) (fun hb7 => ?_)
    · refine gx_iconst C dX8_begin_22 ?_
      refine gx_goto C dX8_begin_23 rfl ?_
      exact good C 1 (Or.inl ⟨rfl, by omega⟩)
    · refine gx_iload_n C dX8_begin_10 rfl ?_
      refine gx_bipush C dX8_begin_11 rfl ?_
      refine gx_icmp_eq C dX8_begin_13 rfl hb (by unfold gx_3; omega) (fun hb13 => ?_) (fun hb13 => ?_)
      · refine gx_iconst C dX8_begin_22 ?_
        refine gx_goto C dX8_begin_23 rfl ?_
        exact good C 1 (Or.inl ⟨rfl, by omega⟩)
      · refine gx_iload_n C dX8_begin_16 rfl ?_
        refine gx_bipush C dX8_begin_17 rfl ?_
        refine gx_icmp_ne C dX8_begin_19 rfl hb (by unfold gx_3; omega) (fun hb19 => ?_) (fun hb19 => ?_)
        · refine gx_iconst C dX8_begin_26 ?_
          exact good C 0 (Or.inr ⟨rfl, by omega⟩)
        · refine gx_iconst C dX8_begin_22 ?_
          refine gx_goto C dX8_begin_23 rfl ?_
          exact good C 1 (Or.inl ⟨rfl, by omega⟩)
set_option maxRecDepth 100000 in
set_option maxHeartbeats 4000000 in
theorem c_X8_set {La : List gx_K} (hM : gm_H La) {M : gx_M} {s : sp_S} (hs : sp_ok s) (hR : sm_R s M) {r i j v : Int} (hr : gx_3 r) (hi : gx_3 i) (hj : gx_3 j) (hv : gx_3 v) : gx_Ci La yX8_set wsX8_set 2 [gx_R 0, gx_I r, gx_I i, gx_I j, gx_I v] M (fun z M' => ∃ s', sp_set s r i j v z s' ∧ sm_Q s' M M') := by
  have hz := sm_Z hs hR
  have hzm := gm_Zm hz
  have hn := sm_n hs
  have bad1 : ¬((0 ≤ r ∧ r ≤ 7) ∧ (0 ≤ i ∧ i < s.1 81 ∧ 0 ≤ j ∧ j < s.1 81)) → ∃ s', sp_set s r i j v (-1) s' ∧ sm_Q s' M M := fun h => ⟨s, by unfold sp_set; rw [if_neg h]; exact ⟨rfl, rfl⟩, sm_XQ hR (gm_Xr M)⟩
  refine gx_start_i (L := [gx_R 0, gx_I r, gx_I i, gx_I j, gx_I v, gx_U]) (by decide) rfl rfl (Nat.le_of_ble_eq_true rfl) rfl ?_
  intro _ _ _ _ _ _ _ _ _ _ _ _ C
  refine gx_iload_n C dX8_set_0 rfl ?_
  refine gx_statI C (c_X8_isRegister hr) (cwS 1 (gx_hts C) gX8_set_X8_isRegister rfl rfl rfl (by decide +kernel) ⟨Nat.le_of_ble_eq_true rfl, Nat.le_of_ble_eq_true rfl⟩) rfl rfl (Nat.le_of_ble_eq_true rfl) ⟨Nat.le_refl _, Nat.le_refl _⟩ dX8_set_1 (fun z M1 h1 => ?_)
  obtain ⟨rfl, h1⟩ := h1
  by_cases hq : 0 ≤ r ∧ r ≤ 7
  · rw [if_pos hq] at h1
    subst h1
    refine gx_if_eq C dX8_set_4 rfl (by unfold gx_3; omega) (fun hb4 => absurd hb4 (by omega)) (fun hb4 => ?_)
    refine gx_aload_n C dX8_set_7 rfl ?_
    refine gx_iload_n C dX8_set_8 rfl ?_
    refine gx_iload_n C dX8_set_9 rfl ?_
    refine gx_callI C 8 rfl (gm_0 hM) (c_X8_isCell hM hz hi hj) (cwV 2 (gx_hts C) gX8_set_X8_isCell rfl rfl rfl (by decide +kernel) ⟨Nat.le_of_ble_eq_true rfl, Nat.le_of_ble_eq_true rfl⟩) rfl rfl (Nat.le_of_ble_eq_true rfl) ⟨Nat.le_refl _, Nat.le_refl _⟩ dX8_set_10 (fun z M2 h1 => ?_)
    obtain ⟨rfl, h1⟩ := h1
    by_cases hw : 0 ≤ i ∧ i < ((s.1 81).toNat : Int) ∧ 0 ≤ j ∧ j < ((s.1 81).toNat : Int)
    · rw [if_pos hw] at h1
      subst h1
      refine gx_if_ne C dX8_set_13 rfl (by unfold gx_3; omega) (fun hb13 => ?_) (fun hb13 => absurd (by omega) hb13)
      refine gx_iload C dX8_set_18 rfl ?_
      refine gx_iconst C dX8_set_20 ?_
      refine gx_aload_n C dX8_set_21 rfl ?_
      refine gx_getR C 8 _ 0 rfl (gm_0 hM) rfl (by decide) nX8_set_8 (gx_hts C _ fX8_set_7) dX8_set_22 ?_
      refine gx_bipush C dX8_set_25 rfl ?_
      refine gx_iaload C (gm_1 hM) (by omega) dX8_set_27 hz.2.1 ?_
      refine gx_iconst C dX8_set_28 ?_
      refine gx_isub C dX8_set_29 ?_
      refine gx_statI C (c_X8_in hv (by unfold gx_3; omega) (by unfold gx_3; omega)) (cwS 3 (gx_hts C) gX8_set_X8_in rfl rfl rfl (by decide +kernel) ⟨Nat.le_of_ble_eq_true rfl, Nat.le_of_ble_eq_true rfl⟩) rfl rfl (Nat.le_of_ble_eq_true rfl) ⟨Nat.le_refl _, Nat.le_refl _⟩ dX8_set_30 (fun z M3 h1 => ?_)
      obtain ⟨rfl, h1⟩ := h1
      have hg : (0 ≤ r ∧ r ≤ 7) ∧ (0 ≤ i ∧ i < s.1 81 ∧ 0 ≤ j ∧ j < s.1 81) := by omega
      by_cases hu : 0 ≤ v ∧ v ≤ s.1 82 - 1
      · rw [if_pos hu] at h1
        subst h1
        obtain ⟨r', rfl⟩ : ∃ k : Nat, r = k := ⟨r.toNat, by omega⟩
        obtain ⟨i', rfl⟩ : ∃ k : Nat, i = k := ⟨i.toNat, by omega⟩
        obtain ⟨j', rfl⟩ : ∃ k : Nat, j = k := ⟨j.toNat, by omega⟩
        refine gx_if_ne C dX8_set_33 rfl (by unfold gx_3; omega) (fun hb33 => ?_) (fun hb33 => absurd (by omega) hb33)
        refine gx_aload_n C dX8_set_39 rfl ?_
        refine gx_callV C 8 rfl (gm_0 hM) (c_X8_record hM hR hs.2.1) (cwV 0 (gx_hts C) gX8_set_X8_record rfl rfl rfl (by decide +kernel) ⟨Nat.le_of_ble_eq_true rfl, Nat.le_of_ble_eq_true rfl⟩) rfl rfl (Nat.le_of_ble_eq_true rfl) ⟨Nat.le_refl _, Nat.le_refl _⟩ dX8_set_40 (fun M4 h8 => ?_)
        obtain ⟨⟨hR2, hF2⟩, h9, h10⟩ := h8
        have e1 : M4 1 ((9 * (r' : Int) + 3 * (i' : Int) + (j' : Int)).toNat) = mx_of s.1 (9 * r') (3 * i' + j') := by
          rw [mx_of_at (by omega), show (9 * (r' : Int) + 3 * (i' : Int) + (j' : Int)).toNat = 9 * r' + (3 * i' + j') by omega]
          exact hR2.1 _ (by omega)
        refine gx_aload_n C dX8_set_43 rfl ?_
        refine gx_getR C 8 _ 0 rfl (gm_0 hM) rfl (by decide) nX8_set_8 (gx_hts C _ fX8_set_7) dX8_set_44 ?_
        refine gx_bipush C dX8_set_47 rfl ?_
        refine gx_iload_n C dX8_set_49 rfl ?_
        refine gx_imul C dX8_set_50 ?_
        refine gx_iconst C dX8_set_51 ?_
        refine gx_iload_n C dX8_set_52 rfl ?_
        refine gx_imul C dX8_set_53 ?_
        refine gx_iadd C dX8_set_54 ?_
        refine gx_iload_n C dX8_set_55 rfl ?_
        refine gx_iadd C dX8_set_56 ?_
        refine gx_iaload C (gm_1 hM) (by omega) dX8_set_57 e1 ?_
        refine gx_istore C dX8_set_58 (by decide) rfl ?_
        refine gx_aload_n C dX8_set_60 rfl ?_
        refine gx_getR C 8 _ 0 rfl (gm_0 hM) rfl (by decide) nX8_set_8 (gx_hts C _ fX8_set_7) dX8_set_61 ?_
        refine gx_bipush C dX8_set_64 rfl ?_
        refine gx_iload_n C dX8_set_66 rfl ?_
        refine gx_imul C dX8_set_67 ?_
        refine gx_iconst C dX8_set_68 ?_
        refine gx_iload_n C dX8_set_69 rfl ?_
        refine gx_imul C dX8_set_70 ?_
        refine gx_iadd C dX8_set_71 ?_
        refine gx_iload_n C dX8_set_72 rfl ?_
        refine gx_iadd C dX8_set_73 ?_
        refine gx_iload C dX8_set_74 rfl ?_
        refine gx_iastore C (gm_1 hM) (by omega) dX8_set_76 (show _ = 9 * r' + 3 * i' + j' by omega) ?_
        refine gx_aload_n C dX8_set_77 rfl ?_
        refine gx_getR C 8 _ 0 rfl (gm_0 hM) rfl (by decide) nX8_set_8 (gx_hts C _ fX8_set_7) dX8_set_78 ?_
        refine gx_bipush C dX8_set_81 rfl ?_
        refine gx_iload_n C dX8_set_83 rfl ?_
        refine gx_imul C dX8_set_84 ?_
        refine gx_iconst C dX8_set_85 ?_
        refine gx_iload_n C dX8_set_86 rfl ?_
        refine gx_imul C dX8_set_87 ?_
        refine gx_iadd C dX8_set_88 ?_
        refine gx_iload_n C dX8_set_89 rfl ?_
        refine gx_iadd C dX8_set_90 ?_
        refine gx_iload C dX8_set_91 rfl ?_
        refine gx_iastore C (gm_1 hM) (by omega) dX8_set_93 (show _ = 9 * r' + 3 * j' + i' by omega) ?_
        refine gx_iload C dX8_set_94 rfl ?_
        have fin : sm_Q (sp_push s (zs_set s.1 r' i' j' v)) M3 (gx_u (gx_u M4 1 (9 * r' + 3 * i' + j') v) 1 (9 * r' + 3 * j' + i') v) := by
          refine ⟨sm_Rp hR2 (fun k hk => ?_) (fun c hc _ => by rw [gx_u_nc hc, gx_u_nc hc]), fun c hc => by rw [gx_u_nc (by omega), gx_u_nc (by omega), hF2 c hc]⟩
          rw [gx_u_at, gx_u_at]
          unfold zs_set
          by_cases q1 : k = 9 * r' + 3 * j' + i'
          · rw [if_pos ⟨rfl, q1⟩, if_pos q1]
          · rw [if_neg (fun q => q1 q.2), if_neg q1]
            by_cases q2 : k = 9 * r' + 3 * i' + j'
            · rw [if_pos ⟨rfl, q2⟩, if_pos q2]
            · rw [if_neg (fun q => q2 q.2), if_neg q2]
              exact hR2.1 k hk
        exact gx_iret C dX8_set_96 ⟨_, by unfold sp_set; rw [if_pos hg, if_pos (by omega)]; exact ⟨rfl, rfl⟩, fin⟩
      · rw [if_neg hu] at h1
        subst h1
        refine gx_if_ne C dX8_set_33 rfl (by unfold gx_3; omega) (fun hb33 => absurd hb33 (by omega)) (fun hb33 => ?_)
        refine gx_bipush C dX8_set_36 rfl ?_
        exact gx_iret C dX8_set_38 ⟨s, by unfold sp_set; rw [if_pos hg, if_neg (by omega)]; exact ⟨rfl, rfl⟩, sm_XQ hR (gm_Xr M3)⟩
    · rw [if_neg hw] at h1
      subst h1
      refine gx_if_ne C dX8_set_13 rfl (by unfold gx_3; omega) (fun hb13 => absurd hb13 (by omega)) (fun hb13 => ?_)
      refine gx_iconst C dX8_set_16 ?_
      exact gx_iret C dX8_set_17 (bad1 (by omega))
  · rw [if_neg hq] at h1
    subst h1
    refine gx_if_eq C dX8_set_4 rfl (by unfold gx_3; omega) (fun hb4 => ?_) (fun hb4 => absurd (by omega) hb4)
    refine gx_iconst C dX8_set_16 ?_
    exact gx_iret C dX8_set_17 (bad1 (by omega))
