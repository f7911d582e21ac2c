theorem mx_mul3_at {m : Int} {a b : Nat → Int} {r c : Nat} (hr : r < 3) (hc : c < 3) : mx_mul 3 m a b (3 * r + c) = mx_ps a b r c 3 % m := by
  unfold mx_mul
  rw [if_pos (by omega), show (3 * r + c) / 3 = r by omega, show (3 * r + c) % 3 = c by omega]
theorem mx_of_mul3 {M : gx_M} {t : Nat} {m : Int} {a b : Nat → Int} : mx_of (gx_blk M t 0 9 (mx_mul 3 m a b) t) 0 = mx_mul 3 m a b := by rw [mx_of_blk, mx_cut mx_mul_9]
set_option maxRecDepth 100000 in
set_option maxHeartbeats 4000000 in
theorem c_X0_multiply {La : List gx_K} (hL : gd_H La) {M : gx_M} {m : Int} (hm : 3 ≤ m ∧ m ≤ 11) (h1 : M 46 1 = m) {a b t : Nat} (ha : gd_9 La a) (hb : gd_9 La b) (ht : gd_9 La t) (hat : a ≠ t) (hbt : b ≠ t) (oa : mx_ok m (mx_of (M a) 0)) (ob : mx_ok m (mx_of (M b) 0)) : gx_Cv La yX0_multiply wsX0_multiply 1 [gx_R 13, gx_R a, gx_R b, gx_R t] M (fun M' => M' = gx_blk M t 0 9 (mx_mul 3 m (mx_of (M a) 0) (mx_of (M b) 0))) := by
  have ht46 : 46 ≠ t := gd_ne (gd_now hL).1 ht
  generalize hA : mx_of (M a) 0 = A at oa ⊢
  generalize hB : mx_of (M b) 0 = B at ob ⊢
  refine gx_start_v (L := [gx_R 13, gx_R a, gx_R b, gx_R t, gx_U, gx_U, gx_U, gx_U]) (by decide) rfl rfl (Nat.le_of_ble_eq_true rfl) rfl ?_
  intro _ _ _ _ _ _ _ _ _ _ _ _ C
  refine gx_iconst C dX0_multiply_0 ?_
  refine gx_istore C dX0_multiply_1 (by decide) rfl ?_
  refine gx_for 3 (fun r (_ : gx_M) => [gx_R 13, gx_R a, gx_R b, gx_R t, gx_I (r : Int), gx_U, gx_U, gx_U]) (fun P => P) (fun r P => P = gx_blk M t 0 (3 * r) (mx_mul 3 m A B)) 0 M (by omega) gx_blk_0.symm (fun r P hr hI ih => ?_) (fun P hI => ?_)
  · refine gx_iload C dX0_multiply_3 rfl ?_
    refine gx_iconst C dX0_multiply_5 ?_
    refine gx_icmp_ge C dX0_multiply_6 rfl (by unfold gx_3; omega) (by unfold gx_3; omega) (fun hb6 => absurd hb6 (by omega)) (fun hb6 => ?_)
    refine gx_iconst C dX0_multiply_9 ?_
    refine gx_istore C dX0_multiply_10 (by decide) rfl ?_
    refine gx_for 3 (fun c (_ : gx_M) => [gx_R 13, gx_R a, gx_R b, gx_R t, gx_I (r : Int), gx_I (c : Int), gx_U, gx_U]) (fun P => P) (fun c P => P = gx_blk M t 0 (3 * r + c) (mx_mul 3 m A B)) 0 P (by omega) hI (fun c P2 hc hI2 ih2 => ?_) (fun P2 hI2 => ?_)
    · have ea : ∀ k : Nat, k < 3 → P2 a ((3 * (r : Int) + (k : Int)).toNat) = A (3 * r + k) := fun k hk => by
        rw [hI2, gx_blk_nc hat, show (3 * (r : Int) + (k : Int)).toNat = 3 * r + k by omega, ← hA, mx_of_at (by omega), Nat.zero_add]
      have eb : ∀ k : Nat, k < 3 → P2 b ((3 * (k : Int) + (c : Int)).toNat) = B (3 * k + c) := fun k hk => by
        rw [hI2, gx_blk_nc hbt, show (3 * (k : Int) + (c : Int)).toNat = 3 * k + c by omega, ← hB, mx_of_at (by omega), Nat.zero_add]
      have em : P2 46 1 = m := by rw [hI2, gx_blk_nc ht46]; exact h1
      refine gx_iload C dX0_multiply_12 rfl ?_
      refine gx_iconst C dX0_multiply_14 ?_
      refine gx_icmp_ge C dX0_multiply_15 rfl (by unfold gx_3; omega) (by unfold gx_3; omega) (fun hb15 => absurd hb15 (by omega)) (fun hb15 => ?_)
      refine gx_iconst C dX0_multiply_18 ?_
      refine gx_istore C dX0_multiply_19 (by decide) rfl ?_
      refine gx_iconst C dX0_multiply_21 ?_
      refine gx_istore C dX0_multiply_22 (by decide) rfl ?_
      refine gx_for 3 (fun k (s : Int) => [gx_R 13, gx_R a, gx_R b, gx_R t, gx_I (r : Int), gx_I (c : Int), gx_I s, gx_I (k : Int)]) (fun _ => P2) (fun k s => s = mx_ps A B r c k) 0 0 (by omega) rfl (fun k s hk hs ih3 => ?_) (fun s hs => ?_)
      · have b1 := mx_psb (m := m) (by omega) oa ob hr hc k (by omega)
        have b2 := mx_pr (m := m) (by omega) (oa (3 * r + k) (by omega)) (ob (3 * k + c) (by omega))
        have b3 := oa (3 * r + k) (by omega)
        have b4 := ob (3 * k + c) (by omega)
        refine gx_iload C dX0_multiply_24 rfl ?_
        refine gx_iconst C dX0_multiply_26 ?_
        refine gx_icmp_ge C dX0_multiply_27 rfl (by unfold gx_3; omega) (by unfold gx_3; omega) (fun hb27 => absurd hb27 (by omega)) (fun hb27 => ?_)
        refine gx_iload C dX0_multiply_30 rfl ?_
        refine gx_aload_n C dX0_multiply_32 rfl ?_
        refine gx_iconst C dX0_multiply_33 ?_
        refine gx_iload C dX0_multiply_34 rfl ?_
        refine gx_imul C dX0_multiply_36 ?_
        refine gx_iload C dX0_multiply_37 rfl ?_
        refine gx_iadd C dX0_multiply_39 ?_
        refine gx_iaload C ha (by omega) dX0_multiply_40 (ea k hk) ?_
        refine gx_aload_n C dX0_multiply_41 rfl ?_
        refine gx_iconst C dX0_multiply_42 ?_
        refine gx_iload C dX0_multiply_43 rfl ?_
        refine gx_imul C dX0_multiply_45 ?_
        refine gx_iload C dX0_multiply_46 rfl ?_
        refine gx_iadd C dX0_multiply_48 ?_
        refine gx_iaload C hb (by omega) dX0_multiply_49 (eb k hk) ?_
        refine gx_imul C dX0_multiply_50 ?_
        refine gx_iadd C dX0_multiply_51 ?_
        refine gx_istore C dX0_multiply_52 (by decide) rfl ?_
        refine gx_iinc C dX0_multiply_54 (by decide) rfl rfl ?_
        refine gx_goto C dX0_multiply_57 rfl ?_
        exact ih3 _ (by rw [hs]; rfl)
      · have b1 := mx_psb (m := m) (by omega) oa ob hr hc 3 (by omega)
        have b2 := mx_md (m := m) (by omega) s
        refine gx_iload C dX0_multiply_24 rfl ?_
        refine gx_iconst C dX0_multiply_26 ?_
        refine gx_icmp_ge C dX0_multiply_27 rfl (by unfold gx_3; omega) (by unfold gx_3; omega) (fun hb27 => ?_) (fun hb27 => absurd (by omega) hb27)
        refine gx_aload_n C dX0_multiply_60 rfl ?_
        refine gx_iconst C dX0_multiply_61 ?_
        refine gx_iload C dX0_multiply_62 rfl ?_
        refine gx_imul C dX0_multiply_64 ?_
        refine gx_iload C dX0_multiply_65 rfl ?_
        refine gx_iadd C dX0_multiply_67 ?_
        refine gx_iload C dX0_multiply_68 rfl ?_
        refine gx_aload_n C dX0_multiply_70 rfl ?_
        refine gx_getR C 0 _ 0 rfl (gd_13 hL) rfl (by decide) nX0_multiply_0 (gx_hts C _ fX0_multiply_12) dX0_multiply_71 ?_
        refine gx_getIN C 6 _ 1 rfl (gd_now hL).1 rfl (by decide) nX0_multiply_6 ((gx_hN C).1 ("PeirceDesk$Algebra", 58, "PeirceDesk$State", "modulus", "I", "PeirceDesk") (by decide +kernel) |> va_Nw.use rfl) dX0_multiply_74 em ?_
        refine gx_statIN C (c_X7_reduced (x := s) (m := m) (by omega) (by omega)) (⟨va_cnB 2 (gx_hts C) gX0_multiply_X7_reduced_n62 rfl rfl rfl ((gx_hN C).2 ("PeirceDesk$Algebra", 62, yX7_reduced, "PeirceDesk") (by decide +kernel)) ((gx_hts C) (.initialized RX7) (by decide +kernel)) (by decide +kernel) ⟨Nat.le_of_ble_eq_true rfl, Nat.le_of_ble_eq_true rfl⟩, (gx_hts C) (.static yX7_reduced) (by decide +kernel), trivial⟩) rfl rfl (Nat.le_of_ble_eq_true rfl) ⟨Nat.le_refl _, Nat.le_refl _⟩ dX0_multiply_77 (fun z P3 hz => ?_)
        obtain ⟨rfl, rfl⟩ := hz
        refine gx_iastore C ht (by omega) dX0_multiply_80 (show _ = 0 + (3 * r + c) by omega) ?_
        refine gx_iinc C dX0_multiply_81 (by decide) rfl rfl ?_
        refine gx_goto C dX0_multiply_84 rfl ?_
        exact gx_weak (L' := [gx_R 13, gx_R a, gx_R b, gx_R t, gx_I (r : Int), gx_I ((c + 1 : Nat) : Int), gx_U, gx_U]) ⟨Or.inr rfl, Or.inr rfl, Or.inr rfl, Or.inr rfl, Or.inr rfl, Or.inr rfl, Or.inl rfl, Or.inl rfl, trivial⟩ (ih2 _ (by rw [hI2]; exact gx_blk_s (by rw [mx_mul3_at hr hc, hs])))
    · refine gx_iload C dX0_multiply_12 rfl ?_
      refine gx_iconst C dX0_multiply_14 ?_
      refine gx_icmp_ge C dX0_multiply_15 rfl (by unfold gx_3; omega) (by unfold gx_3; omega) (fun hb15 => ?_) (fun hb15 => absurd (by omega) hb15)
      refine gx_iinc C dX0_multiply_87 (by decide) rfl rfl ?_
      refine gx_goto C dX0_multiply_90 rfl ?_
      exact gx_weak (L' := [gx_R 13, gx_R a, gx_R b, gx_R t, gx_I ((r + 1 : Nat) : Int), gx_U, gx_U, gx_U]) ⟨Or.inr rfl, Or.inr rfl, Or.inr rfl, Or.inr rfl, Or.inr rfl, Or.inl rfl, Or.inl rfl, Or.inl rfl, trivial⟩ (ih _ (by rw [hI2, show 3 * (r + 1) = 3 * r + 3 by omega]))
  · refine gx_iload C dX0_multiply_3 rfl ?_
    refine gx_iconst C dX0_multiply_5 ?_
    refine gx_icmp_ge C dX0_multiply_6 rfl (by unfold gx_3; omega) (by unfold gx_3; omega) (fun hb6 => ?_) (fun hb6 => absurd (by omega) hb6)
    exact gx_vret C dX0_multiply_93 hI
/-- half of a matrix and its transpose -/
def mx_sym (m : Int) (x : Nat → Int) : Nat → Int := fun k => if k < 9 then (if (x k + x (3 * (k % 3) + k / 3)) % 2 = 0 then x k + x (3 * (k % 3) + k / 3) else x k + x (3 * (k % 3) + k / 3) + m) / 2 % m else 0
theorem mx_sym_9 {m : Int} {x : Nat → Int} : ∀ k, 9 ≤ k → mx_sym m x k = 0 := fun k hk => if_neg (by omega)
theorem mx_sym_ok {m : Int} (h : 3 ≤ m) (x : Nat → Int) : mx_ok m (mx_sym m x) := fun k hk => by
  unfold mx_sym
  rw [if_pos hk]
  exact mx_md h _
theorem mx_of_sym {M : gx_M} {t : Nat} {m : Int} {x : Nat → Int} : mx_of (gx_blk M t 0 9 (mx_sym m x) t) 0 = mx_sym m x := by rw [mx_of_blk, mx_cut mx_sym_9]
set_option maxRecDepth 100000 in
set_option maxHeartbeats 4000000 in
theorem c_X0_writeSymmetric {La : List gx_K} (hL : gd_H La) {M : gx_M} {m : Int} (hm : 3 ≤ m ∧ m ≤ 11) (h1 : M 46 1 = m) {a t : Nat} (ha : gd_9 La a) (ht : gd_9 La t) (hat : a ≠ t) (oa : mx_ok m (mx_of (M a) 0)) : gx_Cv La yX0_writeSymmetric wsX0_writeSymmetric 1 [gx_R 13, gx_R a, gx_R t] M (fun M' => M' = gx_blk M t 0 9 (mx_sym m (mx_of (M a) 0))) := by
  have ht46 : 46 ≠ t := gd_ne (gd_now hL).1 ht
  generalize hA : mx_of (M a) 0 = A at oa ⊢
  refine gx_start_v (L := [gx_R 13, gx_R a, gx_R t, gx_U, gx_U, gx_U, gx_U]) (by decide) rfl rfl (Nat.le_of_ble_eq_true rfl) rfl ?_
  intro _ _ _ _ _ _ _ _ _ _ _ _ C
  refine gx_iconst C dX0_writeSymmetric_0 ?_
  refine gx_istore_n C dX0_writeSymmetric_1 (by decide) rfl ?_
  refine gx_for 3 (fun r (_ : gx_M) => [gx_R 13, gx_R a, gx_R t, gx_I (r : Int), gx_U, gx_U, gx_U]) (fun P => P) (fun r P => P = gx_blk M t 0 (3 * r) (mx_sym m A)) 0 M (by omega) gx_blk_0.symm (fun r P hr hI ih => ?_) (fun P hI => ?_)
  · refine gx_iload_n C dX0_writeSymmetric_2 rfl ?_
    refine gx_iconst C dX0_writeSymmetric_3 ?_
    refine gx_icmp_ge C dX0_writeSymmetric_4 rfl (by unfold gx_3; omega) (by unfold gx_3; omega) (fun hb4 => absurd hb4 (by omega)) (fun hb4 => ?_)
    refine gx_iconst C dX0_writeSymmetric_7 ?_
    refine gx_istore C dX0_writeSymmetric_8 (by decide) rfl ?_
    refine gx_for 3 (fun c (_ : gx_M) => [gx_R 13, gx_R a, gx_R t, gx_I (r : Int), gx_I (c : Int), gx_U, gx_U]) (fun P => P) (fun c P => P = gx_blk M t 0 (3 * r + c) (mx_sym m A)) 0 P (by omega) hI (fun c P2 hc hI2 ih2 => ?_) (fun P2 hI2 => ?_)
    · have ea : P2 a ((3 * (r : Int) + (c : Int)).toNat) = A (3 * r + c) := by
        rw [hI2, gx_blk_nc hat, show (3 * (r : Int) + (c : Int)).toNat = 3 * r + c by omega, ← hA, mx_of_at (by omega), Nat.zero_add]
      have eb : P2 a ((3 * (c : Int) + (r : Int)).toNat) = A (3 * c + r) := by
        rw [hI2, gx_blk_nc hat, show (3 * (c : Int) + (r : Int)).toNat = 3 * c + r by omega, ← hA, mx_of_at (by omega), Nat.zero_add]
      have em : P2 46 1 = m := by rw [hI2, gx_blk_nc ht46]; exact h1
      have b1 := oa (3 * r + c) (by omega)
      have b2 := oa (3 * c + r) (by omega)
      have es : mx_sym m A (3 * r + c) = (if (A (3 * r + c) + A (3 * c + r)) % 2 = 0 then A (3 * r + c) + A (3 * c + r) else A (3 * r + c) + A (3 * c + r) + m) / 2 % m := by
        unfold mx_sym
        rw [if_pos (by omega), show 3 * ((3 * r + c) % 3) + (3 * r + c) / 3 = 3 * c + r by omega]
      refine gx_iload C dX0_writeSymmetric_10 rfl ?_
      refine gx_iconst C dX0_writeSymmetric_12 ?_
      refine gx_icmp_ge C dX0_writeSymmetric_13 rfl (by unfold gx_3; omega) (by unfold gx_3; omega) (fun hb13 => absurd hb13 (by omega)) (fun hb13 => ?_)
      refine gx_aload_n C dX0_writeSymmetric_16 rfl ?_
      refine gx_iconst C dX0_writeSymmetric_17 ?_
      refine gx_iload_n C dX0_writeSymmetric_18 rfl ?_
      refine gx_imul C dX0_writeSymmetric_19 ?_
      refine gx_iload C dX0_writeSymmetric_20 rfl ?_
      refine gx_iadd C dX0_writeSymmetric_22 ?_
      refine gx_iaload C ha (by omega) dX0_writeSymmetric_23 ea ?_
      refine gx_aload_n C dX0_writeSymmetric_24 rfl ?_
      refine gx_iconst C dX0_writeSymmetric_25 ?_
      refine gx_iload C dX0_writeSymmetric_26 rfl ?_
      refine gx_imul C dX0_writeSymmetric_28 ?_
      refine gx_iload_n C dX0_writeSymmetric_29 rfl ?_
      refine gx_iadd C dX0_writeSymmetric_30 ?_
      refine gx_iaload C ha (by omega) dX0_writeSymmetric_31 eb ?_
      refine gx_iadd C dX0_writeSymmetric_32 ?_
      refine gx_istore C dX0_writeSymmetric_33 (by decide) rfl ?_
      refine gx_iload C dX0_writeSymmetric_35 rfl ?_
      refine gx_iconst C dX0_writeSymmetric_37 ?_
      refine gx_irem C dX0_writeSymmetric_38 (by unfold gx_3; omega) (by unfold gx_3; omega) (by omega) (gx_tmod (by omega)) ?_
      refine gx_cut 57 (fun (_ : Int) => [gx_R 13, gx_R a, gx_R t, gx_I (r : Int), gx_I (c : Int), gx_I (A (3 * r + c) + A (3 * c + r)), gx_U]) (fun v => [gx_I v]) (fun _ => P2) (fun v => v = if (A (3 * r + c) + A (3 * c + r)) % 2 = 0 then A (3 * r + c) + A (3 * c + r) else A (3 * r + c) + A (3 * c + r) + m) (fun v hv => ?_) (fun fin => ?_)
      · have bv : 0 ≤ v ∧ v ≤ 40 := by
          rw [hv]
          split <;> omega
        have b3 := mx_md (m := m) (by omega) (v / 2)
        refine gx_istore C dX0_writeSymmetric_57 (by decide) rfl ?_
        refine gx_aload_n C dX0_writeSymmetric_59 rfl ?_
        refine gx_iconst C dX0_writeSymmetric_60 ?_
        refine gx_iload_n C dX0_writeSymmetric_61 rfl ?_
        refine gx_imul C dX0_writeSymmetric_62 ?_
        refine gx_iload C dX0_writeSymmetric_63 rfl ?_
        refine gx_iadd C dX0_writeSymmetric_65 ?_
        refine gx_iload C dX0_writeSymmetric_66 rfl ?_
        refine gx_iconst C dX0_writeSymmetric_68 ?_
        refine gx_idiv C dX0_writeSymmetric_69 (by unfold gx_3; omega) (by unfold gx_3; omega) (by omega) (gx_tdiv (by omega)) ?_
        refine gx_aload_n C dX0_writeSymmetric_70 rfl ?_
        refine gx_getR C 0 _ 0 rfl (gd_13 hL) rfl (by decide) nX0_writeSymmetric_0 (gx_hts C _ fX0_writeSymmetric_12) dX0_writeSymmetric_71 ?_
        refine gx_getIN C 6 _ 1 rfl (gd_now hL).1 rfl (by decide) nX0_writeSymmetric_6 ((gx_hN C).1 ("PeirceDesk$Algebra", 58, "PeirceDesk$State", "modulus", "I", "PeirceDesk") (by decide +kernel) |> va_Nw.use rfl) dX0_writeSymmetric_74 em ?_
        refine gx_statIN C (c_X7_reduced (x := v / 2) (m := m) (by omega) (by omega)) (⟨va_cnB 2 (gx_hts C) gX0_writeSymmetric_X7_reduced_n62 rfl rfl rfl ((gx_hN C).2 ("PeirceDesk$Algebra", 62, yX7_reduced, "PeirceDesk") (by decide +kernel)) ((gx_hts C) (.initialized RX7) (by decide +kernel)) (by decide +kernel) ⟨Nat.le_of_ble_eq_true rfl, Nat.le_of_ble_eq_true rfl⟩, (gx_hts C) (.static yX7_reduced) (by decide +kernel), trivial⟩) rfl rfl (Nat.le_of_ble_eq_true rfl) ⟨Nat.le_refl _, Nat.le_refl _⟩ dX0_writeSymmetric_77 (fun z P3 hz => ?_)
        obtain ⟨rfl, rfl⟩ := hz
        refine gx_iastore C ht (by omega) dX0_writeSymmetric_80 (show _ = 0 + (3 * r + c) by omega) ?_
        refine gx_iinc C dX0_writeSymmetric_81 (by decide) rfl rfl ?_
        refine gx_goto C dX0_writeSymmetric_84 rfl ?_
        exact gx_weak (L' := [gx_R 13, gx_R a, gx_R t, gx_I (r : Int), gx_I ((c + 1 : Nat) : Int), gx_U, gx_U]) ⟨Or.inr rfl, Or.inr rfl, Or.inr rfl, Or.inr rfl, Or.inr rfl, Or.inl rfl, Or.inl rfl, trivial⟩ (ih2 _ (by rw [hI2]; exact gx_blk_s (by rw [es, hv])))
      · refine gx_if_ne C dX0_writeSymmetric_39 rfl (by unfold gx_3; omega) (fun hb39 => ?_) (fun hb39 => ?_)
        · refine gx_iload C dX0_writeSymmetric_47 rfl ?_
          refine gx_aload_n C dX0_writeSymmetric_49 rfl ?_
          refine gx_getR C 0 _ 0 rfl (gd_13 hL) rfl (by decide) nX0_writeSymmetric_0 (gx_hts C _ fX0_writeSymmetric_12) dX0_writeSymmetric_50 ?_
          refine gx_getIN C 6 _ 1 rfl (gd_now hL).1 rfl (by decide) nX0_writeSymmetric_6 ((gx_hN C).1 ("PeirceDesk$Algebra", 58, "PeirceDesk$State", "modulus", "I", "PeirceDesk") (by decide +kernel) |> va_Nw.use rfl) dX0_writeSymmetric_53 em ?_
          refine gx_iadd C dX0_writeSymmetric_56 ?_
          exact gx_weak (L' := [gx_R 13, gx_R a, gx_R t, gx_I (r : Int), gx_I (c : Int), gx_I (A (3 * r + c) + A (3 * c + r)), gx_U]) ⟨Or.inr rfl, Or.inr rfl, Or.inr rfl, Or.inr rfl, Or.inr rfl, Or.inr rfl, Or.inl rfl, trivial⟩ (fin _ (by rw [if_neg (by omega)]))
        · refine gx_iload C dX0_writeSymmetric_42 rfl ?_
          refine gx_goto C dX0_writeSymmetric_44 rfl ?_
          exact gx_weak (L' := [gx_R 13, gx_R a, gx_R t, gx_I (r : Int), gx_I (c : Int), gx_I (A (3 * r + c) + A (3 * c + r)), gx_U]) ⟨Or.inr rfl, Or.inr rfl, Or.inr rfl, Or.inr rfl, Or.inr rfl, Or.inr rfl, Or.inl rfl, trivial⟩ (fin _ (by rw [if_pos (by omega)]))
    · refine gx_iload C dX0_writeSymmetric_10 rfl ?_
      refine gx_iconst C dX0_writeSymmetric_12 ?_
      refine gx_icmp_ge C dX0_writeSymmetric_13 rfl (by unfold gx_3; omega) (by unfold gx_3; omega) (fun hb13 => ?_) (fun hb13 => absurd (by omega) hb13)
      refine gx_iinc C dX0_writeSymmetric_87 (by decide) rfl rfl ?_
      refine gx_goto C dX0_writeSymmetric_90 rfl ?_
      exact gx_weak (L' := [gx_R 13, gx_R a, gx_R t, gx_I ((r + 1 : Nat) : Int), gx_U, gx_U, gx_U]) ⟨Or.inr rfl, Or.inr rfl, Or.inr rfl, Or.inr rfl, Or.inl rfl, Or.inl rfl, Or.inl rfl, trivial⟩ (ih _ (by rw [hI2, show 3 * (r + 1) = 3 * r + 3 by omega]))
  · refine gx_iload_n C dX0_writeSymmetric_2 rfl ?_
    refine gx_iconst C dX0_writeSymmetric_3 ?_
    refine gx_icmp_ge C dX0_writeSymmetric_4 rfl (by unfold gx_3; omega) (by unfold gx_3; omega) (fun hb4 => ?_) (fun hb4 => absurd (by omega) hb4)
    exact gx_vret C dX0_writeSymmetric_93 hI
