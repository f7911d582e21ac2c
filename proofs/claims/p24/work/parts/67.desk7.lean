/-! the operations, as the class has them -/
def mc_prod (m : Int) (u a b : Nat → Int) : Nat → Int := mx_sym m (mx_mul 3 m (mx_mul 3 m a u) b)
def mc_trip (m : Int) (u a b c : Nat → Int) : Nat → Int := mx_sym m (mx_mul 3 m (mx_mul 3 m (mx_mul 3 m (mx_mul 3 m a u) b) u) c)
def ga_O (t : Nat) (M M' : gx_M) : Prop := ∀ c, c ≠ 31 → c ≠ 32 → c ≠ t → M' c = M c
theorem gd_56 {La : List gx_K} (hL : gd_H La) : gd_9 La 56 := (gd_now hL).2.2 8 (by decide)
theorem gd_57 {La : List gx_K} (hL : gd_H La) : gd_9 La 57 := (gd_now hL).2.2 9 (by decide)
set_option maxRecDepth 100000 in
set_option maxHeartbeats 4000000 in
theorem c_X0_product {La : List gx_K} (hL : gd_H La) {M : gx_M} {m : Int} (hm : 3 ≤ m ∧ m ≤ 11) (h1 : M 46 1 = m) {a b t : Nat} (ha : gd_9 La a) (hb : gd_9 La b) (ht : gd_9 La t) (na : a ≠ 31) (nb : b ≠ 31 ∧ b ≠ 32) (nt : t ≠ 32) (oa : mx_ok m (mx_of (M a) 0)) (ob : mx_ok m (mx_of (M b) 0)) (ou : mx_ok m (mx_of (M 56) 0)) : gx_Cv La yX0_product wsX0_product 2 [gx_R 13, gx_R a, gx_R b, gx_R t] M (fun M' => mx_of (M' t) 0 = mc_prod m (mx_of (M 56) 0) (mx_of (M a) 0) (mx_of (M b) 0) ∧ ga_O t M M') := by
  generalize hA : mx_of (M a) 0 = A at oa ⊢
  generalize hB : mx_of (M b) 0 = B at ob ⊢
  generalize hU : mx_of (M 56) 0 = U at ou ⊢
  refine gx_start_v (L := [gx_R 13, gx_R a, gx_R b, gx_R t]) (by decide) rfl rfl (Nat.le_of_ble_eq_true rfl) rfl ?_
  intro _ _ _ _ _ _ _ _ _ _ _ _ C
  refine gx_aload_n C dX0_product_0 rfl ?_
  refine gx_aload_n C dX0_product_1 rfl ?_
  refine gx_aload_n C dX0_product_2 rfl ?_
  refine gx_getR C 0 _ 0 rfl (gd_13 hL) rfl (by decide) nX0_product_0 (gx_hts C _ fX0_product_12) dX0_product_3 ?_
  refine gx_getRN C 6 _ 2 rfl (gd_now hL).1 rfl (by decide) nX0_product_6 ((gx_hN C).1 ("PeirceDesk$Algebra", 55, "PeirceDesk$State", "elements", "[[I", "PeirceDesk") (by decide +kernel) |> va_Nw.use rfl) dX0_product_6 ?_
  refine gx_bipush C dX0_product_9 rfl ?_
  refine gx_aaload C (gd_now hL).2.1 (by decide) (by omega) dX0_product_11 (show _ = 56 from rfl) ?_
  refine gx_aload_n C dX0_product_12 rfl ?_
  refine gx_getR C 0 _ 5 rfl (gd_13 hL) rfl (by decide) nX0_product_0 (gx_hts C _ fX0_product_37) dX0_product_13 ?_
  refine gx_callV C 0 rfl (gd_13 hL) (c_X0_multiply hL hm h1 ha (gd_56 hL) (gd_31 hL) na (by decide) (by rw [hA]; exact oa) (by rw [hU]; exact ou)) (cwV 3 (gx_hts C) gX0_product_X0_multiply rfl rfl rfl (by decide +kernel) ⟨Nat.le_of_ble_eq_true rfl, Nat.le_of_ble_eq_true rfl⟩) rfl rfl (Nat.le_of_ble_eq_true rfl) ⟨Nat.le_refl _, Nat.le_refl _⟩ dX0_product_16 (fun P h2 => ?_)
  rw [hA, hU] at h2
  have l1 : mx_of (P 31) 0 = mx_mul 3 m A U := by rw [h2]; exact mx_of_mul3
  have b1 : mx_of (P b) 0 = B := by rw [h2, gx_blk_nc nb.1]; exact hB
  have m1 : P 46 1 = m := by rw [h2, gx_blk_nc (by decide)]; exact h1
  refine gx_aload_n C dX0_product_19 rfl ?_
  refine gx_aload_n C dX0_product_20 rfl ?_
  refine gx_getR C 0 _ 5 rfl (gd_13 hL) rfl (by decide) nX0_product_0 (gx_hts C _ fX0_product_37) dX0_product_21 ?_
  refine gx_aload_n C dX0_product_24 rfl ?_
  refine gx_aload_n C dX0_product_25 rfl ?_
  refine gx_getR C 0 _ 6 rfl (gd_13 hL) rfl (by decide) nX0_product_0 (gx_hts C _ fX0_product_40) dX0_product_26 ?_
  refine gx_callV C 0 rfl (gd_13 hL) (c_X0_multiply hL hm m1 (gd_31 hL) hb (gd_32 hL) (by decide) nb.2 (by rw [l1]; exact mx_mul_ok hm.1 _ _) (by rw [b1]; exact ob)) (cwV 3 (gx_hts C) gX0_product_X0_multiply rfl rfl rfl (by decide +kernel) ⟨Nat.le_of_ble_eq_true rfl, Nat.le_of_ble_eq_true rfl⟩) rfl rfl (Nat.le_of_ble_eq_true rfl) ⟨Nat.le_refl _, Nat.le_refl _⟩ dX0_product_29 (fun P1 h3 => ?_)
  rw [l1, b1] at h3
  have r1 : mx_of (P1 32) 0 = mx_mul 3 m (mx_mul 3 m A U) B := by rw [h3]; exact mx_of_mul3
  have m2 : P1 46 1 = m := by rw [h3, gx_blk_nc (by decide)]; exact m1
  refine gx_aload_n C dX0_product_32 rfl ?_
  refine gx_aload_n C dX0_product_33 rfl ?_
  refine gx_getR C 0 _ 6 rfl (gd_13 hL) rfl (by decide) nX0_product_0 (gx_hts C _ fX0_product_40) dX0_product_34 ?_
  refine gx_aload_n C dX0_product_37 rfl ?_
  refine gx_callV C 0 rfl (gd_13 hL) (c_X0_writeSymmetric hL hm m2 (gd_32 hL) ht (Ne.symm nt) (by rw [r1]; exact mx_mul_ok hm.1 _ _)) (cwV 2 (gx_hts C) gX0_product_X0_writeSymmetric rfl rfl rfl (by decide +kernel) ⟨Nat.le_of_ble_eq_true rfl, Nat.le_of_ble_eq_true rfl⟩) rfl rfl (Nat.le_of_ble_eq_true rfl) ⟨Nat.le_refl _, Nat.le_refl _⟩ dX0_product_38 (fun P2 h4 => ?_)
  rw [r1] at h4
  have fin : mx_of (P2 t) 0 = mc_prod m U A B ∧ ga_O t M P2 := ⟨by rw [h4]; exact mx_of_sym, fun c c1 c2 c3 => by rw [h4, gx_blk_nc c3, h3, gx_blk_nc c2, h2, gx_blk_nc c1]⟩
  exact gx_vret C dX0_product_41 fin
set_option maxRecDepth 100000 in
set_option maxHeartbeats 4000000 in
theorem c_X0_triple {La : List gx_K} (hL : gd_H La) {M : gx_M} {m : Int} (hm : 3 ≤ m ∧ m ≤ 11) (h1 : M 46 1 = m) {a b c t : Nat} (ha : gd_9 La a) (hb : gd_9 La b) (hc : gd_9 La c) (ht : gd_9 La t) (na : a ≠ 31) (nb : b ≠ 31 ∧ b ≠ 32) (nc : c ≠ 31 ∧ c ≠ 32) (nt : t ≠ 32) (oa : mx_ok m (mx_of (M a) 0)) (ob : mx_ok m (mx_of (M b) 0)) (oc : mx_ok m (mx_of (M c) 0)) (ou : mx_ok m (mx_of (M 56) 0)) : gx_Cv La yX0_triple wsX0_triple 2 [gx_R 13, gx_R a, gx_R b, gx_R c, gx_R t] M (fun M' => mx_of (M' t) 0 = mc_trip m (mx_of (M 56) 0) (mx_of (M a) 0) (mx_of (M b) 0) (mx_of (M c) 0) ∧ ga_O t M M') := by
  generalize hA : mx_of (M a) 0 = A at oa ⊢
  generalize hB : mx_of (M b) 0 = B at ob ⊢
  generalize hC : mx_of (M c) 0 = Z at oc ⊢
  generalize hU : mx_of (M 56) 0 = U at ou ⊢
  refine gx_start_v (L := [gx_R 13, gx_R a, gx_R b, gx_R c, gx_R t]) (by decide) rfl rfl (Nat.le_of_ble_eq_true rfl) rfl ?_
  intro _ _ _ _ _ _ _ _ _ _ _ _ C
  refine gx_aload_n C dX0_triple_0 rfl ?_
  refine gx_aload_n C dX0_triple_1 rfl ?_
  refine gx_aload_n C dX0_triple_2 rfl ?_
  refine gx_getR C 0 _ 0 rfl (gd_13 hL) rfl (by decide) nX0_triple_0 (gx_hts C _ fX0_triple_12) dX0_triple_3 ?_
  refine gx_getRN C 6 _ 2 rfl (gd_now hL).1 rfl (by decide) nX0_triple_6 ((gx_hN C).1 ("PeirceDesk$Algebra", 55, "PeirceDesk$State", "elements", "[[I", "PeirceDesk") (by decide +kernel) |> va_Nw.use rfl) dX0_triple_6 ?_
  refine gx_bipush C dX0_triple_9 rfl ?_
  refine gx_aaload C (gd_now hL).2.1 (by decide) (by omega) dX0_triple_11 (show _ = 56 from rfl) ?_
  refine gx_aload_n C dX0_triple_12 rfl ?_
  refine gx_getR C 0 _ 5 rfl (gd_13 hL) rfl (by decide) nX0_triple_0 (gx_hts C _ fX0_triple_37) dX0_triple_13 ?_
  refine gx_callV C 0 rfl (gd_13 hL) (c_X0_multiply hL hm h1 ha (gd_56 hL) (gd_31 hL) na (by decide) (by rw [hA]; exact oa) (by rw [hU]; exact ou)) (cwV 3 (gx_hts C) gX0_triple_X0_multiply rfl rfl rfl (by decide +kernel) ⟨Nat.le_of_ble_eq_true rfl, Nat.le_of_ble_eq_true rfl⟩) rfl rfl (Nat.le_of_ble_eq_true rfl) ⟨Nat.le_refl _, Nat.le_refl _⟩ dX0_triple_16 (fun P h2 => ?_)
  rw [hA, hU] at h2
  have l1 : mx_of (P 31) 0 = mx_mul 3 m A U := by rw [h2]; exact mx_of_mul3
  have b1 : mx_of (P b) 0 = B := by rw [h2, gx_blk_nc nb.1]; exact hB
  have c1 : mx_of (P c) 0 = Z := by rw [h2, gx_blk_nc nc.1]; exact hC
  have u1 : mx_of (P 56) 0 = U := by rw [h2, gx_blk_nc (by decide)]; exact hU
  have m1 : P 46 1 = m := by rw [h2, gx_blk_nc (by decide)]; exact h1
  refine gx_aload_n C dX0_triple_19 rfl ?_
  refine gx_aload_n C dX0_triple_20 rfl ?_
  refine gx_getR C 0 _ 5 rfl (gd_13 hL) rfl (by decide) nX0_triple_0 (gx_hts C _ fX0_triple_37) dX0_triple_21 ?_
  refine gx_aload_n C dX0_triple_24 rfl ?_
  refine gx_aload_n C dX0_triple_25 rfl ?_
  refine gx_getR C 0 _ 6 rfl (gd_13 hL) rfl (by decide) nX0_triple_0 (gx_hts C _ fX0_triple_40) dX0_triple_26 ?_
  refine gx_callV C 0 rfl (gd_13 hL) (c_X0_multiply hL hm m1 (gd_31 hL) hb (gd_32 hL) (by decide) nb.2 (by rw [l1]; exact mx_mul_ok hm.1 _ _) (by rw [b1]; exact ob)) (cwV 3 (gx_hts C) gX0_triple_X0_multiply rfl rfl rfl (by decide +kernel) ⟨Nat.le_of_ble_eq_true rfl, Nat.le_of_ble_eq_true rfl⟩) rfl rfl (Nat.le_of_ble_eq_true rfl) ⟨Nat.le_refl _, Nat.le_refl _⟩ dX0_triple_29 (fun P1 h3 => ?_)
  rw [l1, b1] at h3
  have r1 : mx_of (P1 32) 0 = mx_mul 3 m (mx_mul 3 m A U) B := by rw [h3]; exact mx_of_mul3
  have c2 : mx_of (P1 c) 0 = Z := by rw [h3, gx_blk_nc nc.2]; exact c1
  have u2 : mx_of (P1 56) 0 = U := by rw [h3, gx_blk_nc (by decide)]; exact u1
  have m2 : P1 46 1 = m := by rw [h3, gx_blk_nc (by decide)]; exact m1
  refine gx_aload_n C dX0_triple_32 rfl ?_
  refine gx_aload_n C dX0_triple_33 rfl ?_
  refine gx_getR C 0 _ 6 rfl (gd_13 hL) rfl (by decide) nX0_triple_0 (gx_hts C _ fX0_triple_40) dX0_triple_34 ?_
  refine gx_aload_n C dX0_triple_37 rfl ?_
  refine gx_getR C 0 _ 0 rfl (gd_13 hL) rfl (by decide) nX0_triple_0 (gx_hts C _ fX0_triple_12) dX0_triple_38 ?_
  refine gx_getRN C 6 _ 2 rfl (gd_now hL).1 rfl (by decide) nX0_triple_6 ((gx_hN C).1 ("PeirceDesk$Algebra", 55, "PeirceDesk$State", "elements", "[[I", "PeirceDesk") (by decide +kernel) |> va_Nw.use rfl) dX0_triple_41 ?_
  refine gx_bipush C dX0_triple_44 rfl ?_
  refine gx_aaload C (gd_now hL).2.1 (by decide) (by omega) dX0_triple_46 (show _ = 56 from rfl) ?_
  refine gx_aload_n C dX0_triple_47 rfl ?_
  refine gx_getR C 0 _ 5 rfl (gd_13 hL) rfl (by decide) nX0_triple_0 (gx_hts C _ fX0_triple_37) dX0_triple_48 ?_
  refine gx_callV C 0 rfl (gd_13 hL) (c_X0_multiply hL hm m2 (gd_32 hL) (gd_56 hL) (gd_31 hL) (by decide) (by decide) (by rw [r1]; exact mx_mul_ok hm.1 _ _) (by rw [u2]; exact ou)) (cwV 3 (gx_hts C) gX0_triple_X0_multiply rfl rfl rfl (by decide +kernel) ⟨Nat.le_of_ble_eq_true rfl, Nat.le_of_ble_eq_true rfl⟩) rfl rfl (Nat.le_of_ble_eq_true rfl) ⟨Nat.le_refl _, Nat.le_refl _⟩ dX0_triple_51 (fun P2 h4 => ?_)
  rw [r1, u2] at h4
  have l3 : mx_of (P2 31) 0 = mx_mul 3 m (mx_mul 3 m (mx_mul 3 m A U) B) U := by rw [h4]; exact mx_of_mul3
  have c3 : mx_of (P2 c) 0 = Z := by rw [h4, gx_blk_nc nc.1]; exact c2
  have m3 : P2 46 1 = m := by rw [h4, gx_blk_nc (by decide)]; exact m2
  refine gx_aload_n C dX0_triple_54 rfl ?_
  refine gx_aload_n C dX0_triple_55 rfl ?_
  refine gx_getR C 0 _ 5 rfl (gd_13 hL) rfl (by decide) nX0_triple_0 (gx_hts C _ fX0_triple_37) dX0_triple_56 ?_
  refine gx_aload_n C dX0_triple_59 rfl ?_
  refine gx_aload_n C dX0_triple_60 rfl ?_
  refine gx_getR C 0 _ 6 rfl (gd_13 hL) rfl (by decide) nX0_triple_0 (gx_hts C _ fX0_triple_40) dX0_triple_61 ?_
  refine gx_callV C 0 rfl (gd_13 hL) (c_X0_multiply hL hm m3 (gd_31 hL) hc (gd_32 hL) (by decide) nc.2 (by rw [l3]; exact mx_mul_ok hm.1 _ _) (by rw [c3]; exact oc)) (cwV 3 (gx_hts C) gX0_triple_X0_multiply rfl rfl rfl (by decide +kernel) ⟨Nat.le_of_ble_eq_true rfl, Nat.le_of_ble_eq_true rfl⟩) rfl rfl (Nat.le_of_ble_eq_true rfl) ⟨Nat.le_refl _, Nat.le_refl _⟩ dX0_triple_64 (fun P3 h5 => ?_)
  rw [l3, c3] at h5
  have r4 : mx_of (P3 32) 0 = mx_mul 3 m (mx_mul 3 m (mx_mul 3 m (mx_mul 3 m A U) B) U) Z := by rw [h5]; exact mx_of_mul3
  have m4 : P3 46 1 = m := by rw [h5, gx_blk_nc (by decide)]; exact m3
  refine gx_aload_n C dX0_triple_67 rfl ?_
  refine gx_aload_n C dX0_triple_68 rfl ?_
  refine gx_getR C 0 _ 6 rfl (gd_13 hL) rfl (by decide) nX0_triple_0 (gx_hts C _ fX0_triple_40) dX0_triple_69 ?_
  refine gx_aload C dX0_triple_72 rfl ?_
  refine gx_callV C 0 rfl (gd_13 hL) (c_X0_writeSymmetric hL hm m4 (gd_32 hL) ht (Ne.symm nt) (by rw [r4]; exact mx_mul_ok hm.1 _ _)) (cwV 2 (gx_hts C) gX0_triple_X0_writeSymmetric rfl rfl rfl (by decide +kernel) ⟨Nat.le_of_ble_eq_true rfl, Nat.le_of_ble_eq_true rfl⟩) rfl rfl (Nat.le_of_ble_eq_true rfl) ⟨Nat.le_refl _, Nat.le_refl _⟩ dX0_triple_74 (fun P4 h6 => ?_)
  rw [r4] at h6
  have fin : mx_of (P4 t) 0 = mc_trip m U A B Z ∧ ga_O t M P4 := ⟨by rw [h6]; exact mx_of_sym, fun c c1 c2 c3 => by rw [h6, gx_blk_nc c3, h5, gx_blk_nc c2, h4, gx_blk_nc c1, h3, gx_blk_nc c2, h2, gx_blk_nc c1]⟩
  exact gx_vret C dX0_triple_77 fin
set_option maxRecDepth 100000 in
set_option maxHeartbeats 4000000 in
theorem c_X0_operator {La : List gx_K} (hL : gd_H La) {M : gx_M} {m : Int} (hm : 3 ≤ m ∧ m ≤ 11) (h1 : M 46 1 = m) {a b t : Nat} (ha : gd_9 La a) (hb : gd_9 La b) (ht : gd_9 La t) (na : a ≠ 31 ∧ a ≠ 32) (nb : b ≠ 31 ∧ b ≠ 32) (nt : t ≠ 32) (oa : mx_ok m (mx_of (M a) 0)) (ob : mx_ok m (mx_of (M b) 0)) (ou : mx_ok m (mx_of (M 56) 0)) : gx_Cv La yX0_operator wsX0_operator 3 [gx_R 13, gx_R a, gx_R b, gx_R t] M (fun M' => mx_of (M' t) 0 = mc_trip m (mx_of (M 56) 0) (mx_of (M a) 0) (mx_of (M b) 0) (mx_of (M a) 0) ∧ ga_O t M M') := by
  refine gx_start_v (L := [gx_R 13, gx_R a, gx_R b, gx_R t]) (by decide) rfl rfl (Nat.le_of_ble_eq_true rfl) rfl ?_
  intro _ _ _ _ _ _ _ _ _ _ _ _ C
  refine gx_aload_n C dX0_operator_0 rfl ?_
  refine gx_aload_n C dX0_operator_1 rfl ?_
  refine gx_aload_n C dX0_operator_2 rfl ?_
  refine gx_aload_n C dX0_operator_3 rfl ?_
  refine gx_aload_n C dX0_operator_4 rfl ?_
  refine gx_callV C 0 rfl (gd_13 hL) (c_X0_triple hL hm h1 ha hb ha ht na.1 nb na nt oa ob oa ou) (cwV 4 (gx_hts C) gX0_operator_X0_triple rfl rfl rfl (by decide +kernel) ⟨Nat.le_of_ble_eq_true rfl, Nat.le_of_ble_eq_true rfl⟩) rfl rfl (Nat.le_of_ble_eq_true rfl) ⟨Nat.le_refl _, Nat.le_refl _⟩ dX0_operator_5 (fun P h2 => ?_)
  exact gx_vret C dX0_operator_8 h2
set_option maxRecDepth 100000 in
set_option maxHeartbeats 4000000 in
theorem c_X0_unit {La : List gx_K} (hL : gd_H La) {M : gx_M} : gx_Cr La yX0_unit wsX0_unit 0 [gx_R 13] M (fun c M' => M' = M ∧ c = 57) := by
  refine gx_start_r (L := [gx_R 13]) (by decide) rfl rfl (Nat.le_of_ble_eq_true rfl) rfl ?_
  intro _ _ _ _ _ _ _ _ _ _ _ _ C
  refine gx_aload_n C dX0_unit_0 rfl ?_
  refine gx_getR C 0 _ 0 rfl (gd_13 hL) rfl (by decide) nX0_unit_0 (gx_hts C _ fX0_unit_12) dX0_unit_1 ?_
  refine gx_getRN C 6 _ 2 rfl (gd_now hL).1 rfl (by decide) nX0_unit_6 ((gx_hN C).1 ("PeirceDesk$Algebra", 55, "PeirceDesk$State", "elements", "[[I", "PeirceDesk") (by decide +kernel) |> va_Nw.use rfl) dX0_unit_4 ?_
  refine gx_bipush C dX0_unit_7 rfl ?_
  refine gx_aaload C (gd_now hL).2.1 (by decide) (by omega) dX0_unit_9 (show _ = 57 from rfl) ?_
  exact gx_aret C (post := fun c M' => M' = M ∧ c = 57) dX0_unit_10 ⟨rfl, rfl⟩
set_option maxRecDepth 100000 in
set_option maxHeartbeats 4000000 in
theorem c_X0_trace {La : List gx_K} (hL : gd_H La) {M : gx_M} {m : Int} (hm : 3 ≤ m ∧ m ≤ 11) (h1 : M 46 1 = m) {a : Nat} (ha : gd_9 La a) (oa : mx_ok m (mx_of (M a) 0)) : gx_Ci La yX0_trace wsX0_trace 1 [gx_R 13, gx_R a] M (fun z M' => M' = M ∧ z = mx_tr m (mx_of (M a) 0)) := by
  generalize hA : mx_of (M a) 0 = A at oa ⊢
  have ea : ∀ k : Nat, k < 3 → M a ((3 * (k : Int) + (k : Int)).toNat) = A (4 * k) := fun k hk => by
    rw [show (3 * (k : Int) + (k : Int)).toNat = 4 * k by omega, ← hA, mx_of_at (by omega), Nat.zero_add]
  have b0 := oa 0 (by omega)
  have b4 := oa 4 (by omega)
  have b8 := oa 8 (by omega)
  refine gx_start_i (L := [gx_R 13, gx_R a, gx_U, gx_U]) (by decide) rfl rfl (Nat.le_of_ble_eq_true rfl) rfl ?_
  intro _ _ _ _ _ _ _ _ _ _ _ _ C
  refine gx_iconst C dX0_trace_0 ?_
  refine gx_istore_n C dX0_trace_1 (by decide) rfl ?_
  refine gx_iconst C dX0_trace_2 ?_
  refine gx_istore_n C dX0_trace_3 (by decide) rfl ?_
  refine gx_for 3 (fun k (s : Int) => [gx_R 13, gx_R a, gx_I s, gx_I (k : Int)]) (fun _ => M) (fun k s => s = (if k = 0 then 0 else if k = 1 then A 0 else if k = 2 then A 0 + A 4 else A 0 + A 4 + A 8)) 0 0 (by omega) rfl (fun k s hk hs ih => ?_) (fun s hs => ?_)
  · have bs : 0 ≤ s ∧ s ≤ 40 := by rcases (show k = 0 ∨ k = 1 ∨ k = 2 by omega) with e | e | e <;> subst e <;> simp at hs <;> omega
    have bk := oa (4 * k) (by omega)
    refine gx_iload_n C dX0_trace_4 rfl ?_
    refine gx_iconst C dX0_trace_5 ?_
    refine gx_icmp_ge C dX0_trace_6 rfl (by unfold gx_3; omega) (by unfold gx_3; omega) (fun hb6 => absurd hb6 (by omega)) (fun hb6 => ?_)
    refine gx_iload_n C dX0_trace_9 rfl ?_
    refine gx_aload_n C dX0_trace_10 rfl ?_
    refine gx_iconst C dX0_trace_11 ?_
    refine gx_iload_n C dX0_trace_12 rfl ?_
    refine gx_imul C dX0_trace_13 ?_
    refine gx_iload_n C dX0_trace_14 rfl ?_
    refine gx_iadd C dX0_trace_15 ?_
    refine gx_iaload C ha (by omega) dX0_trace_16 (ea k hk) ?_
    refine gx_iadd C dX0_trace_17 ?_
    refine gx_istore_n C dX0_trace_18 (by decide) rfl ?_
    refine gx_iinc C dX0_trace_19 (by decide) rfl rfl ?_
    refine gx_goto C dX0_trace_22 rfl ?_
    refine ih _ ?_
    rcases (show k = 0 ∨ k = 1 ∨ k = 2 by omega) with rfl | rfl | rfl
    · rw [hs, if_pos rfl, if_neg (by decide), if_pos rfl]; show (0 : Int) + A 0 = A 0; omega
    · rw [hs, if_neg (by decide), if_pos rfl, if_neg (by decide), if_neg (by decide), if_pos rfl]
    · rw [hs, if_neg (by decide), if_neg (by decide), if_pos rfl, if_neg (by decide), if_neg (by decide), if_neg (by decide)]
  · rw [if_neg (by decide), if_neg (by decide), if_neg (by decide)] at hs
    have b2 := mx_md (m := m) (by omega) s
    refine gx_iload_n C dX0_trace_4 rfl ?_
    refine gx_iconst C dX0_trace_5 ?_
    refine gx_icmp_ge C dX0_trace_6 rfl (by unfold gx_3; omega) (by unfold gx_3; omega) (fun hb6 => ?_) (fun hb6 => absurd (by omega) hb6)
    refine gx_iload_n C dX0_trace_25 rfl ?_
    refine gx_aload_n C dX0_trace_26 rfl ?_
    refine gx_getR C 0 _ 0 rfl (gd_13 hL) rfl (by decide) nX0_trace_0 (gx_hts C _ fX0_trace_12) dX0_trace_27 ?_
    refine gx_getIN C 6 _ 1 rfl (gd_now hL).1 rfl (by decide) nX0_trace_6 ((gx_hN C).1 ("PeirceDesk$Algebra", 58, "PeirceDesk$State", "modulus", "I", "PeirceDesk") (by decide +kernel) |> va_Nw.use rfl) dX0_trace_30 h1 ?_
    refine gx_statIN C (c_X7_reduced (x := s) (m := m) (by omega) (by omega)) (⟨va_cnB 2 (gx_hts C) gX0_trace_X7_reduced_n62 rfl rfl rfl ((gx_hN C).2 ("PeirceDesk$Algebra", 62, yX7_reduced, "PeirceDesk") (by decide +kernel)) ((gx_hts C) (.initialized RX7) (by decide +kernel)) (by decide +kernel) ⟨Nat.le_of_ble_eq_true rfl, Nat.le_of_ble_eq_true rfl⟩, (gx_hts C) (.static yX7_reduced) (by decide +kernel), trivial⟩) rfl rfl (Nat.le_of_ble_eq_true rfl) ⟨Nat.le_refl _, Nat.le_refl _⟩ dX0_trace_33 (fun z P hz => ?_)
    obtain ⟨rfl, rfl⟩ := hz
    exact gx_iret C dX0_trace_36 ⟨rfl, by rw [hs]; rfl⟩
