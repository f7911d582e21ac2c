def rr_ld (n : Int) (a : Nat → Int) : Nat → Nat → Int := fun r => if r < 3 then rw_ld n a r else fun _ => 0
theorem rr_ld_ok {n m : Int} (hm : 3 ≤ m) {a : Nat → Int} (oa : mx_ok m a) : rr_ok m (rr_ld n a) := fun i hi => by
  unfold rr_ld
  by_cases e : i < 3
  · rw [if_pos e]
    refine ⟨fun k hk => ?_, rw_ld_9⟩
    unfold rw_ld
    by_cases e2 : k < 3
    · rw [if_pos e2]; exact oa _ (by omega)
    · rw [if_neg e2]
      split
      · split <;> omega
      · omega
  · rw [if_neg e]
    exact ⟨fun k _ => by show 0 ≤ (0 : Int) ∧ (0 : Int) < m; omega, fun _ _ => rfl⟩
theorem rr_ldr {M : gx_M} {n : Int} {a : Nat → Int} (p2 : ∀ r, r < 3 → rw_of M r = rw_ld n a r) (p3 : rw_of M 3 = fun _ => 0) : ∀ i, i < 4 → rw_of M i = rr_ld n a i := fun i hi => by
  unfold rr_ld
  by_cases e : i < 3
  · rw [if_pos e]; exact p2 i e
  · rw [if_neg e, show i = 3 by omega]; exact p3
/-- an element brought to its simplest form in the rows -/
def gr_D (m n : Int) (a : Nat → Int) (M M' : gx_M) (q : rr_S) : Prop := rr_run m (rr_ld n a, 1, 0) 3 q ∧ q.2.2 ≤ 4 ∧ rr_ok m q.1 ∧ rr_R m (q.1, q.2.1) M' ∧ (-11 ≤ q.2.1 ∧ q.2.1 ≤ 11) ∧ rr_O M M'
set_option maxRecDepth 100000 in
set_option maxHeartbeats 4000000 in
theorem c_X0_rank {La : List gx_K} (hL : gd_H La) {M : gx_M} {n m : Int} (hm : 3 ≤ m ∧ m ≤ 11) (h0 : M 46 0 = n) (hn : n = 2 ∨ n = 3) (h1 : M 46 1 = m) {a : Nat} (ha : gd_9 La a) (na : a < 19 ∨ 25 ≤ a) (oa : mx_ok m (mx_of (M a) 0)) : gx_Ci La yX0_rank wsX0_rank 3 [gx_R 13, gx_R a] M (fun z M' => ∃ q, gr_D m n (mx_of (M a) 0) M M' q ∧ z = (q.2.2 : Int)) := by
  refine gx_start_i (L := [gx_R 13, gx_R a]) (by decide) rfl rfl (Nat.le_of_ble_eq_true rfl) rfl ?_
  intro _ _ _ _ _ _ _ _ _ _ _ _ C
  refine gx_aload_n C dX0_rank_0 rfl ?_
  refine gx_getR C 0 _ 1 rfl (gd_13 hL) rfl (by decide) nX0_rank_0 (gx_hts C _ fX0_rank_21) dX0_rank_1 ?_
  refine gx_aload_n C dX0_rank_4 rfl ?_
  refine gx_aload_n C dX0_rank_5 rfl ?_
  refine gx_getR C 0 _ 0 rfl (gd_13 hL) rfl (by decide) nX0_rank_0 (gx_hts C _ fX0_rank_12) dX0_rank_6 ?_
  refine gx_callVN C 5 rfl (gd_19 hL) (c_X5_load hL ha na (gd_now hL) (by decide) h0 hn h1) (⟨va_cnB 2 (gx_hts C) gX0_rank_X5_load_n78 rfl rfl rfl ((gx_hN C).2 ("PeirceDesk$Algebra", 78, yX5_load, "PeirceDesk") (by decide +kernel)) ((gx_hts C) (.initialized RX5) (by decide +kernel)) (by decide +kernel) ⟨Nat.le_of_ble_eq_true rfl, Nat.le_of_ble_eq_true rfl⟩, (gx_hts C) (.instanceMethod yX5_load) (by decide +kernel), (gx_hts C) (.selects RX5 yX5_load yX5_load) (by decide +kernel)⟩) rfl rfl (Nat.le_of_ble_eq_true rfl) ⟨Nat.le_refl _, Nat.le_refl _⟩ dX0_rank_9 (fun P h2 => ?_)
  obtain ⟨p1, p2, p3, p4⟩ := h2
  refine gx_aload_n C dX0_rank_12 rfl ?_
  refine gx_getR C 0 _ 1 rfl (gd_13 hL) rfl (by decide) nX0_rank_0 (gx_hts C _ fX0_rank_21) dX0_rank_13 ?_
  refine gx_iconst C dX0_rank_16 ?_
  refine gx_callIN C 5 rfl (gd_19 hL) (c_X5_reduce hL hm (R := rr_ld n (mx_of (M a) 0)) p1 (rr_ldr p2 p3) (rr_ld_ok hm.1 oa) (N := 3) (by decide)) (⟨va_cnB 1 (gx_hts C) gX0_rank_X5_reduce_n82 rfl rfl rfl ((gx_hN C).2 ("PeirceDesk$Algebra", 82, yX5_reduce, "PeirceDesk") (by decide +kernel)) ((gx_hts C) (.initialized RX5) (by decide +kernel)) (by decide +kernel) ⟨Nat.le_of_ble_eq_true rfl, Nat.le_of_ble_eq_true rfl⟩, (gx_hts C) (.instanceMethod yX5_reduce) (by decide +kernel), (gx_hts C) (.selects RX5 yX5_reduce yX5_reduce) (by decide +kernel)⟩) rfl rfl (Nat.le_of_ble_eq_true rfl) ⟨Nat.le_refl _, Nat.le_refl _⟩ dX0_rank_17 (fun z P2 h3 => ?_)
  obtain ⟨q, q1, q2, q3, rfl, q5, q6, q7⟩ := h3
  exact gx_iret C dX0_rank_20 ⟨q, ⟨q1, q2, q3, q5, q6, rr_Ot p4 q7⟩, rfl⟩
set_option maxRecDepth 100000 in
set_option maxHeartbeats 4000000 in
theorem c_X0_determinant {La : List gx_K} (hL : gd_H La) {M : gx_M} {n m : Int} (hm : 3 ≤ m ∧ m ≤ 11) (h0 : M 46 0 = n) (hn : n = 2 ∨ n = 3) (h1 : M 46 1 = m) {a : Nat} (ha : gd_9 La a) (na : a < 19 ∨ 25 ≤ a) (oa : mx_ok m (mx_of (M a) 0)) : gx_Ci La yX0_determinant wsX0_determinant 3 [gx_R 13, gx_R a] M (fun z M' => ∃ q, gr_D m n (mx_of (M a) 0) M M' q ∧ z = if (q.2.2 : Int) = n then q.2.1 % m else 0) := by
  refine gx_start_i (L := [gx_R 13, gx_R a]) (by decide) rfl rfl (Nat.le_of_ble_eq_true rfl) rfl ?_
  intro _ _ _ _ _ _ _ _ _ _ _ _ C
  refine gx_aload_n C dX0_determinant_0 rfl ?_
  refine gx_getR C 0 _ 1 rfl (gd_13 hL) rfl (by decide) nX0_determinant_0 (gx_hts C _ fX0_determinant_21) dX0_determinant_1 ?_
  refine gx_aload_n C dX0_determinant_4 rfl ?_
  refine gx_aload_n C dX0_determinant_5 rfl ?_
  refine gx_getR C 0 _ 0 rfl (gd_13 hL) rfl (by decide) nX0_determinant_0 (gx_hts C _ fX0_determinant_12) dX0_determinant_6 ?_
  refine gx_callVN C 5 rfl (gd_19 hL) (c_X5_load hL ha na (gd_now hL) (by decide) h0 hn h1) (⟨va_cnB 2 (gx_hts C) gX0_determinant_X5_load_n78 rfl rfl rfl ((gx_hN C).2 ("PeirceDesk$Algebra", 78, yX5_load, "PeirceDesk") (by decide +kernel)) ((gx_hts C) (.initialized RX5) (by decide +kernel)) (by decide +kernel) ⟨Nat.le_of_ble_eq_true rfl, Nat.le_of_ble_eq_true rfl⟩, (gx_hts C) (.instanceMethod yX5_load) (by decide +kernel), (gx_hts C) (.selects RX5 yX5_load yX5_load) (by decide +kernel)⟩) rfl rfl (Nat.le_of_ble_eq_true rfl) ⟨Nat.le_refl _, Nat.le_refl _⟩ dX0_determinant_9 (fun P h2 => ?_)
  obtain ⟨p1, p2, p3, p4⟩ := h2
  refine gx_aload_n C dX0_determinant_12 rfl ?_
  refine gx_getR C 0 _ 1 rfl (gd_13 hL) rfl (by decide) nX0_determinant_0 (gx_hts C _ fX0_determinant_21) dX0_determinant_13 ?_
  refine gx_iconst C dX0_determinant_16 ?_
  refine gx_callIN C 5 rfl (gd_19 hL) (c_X5_reduce hL hm (R := rr_ld n (mx_of (M a) 0)) p1 (rr_ldr p2 p3) (rr_ld_ok hm.1 oa) (N := 3) (by decide)) (⟨va_cnB 1 (gx_hts C) gX0_determinant_X5_reduce_n82 rfl rfl rfl ((gx_hN C).2 ("PeirceDesk$Algebra", 82, yX5_reduce, "PeirceDesk") (by decide +kernel)) ((gx_hts C) (.initialized RX5) (by decide +kernel)) (by decide +kernel) ⟨Nat.le_of_ble_eq_true rfl, Nat.le_of_ble_eq_true rfl⟩, (gx_hts C) (.instanceMethod yX5_reduce) (by decide +kernel), (gx_hts C) (.selects RX5 yX5_reduce yX5_reduce) (by decide +kernel)⟩) rfl rfl (Nat.le_of_ble_eq_true rfl) ⟨Nat.le_refl _, Nat.le_refl _⟩ dX0_determinant_17 (fun z P2 h3 => ?_)
  obtain ⟨q, q1, q2, q3, rfl, q5, q6, q7⟩ := h3
  have hO := rr_Ot p4 q7
  have e0 : P2 46 0 = n := by rw [hO 46 (by decide)]; exact h0
  have e1 : P2 46 1 = m := by rw [hO 46 (by decide)]; exact h1
  refine gx_aload_n C dX0_determinant_20 rfl ?_
  refine gx_getR C 0 _ 0 rfl (gd_13 hL) rfl (by decide) nX0_determinant_0 (gx_hts C _ fX0_determinant_12) dX0_determinant_21 ?_
  refine gx_getIN C 6 _ 0 rfl (gd_now hL).1 rfl (by decide) nX0_determinant_6 ((gx_hN C).1 ("PeirceDesk$Algebra", 86, "PeirceDesk$State", "size", "I", "PeirceDesk") (by decide +kernel) |> va_Nw.use rfl) dX0_determinant_24 e0 ?_
  refine gx_icmp_ne C dX0_determinant_27 rfl (by unfold gx_3; omega) (by unfold gx_3; omega) (fun hb27 => ?_) (fun hb27 => ?_)
  · refine gx_iconst C dX0_determinant_50 ?_
    exact gx_iret C dX0_determinant_51 ⟨q, ⟨q1, q2, q3, q5, q6, hO⟩, by rw [if_neg hb27]⟩
  · have hmd := mx_md (m := m) (by omega) q.2.1
    refine gx_aload_n C dX0_determinant_30 rfl ?_
    refine gx_getR C 0 _ 1 rfl (gd_13 hL) rfl (by decide) nX0_determinant_0 (gx_hts C _ fX0_determinant_21) dX0_determinant_31 ?_
    refine gx_getIN C 5 _ 2 rfl (gd_19 hL) rfl (by decide) nX0_determinant_5 ((gx_hN C).1 ("PeirceDesk$Algebra", 100, "PeirceDesk$Rows", "pivots", "I", "PeirceDesk") (by decide +kernel) |> va_Nw.use rfl) dX0_determinant_34 q5.2.1 ?_
    refine gx_aload_n C dX0_determinant_37 rfl ?_
    refine gx_getR C 0 _ 0 rfl (gd_13 hL) rfl (by decide) nX0_determinant_0 (gx_hts C _ fX0_determinant_12) dX0_determinant_38 ?_
    refine gx_getIN C 6 _ 1 rfl (gd_now hL).1 rfl (by decide) nX0_determinant_6 ((gx_hN C).1 ("PeirceDesk$Algebra", 58, "PeirceDesk$State", "modulus", "I", "PeirceDesk") (by decide +kernel) |> va_Nw.use rfl) dX0_determinant_41 e1 ?_
    refine gx_statIN C (c_X7_reduced (x := q.2.1) (m := m) (by omega) (by omega)) (⟨va_cnB 2 (gx_hts C) gX0_determinant_X7_reduced_n62 rfl rfl rfl ((gx_hN C).2 ("PeirceDesk$Algebra", 62, yX7_reduced, "PeirceDesk") (by decide +kernel)) ((gx_hts C) (.initialized RX7) (by decide +kernel)) (by decide +kernel) ⟨Nat.le_of_ble_eq_true rfl, Nat.le_of_ble_eq_true rfl⟩, (gx_hts C) (.static yX7_reduced) (by decide +kernel), trivial⟩) rfl rfl (Nat.le_of_ble_eq_true rfl) ⟨Nat.le_refl _, Nat.le_refl _⟩ dX0_determinant_44 (fun z P3 hz => ?_)
    obtain ⟨rfl, rfl⟩ := hz
    refine gx_goto C dX0_determinant_47 rfl ?_
    exact gx_iret C dX0_determinant_51 ⟨q, ⟨q1, q2, q3, q5, q6, hO⟩, by rw [if_pos (by omega)]⟩
/-- the usual inverse that the rows hold -/
def rr_inv (R : Nat → Nat → Int) : Nat → Int := fun k => if k < 9 then R (k / 3) (3 + k % 3) else 0
theorem rr_inv_at {R : Nat → Nat → Int} {r c : Nat} (hr : r < 3) (hc : c < 3) : rr_inv R (3 * r + c) = R r (3 + c) := by
  unfold rr_inv
  rw [if_pos (by omega), show (3 * r + c) / 3 = r by omega, show (3 * r + c) % 3 = c by omega]
theorem rr_inv_9 {R : Nat → Nat → Int} : ∀ k, 9 ≤ k → rr_inv R k = 0 := fun k hk => if_neg (by omega)
theorem rr_inv_ok {m : Int} {R : Nat → Nat → Int} (h : rr_ok m R) : mx_ok m (rr_inv R) := fun k hk => by
  unfold rr_inv
  rw [if_pos hk]
  exact (h (k / 3) (by omega)).1 (3 + k % 3) (by omega)
theorem mx_of_rinv {M : gx_M} {t : Nat} {R : Nat → Nat → Int} : mx_of (gx_blk M t 0 9 (rr_inv R) t) 0 = rr_inv R := by rw [mx_of_blk, mx_cut rr_inv_9]
set_option maxRecDepth 100000 in
set_option maxHeartbeats 4000000 in
theorem c_X0_readInverse {La : List gx_K} (hL : gd_H La) {M : gx_M} {m : Int} (hm : m ≤ 11) {q : (Nat → Nat → Int) × Int} (hR : rr_R m q M) (ok : rr_ok m q.1) {t : Nat} (ht : gd_9 La t) (nt : t < 19 ∨ 25 ≤ t) : gx_Cv La yX0_readInverse wsX0_readInverse 0 [gx_R 13, gx_R t] M (fun M' => M' = gx_blk M t 0 9 (rr_inv q.1)) := by
  obtain ⟨R, pv⟩ := q
  simp only at ok ⊢
  refine gx_start_v (L := [gx_R 13, gx_R t, gx_U, gx_U]) (by decide) rfl rfl (Nat.le_of_ble_eq_true rfl) rfl ?_
  intro _ _ _ _ _ _ _ _ _ _ _ _ C
  refine gx_iconst C dX0_readInverse_0 ?_
  refine gx_istore_n C dX0_readInverse_1 (by decide) rfl ?_
  refine gx_for 3 (fun r (_ : gx_M) => [gx_R 13, gx_R t, gx_I (r : Int), gx_U]) (fun P => P) (fun r P => P = gx_blk M t 0 (3 * r) (rr_inv R)) 0 M (by omega) gx_blk_0.symm (fun r P hr hI ih => ?_) (fun P hI => ?_)
  · have hrow := gd_r hL (i := r) (by omega)
    refine gx_iload_n C dX0_readInverse_2 rfl ?_
    refine gx_iconst C dX0_readInverse_3 ?_
    refine gx_icmp_ge C dX0_readInverse_4 rfl (by unfold gx_3; omega) (by unfold gx_3; omega) (fun hb4 => absurd hb4 (by omega)) (fun hb4 => ?_)
    refine gx_iconst C dX0_readInverse_7 ?_
    refine gx_istore_n C dX0_readInverse_8 (by decide) rfl ?_
    refine gx_for 3 (fun c (_ : gx_M) => [gx_R 13, gx_R t, gx_I (r : Int), gx_I (c : Int)]) (fun P => P) (fun c P => P = gx_blk M t 0 (3 * r + c) (rr_inv R)) 0 P (by omega) hI (fun c P2 hc hI2 ih2 => ?_) (fun P2 hI2 => ?_)
    · have e1 : P2 (21 + 1 * r) ((3 + (c : Int)).toNat) = R r (3 + c) := by
        rw [hI2, gx_blk_nc (by omega), show (3 + (c : Int)).toNat = 3 + c by omega]
        exact (rw_at (by omega)).trans (congrFun (hR.2.2 r (by omega)) _)
      refine gx_iload_n C dX0_readInverse_9 rfl ?_
      refine gx_iconst C dX0_readInverse_10 ?_
      refine gx_icmp_ge C dX0_readInverse_11 rfl (by unfold gx_3; omega) (by unfold gx_3; omega) (fun hb11 => absurd hb11 (by omega)) (fun hb11 => ?_)
      refine gx_aload_n C dX0_readInverse_14 rfl ?_
      refine gx_iconst C dX0_readInverse_15 ?_
      refine gx_iload_n C dX0_readInverse_16 rfl ?_
      refine gx_imul C dX0_readInverse_17 ?_
      refine gx_iload_n C dX0_readInverse_18 rfl ?_
      refine gx_iadd C dX0_readInverse_19 ?_
      refine gx_aload_n C dX0_readInverse_20 rfl ?_
      refine gx_getR C 0 _ 1 rfl (gd_13 hL) rfl (by decide) nX0_readInverse_0 (gx_hts C _ fX0_readInverse_21) dX0_readInverse_21 ?_
      refine gx_getRN C 5 _ 0 rfl (gd_19 hL) rfl (by decide) nX0_readInverse_5 ((gx_hN C).1 ("PeirceDesk$Algebra", 97, "PeirceDesk$Rows", "cells", "[[I", "PeirceDesk") (by decide +kernel) |> va_Nw.use rfl) dX0_readInverse_24 ?_
      refine gx_iload_n C dX0_readInverse_27 rfl ?_
      refine gx_aaload C (gd_20 hL) (by decide) (by omega) dX0_readInverse_28 (show _ = 21 + 1 * r from rfl) ?_
      refine gx_iconst C dX0_readInverse_29 ?_
      refine gx_iload_n C dX0_readInverse_30 rfl ?_
      refine gx_iadd C dX0_readInverse_31 ?_
      refine gx_iaload C hrow (by omega) dX0_readInverse_32 e1 ?_
      refine gx_iastore C ht (by omega) dX0_readInverse_33 (show _ = 0 + (3 * r + c) by omega) ?_
      refine gx_iinc C dX0_readInverse_34 (by decide) rfl rfl ?_
      refine gx_goto C dX0_readInverse_37 rfl ?_
      exact ih2 _ (by rw [hI2]; exact gx_blk_s (rr_inv_at hr hc).symm)
    · refine gx_iload_n C dX0_readInverse_9 rfl ?_
      refine gx_iconst C dX0_readInverse_10 ?_
      refine gx_icmp_ge C dX0_readInverse_11 rfl (by unfold gx_3; omega) (by unfold gx_3; omega) (fun hb11 => ?_) (fun hb11 => absurd (by omega) hb11)
      refine gx_iinc C dX0_readInverse_40 (by decide) rfl rfl ?_
      refine gx_goto C dX0_readInverse_43 rfl ?_
      exact gx_weak (L' := [gx_R 13, gx_R t, gx_I ((r + 1 : Nat) : Int), gx_U]) ⟨Or.inr rfl, Or.inr rfl, Or.inr rfl, Or.inl rfl, trivial⟩ (ih _ (by rw [hI2, show 3 * (r + 1) = 3 * r + 3 by omega]))
  · refine gx_iload_n C dX0_readInverse_2 rfl ?_
    refine gx_iconst C dX0_readInverse_3 ?_
    refine gx_icmp_ge C dX0_readInverse_4 rfl (by unfold gx_3; omega) (by unfold gx_3; omega) (fun hb4 => ?_) (fun hb4 => absurd (by omega) hb4)
    exact gx_vret C dX0_readInverse_46 hI
theorem mx_of_cp {M : gx_M} {a b : Nat} : mx_of (gx_blk M b 0 9 (mx_of (M a) 0) b) 0 = mx_of (M a) 0 := by
  rw [mx_of_blk, mx_cut (f := mx_of (M a) 0) (fun k hk => if_neg (by omega))]
set_option maxRecDepth 100000 in
set_option maxHeartbeats 4000000 in
theorem c_X0_inverse {La : List gx_K} (hL : gd_H La) {M : gx_M} {n m : Int} (hm : 3 ≤ m ∧ m ≤ 11) (h0 : M 46 0 = n) (hn : n = 2 ∨ n = 3) (h1 : M 46 1 = m) {a t : Nat} (ha : gd_9 La a) (na : a < 19 ∨ 25 ≤ a) (ht : gd_9 La t) (nt : (t < 19 ∨ 25 ≤ t) ∧ t ≠ 31 ∧ t ≠ 57) (oa : mx_ok m (mx_of (M a) 0)) (ov : mx_ok m (mx_of (M 57) 0)) : gx_Ci La yX0_inverse wsX0_inverse 3 [gx_R 13, gx_R a, gx_R t] M (fun z M' => ∃ q M1, gr_D m n (mx_of (M a) 0) M M1 q ∧ (((q.2.2 : Int) ≠ n ∧ z = 0 ∧ M' = M1) ∨ ((q.2.2 : Int) = n ∧ z = 1 ∧ mx_of (M' t) 0 = mx_mul 3 m (mx_mul 3 m (mx_of (M 57) 0) (rr_inv q.1)) (mx_of (M 57) 0) ∧ ∀ c, c ≠ 31 → c ≠ t → M' c = M1 c))) := by
  refine gx_start_i (L := [gx_R 13, gx_R a, gx_R t]) (by decide) rfl rfl (Nat.le_of_ble_eq_true rfl) rfl ?_
  intro _ _ _ _ _ _ _ _ _ _ _ _ C
  refine gx_aload_n C dX0_inverse_0 rfl ?_
  refine gx_getR C 0 _ 1 rfl (gd_13 hL) rfl (by decide) nX0_inverse_0 (gx_hts C _ fX0_inverse_21) dX0_inverse_1 ?_
  refine gx_aload_n C dX0_inverse_4 rfl ?_
  refine gx_aload_n C dX0_inverse_5 rfl ?_
  refine gx_getR C 0 _ 0 rfl (gd_13 hL) rfl (by decide) nX0_inverse_0 (gx_hts C _ fX0_inverse_12) dX0_inverse_6 ?_
  refine gx_callVN C 5 rfl (gd_19 hL) (c_X5_load hL ha na (gd_now hL) (by decide) h0 hn h1) (⟨va_cnB 2 (gx_hts C) gX0_inverse_X5_load_n78 rfl rfl rfl ((gx_hN C).2 ("PeirceDesk$Algebra", 78, yX5_load, "PeirceDesk") (by decide +kernel)) ((gx_hts C) (.initialized RX5) (by decide +kernel)) (by decide +kernel) ⟨Nat.le_of_ble_eq_true rfl, Nat.le_of_ble_eq_true rfl⟩, (gx_hts C) (.instanceMethod yX5_load) (by decide +kernel), (gx_hts C) (.selects RX5 yX5_load yX5_load) (by decide +kernel)⟩) rfl rfl (Nat.le_of_ble_eq_true rfl) ⟨Nat.le_refl _, Nat.le_refl _⟩ dX0_inverse_9 (fun P h2 => ?_)
  obtain ⟨p1, p2, p3, p4⟩ := h2
  refine gx_aload_n C dX0_inverse_12 rfl ?_
  refine gx_getR C 0 _ 1 rfl (gd_13 hL) rfl (by decide) nX0_inverse_0 (gx_hts C _ fX0_inverse_21) dX0_inverse_13 ?_
  refine gx_iconst C dX0_inverse_16 ?_
  refine gx_callIN C 5 rfl (gd_19 hL) (c_X5_reduce hL hm (R := rr_ld n (mx_of (M a) 0)) p1 (rr_ldr p2 p3) (rr_ld_ok hm.1 oa) (N := 3) (by decide)) (⟨va_cnB 1 (gx_hts C) gX0_inverse_X5_reduce_n82 rfl rfl rfl ((gx_hN C).2 ("PeirceDesk$Algebra", 82, yX5_reduce, "PeirceDesk") (by decide +kernel)) ((gx_hts C) (.initialized RX5) (by decide +kernel)) (by decide +kernel) ⟨Nat.le_of_ble_eq_true rfl, Nat.le_of_ble_eq_true rfl⟩, (gx_hts C) (.instanceMethod yX5_reduce) (by decide +kernel), (gx_hts C) (.selects RX5 yX5_reduce yX5_reduce) (by decide +kernel)⟩) rfl rfl (Nat.le_of_ble_eq_true rfl) ⟨Nat.le_refl _, Nat.le_refl _⟩ dX0_inverse_17 (fun z P2 h3 => ?_)
  obtain ⟨q, q1, q2, q3, rfl, q5, q6, q7⟩ := h3
  have hO := rr_Ot p4 q7
  have hD : gr_D m n (mx_of (M a) 0) M P2 q := ⟨q1, q2, q3, q5, q6, hO⟩
  have e0 : P2 46 0 = n := by rw [hO 46 (by decide)]; exact h0
  have e1 : P2 46 1 = m := by rw [hO 46 (by decide)]; exact h1
  have ev : mx_of (P2 57) 0 = mx_of (M 57) 0 := by rw [hO 57 (by decide)]
  refine gx_aload_n C dX0_inverse_20 rfl ?_
  refine gx_getR C 0 _ 0 rfl (gd_13 hL) rfl (by decide) nX0_inverse_0 (gx_hts C _ fX0_inverse_12) dX0_inverse_21 ?_
  refine gx_getIN C 6 _ 0 rfl (gd_now hL).1 rfl (by decide) nX0_inverse_6 ((gx_hN C).1 ("PeirceDesk$Algebra", 86, "PeirceDesk$State", "size", "I", "PeirceDesk") (by decide +kernel) |> va_Nw.use rfl) dX0_inverse_24 e0 ?_
  refine gx_icmp_eq C dX0_inverse_27 rfl (by unfold gx_3; omega) (by unfold gx_3; omega) (fun hb27 => ?_) (fun hb27 => ?_)
  · refine gx_aload_n C dX0_inverse_32 rfl ?_
    refine gx_aload_n C dX0_inverse_33 rfl ?_
    refine gx_callV C 0 rfl (gd_13 hL) (c_X0_readInverse hL hm.2 q5 q3 ht nt.1) (cwV 1 (gx_hts C) gX0_inverse_X0_readInverse rfl rfl rfl (by decide +kernel) ⟨Nat.le_of_ble_eq_true rfl, Nat.le_of_ble_eq_true rfl⟩) rfl rfl (Nat.le_of_ble_eq_true rfl) ⟨Nat.le_refl _, Nat.le_refl _⟩ dX0_inverse_34 (fun P3 h4 => ?_)
    have m3 : P3 46 1 = m := by rw [h4, gx_blk_nc (gd_ne (gd_now hL).1 ht)]; exact e1
    have v3 : mx_of (P3 57) 0 = mx_of (M 57) 0 := by rw [h4, gx_blk_nc (Ne.symm nt.2.2)]; exact ev
    have t3 : mx_of (P3 t) 0 = rr_inv q.1 := by rw [h4]; exact mx_of_rinv
    refine gx_aload_n C dX0_inverse_37 rfl ?_
    refine gx_aload_n C dX0_inverse_38 rfl ?_
    refine gx_callR C 0 rfl (gd_13 hL) (c_X0_unit hL) (cwV 0 (gx_hts C) gX0_inverse_X0_unit rfl rfl rfl (by decide +kernel) ⟨Nat.le_of_ble_eq_true rfl, Nat.le_of_ble_eq_true rfl⟩) rfl rfl (Nat.le_of_ble_eq_true rfl) ⟨Nat.le_refl _, Nat.le_refl _⟩ dX0_inverse_39 (fun u P4 h5 => ?_)
    obtain ⟨rfl, rfl⟩ := h5
    refine gx_aload_n C dX0_inverse_42 rfl ?_
    refine gx_aload_n C dX0_inverse_43 rfl ?_
    refine gx_getR C 0 _ 5 rfl (gd_13 hL) rfl (by decide) nX0_inverse_0 (gx_hts C _ fX0_inverse_37) dX0_inverse_44 ?_
    refine gx_callV C 0 rfl (gd_13 hL) (c_X0_multiply hL hm m3 (gd_57 hL) ht (gd_31 hL) (by decide) nt.2.1 (by rw [v3]; exact ov) (by rw [t3]; exact rr_inv_ok q3)) (cwV 3 (gx_hts C) gX0_inverse_X0_multiply rfl rfl rfl (by decide +kernel) ⟨Nat.le_of_ble_eq_true rfl, Nat.le_of_ble_eq_true rfl⟩) rfl rfl (Nat.le_of_ble_eq_true rfl) ⟨Nat.le_refl _, Nat.le_refl _⟩ dX0_inverse_47 (fun P5 h6 => ?_)
    rw [v3, t3] at h6
    have m5 : P5 46 1 = m := by rw [h6, gx_blk_nc (by decide)]; exact m3
    have v5 : mx_of (P5 57) 0 = mx_of (M 57) 0 := by rw [h6, gx_blk_nc (by decide)]; exact v3
    have l5 : mx_of (P5 31) 0 = mx_mul 3 m (mx_of (M 57) 0) (rr_inv q.1) := by rw [h6]; exact mx_of_mul3
    refine gx_aload_n C dX0_inverse_50 rfl ?_
    refine gx_aload_n C dX0_inverse_51 rfl ?_
    refine gx_getR C 0 _ 5 rfl (gd_13 hL) rfl (by decide) nX0_inverse_0 (gx_hts C _ fX0_inverse_37) dX0_inverse_52 ?_
    refine gx_aload_n C dX0_inverse_55 rfl ?_
    refine gx_callR C 0 rfl (gd_13 hL) (c_X0_unit hL) (cwV 0 (gx_hts C) gX0_inverse_X0_unit rfl rfl rfl (by decide +kernel) ⟨Nat.le_of_ble_eq_true rfl, Nat.le_of_ble_eq_true rfl⟩) rfl rfl (Nat.le_of_ble_eq_true rfl) ⟨Nat.le_refl _, Nat.le_refl _⟩ dX0_inverse_56 (fun u P6 h7 => ?_)
    obtain ⟨rfl, rfl⟩ := h7
    refine gx_aload_n C dX0_inverse_59 rfl ?_
    refine gx_callV C 0 rfl (gd_13 hL) (c_X0_multiply hL hm m5 (gd_31 hL) (gd_57 hL) ht (Ne.symm nt.2.1) (Ne.symm nt.2.2) (by rw [l5]; exact mx_mul_ok hm.1 _ _) (by rw [v5]; exact ov)) (cwV 3 (gx_hts C) gX0_inverse_X0_multiply rfl rfl rfl (by decide +kernel) ⟨Nat.le_of_ble_eq_true rfl, Nat.le_of_ble_eq_true rfl⟩) rfl rfl (Nat.le_of_ble_eq_true rfl) ⟨Nat.le_refl _, Nat.le_refl _⟩ dX0_inverse_60 (fun P7 h8 => ?_)
    rw [l5, v5] at h8
    refine gx_iconst C dX0_inverse_63 ?_
    exact gx_zret C (by omega) dX0_inverse_64 ⟨q, P2, hD, Or.inr ⟨hb27, rfl, by rw [h8]; exact mx_of_mul3, fun c c1 c2 => by rw [h8, gx_blk_nc c2, h6, gx_blk_nc c1, h4, gx_blk_nc c2]⟩⟩
  · refine gx_iconst C dX0_inverse_30 ?_
    exact gx_zret C (by omega) dX0_inverse_31 ⟨q, P2, hD, Or.inl ⟨hb27, rfl, rfl⟩⟩
set_option maxRecDepth 100000 in
set_option maxHeartbeats 4000000 in
theorem c_X0_takeIdentityAsBase {La : List gx_K} (hL : gd_H La) {M : gx_M} {n : Int} (h0 : M 46 0 = n) (hn : n = 2 ∨ n = 3) : gx_Cv La yX0_takeIdentityAsBase wsX0_takeIdentityAsBase 1 [gx_R 13] M (fun M' => mx_of (M' 56) 0 = mx_id n ∧ mx_of (M' 57) 0 = mx_id n ∧ ∀ c, c ≠ 56 → c ≠ 57 → M' c = M c) := by
  refine gx_start_v (L := [gx_R 13]) (by decide) rfl rfl (Nat.le_of_ble_eq_true rfl) rfl ?_
  intro _ _ _ _ _ _ _ _ _ _ _ _ C
  refine gx_aload_n C dX0_takeIdentityAsBase_0 rfl ?_
  refine gx_getR C 0 _ 0 rfl (gd_13 hL) rfl (by decide) nX0_takeIdentityAsBase_0 (gx_hts C _ fX0_takeIdentityAsBase_12) dX0_takeIdentityAsBase_1 ?_
  refine gx_aload_n C dX0_takeIdentityAsBase_4 rfl ?_
  refine gx_getR C 0 _ 0 rfl (gd_13 hL) rfl (by decide) nX0_takeIdentityAsBase_0 (gx_hts C _ fX0_takeIdentityAsBase_12) dX0_takeIdentityAsBase_5 ?_
  refine gx_getRN C 6 _ 2 rfl (gd_now hL).1 rfl (by decide) nX0_takeIdentityAsBase_6 ((gx_hN C).1 ("PeirceDesk$Algebra", 55, "PeirceDesk$State", "elements", "[[I", "PeirceDesk") (by decide +kernel) |> va_Nw.use rfl) dX0_takeIdentityAsBase_8 ?_
  refine gx_bipush C dX0_takeIdentityAsBase_11 rfl ?_
  refine gx_aaload C (gd_now hL).2.1 (by decide) (by omega) dX0_takeIdentityAsBase_13 (show _ = 56 from rfl) ?_
  refine gx_callVN C 6 rfl (gd_now hL).1 (c_X6_writeIdentity (gd_now hL) (gd_56 hL) h0 hn) (⟨va_cnB 1 (gx_hts C) gX0_takeIdentityAsBase_X6_writeIdentity_n103 rfl rfl rfl ((gx_hN C).2 ("PeirceDesk$Algebra", 103, yX6_writeIdentity, "PeirceDesk") (by decide +kernel)) ((gx_hts C) (.initialized RX6) (by decide +kernel)) (by decide +kernel) ⟨Nat.le_of_ble_eq_true rfl, Nat.le_of_ble_eq_true rfl⟩, (gx_hts C) (.instanceMethod yX6_writeIdentity) (by decide +kernel), (gx_hts C) (.selects RX6 yX6_writeIdentity yX6_writeIdentity) (by decide +kernel)⟩) rfl rfl (Nat.le_of_ble_eq_true rfl) ⟨Nat.le_refl _, Nat.le_refl _⟩ dX0_takeIdentityAsBase_14 (fun P h2 => ?_)
  have e0 : P 46 0 = n := by rw [h2, gx_blk_nc (by decide)]; exact h0
  refine gx_aload_n C dX0_takeIdentityAsBase_17 rfl ?_
  refine gx_getR C 0 _ 0 rfl (gd_13 hL) rfl (by decide) nX0_takeIdentityAsBase_0 (gx_hts C _ fX0_takeIdentityAsBase_12) dX0_takeIdentityAsBase_18 ?_
  refine gx_aload_n C dX0_takeIdentityAsBase_21 rfl ?_
  refine gx_callR C 0 rfl (gd_13 hL) (c_X0_unit hL) (cwV 0 (gx_hts C) gX0_takeIdentityAsBase_X0_unit rfl rfl rfl (by decide +kernel) ⟨Nat.le_of_ble_eq_true rfl, Nat.le_of_ble_eq_true rfl⟩) rfl rfl (Nat.le_of_ble_eq_true rfl) ⟨Nat.le_refl _, Nat.le_refl _⟩ dX0_takeIdentityAsBase_22 (fun u P4 h5 => ?_)
  obtain ⟨rfl, rfl⟩ := h5
  refine gx_callVN C 6 rfl (gd_now hL).1 (c_X6_writeIdentity (gd_now hL) (gd_57 hL) e0 hn) (⟨va_cnB 1 (gx_hts C) gX0_takeIdentityAsBase_X6_writeIdentity_n103 rfl rfl rfl ((gx_hN C).2 ("PeirceDesk$Algebra", 103, yX6_writeIdentity, "PeirceDesk") (by decide +kernel)) ((gx_hts C) (.initialized RX6) (by decide +kernel)) (by decide +kernel) ⟨Nat.le_of_ble_eq_true rfl, Nat.le_of_ble_eq_true rfl⟩, (gx_hts C) (.instanceMethod yX6_writeIdentity) (by decide +kernel), (gx_hts C) (.selects RX6 yX6_writeIdentity yX6_writeIdentity) (by decide +kernel)⟩) rfl rfl (Nat.le_of_ble_eq_true rfl) ⟨Nat.le_refl _, Nat.le_refl _⟩ dX0_takeIdentityAsBase_25 (fun P5 h6 => ?_)
  exact gx_vret C dX0_takeIdentityAsBase_28 ⟨by rw [h6, gx_blk_nc (by decide), h2]; exact mx_of_id (by omega), by rw [h6]; exact mx_of_id (by omega), fun c c1 c2 => by rw [h6, gx_blk_nc c2, h2, gx_blk_nc c1]⟩
set_option maxRecDepth 100000 in
set_option maxHeartbeats 4000000 in
theorem c_X0_takeAsBase {La : List gx_K} (hL : gd_H La) {M : gx_M} {n m : Int} (hm : 3 ≤ m ∧ m ≤ 11) (h0 : M 46 0 = n) (hn : n = 2 ∨ n = 3) (h1 : M 46 1 = m) {a : Nat} (ha : gd_9 La a) (na : 46 ≤ a ∧ a < 56) (oa : mx_ok m (mx_of (M a) 0)) : gx_Cv La yX0_takeAsBase wsX0_takeAsBase 4 [gx_R 13, gx_R a] M (fun M' => ∃ q M1, gr_D m n (mx_of (M a) 0) M M1 q ∧ (((if (q.2.2 : Int) = n then q.2.1 % m else 0) = 0 ∧ M' = M1) ∨ ((if (q.2.2 : Int) = n then q.2.1 % m else 0) ≠ 0 ∧ mx_of (M' 57) 0 = rr_inv q.1 ∧ mx_of (M' 56) 0 = mx_of (M a) 0 ∧ ∀ c, c ≠ 56 → c ≠ 57 → M' c = M1 c))) := by
  refine gx_start_v (L := [gx_R 13, gx_R a]) (by decide) rfl rfl (Nat.le_of_ble_eq_true rfl) rfl ?_
  intro _ _ _ _ _ _ _ _ _ _ _ _ C
  refine gx_aload_n C dX0_takeAsBase_0 rfl ?_
  refine gx_aload_n C dX0_takeAsBase_1 rfl ?_
  refine gx_callI C 0 rfl (gd_13 hL) (c_X0_determinant hL hm h0 hn h1 ha (by omega) oa) (cwV 1 (gx_hts C) gX0_takeAsBase_X0_determinant rfl rfl rfl (by decide +kernel) ⟨Nat.le_of_ble_eq_true rfl, Nat.le_of_ble_eq_true rfl⟩) rfl rfl (Nat.le_of_ble_eq_true rfl) ⟨Nat.le_refl _, Nat.le_refl _⟩ dX0_takeAsBase_2 (fun z P h2 => ?_)
  obtain ⟨q, hD, hz⟩ := h2
  have hzb : 0 ≤ z ∧ z < m := by
    have := mx_md (m := m) (by omega) q.2.1
    rw [hz]
    split <;> omega
  refine gx_if_eq C dX0_takeAsBase_5 rfl (by unfold gx_3; omega) (fun hb5 => ?_) (fun hb5 => ?_)
  · exact gx_vret C dX0_takeAsBase_30 ⟨q, P, hD, Or.inl ⟨by rw [← hz]; exact hb5, rfl⟩⟩
  · refine gx_aload_n C dX0_takeAsBase_8 rfl ?_
    refine gx_aload_n C dX0_takeAsBase_9 rfl ?_
    refine gx_callR C 0 rfl (gd_13 hL) (c_X0_unit hL) (cwV 0 (gx_hts C) gX0_takeAsBase_X0_unit rfl rfl rfl (by decide +kernel) ⟨Nat.le_of_ble_eq_true rfl, Nat.le_of_ble_eq_true rfl⟩) rfl rfl (Nat.le_of_ble_eq_true rfl) ⟨Nat.le_refl _, Nat.le_refl _⟩ dX0_takeAsBase_10 (fun u P4 h5 => ?_)
    obtain ⟨rfl, rfl⟩ := h5
    refine gx_callV C 0 rfl (gd_13 hL) (c_X0_readInverse hL hm.2 hD.2.2.2.1 hD.2.2.1 (gd_57 hL) (by decide)) (cwV 1 (gx_hts C) gX0_takeAsBase_X0_readInverse rfl rfl rfl (by decide +kernel) ⟨Nat.le_of_ble_eq_true rfl, Nat.le_of_ble_eq_true rfl⟩) rfl rfl (Nat.le_of_ble_eq_true rfl) ⟨Nat.le_refl _, Nat.le_refl _⟩ dX0_takeAsBase_13 (fun P5 h6 => ?_)
    have ea : mx_of (P5 a) 0 = mx_of (M a) 0 := by rw [h6, gx_blk_nc (by omega), hD.2.2.2.2.2 a (by omega)]
    refine gx_aload_n C dX0_takeAsBase_16 rfl ?_
    refine gx_aload_n C dX0_takeAsBase_17 rfl ?_
    refine gx_getR C 0 _ 0 rfl (gd_13 hL) rfl (by decide) nX0_takeAsBase_0 (gx_hts C _ fX0_takeAsBase_12) dX0_takeAsBase_18 ?_
    refine gx_getRN C 6 _ 2 rfl (gd_now hL).1 rfl (by decide) nX0_takeAsBase_6 ((gx_hN C).1 ("PeirceDesk$Algebra", 55, "PeirceDesk$State", "elements", "[[I", "PeirceDesk") (by decide +kernel) |> va_Nw.use rfl) dX0_takeAsBase_21 ?_
    refine gx_bipush C dX0_takeAsBase_24 rfl ?_
    refine gx_aaload C (gd_now hL).2.1 (by decide) (by omega) dX0_takeAsBase_26 (show _ = 56 from rfl) ?_
    refine gx_statVN C (c_X7_copy ha (gd_56 hL)) (⟨va_cnB 2 (gx_hts C) gX0_takeAsBase_X7_copy_n110 rfl rfl rfl ((gx_hN C).2 ("PeirceDesk$Algebra", 110, yX7_copy, "PeirceDesk") (by decide +kernel)) ((gx_hts C) (.initialized RX7) (by decide +kernel)) (by decide +kernel) ⟨Nat.le_of_ble_eq_true rfl, Nat.le_of_ble_eq_true rfl⟩, (gx_hts C) (.static yX7_copy) (by decide +kernel), trivial⟩) rfl rfl (Nat.le_of_ble_eq_true rfl) ⟨Nat.le_refl _, Nat.le_refl _⟩ dX0_takeAsBase_27 (fun P7 h8 => ?_)
    rw [ea] at h8
    have fin : mx_of (P7 57) 0 = rr_inv q.1 ∧ mx_of (P7 56) 0 = mx_of (M a) 0 ∧ ∀ c, c ≠ 56 → c ≠ 57 → P7 c = P4 c := ⟨by rw [h8, gx_blk_nc (by decide), h6]; exact mx_of_rinv, by rw [h8, ← ea]; exact mx_of_cp, fun c c1 c2 => by rw [h8, gx_blk_nc c1, h6, gx_blk_nc c2]⟩
    exact gx_vret C dX0_takeAsBase_30 ⟨q, P4, hD, Or.inr ⟨by rw [← hz]; exact hb5, fin⟩⟩
