theorem gm_Zb {M : gx_M} {n : Nat} {m : Int} {t k : Nat} {f : Nat → Int} (h : gm_Z M n m) : gm_Z (gx_blk M 6 t k f) n m := ⟨by rw [gx_blk_nc (by decide)]; exact h.1, by rw [gx_blk_nc (by decide)]; exact h.2.1, h.2.2⟩
theorem gm_Zm {M : gx_M} {n : Nat} {m : Int} (h : gm_Z M n m) : 3 ≤ m ∧ m ≤ 11 ∧ n ≤ 3 ∧ 2 ≤ n := by
  obtain ⟨-, -, h1, h2⟩ := h
  omega
theorem mx_of_mul {M : gx_M} {t n : Nat} {m : Int} {a b : Nat → Int} : mx_of (gx_blk M 6 t 9 (mx_mul n m a b) 6) t = mx_mul n m a b := by rw [mx_of_blk, mx_cut mx_mul_9]
theorem mx_of_lin {M : gx_M} {t : Nat} {m x y : Int} {a b : Nat → Int} : mx_of (gx_blk M 6 t 9 (mx_lin m a x b y) 6) t = mx_lin m a x b y := by rw [mx_of_blk, mx_cut mx_lin_9]
theorem mx_of_of {M : gx_M} {t q : Nat} {f : Nat → Int} : mx_of (gx_blk M 6 t 9 (mx_of f q) 6) t = mx_of f q := by rw [mx_of_blk, mx_cut (f := mx_of f q) (fun k hk => if_neg (by omega))]
set_option maxRecDepth 100000 in
set_option maxHeartbeats 4000000 in
theorem c_X8_times {La : List gx_K} (hM : gm_H La) {M : gx_M} {n : Nat} {m : Int} (hz : gm_Z M n m) {a b t : Nat} (ha : a + 9 ≤ 1926) (hb : b + 9 ≤ 1926) (ht : t + 9 ≤ 1926) (hat : a + 9 ≤ t ∨ t + 9 ≤ a) (hbt : b + 9 ≤ t ∨ t + 9 ≤ b) (oa : mx_ok m (mx_of (M 6) a)) (ob : mx_ok m (mx_of (M 6) b)) : gx_Cv La yX8_times wsX8_times 1 [gx_R 0, gx_I a, gx_I b, gx_I t] M (fun M' => M' = gx_blk M 6 t 9 (mx_mul n m (mx_of (M 6) a) (mx_of (M 6) b))) := by
  have hzm := gm_Zm hz
  generalize hP : mx_mul n m (mx_of (M 6) a) (mx_of (M 6) b) = P
  have hP0 : ∀ k, k < 9 → ¬ (k / 3 < n ∧ k % 3 < n) → P k = 0 := fun k hk h => by
    rw [← hP]
    exact if_neg (by omega)
  have hP1 : ∀ r c, r < n → c < n → P (3 * r + c) = mx_ps (mx_of (M 6) a) (mx_of (M 6) b) r c n % m := fun r c hr hc => by
    rw [← hP]
    unfold mx_mul
    rw [if_pos (by omega), show (3 * r + c) / 3 = r by omega, show (3 * r + c) % 3 = c by omega]
  refine gx_start_v (L := [gx_R 0, gx_I a, gx_I b, gx_I t, gx_U, gx_U, gx_U, gx_U]) (by decide) rfl rfl (Nat.le_of_ble_eq_true rfl) rfl ?_
  intro _ _ _ _ _ _ _ _ _ _ _ _ C
  refine gx_aload_n C dX8_times_0 rfl ?_
  refine gx_iload_n C dX8_times_1 rfl ?_
  refine gx_callV C 8 rfl (gm_0 hM) (c_X8_blank hM ht) (cwV 1 (gx_hts C) gX8_times_X8_blank rfl rfl rfl (by decide +kernel) ⟨Nat.le_of_ble_eq_true rfl, Nat.le_of_ble_eq_true rfl⟩) rfl rfl (Nat.le_of_ble_eq_true rfl) ⟨Nat.le_refl _, Nat.le_refl _⟩ dX8_times_2 (fun M1 h1 => ?_)
  subst h1
  refine gx_iconst C dX8_times_5 ?_
  refine gx_istore C dX8_times_6 (by decide) rfl ?_
  refine gx_for n (fun r (M' : gx_M) => [gx_R 0, gx_I a, gx_I b, gx_I t, gx_I (r : Int), gx_U, gx_U, gx_U]) (fun M' => M') (fun r M' => M' = gx_blk M 6 t 9 (fun k => if k < 3 * r then P k else 0)) 0 _ (by omega) rfl (fun r M' hr hI ih => ?_) (fun M' hI => ?_)
  · have hz' : gm_Z M' n m := by rw [hI]; exact gm_Zb hz
    refine gx_iload C dX8_times_8 rfl ?_
    refine gx_aload_n C dX8_times_10 rfl ?_
    refine gx_getR C 8 _ 0 rfl (gm_0 hM) rfl (by decide) nX8_times_8 (gx_hts C _ fX8_times_7) dX8_times_11 ?_
    refine gx_bipush C dX8_times_14 rfl ?_
    refine gx_iaload C (gm_1 hM) (by omega) dX8_times_16 hz'.1 ?_
    refine gx_icmp_ge C dX8_times_17 rfl (by unfold gx_3; omega) (by unfold gx_3; omega) (fun hb17 => absurd hb17 (by omega)) (fun hb17 => ?_)
    refine gx_iconst C dX8_times_20 ?_
    refine gx_istore C dX8_times_21 (by decide) rfl ?_
    refine gx_for n (fun c (M' : gx_M) => [gx_R 0, gx_I a, gx_I b, gx_I t, gx_I (r : Int), gx_I (c : Int), gx_U, gx_U]) (fun M' => M') (fun c M' => M' = gx_blk M 6 t 9 (fun k => if k < 3 * r + c then P k else 0)) 0 _ (by omega) hI (fun c M' hc hI ih2 => ?_) (fun M' hI => ?_)
    · have hz' : gm_Z M' n m := by rw [hI]; exact gm_Zb hz
      refine gx_iload C dX8_times_23 rfl ?_
      refine gx_aload_n C dX8_times_25 rfl ?_
      refine gx_getR C 8 _ 0 rfl (gm_0 hM) rfl (by decide) nX8_times_8 (gx_hts C _ fX8_times_7) dX8_times_26 ?_
      refine gx_bipush C dX8_times_29 rfl ?_
      refine gx_iaload C (gm_1 hM) (by omega) dX8_times_31 hz'.1 ?_
      refine gx_icmp_ge C dX8_times_32 rfl (by unfold gx_3; omega) (by unfold gx_3; omega) (fun hb32 => absurd hb32 (by omega)) (fun hb32 => ?_)
      refine gx_iconst C dX8_times_35 ?_
      refine gx_istore C dX8_times_36 (by decide) rfl ?_
      refine gx_iconst C dX8_times_38 ?_
      refine gx_istore C dX8_times_39 (by decide) rfl ?_
      refine gx_for n (fun k (x : Int) => [gx_R 0, gx_I a, gx_I b, gx_I t, gx_I (r : Int), gx_I (c : Int), gx_I x, gx_I (k : Int)]) (fun _ => M') (fun k x => x = mx_ps (mx_of (M 6) a) (mx_of (M 6) b) r c k) 0 0 (by omega) rfl (fun k x hk hx ih3 => ?_) (fun x hx => ?_)
      · have e1 : M' 6 (((a : Int) + 3 * (r : Int) + (k : Int)).toNat) = mx_of (M 6) a (3 * r + k) := by rw [hI]; exact gm_rdb (by omega) (by omega) (by omega)
        have e2 : M' 6 (((b : Int) + 3 * (k : Int) + (c : Int)).toNat) = mx_of (M 6) b (3 * k + c) := by rw [hI]; exact gm_rdb (by omega) (by omega) (by omega)
        refine gx_iload C dX8_times_41 rfl ?_
        refine gx_aload_n C dX8_times_43 rfl ?_
        refine gx_getR C 8 _ 0 rfl (gm_0 hM) rfl (by decide) nX8_times_8 (gx_hts C _ fX8_times_7) dX8_times_44 ?_
        refine gx_bipush C dX8_times_47 rfl ?_
        refine gx_iaload C (gm_1 hM) (by omega) dX8_times_49 hz'.1 ?_
        refine gx_icmp_ge C dX8_times_50 rfl (by unfold gx_3; omega) (by unfold gx_3; omega) (fun hb50 => absurd hb50 (by omega)) (fun hb50 => ?_)
        refine gx_iload C dX8_times_53 rfl ?_
        refine gx_aload_n C dX8_times_55 rfl ?_
        refine gx_getR C 8 _ 7 rfl (gm_0 hM) rfl (by decide) nX8_times_8 (gx_hts C _ fX8_times_27) dX8_times_56 ?_
        refine gx_iload_n C dX8_times_59 rfl ?_
        refine gx_iconst C dX8_times_60 ?_
        refine gx_iload C dX8_times_61 rfl ?_
        refine gx_imul C dX8_times_63 ?_
        refine gx_iadd C dX8_times_64 ?_
        refine gx_iload C dX8_times_65 rfl ?_
        refine gx_iadd C dX8_times_67 ?_
        refine gx_iaload C (gm_6 hM) (by omega) dX8_times_68 e1 ?_
        refine gx_aload_n C dX8_times_69 rfl ?_
        refine gx_getR C 8 _ 7 rfl (gm_0 hM) rfl (by decide) nX8_times_8 (gx_hts C _ fX8_times_27) dX8_times_70 ?_
        refine gx_iload_n C dX8_times_73 rfl ?_
        refine gx_iconst C dX8_times_74 ?_
        refine gx_iload C dX8_times_75 rfl ?_
        refine gx_imul C dX8_times_77 ?_
        refine gx_iadd C dX8_times_78 ?_
        refine gx_iload C dX8_times_79 rfl ?_
        refine gx_iadd C dX8_times_81 ?_
        refine gx_iaload C (gm_6 hM) (by omega) dX8_times_82 e2 ?_
        refine gx_imul C dX8_times_83 ?_
        refine gx_iadd C dX8_times_84 ?_
        refine gx_istore C dX8_times_85 (by decide) rfl ?_
        refine gx_iinc C dX8_times_87 (by decide) rfl rfl ?_
        refine gx_goto C dX8_times_90 rfl ?_
        exact ih3 _ (by rw [hx]; rfl)
      · have hb3 := mx_psb (by omega) oa ob (r := r) (c := c) (by omega) (by omega) n (by omega)
        refine gx_iload C dX8_times_41 rfl ?_
        refine gx_aload_n C dX8_times_43 rfl ?_
        refine gx_getR C 8 _ 0 rfl (gm_0 hM) rfl (by decide) nX8_times_8 (gx_hts C _ fX8_times_7) dX8_times_44 ?_
        refine gx_bipush C dX8_times_47 rfl ?_
        refine gx_iaload C (gm_1 hM) (by omega) dX8_times_49 hz'.1 ?_
        refine gx_icmp_ge C dX8_times_50 rfl (by unfold gx_3; omega) (by unfold gx_3; omega) (fun hb50 => ?_) (fun hb50 => absurd (by omega) hb50)
        subst hx
        refine gx_aload_n C dX8_times_93 rfl ?_
        refine gx_getR C 8 _ 7 rfl (gm_0 hM) rfl (by decide) nX8_times_8 (gx_hts C _ fX8_times_27) dX8_times_94 ?_
        refine gx_iload_n C dX8_times_97 rfl ?_
        refine gx_iconst C dX8_times_98 ?_
        refine gx_iload C dX8_times_99 rfl ?_
        refine gx_imul C dX8_times_101 ?_
        refine gx_iadd C dX8_times_102 ?_
        refine gx_iload C dX8_times_103 rfl ?_
        refine gx_iadd C dX8_times_105 ?_
        refine gx_iload C dX8_times_106 rfl ?_
        refine gx_aload_n C dX8_times_108 rfl ?_
        refine gx_getR C 8 _ 0 rfl (gm_0 hM) rfl (by decide) nX8_times_8 (gx_hts C _ fX8_times_7) dX8_times_109 ?_
        refine gx_bipush C dX8_times_112 rfl ?_
        refine gx_iaload C (gm_1 hM) (by omega) dX8_times_114 hz'.2.1 ?_
        refine gx_irem C dX8_times_115 (by unfold gx_3; omega) (by unfold gx_3; omega) (by omega) (gx_tmod (by omega)) ?_
        refine gx_iastore C (gm_6 hM) (by omega) dX8_times_116 (show _ = t + (3 * r + c) by omega) ?_
        refine gx_iinc C dX8_times_117 (by decide) rfl rfl ?_
        refine gx_goto C dX8_times_120 rfl ?_
        refine gx_weak (L' := [gx_R 0, gx_I a, gx_I b, gx_I t, gx_I (r : Int), gx_I ((c + 1 : Nat) : Int), gx_U, gx_U]) ⟨Or.inr rfl, Or.inr rfl, Or.inr rfl, Or.inr rfl, Or.inr rfl, Or.inr rfl, Or.inl rfl, Or.inl rfl, trivial⟩ (ih2 _ ?_)
        rw [hI, gx_blk_u (by omega)]
        refine gx_blk_f (fun k hk => ?_)
        rw [← hP1 r c hr hc]
        by_cases e : k = 3 * r + c
        · rw [if_pos e, if_pos (by omega), e]
        · rw [if_neg e]
          by_cases e2 : k < 3 * r + c
          · rw [if_pos e2, if_pos (by omega)]
          · rw [if_neg e2, if_neg (by omega)]
    · have hz' : gm_Z M' n m := by rw [hI]; exact gm_Zb hz
      refine gx_iload C dX8_times_23 rfl ?_
      refine gx_aload_n C dX8_times_25 rfl ?_
      refine gx_getR C 8 _ 0 rfl (gm_0 hM) rfl (by decide) nX8_times_8 (gx_hts C _ fX8_times_7) dX8_times_26 ?_
      refine gx_bipush C dX8_times_29 rfl ?_
      refine gx_iaload C (gm_1 hM) (by omega) dX8_times_31 hz'.1 ?_
      refine gx_icmp_ge C dX8_times_32 rfl (by unfold gx_3; omega) (by unfold gx_3; omega) (fun hb32 => ?_) (fun hb32 => absurd (by omega) hb32)
      refine gx_iinc C dX8_times_123 (by decide) rfl rfl ?_
      refine gx_goto C dX8_times_126 rfl ?_
      refine gx_weak (L' := [gx_R 0, gx_I a, gx_I b, gx_I t, gx_I ((r + 1 : Nat) : Int), gx_U, gx_U, gx_U]) ⟨Or.inr rfl, Or.inr rfl, Or.inr rfl, Or.inr rfl, Or.inr rfl, Or.inl rfl, Or.inl rfl, Or.inl rfl, trivial⟩ (ih _ ?_)
      rw [hI]
      refine gx_blk_f (fun k hk => ?_)
      by_cases e : k < 3 * r + n
      · rw [if_pos e, if_pos (by omega)]
      · rw [if_neg e]
        by_cases e2 : k < 3 * (r + 1)
        · rw [if_pos e2, hP0 k hk (by omega)]
        · rw [if_neg e2]
  · have hz' : gm_Z M' n m := by rw [hI]; exact gm_Zb hz
    refine gx_iload C dX8_times_8 rfl ?_
    refine gx_aload_n C dX8_times_10 rfl ?_
    refine gx_getR C 8 _ 0 rfl (gm_0 hM) rfl (by decide) nX8_times_8 (gx_hts C _ fX8_times_7) dX8_times_11 ?_
    refine gx_bipush C dX8_times_14 rfl ?_
    refine gx_iaload C (gm_1 hM) (by omega) dX8_times_16 hz'.1 ?_
    refine gx_icmp_ge C dX8_times_17 rfl (by unfold gx_3; omega) (by unfold gx_3; omega) (fun hb17 => ?_) (fun hb17 => absurd (by omega) hb17)
    have hf : M' = gx_blk M 6 t 9 P := by
      rw [hI]
      refine gx_blk_f (fun k hk => ?_)
      by_cases e : k < 3 * n
      · rw [if_pos e]
      · rw [if_neg e, hP0 k hk (by omega)]
    exact gx_vret C dX8_times_129 hf
/-! determinants and inverses, as the reference has them -/
def mx_at (a : Nat → Int) (r c : Nat) : Int := a (3 * (r % 3) + c % 3)
def mx_d3s (a : Nat → Int) : Nat → Int
  | 0 => 0
  | k + 1 => mx_d3s a k + mx_at a 0 k * (mx_at a 1 (k + 1) * mx_at a 2 (k + 2) - mx_at a 1 (k + 2) * mx_at a 2 (k + 1))
def mx_det (n : Nat) (m : Int) (a : Nat → Int) : Int := (if n = 2 then a 0 * a 4 - a 1 * a 3 else mx_d3s a 3) % m
def mx_min (a : Nat → Int) (k : Nat) : Int := mx_at a (k % 3 + 1) (k / 3 + 1) * mx_at a (k % 3 + 2) (k / 3 + 2) - mx_at a (k % 3 + 1) (k / 3 + 2) * mx_at a (k % 3 + 2) (k / 3 + 1)
def mx_inv (n : Nat) (m : Int) (a : Nat → Int) : Nat → Int := fun k =>
  if n = 2 then (if k = 0 then a 4 * mx_ov (mx_det n m a) m (m.toNat - 1) % m else if k = 1 then -a 1 * mx_ov (mx_det n m a) m (m.toNat - 1) % m else if k = 3 then -a 3 * mx_ov (mx_det n m a) m (m.toNat - 1) % m else if k = 4 then a 0 * mx_ov (mx_det n m a) m (m.toNat - 1) % m else 0)
  else if k < 9 then mx_min a k % m * mx_ov (mx_det n m a) m (m.toNat - 1) % m else 0
theorem mx_inv_9 {n : Nat} {m : Int} {a : Nat → Int} : ∀ k, 9 ≤ k → mx_inv n m a k = 0 := fun k hk => by
  unfold mx_inv
  split
  · rw [if_neg (by omega), if_neg (by omega), if_neg (by omega), if_neg (by omega)]
  · rw [if_neg (by omega)]
theorem mx_inv_ok {n : Nat} {m : Int} (h : 3 ≤ m) (a : Nat → Int) : mx_ok m (mx_inv n m a) := by
  intro k hk
  have h1 := mx_md h
  unfold mx_inv
  split
  · split
    · exact h1 _
    · split
      · exact h1 _
      · split
        · exact h1 _
        · split
          · exact h1 _
          · omega
  · exact h1 _
theorem mx_det_b {n : Nat} {m : Int} (h : 3 ≤ m) (a : Nat → Int) : 0 ≤ mx_det n m a ∧ mx_det n m a < m := mx_md h _
theorem mx_of_inv {M : gx_M} {t n : Nat} {m : Int} {a : Nat → Int} : mx_of (gx_blk M 6 t 9 (mx_inv n m a) 6) t = mx_inv n m a := by rw [mx_of_blk, mx_cut mx_inv_9]
theorem mx_pr2 {x y : Int} (hx : -100 ≤ x ∧ x ≤ 100) (hy : 0 ≤ y ∧ y ≤ 100) : -10000 ≤ x * y ∧ x * y ≤ 10000 := by
  have h1 : x * y ≤ 100 * y := Int.mul_le_mul_of_nonneg_right hx.2 hy.1
  have h2 : (-100) * y ≤ x * y := Int.mul_le_mul_of_nonneg_right hx.1 hy.1
  omega
theorem mx_mb {a : Nat → Int} {m : Int} (hm : m ≤ 11) (oa : mx_ok m a) (r c r' c' s d s' d' : Nat) : -100 ≤ mx_at a r c * mx_at a r' c' - mx_at a s d * mx_at a s' d' ∧ mx_at a r c * mx_at a r' c' - mx_at a s d * mx_at a s' d' ≤ 100 := by
  have h1 := mx_pr hm (oa (3 * (r % 3) + c % 3) (by omega)) (oa (3 * (r' % 3) + c' % 3) (by omega))
  have h2 := mx_pr hm (oa (3 * (s % 3) + d % 3) (by omega)) (oa (3 * (s' % 3) + d' % 3) (by omega))
  unfold mx_at
  omega
theorem mx_d3b {a : Nat → Int} {m : Int} (hm : m ≤ 11) (oa : mx_ok m a) : ∀ k, k ≤ 3 → -10000 * k ≤ mx_d3s a k ∧ mx_d3s a k ≤ 10000 * k
  | 0, _ => by simp [mx_d3s]
  | k + 1, hk => by
    have h1 := mx_d3b hm oa k (by omega)
    have h2 := mx_mb hm oa 1 (k + 1) 2 (k + 2) 1 (k + 2) 2 (k + 1)
    have h3 := oa (3 * (0 % 3) + k % 3) (by omega)
    have h4 := mx_pr2 h2 (y := mx_at a 0 k) (by unfold mx_at; omega)
    rw [Int.mul_comm] at h4
    show _ ≤ mx_d3s a k + mx_at a 0 k * (mx_at a 1 (k + 1) * mx_at a 2 (k + 2) - mx_at a 1 (k + 2) * mx_at a 2 (k + 1)) ∧ mx_d3s a k + mx_at a 0 k * (mx_at a 1 (k + 1) * mx_at a 2 (k + 2) - mx_at a 1 (k + 2) * mx_at a 2 (k + 1)) ≤ _
    omega
theorem mx_3 (k : Nat) : ((k : Int)).tmod 3 = ((k % 3 : Nat) : Int) := by
  rw [gx_tmod (by omega)]
  omega
set_option maxRecDepth 100000 in
set_option maxHeartbeats 4000000 in
theorem c_X8_cellOf {La : List gx_K} (hM : gm_H La) {M : gx_M} {a r c : Nat} {x y : Int} (ha : a + 9 ≤ 1926) (hr : r < 1000) (hc : c < 1000) (hx : x = r) (hy : y = c) : gx_Ci La yX8_cellOf wsX8_cellOf 0 [gx_R 0, gx_I a, gx_I x, gx_I y] M (fun z M' => M' = M ∧ z = mx_at (mx_of (M 6) a) r c) := by
  subst hx hy
  refine gx_start_i (L := [gx_R 0, gx_I a, gx_I (r : Int), gx_I (c : Int)]) (by decide) rfl rfl (Nat.le_of_ble_eq_true rfl) rfl ?_
  intro _ _ _ _ _ _ _ _ _ _ _ _ C
  refine gx_aload_n C dX8_cellOf_0 rfl ?_
  refine gx_getR C 8 _ 7 rfl (gm_0 hM) rfl (by decide) nX8_cellOf_8 (gx_hts C _ fX8_cellOf_27) dX8_cellOf_1 ?_
  refine gx_iload_n C dX8_cellOf_4 rfl ?_
  refine gx_iconst C dX8_cellOf_5 ?_
  refine gx_iload_n C dX8_cellOf_6 rfl ?_
  refine gx_iconst C dX8_cellOf_7 ?_
  refine gx_irem C dX8_cellOf_8 (by unfold gx_3; omega) (by unfold gx_3; omega) (by omega) (mx_3 r) ?_
  refine gx_imul C dX8_cellOf_9 ?_
  refine gx_iadd C dX8_cellOf_10 ?_
  refine gx_iload_n C dX8_cellOf_11 rfl ?_
  refine gx_iconst C dX8_cellOf_12 ?_
  refine gx_irem C dX8_cellOf_13 (by unfold gx_3; omega) (by unfold gx_3; omega) (by omega) (mx_3 c) ?_
  refine gx_iadd C dX8_cellOf_14 ?_
  refine gx_iaload C (gm_6 hM) (by omega) dX8_cellOf_15 (gm_rd (a := a) (j := 3 * (r % 3) + c % 3) (by omega) (by omega)) ?_
  exact gx_iret C dX8_cellOf_16 ⟨rfl, rfl⟩
set_option maxRecDepth 100000 in
set_option maxHeartbeats 4000000 in
theorem c_X8_determinant {La : List gx_K} (hM : gm_H La) {M : gx_M} {n : Nat} {m : Int} (hz : gm_Z M n m) {a : Nat} (ha : a + 9 ≤ 1926) (oa : mx_ok m (mx_of (M 6) a)) : gx_Ci La yX8_determinant wsX8_determinant 1 [gx_R 0, gx_I a] M (fun z M' => M' = M ∧ z = mx_det n m (mx_of (M 6) a)) := by
  have hzm := gm_Zm hz
  refine gx_start_i (L := [gx_R 0, gx_I a, gx_U, gx_U]) (by decide) rfl rfl (Nat.le_of_ble_eq_true rfl) rfl ?_
  intro _ _ _ _ _ _ _ _ _ _ _ _ C
  refine gx_aload_n C dX8_determinant_0 rfl ?_
  refine gx_getR C 8 _ 0 rfl (gm_0 hM) rfl (by decide) nX8_determinant_8 (gx_hts C _ fX8_determinant_7) dX8_determinant_1 ?_
  refine gx_bipush C dX8_determinant_4 rfl ?_
  refine gx_iaload C (gm_1 hM) (by omega) dX8_determinant_6 hz.1 ?_
  refine gx_iconst C dX8_determinant_7 ?_
  refine gx_icmp_ne C dX8_determinant_8 rfl (by unfold gx_3; omega) (by unfold gx_3; omega) (fun hb8 => ?_) (fun hb8 => ?_)
  · refine gx_iconst C dX8_determinant_49 ?_
    refine gx_istore_n C dX8_determinant_50 (by decide) rfl ?_
    refine gx_iconst C dX8_determinant_51 ?_
    refine gx_istore_n C dX8_determinant_52 (by decide) rfl ?_
    refine gx_for 3 (fun k (x : Int) => [gx_R 0, gx_I a, gx_I x, gx_I (k : Int)]) (fun _ => M) (fun k x => x = mx_d3s (mx_of (M 6) a) k) 0 0 (by omega) rfl (fun k x hk hx ih => ?_) (fun x hx => ?_)
    · refine gx_iload_n C dX8_determinant_53 rfl ?_
      refine gx_iconst C dX8_determinant_54 ?_
      refine gx_icmp_ge C dX8_determinant_55 rfl (by unfold gx_3; omega) (by unfold gx_3; omega) (fun hb55 => absurd hb55 (by omega)) (fun hb55 => ?_)
      refine gx_iload_n C dX8_determinant_58 rfl ?_
      refine gx_aload_n C dX8_determinant_59 rfl ?_
      refine gx_iload_n C dX8_determinant_60 rfl ?_
      refine gx_iconst C dX8_determinant_61 ?_
      refine gx_iload_n C dX8_determinant_62 rfl ?_
      refine gx_callI C 8 rfl (gm_0 hM) (c_X8_cellOf hM (r := 0) (c := k) ha (by omega) (by omega) (by omega) (by omega)) (cwV 3 (gx_hts C) gX8_determinant_X8_cellOf rfl rfl rfl (by decide +kernel) ⟨Nat.le_of_ble_eq_true rfl, Nat.le_of_ble_eq_true rfl⟩) rfl rfl (Nat.le_of_ble_eq_true rfl) ⟨Nat.le_refl _, Nat.le_refl _⟩ dX8_determinant_63 (fun z M1 h1 => ?_)
      obtain ⟨rfl, rfl⟩ := h1
      refine gx_aload_n C dX8_determinant_66 rfl ?_
      refine gx_iload_n C dX8_determinant_67 rfl ?_
      refine gx_iconst C dX8_determinant_68 ?_
      refine gx_iload_n C dX8_determinant_69 rfl ?_
      refine gx_iconst C dX8_determinant_70 ?_
      refine gx_iadd C dX8_determinant_71 ?_
      refine gx_callI C 8 rfl (gm_0 hM) (c_X8_cellOf hM (r := 1) (c := k + 1) ha (by omega) (by omega) (by omega) (by omega)) (cwV 3 (gx_hts C) gX8_determinant_X8_cellOf rfl rfl rfl (by decide +kernel) ⟨Nat.le_of_ble_eq_true rfl, Nat.le_of_ble_eq_true rfl⟩) rfl rfl (Nat.le_of_ble_eq_true rfl) ⟨Nat.le_refl _, Nat.le_refl _⟩ dX8_determinant_72 (fun z M1 h1 => ?_)
      obtain ⟨rfl, rfl⟩ := h1
      refine gx_aload_n C dX8_determinant_75 rfl ?_
      refine gx_iload_n C dX8_determinant_76 rfl ?_
      refine gx_iconst C dX8_determinant_77 ?_
      refine gx_iload_n C dX8_determinant_78 rfl ?_
      refine gx_iconst C dX8_determinant_79 ?_
      refine gx_iadd C dX8_determinant_80 ?_
      refine gx_callI C 8 rfl (gm_0 hM) (c_X8_cellOf hM (r := 2) (c := k + 2) ha (by omega) (by omega) (by omega) (by omega)) (cwV 3 (gx_hts C) gX8_determinant_X8_cellOf rfl rfl rfl (by decide +kernel) ⟨Nat.le_of_ble_eq_true rfl, Nat.le_of_ble_eq_true rfl⟩) rfl rfl (Nat.le_of_ble_eq_true rfl) ⟨Nat.le_refl _, Nat.le_refl _⟩ dX8_determinant_81 (fun z M1 h1 => ?_)
      obtain ⟨rfl, rfl⟩ := h1
      refine gx_imul C dX8_determinant_84 ?_
      refine gx_aload_n C dX8_determinant_85 rfl ?_
      refine gx_iload_n C dX8_determinant_86 rfl ?_
      refine gx_iconst C dX8_determinant_87 ?_
      refine gx_iload_n C dX8_determinant_88 rfl ?_
      refine gx_iconst C dX8_determinant_89 ?_
      refine gx_iadd C dX8_determinant_90 ?_
      refine gx_callI C 8 rfl (gm_0 hM) (c_X8_cellOf hM (r := 1) (c := k + 2) ha (by omega) (by omega) (by omega) (by omega)) (cwV 3 (gx_hts C) gX8_determinant_X8_cellOf rfl rfl rfl (by decide +kernel) ⟨Nat.le_of_ble_eq_true rfl, Nat.le_of_ble_eq_true rfl⟩) rfl rfl (Nat.le_of_ble_eq_true rfl) ⟨Nat.le_refl _, Nat.le_refl _⟩ dX8_determinant_91 (fun z M1 h1 => ?_)
      obtain ⟨rfl, rfl⟩ := h1
      refine gx_aload_n C dX8_determinant_94 rfl ?_
      refine gx_iload_n C dX8_determinant_95 rfl ?_
      refine gx_iconst C dX8_determinant_96 ?_
      refine gx_iload_n C dX8_determinant_97 rfl ?_
      refine gx_iconst C dX8_determinant_98 ?_
      refine gx_iadd C dX8_determinant_99 ?_
      refine gx_callI C 8 rfl (gm_0 hM) (c_X8_cellOf hM (r := 2) (c := k + 1) ha (by omega) (by omega) (by omega) (by omega)) (cwV 3 (gx_hts C) gX8_determinant_X8_cellOf rfl rfl rfl (by decide +kernel) ⟨Nat.le_of_ble_eq_true rfl, Nat.le_of_ble_eq_true rfl⟩) rfl rfl (Nat.le_of_ble_eq_true rfl) ⟨Nat.le_refl _, Nat.le_refl _⟩ dX8_determinant_100 (fun z M1 h1 => ?_)
      obtain ⟨rfl, rfl⟩ := h1
      refine gx_imul C dX8_determinant_103 ?_
      refine gx_isub C dX8_determinant_104 ?_
      refine gx_imul C dX8_determinant_105 ?_
      refine gx_iadd C dX8_determinant_106 ?_
      refine gx_istore_n C dX8_determinant_107 (by decide) rfl ?_
      refine gx_iinc C dX8_determinant_108 (by decide) rfl rfl ?_
      refine gx_goto C dX8_determinant_111 rfl ?_
      exact ih _ (by rw [hx]; rfl)
    · have hd := mx_d3b (by omega) oa 3 (by omega)
      subst hx
      refine gx_iload_n C dX8_determinant_53 rfl ?_
      refine gx_iconst C dX8_determinant_54 ?_
      refine gx_icmp_ge C dX8_determinant_55 rfl (by unfold gx_3; omega) (by unfold gx_3; omega) (fun hb55 => ?_) (fun hb55 => absurd (by omega) hb55)
      refine gx_aload_n C dX8_determinant_114 rfl ?_
      refine gx_iload_n C dX8_determinant_115 rfl ?_
      refine gx_callI C 8 rfl (gm_0 hM) (c_X8_within hM hz (by omega)) (cwV 1 (gx_hts C) gX8_determinant_X8_within rfl rfl rfl (by decide +kernel) ⟨Nat.le_of_ble_eq_true rfl, Nat.le_of_ble_eq_true rfl⟩) rfl rfl (Nat.le_of_ble_eq_true rfl) ⟨Nat.le_refl _, Nat.le_refl _⟩ dX8_determinant_116 (fun z M1 h1 => ?_)
      obtain ⟨rfl, rfl⟩ := h1
      exact gx_iret C dX8_determinant_119 ⟨rfl, by unfold mx_det; rw [if_neg (by omega)]⟩
  · have h1 := mx_pr (by omega) (oa 0 (by omega)) (oa 4 (by omega))
    have h2 := mx_pr (by omega) (oa 1 (by omega)) (oa 3 (by omega))
    have e0 : M 6 ((a : Int).toNat) = mx_of (M 6) a 0 := gm_rd (by omega) (by omega)
    refine gx_aload_n C dX8_determinant_11 rfl ?_
    refine gx_aload_n C dX8_determinant_12 rfl ?_
    refine gx_getR C 8 _ 7 rfl (gm_0 hM) rfl (by decide) nX8_determinant_8 (gx_hts C _ fX8_determinant_27) dX8_determinant_13 ?_
    refine gx_iload_n C dX8_determinant_16 rfl ?_
    refine gx_iaload C (gm_6 hM) (by omega) dX8_determinant_17 e0 ?_
    refine gx_aload_n C dX8_determinant_18 rfl ?_
    refine gx_getR C 8 _ 7 rfl (gm_0 hM) rfl (by decide) nX8_determinant_8 (gx_hts C _ fX8_determinant_27) dX8_determinant_19 ?_
    refine gx_iload_n C dX8_determinant_22 rfl ?_
    refine gx_iconst C dX8_determinant_23 ?_
    refine gx_iadd C dX8_determinant_24 ?_
    refine gx_iaload C (gm_6 hM) (by omega) dX8_determinant_25 (gm_rd (a := a) (j := 4) (by omega) (by omega)) ?_
    refine gx_imul C dX8_determinant_26 ?_
    refine gx_aload_n C dX8_determinant_27 rfl ?_
    refine gx_getR C 8 _ 7 rfl (gm_0 hM) rfl (by decide) nX8_determinant_8 (gx_hts C _ fX8_determinant_27) dX8_determinant_28 ?_
    refine gx_iload_n C dX8_determinant_31 rfl ?_
    refine gx_iconst C dX8_determinant_32 ?_
    refine gx_iadd C dX8_determinant_33 ?_
    refine gx_iaload C (gm_6 hM) (by omega) dX8_determinant_34 (gm_rd (a := a) (j := 1) (by omega) (by omega)) ?_
    refine gx_aload_n C dX8_determinant_35 rfl ?_
    refine gx_getR C 8 _ 7 rfl (gm_0 hM) rfl (by decide) nX8_determinant_8 (gx_hts C _ fX8_determinant_27) dX8_determinant_36 ?_
    refine gx_iload_n C dX8_determinant_39 rfl ?_
    refine gx_iconst C dX8_determinant_40 ?_
    refine gx_iadd C dX8_determinant_41 ?_
    refine gx_iaload C (gm_6 hM) (by omega) dX8_determinant_42 (gm_rd (a := a) (j := 3) (by omega) (by omega)) ?_
    refine gx_imul C dX8_determinant_43 ?_
    refine gx_isub C dX8_determinant_44 ?_
    refine gx_callI C 8 rfl (gm_0 hM) (c_X8_within hM hz (by omega)) (cwV 1 (gx_hts C) gX8_determinant_X8_within rfl rfl rfl (by decide +kernel) ⟨Nat.le_of_ble_eq_true rfl, Nat.le_of_ble_eq_true rfl⟩) rfl rfl (Nat.le_of_ble_eq_true rfl) ⟨Nat.le_refl _, Nat.le_refl _⟩ dX8_determinant_45 (fun z M1 h1 => ?_)
    obtain ⟨rfl, rfl⟩ := h1
    exact gx_iret C dX8_determinant_48 ⟨rfl, by unfold mx_det; rw [if_pos (by omega)]⟩
