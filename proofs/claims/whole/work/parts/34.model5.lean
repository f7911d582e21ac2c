/-- the first place that is not 0, 9 if there is none -/
def mx_lda (x : Nat → Int) : Nat → Nat → Nat
  | 0, k => k
  | f + 1, k => if x k = 0 then mx_lda x f (k + 1) else k
def mx_ld (x : Nat → Int) : Nat := mx_lda x 9 0
theorem mx_lda_s {x : Nat → Int} : ∀ f k, k ≤ mx_lda x f k ∧ mx_lda x f k ≤ k + f ∧ (∀ j, k ≤ j → j < mx_lda x f k → x j = 0) ∧ (mx_lda x f k < k + f → x (mx_lda x f k) ≠ 0)
  | 0, k => ⟨Nat.le_refl _, Nat.le_refl _, fun j h1 h2 => by simp only [mx_lda] at h2; omega, fun h => by simp only [mx_lda] at h; omega⟩
  | f + 1, k => by
    by_cases e : x k = 0
    · have h := mx_lda_s (x := x) f (k + 1)
      have he : mx_lda x (f + 1) k = mx_lda x f (k + 1) := if_pos e
      rw [he]
      refine ⟨by omega, by omega, fun j h1 h2 => ?_, fun q => h.2.2.2 (by omega)⟩
      by_cases e2 : j = k
      · rw [e2]; exact e
      · exact h.2.2.1 j (by omega) h2
    · have he : mx_lda x (f + 1) k = k := if_neg e
      rw [he]
      exact ⟨Nat.le_refl _, by omega, fun j h1 h2 => absurd h2 (by omega), fun _ => e⟩
theorem mx_ld_s (x : Nat → Int) : mx_ld x ≤ 9 ∧ (∀ j, j < mx_ld x → x j = 0) ∧ (mx_ld x < 9 → x (mx_ld x) ≠ 0) := by
  have h := mx_lda_s (x := x) 9 0
  exact ⟨by unfold mx_ld; omega, fun j hj => h.2.2.1 j (by omega) hj, fun q => h.2.2.2 (by unfold mx_ld at q; omega)⟩
theorem mx_ld_u {x : Nat → Int} {k : Nat} (h1 : k ≤ 9) (h2 : ∀ j, j < k → x j = 0) (h3 : k < 9 → x k ≠ 0) : k = mx_ld x := by
  obtain ⟨g1, g2, g3⟩ := mx_ld_s x
  rcases Nat.lt_trichotomy k (mx_ld x) with h | h | h
  · exact absurd (g2 k h) (h3 (by omega))
  · exact h
  · exact absurd (h2 _ h) (g3 (by omega))
/-- a row less multiples of the rows that are there -/
def mx_red (m : Int) (R : Nat → Nat → Int) (x : Nat → Int) : Nat → Nat → Int
  | 0 => x
  | k + 1 => fun j => if j < 9 then (mx_red m R x k j - mx_red m R x k (mx_ld (R k)) * mx_ov (R k (mx_ld (R k))) m (m.toNat - 1) % m * R k j) % m else 0
/-- rows that are there, and another one comes -/
def mx_nw (m : Int) (s : Nat × (Nat → Nat → Int)) (x : Nat → Int) : Nat × (Nat → Nat → Int) :=
  (if mx_ld (mx_red m s.2 x s.1) < 9 then s.1 + 1 else s.1, fun i => if i = s.1 then mx_red m s.2 x s.1 else s.2 i)
theorem mx_red_ok {m : Int} (h : 3 ≤ m) {R : Nat → Nat → Int} {x : Nat → Int} (ox : mx_ok m x) : ∀ k, mx_ok m (mx_red m R x k)
  | 0 => ox
  | k + 1 => fun j hj => by
    show 0 ≤ (if j < 9 then _ else _) ∧ (if j < 9 then _ else _) < m
    rw [if_pos hj]
    exact mx_md h _
theorem mx_red_f {m : Int} {R R' : Nat → Nat → Int} {x : Nat → Int} : ∀ k, (∀ i, i < k → R i = R' i) → mx_red m R x k = mx_red m R' x k
  | 0, _ => rfl
  | k + 1, h => by
    show (fun j => if j < 9 then _ else _) = (fun j => if j < 9 then _ else _)
    rw [mx_red_f k (fun i hi => h i (by omega)), h k (by omega)]
theorem mx_red_9 {m : Int} {R : Nat → Nat → Int} {x : Nat → Int} (hx : ∀ j, 9 ≤ j → x j = 0) : ∀ k j, 9 ≤ j → mx_red m R x k j = 0
  | 0, j, hj => hx j hj
  | k + 1, j, hj => if_neg (by omega)
/-- the reference's rows -/
def gm_W (M : gx_M) (m : Int) (s : Nat × (Nat → Nat → Int)) : Prop := M 0 9 = s.1 ∧ ∀ i, i < s.1 → mx_of (M 7) (9 * i) = s.2 i ∧ mx_ok m (s.2 i) ∧ mx_ld (s.2 i) < 9
/-- only what is worked with has changed -/
def gm_Y (M M' : gx_M) : Prop := (∀ c, c ≠ 0 → c ≠ 6 → c ≠ 7 → M' c = M c) ∧ ∀ j, j ≠ 9 → M' 0 j = M 0 j
theorem gm_Yt {M M1 M2 : gx_M} (h1 : gm_Y M M1) (h2 : gm_Y M1 M2) : gm_Y M M2 := ⟨fun c a b d => (h2.1 c a b d).trans (h1.1 c a b d), fun j hj => (h2.2 j hj).trans (h1.2 j hj)⟩
theorem gm_Yr (M : gx_M) : gm_Y M M := ⟨fun _ _ _ _ => rfl, fun _ _ => rfl⟩
theorem gm_YE {S : Nat → Prop} {M M' : gx_M} (h : gm_E S M M') : gm_Y M M' := ⟨fun c _ h6 _ => h.1 c h6, fun j _ => by rw [h.1 0 (by decide)]⟩
theorem gm_Yz {M M1 : gx_M} {n : Nat} {m : Int} (h : gm_Y M M1) (hz : gm_Z M n m) : gm_Z M1 n m := by
  unfold gm_Z
  rw [h.1 1 (by decide) (by decide) (by decide)]
  exact hz
set_option maxRecDepth 100000 in
set_option maxHeartbeats 4000000 in
theorem c_X8_leadOf {La : List gx_K} (hM : gm_H La) {M : gx_M} {m : Int} (hm : m ≤ 11) {a : Nat} (ha : a + 9 ≤ 90) (oa : mx_ok m (mx_of (M 7) a)) : gx_Ci La yX8_leadOf wsX8_leadOf 0 [gx_R 0, gx_I a] M (fun z M' => M' = M ∧ z = mx_ld (mx_of (M 7) a)) := by
  refine gx_start_i (L := [gx_R 0, gx_I a, gx_U]) (by decide) rfl rfl (Nat.le_of_ble_eq_true rfl) rfl ?_
  intro _ _ _ _ _ _ _ _ _ _ _ _ C
  refine gx_iconst C dX8_leadOf_0 ?_
  refine gx_istore_n C dX8_leadOf_1 (by decide) rfl ?_
  refine gx_for 9 (fun k (_ : Unit) => [gx_R 0, gx_I a, gx_I (k : Int)]) (fun _ => M) (fun k _ => ∀ j, j < k → mx_of (M 7) a j = 0) 0 () (by omega) (fun j hj => absurd hj (by omega)) (fun k _ hk hI ih => ?_) (fun _ hI => ?_)
  · have e1 : M 7 (((a : Int) + (k : Int)).toNat) = mx_of (M 7) a k := by rw [mx_of_at hk, show ((a : Int) + (k : Int)).toNat = a + k by omega]
    have h1 := oa k hk
    refine gx_iload_n C dX8_leadOf_2 rfl ?_
    refine gx_bipush C dX8_leadOf_3 rfl ?_
    refine gx_icmp_ge C dX8_leadOf_5 rfl (by unfold gx_3; omega) (by unfold gx_3; omega) (fun hb5 => absurd hb5 (by omega)) (fun hb5 => ?_)
    refine gx_aload_n C dX8_leadOf_8 rfl ?_
    refine gx_getR C 8 _ 8 rfl (gm_0 hM) rfl (by decide) nX8_leadOf_8 (gx_hts C _ fX8_leadOf_30) dX8_leadOf_9 ?_
    refine gx_iload_n C dX8_leadOf_12 rfl ?_
    refine gx_iload_n C dX8_leadOf_13 rfl ?_
    refine gx_iadd C dX8_leadOf_14 ?_
    refine gx_iaload C (gm_7 hM) (by omega) dX8_leadOf_15 e1 ?_
    refine gx_if_ne C dX8_leadOf_16 rfl (by unfold gx_3; omega) (fun hb16 => ?_) (fun hb16 => ?_)
    · refine gx_iload_n C dX8_leadOf_25 rfl ?_
      exact gx_iret C dX8_leadOf_26 ⟨rfl, by rw [← mx_ld_u (by omega) hI (fun _ => hb16)]⟩
    · refine gx_iinc C dX8_leadOf_19 (by decide) rfl rfl ?_
      refine gx_goto C dX8_leadOf_22 rfl ?_
      exact ih () (mx_all.mpr ⟨hI, by omega⟩)
  · refine gx_iload_n C dX8_leadOf_2 rfl ?_
    refine gx_bipush C dX8_leadOf_3 rfl ?_
    refine gx_icmp_ge C dX8_leadOf_5 rfl (by unfold gx_3; omega) (by unfold gx_3; omega) (fun hb5 => ?_) (fun hb5 => absurd (by omega) hb5)
    refine gx_iload_n C dX8_leadOf_25 rfl ?_
    exact gx_iret C dX8_leadOf_26 ⟨rfl, by rw [← mx_ld_u (k := 9) (by omega) hI (by omega)]⟩
theorem gm_7b {M : gx_M} {o : Nat} {f : Nat → Int} {q j : Nat} (h : q + 9 ≤ o ∨ o + 9 ≤ q) (hj : j < 9) : gx_blk M 7 o 9 f 7 (q + j) = mx_of (M 7) q j := by
  rw [mx_of_at hj]
  exact gx_blk_out (by omega)
set_option maxRecDepth 100000 in
set_option maxHeartbeats 4000000 in
theorem c_X8_isNew {La : List gx_K} (hM : gm_H La) {M : gx_M} {n : Nat} {m : Int} (hz : gm_Z M n m) {s : Nat × (Nat → Nat → Int)} (hs : gm_W M m s) (hs9 : s.1 ≤ 9) {a : Nat} (ha : a + 9 ≤ 1926) (oa : mx_ok m (mx_of (M 6) a)) : gx_Ci La yX8_isNew wsX8_isNew 1 [gx_R 0, gx_I a] M (fun z M' => (z = 0 ∨ z = 1) ∧ ((mx_nw m s (mx_of (M 6) a)).1 : Int) = s.1 + z ∧ gm_W M' m (mx_nw m s (mx_of (M 6) a)) ∧ M' 6 = M 6 ∧ gm_Y M M') := by
  have hzm := gm_Zm hz
  obtain ⟨hp, hR⟩ := hs
  obtain ⟨p, R⟩ := s
  generalize hx : mx_of (M 6) a = x at oa ⊢
  have hx9 : ∀ j, 9 ≤ j → x j = 0 := fun j hj => by rw [← hx]; exact if_neg (by omega)
  simp only at hp hR hs9
  refine gx_start_i (L := [gx_R 0, gx_I a, gx_U, gx_U, gx_U, gx_U, gx_U]) (by decide) rfl rfl (Nat.le_of_ble_eq_true rfl) rfl ?_
  intro _ _ _ _ _ _ _ _ _ _ _ _ C
  refine gx_bipush C dX8_isNew_0 rfl ?_
  refine gx_aload_n C dX8_isNew_2 rfl ?_
  refine gx_getI C 8 _ 9 rfl (gm_0 hM) rfl (by decide) nX8_isNew_8 (gx_hts C _ fX8_isNew_131) dX8_isNew_3 hp ?_
  refine gx_imul C dX8_isNew_6 ?_
  refine gx_istore_n C dX8_isNew_7 (by decide) rfl ?_
  refine gx_iconst C dX8_isNew_8 ?_
  refine gx_istore_n C dX8_isNew_9 (by decide) rfl ?_
  refine gx_for 9 (fun k (M' : gx_M) => [gx_R 0, gx_I a, gx_I (9 * (p : Int)), gx_I (k : Int), gx_U, gx_U, gx_U]) (fun M' => M') (fun k M' => M' = gx_blk M 7 (9 * p) k x) 0 M (by omega) gx_blk_0.symm (fun k M' hk hI ih => ?_) (fun M' hI => ?_)
  · have e1 : M' 6 (((a : Int) + (k : Int)).toNat) = x k := by
      rw [hI, gx_blk_nc (by decide), ← hx]
      exact gm_rd (by omega) hk
    refine gx_iload_n C dX8_isNew_10 rfl ?_
    refine gx_bipush C dX8_isNew_11 rfl ?_
    refine gx_icmp_ge C dX8_isNew_13 rfl (by unfold gx_3; omega) (by unfold gx_3; omega) (fun hb13 => absurd hb13 (by omega)) (fun hb13 => ?_)
    refine gx_aload_n C dX8_isNew_16 rfl ?_
    refine gx_getR C 8 _ 8 rfl (gm_0 hM) rfl (by decide) nX8_isNew_8 (gx_hts C _ fX8_isNew_30) dX8_isNew_17 ?_
    refine gx_iload_n C dX8_isNew_20 rfl ?_
    refine gx_iload_n C dX8_isNew_21 rfl ?_
    refine gx_iadd C dX8_isNew_22 ?_
    refine gx_aload_n C dX8_isNew_23 rfl ?_
    refine gx_getR C 8 _ 7 rfl (gm_0 hM) rfl (by decide) nX8_isNew_8 (gx_hts C _ fX8_isNew_27) dX8_isNew_24 ?_
    refine gx_iload_n C dX8_isNew_27 rfl ?_
    refine gx_iload_n C dX8_isNew_28 rfl ?_
    refine gx_iadd C dX8_isNew_29 ?_
    refine gx_iaload C (gm_6 hM) (by omega) dX8_isNew_30 e1 ?_
    refine gx_iastore C (gm_7 hM) (by omega) dX8_isNew_31 (show _ = 9 * p + k by omega) ?_
    refine gx_iinc C dX8_isNew_32 (by decide) rfl rfl ?_
    refine gx_goto C dX8_isNew_35 rfl ?_
    exact ih _ (by rw [hI]; exact gx_blk_s rfl)
  · refine gx_iload_n C dX8_isNew_10 rfl ?_
    refine gx_bipush C dX8_isNew_11 rfl ?_
    refine gx_icmp_ge C dX8_isNew_13 rfl (by unfold gx_3; omega) (by unfold gx_3; omega) (fun hb13 => ?_) (fun hb13 => absurd (by omega) hb13)
    refine gx_iconst C dX8_isNew_38 ?_
    refine gx_istore_n C dX8_isNew_39 (by decide) rfl ?_
    refine gx_weak (L' := [gx_R 0, gx_I a, gx_I (9 * (p : Int)), gx_I ((0 : Nat) : Int), gx_U, gx_U, gx_U]) ⟨Or.inr rfl, Or.inr rfl, Or.inr rfl, Or.inr rfl, Or.inl rfl, Or.inl rfl, Or.inl rfl, trivial⟩ ?_
    refine gx_for p (fun r (M' : gx_M) => [gx_R 0, gx_I a, gx_I (9 * (p : Int)), gx_I (r : Int), gx_U, gx_U, gx_U]) (fun M' => M') (fun r M' => M' = gx_blk M 7 (9 * p) 9 (mx_red m R x r)) 0 M' (by omega) hI (fun r M' hr hI ih => ?_) (fun M' hI => ?_)
    · have hz' : gm_Z M' n m := by rw [hI]; exact ⟨by rw [gx_blk_nc (by decide)]; exact hz.1, by rw [gx_blk_nc (by decide)]; exact hz.2.1, hz.2.2⟩
      have p' : M' 0 9 = p := by rw [hI, gx_blk_nc (by decide)]; exact hp
      obtain ⟨hR1, hR2, hR3⟩ := hR r hr
      have oy := mx_red_ok (R := R) hzm.1 oa r
      have er : mx_of (M' 7) (9 * r) = R r := by rw [hI, mx_of_blo (by omega), hR1]
      refine gx_iload_n C dX8_isNew_40 rfl ?_
      refine gx_aload_n C dX8_isNew_41 rfl ?_
      refine gx_getI C 8 _ 9 rfl (gm_0 hM) rfl (by decide) nX8_isNew_8 (gx_hts C _ fX8_isNew_131) dX8_isNew_42 p' ?_
      refine gx_icmp_ge C dX8_isNew_45 rfl (by unfold gx_3; omega) (by unfold gx_3; omega) (fun hb45 => absurd hb45 (by omega)) (fun hb45 => ?_)
      refine gx_aload_n C dX8_isNew_48 rfl ?_
      refine gx_bipush C dX8_isNew_49 rfl ?_
      refine gx_iload_n C dX8_isNew_51 rfl ?_
      refine gx_imul C dX8_isNew_52 ?_
      refine gx_callI C 8 rfl (gm_0 hM) (c_X8_leadOf hM (m := m) (a := 9 * r) hzm.2.1 (by omega) (by rw [er]; exact hR2)) (cwV 1 (gx_hts C) gX8_isNew_X8_leadOf rfl rfl rfl (by decide +kernel) ⟨Nat.le_of_ble_eq_true rfl, Nat.le_of_ble_eq_true rfl⟩) rfl rfl (Nat.le_of_ble_eq_true rfl) ⟨Nat.le_refl _, Nat.le_refl _⟩ dX8_isNew_53 (fun z M1 h1 => ?_)
      obtain ⟨rfl, rfl⟩ := h1
      rw [er]
      have ey : M1 7 ((9 * (p : Int) + ((mx_ld (R r) : Nat) : Int)).toNat) = mx_red m R x r (mx_ld (R r)) := by
        rw [hI, show (9 * (p : Int) + ((mx_ld (R r) : Nat) : Int)).toNat = 9 * p + mx_ld (R r) by omega]
        exact gx_blk_in hR3
      have el : M1 7 ((9 * (r : Int) + ((mx_ld (R r) : Nat) : Int)).toNat) = R r (mx_ld (R r)) := by
        rw [← er, mx_of_at (by rw [er]; exact hR3), er, show (9 * (r : Int) + ((mx_ld (R r) : Nat) : Int)).toNat = 9 * r + mx_ld (R r) by omega]
      refine gx_istore C dX8_isNew_56 (by decide) rfl ?_
      refine gx_aload_n C dX8_isNew_58 rfl ?_
      refine gx_getR C 8 _ 8 rfl (gm_0 hM) rfl (by decide) nX8_isNew_8 (gx_hts C _ fX8_isNew_30) dX8_isNew_59 ?_
      refine gx_iload_n C dX8_isNew_62 rfl ?_
      refine gx_iload C dX8_isNew_63 rfl ?_
      refine gx_iadd C dX8_isNew_65 ?_
      refine gx_iaload C (gm_7 hM) (by omega) dX8_isNew_66 ey ?_
      refine gx_aload_n C dX8_isNew_67 rfl ?_
      refine gx_aload_n C dX8_isNew_68 rfl ?_
      refine gx_getR C 8 _ 8 rfl (gm_0 hM) rfl (by decide) nX8_isNew_8 (gx_hts C _ fX8_isNew_30) dX8_isNew_69 ?_
      refine gx_bipush C dX8_isNew_72 rfl ?_
      refine gx_iload_n C dX8_isNew_74 rfl ?_
      refine gx_imul C dX8_isNew_75 ?_
      refine gx_iload C dX8_isNew_76 rfl ?_
      refine gx_iadd C dX8_isNew_78 ?_
      refine gx_iaload C (gm_7 hM) (by omega) dX8_isNew_79 el ?_
      refine gx_callI C 8 rfl (gm_0 hM) (c_X8_over hM hz' (hR2 _ hR3)) (cwV 1 (gx_hts C) gX8_isNew_X8_over rfl rfl rfl (by decide +kernel) ⟨Nat.le_of_ble_eq_true rfl, Nat.le_of_ble_eq_true rfl⟩) rfl rfl (Nat.le_of_ble_eq_true rfl) ⟨Nat.le_refl _, Nat.le_refl _⟩ dX8_isNew_80 (fun z M2 h1 => ?_)
      obtain ⟨rfl, hzo⟩ := h1
      have hob := mx_ovb (v := R r (mx_ld (R r))) (m := m) (m.toNat - 1)
      rw [← hzo] at hob
      have hyl := oy _ hR3
      have hq := mx_pr (m := 11) (x := mx_red m R x r (mx_ld (R r))) (y := z) (by omega) (by omega) (by omega)
      have hf := mx_md (m := m) (by omega) (mx_red m R x r (mx_ld (R r)) * z)
      refine gx_imul C dX8_isNew_83 ?_
      refine gx_aload_n C dX8_isNew_84 rfl ?_
      refine gx_getR C 8 _ 0 rfl (gm_0 hM) rfl (by decide) nX8_isNew_8 (gx_hts C _ fX8_isNew_7) dX8_isNew_85 ?_
      refine gx_bipush C dX8_isNew_88 rfl ?_
      refine gx_iaload C (gm_1 hM) (by omega) dX8_isNew_90 hz'.2.1 ?_
      refine gx_irem C dX8_isNew_91 (by unfold gx_3; omega) (by unfold gx_3; omega) (by omega) (gx_tmod (by omega)) ?_
      refine gx_istore C dX8_isNew_92 (by decide) rfl ?_
      refine gx_iconst C dX8_isNew_94 ?_
      refine gx_istore C dX8_isNew_95 (by decide) rfl ?_
      refine gx_for 9 (fun j (M' : gx_M) => [gx_R 0, gx_I a, gx_I (9 * (p : Int)), gx_I (r : Int), gx_I ((mx_ld (R r) : Nat) : Int), gx_I (mx_red m R x r (mx_ld (R r)) * z % m), gx_I (j : Int)]) (fun M' => M') (fun j M' => M' = gx_blk M 7 (9 * p) 9 (fun i => if i < j then mx_red m R x (r + 1) i else mx_red m R x r i)) 0 _ (by omega) hI (fun j M' hj hI ih2 => ?_) (fun M' hI => ?_)
      · have hz' : gm_Z M' n m := by rw [hI]; exact ⟨by rw [gx_blk_nc (by decide)]; exact hz.1, by rw [gx_blk_nc (by decide)]; exact hz.2.1, hz.2.2⟩
        have e1 : M' 7 ((9 * (p : Int) + (j : Int)).toNat) = mx_red m R x r j := by
          rw [hI, show (9 * (p : Int) + (j : Int)).toNat = 9 * p + j by omega, gx_blk_in hj, if_neg (by omega)]
        have e2 : M' 7 ((9 * (r : Int) + (j : Int)).toNat) = R r j := by
          rw [hI, show (9 * (r : Int) + (j : Int)).toNat = 9 * r + j by omega, gm_7b (by omega) hj, hR1]
        have b1 := oy j hj
        have b2 := hR2 j hj
        have b3 := mx_pr (m := 11) (x := mx_red m R x r (mx_ld (R r)) * z % m) (y := R r j) (by omega) (by omega) (by omega)
        refine gx_iload C dX8_isNew_97 rfl ?_
        refine gx_bipush C dX8_isNew_99 rfl ?_
        refine gx_icmp_ge C dX8_isNew_101 rfl (by unfold gx_3; omega) (by unfold gx_3; omega) (fun hb101 => absurd hb101 (by omega)) (fun hb101 => ?_)
        refine gx_aload_n C dX8_isNew_104 rfl ?_
        refine gx_getR C 8 _ 8 rfl (gm_0 hM) rfl (by decide) nX8_isNew_8 (gx_hts C _ fX8_isNew_30) dX8_isNew_105 ?_
        refine gx_iload_n C dX8_isNew_108 rfl ?_
        refine gx_iload C dX8_isNew_109 rfl ?_
        refine gx_iadd C dX8_isNew_111 ?_
        refine gx_aload_n C dX8_isNew_112 rfl ?_
        refine gx_aload_n C dX8_isNew_113 rfl ?_
        refine gx_getR C 8 _ 8 rfl (gm_0 hM) rfl (by decide) nX8_isNew_8 (gx_hts C _ fX8_isNew_30) dX8_isNew_114 ?_
        refine gx_iload_n C dX8_isNew_117 rfl ?_
        refine gx_iload C dX8_isNew_118 rfl ?_
        refine gx_iadd C dX8_isNew_120 ?_
        refine gx_iaload C (gm_7 hM) (by omega) dX8_isNew_121 e1 ?_
        refine gx_iload C dX8_isNew_122 rfl ?_
        refine gx_aload_n C dX8_isNew_124 rfl ?_
        refine gx_getR C 8 _ 8 rfl (gm_0 hM) rfl (by decide) nX8_isNew_8 (gx_hts C _ fX8_isNew_30) dX8_isNew_125 ?_
        refine gx_bipush C dX8_isNew_128 rfl ?_
        refine gx_iload_n C dX8_isNew_130 rfl ?_
        refine gx_imul C dX8_isNew_131 ?_
        refine gx_iload C dX8_isNew_132 rfl ?_
        refine gx_iadd C dX8_isNew_134 ?_
        refine gx_iaload C (gm_7 hM) (by omega) dX8_isNew_135 e2 ?_
        refine gx_imul C dX8_isNew_136 ?_
        refine gx_isub C dX8_isNew_137 ?_
        refine gx_callI C 8 rfl (gm_0 hM) (c_X8_within hM hz' (by omega)) (cwV 1 (gx_hts C) gX8_isNew_X8_within rfl rfl rfl (by decide +kernel) ⟨Nat.le_of_ble_eq_true rfl, Nat.le_of_ble_eq_true rfl⟩) rfl rfl (Nat.le_of_ble_eq_true rfl) ⟨Nat.le_refl _, Nat.le_refl _⟩ dX8_isNew_138 (fun x1 M3 h1 => ?_)
        obtain ⟨rfl, rfl⟩ := h1
        refine gx_iastore C (gm_7 hM) (by omega) dX8_isNew_141 (show _ = 9 * p + j by omega) ?_
        refine gx_iinc C dX8_isNew_142 (by decide) rfl rfl ?_
        refine gx_goto C dX8_isNew_145 rfl ?_
        refine ih2 _ ?_
        rw [hI, gx_blk_u hj]
        refine gx_blk_f (fun i hi => ?_)
        by_cases e : i = j
        · rw [if_pos e, if_pos (by omega), e, hzo]
          exact (if_pos hj).symm
        · rw [if_neg e]
          by_cases e4 : i < j
          · rw [if_pos e4, if_pos (by omega)]
          · rw [if_neg e4, if_neg (by omega)]
      · refine gx_iload C dX8_isNew_97 rfl ?_
        refine gx_bipush C dX8_isNew_99 rfl ?_
        refine gx_icmp_ge C dX8_isNew_101 rfl (by unfold gx_3; omega) (by unfold gx_3; omega) (fun hb101 => ?_) (fun hb101 => absurd (by omega) hb101)
        refine gx_iinc C dX8_isNew_148 (by decide) rfl rfl ?_
        refine gx_goto C dX8_isNew_151 rfl ?_
        refine gx_weak (L' := [gx_R 0, gx_I a, gx_I (9 * (p : Int)), gx_I ((r + 1 : Nat) : Int), gx_U, gx_U, gx_U]) ⟨Or.inr rfl, Or.inr rfl, Or.inr rfl, Or.inr rfl, Or.inl rfl, Or.inl rfl, Or.inl rfl, trivial⟩ (ih _ ?_)
        rw [hI]
        exact gx_blk_f (fun i hi => if_pos hi)
    · have p' : M' 0 9 = p := by rw [hI, gx_blk_nc (by decide)]; exact hp
      have oy := mx_red_ok (R := R) hzm.1 oa p
      have ey : mx_of (M' 7) (9 * p) = mx_red m R x p := by rw [hI, mx_of_blk, mx_cut (mx_red_9 hx9 p)]
      refine gx_iload_n C dX8_isNew_40 rfl ?_
      refine gx_aload_n C dX8_isNew_41 rfl ?_
      refine gx_getI C 8 _ 9 rfl (gm_0 hM) rfl (by decide) nX8_isNew_8 (gx_hts C _ fX8_isNew_131) dX8_isNew_42 p' ?_
      refine gx_icmp_ge C dX8_isNew_45 rfl (by unfold gx_3; omega) (by unfold gx_3; omega) (fun hb45 => ?_) (fun hb45 => absurd (by omega) hb45)
      refine gx_aload_n C dX8_isNew_154 rfl ?_
      refine gx_iload_n C dX8_isNew_155 rfl ?_
      refine gx_callI C 8 rfl (gm_0 hM) (c_X8_leadOf hM (m := m) (a := 9 * p) hzm.2.1 (by omega) (by rw [ey]; exact oy)) (cwV 1 (gx_hts C) gX8_isNew_X8_leadOf rfl rfl rfl (by decide +kernel) ⟨Nat.le_of_ble_eq_true rfl, Nat.le_of_ble_eq_true rfl⟩) rfl rfl (Nat.le_of_ble_eq_true rfl) ⟨Nat.le_refl _, Nat.le_refl _⟩ dX8_isNew_156 (fun z M1 h1 => ?_)
      obtain ⟨rfl, rfl⟩ := h1
      rw [ey]
      have hl9 := (mx_ld_s (mx_red m R x p)).1
      have hfin : ∀ b : Nat, (b = 0 ∨ b = 1) → (b = 1 ↔ mx_ld (mx_red m R x p) < 9) → ∀ M2 : gx_M, M2 = gx_u M1 0 9 ((p : Int) + (b : Int)) → (((b : Int) = 0 ∨ (b : Int) = 1) ∧ ((mx_nw m (p, R) x).1 : Int) = p + (b : Int) ∧ gm_W M2 m (mx_nw m (p, R) x) ∧ M2 6 = M 6 ∧ gm_Y M M2) := by
        intro b hb hbi M2 hM2
        have hn1 : (mx_nw m (p, R) x).1 = p + b := by
          show (if mx_ld (mx_red m R x p) < 9 then p + 1 else p) = p + b
          split <;> omega
        refine ⟨by omega, by rw [hn1]; omega, ⟨by rw [hM2, gx_u_eq, hn1]; omega, fun i hi => ?_⟩, by rw [hM2, gx_u_nc (by decide), hI, gx_blk_nc (by decide)], ⟨fun c h0 h6 h7 => by rw [hM2, gx_u_nc h0, hI, gx_blk_nc h7], fun j hj => by rw [hM2, gx_u_ne (by omega), hI, gx_blk_nc (by decide)]⟩⟩
        rw [hn1] at hi
        have e7 : M2 7 = M1 7 := by rw [hM2, gx_u_nc (by decide)]
        rw [e7]
        by_cases e : i = p
        · subst e
          have e8 : (mx_nw m (i, R) x).2 i = mx_red m R x i := if_pos rfl
          rw [e8]
          exact ⟨ey, oy, hbi.mp (by omega)⟩
        · have e8 : (mx_nw m (p, R) x).2 i = R i := if_neg e
          rw [e8]
          obtain ⟨g1, g2, g3⟩ := hR i (by omega)
          exact ⟨by rw [hI, mx_of_blo (by omega), g1], g2, g3⟩
      refine gx_bipush C dX8_isNew_159 rfl ?_
      refine gx_icmp_ge C dX8_isNew_161 rfl (by unfold gx_3; omega) (by unfold gx_3; omega) (fun hb161 => ?_) (fun hb161 => ?_)
      · refine gx_iconst C dX8_isNew_168 ?_
        refine gx_istore_n C dX8_isNew_169 (by decide) rfl ?_
        refine gx_aload_n C dX8_isNew_170 rfl ?_
        refine gx_dup C dX8_isNew_171 rfl ?_
        refine gx_getI C 8 _ 9 rfl (gm_0 hM) rfl (by decide) nX8_isNew_8 (gx_hts C _ fX8_isNew_131) dX8_isNew_172 p' ?_
        refine gx_iload_n C dX8_isNew_175 rfl ?_
        refine gx_if_eq C dX8_isNew_176 rfl (by unfold gx_3; omega) (fun hb176 => ?_) (fun hb176 => absurd (by omega) hb176)
        refine gx_iconst C dX8_isNew_183 ?_
        refine gx_iadd C dX8_isNew_184 ?_
        refine gx_putI C 8 _ 9 rfl (gm_0 hM) rfl (by decide) nX8_isNew_8 tyX8 tyX8_ok nmX8 (gx_hts C _ fX8_isNew_131) rfl rfl dX8_isNew_185 ?_
        refine gx_iload_n C dX8_isNew_188 rfl ?_
        exact gx_zret C (by omega) dX8_isNew_189 (hfin 0 (by omega) (by omega) _ rfl)
      · refine gx_iconst C dX8_isNew_164 ?_
        refine gx_goto C dX8_isNew_165 rfl ?_
        refine gx_istore_n C dX8_isNew_169 (by decide) rfl ?_
        refine gx_aload_n C dX8_isNew_170 rfl ?_
        refine gx_dup C dX8_isNew_171 rfl ?_
        refine gx_getI C 8 _ 9 rfl (gm_0 hM) rfl (by decide) nX8_isNew_8 (gx_hts C _ fX8_isNew_131) dX8_isNew_172 p' ?_
        refine gx_iload_n C dX8_isNew_175 rfl ?_
        refine gx_if_eq C dX8_isNew_176 rfl (by unfold gx_3; omega) (fun hb176 => absurd hb176 (by omega)) (fun hb176 => ?_)
        refine gx_iconst C dX8_isNew_179 ?_
        refine gx_goto C dX8_isNew_180 rfl ?_
        refine gx_iadd C dX8_isNew_184 ?_
        refine gx_putI C 8 _ 9 rfl (gm_0 hM) rfl (by decide) nX8_isNew_8 tyX8 tyX8_ok nmX8 (gx_hts C _ fX8_isNew_131) rfl rfl dX8_isNew_185 ?_
        refine gx_iload_n C dX8_isNew_188 rfl ?_
        exact gx_zret C (by omega) dX8_isNew_189 (hfin 1 (by omega) (by omega) _ rfl)
