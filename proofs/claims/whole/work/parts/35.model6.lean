/-- the rows of an element -/
def mx_rws (n : Nat) (a : Nat → Int) (r : Nat) : Nat → Int := fun c => if c < n then a (3 * r + c) else 0
def mx_rst (n : Nat) (m : Int) (a : Nat → Int) : Nat → Nat × (Nat → Nat → Int)
  | 0 => (0, fun _ _ => 0)
  | r + 1 => mx_nw m (mx_rst n m a r) (mx_rws n a r)
theorem mx_nw1 (m : Int) (s : Nat × (Nat → Nat → Int)) (x : Nat → Int) : s.1 ≤ (mx_nw m s x).1 ∧ (mx_nw m s x).1 ≤ s.1 + 1 := by
  unfold mx_nw
  simp only
  split <;> omega
theorem mx_rst1 {n : Nat} {m : Int} {a : Nat → Int} : ∀ r, (mx_rst n m a r).1 ≤ r
  | 0 => Nat.le_refl _
  | r + 1 => by
    have h1 := mx_rst1 (n := n) (m := m) (a := a) r
    have h2 := mx_nw1 m (mx_rst n m a r) (mx_rws n a r)
    show (mx_nw m (mx_rst n m a r) (mx_rws n a r)).1 ≤ r + 1
    omega
def mx_rank (n : Nat) (m : Int) (a : Nat → Int) : Nat := (mx_rst n m a n).1
theorem gm_Y6 {M : gx_M} {t n : Nat} {f : Nat → Int} : gm_Y M (gx_blk M 6 t n f) := ⟨fun c _ h6 _ => gx_blk_nc h6, fun j _ => by rw [gx_blk_nc (by decide)]⟩
theorem gm_Wb {M : gx_M} {m : Int} {s : Nat × (Nat → Nat → Int)} {t n : Nat} {f : Nat → Int} (h : gm_W M m s) : gm_W (gx_blk M 6 t n f) m s := ⟨by rw [gx_blk_nc (by decide)]; exact h.1, fun i hi => by rw [gx_blk_nc (by decide)]; exact h.2 i hi⟩
theorem gm_WE {S : Nat → Prop} {M M' : gx_M} {m : Int} {s : Nat × (Nat → Nat → Int)} (h : gm_W M m s) (hE : gm_E S M M') : gm_W M' m s := ⟨by rw [hE.1 0 (by decide)]; exact h.1, fun i hi => by rw [hE.1 7 (by decide)]; exact h.2 i hi⟩
theorem gm_W0 {M : gx_M} {m : Int} {R : Nat → Nat → Int} (h : M 0 9 = 0) : gm_W M m (0, R) := ⟨by rw [h]; rfl, fun i hi => absurd hi (by simp)⟩
theorem gm_Yu {M : gx_M} {v : Int} : gm_Y M (gx_u M 0 9 v) := ⟨fun c h0 _ _ => gx_u_nc h0, fun j hj => gx_u_ne (by omega)⟩
set_option maxRecDepth 100000 in
set_option maxHeartbeats 4000000 in
theorem c_X8_rankOf {La : List gx_K} (hM : gm_H La) {M : gx_M} {n : Nat} {m : Int} (hz : gm_Z M n m) {a : Nat} (ha : a + 9 ≤ 108 ∨ 117 ≤ a) (ha2 : a + 9 ≤ 1926) (oa : mx_ok m (mx_of (M 6) a)) : gx_Ci La yX8_rankOf wsX8_rankOf 2 [gx_R 0, gx_I a] M (fun z M' => z = mx_rank n m (mx_of (M 6) a) ∧ gm_Y M M') := by
  have hzm := gm_Zm hz
  generalize hx : mx_of (M 6) a = x at oa ⊢
  refine gx_start_i (L := [gx_R 0, gx_I a, gx_U, gx_U, gx_U]) (by decide) rfl rfl (Nat.le_of_ble_eq_true rfl) rfl ?_
  intro _ _ _ _ _ _ _ _ _ _ _ _ C
  refine gx_aload_n C dX8_rankOf_0 rfl ?_
  refine gx_iconst C dX8_rankOf_1 ?_
  refine gx_putI C 8 _ 9 rfl (gm_0 hM) rfl (by decide) nX8_rankOf_8 tyX8 tyX8_ok nmX8 (gx_hts C _ fX8_rankOf_131) rfl rfl dX8_rankOf_2 ?_
  refine gx_iconst C dX8_rankOf_5 ?_
  refine gx_istore_n C dX8_rankOf_6 (by decide) rfl ?_
  refine gx_iconst C dX8_rankOf_7 ?_
  refine gx_istore_n C dX8_rankOf_8 (by decide) rfl ?_
  refine gx_for n (fun r (q : gx_M × Int) => [gx_R 0, gx_I a, gx_I q.2, gx_I (r : Int), gx_U]) (fun q => q.1) (fun r q => q.2 = (mx_rst n m x r).1 ∧ gm_W q.1 m (mx_rst n m x r) ∧ gm_Y M q.1 ∧ mx_of (q.1 6) a = x) 0 (gx_u M 0 9 0, 0) (by omega) ⟨rfl, gm_W0 (M := gx_u M 0 9 0) (gx_u_eq M 0 9 0), gm_Yu, by show mx_of (gx_u M 0 9 0 6) a = x; rw [gx_u_nc (by decide)]; exact hx⟩ (fun r q hr hI ih => ?_) (fun q hI => ?_)
  · obtain ⟨M', k⟩ := q
    obtain ⟨h1, hW, hY, ha'⟩ := hI
    simp only at h1 hW hY ha'
    subst h1
    have hz' := gm_Yz hY hz
    refine gx_iload_n C dX8_rankOf_9 rfl ?_
    refine gx_aload_n C dX8_rankOf_10 rfl ?_
    refine gx_getR C 8 _ 0 rfl (gm_0 hM) rfl (by decide) nX8_rankOf_8 (gx_hts C _ fX8_rankOf_7) dX8_rankOf_11 ?_
    refine gx_bipush C dX8_rankOf_14 rfl ?_
    refine gx_iaload C (gm_1 hM) (by omega) dX8_rankOf_16 hz'.1 ?_
    refine gx_icmp_ge C dX8_rankOf_17 rfl (by unfold gx_3; omega) (by unfold gx_3; omega) (fun hb17 => absurd hb17 (by omega)) (fun hb17 => ?_)
    refine gx_aload_n C dX8_rankOf_20 rfl ?_
    refine gx_bipush C dX8_rankOf_21 rfl ?_
    refine gx_callV C 8 rfl (gm_0 hM) (c_X8_blank hM (t := 108) (by omega)) (cwV 1 (gx_hts C) gX8_rankOf_X8_blank rfl rfl rfl (by decide +kernel) ⟨Nat.le_of_ble_eq_true rfl, Nat.le_of_ble_eq_true rfl⟩) rfl rfl (Nat.le_of_ble_eq_true rfl) ⟨Nat.le_refl _, Nat.le_refl _⟩ dX8_rankOf_23 (fun M2 h2 => ?_)
    refine gx_iconst C dX8_rankOf_26 ?_
    refine gx_istore C dX8_rankOf_27 (by decide) rfl ?_
    refine gx_for n (fun c (M3 : gx_M) => [gx_R 0, gx_I a, gx_I ((mx_rst n m x r).1 : Int), gx_I (r : Int), gx_I (c : Int)]) (fun M3 => M3) (fun c M3 => M3 = gx_blk M' 6 108 9 (fun i => if i < c then x (3 * r + i) else 0)) 0 _ (by omega) h2 (fun c M3 hc h3 ih2 => ?_) (fun M3 h3 => ?_)
    · have z3 : gm_Z M3 n m := by rw [h3]; exact gm_Zb hz'
      have e1 : M3 6 (((a : Int) + 3 * (r : Int) + (c : Int)).toNat) = x (3 * r + c) := by
        rw [h3, ← ha']
        exact gm_rdb (by omega) (by omega) (by omega)
      refine gx_iload C dX8_rankOf_29 rfl ?_
      refine gx_aload_n C dX8_rankOf_31 rfl ?_
      refine gx_getR C 8 _ 0 rfl (gm_0 hM) rfl (by decide) nX8_rankOf_8 (gx_hts C _ fX8_rankOf_7) dX8_rankOf_32 ?_
      refine gx_bipush C dX8_rankOf_35 rfl ?_
      refine gx_iaload C (gm_1 hM) (by omega) dX8_rankOf_37 z3.1 ?_
      refine gx_icmp_ge C dX8_rankOf_38 rfl (by unfold gx_3; omega) (by unfold gx_3; omega) (fun hb38 => absurd hb38 (by omega)) (fun hb38 => ?_)
      refine gx_aload_n C dX8_rankOf_41 rfl ?_
      refine gx_getR C 8 _ 7 rfl (gm_0 hM) rfl (by decide) nX8_rankOf_8 (gx_hts C _ fX8_rankOf_27) dX8_rankOf_42 ?_
      refine gx_bipush C dX8_rankOf_45 rfl ?_
      refine gx_iload C dX8_rankOf_47 rfl ?_
      refine gx_iadd C dX8_rankOf_49 ?_
      refine gx_aload_n C dX8_rankOf_50 rfl ?_
      refine gx_getR C 8 _ 7 rfl (gm_0 hM) rfl (by decide) nX8_rankOf_8 (gx_hts C _ fX8_rankOf_27) dX8_rankOf_51 ?_
      refine gx_iload_n C dX8_rankOf_54 rfl ?_
      refine gx_iconst C dX8_rankOf_55 ?_
      refine gx_iload_n C dX8_rankOf_56 rfl ?_
      refine gx_imul C dX8_rankOf_57 ?_
      refine gx_iadd C dX8_rankOf_58 ?_
      refine gx_iload C dX8_rankOf_59 rfl ?_
      refine gx_iadd C dX8_rankOf_61 ?_
      refine gx_iaload C (gm_6 hM) (by omega) dX8_rankOf_62 e1 ?_
      refine gx_iastore C (gm_6 hM) (by omega) dX8_rankOf_63 (show _ = 108 + c by omega) ?_
      refine gx_iinc C dX8_rankOf_64 (by decide) rfl rfl ?_
      refine gx_goto C dX8_rankOf_67 rfl ?_
      refine ih2 _ ?_
      rw [h3, gx_blk_u (by omega)]
      refine gx_blk_f (fun i hi => ?_)
      by_cases e : i = c
      · rw [if_pos e, if_pos (by omega), e]
      · rw [if_neg e]
        by_cases e2 : i < c
        · rw [if_pos e2, if_pos (by omega)]
        · rw [if_neg e2, if_neg (by omega)]
    · have z3 : gm_Z M3 n m := by rw [h3]; exact gm_Zb hz'
      have e4 : mx_of (M3 6) 108 = mx_rws n x r := by
        rw [h3, mx_of_blk]
        exact mx_cut (fun k hk => if_neg (by omega))
      have W3 : gm_W M3 m (mx_rst n m x r) := by rw [h3]; exact gm_Wb hW
      have Y3 : gm_Y M M3 := gm_Yt hY (by rw [h3]; exact gm_Y6)
      have a3 : mx_of (M3 6) a = x := by rw [h3, mx_of_blo (by omega), ha']
      have hl := mx_rst1 (n := n) (m := m) (a := x) r
      refine gx_iload C dX8_rankOf_29 rfl ?_
      refine gx_aload_n C dX8_rankOf_31 rfl ?_
      refine gx_getR C 8 _ 0 rfl (gm_0 hM) rfl (by decide) nX8_rankOf_8 (gx_hts C _ fX8_rankOf_7) dX8_rankOf_32 ?_
      refine gx_bipush C dX8_rankOf_35 rfl ?_
      refine gx_iaload C (gm_1 hM) (by omega) dX8_rankOf_37 z3.1 ?_
      refine gx_icmp_ge C dX8_rankOf_38 rfl (by unfold gx_3; omega) (by unfold gx_3; omega) (fun hb38 => ?_) (fun hb38 => absurd (by omega) hb38)
      refine gx_iload_n C dX8_rankOf_70 rfl ?_
      refine gx_aload_n C dX8_rankOf_71 rfl ?_
      refine gx_bipush C dX8_rankOf_72 rfl ?_
      refine gx_callI C 8 rfl (gm_0 hM) (c_X8_isNew hM z3 W3 (by omega) (a := 108) (by omega) (by rw [e4]; exact fun k hk => (by unfold mx_rws; split; exact oa _ (by omega); omega))) (cwV 1 (gx_hts C) gX8_rankOf_X8_isNew rfl rfl rfl (by decide +kernel) ⟨Nat.le_of_ble_eq_true rfl, Nat.le_of_ble_eq_true rfl⟩) rfl rfl (Nat.le_of_ble_eq_true rfl) ⟨Nat.le_refl _, Nat.le_refl _⟩ dX8_rankOf_74 (fun z M4 h4 => ?_)
      rw [e4] at h4
      obtain ⟨hz4, hc4, W4, w4, Y4⟩ := h4
      have hstep : ((mx_rst n m x (r + 1)).1 : Int) = (mx_rst n m x r).1 + z := hc4
      have hfin := ih (M4, ((mx_rst n m x (r + 1)).1 : Int)) ⟨rfl, W4, gm_Yt Y3 Y4, by show mx_of (M4 6) a = x; rw [w4]; exact a3⟩
      rw [hstep] at hfin
      refine gx_if_eq C dX8_rankOf_77 rfl (by unfold gx_3; omega) (fun hb77 => ?_) (fun hb77 => ?_)
      · have : z = 0 := hb77
        subst this
        refine gx_iconst C dX8_rankOf_84 ?_
        refine gx_iadd C dX8_rankOf_85 ?_
        refine gx_istore_n C dX8_rankOf_86 (by decide) rfl ?_
        refine gx_iinc C dX8_rankOf_87 (by decide) rfl rfl ?_
        refine gx_goto C dX8_rankOf_90 rfl ?_
        exact gx_weak (L' := [gx_R 0, gx_I a, gx_I (((mx_rst n m x r).1 : Int) + 0), gx_I ((r + 1 : Nat) : Int), gx_U]) ⟨Or.inr rfl, Or.inr rfl, Or.inr rfl, Or.inr rfl, Or.inl rfl, trivial⟩ hfin
      · have : z = 1 := by omega
        subst this
        refine gx_iconst C dX8_rankOf_80 ?_
        refine gx_goto C dX8_rankOf_81 rfl ?_
        refine gx_iadd C dX8_rankOf_85 ?_
        refine gx_istore_n C dX8_rankOf_86 (by decide) rfl ?_
        refine gx_iinc C dX8_rankOf_87 (by decide) rfl rfl ?_
        refine gx_goto C dX8_rankOf_90 rfl ?_
        exact gx_weak (L' := [gx_R 0, gx_I a, gx_I (((mx_rst n m x r).1 : Int) + 1), gx_I ((r + 1 : Nat) : Int), gx_U]) ⟨Or.inr rfl, Or.inr rfl, Or.inr rfl, Or.inr rfl, Or.inl rfl, trivial⟩ hfin
  · obtain ⟨M', k⟩ := q
    obtain ⟨h1, hW, hY, ha'⟩ := hI
    simp only at h1 hW hY ha'
    have hz' := gm_Yz hY hz
    refine gx_iload_n C dX8_rankOf_9 rfl ?_
    refine gx_aload_n C dX8_rankOf_10 rfl ?_
    refine gx_getR C 8 _ 0 rfl (gm_0 hM) rfl (by decide) nX8_rankOf_8 (gx_hts C _ fX8_rankOf_7) dX8_rankOf_11 ?_
    refine gx_bipush C dX8_rankOf_14 rfl ?_
    refine gx_iaload C (gm_1 hM) (by omega) dX8_rankOf_16 hz'.1 ?_
    refine gx_icmp_ge C dX8_rankOf_17 rfl (by unfold gx_3; omega) (by unfold gx_3; omega) (fun hb17 => ?_) (fun hb17 => absurd (by omega) hb17)
    refine gx_iload_n C dX8_rankOf_93 rfl ?_
    exact gx_iret C dX8_rankOf_94 ⟨h1, hY⟩
/-- a times itself k times more -/
def mx_po (n : Nat) (m : Int) (u a : Nat → Int) (b : Nat → Int) : Nat → Nat → Int
  | 0 => b
  | k + 1 => mx_prod n m u (mx_po n m u a b k) a
theorem mx_po_ok {n : Nat} {m : Int} (h : 3 ≤ m) {u a b : Nat → Int} (ob : mx_ok m b) : ∀ k, mx_ok m (mx_po n m u a b k)
  | 0 => ob
  | k + 1 => mx_lin_ok h _ _ _ _
/-- the least place below N with P, counted from 1; -6 if there is none -/
def mx_fst (P : Nat → Prop) (N : Nat) (z : Int) : Prop := (∃ k, k < N ∧ P k ∧ (∀ j, j < k → ¬ P j) ∧ z = (k : Int) + 1) ∨ ((∀ j, j < N → ¬ P j) ∧ z = -6)
theorem mx_fst_u {P : Nat → Prop} {N : Nat} {z w : Int} (h1 : mx_fst P N z) (h2 : mx_fst P N w) : z = w := by
  rcases h1 with ⟨k, a1, a2, a3, a4⟩ | ⟨a1, a2⟩ <;> rcases h2 with ⟨j, b1, b2, b3, b4⟩ | ⟨b1, b2⟩
  · rcases Nat.lt_trichotomy k j with h | h | h
    · exact absurd a2 (b3 k h)
    · rw [a4, b4, h]
    · exact absurd b2 (a3 j h)
  · exact absurd a2 (b1 k a1)
  · exact absurd b2 (a1 j b1)
  · rw [a2, b2]
def gm_S2 : Nat → Prop := fun j => (45 ≤ j ∧ j < 81) ∨ (108 ≤ j ∧ j < 117)
set_option maxRecDepth 100000 in
set_option maxHeartbeats 4000000 in
theorem c_X8_orderOf {La : List gx_K} (hM : gm_H La) {M : gx_M} {n : Nat} {m : Int} (hz : gm_Z M n m) {a : Nat} (ha : a + 9 ≤ 45 ∨ 117 ≤ a) (ha2 : a + 9 ≤ 1926) (oa : mx_ok m (mx_of (M 6) a)) (ou : mx_ok m (mx_of (M 6) 27)) (ov : mx_ok m (mx_of (M 6) 36)) : gx_Ci La yX8_orderOf wsX8_orderOf 3 [gx_R 0, gx_I a] M (fun z M' => mx_fst (fun k => mx_po n m (mx_of (M 6) 27) (mx_of (M 6) a) (mx_of (M 6) a) k = mx_of (M 6) 36) 2000 z ∧ gm_E gm_S2 M M') := by
  have hzm := gm_Zm hz
  generalize hx : mx_of (M 6) a = x at oa ⊢
  generalize hu : mx_of (M 6) 27 = u at ou ⊢
  generalize hv : mx_of (M 6) 36 = v at ov ⊢
  refine gx_start_i (L := [gx_R 0, gx_I a, gx_U]) (by decide) rfl rfl (Nat.le_of_ble_eq_true rfl) rfl ?_
  intro _ _ _ _ _ _ _ _ _ _ _ _ C
  refine gx_aload_n C dX8_orderOf_0 rfl ?_
  refine gx_iload_n C dX8_orderOf_1 rfl ?_
  refine gx_bipush C dX8_orderOf_2 rfl ?_
  refine gx_callV C 8 rfl (gm_0 hM) (c_X8_copy hM (a := a) (t := 108) (by omega) (by omega) (by omega)) (cwV 2 (gx_hts C) gX8_orderOf_X8_copy rfl rfl rfl (by decide +kernel) ⟨Nat.le_of_ble_eq_true rfl, Nat.le_of_ble_eq_true rfl⟩) rfl rfl (Nat.le_of_ble_eq_true rfl) ⟨Nat.le_refl _, Nat.le_refl _⟩ dX8_orderOf_4 (fun M1 h1 => ?_)
  rw [hx] at h1
  refine gx_iconst C dX8_orderOf_7 ?_
  refine gx_istore_n C dX8_orderOf_8 (by decide) rfl ?_
  refine gx_for 2000 (fun k (_ : gx_M) => [gx_R 0, gx_I a, gx_I ((k + 1 : Nat) : Int)]) (fun M' => M') (fun k M' => mx_of (M' 6) 108 = mx_po n m u x x k ∧ gm_E gm_S2 M M' ∧ ∀ j, j < k → ¬ mx_po n m u x x j = v) 0 M1 (by omega) ⟨by rw [h1]; exact (by rw [← hx]; exact mx_of_of), by rw [h1]; exact gm_Eb (fun j h1 h2 => Or.inr (by omega)), fun j hj => absurd hj (by omega)⟩ (fun k M' hk hI ih => ?_) (fun M' hI => ?_)
  · obtain ⟨h2, E2, h3⟩ := hI
    have a2 : mx_of (M' 6) a = x := by rw [gm_Eo E2 (fun j h1 h2 => by unfold gm_S2; omega), hx]
    have u2 : mx_of (M' 6) 27 = u := by rw [gm_Eo E2 (fun j h1 h2 => by unfold gm_S2; omega), hu]
    have v2 : mx_of (M' 6) 36 = v := by rw [gm_Eo E2 (fun j h1 h2 => by unfold gm_S2; omega), hv]
    have op := mx_po_ok (n := n) (u := u) (a := x) hzm.1 oa k
    refine gx_iload_n C dX8_orderOf_9 rfl ?_
    refine gx_sipush C dX8_orderOf_10 rfl ?_
    refine gx_icmp_gt C dX8_orderOf_13 rfl (by unfold gx_3; omega) (by unfold gx_3; omega) (fun hb13 => absurd hb13 (by omega)) (fun hb13 => ?_)
    refine gx_aload_n C dX8_orderOf_16 rfl ?_
    refine gx_bipush C dX8_orderOf_17 rfl ?_
    refine gx_bipush C dX8_orderOf_19 rfl ?_
    refine gx_callI C 8 rfl (gm_0 hM) (c_X8_areAlike hM (m := m) (by omega) (a := 108) (b := 36) (by omega) (by omega) (by rw [h2]; exact op) (by rw [v2]; exact ov)) (cwV 2 (gx_hts C) gX8_orderOf_X8_areAlike rfl rfl rfl (by decide +kernel) ⟨Nat.le_of_ble_eq_true rfl, Nat.le_of_ble_eq_true rfl⟩) rfl rfl (Nat.le_of_ble_eq_true rfl) ⟨Nat.le_refl _, Nat.le_refl _⟩ dX8_orderOf_21 (fun z M3 h4 => ?_)
    obtain ⟨rfl, h5, h6⟩ := h4
    rw [h2, v2] at h6
    refine gx_if_eq C dX8_orderOf_24 rfl (by unfold gx_3; omega) (fun hb24 => ?_) (fun hb24 => ?_)
    · refine gx_aload_n C dX8_orderOf_29 rfl ?_
      refine gx_bipush C dX8_orderOf_30 rfl ?_
      refine gx_iload_n C dX8_orderOf_32 rfl ?_
      refine gx_bipush C dX8_orderOf_33 rfl ?_
      refine gx_callV C 8 rfl (gm_0 hM) (c_X8_product hM (gm_Ez E2 hz) (a := 108) (b := a) (t := 108) (by omega) (by omega) (by omega) (by omega) (by omega) (by omega) (by rw [h2]; exact op) (by rw [a2]; exact oa) (by rw [u2]; exact ou)) (cwV 3 (gx_hts C) gX8_orderOf_X8_product rfl rfl rfl (by decide +kernel) ⟨Nat.le_of_ble_eq_true rfl, Nat.le_of_ble_eq_true rfl⟩) rfl rfl (Nat.le_of_ble_eq_true rfl) ⟨Nat.le_refl _, Nat.le_refl _⟩ dX8_orderOf_35 (fun M4 h7 => ?_)
      rw [u2, h2, a2] at h7
      refine gx_iinc C dX8_orderOf_38 (by decide) rfl rfl ?_
      refine gx_goto C dX8_orderOf_41 rfl ?_
      exact ih _ ⟨h7.1, gm_Et E2 (gm_Ew h7.2 (fun j h => by unfold gm_S at h; unfold gm_S2; omega)), mx_all.mpr ⟨h3, fun q => by have := h6.mpr q; omega⟩⟩
    · refine gx_iload_n C dX8_orderOf_27 rfl ?_
      exact gx_iret C dX8_orderOf_28 ⟨Or.inl ⟨k, hk, h6.mp (by omega), h3, by omega⟩, E2⟩
  · obtain ⟨h2, E2, h3⟩ := hI
    refine gx_iload_n C dX8_orderOf_9 rfl ?_
    refine gx_sipush C dX8_orderOf_10 rfl ?_
    refine gx_icmp_gt C dX8_orderOf_13 rfl (by unfold gx_3; omega) (by unfold gx_3; omega) (fun hb13 => ?_) (fun hb13 => absurd (by omega) hb13)
    refine gx_bipush C dX8_orderOf_44 rfl ?_
    exact gx_iret C dX8_orderOf_46 ⟨Or.inr ⟨h3, rfl⟩, E2⟩
set_option maxRecDepth 100000 in
set_option maxHeartbeats 4000000 in
theorem c_X8_endOf {La : List gx_K} (hM : gm_H La) {M : gx_M} {n : Nat} {m : Int} (hz : gm_Z M n m) {a : Nat} (ha : a + 9 ≤ 45 ∨ 117 ≤ a) (ha2 : a + 9 ≤ 1926) (oa : mx_ok m (mx_of (M 6) a)) (ou : mx_ok m (mx_of (M 6) 27)) : gx_Ci La yX8_endOf wsX8_endOf 3 [gx_R 0, gx_I a] M (fun z M' => mx_fst (fun k => mx_po n m (mx_of (M 6) 27) (mx_of (M 6) a) (mx_of (M 6) a) k = fun _ => 0) 10 z ∧ gm_E gm_S2 M M') := by
  have hzm := gm_Zm hz
  generalize hx : mx_of (M 6) a = x at oa ⊢
  generalize hu : mx_of (M 6) 27 = u at ou ⊢
  refine gx_start_i (L := [gx_R 0, gx_I a, gx_U]) (by decide) rfl rfl (Nat.le_of_ble_eq_true rfl) rfl ?_
  intro _ _ _ _ _ _ _ _ _ _ _ _ C
  refine gx_aload_n C dX8_endOf_0 rfl ?_
  refine gx_iload_n C dX8_endOf_1 rfl ?_
  refine gx_bipush C dX8_endOf_2 rfl ?_
  refine gx_callV C 8 rfl (gm_0 hM) (c_X8_copy hM (a := a) (t := 108) (by omega) (by omega) (by omega)) (cwV 2 (gx_hts C) gX8_endOf_X8_copy rfl rfl rfl (by decide +kernel) ⟨Nat.le_of_ble_eq_true rfl, Nat.le_of_ble_eq_true rfl⟩) rfl rfl (Nat.le_of_ble_eq_true rfl) ⟨Nat.le_refl _, Nat.le_refl _⟩ dX8_endOf_4 (fun M1 h1 => ?_)
  rw [hx] at h1
  refine gx_iconst C dX8_endOf_7 ?_
  refine gx_istore_n C dX8_endOf_8 (by decide) rfl ?_
  refine gx_for 10 (fun k (_ : gx_M) => [gx_R 0, gx_I a, gx_I ((k + 1 : Nat) : Int)]) (fun M' => M') (fun k M' => mx_of (M' 6) 108 = mx_po n m u x x k ∧ gm_E gm_S2 M M' ∧ ∀ j, j < k → ¬ mx_po n m u x x j = fun _ => 0) 0 M1 (by omega) ⟨by rw [h1]; exact (by rw [← hx]; exact mx_of_of), by rw [h1]; exact gm_Eb (fun j h1 h2 => Or.inr (by omega)), fun j hj => absurd hj (by omega)⟩ (fun k M' hk hI ih => ?_) (fun M' hI => ?_)
  · obtain ⟨h2, E2, h3⟩ := hI
    have a2 : mx_of (M' 6) a = x := by rw [gm_Eo E2 (fun j h1 h2 => by unfold gm_S2; omega), hx]
    have u2 : mx_of (M' 6) 27 = u := by rw [gm_Eo E2 (fun j h1 h2 => by unfold gm_S2; omega), hu]
    have op := mx_po_ok (n := n) (u := u) (a := x) hzm.1 oa k
    refine gx_iload_n C dX8_endOf_9 rfl ?_
    refine gx_bipush C dX8_endOf_10 rfl ?_
    refine gx_icmp_gt C dX8_endOf_12 rfl (by unfold gx_3; omega) (by unfold gx_3; omega) (fun hb12 => absurd hb12 (by omega)) (fun hb12 => ?_)
    refine gx_aload_n C dX8_endOf_15 rfl ?_
    refine gx_bipush C dX8_endOf_16 rfl ?_
    refine gx_callI C 8 rfl (gm_0 hM) (c_X8_isNothing hM (m := m) (by omega) (a := 108) (by omega) (by rw [h2]; exact op)) (cwV 1 (gx_hts C) gX8_endOf_X8_isNothing rfl rfl rfl (by decide +kernel) ⟨Nat.le_of_ble_eq_true rfl, Nat.le_of_ble_eq_true rfl⟩) rfl rfl (Nat.le_of_ble_eq_true rfl) ⟨Nat.le_refl _, Nat.le_refl _⟩ dX8_endOf_18 (fun z M3 h4 => ?_)
    obtain ⟨rfl, h5, h6⟩ := h4
    rw [h2] at h6
    refine gx_if_eq C dX8_endOf_21 rfl (by unfold gx_3; omega) (fun hb21 => ?_) (fun hb21 => ?_)
    · refine gx_aload_n C dX8_endOf_26 rfl ?_
      refine gx_bipush C dX8_endOf_27 rfl ?_
      refine gx_iload_n C dX8_endOf_29 rfl ?_
      refine gx_bipush C dX8_endOf_30 rfl ?_
      refine gx_callV C 8 rfl (gm_0 hM) (c_X8_product hM (gm_Ez E2 hz) (a := 108) (b := a) (t := 108) (by omega) (by omega) (by omega) (by omega) (by omega) (by omega) (by rw [h2]; exact op) (by rw [a2]; exact oa) (by rw [u2]; exact ou)) (cwV 3 (gx_hts C) gX8_endOf_X8_product rfl rfl rfl (by decide +kernel) ⟨Nat.le_of_ble_eq_true rfl, Nat.le_of_ble_eq_true rfl⟩) rfl rfl (Nat.le_of_ble_eq_true rfl) ⟨Nat.le_refl _, Nat.le_refl _⟩ dX8_endOf_32 (fun M4 h7 => ?_)
      rw [u2, h2, a2] at h7
      refine gx_iinc C dX8_endOf_35 (by decide) rfl rfl ?_
      refine gx_goto C dX8_endOf_38 rfl ?_
      exact ih _ ⟨h7.1, gm_Et E2 (gm_Ew h7.2 (fun j h => by unfold gm_S at h; unfold gm_S2; omega)), mx_all.mpr ⟨h3, fun q => by have := h6.mpr q; omega⟩⟩
    · refine gx_iload_n C dX8_endOf_24 rfl ?_
      exact gx_iret C dX8_endOf_25 ⟨Or.inl ⟨k, hk, h6.mp (by omega), h3, by omega⟩, E2⟩
  · obtain ⟨h2, E2, h3⟩ := hI
    refine gx_iload_n C dX8_endOf_9 rfl ?_
    refine gx_bipush C dX8_endOf_10 rfl ?_
    refine gx_icmp_gt C dX8_endOf_12 rfl (by unfold gx_3; omega) (by unfold gx_3; omega) (fun hb12 => ?_) (fun hb12 => absurd (by omega) hb12)
    refine gx_bipush C dX8_endOf_41 rfl ?_
    exact gx_iret C dX8_endOf_43 ⟨Or.inr ⟨h3, rfl⟩, E2⟩
/-- the rows of the powers -/
def mx_dst (n : Nat) (m : Int) (u a v : Nat → Int) : Nat → Nat × (Nat → Nat → Int)
  | 0 => (0, fun _ _ => 0)
  | k + 1 => mx_nw m (mx_dst n m u a v k) (mx_po n m u a v k)
set_option maxRecDepth 100000 in
set_option maxHeartbeats 4000000 in
theorem c_X8_degreeOf {La : List gx_K} (hM : gm_H La) {M : gx_M} {n : Nat} {m : Int} (hz : gm_Z M n m) {a : Nat} (ha : a + 9 ≤ 45 ∨ 117 ≤ a) (ha2 : a + 9 ≤ 1926) (oa : mx_ok m (mx_of (M 6) a)) (ou : mx_ok m (mx_of (M 6) 27)) (ov : mx_ok m (mx_of (M 6) 36)) {K : Nat} (hK9 : K ≤ 8) (hK1 : ∀ k, k ≤ K → (mx_dst n m (mx_of (M 6) 27) (mx_of (M 6) a) (mx_of (M 6) 36) k).1 = k) (hK2 : (mx_dst n m (mx_of (M 6) 27) (mx_of (M 6) a) (mx_of (M 6) 36) (K + 1)).1 = K) : gx_Ci La yX8_degreeOf wsX8_degreeOf 3 [gx_R 0, gx_I a] M (fun z M' => z = K ∧ gm_Y M M') := by
  have hzm := gm_Zm hz
  generalize hx : mx_of (M 6) a = x at oa hK1 hK2 ⊢
  generalize hu : mx_of (M 6) 27 = u at ou hK1 hK2 ⊢
  generalize hv : mx_of (M 6) 36 = v at ov hK1 hK2 ⊢
  refine gx_start_i (L := [gx_R 0, gx_I a, gx_U]) (by decide) rfl rfl (Nat.le_of_ble_eq_true rfl) rfl ?_
  intro _ _ _ _ _ _ _ _ _ _ _ _ C
  refine gx_aload_n C dX8_degreeOf_0 rfl ?_
  refine gx_iconst C dX8_degreeOf_1 ?_
  refine gx_putI C 8 _ 9 rfl (gm_0 hM) rfl (by decide) nX8_degreeOf_8 tyX8 tyX8_ok nmX8 (gx_hts C _ fX8_degreeOf_131) rfl rfl dX8_degreeOf_2 ?_
  refine gx_aload_n C dX8_degreeOf_5 rfl ?_
  refine gx_bipush C dX8_degreeOf_6 rfl ?_
  refine gx_bipush C dX8_degreeOf_8 rfl ?_
  have E0 : gm_Y M (gx_u M 0 9 0) := gm_Yu
  refine gx_callV C 8 rfl (gm_0 hM) (c_X8_copy hM (a := 36) (t := 108) (by omega) (by omega) (by omega)) (cwV 2 (gx_hts C) gX8_degreeOf_X8_copy rfl rfl rfl (by decide +kernel) ⟨Nat.le_of_ble_eq_true rfl, Nat.le_of_ble_eq_true rfl⟩) rfl rfl (Nat.le_of_ble_eq_true rfl) ⟨Nat.le_refl _, Nat.le_refl _⟩ dX8_degreeOf_10 (fun M1 h1 => ?_)
  have e6 : gx_u M 0 9 0 6 = M 6 := gx_u_nc (by decide)
  rw [e6, hv] at h1
  have Y1 : gm_Y M M1 := gm_Yt E0 (by rw [h1]; exact gm_Y6)
  have p1 : mx_of (M1 6) 108 = v := by rw [h1]; rw [← hv]; exact mx_of_of
  have a1 : mx_of (M1 6) a = x := by rw [h1, mx_of_blo (by omega), e6, hx]
  have u1 : mx_of (M1 6) 27 = u := by rw [h1, mx_of_blo (by omega), e6, hu]
  have W1 : gm_W M1 m (0, fun _ _ => 0) := by rw [h1]; exact gm_Wb (gm_W0 (gx_u_eq _ _ _ _))
  refine gx_iconst C dX8_degreeOf_13 ?_
  refine gx_istore_n C dX8_degreeOf_14 (by decide) rfl ?_
  refine gx_for K (fun k (_ : gx_M) => [gx_R 0, gx_I a, gx_I (k : Int)]) (fun M' => M') (fun k M' => mx_of (M' 6) 108 = mx_po n m u x v k ∧ mx_of (M' 6) a = x ∧ mx_of (M' 6) 27 = u ∧ gm_W M' m (mx_dst n m u x v k) ∧ gm_Y M M') 0 M1 (by omega) ⟨p1, a1, u1, W1, Y1⟩ (fun k M' hk hI ih => ?_) (fun M' hI => ?_)
  · obtain ⟨h2, a2, u2, W2, Y2⟩ := hI
    have op := mx_po_ok (n := n) (u := u) (a := x) hzm.1 ov k
    have k1 := hK1 k (by omega)
    have k2 := hK1 (k + 1) (by omega)
    refine gx_aload_n C dX8_degreeOf_15 rfl ?_
    refine gx_bipush C dX8_degreeOf_16 rfl ?_
    refine gx_callI C 8 rfl (gm_0 hM) (c_X8_isNew hM (gm_Yz Y2 hz) W2 (by omega) (a := 108) (by omega) (by rw [h2]; exact op)) (cwV 1 (gx_hts C) gX8_degreeOf_X8_isNew rfl rfl rfl (by decide +kernel) ⟨Nat.le_of_ble_eq_true rfl, Nat.le_of_ble_eq_true rfl⟩) rfl rfl (Nat.le_of_ble_eq_true rfl) ⟨Nat.le_refl _, Nat.le_refl _⟩ dX8_degreeOf_18 (fun z M3 h4 => ?_)
    rw [h2] at h4
    obtain ⟨hz4, hc4, W4, w4, Y4⟩ := h4
    have hc5 : ((mx_dst n m u x v (k + 1)).1 : Int) = (mx_dst n m u x v k).1 + z := hc4
    refine gx_if_eq C dX8_degreeOf_21 rfl (by unfold gx_3; omega) (fun hb21 => absurd hb21 (by omega)) (fun hb21 => ?_)
    refine gx_aload_n C dX8_degreeOf_24 rfl ?_
    refine gx_bipush C dX8_degreeOf_25 rfl ?_
    refine gx_iload_n C dX8_degreeOf_27 rfl ?_
    refine gx_bipush C dX8_degreeOf_28 rfl ?_
    refine gx_callV C 8 rfl (gm_0 hM) (c_X8_product hM (gm_Yz (gm_Yt Y2 Y4) hz) (a := 108) (b := a) (t := 108) (by omega) (by omega) (by omega) (by omega) (by omega) (by omega) (by rw [w4, h2]; exact op) (by rw [w4, a2]; exact oa) (by rw [w4, u2]; exact ou)) (cwV 3 (gx_hts C) gX8_degreeOf_X8_product rfl rfl rfl (by decide +kernel) ⟨Nat.le_of_ble_eq_true rfl, Nat.le_of_ble_eq_true rfl⟩) rfl rfl (Nat.le_of_ble_eq_true rfl) ⟨Nat.le_refl _, Nat.le_refl _⟩ dX8_degreeOf_30 (fun M4 h7 => ?_)
    rw [w4, u2, h2, a2] at h7
    refine gx_iinc C dX8_degreeOf_33 (by decide) rfl rfl ?_
    refine gx_goto C dX8_degreeOf_36 rfl ?_
    exact ih _ ⟨h7.1, by rw [gm_Eo h7.2 (fun j h1 h2 => by unfold gm_S; omega), w4, a2], by rw [gm_Eo h7.2 (fun j h1 h2 => by unfold gm_S; omega), w4, u2], gm_WE W4 h7.2, gm_Yt (gm_Yt Y2 Y4) (gm_YE h7.2)⟩
  · obtain ⟨h2, a2, u2, W2, Y2⟩ := hI
    have op := mx_po_ok (n := n) (u := u) (a := x) hzm.1 ov K
    have k1 := hK1 K (by omega)
    refine gx_aload_n C dX8_degreeOf_15 rfl ?_
    refine gx_bipush C dX8_degreeOf_16 rfl ?_
    refine gx_callI C 8 rfl (gm_0 hM) (c_X8_isNew hM (gm_Yz Y2 hz) W2 (by omega) (a := 108) (by omega) (by rw [h2]; exact op)) (cwV 1 (gx_hts C) gX8_degreeOf_X8_isNew rfl rfl rfl (by decide +kernel) ⟨Nat.le_of_ble_eq_true rfl, Nat.le_of_ble_eq_true rfl⟩) rfl rfl (Nat.le_of_ble_eq_true rfl) ⟨Nat.le_refl _, Nat.le_refl _⟩ dX8_degreeOf_18 (fun z M3 h4 => ?_)
    rw [h2] at h4
    obtain ⟨hz4, hc4, W4, w4, Y4⟩ := h4
    have hc5 : ((mx_dst n m u x v (K + 1)).1 : Int) = (mx_dst n m u x v K).1 + z := hc4
    refine gx_if_eq C dX8_degreeOf_21 rfl (by unfold gx_3; omega) (fun hb21 => ?_) (fun hb21 => absurd (by omega) hb21)
    refine gx_iload_n C dX8_degreeOf_39 rfl ?_
    exact gx_iret C dX8_degreeOf_40 ⟨rfl, gm_Yt Y2 Y4⟩
def mx_tr (m : Int) (a : Nat → Int) : Int := (a 0 + a 4 + a 8) % m
set_option maxRecDepth 100000 in
set_option maxHeartbeats 4000000 in
theorem c_X8_trace {La : List gx_K} (hM : gm_H La) {M : gx_M} {n : Nat} {m : Int} (hz : gm_Z M n m) {a : Nat} (ha2 : a + 9 ≤ 1926) (oa : mx_ok m (mx_of (M 6) a)) : gx_Ci La yX8_trace wsX8_trace 0 [gx_R 0, gx_I a] M (fun z M' => M' = M ∧ z = mx_tr m (mx_of (M 6) a)) := by
  have hzm := gm_Zm hz
  have h0 := oa 0 (by omega)
  have h4 := oa 4 (by omega)
  have h8 := oa 8 (by omega)
  have e0 : M 6 ((a : Int).toNat) = mx_of (M 6) a 0 := gm_rd (by omega) (by omega)
  refine gx_start_i (L := [gx_R 0, gx_I a]) (by decide) rfl rfl (Nat.le_of_ble_eq_true rfl) rfl ?_
  intro _ _ _ _ _ _ _ _ _ _ _ _ C
  refine gx_aload_n C dX8_trace_0 rfl ?_
  refine gx_getR C 8 _ 7 rfl (gm_0 hM) rfl (by decide) nX8_trace_8 (gx_hts C _ fX8_trace_27) dX8_trace_1 ?_
  refine gx_iload_n C dX8_trace_4 rfl ?_
  refine gx_iaload C (gm_6 hM) (by omega) dX8_trace_5 e0 ?_
  refine gx_aload_n C dX8_trace_6 rfl ?_
  refine gx_getR C 8 _ 7 rfl (gm_0 hM) rfl (by decide) nX8_trace_8 (gx_hts C _ fX8_trace_27) dX8_trace_7 ?_
  refine gx_iload_n C dX8_trace_10 rfl ?_
  refine gx_iconst C dX8_trace_11 ?_
  refine gx_iadd C dX8_trace_12 ?_
  refine gx_iaload C (gm_6 hM) (by omega) dX8_trace_13 (gm_rd (a := a) (j := 4) (by omega) (by omega)) ?_
  refine gx_iadd C dX8_trace_14 ?_
  refine gx_aload_n C dX8_trace_15 rfl ?_
  refine gx_getR C 8 _ 7 rfl (gm_0 hM) rfl (by decide) nX8_trace_8 (gx_hts C _ fX8_trace_27) dX8_trace_16 ?_
  refine gx_iload_n C dX8_trace_19 rfl ?_
  refine gx_bipush C dX8_trace_20 rfl ?_
  refine gx_iadd C dX8_trace_22 ?_
  refine gx_iaload C (gm_6 hM) (by omega) dX8_trace_23 (gm_rd (a := a) (j := 8) (by omega) (by omega)) ?_
  refine gx_iadd C dX8_trace_24 ?_
  refine gx_aload_n C dX8_trace_25 rfl ?_
  refine gx_getR C 8 _ 0 rfl (gm_0 hM) rfl (by decide) nX8_trace_8 (gx_hts C _ fX8_trace_7) dX8_trace_26 ?_
  refine gx_bipush C dX8_trace_29 rfl ?_
  refine gx_iaload C (gm_1 hM) (by omega) dX8_trace_31 hz.2.1 ?_
  refine gx_irem C dX8_trace_32 (by unfold gx_3; omega) (by unfold gx_3; omega) (by omega) (gx_tmod (by omega)) ?_
  exact gx_iret C dX8_trace_33 ⟨rfl, rfl⟩
set_option maxRecDepth 100000 in
set_option maxHeartbeats 4000000 in
theorem c_X8_isCell {La : List gx_K} (hM : gm_H La) {M : gx_M} {n : Nat} {m : Int} (hz : gm_Z M n m) {x y : Int} (hx : gx_3 x) (hy : gx_3 y) : gx_Ci La yX8_isCell wsX8_isCell 1 [gx_R 0, gx_I x, gx_I y] M (fun z M' => M' = M ∧ z = if 0 ≤ x ∧ x < n ∧ 0 ≤ y ∧ y < n then 1 else 0) := by
  have hzm := gm_Zm hz
  refine gx_start_i (L := [gx_R 0, gx_I x, gx_I y]) (by decide) rfl rfl (Nat.le_of_ble_eq_true rfl) rfl ?_
  intro _ _ _ _ _ _ _ _ _ _ _ _ C
  refine gx_iload_n C dX8_isCell_0 rfl ?_
  refine gx_iconst C dX8_isCell_1 ?_
  refine gx_aload_n C dX8_isCell_2 rfl ?_
  refine gx_getR C 8 _ 0 rfl (gm_0 hM) rfl (by decide) nX8_isCell_8 (gx_hts C _ fX8_isCell_7) dX8_isCell_3 ?_
  refine gx_bipush C dX8_isCell_6 rfl ?_
  refine gx_iaload C (gm_1 hM) (by omega) dX8_isCell_8 hz.1 ?_
  refine gx_iconst C dX8_isCell_9 ?_
  refine gx_isub C dX8_isCell_10 ?_
  refine gx_statI C (c_X8_in hx (by unfold gx_3; omega) (by unfold gx_3; omega)) (cwS 3 (gx_hts C) gX8_isCell_X8_in rfl rfl rfl (by decide +kernel) ⟨Nat.le_of_ble_eq_true rfl, Nat.le_of_ble_eq_true rfl⟩) rfl rfl (Nat.le_of_ble_eq_true rfl) ⟨Nat.le_refl _, Nat.le_refl _⟩ dX8_isCell_11 (fun z M1 h1 => ?_)
  obtain ⟨rfl, h1⟩ := h1
  by_cases hq : 0 ≤ x ∧ x ≤ (n : Int) - 1
  · rw [if_pos hq] at h1
    subst h1
    refine gx_if_eq C dX8_isCell_14 rfl (by unfold gx_3; omega) (fun hb14 => absurd hb14 (by omega)) (fun hb14 => ?_)
    refine gx_iload_n C dX8_isCell_17 rfl ?_
    refine gx_iconst C dX8_isCell_18 ?_
    refine gx_aload_n C dX8_isCell_19 rfl ?_
    refine gx_getR C 8 _ 0 rfl (gm_0 hM) rfl (by decide) nX8_isCell_8 (gx_hts C _ fX8_isCell_7) dX8_isCell_20 ?_
    refine gx_bipush C dX8_isCell_23 rfl ?_
    refine gx_iaload C (gm_1 hM) (by omega) dX8_isCell_25 hz.1 ?_
    refine gx_iconst C dX8_isCell_26 ?_
    refine gx_isub C dX8_isCell_27 ?_
    refine gx_statI C (c_X8_in hy (by unfold gx_3; omega) (by unfold gx_3; omega)) (cwS 3 (gx_hts C) gX8_isCell_X8_in rfl rfl rfl (by decide +kernel) ⟨Nat.le_of_ble_eq_true rfl, Nat.le_of_ble_eq_true rfl⟩) rfl rfl (Nat.le_of_ble_eq_true rfl) ⟨Nat.le_refl _, Nat.le_refl _⟩ dX8_isCell_28 (fun z M1 h1 => ?_)
    obtain ⟨rfl, h1⟩ := h1
    by_cases hr : 0 ≤ y ∧ y ≤ (n : Int) - 1
    · rw [if_pos hr] at h1
      subst h1
      refine gx_if_eq C dX8_isCell_31 rfl (by unfold gx_3; omega) (fun hb31 => absurd hb31 (by omega)) (fun hb31 => ?_)
      refine gx_iconst C dX8_isCell_34 ?_
      refine gx_goto C dX8_isCell_35 rfl ?_
      exact gx_zret C (by omega) dX8_isCell_39 ⟨rfl, by rw [if_pos (by omega)]⟩
    · rw [if_neg hr] at h1
      subst h1
      refine gx_if_eq C dX8_isCell_31 rfl (by unfold gx_3; omega) (fun hb31 => ?_) (fun hb31 => absurd (by omega) hb31)
      refine gx_iconst C dX8_isCell_38 ?_
      exact gx_zret C (by omega) dX8_isCell_39 ⟨rfl, by rw [if_neg (by omega)]⟩
  · rw [if_neg hq] at h1
    subst h1
    refine gx_if_eq C dX8_isCell_14 rfl (by unfold gx_3; omega) (fun hb14 => ?_) (fun hb14 => absurd (by omega) hb14)
    refine gx_iconst C dX8_isCell_38 ?_
    exact gx_zret C (by omega) dX8_isCell_39 ⟨rfl, by rw [if_neg (by omega)]⟩
/-- a part of b by e -/
def mx_part (n : Nat) (m : Int) (u v e b : Nat → Int) (w : Int) : Nat → Int :=
  if w = 0 then mx_oper n m u (mx_lin m v 1 e (-1)) b else if w = 1 then mx_lin m b 1 (mx_lin m (mx_oper n m u e b) 1 (mx_oper n m u (mx_lin m v 1 e (-1)) b) 1) (-1) else mx_oper n m u e b
set_option maxRecDepth 100000 in
set_option maxHeartbeats 4000000 in
theorem c_X8_part {La : List gx_K} (hM : gm_H La) {M : gx_M} {n : Nat} {m : Int} (hz : gm_Z M n m) {w : Int} (hw : w = 0 ∨ w = 1 ∨ w = 2) (ob : mx_ok m (mx_of (M 6) 9)) (ou : mx_ok m (mx_of (M 6) 27)) (ov : mx_ok m (mx_of (M 6) 36)) (oe : mx_ok m (mx_of (M 6) 90)) : gx_Cv La yX8_part wsX8_part 3 [gx_R 0, gx_I w] M (fun M' => mx_of (M' 6) 81 = mx_part n m (mx_of (M 6) 27) (mx_of (M 6) 36) (mx_of (M 6) 90) (mx_of (M 6) 9) w ∧ gm_E (fun j => (45 ≤ j ∧ j < 90) ∨ (99 ≤ j ∧ j < 108) ∨ (117 ≤ j ∧ j < 126)) M M') := by
  have hzm := gm_Zm hz
  generalize hB : mx_of (M 6) 9 = B at ob ⊢
  generalize hU : mx_of (M 6) 27 = U at ou ⊢
  generalize hV : mx_of (M 6) 36 = V at ov ⊢
  generalize hEE : mx_of (M 6) 90 = e at oe ⊢
  generalize hS : (fun j => (45 ≤ j ∧ j < 90) ∨ (99 ≤ j ∧ j < 108) ∨ (117 ≤ j ∧ j < 126)) = S
  have hS' : ∀ j, ((45 ≤ j ∧ j < 90) ∨ (99 ≤ j ∧ j < 108) ∨ (117 ≤ j ∧ j < 126)) ↔ S j := fun j => by rw [← hS]
  refine gx_start_v (L := [gx_R 0, gx_I w]) (by decide) rfl rfl (Nat.le_of_ble_eq_true rfl) rfl ?_
  intro _ _ _ _ _ _ _ _ _ _ _ _ C
  refine gx_aload_n C dX8_part_0 rfl ?_
  refine gx_bipush C dX8_part_1 rfl ?_
  refine gx_iconst C dX8_part_3 ?_
  refine gx_bipush C dX8_part_4 rfl ?_
  refine gx_iconst C dX8_part_6 ?_
  refine gx_bipush C dX8_part_7 rfl ?_
  refine gx_callV C 8 rfl (gm_0 hM) (c_X8_add hM hz (a := 36) (b := 90) (t := 99) (by omega) (by omega) (by omega) (by omega) (by omega) (by rw [hV]; exact ov) (by rw [hEE]; exact oe) (by omega) (by omega)) (cwV 5 (gx_hts C) gX8_part_X8_add rfl rfl rfl (by decide +kernel) ⟨Nat.le_of_ble_eq_true rfl, Nat.le_of_ble_eq_true rfl⟩) rfl rfl (Nat.le_of_ble_eq_true rfl) ⟨Nat.le_refl _, Nat.le_refl _⟩ dX8_part_9 (fun M1 h1 => ?_)
  rw [hV, hEE] at h1
  have of := mx_lin_ok (m := m) hzm.1 V e 1 (-1)
  have z1 : gm_Z M1 n m := by rw [h1]; exact gm_Zb hz
  have b1 : mx_of (M1 6) 9 = B := by rw [h1, mx_of_blo (by omega), hB]
  have u1 : mx_of (M1 6) 27 = U := by rw [h1, mx_of_blo (by omega), hU]
  have e1 : mx_of (M1 6) 90 = e := by rw [h1, mx_of_blo (by omega), hEE]
  have f1 : mx_of (M1 6) 99 = mx_lin m V 1 e (-1) := by rw [h1]; exact mx_of_lin
  have E1 : gm_E S M M1 := by rw [h1]; exact gm_Eb (fun j h1 h2 => (hS' j).mp (by omega))
  clear h1
  have ES : ∀ {P Q : gx_M}, gm_E (gm_S 81) P Q → gm_E S P Q := fun h => gm_Ew h (fun j h => by unfold gm_S at h; exact (hS' j).mp (by omega))
  have Eo : ∀ {P Q : gx_M} {a : Nat}, gm_E (gm_S 81) P Q → (a + 9 ≤ 45 ∨ 90 ≤ a) → mx_of (Q 6) a = mx_of (P 6) a := fun h h2 => gm_Eo h (fun j h1 h2 => by unfold gm_S; omega)
  rcases hw with rfl | rfl | rfl
  · refine gx_aload_n C dX8_part_12 rfl ?_
    refine gx_iload_n C dX8_part_13 rfl ?_
    refine gx_if_ne C dX8_part_14 rfl (by unfold gx_3; omega) (fun hb14 => absurd hb14 (by omega)) (fun hb14 => ?_)
    refine gx_bipush C dX8_part_17 rfl ?_
    refine gx_goto C dX8_part_19 rfl ?_
    refine gx_bipush C dX8_part_24 rfl ?_
    refine gx_bipush C dX8_part_26 rfl ?_
    refine gx_callV C 8 rfl (gm_0 hM) (c_X8_operator hM z1 (a := 99) (b := 9) (t := 81) (by omega) (by omega) (by omega) (by omega) (by omega) (by omega) (by rw [f1]; exact of) (by rw [b1]; exact ob) (by rw [u1]; exact ou)) (cwV 3 (gx_hts C) gX8_part_X8_operator rfl rfl rfl (by decide +kernel) ⟨Nat.le_of_ble_eq_true rfl, Nat.le_of_ble_eq_true rfl⟩) rfl rfl (Nat.le_of_ble_eq_true rfl) ⟨Nat.le_refl _, Nat.le_refl _⟩ dX8_part_28 (fun M2 h2 => ?_)
    rw [u1, f1, b1] at h2
    refine gx_iload_n C dX8_part_31 rfl ?_
    refine gx_iconst C dX8_part_32 ?_
    refine gx_icmp_ne C dX8_part_33 rfl (by unfold gx_3; omega) (by unfold gx_3; omega) (fun hb33 => ?_) (fun hb33 => absurd (by omega) hb33)
    exact gx_vret C dX8_part_78 ⟨h2.1, gm_Et E1 (ES h2.2)⟩
  · refine gx_aload_n C dX8_part_12 rfl ?_
    refine gx_iload_n C dX8_part_13 rfl ?_
    refine gx_if_ne C dX8_part_14 rfl (by unfold gx_3; omega) (fun hb14 => ?_) (fun hb14 => absurd (by omega) hb14)
    refine gx_bipush C dX8_part_22 rfl ?_
    refine gx_bipush C dX8_part_24 rfl ?_
    refine gx_bipush C dX8_part_26 rfl ?_
    refine gx_callV C 8 rfl (gm_0 hM) (c_X8_operator hM z1 (a := 90) (b := 9) (t := 81) (by omega) (by omega) (by omega) (by omega) (by omega) (by omega) (by rw [e1]; exact oe) (by rw [b1]; exact ob) (by rw [u1]; exact ou)) (cwV 3 (gx_hts C) gX8_part_X8_operator rfl rfl rfl (by decide +kernel) ⟨Nat.le_of_ble_eq_true rfl, Nat.le_of_ble_eq_true rfl⟩) rfl rfl (Nat.le_of_ble_eq_true rfl) ⟨Nat.le_refl _, Nat.le_refl _⟩ dX8_part_28 (fun M2 h2 => ?_)
    rw [u1, e1, b1] at h2
    obtain ⟨r2, E2⟩ := h2
    have f2 : mx_of (M2 6) 99 = mx_lin m V 1 e (-1) := by rw [Eo E2 (by omega), f1]
    have b2 : mx_of (M2 6) 9 = B := by rw [Eo E2 (by omega), b1]
    have u2 : mx_of (M2 6) 27 = U := by rw [Eo E2 (by omega), u1]
    have z2 := gm_Ez E2 z1
    have oo : ∀ a b : Nat → Int, mx_ok m (mx_oper n m U a b) := fun a b => mx_mul_ok hzm.1 _ _
    refine gx_iload_n C dX8_part_31 rfl ?_
    refine gx_iconst C dX8_part_32 ?_
    refine gx_icmp_ne C dX8_part_33 rfl (by unfold gx_3; omega) (by unfold gx_3; omega) (fun hb33 => absurd hb33 (by omega)) (fun hb33 => ?_)
    refine gx_aload_n C dX8_part_36 rfl ?_
    refine gx_bipush C dX8_part_37 rfl ?_
    refine gx_bipush C dX8_part_39 rfl ?_
    refine gx_callV C 8 rfl (gm_0 hM) (c_X8_copy hM (a := 81) (t := 117) (by omega) (by omega) (by omega)) (cwV 2 (gx_hts C) gX8_part_X8_copy rfl rfl rfl (by decide +kernel) ⟨Nat.le_of_ble_eq_true rfl, Nat.le_of_ble_eq_true rfl⟩) rfl rfl (Nat.le_of_ble_eq_true rfl) ⟨Nat.le_refl _, Nat.le_refl _⟩ dX8_part_41 (fun M3 h3 => ?_)
    have q3 : mx_of (M3 6) 117 = mx_oper n m U e B := by rw [h3, ← r2]; exact mx_of_of
    have f3 : mx_of (M3 6) 99 = mx_lin m V 1 e (-1) := by rw [h3, mx_of_blo (by omega), f2]
    have b3 : mx_of (M3 6) 9 = B := by rw [h3, mx_of_blo (by omega), b2]
    have u3 : mx_of (M3 6) 27 = U := by rw [h3, mx_of_blo (by omega), u2]
    have z3 : gm_Z M3 n m := by rw [h3]; exact gm_Zb z2
    have E3 : gm_E S M M3 := gm_Et (gm_Et E1 (ES E2)) (by rw [h3]; exact gm_Eb (fun j h1 h2 => (hS' j).mp (by omega)))
    refine gx_aload_n C dX8_part_44 rfl ?_
    refine gx_bipush C dX8_part_45 rfl ?_
    refine gx_bipush C dX8_part_47 rfl ?_
    refine gx_bipush C dX8_part_49 rfl ?_
    refine gx_callV C 8 rfl (gm_0 hM) (c_X8_operator hM z3 (a := 99) (b := 9) (t := 81) (by omega) (by omega) (by omega) (by omega) (by omega) (by omega) (by rw [f3]; exact of) (by rw [b3]; exact ob) (by rw [u3]; exact ou)) (cwV 3 (gx_hts C) gX8_part_X8_operator rfl rfl rfl (by decide +kernel) ⟨Nat.le_of_ble_eq_true rfl, Nat.le_of_ble_eq_true rfl⟩) rfl rfl (Nat.le_of_ble_eq_true rfl) ⟨Nat.le_refl _, Nat.le_refl _⟩ dX8_part_51 (fun M4 h4 => ?_)
    rw [u3, f3, b3] at h4
    obtain ⟨r4, E4⟩ := h4
    have q4 : mx_of (M4 6) 117 = mx_oper n m U e B := by rw [Eo E4 (by omega), q3]
    have b4 : mx_of (M4 6) 9 = B := by rw [Eo E4 (by omega), b3]
    have z4 := gm_Ez E4 z3
    refine gx_aload_n C dX8_part_54 rfl ?_
    refine gx_bipush C dX8_part_55 rfl ?_
    refine gx_iconst C dX8_part_57 ?_
    refine gx_bipush C dX8_part_58 rfl ?_
    refine gx_iconst C dX8_part_60 ?_
    refine gx_bipush C dX8_part_61 rfl ?_
    refine gx_callV C 8 rfl (gm_0 hM) (c_X8_add hM z4 (a := 117) (b := 81) (t := 117) (by omega) (by omega) (by omega) (by omega) (by omega) (by rw [q4]; exact oo _ _) (by rw [r4]; exact oo _ _) (by omega) (by omega)) (cwV 5 (gx_hts C) gX8_part_X8_add rfl rfl rfl (by decide +kernel) ⟨Nat.le_of_ble_eq_true rfl, Nat.le_of_ble_eq_true rfl⟩) rfl rfl (Nat.le_of_ble_eq_true rfl) ⟨Nat.le_refl _, Nat.le_refl _⟩ dX8_part_63 (fun M5 h5 => ?_)
    rw [q4, r4] at h5
    have q5 : mx_of (M5 6) 117 = mx_lin m (mx_oper n m U e B) 1 (mx_oper n m U (mx_lin m V 1 e (-1)) B) 1 := by rw [h5]; exact mx_of_lin
    have b5 : mx_of (M5 6) 9 = B := by rw [h5, mx_of_blo (by omega), b4]
    have z5 : gm_Z M5 n m := by rw [h5]; exact gm_Zb z4
    have E5 : gm_E S M M5 := gm_Et (gm_Et E3 (ES E4)) (by rw [h5]; exact gm_Eb (fun j h1 h2 => (hS' j).mp (by omega)))
    refine gx_aload_n C dX8_part_66 rfl ?_
    refine gx_bipush C dX8_part_67 rfl ?_
    refine gx_iconst C dX8_part_69 ?_
    refine gx_bipush C dX8_part_70 rfl ?_
    refine gx_iconst C dX8_part_72 ?_
    refine gx_bipush C dX8_part_73 rfl ?_
    refine gx_callV C 8 rfl (gm_0 hM) (c_X8_add hM z5 (a := 9) (b := 117) (t := 81) (by omega) (by omega) (by omega) (by omega) (by omega) (by rw [b5]; exact ob) (by rw [q5]; exact mx_lin_ok hzm.1 _ _ _ _) (by omega) (by omega)) (cwV 5 (gx_hts C) gX8_part_X8_add rfl rfl rfl (by decide +kernel) ⟨Nat.le_of_ble_eq_true rfl, Nat.le_of_ble_eq_true rfl⟩) rfl rfl (Nat.le_of_ble_eq_true rfl) ⟨Nat.le_refl _, Nat.le_refl _⟩ dX8_part_75 (fun M6 h6 => ?_)
    rw [b5, q5] at h6
    have hq : mx_of (M6 6) 81 = mx_part n m U V e B 1 := by rw [h6]; exact mx_of_lin
    exact gx_vret C dX8_part_78 ⟨hq, gm_Et E5 (by rw [h6]; exact gm_Eb (fun j h1 h2 => (hS' j).mp (by omega)))⟩
  · refine gx_aload_n C dX8_part_12 rfl ?_
    refine gx_iload_n C dX8_part_13 rfl ?_
    refine gx_if_ne C dX8_part_14 rfl (by unfold gx_3; omega) (fun hb14 => ?_) (fun hb14 => absurd (by omega) hb14)
    refine gx_bipush C dX8_part_22 rfl ?_
    refine gx_bipush C dX8_part_24 rfl ?_
    refine gx_bipush C dX8_part_26 rfl ?_
    refine gx_callV C 8 rfl (gm_0 hM) (c_X8_operator hM z1 (a := 90) (b := 9) (t := 81) (by omega) (by omega) (by omega) (by omega) (by omega) (by omega) (by rw [e1]; exact oe) (by rw [b1]; exact ob) (by rw [u1]; exact ou)) (cwV 3 (gx_hts C) gX8_part_X8_operator rfl rfl rfl (by decide +kernel) ⟨Nat.le_of_ble_eq_true rfl, Nat.le_of_ble_eq_true rfl⟩) rfl rfl (Nat.le_of_ble_eq_true rfl) ⟨Nat.le_refl _, Nat.le_refl _⟩ dX8_part_28 (fun M2 h2 => ?_)
    rw [u1, e1, b1] at h2
    refine gx_iload_n C dX8_part_31 rfl ?_
    refine gx_iconst C dX8_part_32 ?_
    refine gx_icmp_ne C dX8_part_33 rfl (by unfold gx_3; omega) (by unfold gx_3; omega) (fun hb33 => ?_) (fun hb33 => absurd (by omega) hb33)
    exact gx_vret C dX8_part_78 ⟨h2.1, gm_Et E1 (ES h2.2)⟩
