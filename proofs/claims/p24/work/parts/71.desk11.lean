theorem rr_fd_u {R : Nat → Nat → Int} {c a f g : Nat} (h : rr_fd R c a f) (k : rr_fd R c a g) : f = g := by
  obtain ⟨h1, h2, h3, h4⟩ := h
  obtain ⟨k1, k2, k3, k4⟩ := k
  rcases Nat.lt_trichotomy f g with e | e | e
  · exact absurd (k3 f h1 e) (h4 (by omega))
  · exact e
  · exact absurd (h3 g k1 e) (k4 (by omega))
theorem rr_st_u {m : Int} {q a b : rr_S} {c : Nat} (h : rr_st m q c a) (k : rr_st m q c b) : a = b := by
  obtain ⟨f, h1, h2⟩ := h
  obtain ⟨g, k1, k2⟩ := k
  have e := rr_fd_u h1 k1
  subst e
  rcases h2 with ⟨x, h2⟩ | ⟨x, h2⟩ <;> rcases k2 with ⟨y, k2⟩ | ⟨y, k2⟩
  · rw [h2, k2]
  · omega
  · omega
  · rw [h2, k2]
theorem rr_run_u {m : Int} {q : rr_S} : ∀ k a b, rr_run m q k a → rr_run m q k b → a = b
  | 0, a, b, h, g => by
    have h1 : a = q := h
    have g1 : b = q := g
    rw [h1, g1]
  | k + 1, a, b, h, g => by
    obtain ⟨x, h1, h2⟩ := h
    obtain ⟨y, g1, g2⟩ := g
    have e := rr_run_u k x y h1 g1
    subst e
    exact rr_st_u h2 g2
/-- the first powers as rows -/
def mc_pr (m : Int) (u v a : Nat → Int) (K : Nat) : Nat → Nat → Int := fun i => if i < K + 1 then mc_po m u a v i else fun _ => 0
theorem mc_po_9 {m : Int} {u a b : Nat → Int} (hb : ∀ k, 9 ≤ k → b k = 0) : ∀ j k, 9 ≤ k → mc_po m u a b j k = 0
  | 0, k, hk => hb k hk
  | _ + 1, k, hk => mx_sym_9 k hk
theorem mc_pr_ok {m : Int} (h : 3 ≤ m) {u v a : Nat → Int} (ov : mx_ok m v) (h9 : ∀ k, 9 ≤ k → v k = 0) {K : Nat} : rr_ok m (mc_pr m u v a K) := fun i hi => by
  unfold mc_pr
  by_cases e : i < K + 1
  · rw [if_pos e]
    exact ⟨mc_po_ok h ov i, mc_po_9 h9 i⟩
  · rw [if_neg e]
    exact ⟨fun k _ => by show 0 ≤ (0 : Int) ∧ (0 : Int) < m; omega, fun _ _ => rfl⟩
def mc_dg (m : Int) (u v a : Nat → Int) (K r : Nat) : Prop := ∃ q, rr_run m (mc_pr m u v a K, 1, 0) 9 q ∧ q.2.2 = r
set_option maxRecDepth 100000 in
set_option maxHeartbeats 4000000 in
theorem c_X0_degree {La : List gx_K} (hL : gd_H La) {M : gx_M} {n m : Int} {U V A : Nat → Int} (hA : ga_A n m U V M) {a : Nat} (ha : gd_9 La a) (na : 46 ≤ a) (eA : mx_of (M a) 0 = A) (oA : mx_ok m A) : gx_Ci La yX0_degree wsX0_degree 3 [gx_R 13, gx_R a] M (fun z M' => ((∃ K, K < 3 ∧ (∃ r, mc_dg m U V A (K + 1) r ∧ r ≤ K + 1) ∧ (∀ j, j < K → ∃ r, mc_dg m U V A (j + 1) r ∧ j + 1 < r) ∧ z = (K : Int) + 1) ∨ ((∀ j, j < 3 → ∃ r, mc_dg m U V A (j + 1) r ∧ j + 1 < r) ∧ z = n)) ∧ ∀ c, (c < 19 ∨ 25 ≤ c) → c ≠ 31 → c ≠ 32 → (c < 37 ∨ 41 ≤ c) → M' c = M c) := by
  obtain ⟨b0, b1, b2, b3, b4, b5, b6, b7⟩ := id hA
  have hpw : ∀ k, k < 4 → gd_9 La (37 + 1 * k) := fun k hk => by
    have := gd_pw hL k hk
    rwa [show 37 + k = 37 + 1 * k by omega] at this
  have h9 : ∀ k, 9 ≤ k → V k = 0 := fun k hk => by rw [← b3]; exact if_neg (by omega)
  refine gx_start_i (L := [gx_R 13, gx_R a, gx_U]) (by decide) rfl rfl (Nat.le_of_ble_eq_true rfl) rfl ?_
  intro _ _ _ _ _ _ _ _ _ _ _ _ C
  refine gx_aload_n C dX0_degree_0 rfl ?_
  refine gx_callR C 0 rfl (gd_13 hL) (c_X0_unit hL) (cwV 0 (gx_hts C) gX0_degree_X0_unit rfl rfl rfl (by decide +kernel) ⟨Nat.le_of_ble_eq_true rfl, Nat.le_of_ble_eq_true rfl⟩) rfl rfl (Nat.le_of_ble_eq_true rfl) ⟨Nat.le_refl _, Nat.le_refl _⟩ dX0_degree_1 (fun u P h5 => ?_)
  obtain ⟨rfl, rfl⟩ := h5
  refine gx_aload_n C dX0_degree_4 rfl ?_
  refine gx_getR C 0 _ 10 rfl (gd_13 hL) rfl (by decide) nX0_degree_0 (gx_hts C _ fX0_degree_52) dX0_degree_5 ?_
  refine gx_iconst C dX0_degree_8 ?_
  refine gx_aaload C (gd_36 hL) (by decide) (by omega) dX0_degree_9 (show _ = 37 + 1 * 0 from rfl) ?_
  refine gx_statVN C (c_X7_copy (gd_57 hL) (hpw 0 (by decide))) (⟨va_cnB 2 (gx_hts C) gX0_degree_X7_copy_n110 rfl rfl rfl ((gx_hN C).2 ("PeirceDesk$Algebra", 110, yX7_copy, "PeirceDesk") (by decide +kernel)) ((gx_hts C) (.initialized RX7) (by decide +kernel)) (by decide +kernel) ⟨Nat.le_of_ble_eq_true rfl, Nat.le_of_ble_eq_true rfl⟩, (gx_hts C) (.static yX7_copy) (by decide +kernel), trivial⟩) rfl rfl (Nat.le_of_ble_eq_true rfl) ⟨Nat.le_refl _, Nat.le_refl _⟩ dX0_degree_10 (fun P1 h1 => ?_)
  rw [b3] at h1
  refine gx_iconst C dX0_degree_13 ?_
  refine gx_istore_n C dX0_degree_14 (by decide) rfl ?_
  refine gx_for 3 (fun k (_ : gx_M) => [gx_R 13, gx_R a, gx_I ((k : Int) + 1)]) (fun Q => Q) (fun k Q => (∀ i, i < k + 1 → mx_of (Q (37 + 1 * i)) 0 = mc_po m U A V i) ∧ (∀ j, j < k → ∃ r, mc_dg m U V A (j + 1) r ∧ j + 1 < r) ∧ ∀ c, (c < 19 ∨ 25 ≤ c) → c ≠ 31 → c ≠ 32 → (c < 37 ∨ 41 ≤ c) → Q c = P c) 0 P1 (by omega) ⟨fun i hi => by
    rw [show i = 0 by omega, h1, mx_of_blk, mx_cut h9]
    rfl, fun j hj => absurd hj (Nat.not_lt_zero j), fun c _ _ _ c1 => by rw [h1, gx_blk_nc (by omega)]⟩ (fun k Q hk hI ih => ?_) (fun Q hI => ?_)
  · obtain ⟨i1, i2, i3⟩ := hI
    have gQ : ∀ c, 46 ≤ c → Q c = P c := fun c h => i3 c (by omega) (by omega) (by omega) (by omega)
    have ok1 := mc_po_ok b5.1 (u := U) (a := A) b7
    refine gx_iload_n C dX0_degree_15 rfl ?_
    refine gx_aload_n C dX0_degree_16 rfl ?_
    refine gx_getR C 0 _ 10 rfl (gd_13 hL) rfl (by decide) nX0_degree_0 (gx_hts C _ fX0_degree_52) dX0_degree_17 ?_
    refine gx_alen C (gd_36 hL) (by decide) dX0_degree_20 ?_
    refine gx_icmp_ge C dX0_degree_21 rfl (by unfold gx_3; omega) (by unfold gx_3; omega) (fun hb21 => absurd hb21 (by omega)) (fun hb21 => ?_)
    refine gx_aload_n C dX0_degree_24 rfl ?_
    refine gx_aload_n C dX0_degree_25 rfl ?_
    refine gx_getR C 0 _ 10 rfl (gd_13 hL) rfl (by decide) nX0_degree_0 (gx_hts C _ fX0_degree_52) dX0_degree_26 ?_
    refine gx_iload_n C dX0_degree_29 rfl ?_
    refine gx_iconst C dX0_degree_30 ?_
    refine gx_isub C dX0_degree_31 ?_
    refine gx_aaload C (gd_36 hL) (by decide) (by omega) dX0_degree_32 (show _ = 37 + 1 * k by omega) ?_
    refine gx_aload_n C dX0_degree_33 rfl ?_
    refine gx_aload_n C dX0_degree_34 rfl ?_
    refine gx_getR C 0 _ 10 rfl (gd_13 hL) rfl (by decide) nX0_degree_0 (gx_hts C _ fX0_degree_52) dX0_degree_35 ?_
    refine gx_iload_n C dX0_degree_38 rfl ?_
    refine gx_aaload C (gd_36 hL) (by decide) (by omega) dX0_degree_39 (show _ = 37 + 1 * (k + 1) by omega) ?_
    refine gx_callV C 0 rfl (gd_13 hL) (c_X0_product hL b5 (show Q 46 1 = m by rw [gQ 46 (by decide)]; exact b1) (hpw k (by omega)) ha (hpw (k + 1) (by omega)) (by omega) (by omega) (by omega) (by rw [i1 k (by omega)]; exact ok1 k) (by rw [gQ a na, eA]; exact oA) (by rw [gQ 56 (by decide), b2]; exact b6)) (cwV 3 (gx_hts C) gX0_degree_X0_product rfl rfl rfl (by decide +kernel) ⟨Nat.le_of_ble_eq_true rfl, Nat.le_of_ble_eq_true rfl⟩) rfl rfl (Nat.le_of_ble_eq_true rfl) ⟨Nat.le_refl _, Nat.le_refl _⟩ dX0_degree_40 (fun P2 h2 => ?_)
    rw [gQ a na, gQ 56 (by decide), b2, eA, i1 k (by omega)] at h2
    have f2 : ∀ c, (c < 19 ∨ 25 ≤ c) → c ≠ 31 → c ≠ 32 → (c < 37 ∨ 41 ≤ c) → P2 c = P c := fun c c1 c2 c3 c4 => by rw [h2.2 c c2 c3 (by omega)]; exact i3 c c1 c2 c3 c4
    have s2 : ∀ i, i < k + 2 → mx_of (P2 (37 + 1 * i)) 0 = mc_po m U A V i := fun i hi => by
      by_cases e : i = k + 1
      · rw [e]; exact h2.1
      · rw [h2.2 _ (by omega) (by omega) (by omega)]; exact i1 i (by omega)
    have em : P2 46 1 = m := by rw [f2 46 (by decide) (by decide) (by decide) (by decide)]; exact b1
    refine gx_aload_n C dX0_degree_43 rfl ?_
    refine gx_getR C 0 _ 1 rfl (gd_13 hL) rfl (by decide) nX0_degree_0 (gx_hts C _ fX0_degree_21) dX0_degree_44 ?_
    refine gx_aload_n C dX0_degree_47 rfl ?_
    refine gx_getR C 0 _ 10 rfl (gd_13 hL) rfl (by decide) nX0_degree_0 (gx_hts C _ fX0_degree_52) dX0_degree_48 ?_
    refine gx_iload_n C dX0_degree_51 rfl ?_
    refine gx_iconst C dX0_degree_52 ?_
    refine gx_iadd C dX0_degree_53 ?_
    refine gx_aload_n C dX0_degree_54 rfl ?_
    refine gx_getR C 0 _ 0 rfl (gd_13 hL) rfl (by decide) nX0_degree_0 (gx_hts C _ fX0_degree_12) dX0_degree_55 ?_
    refine gx_getIN C 6 _ 1 rfl (gd_now hL).1 rfl (by decide) nX0_degree_6 ((gx_hN C).1 ("PeirceDesk$Algebra", 58, "PeirceDesk$State", "modulus", "I", "PeirceDesk") (by decide +kernel) |> va_Nw.use rfl) dX0_degree_58 em ?_
    refine gx_callVN C 5 rfl (gd_19 hL) (c_X5_loadAll hL (N := (k : Int) + 1 + 1) (m := m) (by omega)) (⟨va_cnB 3 (gx_hts C) gX0_degree_X5_loadAll_n127 rfl rfl rfl ((gx_hN C).2 ("PeirceDesk$Algebra", 127, yX5_loadAll, "PeirceDesk") (by decide +kernel)) ((gx_hts C) (.initialized RX5) (by decide +kernel)) (by decide +kernel) ⟨Nat.le_of_ble_eq_true rfl, Nat.le_of_ble_eq_true rfl⟩, (gx_hts C) (.instanceMethod yX5_loadAll) (by decide +kernel), (gx_hts C) (.selects RX5 yX5_loadAll yX5_loadAll) (by decide +kernel)⟩) rfl rfl (Nat.le_of_ble_eq_true rfl) ⟨Nat.le_refl _, Nat.le_refl _⟩ dX0_degree_61 (fun P3 h3 => ?_)
    obtain ⟨l1, l2, l3⟩ := h3
    have hrows : ∀ i, i < 4 → rw_of P3 i = mc_pr m U V A (k + 1) i := fun i hi => by
      rw [l2 i hi]
      unfold mc_pr
      by_cases e : i < k + 1 + 1
      · rw [if_pos (by omega), if_pos e]; exact s2 i e
      · rw [if_neg (by omega), if_neg e]
    refine gx_aload_n C dX0_degree_64 rfl ?_
    refine gx_getR C 0 _ 1 rfl (gd_13 hL) rfl (by decide) nX0_degree_0 (gx_hts C _ fX0_degree_21) dX0_degree_65 ?_
    refine gx_bipush C dX0_degree_68 rfl ?_
    refine gx_callIN C 5 rfl (gd_19 hL) (c_X5_reduce hL b5 l1 hrows (mc_pr_ok b5.1 b7 h9) (N := 9) (by decide)) (⟨va_cnB 1 (gx_hts C) gX0_degree_X5_reduce_n82 rfl rfl rfl ((gx_hN C).2 ("PeirceDesk$Algebra", 82, yX5_reduce, "PeirceDesk") (by decide +kernel)) ((gx_hts C) (.initialized RX5) (by decide +kernel)) (by decide +kernel) ⟨Nat.le_of_ble_eq_true rfl, Nat.le_of_ble_eq_true rfl⟩, (gx_hts C) (.instanceMethod yX5_reduce) (by decide +kernel), (gx_hts C) (.selects RX5 yX5_reduce yX5_reduce) (by decide +kernel)⟩) rfl rfl (Nat.le_of_ble_eq_true rfl) ⟨Nat.le_refl _, Nat.le_refl _⟩ dX0_degree_70 (fun z P4 h4 => ?_)
    obtain ⟨q, q1, q2, q3, rfl, q5, q6, q7⟩ := h4
    have f4 : ∀ c, (c < 19 ∨ 25 ≤ c) → c ≠ 31 → c ≠ 32 → (c < 37 ∨ 41 ≤ c) → P4 c = P c := fun c c1 c2 c3 c4 => by rw [q7 c c1, l3 c c1]; exact f2 c c1 c2 c3 c4
    have s4 : ∀ i, i < k + 2 → mx_of (P4 (37 + 1 * i)) 0 = mc_po m U A V i := fun i hi => by rw [q7 _ (by omega), l3 _ (by omega)]; exact s2 i hi
    refine gx_iload_n C dX0_degree_73 rfl ?_
    refine gx_icmp_gt C dX0_degree_74 rfl (by unfold gx_3; omega) (by unfold gx_3; omega) (fun hb74 => ?_) (fun hb74 => ?_)
    · refine gx_iinc C dX0_degree_79 (by decide) rfl rfl ?_
      refine gx_goto C dX0_degree_82 rfl ?_
      refine gx_weak (L' := [gx_R 13, gx_R a, gx_I (((k + 1 : Nat) : Int) + 1)]) ⟨Or.inr rfl, Or.inr rfl, Or.inr (by rw [Int.natCast_add]; rfl), trivial⟩ (ih P4 ⟨s4, fun j hj => ?_, f4⟩)
      rcases (show j < k ∨ j = k by omega) with g | g
      · exact i2 j g
      · rw [g]
        exact ⟨q.2.2, ⟨q, q1, rfl⟩, by omega⟩
    · refine gx_iload_n C dX0_degree_77 rfl ?_
      exact gx_iret C dX0_degree_78 ⟨Or.inl ⟨k, hk, ⟨q.2.2, ⟨q, q1, rfl⟩, by omega⟩, i2, rfl⟩, f4⟩
  · have e0 : Q 46 0 = n := by rw [hI.2.2 46 (by decide) (by decide) (by decide) (by decide)]; exact b0
    refine gx_iload_n C dX0_degree_15 rfl ?_
    refine gx_aload_n C dX0_degree_16 rfl ?_
    refine gx_getR C 0 _ 10 rfl (gd_13 hL) rfl (by decide) nX0_degree_0 (gx_hts C _ fX0_degree_52) dX0_degree_17 ?_
    refine gx_alen C (gd_36 hL) (by decide) dX0_degree_20 ?_
    refine gx_icmp_ge C dX0_degree_21 rfl (by unfold gx_3; omega) (by unfold gx_3; omega) (fun hb21 => ?_) (fun hb21 => absurd (by omega) hb21)
    refine gx_aload_n C dX0_degree_85 rfl ?_
    refine gx_getR C 0 _ 0 rfl (gd_13 hL) rfl (by decide) nX0_degree_0 (gx_hts C _ fX0_degree_12) dX0_degree_86 ?_
    refine gx_getIN C 6 _ 0 rfl (gd_now hL).1 rfl (by decide) nX0_degree_6 ((gx_hN C).1 ("PeirceDesk$Algebra", 86, "PeirceDesk$State", "size", "I", "PeirceDesk") (by decide +kernel) |> va_Nw.use rfl) dX0_degree_89 e0 ?_
    exact gx_iret C dX0_degree_92 ⟨Or.inr ⟨hI.2.1, rfl⟩, hI.2.2⟩
/-- is of a kind, for the class -/
def mc_kd (m n : Int) (U V : Nat → Int) (w : Int) (C : Nat → Int) : Prop :=
  if w = 1 then ∃ q, rr_run m (rr_ld n C, 1, 0) 3 q ∧ (if (q.2.2 : Int) = n then q.2.1 % m else 0) ≠ 0 else if w = 2 then mc_prod m U C C = fun _ => 0 else mc_prod m U C C = if w = 0 then C else V
set_option maxRecDepth 100000 in
set_option maxHeartbeats 4000000 in
theorem c_X0_isOfKind {La : List gx_K} (hL : gd_H La) {M : gx_M} {n m : Int} {U V A : Nat → Int} (hA : ga_A n m U V M) (eA : mx_of (M 35) 0 = A) (oA : mx_ok m A) {w : Int} (hw : 0 ≤ w ∧ w ≤ 3) : gx_Ci La yX0_isOfKind wsX0_isOfKind 4 [gx_R 13, gx_I w] M (fun z M' => (z = 0 ∨ z = 1) ∧ (z = 1 ↔ mc_kd m n U V w A) ∧ ∀ c, (c < 19 ∨ 25 ≤ c) → c ≠ 31 → c ≠ 32 → c ≠ 33 → M' c = M c) := by
  obtain ⟨b0, b1, b2, b3, b4, b5, b6, b7⟩ := id hA
  refine gx_start_i (L := [gx_R 13, gx_I w]) (by decide) rfl rfl (Nat.le_of_ble_eq_true rfl) rfl ?_
  intro _ _ _ _ _ _ _ _ _ _ _ _ C
  refine gx_iload_n C dX0_isOfKind_0 rfl ?_
  refine gx_iconst C dX0_isOfKind_1 ?_
  refine gx_icmp_ne C dX0_isOfKind_2 rfl (by unfold gx_3; omega) (by unfold gx_3; omega) (fun hb2 => ?_) (fun hb2 => ?_)
  · refine gx_aload_n C dX0_isOfKind_22 rfl ?_
    refine gx_aload_n C dX0_isOfKind_23 rfl ?_
    refine gx_getR C 0 _ 9 rfl (gd_13 hL) rfl (by decide) nX0_isOfKind_0 (gx_hts C _ fX0_isOfKind_49) dX0_isOfKind_24 ?_
    refine gx_aload_n C dX0_isOfKind_27 rfl ?_
    refine gx_getR C 0 _ 9 rfl (gd_13 hL) rfl (by decide) nX0_isOfKind_0 (gx_hts C _ fX0_isOfKind_49) dX0_isOfKind_28 ?_
    refine gx_aload_n C dX0_isOfKind_31 rfl ?_
    refine gx_getR C 0 _ 7 rfl (gd_13 hL) rfl (by decide) nX0_isOfKind_0 (gx_hts C _ fX0_isOfKind_43) dX0_isOfKind_32 ?_
    refine gx_callV C 0 rfl (gd_13 hL) (c_X0_product hL b5 b1 (gd_35 hL) (gd_35 hL) (gd_33 hL) (by decide) (by decide) (by decide) (by rw [eA]; exact oA) (by rw [eA]; exact oA) (by rw [b2]; exact b6)) (cwV 3 (gx_hts C) gX0_isOfKind_X0_product rfl rfl rfl (by decide +kernel) ⟨Nat.le_of_ble_eq_true rfl, Nat.le_of_ble_eq_true rfl⟩) rfl rfl (Nat.le_of_ble_eq_true rfl) ⟨Nat.le_refl _, Nat.le_refl _⟩ dX0_isOfKind_35 (fun P h2 => ?_)
    obtain ⟨p1, p2⟩ := h2
    rw [b2, eA] at p1
    have f : ∀ c, (c < 19 ∨ 25 ≤ c) → c ≠ 31 → c ≠ 32 → c ≠ 33 → P c = M c := fun c _ c2 c3 c4 => p2 c c2 c3 c4
    have o33 : mx_ok m (mx_of (P 33) 0) := by rw [p1]; exact mc_prod_ok b5.1 _ _ _
    refine gx_iload_n C dX0_isOfKind_38 rfl ?_
    refine gx_iconst C dX0_isOfKind_39 ?_
    refine gx_icmp_ne C dX0_isOfKind_40 rfl (by unfold gx_3; omega) (by unfold gx_3; omega) (fun hb40 => ?_) (fun hb40 => ?_)
    · refine gx_aload_n C dX0_isOfKind_51 rfl ?_
      refine gx_getR C 0 _ 7 rfl (gd_13 hL) rfl (by decide) nX0_isOfKind_0 (gx_hts C _ fX0_isOfKind_43) dX0_isOfKind_52 ?_
      refine gx_iload_n C dX0_isOfKind_55 rfl ?_
      refine gx_cut 70 (fun (c : Nat) => [gx_R 13, gx_I w]) (fun c => [gx_R c, gx_R 33]) (fun _ => P) (fun c => (w = 0 ∧ c = 35) ∨ (w = 3 ∧ c = 57)) (fun c hc => ?_) (fun fin => ?_)
      · have h9 : gd_9 La c := by
          rcases hc with ⟨_, rfl⟩ | ⟨_, rfl⟩
          · exact gd_35 hL
          · exact gd_57 hL
        have ec : mx_of (P c) 0 = if w = 0 then A else V := by
          rcases hc with ⟨e, rfl⟩ | ⟨e, rfl⟩
          · rw [p2 35 (by decide) (by decide) (by decide), if_pos e]; exact eA
          · rw [p2 57 (by decide) (by decide) (by decide), if_neg (by omega)]; exact b3
        have oc : mx_ok m (mx_of (P c) 0) := by
          rw [ec]
          split
          · exact oA
          · exact b7
        refine gx_statIN C (c_X7_same (m := m) b5.2 (gd_33 hL) h9 o33 oc) (⟨va_cnB 2 (gx_hts C) gX0_isOfKind_X7_same_n116 rfl rfl rfl ((gx_hN C).2 ("PeirceDesk$Algebra", 116, yX7_same, "PeirceDesk") (by decide +kernel)) ((gx_hts C) (.initialized RX7) (by decide +kernel)) (by decide +kernel) ⟨Nat.le_of_ble_eq_true rfl, Nat.le_of_ble_eq_true rfl⟩, (gx_hts C) (.static yX7_same) (by decide +kernel), trivial⟩) rfl rfl (Nat.le_of_ble_eq_true rfl) ⟨Nat.le_refl _, Nat.le_refl _⟩ dX0_isOfKind_70 (fun z P2 h3 => ?_)
        obtain ⟨rfl, h4, h5⟩ := h3
        rw [p1, ec] at h5
        exact gx_zret C (by omega) dX0_isOfKind_73 ⟨h4, by unfold mc_kd; rw [if_neg (by omega), if_neg (by omega)]; exact h5, f⟩
      · refine gx_if_ne C dX0_isOfKind_56 rfl (by unfold gx_3; omega) (fun hb56 => ?_) (fun hb56 => ?_)
        · refine gx_aload_n C dX0_isOfKind_66 rfl ?_
          refine gx_callR C 0 rfl (gd_13 hL) (c_X0_unit hL) (cwV 0 (gx_hts C) gX0_isOfKind_X0_unit rfl rfl rfl (by decide +kernel) ⟨Nat.le_of_ble_eq_true rfl, Nat.le_of_ble_eq_true rfl⟩) rfl rfl (Nat.le_of_ble_eq_true rfl) ⟨Nat.le_refl _, Nat.le_refl _⟩ dX0_isOfKind_67 (fun u P6 h7 => ?_)
          obtain ⟨rfl, rfl⟩ := h7
          exact fin 57 (Or.inr ⟨by omega, rfl⟩)
        · refine gx_aload_n C dX0_isOfKind_59 rfl ?_
          refine gx_getR C 0 _ 9 rfl (gd_13 hL) rfl (by decide) nX0_isOfKind_0 (gx_hts C _ fX0_isOfKind_49) dX0_isOfKind_60 ?_
          refine gx_goto C dX0_isOfKind_63 rfl ?_
          exact fin 35 (Or.inl ⟨by omega, rfl⟩)
    · refine gx_aload_n C dX0_isOfKind_43 rfl ?_
      refine gx_getR C 0 _ 7 rfl (gd_13 hL) rfl (by decide) nX0_isOfKind_0 (gx_hts C _ fX0_isOfKind_43) dX0_isOfKind_44 ?_
      refine gx_statIN C (c_X7_isZero (m := m) b5.2 (gd_33 hL) o33) (⟨va_cnB 1 (gx_hts C) gX0_isOfKind_X7_isZero_n123 rfl rfl rfl ((gx_hN C).2 ("PeirceDesk$Algebra", 123, yX7_isZero, "PeirceDesk") (by decide +kernel)) ((gx_hts C) (.initialized RX7) (by decide +kernel)) (by decide +kernel) ⟨Nat.le_of_ble_eq_true rfl, Nat.le_of_ble_eq_true rfl⟩, (gx_hts C) (.static yX7_isZero) (by decide +kernel), trivial⟩) rfl rfl (Nat.le_of_ble_eq_true rfl) ⟨Nat.le_refl _, Nat.le_refl _⟩ dX0_isOfKind_47 (fun z P2 h3 => ?_)
      obtain ⟨rfl, h4, h5⟩ := h3
      rw [p1] at h5
      exact gx_zret C (by omega) dX0_isOfKind_50 ⟨h4, by unfold mc_kd; rw [if_neg (by omega), if_pos (by omega)]; exact h5, f⟩
  · refine gx_aload_n C dX0_isOfKind_5 rfl ?_
    refine gx_aload_n C dX0_isOfKind_6 rfl ?_
    refine gx_getR C 0 _ 9 rfl (gd_13 hL) rfl (by decide) nX0_isOfKind_0 (gx_hts C _ fX0_isOfKind_49) dX0_isOfKind_7 ?_
    refine gx_callI C 0 rfl (gd_13 hL) (c_X0_determinant hL b5 b0 b4 b1 (gd_35 hL) (by decide) (by rw [eA]; exact oA)) (cwV 1 (gx_hts C) gX0_isOfKind_X0_determinant rfl rfl rfl (by decide +kernel) ⟨Nat.le_of_ble_eq_true rfl, Nat.le_of_ble_eq_true rfl⟩) rfl rfl (Nat.le_of_ble_eq_true rfl) ⟨Nat.le_refl _, Nat.le_refl _⟩ dX0_isOfKind_10 (fun z P h2 => ?_)
    obtain ⟨q, hD, hz⟩ := h2
    rw [eA] at hD
    have hzb : 0 ≤ z ∧ z < m := by
      have := mx_md (m := m) (by omega) q.2.1
      rw [hz]
      split <;> omega
    have f : ∀ c, (c < 19 ∨ 25 ≤ c) → c ≠ 31 → c ≠ 32 → c ≠ 33 → P c = M c := fun c c1 _ _ _ => hD.2.2.2.2.2 c c1
    have hk : mc_kd m n U V w A ↔ z ≠ 0 := by
      unfold mc_kd
      rw [if_pos (by omega)]
      refine ⟨fun ⟨q2, g1, g2⟩ => ?_, fun h => ⟨q, hD.1, by rw [← hz]; exact h⟩⟩
      rw [rr_run_u 3 q2 q g1 hD.1, ← hz] at g2
      exact g2
    refine gx_if_eq C dX0_isOfKind_13 rfl (by unfold gx_3; omega) (fun hb13 => ?_) (fun hb13 => ?_)
    · refine gx_iconst C dX0_isOfKind_20 ?_
      exact gx_zret C (by omega) dX0_isOfKind_21 ⟨Or.inl rfl, ⟨fun h => absurd h (by decide), fun h => absurd hb13 (hk.mp h)⟩, f⟩
    · refine gx_iconst C dX0_isOfKind_16 ?_
      refine gx_goto C dX0_isOfKind_17 rfl ?_
      exact gx_zret C (by omega) dX0_isOfKind_21 ⟨Or.inr rfl, ⟨fun _ => hk.mpr hb13, fun _ => rfl⟩, f⟩
