/-! the rows brought to their simplest form -/
abbrev rr_S : Type := (Nat → Nat → Int) × Int × Nat
/-- one column -/
def rr_st (m : Int) (q : rr_S) (c : Nat) (q' : rr_S) : Prop :=
  ∃ f, rr_fd q.1 c q.2.2 f ∧ ((f = 4 ∧ q' = q) ∨ (f < 4 ∧ q' = (rr_clr m (rr_one m (rr_ex q.1 f q.2.2) q.2.2 c) q.2.2 c, (if f = q.2.2 then q.2.1 else -q.2.1) * rr_ex q.1 f q.2.2 q.2.2 c % m, q.2.2 + 1)))
def rr_run (m : Int) (q : rr_S) : Nat → rr_S → Prop
  | 0, q' => q' = q
  | k + 1, q' => ∃ p, rr_run m q k p ∧ rr_st m p k q'
theorem rr_st4 {m : Int} {q : rr_S} {c : Nat} (h : q.2.2 = 4) : rr_st m q c q := ⟨4, ⟨by omega, Nat.le_refl _, fun j a b => absurd a (by omega), fun h => absurd h (by omega)⟩, Or.inl ⟨rfl, rfl⟩⟩
theorem rr_run4 {m : Int} {q0 q : rr_S} {k : Nat} (h : q.2.2 = 4) (hr : rr_run m q0 k q) : ∀ j, rr_run m q0 (k + j) q
  | 0 => hr
  | j + 1 => ⟨q, rr_run4 h hr j, rr_st4 h⟩
theorem rr_ex_ok {m : Int} {R : Nat → Nat → Int} (h : rr_ok m R) {a b : Nat} (ha : a < 4) (hb : b < 4) : rr_ok m (rr_ex R a b) := fun i hi => by
  unfold rr_ex
  by_cases e : i = a
  · rw [if_pos e]; exact h b hb
  · rw [if_neg e]
    by_cases e2 : i = b
    · rw [if_pos e2]; exact h a ha
    · rw [if_neg e2]; exact h i hi
theorem rr_one_ok {m : Int} (hm : 3 ≤ m) {R : Nat → Nat → Int} (h : rr_ok m R) {r c : Nat} : rr_ok m (rr_one m R r c) := fun i hi => by
  unfold rr_one
  by_cases e : i = r
  · rw [if_pos e]
    exact ⟨fun k hk => by
      show 0 ≤ (if k < 9 then _ else (0 : Int)) ∧ (if k < 9 then _ else (0 : Int)) < m
      rw [if_pos hk]; exact mx_md hm _, fun k hk => if_neg (by omega)⟩
  · rw [if_neg e]; exact h i hi
theorem rr_clr_ok {m : Int} (hm : 3 ≤ m) {R : Nat → Nat → Int} (h : rr_ok m R) {r c : Nat} (hr : r < 4) : rr_ok m (rr_clr m R r c) := fun i hi => by
  unfold rr_clr
  by_cases e : i = r
  · rw [if_pos e]; exact h r hr
  · rw [if_neg e]
    exact ⟨fun k hk => by
      show 0 ≤ (if k < 9 then _ else (0 : Int)) ∧ (if k < 9 then _ else (0 : Int)) < m
      rw [if_pos hk]; exact mx_md hm _, fun k hk => if_neg (by omega)⟩
set_option maxRecDepth 100000 in
set_option maxHeartbeats 4000000 in
theorem c_X5_reduce {La : List gx_K} (hL : gd_H La) {M : gx_M} {m : Int} (hm : 3 ≤ m ∧ m ≤ 11) {R : Nat → Nat → Int} (h1 : M 19 1 = m) (h3 : ∀ i, i < 4 → rw_of M i = R i) (ok : rr_ok m R) {N : Nat} (hN : N ≤ 9) : gx_Ci La yX5_reduce wsX5_reduce 2 [gx_R 19, gx_I N] M (fun z M' => ∃ q, rr_run m (R, 1, 0) N q ∧ q.2.2 ≤ 4 ∧ rr_ok m q.1 ∧ z = (q.2.2 : Int) ∧ rr_R m (q.1, q.2.1) M' ∧ (-11 ≤ q.2.1 ∧ q.2.1 ≤ 11) ∧ rr_O M M') := by
  refine gx_start_i (L := [gx_R 19, gx_I N, gx_U, gx_U, gx_U]) (by decide) rfl rfl (Nat.le_of_ble_eq_true rfl) rfl ?_
  intro _ _ _ _ _ _ _ _ _ _ _ _ C
  refine gx_aload_n C dX5_reduce_0 rfl ?_
  refine gx_iconst C dX5_reduce_1 ?_
  refine gx_putI C 5 _ 2 rfl (gd_19 hL) rfl (by decide) nX5_reduce_5 tyX5 tyX5_ok nmX5 (gx_hts C _ fX5_reduce_34) rfl rfl dX5_reduce_2 ?_
  refine gx_iconst C dX5_reduce_5 ?_
  refine gx_istore_n C dX5_reduce_6 (by decide) rfl ?_
  refine gx_iconst C dX5_reduce_7 ?_
  refine gx_istore_n C dX5_reduce_8 (by decide) rfl ?_
  have h0 : rr_run m (R, 1, 0) 0 (R, 1, 0) ∧ (0 : Nat) ≤ 4 ∧ rr_ok m R ∧ rr_R m (R, 1) (gx_u M 19 2 1) ∧ (-11 ≤ (1 : Int) ∧ (1 : Int) ≤ 11) ∧ rr_O M (gx_u M 19 2 1) := ⟨rfl, by decide, ok, ⟨by rw [gx_u_ne (by decide)]; exact h1, gx_u_eq _ _ _ _, fun i hi => by
    have : rw_of (gx_u M 19 2 1) i = rw_of M i := by unfold rw_of; rw [gx_u_nc (by omega)]
    rw [this]; exact h3 i hi⟩, by decide, fun c' hc => gx_u_nc (by omega)⟩
  refine gx_for N (fun k (a : gx_M × rr_S) => [gx_R 19, gx_I N, gx_I (a.2.2.2 : Int), gx_I (k : Int), gx_U]) (fun a => a.1) (fun k a => rr_run m (R, 1, 0) k a.2 ∧ a.2.2.2 ≤ 4 ∧ rr_ok m a.2.1 ∧ rr_R m (a.2.1, a.2.2.1) a.1 ∧ (-11 ≤ a.2.2.1 ∧ a.2.2.1 ≤ 11) ∧ rr_O M a.1) 0 (gx_u M 19 2 1, (R, 1, 0)) (by omega) h0 (fun k a hk hI ih => ?_) (fun a hI => ?_)
  · obtain ⟨P, R0, pv, dn⟩ := a
    obtain ⟨i1, i2, i3, i4, i5, i6⟩ := hI
    simp only at i1 i2 i3 i4 i5 i6 ⊢
    refine gx_iload_n C dX5_reduce_9 rfl ?_
    refine gx_iload_n C dX5_reduce_10 rfl ?_
    refine gx_icmp_ge C dX5_reduce_11 rfl (by unfold gx_3; omega) (by unfold gx_3; omega) (fun hb11 => absurd hb11 (by omega)) (fun hb11 => ?_)
    refine gx_iload_n C dX5_reduce_14 rfl ?_
    refine gx_bipush C dX5_reduce_15 rfl ?_
    refine gx_icmp_ge C dX5_reduce_17 rfl (by unfold gx_3; omega) (by unfold gx_3; omega) (fun hb17 => absurd hb17 (by omega)) (fun hb17 => ?_)
    refine gx_iload_n C dX5_reduce_20 rfl ?_
    refine gx_aload_n C dX5_reduce_21 rfl ?_
    refine gx_getR C 5 _ 0 rfl (gd_19 hL) rfl (by decide) nX5_reduce_5 (gx_hts C _ fX5_reduce_11) dX5_reduce_22 ?_
    refine gx_alen C (gd_20 hL) (by decide) dX5_reduce_25 ?_
    refine gx_icmp_ge C dX5_reduce_26 rfl (by unfold gx_3; omega) (by unfold gx_3; omega) (fun hb26 => ?_) (fun hb26 => ?_)
    · have hd : dn = 4 := by omega
      refine gx_iload_n C dX5_reduce_72 rfl ?_
      exact gx_iret C dX5_reduce_73 ⟨(R0, pv, dn), by have := rr_run4 (q := (R0, pv, dn)) hd i1 (N - k); rwa [show k + (N - k) = N by omega] at this, i2, i3, rfl, i4, i5, i6⟩
    · refine gx_aload_n C dX5_reduce_29 rfl ?_
      refine gx_iload_n C dX5_reduce_30 rfl ?_
      refine gx_iload_n C dX5_reduce_31 rfl ?_
      refine gx_callI C 5 rfl (gd_19 hL) (c_X5_pivotRow hL (by omega) i4 i3 (c := k) (a := dn) (by omega) (by omega)) (cwV 2 (gx_hts C) gX5_reduce_X5_pivotRow rfl rfl rfl (by decide +kernel) ⟨Nat.le_of_ble_eq_true rfl, Nat.le_of_ble_eq_true rfl⟩) rfl rfl (Nat.le_of_ble_eq_true rfl) ⟨Nat.le_refl _, Nat.le_refl _⟩ dX5_reduce_32 (fun z P1 hz => ?_)
      obtain ⟨rfl, f, hf, rfl⟩ := hz
      refine gx_istore C dX5_reduce_35 (by decide) rfl ?_
      refine gx_iload C dX5_reduce_37 rfl ?_
      refine gx_bipush C dX5_reduce_39 rfl ?_
      by_cases f4 : f = 4
      · rw [if_pos f4]
        refine gx_icmp_eq C dX5_reduce_41 rfl (by unfold gx_3; omega) (by unfold gx_3; omega) (fun hb41 => ?_) (fun hb41 => absurd (by omega) hb41)
        refine gx_iinc C dX5_reduce_66 (by decide) rfl rfl ?_
        refine gx_goto C dX5_reduce_69 rfl ?_
        exact gx_weak (L' := [gx_R 19, gx_I N, gx_I (dn : Int), gx_I ((k + 1 : Nat) : Int), gx_U]) ⟨Or.inr rfl, Or.inr rfl, Or.inr rfl, Or.inr rfl, Or.inl rfl, trivial⟩ (ih (P1, R0, pv, dn) ⟨⟨_, i1, f, hf, Or.inl ⟨f4, rfl⟩⟩, i2, i3, i4, i5, i6⟩)
      · have hf4 : f < 4 := by have := hf.2.1; omega
        have hd4 : dn < 4 := by have := hf.1; omega
        rw [if_neg f4]
        refine gx_icmp_eq C dX5_reduce_41 rfl (by unfold gx_3; omega) (by unfold gx_3; omega) (fun hb41 => absurd hb41 (by omega)) (fun hb41 => ?_)
        refine gx_aload_n C dX5_reduce_44 rfl ?_
        refine gx_iload C dX5_reduce_45 rfl ?_
        refine gx_iload_n C dX5_reduce_47 rfl ?_
        refine gx_callV C 5 rfl (gd_19 hL) (c_X5_exchange hL i4 i3 (a := f) (b := dn) hf4 hd4) (cwV 2 (gx_hts C) gX5_reduce_X5_exchange rfl rfl rfl (by decide +kernel) ⟨Nat.le_of_ble_eq_true rfl, Nat.le_of_ble_eq_true rfl⟩) rfl rfl (Nat.le_of_ble_eq_true rfl) ⟨Nat.le_refl _, Nat.le_refl _⟩ dX5_reduce_48 (fun P2 h2 => ?_)
        obtain ⟨g1, g2⟩ := h2
        have ok1 := rr_ex_ok i3 (a := f) (b := dn) hf4 hd4
        refine gx_aload_n C dX5_reduce_51 rfl ?_
        refine gx_iload_n C dX5_reduce_52 rfl ?_
        refine gx_iload_n C dX5_reduce_53 rfl ?_
        refine gx_callV C 5 rfl (gd_19 hL) (c_X5_makePivotOne hL hm g1 ok1 (show -11 ≤ (if f = dn then pv else -pv) ∧ (if f = dn then pv else -pv) ≤ 11 by split <;> omega) hd4 (c := k) (by omega)) (cwV 2 (gx_hts C) gX5_reduce_X5_makePivotOne rfl rfl rfl (by decide +kernel) ⟨Nat.le_of_ble_eq_true rfl, Nat.le_of_ble_eq_true rfl⟩) rfl rfl (Nat.le_of_ble_eq_true rfl) ⟨Nat.le_refl _, Nat.le_refl _⟩ dX5_reduce_54 (fun P3 h3 => ?_)
        obtain ⟨g3, g4⟩ := h3
        have ok2 := rr_one_ok hm.1 ok1 (r := dn) (c := k)
        refine gx_aload_n C dX5_reduce_57 rfl ?_
        refine gx_iload_n C dX5_reduce_58 rfl ?_
        refine gx_iload_n C dX5_reduce_59 rfl ?_
        refine gx_callV C 5 rfl (gd_19 hL) (c_X5_clearColumn hL hm g3 ok2 hd4 (c := k) (by omega)) (cwV 2 (gx_hts C) gX5_reduce_X5_clearColumn rfl rfl rfl (by decide +kernel) ⟨Nat.le_of_ble_eq_true rfl, Nat.le_of_ble_eq_true rfl⟩) rfl rfl (Nat.le_of_ble_eq_true rfl) ⟨Nat.le_refl _, Nat.le_refl _⟩ dX5_reduce_60 (fun P4 h4 => ?_)
        obtain ⟨g5, g6⟩ := h4
        have ok3 := rr_clr_ok hm.1 ok2 (r := dn) (c := k) hd4
        have hmd := mx_md (m := m) (by omega) ((if f = dn then pv else -pv) * rr_ex R0 f dn dn k)
        have hb : -11 ≤ (if f = dn then pv else -pv) * rr_ex R0 f dn dn k % m ∧ (if f = dn then pv else -pv) * rr_ex R0 f dn dn k % m ≤ 11 := by omega
        refine gx_iinc C dX5_reduce_63 (by decide) rfl rfl ?_
        refine gx_iinc C dX5_reduce_66 (by decide) rfl rfl ?_
        refine gx_goto C dX5_reduce_69 rfl ?_
        exact gx_weak (L' := [gx_R 19, gx_I N, gx_I ((dn + 1 : Nat) : Int), gx_I ((k + 1 : Nat) : Int), gx_U]) ⟨Or.inr rfl, Or.inr rfl, Or.inr rfl, Or.inr rfl, Or.inl rfl, trivial⟩ (ih (P4, rr_clr m (rr_one m (rr_ex R0 f dn) dn k) dn k, (if f = dn then pv else -pv) * rr_ex R0 f dn dn k % m, dn + 1) ⟨⟨_, i1, f, hf, Or.inr ⟨hf4, rfl⟩⟩, hd4, ok3, g5, hb, rr_Ot i6 (rr_Ot g2 (rr_Ot g4 g6))⟩)
  · obtain ⟨P, R0, pv, dn⟩ := a
    obtain ⟨i1, i2, i3, i4, i5, i6⟩ := hI
    simp only at i1 i2 i3 i4 i5 i6 ⊢
    refine gx_iload_n C dX5_reduce_9 rfl ?_
    refine gx_iload_n C dX5_reduce_10 rfl ?_
    refine gx_icmp_ge C dX5_reduce_11 rfl (by unfold gx_3; omega) (by unfold gx_3; omega) (fun hb11 => ?_) (fun hb11 => absurd (by omega) hb11)
    refine gx_iload_n C dX5_reduce_72 rfl ?_
    exact gx_iret C dX5_reduce_73 ⟨(R0, pv, dn), i1, i2, i3, rfl, i4, i5, i6⟩
set_option maxRecDepth 100000 in
set_option maxHeartbeats 4000000 in
theorem c_X5_loadAll {La : List gx_K} (hL : gd_H La) {M : gx_M} {m N : Int} (hN : 0 ≤ N ∧ N ≤ 100) : gx_Cv La yX5_loadAll wsX5_loadAll 2 [gx_R 19, gx_R 36, gx_I N, gx_I m] M (fun M' => M' 19 1 = m ∧ (∀ i, i < 4 → rw_of M' i = if (i : Int) < N then mx_of (M (37 + 1 * i)) 0 else fun _ => 0) ∧ rr_O M M') := by
  refine gx_start_v (L := [gx_R 19, gx_R 36, gx_I N, gx_I m, gx_U]) (by decide) rfl rfl (Nat.le_of_ble_eq_true rfl) rfl ?_
  intro _ _ _ _ _ _ _ _ _ _ _ _ C
  refine gx_aload_n C dX5_loadAll_0 rfl ?_
  refine gx_iload_n C dX5_loadAll_1 rfl ?_
  refine gx_putI C 5 _ 1 rfl (gd_19 hL) rfl (by decide) nX5_loadAll_5 tyX5 tyX5_ok nmX5 (gx_hts C _ fX5_loadAll_22) rfl rfl dX5_loadAll_2 ?_
  refine gx_iconst C dX5_loadAll_5 ?_
  refine gx_istore C dX5_loadAll_6 (by decide) rfl ?_
  refine gx_for 4 (fun k (_ : gx_M) => [gx_R 19, gx_R 36, gx_I N, gx_I m, gx_I (k : Int)]) (fun P => P) (fun k P => P 19 1 = m ∧ (∀ i, i < k → rw_of P i = if (i : Int) < N then mx_of (M (37 + 1 * i)) 0 else fun _ => 0) ∧ rr_O M P) 0 _ (by omega) ⟨gx_u_eq _ _ _ _, fun i hi => absurd hi (Nat.not_lt_zero i), fun c' hc => gx_u_nc (by omega)⟩ (fun k P hk hI ih => ?_) (fun P hI => ?_)
  · obtain ⟨i1, i2, i3⟩ := hI
    have hrow := gd_r hL hk
    have hpw : gd_9 La (37 + 1 * k) := by
      have := gd_pw hL k hk
      rwa [show 37 + k = 37 + 1 * k by omega] at this
    refine gx_iload C dX5_loadAll_8 rfl ?_
    refine gx_aload_n C dX5_loadAll_10 rfl ?_
    refine gx_getR C 5 _ 0 rfl (gd_19 hL) rfl (by decide) nX5_loadAll_5 (gx_hts C _ fX5_loadAll_11) dX5_loadAll_11 ?_
    refine gx_alen C (gd_20 hL) (by decide) dX5_loadAll_14 ?_
    refine gx_icmp_ge C dX5_loadAll_15 rfl (by unfold gx_3; omega) (by unfold gx_3; omega) (fun hb15 => absurd hb15 (by omega)) (fun hb15 => ?_)
    refine gx_aload_n C dX5_loadAll_18 rfl ?_
    refine gx_iload C dX5_loadAll_19 rfl ?_
    refine gx_callV C 5 rfl (gd_19 hL) (c_X5_clearRow hL (r := k) rfl hk) (cwV 1 (gx_hts C) gX5_loadAll_X5_clearRow rfl rfl rfl (by decide +kernel) ⟨Nat.le_of_ble_eq_true rfl, Nat.le_of_ble_eq_true rfl⟩) rfl rfl (Nat.le_of_ble_eq_true rfl) ⟨Nat.le_refl _, Nat.le_refl _⟩ dX5_loadAll_21 (fun P1 h1 => ?_)
    have hstep : ∀ (f : Nat → Int) (P2 : gx_M), (∀ j, 9 ≤ j → f j = 0) → P2 = rw_set P k f → f = (if (k : Int) < N then mx_of (M (37 + 1 * k)) 0 else fun _ => 0) → P2 19 1 = m ∧ (∀ i, i < k + 1 → rw_of P2 i = if (i : Int) < N then mx_of (M (37 + 1 * i)) 0 else fun _ => 0) ∧ rr_O M P2 := fun f P2 h9 e1 e2 => by
      refine ⟨by rw [e1]; unfold rw_set; rw [gx_blk_nc (by omega)]; exact i1, fun i hi => ?_, by rw [e1]; exact rr_Ot i3 (rr_O1 hk)⟩
      rw [e1]
      by_cases e : i = k
      · rw [e, rw_set_eq h9, e2]
      · rw [rw_set_ne e]
        exact i2 i (by omega)
    refine gx_iload C dX5_loadAll_24 rfl ?_
    refine gx_iload_n C dX5_loadAll_26 rfl ?_
    refine gx_icmp_ge C dX5_loadAll_27 rfl (by unfold gx_3; omega) (by unfold gx_3; omega) (fun hb27 => ?_) (fun hb27 => ?_)
    · refine gx_iinc C dX5_loadAll_51 (by decide) rfl rfl ?_
      refine gx_goto C dX5_loadAll_54 rfl ?_
      exact ih _ (hstep _ P1 (fun _ _ => rfl) h1 (by rw [if_neg (by omega)]))
    · refine gx_iload C dX5_loadAll_30 rfl ?_
      refine gx_aload_n C dX5_loadAll_32 rfl ?_
      refine gx_alen C (gd_36 hL) (by decide) dX5_loadAll_33 ?_
      refine gx_icmp_ge C dX5_loadAll_34 rfl (by unfold gx_3; omega) (by unfold gx_3; omega) (fun hb34 => absurd hb34 (by omega)) (fun hb34 => ?_)
      refine gx_aload_n C dX5_loadAll_37 rfl ?_
      refine gx_iload C dX5_loadAll_38 rfl ?_
      refine gx_aaload C (gd_36 hL) (by decide) (by omega) dX5_loadAll_40 (show _ = 37 + 1 * k from rfl) ?_
      refine gx_aload_n C dX5_loadAll_41 rfl ?_
      refine gx_getR C 5 _ 0 rfl (gd_19 hL) rfl (by decide) nX5_loadAll_5 (gx_hts C _ fX5_loadAll_11) dX5_loadAll_42 ?_
      refine gx_iload C dX5_loadAll_45 rfl ?_
      refine gx_aaload C (gd_20 hL) (by decide) (by omega) dX5_loadAll_47 (show _ = 21 + 1 * k from rfl) ?_
      refine gx_statVN C (c_X7_copy hpw hrow) (⟨va_cnB 2 (gx_hts C) gX5_loadAll_X7_copy_n30 rfl rfl rfl ((gx_hN C).2 ("PeirceDesk$Rows", 30, yX7_copy, "PeirceDesk") (by decide +kernel)) ((gx_hts C) (.initialized RX7) (by decide +kernel)) (by decide +kernel) ⟨Nat.le_of_ble_eq_true rfl, Nat.le_of_ble_eq_true rfl⟩, (gx_hts C) (.static yX7_copy) (by decide +kernel), trivial⟩) rfl rfl (Nat.le_of_ble_eq_true rfl) ⟨Nat.le_refl _, Nat.le_refl _⟩ dX5_loadAll_48 (fun P2 h2 => ?_)
      refine gx_iinc C dX5_loadAll_51 (by decide) rfl rfl ?_
      refine gx_goto C dX5_loadAll_54 rfl ?_
      have e1 : mx_of (P1 (37 + 1 * k)) 0 = mx_of (M (37 + 1 * k)) 0 := by
        rw [h1]
        unfold rw_set
        rw [gx_blk_nc (by omega), i3 _ (by omega)]
      refine ih _ (hstep (mx_of (M (37 + 1 * k)) 0) P2 (fun j hj => if_neg (by omega)) ?_ (by rw [if_pos (by omega)]))
      rw [h2, e1, h1]
      exact gx_blk_blk
  · refine gx_iload C dX5_loadAll_8 rfl ?_
    refine gx_aload_n C dX5_loadAll_10 rfl ?_
    refine gx_getR C 5 _ 0 rfl (gd_19 hL) rfl (by decide) nX5_loadAll_5 (gx_hts C _ fX5_loadAll_11) dX5_loadAll_11 ?_
    refine gx_alen C (gd_20 hL) (by decide) dX5_loadAll_14 ?_
    refine gx_icmp_ge C dX5_loadAll_15 rfl (by unfold gx_3; omega) (by unfold gx_3; omega) (fun hb15 => ?_) (fun hb15 => absurd (by omega) hb15)
    exact gx_vret C dX5_loadAll_57 hI
