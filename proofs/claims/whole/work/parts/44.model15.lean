/-! READING A TEXT: a machine of depth, what is wanted, kinds of text; the stop, whether it works; letters, sums, factors, places by depth; the sums' values, the left side -/
abbrev pm_S : Type := (Nat × Nat × Int × Int) × (Int × Int) × ((Nat → Int) × (Nat → Nat) × (Nat → Int) × (Nat → Nat)) × ((Nat → Nat → Nat → Int) × (Nat → Int))
abbrev pm_d (t : pm_S) : Nat := t.1.1
abbrev pm_w (t : pm_S) : Nat := t.1.2.1
abbrev pm_f (t : pm_S) : Int := t.1.2.2.1
abbrev pm_e (t : pm_S) : Int := t.1.2.2.2
abbrev pm_stop (t : pm_S) : Int := t.2.1.1
abbrev pm_on (t : pm_S) : Int := t.2.1.2
abbrev pm_let (t : pm_S) : Nat → Int := t.2.2.1.1
abbrev pm_sm (t : pm_S) : Nat → Nat := t.2.2.1.2.1
abbrev pm_of (t : pm_S) : Nat → Int := t.2.2.1.2.2.1
abbrev pm_pl (t : pm_S) : Nat → Nat := t.2.2.1.2.2.2
abbrev pm_P (t : pm_S) : Nat → Nat → Nat → Int := t.2.2.2.1
abbrev pm_L (t : pm_S) : Nat → Int := t.2.2.2.2
/-- f, but v at i -/
def fn_up {α : Type} (f : Nat → α) (i : Nat) (v : α) : Nat → α := fun j => if j = i then v else f j
theorem fn_up_eq {α : Type} (f : Nat → α) (i : Nat) (v : α) : fn_up f i v i = v := if_pos rfl
theorem fn_up_ne {α : Type} {f : Nat → α} {i j : Nat} {v : α} (h : j ≠ i) : fn_up f i v j = f j := if_neg h
abbrev pm_one (c : Int) : Prop := (65 ≤ c ∧ c ≤ 72) ∨ c = 105
abbrev pm_ltr (c : Int) : Prop := c = 112 ∨ c = 117 ∨ c = 116 ∨ c = 118
def pm_arg (c : Int) : Nat := if c = 116 then 3 else if c = 112 ∨ c = 117 then 2 else 1
theorem pm_arg_b (c : Int) : 1 ≤ pm_arg c ∧ pm_arg c ≤ 3 := by
  unfold pm_arg
  split
  · omega
  · split <;> omega
/-- a factor's value comes to the sum at hand -/
def pm_cnt (m : Int) (t : pm_S) (v : Nat → Int) : pm_S :=
  ((pm_d t, 4, pm_f t, pm_e t), t.2.1, t.2.2.1, (if pm_on t = 1 then fn_up (pm_P t) (pm_d t) (fn_up (pm_P t (pm_d t)) (pm_sm t (pm_d t)) (mx_lin m (pm_P t (pm_d t) (pm_sm t (pm_d t))) 1 v (pm_of t (pm_d t)))) else pm_P t, pm_L t))
/-- a bracket begins -/
def pm_opn (t : pm_S) (c : Int) (k w : Nat) : pm_S :=
  ((pm_d t + 1, w, pm_f t, pm_e t), t.2.1, (fn_up (pm_let t) (pm_d t + 1) c, fn_up (pm_sm t) (pm_d t + 1) 0, fn_up (pm_of t) (pm_d t + 1) 1, fn_up (pm_pl t) (pm_d t + 1) k), (fn_up (pm_P t) (pm_d t + 1) (fn_up (pm_P t (pm_d t + 1)) 0 (fun _ => 0)), pm_L t))
/-- what the bracket at hand gives -/
def pm_val (s : sp_S) (t : pm_S) : Nat → Int :=
  if pm_let t (pm_d t) = 112 then zs_prod s (pm_P t (pm_d t) 0) (pm_P t (pm_d t) (pm_sm t (pm_d t)))
  else if pm_let t (pm_d t) = 117 then zs_oper s (pm_P t (pm_d t) 0) (pm_P t (pm_d t) (pm_sm t (pm_d t)))
  else if pm_let t (pm_d t) = 116 then mx_trip (zs_nn s) (s.1 82) (zs_el s.1 8) (pm_P t (pm_d t) 0) (pm_P t (pm_d t) 1) (pm_P t (pm_d t) (pm_sm t (pm_d t)))
  else if pm_let t (pm_d t) = 118 then mx_mul (zs_nn s) (s.1 82) (mx_mul (zs_nn s) (s.1 82) (zs_el s.1 9) (mx_inv (zs_nn s) (s.1 82) (pm_P t (pm_d t) (pm_sm t (pm_d t))))) (zs_el s.1 9)
  else pm_P t (pm_d t) (pm_sm t (pm_d t))
/-- a bracket ends -/
def pm_cls (s : sp_S) (t : pm_S) : pm_S :=
  pm_cnt (s.1 82) ((pm_d t - 1, pm_w t, pm_f t, pm_e t), (if pm_on t = 1 ∧ pm_let t (pm_d t) = 118 ∧ mx_det (zs_nn s) (s.1 82) (pm_P t (pm_d t) (pm_sm t (pm_d t))) = 0 then ((pm_pl t (pm_d t) : Int), 0) else t.2.1), t.2.2) (pm_val s t)
/-- the machine in the reference's numbers -/
def pr_R (m : Int) (t : pm_S) (M : gx_M) : Prop :=
  M 0 14 = pm_d t ∧ M 0 15 = pm_w t ∧ (M 0 16 = pm_f t ∧ M 0 17 = pm_e t ∧ (pm_f t = 0 ∨ pm_f t = 1) ∧ (pm_e t = 0 ∨ pm_e t = 1)) ∧ (M 0 18 = pm_stop t ∧ M 0 19 = pm_on t ∧ (pm_on t = 0 ∨ pm_on t = 1) ∧ gx_3 (pm_stop t)) ∧
  (∀ i, 1 ≤ i → i ≤ pm_d t → M 8 i = pm_let t i ∧ M 11 i = pm_pl t i ∧ gx_3 (pm_let t i) ∧ pm_pl t i < 60 ∧ pm_sm t i < pm_arg (pm_let t i)) ∧
  (∀ i, i ≤ pm_d t → M 9 i = pm_sm t i ∧ M 10 i = pm_of t i ∧ (pm_sm t i ≤ 2 ∧ -9 ≤ pm_of t i ∧ pm_of t i ≤ 9) ∧ ∀ k, k ≤ pm_sm t i → mx_of (M 6) (144 + 27 * i + 9 * k) = pm_P t i k ∧ mx_ok m (pm_P t i k)) ∧
  ((pm_f t = 1 ∨ pm_e t = 1) → mx_of (M 6) 126 = pm_L t ∧ mx_ok m (pm_L t)) ∧ pm_sm t 0 = 0 ∧ (pm_w t = 0 ∨ pm_w t = 3 → pm_of t (pm_d t) = 1 ∨ pm_of t (pm_d t) = -1)
set_option maxRecDepth 100000 in
set_option maxHeartbeats 4000000 in
theorem c_X8_isOne {La : List gx_K} {M : gx_M} {c : Int} (hc : gx_3 c) : gx_Ci La yX8_isOne wsX8_isOne 0 [gx_I c] M (fun z M' => M' = M ∧ (z = 0 ∨ z = 1) ∧ (z = 1 ↔ pm_one c)) := by
  refine gx_start_i (L := [gx_I c]) (by decide) rfl rfl (Nat.le_of_ble_eq_true rfl) rfl ?_
  intro _ _ _ _ _ _ _ _ _ _ _ _ C
  refine gx_iload_n C dX8_isOne_0 rfl ?_
  refine gx_bipush C dX8_isOne_1 rfl ?_
  refine gx_icmp_lt C dX8_isOne_3 rfl hc (by unfold gx_3; omega) (fun hb3 => ?_) (fun hb3 => ?_)
  · refine gx_iload_n C dX8_isOne_12 rfl ?_
    refine gx_bipush C dX8_isOne_13 rfl ?_
    refine gx_icmp_ne C dX8_isOne_15 rfl hc (by unfold gx_3; omega) (fun hb15 => ?_) (fun hb15 => ?_)
    · refine gx_iconst C dX8_isOne_22 ?_
      exact gx_zret C (by omega) dX8_isOne_23 ⟨rfl, Or.inl rfl, by unfold pm_one; omega⟩
    · refine gx_iconst C dX8_isOne_18 ?_
      refine gx_goto C dX8_isOne_19 rfl ?_
      exact gx_zret C (by omega) dX8_isOne_23 ⟨rfl, Or.inr rfl, by unfold pm_one; omega⟩
  · refine gx_iload_n C dX8_isOne_6 rfl ?_
    refine gx_bipush C dX8_isOne_7 rfl ?_
    refine gx_icmp_le C dX8_isOne_9 rfl hc (by unfold gx_3; omega) (fun hb9 => ?_) (fun hb9 => ?_)
    · refine gx_iconst C dX8_isOne_18 ?_
      refine gx_goto C dX8_isOne_19 rfl ?_
      exact gx_zret C (by omega) dX8_isOne_23 ⟨rfl, Or.inr rfl, by unfold pm_one; omega⟩
    · refine gx_iload_n C dX8_isOne_12 rfl ?_
      refine gx_bipush C dX8_isOne_13 rfl ?_
      refine gx_icmp_ne C dX8_isOne_15 rfl hc (by unfold gx_3; omega) (fun hb15 => ?_) (fun hb15 => ?_)
      · refine gx_iconst C dX8_isOne_22 ?_
        exact gx_zret C (by omega) dX8_isOne_23 ⟨rfl, Or.inl rfl, by unfold pm_one; omega⟩
      · refine gx_iconst C dX8_isOne_18 ?_
        refine gx_goto C dX8_isOne_19 rfl ?_
        exact gx_zret C (by omega) dX8_isOne_23 ⟨rfl, Or.inr rfl, by unfold pm_one; omega⟩
set_option maxRecDepth 100000 in
set_option maxHeartbeats 4000000 in
theorem c_X8_isLetter {La : List gx_K} {M : gx_M} {c : Int} (hc : gx_3 c) : gx_Ci La yX8_isLetter wsX8_isLetter 0 [gx_I c] M (fun z M' => M' = M ∧ (z = 0 ∨ z = 1) ∧ (z = 1 ↔ pm_ltr c)) := by
  refine gx_start_i (L := [gx_I c]) (by decide) rfl rfl (Nat.le_of_ble_eq_true rfl) rfl ?_
  intro _ _ _ _ _ _ _ _ _ _ _ _ C
  refine gx_iload_n C dX8_isLetter_0 rfl ?_
  refine gx_bipush C dX8_isLetter_1 rfl ?_
  refine gx_icmp_eq C dX8_isLetter_3 rfl hc (by unfold gx_3; omega) (fun hb3 => ?_) (fun hb3 => ?_)
  · refine gx_iconst C dX8_isLetter_24 ?_
    refine gx_goto C dX8_isLetter_25 rfl ?_
    exact gx_zret C (by omega) dX8_isLetter_29 ⟨rfl, Or.inr rfl, by unfold pm_ltr; omega⟩
  · refine gx_iload_n C dX8_isLetter_6 rfl ?_
    refine gx_bipush C dX8_isLetter_7 rfl ?_
    refine gx_icmp_eq C dX8_isLetter_9 rfl hc (by unfold gx_3; omega) (fun hb9 => ?_) (fun hb9 => ?_)
    · refine gx_iconst C dX8_isLetter_24 ?_
      refine gx_goto C dX8_isLetter_25 rfl ?_
      exact gx_zret C (by omega) dX8_isLetter_29 ⟨rfl, Or.inr rfl, by unfold pm_ltr; omega⟩
    · refine gx_iload_n C dX8_isLetter_12 rfl ?_
      refine gx_bipush C dX8_isLetter_13 rfl ?_
      refine gx_icmp_eq C dX8_isLetter_15 rfl hc (by unfold gx_3; omega) (fun hb15 => ?_) (fun hb15 => ?_)
      · refine gx_iconst C dX8_isLetter_24 ?_
        refine gx_goto C dX8_isLetter_25 rfl ?_
        exact gx_zret C (by omega) dX8_isLetter_29 ⟨rfl, Or.inr rfl, by unfold pm_ltr; omega⟩
      · refine gx_iload_n C dX8_isLetter_18 rfl ?_
        refine gx_bipush C dX8_isLetter_19 rfl ?_
        refine gx_icmp_ne C dX8_isLetter_21 rfl hc (by unfold gx_3; omega) (fun hb21 => ?_) (fun hb21 => ?_)
        · refine gx_iconst C dX8_isLetter_28 ?_
          exact gx_zret C (by omega) dX8_isLetter_29 ⟨rfl, Or.inl rfl, by unfold pm_ltr; omega⟩
        · refine gx_iconst C dX8_isLetter_24 ?_
          refine gx_goto C dX8_isLetter_25 rfl ?_
          exact gx_zret C (by omega) dX8_isLetter_29 ⟨rfl, Or.inr rfl, by unfold pm_ltr; omega⟩
set_option maxRecDepth 100000 in
set_option maxHeartbeats 4000000 in
theorem c_X8_sumsOf {La : List gx_K} {M : gx_M} {c : Int} (hc : gx_3 c) : gx_Ci La yX8_sumsOf wsX8_sumsOf 0 [gx_R 0, gx_I c] M (fun z M' => M' = M ∧ z = pm_arg c) := by
  refine gx_start_i (L := [gx_R 0, gx_I c]) (by decide) rfl rfl (Nat.le_of_ble_eq_true rfl) rfl ?_
  intro _ _ _ _ _ _ _ _ _ _ _ _ C
  refine gx_iload_n C dX8_sumsOf_0 rfl ?_
  refine gx_bipush C dX8_sumsOf_1 rfl ?_
  refine gx_icmp_ne C dX8_sumsOf_3 rfl hc (by unfold gx_3; omega) (fun hb3 => ?_) (fun hb3 => ?_)
  · refine gx_iload_n C dX8_sumsOf_10 rfl ?_
    refine gx_bipush C dX8_sumsOf_11 rfl ?_
    refine gx_icmp_eq C dX8_sumsOf_13 rfl hc (by unfold gx_3; omega) (fun hb13 => ?_) (fun hb13 => ?_)
    · refine gx_iconst C dX8_sumsOf_22 ?_
      refine gx_goto C dX8_sumsOf_23 rfl ?_
      exact gx_iret C dX8_sumsOf_27 ⟨rfl, by unfold pm_arg; rw [if_neg hb3, if_pos (Or.inl hb13)]; rfl⟩
    · refine gx_iload_n C dX8_sumsOf_16 rfl ?_
      refine gx_bipush C dX8_sumsOf_17 rfl ?_
      refine gx_icmp_ne C dX8_sumsOf_19 rfl hc (by unfold gx_3; omega) (fun hb19 => ?_) (fun hb19 => ?_)
      · refine gx_iconst C dX8_sumsOf_26 ?_
        exact gx_iret C dX8_sumsOf_27 ⟨rfl, by unfold pm_arg; rw [if_neg hb3, if_neg (by omega)]; rfl⟩
      · refine gx_iconst C dX8_sumsOf_22 ?_
        refine gx_goto C dX8_sumsOf_23 rfl ?_
        exact gx_iret C dX8_sumsOf_27 ⟨rfl, by unfold pm_arg; rw [if_neg hb3, if_pos (by omega)]; rfl⟩
  · refine gx_iconst C dX8_sumsOf_6 ?_
    refine gx_goto C dX8_sumsOf_7 rfl ?_
    exact gx_iret C dX8_sumsOf_27 ⟨rfl, by unfold pm_arg; rw [if_pos (by omega)]; rfl⟩
set_option maxRecDepth 100000 in
set_option maxHeartbeats 4000000 in
theorem c_X8_pileOf {La : List gx_K} {M : gx_M} {d k : Nat} {x y : Int} (hx : x = d) (hy : y = k) : gx_Ci La yX8_pileOf wsX8_pileOf 0 [gx_R 0, gx_I x, gx_I y] M (fun z M' => M' = M ∧ z = ((144 + 27 * d + 9 * k : Nat) : Int)) := by
  subst hx hy
  refine gx_start_i (L := [gx_R 0, gx_I (d : Int), gx_I (k : Int)]) (by decide) rfl rfl (Nat.le_of_ble_eq_true rfl) rfl ?_
  intro _ _ _ _ _ _ _ _ _ _ _ _ C
  refine gx_sipush C dX8_pileOf_0 rfl ?_
  refine gx_bipush C dX8_pileOf_3 rfl ?_
  refine gx_iload_n C dX8_pileOf_5 rfl ?_
  refine gx_imul C dX8_pileOf_6 ?_
  refine gx_iadd C dX8_pileOf_7 ?_
  refine gx_bipush C dX8_pileOf_8 rfl ?_
  refine gx_iload_n C dX8_pileOf_10 rfl ?_
  refine gx_imul C dX8_pileOf_11 ?_
  refine gx_iadd C dX8_pileOf_12 ?_
  exact gx_iret C dX8_pileOf_13 ⟨rfl, by omega⟩
/-- the reading's own numbers have changed alone -/
def pr_X (M M' : gx_M) : Prop := gm_X M M' ∧ M' 7 = M 7
theorem pr_Rb {m : Int} {t : pm_S} {M : gx_M} {o : Nat} {f : Nat → Int} (h : pr_R m t M) (ho : o + 9 ≤ 126 ∨ o = 135) : pr_R m t (gx_blk M 6 o 9 f) := by
  obtain ⟨h1, h2, h3, h4, h5, h6, h7, h8, h9⟩ := h
  have f0 : ∀ c, c ≠ 6 → gx_blk M 6 o 9 f c = M c := fun c hc => gx_blk_nc hc
  refine ⟨by rw [f0 0 (by decide)]; exact h1, by rw [f0 0 (by decide)]; exact h2, by rw [f0 0 (by decide)]; exact h3, by rw [f0 0 (by decide)]; exact h4, fun i a b => by rw [f0 8 (by decide), f0 11 (by decide)]; exact h5 i a b, fun i a => ?_, fun a => ?_, h8, h9⟩
  · rw [f0 9 (by decide), f0 10 (by decide)]
    obtain ⟨q1, q2, q3, q4⟩ := h6 i a
    exact ⟨q1, q2, q3, fun k hk => by rw [mx_of_blo (by omega)]; exact q4 k hk⟩
  · rw [mx_of_blo (by omega)]
    exact h7 a
theorem pr_RE {m : Int} {S : Nat → Prop} {t : pm_S} {M M' : gx_M} (h : pr_R m t M) (hE : gm_E S M M') (hS : ∀ j, S j → j < 126 ∨ (135 ≤ j ∧ j < 144)) : pr_R m t M' := by
  obtain ⟨h1, h2, h3, h4, h5, h6, h7, h8, h9⟩ := h
  have f0 := hE.1
  refine ⟨by rw [f0 0 (by decide)]; exact h1, by rw [f0 0 (by decide)]; exact h2, by rw [f0 0 (by decide)]; exact h3, by rw [f0 0 (by decide)]; exact h4, fun i a b => by rw [f0 8 (by decide), f0 11 (by decide)]; exact h5 i a b, fun i a => ?_, fun a => ?_, h8, h9⟩
  · rw [f0 9 (by decide), f0 10 (by decide)]
    obtain ⟨q1, q2, q3, q4⟩ := h6 i a
    exact ⟨q1, q2, q3, fun k hk => by rw [gm_Eo hE (fun j a b q => by have := hS j q; omega)]; exact q4 k hk⟩
  · rw [gm_Eo hE (fun j a b q => by have := hS j q; omega)]
    exact h7 a
theorem gm_X0 {M : gx_M} {j : Nat} {v : Int} (h : j ≠ 4 ∧ j ≠ 6) : gm_X M (gx_u M 0 j v) := ⟨fun c hc => gx_u_nc (by omega), gx_u_ne (by omega), gx_u_ne (by omega)⟩
theorem gm_Xu {M : gx_M} {c j : Nat} {v : Int} (h : 6 ≤ c ∧ c ≤ 11) : gm_X M (gx_u M c j v) := ⟨fun c' hc => gx_u_nc (by omega), by rw [gx_u_nc (by omega)], by rw [gx_u_nc (by omega)]⟩
theorem gm_XZ {M M1 : gx_M} {n : Nat} {m : Int} (h : gm_X M M1) (hz : gm_Z M n m) : gm_Z M1 n m := by
  unfold gm_Z
  rw [h.1 1 (by omega)]
  exact hz
set_option maxRecDepth 100000 in
set_option maxHeartbeats 4000000 in
theorem c_X8_counts {La : List gx_K} (hM : gm_H La) {M : gx_M} {n : Nat} {m : Int} (hz : gm_Z M n m) {t : pm_S} (hd : pm_d t ≤ 60) (hR : pr_R m t M) {v : Nat → Int} (hv : pm_on t = 1 → mx_of (M 6) 135 = v ∧ mx_ok m v) : gx_Cv La yX8_counts wsX8_counts 2 [gx_R 0, gx_I 135] M (fun M' => pr_R m (pm_cnt m t v) M' ∧ gm_X M M' ∧ ∀ q, q + 9 ≤ 126 → mx_of (M' 6) q = mx_of (M 6) q) := by
  have hzm := gm_Zm hz
  obtain ⟨h1, h2, h3, h4, h5, h6, h7, h8, h9⟩ := hR
  obtain ⟨g1, g2, g3, g4⟩ := h6 (pm_d t) (Nat.le_refl _)
  refine gx_start_v (L := [gx_R 0, gx_I 135, gx_U]) (by decide) rfl rfl (Nat.le_of_ble_eq_true rfl) rfl ?_
  intro _ _ _ _ _ _ _ _ _ _ _ _ C
  refine gx_aload_n C dX8_counts_0 rfl ?_
  refine gx_aload_n C dX8_counts_1 rfl ?_
  refine gx_getI C 8 _ 14 rfl (gm_0 hM) rfl (by decide) nX8_counts_8 (gx_hts C _ fX8_counts_167) dX8_counts_2 h1 ?_
  refine gx_aload_n C dX8_counts_5 rfl ?_
  refine gx_getR C 8 _ 11 rfl (gm_0 hM) rfl (by decide) nX8_counts_8 (gx_hts C _ fX8_counts_36) dX8_counts_6 ?_
  refine gx_aload_n C dX8_counts_9 rfl ?_
  refine gx_getI C 8 _ 14 rfl (gm_0 hM) rfl (by decide) nX8_counts_8 (gx_hts C _ fX8_counts_167) dX8_counts_10 h1 ?_
  refine gx_iaload C (gm_9 hM) (by omega) dX8_counts_13 g1 ?_
  refine gx_callI C 8 rfl (gm_0 hM) (c_X8_pileOf (d := pm_d t) (k := pm_sm t (pm_d t)) rfl rfl) (cwV 2 (gx_hts C) gX8_counts_X8_pileOf rfl rfl rfl (by decide +kernel) ⟨Nat.le_of_ble_eq_true rfl, Nat.le_of_ble_eq_true rfl⟩) rfl rfl (Nat.le_of_ble_eq_true rfl) ⟨Nat.le_refl _, Nat.le_refl _⟩ dX8_counts_14 (fun z M1 hq => ?_)
  obtain ⟨rfl, rfl⟩ := hq
  refine gx_istore_n C dX8_counts_17 (by decide) rfl ?_
  refine gx_aload_n C dX8_counts_18 rfl ?_
  refine gx_getI C 8 _ 19 rfl (gm_0 hM) rfl (by decide) nX8_counts_8 (gx_hts C _ fX8_counts_174) dX8_counts_19 h4.2.1 ?_
  have wrap : ∀ M2 : gx_M, (∀ c, c ≠ 0 → c ≠ 6 → M2 c = M1 c) → (∀ j, j ≠ 15 → M2 0 j = M1 0 j) → M2 0 15 = 4 → (∀ i, i ≤ pm_d t → ∀ k, k ≤ pm_sm t i → mx_of (M2 6) (144 + 27 * i + 9 * k) = pm_P (pm_cnt m t v) i k ∧ mx_ok m (pm_P (pm_cnt m t v) i k)) → mx_of (M2 6) 126 = mx_of (M1 6) 126 → pr_R m (pm_cnt m t v) M2 ∧ gm_X M1 M2 := by
    intro M2 f0 f1 f2 f3 f4
    refine ⟨⟨by rw [f1 14 (by decide)]; exact h1, f2, by rw [f1 16 (by decide), f1 17 (by decide)]; exact h3, by rw [f1 18 (by decide), f1 19 (by decide)]; exact h4, fun i a b => by rw [f0 8 (by decide) (by decide), f0 11 (by decide) (by decide)]; exact h5 i a b, fun i a => ?_, fun a => by rw [f4]; exact h7 a, h8, fun h => absurd (show (4 : Nat) = 0 ∨ (4 : Nat) = 3 from h) (by decide)⟩, ⟨fun c hc => f0 c (by omega) (by omega), f1 4 (by decide), f1 6 (by decide)⟩⟩
    obtain ⟨q1, q2, q3, q4⟩ := h6 i a
    exact ⟨by rw [f0 9 (by decide) (by decide)]; exact q1, by rw [f0 10 (by decide) (by decide)]; exact q2, q3, f3 i a⟩
  rcases h4.2.2.1 with hon | hon
  · refine gx_if_eq C dX8_counts_22 rfl (by unfold gx_3; omega) (fun hb22 => ?_) (fun hb22 => absurd (by omega) hb22)
    refine gx_aload_n C dX8_counts_42 rfl ?_
    refine gx_iconst C dX8_counts_43 ?_
    refine gx_putI C 8 _ 15 rfl (gm_0 hM) rfl (by decide) nX8_counts_8 tyX8 tyX8_ok nmX8 (gx_hts C _ fX8_counts_178) rfl rfl dX8_counts_44 ?_
    have hcP : pm_P (pm_cnt m t v) = pm_P t := if_neg (by omega)
    have fin := wrap (gx_u M1 0 15 4) (fun c a b => gx_u_nc a) (fun j hj => gx_u_ne (by omega)) (gx_u_eq _ _ _ _) (fun i a k hk => by rw [gx_u_nc (by decide), hcP]; exact (h6 i a).2.2.2 k hk) (by rw [gx_u_nc (by decide)])
    exact gx_vret C dX8_counts_47 ⟨fin.1, fin.2, fun q hq => by rw [gx_u_nc (by decide)]⟩
  · obtain ⟨hv1, hv2⟩ := hv hon
    obtain ⟨p1, p2⟩ := g4 (pm_sm t (pm_d t)) (Nat.le_refl _)
    refine gx_if_eq C dX8_counts_22 rfl (by unfold gx_3; omega) (fun hb22 => absurd hb22 (by omega)) (fun hb22 => ?_)
    refine gx_aload_n C dX8_counts_25 rfl ?_
    refine gx_iload_n C dX8_counts_26 rfl ?_
    refine gx_iconst C dX8_counts_27 ?_
    refine gx_iload_n C dX8_counts_28 rfl ?_
    refine gx_aload_n C dX8_counts_29 rfl ?_
    refine gx_getR C 8 _ 12 rfl (gm_0 hM) rfl (by decide) nX8_counts_8 (gx_hts C _ fX8_counts_39) dX8_counts_30 ?_
    refine gx_aload_n C dX8_counts_33 rfl ?_
    refine gx_getI C 8 _ 14 rfl (gm_0 hM) rfl (by decide) nX8_counts_8 (gx_hts C _ fX8_counts_167) dX8_counts_34 h1 ?_
    refine gx_iaload C (gm_10 hM) (by omega) dX8_counts_37 g2 ?_
    refine gx_iload_n C dX8_counts_38 rfl ?_
    refine gx_callV C 8 rfl (gm_0 hM) (c_X8_add hM hz (a := 144 + 27 * pm_d t + 9 * pm_sm t (pm_d t)) (b := 135) (t := 144 + 27 * pm_d t + 9 * pm_sm t (pm_d t)) (by omega) (by omega) (by omega) (by omega) (by omega) (mx_ok_e p1 p2) (mx_ok_e hv1 hv2) (by omega) (by omega)) (cwV 5 (gx_hts C) gX8_counts_X8_add rfl rfl rfl (by decide +kernel) ⟨Nat.le_of_ble_eq_true rfl, Nat.le_of_ble_eq_true rfl⟩) rfl rfl (Nat.le_of_ble_eq_true rfl) ⟨Nat.le_refl _, Nat.le_refl _⟩ dX8_counts_39 (fun M2 hq => ?_)
    rw [p1, hv1] at hq
    refine gx_aload_n C dX8_counts_42 rfl ?_
    refine gx_iconst C dX8_counts_43 ?_
    refine gx_putI C 8 _ 15 rfl (gm_0 hM) rfl (by decide) nX8_counts_8 tyX8 tyX8_ok nmX8 (gx_hts C _ fX8_counts_178) rfl rfl dX8_counts_44 ?_
    have hcP : pm_P (pm_cnt m t v) = fn_up (pm_P t) (pm_d t) (fn_up (pm_P t (pm_d t)) (pm_sm t (pm_d t)) (mx_lin m (pm_P t (pm_d t) (pm_sm t (pm_d t))) 1 v (pm_of t (pm_d t)))) := if_pos hon
    have fin := wrap (gx_u M2 0 15 4) (fun c a b => by rw [gx_u_nc a, hq, gx_blk_nc b]) (fun j hj => by rw [gx_u_ne (by omega), hq, gx_blk_nc (by decide)]) (gx_u_eq _ _ _ _) (fun i a k hk => by
      rw [gx_u_nc (by decide), hcP, hq]
      by_cases e : i = pm_d t
      · subst e
        rw [fn_up_eq]
        by_cases e2 : k = pm_sm t (pm_d t)
        · subst e2
          rw [fn_up_eq]
          exact ⟨mx_of_lin, mx_lin_ok hzm.1 _ _ _ _⟩
        · rw [fn_up_ne e2, mx_of_blo (by omega)]
          exact g4 k hk
      · have h62 := (h6 i a).2.2.1
        rw [fn_up_ne e, mx_of_blo (by omega)]
        exact (h6 i a).2.2.2 k hk) (by rw [gx_u_nc (by decide), hq, mx_of_blo (by omega)])
    exact gx_vret C dX8_counts_47 ⟨fin.1, fin.2, fun q hq2 => by rw [gx_u_nc (by decide), hq, mx_of_blo (by omega)]⟩
set_option maxRecDepth 100000 in
set_option maxHeartbeats 4000000 in
theorem c_X8_opens {La : List gx_K} (hM : gm_H La) {M : gx_M} {n : Nat} {m : Int} (hz : gm_Z M n m) {t : pm_S} (hd : pm_d t ≤ 59) (hR : pr_R m t M) {c : Int} {k : Nat} (hk : k < 60) (hc : gx_3 c) : gx_Cv La yX8_opens wsX8_opens 1 [gx_R 0, gx_I c, gx_I k] M (fun M' => (∀ w, w ≠ 4 → pr_R m (pm_opn t c k w) (gx_u M' 0 15 w)) ∧ gm_X M M') := by
  have hzm := gm_Zm hz
  obtain ⟨h1, h2, h3, h4, h5, h6, h7, h8, h9⟩ := hR
  refine gx_start_v (L := [gx_R 0, gx_I c, gx_I k]) (by decide) rfl rfl (Nat.le_of_ble_eq_true rfl) rfl ?_
  intro _ _ _ _ _ _ _ _ _ _ _ _ C
  refine gx_aload_n C dX8_opens_0 rfl ?_
  refine gx_dup C dX8_opens_1 rfl ?_
  refine gx_getI C 8 _ 14 rfl (gm_0 hM) rfl (by decide) nX8_opens_8 (gx_hts C _ fX8_opens_167) dX8_opens_2 h1 ?_
  refine gx_iconst C dX8_opens_5 ?_
  refine gx_iadd C dX8_opens_6 ?_
  refine gx_putI C 8 _ 14 rfl (gm_0 hM) rfl (by decide) nX8_opens_8 tyX8 tyX8_ok nmX8 (gx_hts C _ fX8_opens_167) rfl rfl dX8_opens_7 ?_
  have e1 : ∀ M1 : gx_M, M1 0 = gx_u M 0 14 ((pm_d t : Int) + 1) 0 → M1 0 14 = (pm_d t : Int) + 1 := fun M1 h => by rw [h, gx_u_eq]
  refine gx_aload_n C dX8_opens_10 rfl ?_
  refine gx_getR C 8 _ 10 rfl (gm_0 hM) rfl (by decide) nX8_opens_8 (gx_hts C _ fX8_opens_33) dX8_opens_11 ?_
  refine gx_aload_n C dX8_opens_14 rfl ?_
  refine gx_getI C 8 _ 14 rfl (gm_0 hM) rfl (by decide) nX8_opens_8 (gx_hts C _ fX8_opens_167) dX8_opens_15 (gx_u_eq _ _ _ _) ?_
  refine gx_iload_n C dX8_opens_18 rfl ?_
  refine gx_iastore C (gm_8 hM) (by omega) dX8_opens_19 (show _ = pm_d t + 1 by omega) ?_
  refine gx_aload_n C dX8_opens_20 rfl ?_
  refine gx_getR C 8 _ 13 rfl (gm_0 hM) rfl (by decide) nX8_opens_8 (gx_hts C _ fX8_opens_42) dX8_opens_21 ?_
  refine gx_aload_n C dX8_opens_24 rfl ?_
  refine gx_getI C 8 _ 14 rfl (gm_0 hM) rfl (by decide) nX8_opens_8 (gx_hts C _ fX8_opens_167) dX8_opens_25 (e1 _ (by rw [gx_u_nc (by decide)])) ?_
  refine gx_iload_n C dX8_opens_28 rfl ?_
  refine gx_iastore C (gm_11 hM) (by omega) dX8_opens_29 (show _ = pm_d t + 1 by omega) ?_
  refine gx_aload_n C dX8_opens_30 rfl ?_
  refine gx_getR C 8 _ 11 rfl (gm_0 hM) rfl (by decide) nX8_opens_8 (gx_hts C _ fX8_opens_36) dX8_opens_31 ?_
  refine gx_aload_n C dX8_opens_34 rfl ?_
  refine gx_getI C 8 _ 14 rfl (gm_0 hM) rfl (by decide) nX8_opens_8 (gx_hts C _ fX8_opens_167) dX8_opens_35 (e1 _ (by rw [gx_u_nc (by decide), gx_u_nc (by decide)])) ?_
  refine gx_iconst C dX8_opens_38 ?_
  refine gx_iastore C (gm_9 hM) (by omega) dX8_opens_39 (show _ = pm_d t + 1 by omega) ?_
  refine gx_aload_n C dX8_opens_40 rfl ?_
  refine gx_getR C 8 _ 12 rfl (gm_0 hM) rfl (by decide) nX8_opens_8 (gx_hts C _ fX8_opens_39) dX8_opens_41 ?_
  refine gx_aload_n C dX8_opens_44 rfl ?_
  refine gx_getI C 8 _ 14 rfl (gm_0 hM) rfl (by decide) nX8_opens_8 (gx_hts C _ fX8_opens_167) dX8_opens_45 (e1 _ (by rw [gx_u_nc (by decide), gx_u_nc (by decide), gx_u_nc (by decide)])) ?_
  refine gx_iconst C dX8_opens_48 ?_
  refine gx_iastore C (gm_10 hM) (by omega) dX8_opens_49 (show _ = pm_d t + 1 by omega) ?_
  refine gx_aload_n C dX8_opens_50 rfl ?_
  refine gx_aload_n C dX8_opens_51 rfl ?_
  refine gx_aload_n C dX8_opens_52 rfl ?_
  refine gx_getI C 8 _ 14 rfl (gm_0 hM) rfl (by decide) nX8_opens_8 (gx_hts C _ fX8_opens_167) dX8_opens_53 (e1 _ (by rw [gx_u_nc (by decide), gx_u_nc (by decide), gx_u_nc (by decide), gx_u_nc (by decide)])) ?_
  refine gx_iconst C dX8_opens_56 ?_
  refine gx_callI C 8 rfl (gm_0 hM) (c_X8_pileOf (d := pm_d t + 1) (k := 0) (by omega) rfl) (cwV 2 (gx_hts C) gX8_opens_X8_pileOf rfl rfl rfl (by decide +kernel) ⟨Nat.le_of_ble_eq_true rfl, Nat.le_of_ble_eq_true rfl⟩) rfl rfl (Nat.le_of_ble_eq_true rfl) ⟨Nat.le_refl _, Nat.le_refl _⟩ dX8_opens_57 (fun z M1 hq => ?_)
  obtain ⟨rfl, rfl⟩ := hq
  refine gx_callV C 8 rfl (gm_0 hM) (c_X8_blank hM (t := 144 + 27 * (pm_d t + 1) + 9 * 0) (by omega)) (cwV 1 (gx_hts C) gX8_opens_X8_blank rfl rfl rfl (by decide +kernel) ⟨Nat.le_of_ble_eq_true rfl, Nat.le_of_ble_eq_true rfl⟩) rfl rfl (Nat.le_of_ble_eq_true rfl) ⟨Nat.le_refl _, Nat.le_refl _⟩ dX8_opens_60 (fun M2 hq => ?_)
  generalize hM1 : gx_u (gx_u (gx_u (gx_u (gx_u M 0 14 ((pm_d t : Int) + 1)) 8 (pm_d t + 1) c) 11 (pm_d t + 1) (k : Int)) 9 (pm_d t + 1) 0) 10 (pm_d t + 1) 1 = M1 at hq
  have c0 : M1 0 = gx_u M 0 14 ((pm_d t : Int) + 1) 0 := by rw [← hM1, gx_u_nc (by decide), gx_u_nc (by decide), gx_u_nc (by decide), gx_u_nc (by decide)]
  have c8 : ∀ j, M1 8 j = if j = pm_d t + 1 then c else M 8 j := fun j => by
    rw [← hM1, gx_u_nc (by decide), gx_u_nc (by decide), gx_u_nc (by decide), gx_u_at]
    by_cases e : j = pm_d t + 1
    · rw [if_pos ⟨rfl, e⟩, if_pos e]
    · rw [if_neg (fun q => e q.2), if_neg e, gx_u_nc (by decide)]
  have c11 : ∀ j, M1 11 j = if j = pm_d t + 1 then (k : Int) else M 11 j := fun j => by
    rw [← hM1, gx_u_nc (by decide), gx_u_nc (by decide), gx_u_at]
    by_cases e : j = pm_d t + 1
    · rw [if_pos ⟨rfl, e⟩, if_pos e]
    · rw [if_neg (fun q => e q.2), if_neg e, gx_u_nc (by decide), gx_u_nc (by decide)]
  have c9 : ∀ j, M1 9 j = if j = pm_d t + 1 then 0 else M 9 j := fun j => by
    rw [← hM1, gx_u_nc (by decide), gx_u_at]
    by_cases e : j = pm_d t + 1
    · rw [if_pos ⟨rfl, e⟩, if_pos e]
    · rw [if_neg (fun q => e q.2), if_neg e, gx_u_nc (by decide), gx_u_nc (by decide), gx_u_nc (by decide)]
  have c10 : ∀ j, M1 10 j = if j = pm_d t + 1 then 1 else M 10 j := fun j => by
    rw [← hM1, gx_u_at]
    by_cases e : j = pm_d t + 1
    · rw [if_pos ⟨rfl, e⟩, if_pos e]
    · rw [if_neg (fun q => e q.2), if_neg e, gx_u_nc (by decide), gx_u_nc (by decide), gx_u_nc (by decide), gx_u_nc (by decide)]
  have cr : ∀ c', c' ≠ 0 → (c' < 8 ∨ 11 < c') → M1 c' = M c' := fun c' a b => by rw [← hM1, gx_u_nc (by omega), gx_u_nc (by omega), gx_u_nc (by omega), gx_u_nc (by omega), gx_u_nc a]
  have fin : (∀ w, w ≠ 4 → pr_R m (pm_opn t c k w) (gx_u M2 0 15 w)) ∧ gm_X M M2 := by
    refine ⟨fun w hw => ?_, ⟨fun c' hc => by rw [hq, gx_blk_nc (by omega), cr c' (by omega) (by omega)], by rw [hq, gx_blk_nc (by decide), c0, gx_u_ne (by decide)], by rw [hq, gx_blk_nc (by decide), c0, gx_u_ne (by decide)]⟩⟩
    have k0 : ∀ j, j ≠ 15 → gx_u M2 0 15 w 0 j = gx_u M 0 14 ((pm_d t : Int) + 1) 0 j := fun j hj => by rw [gx_u_ne (by omega), hq, gx_blk_nc (by decide), c0]
    have k1 : ∀ c', c' ≠ 0 → c' ≠ 6 → gx_u M2 0 15 w c' = M1 c' := fun c' a b => by rw [gx_u_nc a, hq, gx_blk_nc b]
    have k6 : gx_u M2 0 15 w 6 = gx_blk M1 6 (144 + 27 * (pm_d t + 1) + 9 * 0) 9 (fun _ => 0) 6 := by rw [gx_u_nc (by decide), hq]
    have m6 : M1 6 = M 6 := cr 6 (by decide) (by decide)
    refine ⟨by rw [k0 14 (by decide), gx_u_eq]; rfl, gx_u_eq _ _ _ _, ?_, ?_, fun i a b => ?_, fun i a => ?_, fun a => ?_, ?_, fun _ => Or.inl (fn_up_eq _ _ _)⟩
    · rw [k0 16 (by decide), k0 17 (by decide), gx_u_ne (by decide), gx_u_ne (by decide)]
      exact h3
    · rw [k0 18 (by decide), k0 19 (by decide), gx_u_ne (by decide), gx_u_ne (by decide)]
      exact h4
    · have b : i ≤ pm_d t + 1 := b
      rw [k1 8 (by decide) (by decide), k1 11 (by decide) (by decide), c8, c11]
      show _ = fn_up (pm_let t) (pm_d t + 1) c i ∧ _ = ((fn_up (pm_pl t) (pm_d t + 1) k i : Nat) : Int) ∧ gx_3 (fn_up (pm_let t) (pm_d t + 1) c i) ∧ fn_up (pm_pl t) (pm_d t + 1) k i < 60 ∧ fn_up (pm_sm t) (pm_d t + 1) 0 i < pm_arg (fn_up (pm_let t) (pm_d t + 1) c i)
      by_cases e : i = pm_d t + 1
      · subst e
        rw [if_pos rfl, if_pos rfl, fn_up_eq, fn_up_eq, fn_up_eq]
        exact ⟨rfl, rfl, hc, hk, (pm_arg_b c).1⟩
      · rw [if_neg e, if_neg e, fn_up_ne e, fn_up_ne e, fn_up_ne e]
        exact h5 i a (by omega)
    · have a : i ≤ pm_d t + 1 := a
      rw [k1 9 (by decide) (by decide), k1 10 (by decide) (by decide), c9, c10, k6]
      show _ = ((fn_up (pm_sm t) (pm_d t + 1) 0 i : Nat) : Int) ∧ _ = fn_up (pm_of t) (pm_d t + 1) 1 i ∧ (fn_up (pm_sm t) (pm_d t + 1) 0 i ≤ 2 ∧ -9 ≤ fn_up (pm_of t) (pm_d t + 1) 1 i ∧ fn_up (pm_of t) (pm_d t + 1) 1 i ≤ 9) ∧ ∀ k, k ≤ fn_up (pm_sm t) (pm_d t + 1) 0 i → _ = fn_up (pm_P t) (pm_d t + 1) (fn_up (pm_P t (pm_d t + 1)) 0 (fun _ => 0)) i k ∧ mx_ok m (fn_up (pm_P t) (pm_d t + 1) (fn_up (pm_P t (pm_d t + 1)) 0 (fun _ => 0)) i k)
      by_cases e : i = pm_d t + 1
      · subst e
        rw [if_pos rfl, if_pos rfl, fn_up_eq, fn_up_eq, fn_up_eq]
        refine ⟨rfl, rfl, by omega, fun k hk => ?_⟩
        have : k = 0 := by omega
        subst this
        rw [fn_up_eq, mx_of_blk]
        exact ⟨mx_cut (fun _ _ => rfl), fun j hj => by show 0 ≤ (0 : Int) ∧ (0 : Int) < m; omega⟩
      · rw [if_neg e, if_neg e, fn_up_ne e, fn_up_ne e, fn_up_ne e]
        obtain ⟨q1, q2, q3, q4⟩ := h6 i (by omega)
        exact ⟨q1, q2, q3, fun k hk => by rw [mx_of_blo (by omega), m6]; exact q4 k hk⟩
    · rw [k6, mx_of_blo (by omega), m6]
      exact h7 a
    · show fn_up (pm_sm t) (pm_d t + 1) 0 0 = 0
      rw [fn_up_ne (by omega)]
      exact h8
  exact gx_vret C dX8_opens_63 fin
