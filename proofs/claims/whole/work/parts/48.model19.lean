theorem pm_flt_u {s : sp_S} {z w : Int} (h : pm_flt s z) (g : pm_flt s w) : z = w := by
  have up : ∀ k, pm_run s k = none → pm_run s (k + 1) = none := fun k hk => by
    show (pm_run s k).bind _ = none
    rw [hk]
    rfl
  have upn : ∀ j k, pm_run s k = none → pm_run s (k + j) = none := fun j => by
    induction j with
    | zero => exact fun k hk => hk
    | succ j ih => exact fun k hk => up _ (ih k hk)
  rcases h with ⟨k, t, h1, h2, h3, h4⟩ | ⟨t, h1, h2⟩ <;> rcases g with ⟨j, u, g1, g2, g3, g4⟩ | ⟨u, g1, g2⟩
  · rcases Nat.lt_trichotomy k j with q | q | q
    · have := upn (j - (k + 1)) (k + 1) h3
      rw [show k + 1 + (j - (k + 1)) = j by omega, g2] at this
      cases this
    · rw [h4, g4, q]
    · have := upn (k - (j + 1)) (j + 1) g3
      rw [show j + 1 + (k - (j + 1)) = k by omega, h2] at this
      cases this
  · have := upn (s.2.2.2.1 - (k + 1)) (k + 1) h3
    rw [show k + 1 + (s.2.2.2.1 - (k + 1)) = s.2.2.2.1 by omega, g1] at this
    cases this
  · have := upn (s.2.2.2.1 - (j + 1)) (j + 1) g3
    rw [show j + 1 + (s.2.2.2.1 - (j + 1)) = s.2.2.2.1 by omega, h1] at this
    cases this
  · rw [h1] at g1
    cases g1
    rcases h2 with ⟨a, h2⟩ | ⟨a, h2⟩ <;> rcases g2 with ⟨b, g2⟩ | ⟨b, g2⟩
    · rw [h2, g2]
    · exact absurd a b
    · exact absurd b a
    · rw [h2, g2]
/-- the text has no fault: its reading -/
def pm_fin (s : sp_S) (t : pm_S) : Prop := pm_run s s.2.2.2.1 = some t ∧ pm_good t
theorem pm_flt_f {s : sp_S} {t : pm_S} (h : pm_fin s t) : pm_flt s (-6) := Or.inr ⟨t, h.1, Or.inl ⟨h.2, rfl⟩⟩
def sp_emp (s : sp_S) : sp_S := (s.1, s.2.1, s.2.2.1, (0, s.2.2.2.2))
def sp_run (s : sp_S) (z : Int) (s' : sp_S) : Prop :=
  (¬ pm_flt s (-6) ∧ z = -3 ∧ s' = s) ∨ ∃ t, pm_fin s t ∧ (if pm_f t = 1 ∧ pm_stop t = -6 then z = s.2.2.2.2 0 - 65 ∧ s' = sp_emp (sp_push s (zs_put s.1 (9 * (s.2.2.2.2 0 - 65).toNat) (pm_P t 0 0))) else z = -5 ∧ s' = s)
def sp_holds (s : sp_S) (z : Int) : Prop :=
  (¬ pm_flt s (-6) ∧ z = -3) ∨ ∃ t, pm_fin s t ∧ (if pm_f t = 1 ∨ pm_stop t ≠ -6 then z = -5 else (z = 0 ∨ z = 1) ∧ (z = 1 ↔ pm_L t = pm_P t 0 0))
def sp_stops (s : sp_S) (z : Int) : Prop :=
  (¬ pm_flt s (-6) ∧ z = -3) ∨ ∃ t, pm_fin s t ∧ z = pm_stop t
theorem pm_no {s : sp_S} {z : Int} (h : pm_flt s z) (hz : z ≠ -6) : ¬ pm_flt s (-6) := fun g => hz (pm_flt_u h g)
set_option maxRecDepth 100000 in
set_option maxHeartbeats 4000000 in
theorem c_X8_fault {La : List gx_K} (hM : gm_H La) {M : gx_M} {s : sp_S} (hs : sp_ok s) (hR : sm_R s M) : gx_Ci La yX8_fault wsX8_fault 8 [gx_R 0] M (fun z M' => pm_flt s z ∧ sm_Q s M M') := by
  refine gx_start_i (L := [gx_R 0]) (by decide) rfl rfl (Nat.le_of_ble_eq_true rfl) rfl ?_
  intro _ _ _ _ _ _ _ _ _ _ _ _ C
  refine gx_aload_n C dX8_fault_0 rfl ?_
  refine gx_callI C 8 rfl (gm_0 hM) (c_X8_work hM hs hR) (cwV 0 (gx_hts C) gX8_fault_X8_work rfl rfl rfl (by decide +kernel) ⟨Nat.le_of_ble_eq_true rfl, Nat.le_of_ble_eq_true rfl⟩) rfl rfl (Nat.le_of_ble_eq_true rfl) ⟨Nat.le_refl _, Nat.le_refl _⟩ dX8_fault_1 (fun z M1 h1 => ?_)
  exact gx_iret C dX8_fault_4 ⟨h1.1, sm_XQ hR h1.2.2⟩
theorem pm_flt_3 {s : sp_S} (hs : sp_ok s) {z : Int} (h : pm_flt s z) : gx_3 z := by
  have := hs.2.2.2.2.2.1
  unfold gx_3
  rcases h with ⟨k, t, h1, h2, h3, h4⟩ | ⟨t, h1, ⟨h2, h3⟩ | ⟨h2, h3⟩⟩ <;> omega
set_option maxRecDepth 100000 in
set_option maxHeartbeats 4000000 in
theorem c_X8_stops {La : List gx_K} (hM : gm_H La) {M : gx_M} {s : sp_S} (hs : sp_ok s) (hR : sm_R s M) : gx_Ci La yX8_stops wsX8_stops 8 [gx_R 0] M (fun z M' => sp_stops s z ∧ sm_Q s M M') := by
  refine gx_start_i (L := [gx_R 0]) (by decide) rfl rfl (Nat.le_of_ble_eq_true rfl) rfl ?_
  intro _ _ _ _ _ _ _ _ _ _ _ _ C
  refine gx_aload_n C dX8_stops_0 rfl ?_
  refine gx_callI C 8 rfl (gm_0 hM) (c_X8_work hM hs hR) (cwV 0 (gx_hts C) gX8_stops_X8_work rfl rfl rfl (by decide +kernel) ⟨Nat.le_of_ble_eq_true rfl, Nat.le_of_ble_eq_true rfl⟩) rfl rfl (Nat.le_of_ble_eq_true rfl) ⟨Nat.le_refl _, Nat.le_refl _⟩ dX8_stops_1 (fun z M1 h1 => ?_)
  obtain ⟨h1, h2, h3⟩ := h1
  have hz3 := pm_flt_3 hs h1
  refine gx_bipush C dX8_stops_4 rfl ?_
  refine gx_icmp_eq C dX8_stops_6 rfl hz3 (by unfold gx_3; omega) (fun hb6 => ?_) (fun hb6 => ?_)
  · obtain ⟨t, t1, t2, t3⟩ := h2 hb6
    refine gx_aload_n C dX8_stops_14 rfl ?_
    refine gx_getI C 8 _ 18 rfl (gm_0 hM) rfl (by decide) nX8_stops_8 (gx_hts C _ fX8_stops_188) dX8_stops_15 t3.2.2.2.1.1 ?_
    exact gx_iret C dX8_stops_18 ⟨Or.inr ⟨t, ⟨t1, t2⟩, rfl⟩, sm_XQ hR h3⟩
  · have q := hb6
    refine gx_bipush C dX8_stops_9 rfl ?_
    refine gx_goto C dX8_stops_11 rfl ?_
    exact gx_iret C dX8_stops_18 ⟨Or.inl ⟨pm_no h1 q, rfl⟩, sm_XQ hR h3⟩
set_option maxRecDepth 100000 in
set_option maxHeartbeats 4000000 in
theorem c_X8_holds {La : List gx_K} (hM : gm_H La) {M : gx_M} {s : sp_S} (hs : sp_ok s) (hR : sm_R s M) : gx_Ci La yX8_holds wsX8_holds 8 [gx_R 0] M (fun z M' => sp_holds s z ∧ sm_Q s M M') := by
  have hz := sm_Z hs hR
  have hzm := gm_Zm hz
  refine gx_start_i (L := [gx_R 0]) (by decide) rfl rfl (Nat.le_of_ble_eq_true rfl) rfl ?_
  intro _ _ _ _ _ _ _ _ _ _ _ _ C
  refine gx_aload_n C dX8_holds_0 rfl ?_
  refine gx_callI C 8 rfl (gm_0 hM) (c_X8_work hM hs hR) (cwV 0 (gx_hts C) gX8_holds_X8_work rfl rfl rfl (by decide +kernel) ⟨Nat.le_of_ble_eq_true rfl, Nat.le_of_ble_eq_true rfl⟩) rfl rfl (Nat.le_of_ble_eq_true rfl) ⟨Nat.le_refl _, Nat.le_refl _⟩ dX8_holds_1 (fun z M1 h1 => ?_)
  obtain ⟨h1, h2, h3⟩ := h1
  have hz3 := pm_flt_3 hs h1
  refine gx_bipush C dX8_holds_4 rfl ?_
  refine gx_icmp_eq C dX8_holds_6 rfl hz3 (by unfold gx_3; omega) (fun hb6 => ?_) (fun hb6 => ?_)
  · obtain ⟨t, t1, t2, t3⟩ := h2 hb6
    obtain ⟨r1, r2, r3, r4, r5, r6, r7, r8, r9⟩ := t3
    obtain ⟨-, -, -, z4⟩ := r6 0 (Nat.zero_le _)
    obtain ⟨p1, p2⟩ := z4 0 (Nat.zero_le _)
    refine gx_aload_n C dX8_holds_12 rfl ?_
    refine gx_getI C 8 _ 16 rfl (gm_0 hM) rfl (by decide) nX8_holds_8 (gx_hts C _ fX8_holds_209) dX8_holds_13 r3.1 ?_
    refine gx_if_ne C dX8_holds_16 rfl (gx_3b r3.2.2.1) (fun hb16 => ?_) (fun hb16 => ?_)
    · have hf1 : pm_f t = 1 := by rcases r3.2.2.1 with h | h; exact absurd h hb16; exact h
      refine gx_bipush C dX8_holds_28 rfl ?_
      exact gx_iret C dX8_holds_30 ⟨Or.inr ⟨t, ⟨t1, t2⟩, by rw [if_pos (Or.inl hf1)]⟩, sm_XQ hR h3⟩
    · refine gx_aload_n C dX8_holds_19 rfl ?_
      refine gx_getI C 8 _ 18 rfl (gm_0 hM) rfl (by decide) nX8_holds_8 (gx_hts C _ fX8_holds_188) dX8_holds_20 r4.1 ?_
      refine gx_bipush C dX8_holds_23 rfl ?_
      refine gx_icmp_eq C dX8_holds_25 rfl r4.2.2.2 (by unfold gx_3; omega) (fun hb25 => ?_) (fun hb25 => ?_)
      · have hne : ¬(pm_f t = 1 ∨ pm_stop t ≠ -6) := by omega
        have he : pm_e t = 1 := by rcases t2.2.2 with h | h; exact absurd (Or.inl h) hne; exact h
        obtain ⟨l1, l2⟩ := r7 (Or.inr he)
        refine gx_aload_n C dX8_holds_31 rfl ?_
        refine gx_bipush C dX8_holds_32 rfl ?_
        refine gx_aload_n C dX8_holds_34 rfl ?_
        refine gx_iconst C dX8_holds_35 ?_
        refine gx_iconst C dX8_holds_36 ?_
        refine gx_callI C 8 rfl (gm_0 hM) (c_X8_pileOf (d := 0) (k := 0) rfl rfl) (cwV 2 (gx_hts C) gX8_holds_X8_pileOf rfl rfl rfl (by decide +kernel) ⟨Nat.le_of_ble_eq_true rfl, Nat.le_of_ble_eq_true rfl⟩) rfl rfl (Nat.le_of_ble_eq_true rfl) ⟨Nat.le_refl _, Nat.le_refl _⟩ dX8_holds_37 (fun z1 M2 hq => ?_)
        obtain ⟨rfl, rfl⟩ := hq
        refine gx_callI C 8 rfl (gm_0 hM) (c_X8_areAlike hM (m := s.1 82) (by omega) (a := 126) (b := 144 + 27 * 0 + 9 * 0) (by omega) (by omega) (mx_ok_e l1 l2) (mx_ok_e p1 p2)) (cwV 2 (gx_hts C) gX8_holds_X8_areAlike rfl rfl rfl (by decide +kernel) ⟨Nat.le_of_ble_eq_true rfl, Nat.le_of_ble_eq_true rfl⟩) rfl rfl (Nat.le_of_ble_eq_true rfl) ⟨Nat.le_refl _, Nat.le_refl _⟩ dX8_holds_40 (fun z2 M3 hq => ?_)
        obtain ⟨rfl, q1, q2⟩ := hq
        rw [l1, p1] at q2
        have fin : sp_holds s z2 ∧ sm_Q s M M3 := ⟨Or.inr ⟨t, ⟨t1, t2⟩, by rw [if_neg hne]; exact ⟨q1, q2⟩⟩, sm_XQ hR h3⟩
        refine gx_if_eq C dX8_holds_43 rfl (by unfold gx_3; omega) (fun hb43 => ?_) (fun hb43 => ?_)
        · have : z2 = 0 := hb43
          subst this
          refine gx_iconst C dX8_holds_50 ?_
          exact gx_iret C dX8_holds_51 fin
        · have : z2 = 1 := by omega
          subst this
          refine gx_iconst C dX8_holds_46 ?_
          refine gx_goto C dX8_holds_47 rfl ?_
          exact gx_iret C dX8_holds_51 fin
      · refine gx_bipush C dX8_holds_28 rfl ?_
        exact gx_iret C dX8_holds_30 ⟨Or.inr ⟨t, ⟨t1, t2⟩, by rw [if_pos (Or.inr hb25)]⟩, sm_XQ hR h3⟩
  · refine gx_bipush C dX8_holds_9 rfl ?_
    exact gx_iret C dX8_holds_11 ⟨Or.inl ⟨pm_no h1 hb6, rfl⟩, sm_XQ hR h3⟩
/-- a formula begins with a register's letter -/
theorem pm_beh_f {s : sp_S} {t t' : pm_S} {p0 c : Int} {k : Nat} (h : pm_step s t p0 c k = some t') : pm_f t' = pm_f t ∨ pm_f t' = 0 ∨ (p0 ≠ 105 ∧ pm_one p0) := by
  have hfac : ∀ {t t' : pm_S}, pm_fac s t c k = some t' → pm_f t' = pm_f t := fun {t t'} h => by
    unfold pm_fac at h
    split at h
    · cases h; rfl
    · split at h
      · cases h; rfl
      · cases h
  unfold pm_step at h
  split at h
  · split at h
    · cases h; exact Or.inl rfl
    · exact Or.inl (hfac h)
  · split at h
    · split at h
      · cases h; exact Or.inl rfl
      · cases h
    · split at h
      · exact Or.inl (hfac h)
      · split at h
        · split at h
          · cases h; exact Or.inl rfl
          · cases h
        · unfold pm_beh at h
          split at h
          · cases h; exact Or.inl rfl
          · split at h
            · cases h; exact Or.inl rfl
            · split at h
              · cases h; exact Or.inl rfl
              · split at h
                · next q => exact Or.inr (Or.inr ⟨q.2.2.1, q.2.2.2⟩)
                · split at h
                  · cases h; exact Or.inr (Or.inl rfl)
                  · cases h
theorem pm_run_f {s : sp_S} : ∀ k t, pm_run s k = some t → pm_f t = 1 → s.2.2.2.2 0 ≠ 105 ∧ pm_one (s.2.2.2.2 0)
  | 0, t, h, hf => by
    have h : some pm_t0 = some t := h
    cases h
    exact absurd (show (0 : Int) = 1 from hf) (by decide)
  | k + 1, t, h, hf => by
    have h : (pm_run s k).bind (fun t => pm_step s t (s.2.2.2.2 0) (s.2.2.2.2 k) k) = some t := h
    cases e : pm_run s k with
    | none => rw [e] at h; cases h
    | some u =>
      rw [e] at h
      rcases pm_beh_f (show pm_step s u (s.2.2.2.2 0) (s.2.2.2.2 k) k = some t from h) with q | q | q
      · exact pm_run_f k u e (by rw [← q]; exact hf)
      · omega
      · exact q
set_option maxRecDepth 100000 in
set_option maxHeartbeats 4000000 in
theorem c_X8_run {La : List gx_K} (hM : gm_H La) {M : gx_M} {s : sp_S} (hs : sp_ok s) (hR : sm_R s M) : gx_Ci La yX8_run wsX8_run 8 [gx_R 0] M (fun z M' => ∃ s', sp_run s z s' ∧ sm_Q s' M M') := by
  have hz := sm_Z hs hR
  have hzm := gm_Zm hz
  refine gx_start_i (L := [gx_R 0, gx_U]) (by decide) rfl rfl (Nat.le_of_ble_eq_true rfl) rfl ?_
  intro _ _ _ _ _ _ _ _ _ _ _ _ C
  refine gx_aload_n C dX8_run_0 rfl ?_
  refine gx_callI C 8 rfl (gm_0 hM) (c_X8_work hM hs hR) (cwV 0 (gx_hts C) gX8_run_X8_work rfl rfl rfl (by decide +kernel) ⟨Nat.le_of_ble_eq_true rfl, Nat.le_of_ble_eq_true rfl⟩) rfl rfl (Nat.le_of_ble_eq_true rfl) ⟨Nat.le_refl _, Nat.le_refl _⟩ dX8_run_1 (fun z M1 h1 => ?_)
  obtain ⟨h1, h2, h3⟩ := h1
  have hz3 := pm_flt_3 hs h1
  refine gx_bipush C dX8_run_4 rfl ?_
  refine gx_icmp_eq C dX8_run_6 rfl hz3 (by unfold gx_3; omega) (fun hb6 => ?_) (fun hb6 => ?_)
  · obtain ⟨t, t1, t2, t3⟩ := h2 hb6
    obtain ⟨r1, r2, r3, r4, r5, r6, r7, r8, r9⟩ := t3
    obtain ⟨-, -, -, z4⟩ := r6 0 (Nat.zero_le _)
    obtain ⟨p1, p2⟩ := z4 0 (Nat.zero_le _)
    have bad : ¬(pm_f t = 1 ∧ pm_stop t = -6) → ∃ s', sp_run s (-5) s' ∧ sm_Q s' M M1 := fun h => ⟨s, Or.inr ⟨t, ⟨t1, t2⟩, by rw [if_neg h]; exact ⟨rfl, rfl⟩⟩, sm_XQ hR h3⟩
    refine gx_aload_n C dX8_run_12 rfl ?_
    refine gx_getI C 8 _ 16 rfl (gm_0 hM) rfl (by decide) nX8_run_8 (gx_hts C _ fX8_run_209) dX8_run_13 r3.1 ?_
    refine gx_if_eq C dX8_run_16 rfl (gx_3b r3.2.2.1) (fun hb16 => ?_) (fun hb16 => ?_)
    · refine gx_bipush C dX8_run_28 rfl ?_
      exact gx_iret C dX8_run_30 (bad (fun h => by omega))
    · have hf1 : pm_f t = 1 := by rcases r3.2.2.1 with h | h; exact absurd h hb16; exact h
      refine gx_aload_n C dX8_run_19 rfl ?_
      refine gx_getI C 8 _ 18 rfl (gm_0 hM) rfl (by decide) nX8_run_8 (gx_hts C _ fX8_run_188) dX8_run_20 r4.1 ?_
      refine gx_bipush C dX8_run_23 rfl ?_
      refine gx_icmp_eq C dX8_run_25 rfl r4.2.2.2 (by unfold gx_3; omega) (fun hb25 => ?_) (fun hb25 => ?_)
      · have hp0 := pm_run_f _ t t1 hf1
        have htn : 0 < s.2.2.2.1 := by
          rcases Nat.eq_zero_or_pos s.2.2.2.1 with h | h
          · rw [h] at t1
            have t1 : some pm_t0 = some t := t1
            cases t1
            exact absurd (show (0 : Int) = 1 from hf1) (by decide)
          · exact h
        refine gx_aload_n C dX8_run_31 rfl ?_
        refine gx_callV C 8 rfl (gm_0 hM) (c_X8_record hM (sm_X hR h3) hs.2.1) (cwV 0 (gx_hts C) gX8_run_X8_record rfl rfl rfl (by decide +kernel) ⟨Nat.le_of_ble_eq_true rfl, Nat.le_of_ble_eq_true rfl⟩) rfl rfl (Nat.le_of_ble_eq_true rfl) ⟨Nat.le_refl _, Nat.le_refl _⟩ dX8_run_32 (fun M2 h8 => ?_)
        obtain ⟨⟨hR2, hF2⟩, h9, h10⟩ := h8
        have e5 : M2 5 ((0 : Int).toNat) = s.2.2.2.2 0 := hR2.2.2.2.2.2.2 0 htn
        have e6 : M2 6 = M1 6 := h9 6 (by decide) (by decide)
        refine gx_aload_n C dX8_run_35 rfl ?_
        refine gx_getR C 8 _ 5 rfl (gm_0 hM) rfl (by decide) nX8_run_8 (gx_hts C _ fX8_run_23) dX8_run_36 ?_
        refine gx_iconst C dX8_run_39 ?_
        refine gx_caload C (gm_5 hM) (by omega) dX8_run_40 e5 ?_
        refine gx_bipush C dX8_run_41 rfl ?_
        refine gx_isub C dX8_run_43 ?_
        refine gx_istore_n C dX8_run_44 (by decide) rfl ?_
        refine gx_aload_n C dX8_run_45 rfl ?_
        refine gx_aload_n C dX8_run_46 rfl ?_
        refine gx_iconst C dX8_run_47 ?_
        refine gx_iconst C dX8_run_48 ?_
        refine gx_callI C 8 rfl (gm_0 hM) (c_X8_pileOf (d := 0) (k := 0) rfl rfl) (cwV 2 (gx_hts C) gX8_run_X8_pileOf rfl rfl rfl (by decide +kernel) ⟨Nat.le_of_ble_eq_true rfl, Nat.le_of_ble_eq_true rfl⟩) rfl rfl (Nat.le_of_ble_eq_true rfl) ⟨Nat.le_refl _, Nat.le_refl _⟩ dX8_run_49 (fun z1 M3 hq => ?_)
        obtain ⟨rfl, rfl⟩ := hq
        refine gx_iload_n C dX8_run_52 rfl ?_
        refine gx_callV C 8 rfl (gm_0 hM) (c_X8_store hM (r := (s.2.2.2.2 0 - 65).toNat) (a := 144 + 27 * 0 + 9 * 0) (by omega) (by omega) (by omega)) (cwV 2 (gx_hts C) gX8_run_X8_store rfl rfl rfl (by decide +kernel) ⟨Nat.le_of_ble_eq_true rfl, Nat.le_of_ble_eq_true rfl⟩) rfl rfl (Nat.le_of_ble_eq_true rfl) ⟨Nat.le_refl _, Nat.le_refl _⟩ dX8_run_53 (fun M4 hq => ?_)
        rw [e6, p1] at hq
        refine gx_aload_n C dX8_run_56 rfl ?_
        refine gx_iconst C dX8_run_57 ?_
        refine gx_putI C 8 _ 6 rfl (gm_0 hM) rfl (by decide) nX8_run_8 tyX8 tyX8_ok nmX8 (gx_hts C _ fX8_run_159) rfl rfl dX8_run_58 ?_
        refine gx_iload_n C dX8_run_61 rfl ?_
        have fin : sm_Q (sp_emp (sp_push s (zs_put s.1 (9 * (s.2.2.2.2 0 - 65).toNat) (pm_P t 0 0)))) M (gx_u M4 0 6 0) := by
          obtain ⟨q1, q2, q3, q4, q5, q6, q7⟩ := hR2
          have f0 : ∀ c, c ≠ 0 → c ≠ 1 → gx_u M4 0 6 0 c = M3 c := fun c a b => by rw [gx_u_nc a, hq, gx_blk_nc b]
          refine ⟨⟨fun k hk => ?_, by rw [gx_u_ne (by decide), hq, gx_blk_nc (by decide)]; exact q2, fun i k hi hk => by rw [f0 2 (by decide) (by decide)]; exact q3 i k hi hk, fun j hj => by rw [f0 4 (by decide) (by decide)]; exact q4 j hj, fun j k hj hsv hk => by rw [f0 3 (by decide) (by decide)]; exact q5 j k hj hsv hk, gx_u_eq _ _ _ _, fun i hi => absurd hi (Nat.not_lt_zero i)⟩, fun c hc => by rw [f0 c (by omega) (by omega), hF2 c hc, h3.1 c (Or.inr hc)]⟩
          rw [gx_u_nc (by decide), hq]
          show _ = zs_put s.1 (9 * (s.2.2.2.2 0 - 65).toNat) (pm_P t 0 0) k
          unfold zs_put
          by_cases q : 9 * (s.2.2.2.2 0 - 65).toNat ≤ k ∧ k < 9 * (s.2.2.2.2 0 - 65).toNat + 9
          · rw [if_pos q]
            have := gx_blk_in (M := M3) (c := 1) (o := 9 * (s.2.2.2.2 0 - 65).toNat) (n := 9) (k := k - 9 * (s.2.2.2.2 0 - 65).toNat) (f := pm_P t 0 0) (by omega)
            rwa [show 9 * (s.2.2.2.2 0 - 65).toNat + (k - 9 * (s.2.2.2.2 0 - 65).toNat) = k by omega] at this
          · rw [if_neg q, gx_blk_out (by omega)]
            exact q1 k hk
        exact gx_iret C dX8_run_62 ⟨_, Or.inr ⟨t, ⟨t1, t2⟩, by rw [if_pos ⟨hf1, by omega⟩]; exact ⟨rfl, rfl⟩⟩, fin⟩
      · refine gx_bipush C dX8_run_28 rfl ?_
        exact gx_iret C dX8_run_30 (bad (fun h => hb25 h.2))
  · refine gx_bipush C dX8_run_9 rfl ?_
    exact gx_iret C dX8_run_11 ⟨s, Or.inl ⟨pm_no h1 hb6, rfl, rfl⟩, sm_XQ hR h3⟩
def sp_wipe (s : sp_S) (z : Int) (s' : sp_S) : Prop := z = s.2.2.2.1 ∧ s' = sp_emp s
set_option maxRecDepth 100000 in
set_option maxHeartbeats 4000000 in
theorem c_X8_wipe {La : List gx_K} (hM : gm_H La) {M : gx_M} {s : sp_S} (hs : sp_ok s) (hR : sm_R s M) : gx_Ci La yX8_wipe wsX8_wipe 0 [gx_R 0] M (fun z M' => ∃ s', sp_wipe s z s' ∧ sm_Q s' M M') := by
  obtain ⟨h1, h2, h3, h4, h5, h6, h7⟩ := hR
  refine gx_start_i (L := [gx_R 0, gx_U]) (by decide) rfl rfl (Nat.le_of_ble_eq_true rfl) rfl ?_
  intro _ _ _ _ _ _ _ _ _ _ _ _ C
  refine gx_aload_n C dX8_wipe_0 rfl ?_
  refine gx_getI C 8 _ 6 rfl (gm_0 hM) rfl (by decide) nX8_wipe_8 (gx_hts C _ fX8_wipe_159) dX8_wipe_1 h6 ?_
  refine gx_istore_n C dX8_wipe_4 (by decide) rfl ?_
  refine gx_aload_n C dX8_wipe_5 rfl ?_
  refine gx_iconst C dX8_wipe_6 ?_
  refine gx_putI C 8 _ 6 rfl (gm_0 hM) rfl (by decide) nX8_wipe_8 tyX8 tyX8_ok nmX8 (gx_hts C _ fX8_wipe_159) rfl rfl dX8_wipe_7 ?_
  refine gx_iload_n C dX8_wipe_10 rfl ?_
  have f0 : ∀ c, c ≠ 0 → gx_u M 0 6 0 c = M c := fun c a => gx_u_nc a
  exact gx_iret C dX8_wipe_11 ⟨_, ⟨rfl, rfl⟩, ⟨fun k hk => by rw [f0 1 (by decide)]; exact h1 k hk, by rw [gx_u_ne (by decide)]; exact h2, fun i k hi hk => by rw [f0 2 (by decide)]; exact h3 i k hi hk, fun j hj => by rw [f0 4 (by decide)]; exact h4 j hj, fun j k hj hsv hk => by rw [f0 3 (by decide)]; exact h5 j k hj hsv hk, gx_u_eq _ _ _ _, fun i hi => absurd hi (Nat.not_lt_zero i)⟩, fun c hc => f0 c (by omega)⟩
