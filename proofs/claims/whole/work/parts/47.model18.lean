/-- changes of what is wanted alone -/
theorem pr_Rw {m : Int} {t : pm_S} {M : gx_M} (h : pr_R m t M) {w : Nat} (hw : w = 0 ∨ w = 3 → pm_w t = 0 ∨ pm_w t = 3) : pr_R m (pm_ww t w) (gx_u M 0 15 w) := by
  obtain ⟨h1, h2, h3, h4, h5, h6, h7, h8, h9⟩ := h
  have k0 : ∀ j, j ≠ 15 → gx_u M 0 15 (w : Int) 0 j = M 0 j := fun j a => gx_u_ne (by omega)
  have kc : ∀ c', c' ≠ 0 → gx_u M 0 15 (w : Int) c' = M c' := fun c' a => gx_u_nc a
  exact ⟨by rw [k0 14 (by decide)]; exact h1, gx_u_eq _ _ _ _, by rw [k0 16 (by decide), k0 17 (by decide)]; exact h3, by rw [k0 18 (by decide), k0 19 (by decide)]; exact h4, fun i a b => by rw [kc 8 (by decide), kc 11 (by decide)]; exact h5 i a b, fun i a => by rw [kc 9 (by decide), kc 10 (by decide), kc 6 (by decide)]; exact h6 i a, fun a => by rw [kc 6 (by decide)]; exact h7 a, h8, fun q => h9 (hw q)⟩
set_option maxRecDepth 100000 in
set_option maxHeartbeats 4000000 in
theorem c_X8_stands {La : List gx_K} (hM : gm_H La) {M : gx_M} {s : sp_S} (hs : sp_ok s) (hSR : sm_R s M) {t : pm_S} (hd : pm_d t ≤ 59) (hR : pr_R (s.1 82) t M) (hU : pm_w t = 4 → pr_U s M) (hw4 : pm_w t ≤ 4) {c : Int} {k : Nat} (hk : k < 60) (hc : gx_3 c) (hk2 : k < s.2.2.2.1) (hd1 : k = 1 → pm_one (s.2.2.2.2 0) → pm_d t = 0) : gx_Ci La yX8_stands wsX8_stands 6 [gx_R 0, gx_I c, gx_I k] M (fun z M' => pr_S s M (pm_step s t (s.2.2.2.2 0) c k) z M') := by
  have hz := sm_Z hs hSR
  have hzm := gm_Zm hz
  have hR0 := hR
  obtain ⟨h1, h2, h3, h4, h5, h6, h7, h8, h9⟩ := hR
  obtain ⟨g1, g2, g3, g4⟩ := h6 (pm_d t) (Nat.le_refl _)
  replace h3 : gx_hid _ := h3
  replace h4 : gx_hid _ := h4
  replace hd1 : gx_hid _ := hd1
  refine gx_start_i (L := [gx_R 0, gx_I c, gx_I k]) (by decide) rfl rfl (Nat.le_of_ble_eq_true rfl) rfl ?_
  intro _ _ _ _ _ _ _ _ _ _ _ _ C
  refine gx_aload_n C dX8_stands_0 rfl ?_
  refine gx_getI C 8 _ 15 rfl (gm_0 hM) rfl (by decide) nX8_stands_8 (gx_hts C _ fX8_stands_178) dX8_stands_1 h2 ?_
  rcases (show pm_w t = 0 ∨ pm_w t = 1 ∨ pm_w t = 2 ∨ pm_w t = 3 ∨ pm_w t = 4 by omega) with hw | hw | hw | hw | hw
  · have hst : pm_step s t (s.2.2.2.2 0) c k = (if 48 ≤ c ∧ c ≤ 57 then some (pm_dig t c) else pm_fac s t c k) := if_pos hw
    have ho := h9 (Or.inl hw)
    rw [hw]
    refine gx_tabIn (tgt := 36) C dX8_stands_4 (by unfold gx_3; omega) (by decide) (by decide) rfl rfl ?_
    refine gx_cut 71 (fun (_ : Unit) => [gx_R 0, gx_I c, gx_I k]) (fun _ => []) (fun _ => M) (fun _ => ¬(48 ≤ c ∧ c ≤ 57)) (fun _ hn => ?_) (fun at71 => ?_)
    · rw [if_neg hn] at hst
      rw [hst]
      refine gx_aload_n C dX8_stands_71 rfl ?_
      refine gx_iload_n C dX8_stands_72 rfl ?_
      refine gx_iload_n C dX8_stands_73 rfl ?_
      refine gx_callI C 8 rfl (gm_0 hM) (c_X8_factor hM hs hSR hd hR0 hk hc) (cwV 2 (gx_hts C) gX8_stands_X8_factor rfl rfl rfl (by decide +kernel) ⟨Nat.le_of_ble_eq_true rfl, Nat.le_of_ble_eq_true rfl⟩) rfl rfl (Nat.le_of_ble_eq_true rfl) ⟨Nat.le_refl _, Nat.le_refl _⟩ dX8_stands_74 (fun z M1 hq => ?_)
      exact gx_zret C (pr_Sz hq) dX8_stands_77 hq
    · refine gx_iload_n C dX8_stands_36 rfl ?_
      refine gx_bipush C dX8_stands_37 rfl ?_
      refine gx_icmp_lt C dX8_stands_39 rfl hc (by unfold gx_3; omega) (fun hb39 => ?_) (fun hb39 => ?_)
      · exact at71 () (by omega)
      · refine gx_iload_n C dX8_stands_42 rfl ?_
        refine gx_bipush C dX8_stands_43 rfl ?_
        refine gx_icmp_gt C dX8_stands_45 rfl hc (by unfold gx_3; omega) (fun hb45 => ?_) (fun hb45 => ?_)
        · exact at71 () (by omega)
        · rw [if_pos (by omega)] at hst
          refine gx_aload_n C dX8_stands_48 rfl ?_
          refine gx_getR C 8 _ 12 rfl (gm_0 hM) rfl (by decide) nX8_stands_8 (gx_hts C _ fX8_stands_39) dX8_stands_49 ?_
          refine gx_aload_n C dX8_stands_52 rfl ?_
          refine gx_getI C 8 _ 14 rfl (gm_0 hM) rfl (by decide) nX8_stands_8 (gx_hts C _ fX8_stands_167) dX8_stands_53 h1 ?_
          refine gx_dup2 C dX8_stands_56 rfl rfl ?_
          refine gx_iaload C (gm_10 hM) (by omega) dX8_stands_57 g2 ?_
          refine gx_iload_n C dX8_stands_58 rfl ?_
          refine gx_bipush C dX8_stands_59 rfl ?_
          refine gx_isub C dX8_stands_61 ?_
          refine gx_imul C dX8_stands_62 ?_
          refine gx_iastore C (gm_10 hM) (by omega) dX8_stands_63 (show _ = pm_d t by omega) ?_
          refine gx_aload_n C dX8_stands_64 rfl ?_
          refine gx_iconst C dX8_stands_65 ?_
          refine gx_putI C 8 _ 15 rfl (gm_0 hM) rfl (by decide) nX8_stands_8 tyX8 tyX8_ok nmX8 (gx_hts C _ fX8_stands_178) rfl rfl dX8_stands_66 ?_
          refine gx_iconst C dX8_stands_69 ?_
          have k0 : ∀ q j, j ≠ 15 → gx_u (gx_u M 10 (pm_d t) q) 0 15 1 0 j = M 0 j := fun q j a => by rw [gx_u_ne (by omega), gx_u_nc (by decide)]
          have kc : ∀ q c', c' ≠ 0 → c' ≠ 10 → gx_u (gx_u M 10 (pm_d t) q) 0 15 1 c' = M c' := fun q c' a b => by rw [gx_u_nc a, gx_u_nc b]
          have fin : pr_S s M (pm_step s t (s.2.2.2.2 0) c k) 1 (gx_u (gx_u M 10 (pm_d t) (pm_of t (pm_d t) * (c - 48))) 0 15 1) := by
            rw [hst]
            refine ⟨⟨rfl, ⟨by rw [k0 _ 14 (by decide)]; exact h1, gx_u_eq _ _ _ _, by rw [k0 _ 16 (by decide), k0 _ 17 (by decide)]; exact h3, by rw [k0 _ 18 (by decide), k0 _ 19 (by decide)]; exact h4, fun i a b => by rw [kc _ 8 (by decide) (by decide), kc _ 11 (by decide) (by decide)]; exact h5 i a b, fun i a => ?_, fun a => by rw [kc _ 6 (by decide) (by decide)]; exact h7 a, h8, fun q => absurd (show (1 : Nat) = 0 ∨ (1 : Nat) = 3 from q) (by decide)⟩, fun h => absurd (show (1 : Nat) = 4 from h) (by decide)⟩, gm_Xt (gm_Xu (by decide)) (gm_X0 (by decide))⟩
            obtain ⟨q1, q2, q3, q4⟩ := h6 i a
            rw [kc _ 9 (by decide) (by decide), kc _ 6 (by decide) (by decide), gx_u_nc (by decide)]
            show _ = _ ∧ _ = fn_up (pm_of t) (pm_d t) (pm_of t (pm_d t) * (c - 48)) i ∧ (pm_sm t i ≤ 2 ∧ -9 ≤ fn_up (pm_of t) (pm_d t) (pm_of t (pm_d t) * (c - 48)) i ∧ fn_up (pm_of t) (pm_d t) (pm_of t (pm_d t) * (c - 48)) i ≤ 9) ∧ _
            by_cases e : i = pm_d t
            · subst e
              rw [gx_u_eq, fn_up_eq]
              refine ⟨q1, rfl, ?_, q4⟩
              rcases ho with ho | ho
              · rw [ho]; omega
              · rw [ho]; omega
            · rw [gx_u_ne (by omega), fn_up_ne e]
              exact ⟨q1, q2, q3, q4⟩
          exact gx_zret C (by omega) dX8_stands_70 fin
  · have hst : pm_step s t (s.2.2.2.2 0) c k = (if c = 42 then some (pm_ww t 2) else none) := by unfold pm_step; rw [if_neg (by omega), if_pos hw]
    rw [hw]
    refine gx_tabIn (tgt := 78) C dX8_stands_4 (by unfold gx_3; omega) (by decide) (by decide) rfl rfl ?_
    refine gx_aload_n C dX8_stands_78 rfl ?_
    refine gx_iconst C dX8_stands_79 ?_
    refine gx_putI C 8 _ 15 rfl (gm_0 hM) rfl (by decide) nX8_stands_8 tyX8 tyX8_ok nmX8 (gx_hts C _ fX8_stands_178) rfl rfl dX8_stands_80 ?_
    refine gx_iload_n C dX8_stands_83 rfl ?_
    refine gx_bipush C dX8_stands_84 rfl ?_
    refine gx_icmp_ne C dX8_stands_86 rfl hc (by unfold gx_3; omega) (fun hb86 => ?_) (fun hb86 => ?_)
    · refine gx_iconst C dX8_stands_93 ?_
      exact gx_zret C (by omega) dX8_stands_94 ⟨by rw [hst, if_neg hb86], gm_X0 (by decide)⟩
    · refine gx_iconst C dX8_stands_89 ?_
      refine gx_goto C dX8_stands_90 rfl ?_
      exact gx_zret C (by omega) dX8_stands_94 ⟨by rw [hst, if_pos (by omega)]; exact ⟨rfl, pr_Rw hR0 (w := 2) (by omega), fun h => absurd (show (2 : Nat) = 4 from h) (by decide)⟩, gm_X0 (by decide)⟩
  · have hst : pm_step s t (s.2.2.2.2 0) c k = pm_fac s t c k := by unfold pm_step; rw [if_neg (by omega), if_neg (by omega), if_pos hw]
    rw [hw, hst]
    refine gx_tabIn (tgt := 95) C dX8_stands_4 (by unfold gx_3; omega) (by decide) (by decide) rfl rfl ?_
    refine gx_aload_n C dX8_stands_95 rfl ?_
    refine gx_iload_n C dX8_stands_96 rfl ?_
    refine gx_iload_n C dX8_stands_97 rfl ?_
    refine gx_callI C 8 rfl (gm_0 hM) (c_X8_factor hM hs hSR hd hR0 hk hc) (cwV 2 (gx_hts C) gX8_stands_X8_factor rfl rfl rfl (by decide +kernel) ⟨Nat.le_of_ble_eq_true rfl, Nat.le_of_ble_eq_true rfl⟩) rfl rfl (Nat.le_of_ble_eq_true rfl) ⟨Nat.le_refl _, Nat.le_refl _⟩ dX8_stands_98 (fun z M1 hq => ?_)
    exact gx_zret C (pr_Sz hq) dX8_stands_101 hq
  · have hst : pm_step s t (s.2.2.2.2 0) c k = (if c = 40 then some (pm_ww t 0) else none) := by unfold pm_step; rw [if_neg (by omega), if_neg (by omega), if_neg (by omega), if_pos hw]
    rw [hw]
    refine gx_tabIn (tgt := 102) C dX8_stands_4 (by unfold gx_3; omega) (by decide) (by decide) rfl rfl ?_
    refine gx_aload_n C dX8_stands_102 rfl ?_
    refine gx_iconst C dX8_stands_103 ?_
    refine gx_putI C 8 _ 15 rfl (gm_0 hM) rfl (by decide) nX8_stands_8 tyX8 tyX8_ok nmX8 (gx_hts C _ fX8_stands_178) rfl rfl dX8_stands_104 ?_
    refine gx_iload_n C dX8_stands_107 rfl ?_
    refine gx_bipush C dX8_stands_108 rfl ?_
    refine gx_icmp_ne C dX8_stands_110 rfl hc (by unfold gx_3; omega) (fun hb110 => ?_) (fun hb110 => ?_)
    · refine gx_iconst C dX8_stands_117 ?_
      exact gx_zret C (by omega) dX8_stands_118 ⟨by rw [hst, if_neg hb110], gm_X0 (by decide)⟩
    · refine gx_iconst C dX8_stands_113 ?_
      refine gx_goto C dX8_stands_114 rfl ?_
      exact gx_zret C (by omega) dX8_stands_118 ⟨by rw [hst, if_pos (by omega)]; exact ⟨rfl, pr_Rw hR0 (w := 0) (by omega), fun h => absurd (show (0 : Nat) = 4 from h) (by decide)⟩, gm_X0 (by decide)⟩
  · have hst : pm_step s t (s.2.2.2.2 0) c k = pm_beh s t (s.2.2.2.2 0) c k := by unfold pm_step; rw [if_neg (by omega), if_neg (by omega), if_neg (by omega), if_neg (by omega)]
    rw [hw, hst]
    refine gx_tabOut (tgt := 119) C dX8_stands_4 (by unfold gx_3; omega) (by decide) rfl ?_
    refine gx_aload_n C dX8_stands_119 rfl ?_
    refine gx_iload_n C dX8_stands_120 rfl ?_
    refine gx_iload_n C dX8_stands_121 rfl ?_
    refine gx_callI C 8 rfl (gm_0 hM) (c_X8_behind hM hs hSR hd hR0 hw (hU hw) hk hc hk2 hd1) (cwV 2 (gx_hts C) gX8_stands_X8_behind rfl rfl rfl (by decide +kernel) ⟨Nat.le_of_ble_eq_true rfl, Nat.le_of_ble_eq_true rfl⟩) rfl rfl (Nat.le_of_ble_eq_true rfl) ⟨Nat.le_refl _, Nat.le_refl _⟩ dX8_stands_122 (fun z M1 hq => ?_)
    exact gx_zret C (pr_Sz hq) dX8_stands_125 hq
/-- the reading, from its start -/
def pm_t0 : pm_S := ((0, 0, 0, 0), (-6, 1), (fun _ => 0, fun _ => 0, fun _ => 1, fun _ => 0), (fun _ _ _ => 0, fun _ => 0))
def pm_run (s : sp_S) : Nat → Option pm_S
  | 0 => some pm_t0
  | k + 1 => (pm_run s k).bind (fun t => pm_step s t (s.2.2.2.2 0) (s.2.2.2.2 k) k)
theorem pm_fac_d {s : sp_S} {t t' : pm_S} {c : Int} {k : Nat} (h : pm_fac s t c k = some t') : pm_d t' ≤ pm_d t + 1 ∧ pm_w t' ≤ 4 := by
  unfold pm_fac at h
  split at h
  · cases h
    exact ⟨Nat.le_succ _, Nat.le_refl _⟩
  · split at h
    · cases h
      refine ⟨Nat.le_refl _, ?_⟩
      show (if c = 40 then 0 else 3) ≤ 4
      split <;> omega
    · cases h
theorem pm_step_d {s : sp_S} {t t' : pm_S} {p0 c : Int} {k : Nat} (h : pm_step s t p0 c k = some t') : pm_d t' ≤ pm_d t + 1 ∧ pm_w t' ≤ 4 := by
  unfold pm_step at h
  split at h
  · split at h
    · cases h
      exact ⟨Nat.le_succ _, by show 1 ≤ 4; omega⟩
    · exact pm_fac_d h
  · split at h
    · split at h
      · cases h
        exact ⟨Nat.le_succ _, by show 2 ≤ 4; omega⟩
      · cases h
    · split at h
      · exact pm_fac_d h
      · split at h
        · split at h
          · cases h
            exact ⟨Nat.le_succ _, by show 0 ≤ 4; omega⟩
          · cases h
        · unfold pm_beh at h
          split at h
          · cases h
            exact ⟨Nat.le_succ _, by show 0 ≤ 4; omega⟩
          · split at h
            · cases h
              exact ⟨Nat.le_succ _, by show 0 ≤ 4; omega⟩
            · split at h
              · cases h
                exact ⟨by show pm_d t - 1 ≤ pm_d t + 1; omega, Nat.le_refl _⟩
              · split at h
                · cases h
                  exact ⟨Nat.le_succ _, by show 0 ≤ 4; omega⟩
                · split at h
                  · cases h
                    exact ⟨Nat.le_succ _, by show 0 ≤ 4; omega⟩
                  · cases h
theorem pm_run_d {s : sp_S} : ∀ k t, pm_run s k = some t → pm_d t ≤ k ∧ pm_w t ≤ 4
  | 0, t, h => by
    have h : some pm_t0 = some t := h
    cases h
    exact ⟨Nat.le_refl _, Nat.zero_le _⟩
  | k + 1, t, h => by
    have h : (pm_run s k).bind (fun t => pm_step s t (s.2.2.2.2 0) (s.2.2.2.2 k) k) = some t := h
    cases e : pm_run s k with
    | none => rw [e] at h; cases h
    | some u =>
      rw [e] at h
      have h1 := pm_run_d k u e
      have h2 := pm_step_d (show pm_step s u (s.2.2.2.2 0) (s.2.2.2.2 k) k = some t from h)
      exact ⟨by omega, h2.2⟩
theorem pm_run_1 {s : sp_S} {t : pm_S} (h : pm_run s 1 = some t) (h1 : pm_one (s.2.2.2.2 0)) : pm_d t = 0 := by
  have h : pm_step s pm_t0 (s.2.2.2.2 0) (s.2.2.2.2 0) 0 = some t := h
  unfold pm_step at h
  rw [if_pos (show pm_w pm_t0 = 0 from rfl), if_neg (by omega)] at h
  unfold pm_fac at h
  rw [if_pos h1] at h
  cases h
  rfl
def pm_good (t : pm_S) : Prop := pm_w t = 4 ∧ pm_d t = 0 ∧ (pm_f t = 1 ∨ pm_e t = 1)
/-- the fault of the text, -6 if there is none -/
def pm_flt (s : sp_S) (z : Int) : Prop :=
  (∃ k t, k < s.2.2.2.1 ∧ pm_run s k = some t ∧ pm_run s (k + 1) = none ∧ z = (k : Int)) ∨ (∃ t, pm_run s s.2.2.2.1 = some t ∧ ((pm_good t ∧ z = -6) ∨ (¬ pm_good t ∧ z = s.2.2.2.1)))
set_option maxRecDepth 100000 in
set_option maxHeartbeats 4000000 in
theorem c_X8_work {La : List gx_K} (hM : gm_H La) {M : gx_M} {s : sp_S} (hs : sp_ok s) (hSR : sm_R s M) : gx_Ci La yX8_work wsX8_work 7 [gx_R 0] M (fun z M' => pm_flt s z ∧ (z = -6 → ∃ t, pm_run s s.2.2.2.1 = some t ∧ pm_good t ∧ pr_R (s.1 82) t M') ∧ gm_X M M') := by
  have hz := sm_Z hs hSR
  have hzm := gm_Zm hz
  have htn := hs.2.2.2.2.2.1
  have hpd := hs.2.2.2.2.2.2
  refine gx_start_i (L := [gx_R 0, gx_U]) (by decide) rfl rfl (Nat.le_of_ble_eq_true rfl) rfl ?_
  intro _ _ _ _ _ _ _ _ _ _ _ _ C
  refine gx_aload_n C dX8_work_0 rfl ?_
  refine gx_iconst C dX8_work_1 ?_
  refine gx_putI C 8 _ 14 rfl (gm_0 hM) rfl (by decide) nX8_work_8 tyX8 tyX8_ok nmX8 (gx_hts C _ fX8_work_167) rfl rfl dX8_work_2 ?_
  refine gx_aload_n C dX8_work_5 rfl ?_
  refine gx_iconst C dX8_work_6 ?_
  refine gx_putI C 8 _ 15 rfl (gm_0 hM) rfl (by decide) nX8_work_8 tyX8 tyX8_ok nmX8 (gx_hts C _ fX8_work_178) rfl rfl dX8_work_7 ?_
  refine gx_aload_n C dX8_work_10 rfl ?_
  refine gx_iconst C dX8_work_11 ?_
  refine gx_putZ C 8 _ 16 rfl (gm_0 hM) rfl (by decide) nX8_work_8 tyX8 tyX8_ok nmX8 (gx_hts C _ fX8_work_209) rfl rfl (by omega) dX8_work_12 ?_
  refine gx_aload_n C dX8_work_15 rfl ?_
  refine gx_iconst C dX8_work_16 ?_
  refine gx_putZ C 8 _ 17 rfl (gm_0 hM) rfl (by decide) nX8_work_8 tyX8 tyX8_ok nmX8 (gx_hts C _ fX8_work_212) rfl rfl (by omega) dX8_work_17 ?_
  refine gx_aload_n C dX8_work_20 rfl ?_
  refine gx_bipush C dX8_work_21 rfl ?_
  refine gx_putI C 8 _ 18 rfl (gm_0 hM) rfl (by decide) nX8_work_8 tyX8 tyX8_ok nmX8 (gx_hts C _ fX8_work_188) rfl rfl dX8_work_23 ?_
  refine gx_aload_n C dX8_work_26 rfl ?_
  refine gx_iconst C dX8_work_27 ?_
  refine gx_putZ C 8 _ 19 rfl (gm_0 hM) rfl (by decide) nX8_work_8 tyX8 tyX8_ok nmX8 (gx_hts C _ fX8_work_174) rfl rfl (by omega) dX8_work_28 ?_
  refine gx_aload_n C dX8_work_31 rfl ?_
  refine gx_getR C 8 _ 11 rfl (gm_0 hM) rfl (by decide) nX8_work_8 (gx_hts C _ fX8_work_36) dX8_work_32 ?_
  refine gx_iconst C dX8_work_35 ?_
  refine gx_iconst C dX8_work_36 ?_
  refine gx_iastore C (gm_9 hM) (by omega) dX8_work_37 rfl ?_
  refine gx_aload_n C dX8_work_38 rfl ?_
  refine gx_getR C 8 _ 12 rfl (gm_0 hM) rfl (by decide) nX8_work_8 (gx_hts C _ fX8_work_39) dX8_work_39 ?_
  refine gx_iconst C dX8_work_42 ?_
  refine gx_iconst C dX8_work_43 ?_
  refine gx_iastore C (gm_10 hM) (by omega) dX8_work_44 rfl ?_
  refine gx_aload_n C dX8_work_45 rfl ?_
  refine gx_aload_n C dX8_work_46 rfl ?_
  refine gx_iconst C dX8_work_47 ?_
  refine gx_iconst C dX8_work_48 ?_
  refine gx_callI C 8 rfl (gm_0 hM) (c_X8_pileOf (d := 0) (k := 0) rfl rfl) (cwV 2 (gx_hts C) gX8_work_X8_pileOf rfl rfl rfl (by decide +kernel) ⟨Nat.le_of_ble_eq_true rfl, Nat.le_of_ble_eq_true rfl⟩) rfl rfl (Nat.le_of_ble_eq_true rfl) ⟨Nat.le_refl _, Nat.le_refl _⟩ dX8_work_49 (fun z M1 hq => ?_)
  obtain ⟨rfl, rfl⟩ := hq
  refine gx_callV C 8 rfl (gm_0 hM) (c_X8_blank hM (t := 144 + 27 * 0 + 9 * 0) (by omega)) (cwV 1 (gx_hts C) gX8_work_X8_blank rfl rfl rfl (by decide +kernel) ⟨Nat.le_of_ble_eq_true rfl, Nat.le_of_ble_eq_true rfl⟩) rfl rfl (Nat.le_of_ble_eq_true rfl) ⟨Nat.le_refl _, Nat.le_refl _⟩ dX8_work_52 (fun M2 hq => ?_)
  generalize hMa : gx_u (gx_u (gx_u (gx_u (gx_u (gx_u (gx_u (gx_u M 0 14 0) 0 15 0) 0 16 0) 0 17 0) 0 18 (-6)) 0 19 1) 9 (Int.toNat 0) 0) 10 (Int.toNat 0) 1 = Ma at hq
  have k0 : ∀ j, j ≠ 14 → j ≠ 15 → j ≠ 16 → j ≠ 17 → j ≠ 18 → j ≠ 19 → Ma 0 j = M 0 j := fun j a b c d e f => by rw [← hMa, gx_u_nc (by decide), gx_u_nc (by decide), gx_u_ne (by omega), gx_u_ne (by omega), gx_u_ne (by omega), gx_u_ne (by omega), gx_u_ne (by omega), gx_u_ne (by omega)]
  have kc : ∀ c', c' ≠ 0 → c' ≠ 9 → c' ≠ 10 → Ma c' = M c' := fun c' a b c => by rw [← hMa, gx_u_nc c, gx_u_nc b, gx_u_nc a, gx_u_nc a, gx_u_nc a, gx_u_nc a, gx_u_nc a, gx_u_nc a]
  have hX2 : gm_X M M2 := ⟨fun c' hc => by rw [hq, gx_blk_nc (by omega), kc c' (by omega) (by omega) (by omega)], by rw [hq, gx_blk_nc (by decide), k0 4 (by decide) (by decide) (by decide) (by decide) (by decide) (by decide)], by rw [hq, gx_blk_nc (by decide), k0 6 (by decide) (by decide) (by decide) (by decide) (by decide) (by decide)]⟩
  have hR2 : pr_R (s.1 82) pm_t0 M2 := by
    rw [hq]
    refine ⟨by rw [gx_blk_nc (by decide), ← hMa]; rfl, by rw [gx_blk_nc (by decide), ← hMa]; rfl, ⟨by rw [gx_blk_nc (by decide), ← hMa]; rfl, by rw [gx_blk_nc (by decide), ← hMa]; rfl, Or.inl rfl, Or.inl rfl⟩, ⟨by rw [gx_blk_nc (by decide), ← hMa]; rfl, by rw [gx_blk_nc (by decide), ← hMa]; rfl, Or.inr rfl, by show gx_3 (-6); unfold gx_3; omega⟩, fun i a b => ?_, fun i a => ?_, fun a => ?_, rfl, fun _ => Or.inl rfl⟩
    · have b : i ≤ 0 := b
      omega
    · have a : i ≤ 0 := a
      have i0 : i = 0 := by omega
      subst i0
      refine ⟨by rw [gx_blk_nc (by decide), ← hMa]; rfl, by rw [gx_blk_nc (by decide), ← hMa]; rfl, by show (0 : Nat) ≤ 2 ∧ (-9 : Int) ≤ 1 ∧ (1 : Int) ≤ 9; omega, fun k hk => ?_⟩
      have hk : k ≤ 0 := hk
      have k0 : k = 0 := by omega
      subst k0
      rw [mx_of_blk]
      exact ⟨mx_cut (fun _ _ => rfl), fun j hj => by show 0 ≤ (0 : Int) ∧ (0 : Int) < s.1 82; omega⟩
    · have a : (0 : Int) = 1 ∨ (0 : Int) = 1 := a
      omega
  clear hMa k0 kc hq
  refine gx_iconst C dX8_work_55 ?_
  refine gx_istore_n C dX8_work_56 (by decide) rfl ?_
  refine gx_for s.2.2.2.1 (fun k (_ : gx_M × pm_S) => [gx_R 0, gx_I (k : Int)]) (fun q => q.1) (fun k q => pm_run s k = some q.2 ∧ pr_R (s.1 82) q.2 q.1 ∧ (pm_w q.2 = 4 → pr_U s q.1) ∧ gm_X M q.1) 0 (M2, pm_t0) (by omega) ⟨rfl, hR2, fun h => absurd (show (0 : Nat) = 4 from h) (by decide), hX2⟩ (fun k q hk hI ih => ?_) (fun q hI => ?_)
  · obtain ⟨M', t⟩ := q
    obtain ⟨i1, i2, i3, i4⟩ := hI
    simp only at i1 i2 i3 i4
    dsimp only
    have hSR' := sm_X hSR i4
    have hdb := pm_run_d k t i1
    have hck := hpd k hk
    have e1 : M' 0 6 = s.2.2.2.1 := hSR'.2.2.2.2.2.1
    have e2 : M' 5 ((k : Int).toNat) = s.2.2.2.2 k := hSR'.2.2.2.2.2.2 k hk
    refine gx_iload_n C dX8_work_57 rfl ?_
    refine gx_aload_n C dX8_work_58 rfl ?_
    refine gx_getI C 8 _ 6 rfl (gm_0 hM) rfl (by decide) nX8_work_8 (gx_hts C _ fX8_work_159) dX8_work_59 e1 ?_
    refine gx_icmp_ge C dX8_work_62 rfl (by unfold gx_3; omega) (by unfold gx_3; omega) (fun hb62 => absurd hb62 (by omega)) (fun hb62 => ?_)
    refine gx_aload_n C dX8_work_65 rfl ?_
    refine gx_aload_n C dX8_work_66 rfl ?_
    refine gx_getR C 8 _ 5 rfl (gm_0 hM) rfl (by decide) nX8_work_8 (gx_hts C _ fX8_work_23) dX8_work_67 ?_
    refine gx_iload_n C dX8_work_70 rfl ?_
    refine gx_caload C (gm_5 hM) (by omega) dX8_work_71 e2 ?_
    refine gx_iload_n C dX8_work_72 rfl ?_
    refine gx_callI C 8 rfl (gm_0 hM) (c_X8_stands hM hs hSR' (by omega) i2 i3 (by omega) (c := s.2.2.2.2 k) (k := k) (by omega) (by unfold gx_3; omega) hk (fun h1 h2 => by subst h1; exact pm_run_1 i1 h2)) (cwV 2 (gx_hts C) gX8_work_X8_stands rfl rfl rfl (by decide +kernel) ⟨Nat.le_of_ble_eq_true rfl, Nat.le_of_ble_eq_true rfl⟩) rfl rfl (Nat.le_of_ble_eq_true rfl) ⟨Nat.le_refl _, Nat.le_refl _⟩ dX8_work_73 (fun z M3 hq => ?_)
    obtain ⟨q1, q2⟩ := hq
    have hrun : pm_run s (k + 1) = pm_step s t (s.2.2.2.2 0) (s.2.2.2.2 k) k := by show (pm_run s k).bind _ = _; rw [i1]; rfl
    cases hstep : pm_step s t (s.2.2.2.2 0) (s.2.2.2.2 k) k with
    | none =>
      rw [hstep] at q1
      have z0 : z = 0 := q1
      refine gx_if_ne C dX8_work_76 rfl (by unfold gx_3; omega) (fun hb76 => absurd hb76 (by omega)) (fun hb76 => ?_)
      refine gx_iload_n C dX8_work_79 rfl ?_
      exact gx_iret C dX8_work_80 ⟨Or.inl ⟨k, t, hk, i1, by rw [hrun, hstep], rfl⟩, fun h => by omega, gm_Xt i4 q2⟩
    | some t' =>
      rw [hstep] at q1
      obtain ⟨z1, r1, r2⟩ := q1
      refine gx_if_ne C dX8_work_76 rfl (by unfold gx_3; omega) (fun hb76 => ?_) (fun hb76 => absurd (by omega) hb76)
      refine gx_iinc C dX8_work_81 (by decide) rfl rfl ?_
      refine gx_goto C dX8_work_84 rfl ?_
      exact ih (M3, t') ⟨by rw [hrun, hstep], r1, r2, gm_Xt i4 q2⟩
  · obtain ⟨M', t⟩ := q
    obtain ⟨i1, i2, i3, i4⟩ := hI
    simp only at i1 i2 i3 i4
    dsimp only
    have hSR' := sm_X hSR i4
    have hdb := pm_run_d _ t i1
    have e1 : M' 0 6 = s.2.2.2.1 := hSR'.2.2.2.2.2.1
    obtain ⟨h1, h2, h3, h4, -⟩ := id i2
    obtain ⟨f1, f2, f3, f4⟩ := h3
    refine gx_cut 121 (fun (b : Int) => [gx_R 0, gx_I (s.2.2.2.1 : Int)]) (fun b => [gx_I b]) (fun _ => M') (fun b => (b = 1 ∧ pm_good t) ∨ (b = 0 ∧ ¬ pm_good t)) (fun b hb => ?_) (fun fin => ?_)
    · refine gx_istore_n C dX8_work_121 (by decide) rfl ?_
      refine gx_iload_n C dX8_work_122 rfl ?_
      rcases hb with ⟨rfl, hb⟩ | ⟨rfl, hb⟩
      · refine gx_if_eq C dX8_work_123 rfl (by unfold gx_3; omega) (fun hb123 => absurd hb123 (by omega)) (fun hb123 => ?_)
        refine gx_bipush C dX8_work_126 rfl ?_
        refine gx_goto C dX8_work_128 rfl ?_
        exact gx_iret C dX8_work_135 ⟨Or.inr ⟨t, i1, Or.inl ⟨hb, rfl⟩⟩, fun _ => ⟨t, i1, hb, i2⟩, i4⟩
      · refine gx_if_eq C dX8_work_123 rfl (by unfold gx_3; omega) (fun hb123 => ?_) (fun hb123 => absurd (by omega) hb123)
        refine gx_aload_n C dX8_work_131 rfl ?_
        refine gx_getI C 8 _ 6 rfl (gm_0 hM) rfl (by decide) nX8_work_8 (gx_hts C _ fX8_work_159) dX8_work_132 e1 ?_
        exact gx_iret C dX8_work_135 ⟨Or.inr ⟨t, i1, Or.inr ⟨hb, rfl⟩⟩, fun h => by omega, i4⟩
    · refine gx_iload_n C dX8_work_57 rfl ?_
      refine gx_aload_n C dX8_work_58 rfl ?_
      refine gx_getI C 8 _ 6 rfl (gm_0 hM) rfl (by decide) nX8_work_8 (gx_hts C _ fX8_work_159) dX8_work_59 e1 ?_
      refine gx_icmp_ge C dX8_work_62 rfl (by unfold gx_3; omega) (by unfold gx_3; omega) (fun hb62 => ?_) (fun hb62 => absurd (by omega) hb62)
      refine gx_aload_n C dX8_work_87 rfl ?_
      refine gx_getI C 8 _ 15 rfl (gm_0 hM) rfl (by decide) nX8_work_8 (gx_hts C _ fX8_work_178) dX8_work_88 h2 ?_
      refine gx_iconst C dX8_work_91 ?_
      refine gx_icmp_ne C dX8_work_92 rfl (by unfold gx_3; omega) (by unfold gx_3; omega) (fun hb92 => ?_) (fun hb92 => ?_)
      · refine gx_iconst C dX8_work_120 ?_
        exact fin 0 (Or.inr ⟨rfl, fun h => hb92 (by rw [h.1]; rfl)⟩)
      · refine gx_aload_n C dX8_work_95 rfl ?_
        refine gx_getI C 8 _ 14 rfl (gm_0 hM) rfl (by decide) nX8_work_8 (gx_hts C _ fX8_work_167) dX8_work_96 h1 ?_
        refine gx_if_ne C dX8_work_99 rfl (by unfold gx_3; omega) (fun hb99 => ?_) (fun hb99 => ?_)
        · refine gx_iconst C dX8_work_120 ?_
          exact fin 0 (Or.inr ⟨rfl, fun h => hb99 (by rw [h.2.1]; rfl)⟩)
        · refine gx_aload_n C dX8_work_102 rfl ?_
          refine gx_getI C 8 _ 16 rfl (gm_0 hM) rfl (by decide) nX8_work_8 (gx_hts C _ fX8_work_209) dX8_work_103 f1 ?_
          refine gx_if_ne C dX8_work_106 rfl (by unfold gx_3; omega) (fun hb106 => ?_) (fun hb106 => ?_)
          · refine gx_iconst C dX8_work_116 ?_
            refine gx_goto C dX8_work_117 rfl ?_
            exact fin 1 (Or.inl ⟨rfl, by omega, by omega, by omega⟩)
          · refine gx_aload_n C dX8_work_109 rfl ?_
            refine gx_getI C 8 _ 17 rfl (gm_0 hM) rfl (by decide) nX8_work_8 (gx_hts C _ fX8_work_212) dX8_work_110 f2 ?_
            refine gx_if_eq C dX8_work_113 rfl (by unfold gx_3; omega) (fun hb113 => ?_) (fun hb113 => ?_)
            · refine gx_iconst C dX8_work_120 ?_
              exact fin 0 (Or.inr ⟨rfl, fun h => by have := h.2.2; omega⟩)
            · refine gx_iconst C dX8_work_116 ?_
              refine gx_goto C dX8_work_117 rfl ?_
              exact fin 1 (Or.inl ⟨rfl, by omega, by omega, by omega⟩)
