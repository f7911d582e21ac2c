/-- hidden from arithmetic -/
def gx_hid (P : Prop) : Prop := P
theorem gx_3b {z : Int} (h : z = 0 ∨ z = 1) : gx_3 z := by
  unfold gx_3
  omega
/-- one step of the reading: a sign c at the place k; p0 is the first sign of the text -/
def pm_fac (s : sp_S) (t : pm_S) (c : Int) (k : Nat) : Option pm_S :=
  if pm_one c then some (pm_cnt (s.1 82) t (zs_el s.1 (if c = 105 then 9 else (c - 65).toNat))) else if c = 40 ∨ pm_ltr c then some (pm_opn t c k (if c = 40 then 0 else 3)) else none
def pm_sgn (t : pm_S) (c : Int) : pm_S := ((pm_d t, 0, pm_f t, pm_e t), t.2.1, (pm_let t, pm_sm t, fn_up (pm_of t) (pm_d t) (if c = 43 then 1 else -1), pm_pl t), t.2.2.2)
def pm_com (t : pm_S) : pm_S := ((pm_d t, 0, pm_f t, pm_e t), t.2.1, (pm_let t, fn_up (pm_sm t) (pm_d t) (pm_sm t (pm_d t) + 1), fn_up (pm_of t) (pm_d t) 1, pm_pl t), (fn_up (pm_P t) (pm_d t) (fn_up (pm_P t (pm_d t)) (pm_sm t (pm_d t) + 1) (fun _ => 0)), pm_L t))
def pm_hd (t : pm_S) (f e : Int) : pm_S := ((pm_d t, 0, f, e), t.2.1, (pm_let t, pm_sm t, fn_up (pm_of t) 0 1, pm_pl t), (fn_up (pm_P t) 0 (fn_up (pm_P t 0) 0 (fun _ => 0)), pm_P t 0 0))
def pm_beh (s : sp_S) (t : pm_S) (p0 c : Int) (k : Nat) : Option pm_S :=
  if c = 43 ∨ c = 45 then some (pm_sgn t c)
  else if c = 44 ∧ pm_d t ≠ 0 ∧ pm_sm t (pm_d t) + 1 ≠ pm_arg (pm_let t (pm_d t)) then some (pm_com t)
  else if c = 41 ∧ pm_d t ≠ 0 ∧ pm_sm t (pm_d t) + 1 = pm_arg (pm_let t (pm_d t)) then some (pm_cls s t)
  else if c = 58 ∧ k = 1 ∧ p0 ≠ 105 ∧ pm_one p0 then some (pm_hd t 1 0)
  else if c = 61 ∧ pm_d t = 0 ∧ pm_f t = 0 ∧ pm_e t = 0 then some (pm_hd t 0 1) else none
def pm_dig (t : pm_S) (c : Int) : pm_S := ((pm_d t, 1, pm_f t, pm_e t), t.2.1, (pm_let t, pm_sm t, fn_up (pm_of t) (pm_d t) (pm_of t (pm_d t) * (c - 48)), pm_pl t), t.2.2.2)
def pm_ww (t : pm_S) (w : Nat) : pm_S := ((pm_d t, w, pm_f t, pm_e t), t.2)
def pm_step (s : sp_S) (t : pm_S) (p0 c : Int) (k : Nat) : Option pm_S :=
  if pm_w t = 0 then (if 48 ≤ c ∧ c ≤ 57 then some (pm_dig t c) else pm_fac s t c k)
  else if pm_w t = 1 then (if c = 42 then some (pm_ww t 2) else none)
  else if pm_w t = 2 then pm_fac s t c k
  else if pm_w t = 3 then (if c = 40 then some (pm_ww t 0) else none)
  else pm_beh s t p0 c k
/-- what a step answers, and leaves -/
def pr_S (s : sp_S) (M : gx_M) (o : Option pm_S) (z : Int) (M' : gx_M) : Prop :=
  (match o with | some t' => z = 1 ∧ pr_R (s.1 82) t' M' ∧ (pm_w t' = 4 → pr_U s M') | none => z = 0) ∧ gm_X M M'
theorem pr_Sz {s : sp_S} {M M' : gx_M} {o : Option pm_S} {z : Int} (h : pr_S s M o z M') : z = 0 ∨ z = 1 := by
  cases o with
  | none => exact Or.inl h.1
  | some t' => exact Or.inr h.1.1
set_option maxRecDepth 100000 in
set_option maxHeartbeats 4000000 in
theorem c_X8_factor {La : List gx_K} (hM : gm_H La) {M : gx_M} {s : sp_S} (hs : sp_ok s) (hSR : sm_R s M) {t : pm_S} (hd : pm_d t ≤ 59) (hR : pr_R (s.1 82) t M) {c : Int} {k : Nat} (hk : k < 60) (hc : gx_3 c) : gx_Ci La yX8_factor wsX8_factor 5 [gx_R 0, gx_I c, gx_I k] M (fun z M' => pr_S s M (pm_fac s t c k) z M') := by
  have hz := sm_Z hs hSR
  have hzm := gm_Zm hz
  refine gx_start_i (L := [gx_R 0, gx_I c, gx_I k]) (by decide) rfl rfl (Nat.le_of_ble_eq_true rfl) rfl ?_
  intro _ _ _ _ _ _ _ _ _ _ _ _ C
  refine gx_iload_n C dX8_factor_0 rfl ?_
  refine gx_statI C (c_X8_isOne hc) (cwS 1 (gx_hts C) gX8_factor_X8_isOne rfl rfl rfl (by decide +kernel) ⟨Nat.le_of_ble_eq_true rfl, Nat.le_of_ble_eq_true rfl⟩) rfl rfl (Nat.le_of_ble_eq_true rfl) ⟨Nat.le_refl _, Nat.le_refl _⟩ dX8_factor_1 (fun z M1 h1 => ?_)
  obtain ⟨rfl, h1, h2⟩ := h1
  by_cases hone : pm_one c
  · have z1 : z = 1 := h2.mpr hone
    subst z1
    have hfac : pm_fac s t c k = some (pm_cnt (s.1 82) t (zs_el s.1 (if c = 105 then 9 else (c - 65).toNat))) := if_pos hone
    refine gx_if_eq C dX8_factor_4 rfl (by unfold gx_3; omega) (fun hb4 => absurd hb4 (by omega)) (fun hb4 => ?_)
    refine gx_aload_n C dX8_factor_7 rfl ?_
    refine gx_iload_n C dX8_factor_8 rfl ?_
    refine gx_bipush C dX8_factor_9 rfl ?_
    refine gx_cut 23 (fun (q : Int) => [gx_R 0, gx_I c, gx_I k]) (fun q => [gx_I q, gx_R 0]) (fun _ => M1) (fun q => q = (((if c = 105 then 9 else (c - 65).toNat) : Nat) : Int)) (fun q hq => ?_) (fun fin => ?_)
    · have hr10 : (if c = 105 then 9 else (c - 65).toNat) < 10 := by split <;> omega
      refine gx_sipush C dX8_factor_23 rfl ?_
      refine gx_callV C 8 rfl (gm_0 hM) (c_X8_loadS hM hs hSR (r := if c = 105 then 9 else (c - 65).toNat) (t := 135) hq hr10 (by omega) (by omega)) (cwV 2 (gx_hts C) gX8_factor_X8_load rfl rfl rfl (by decide +kernel) ⟨Nat.le_of_ble_eq_true rfl, Nat.le_of_ble_eq_true rfl⟩) rfl rfl (Nat.le_of_ble_eq_true rfl) ⟨Nat.le_refl _, Nat.le_refl _⟩ dX8_factor_26 (fun M2 h3 => ?_)
      obtain ⟨g1, g2, g3, E2⟩ := h3
      have R2 := pr_RE hR E2 (fun j hj => by omega)
      have oel := zs_el_ok hs.1 hr10
      refine gx_aload_n C dX8_factor_29 rfl ?_
      refine gx_sipush C dX8_factor_30 rfl ?_
      refine gx_callV C 8 rfl (gm_0 hM) (c_X8_counts hM (gm_Ez E2 hz) (by omega) R2 (v := zs_el s.1 (if c = 105 then 9 else (c - 65).toNat)) (fun _ => ⟨g1, oel⟩)) (cwV 1 (gx_hts C) gX8_factor_X8_counts rfl rfl rfl (by decide +kernel) ⟨Nat.le_of_ble_eq_true rfl, Nat.le_of_ble_eq_true rfl⟩) rfl rfl (Nat.le_of_ble_eq_true rfl) ⟨Nat.le_refl _, Nat.le_refl _⟩ dX8_factor_33 (fun M3 h4 => ?_)
      obtain ⟨k1, k2, k3⟩ := h4
      refine gx_iconst C dX8_factor_36 ?_
      exact gx_zret C (by omega) dX8_factor_37 ⟨by rw [hfac]; exact ⟨rfl, k1, fun _ => ⟨by rw [k3 27 (by omega)]; exact g2, by rw [k3 36 (by omega)]; exact g3⟩⟩, gm_Xt (gm_X6 E2) k2⟩
    · refine gx_icmp_ne C dX8_factor_11 rfl hc (by unfold gx_3; omega) (fun hb11 => ?_) (fun hb11 => ?_)
      · have := fin (c - 65) (by rw [if_neg hb11]; omega)
        refine gx_iload_n C dX8_factor_19 rfl ?_
        refine gx_bipush C dX8_factor_20 rfl ?_
        refine gx_isub C dX8_factor_22 ?_
        exact this
      · have := fin 9 (by rw [if_pos (by omega)]; rfl)
        refine gx_bipush C dX8_factor_14 rfl ?_
        refine gx_goto C dX8_factor_16 rfl ?_
        exact this
  · have z0 : z = 0 := by rcases h1 with h | h; exact h; exact absurd (h2.mp h) hone
    subst z0
    refine gx_if_eq C dX8_factor_4 rfl (by unfold gx_3; omega) (fun hb4 => ?_) (fun hb4 => absurd (by omega) hb4)
    refine gx_iload_n C dX8_factor_38 rfl ?_
    refine gx_bipush C dX8_factor_39 rfl ?_
    refine gx_cut 51 (fun (_ : Unit) => [gx_R 0, gx_I c, gx_I k]) (fun _ => []) (fun _ => M1) (fun _ => c = 40 ∨ pm_ltr c) (fun _ hq => ?_) (fun fin => ?_)
    · have hfac : pm_fac s t c k = some (pm_opn t c k (if c = 40 then 0 else 3)) := by unfold pm_fac; rw [if_neg hone, if_pos hq]
      refine gx_aload_n C dX8_factor_51 rfl ?_
      refine gx_iload_n C dX8_factor_52 rfl ?_
      refine gx_iload_n C dX8_factor_53 rfl ?_
      refine gx_callV C 8 rfl (gm_0 hM) (c_X8_opens hM hz (t := t) (by omega) hR hk hc) (cwV 2 (gx_hts C) gX8_factor_X8_opens rfl rfl rfl (by decide +kernel) ⟨Nat.le_of_ble_eq_true rfl, Nat.le_of_ble_eq_true rfl⟩) rfl rfl (Nat.le_of_ble_eq_true rfl) ⟨Nat.le_refl _, Nat.le_refl _⟩ dX8_factor_54 (fun M2 h3 => ?_)
      obtain ⟨k1, k2⟩ := h3
      refine gx_aload_n C dX8_factor_57 rfl ?_
      refine gx_iload_n C dX8_factor_58 rfl ?_
      refine gx_bipush C dX8_factor_59 rfl ?_
      refine gx_icmp_ne C dX8_factor_61 rfl hc (by unfold gx_3; omega) (fun hb61 => ?_) (fun hb61 => ?_)
      · refine gx_iconst C dX8_factor_68 ?_
        refine gx_putI C 8 _ 15 rfl (gm_0 hM) rfl (by decide) nX8_factor_8 tyX8 tyX8_ok nmX8 (gx_hts C _ fX8_factor_178) rfl rfl dX8_factor_69 ?_
        refine gx_iconst C dX8_factor_72 ?_
        exact gx_zret C (by omega) dX8_factor_73 ⟨by rw [hfac, if_neg hb61]; exact ⟨rfl, k1 3 (by decide), fun h => absurd (show (3 : Nat) = 4 from h) (by decide)⟩, gm_Xt k2 (gm_X0 (by decide))⟩
      · refine gx_iconst C dX8_factor_64 ?_
        refine gx_goto C dX8_factor_65 rfl ?_
        refine gx_putI C 8 _ 15 rfl (gm_0 hM) rfl (by decide) nX8_factor_8 tyX8 tyX8_ok nmX8 (gx_hts C _ fX8_factor_178) rfl rfl dX8_factor_69 ?_
        refine gx_iconst C dX8_factor_72 ?_
        exact gx_zret C (by omega) dX8_factor_73 ⟨by rw [hfac, if_pos (by omega)]; exact ⟨rfl, k1 0 (by decide), fun h => absurd (show (0 : Nat) = 4 from h) (by decide)⟩, gm_Xt k2 (gm_X0 (by decide))⟩
    · refine gx_icmp_eq C dX8_factor_41 rfl hc (by unfold gx_3; omega) (fun hb41 => ?_) (fun hb41 => ?_)
      · exact fin () (Or.inl hb41)
      · refine gx_iload_n C dX8_factor_44 rfl ?_
        refine gx_statI C (c_X8_isLetter hc) (cwS 1 (gx_hts C) gX8_factor_X8_isLetter rfl rfl rfl (by decide +kernel) ⟨Nat.le_of_ble_eq_true rfl, Nat.le_of_ble_eq_true rfl⟩) rfl rfl (Nat.le_of_ble_eq_true rfl) ⟨Nat.le_refl _, Nat.le_refl _⟩ dX8_factor_45 (fun z M2 h3 => ?_)
        obtain ⟨rfl, h5, h6⟩ := h3
        refine gx_if_eq C dX8_factor_48 rfl (by unfold gx_3; omega) (fun hb48 => ?_) (fun hb48 => ?_)
        · have hl : ¬ pm_ltr c := fun h => by have := h6.mpr h; omega
          refine gx_iconst C dX8_factor_74 ?_
          exact gx_zret C (by omega) dX8_factor_75 ⟨by unfold pm_fac; rw [if_neg hone, if_neg (fun h => h.elim hb41 hl)], gm_Xr _⟩
        · exact fin () (Or.inr (h6.mp (by omega)))
set_option maxRecDepth 100000 in
set_option maxHeartbeats 4000000 in
theorem c_X8_behind {La : List gx_K} (hM : gm_H La) {M : gx_M} {s : sp_S} (hs : sp_ok s) (hSR : sm_R s M) {t : pm_S} (hd : pm_d t ≤ 59) (hR : pr_R (s.1 82) t M) (hw : pm_w t = 4) (hU : pr_U s M) {c : Int} {k : Nat} (hk : k < 60) (hc : gx_3 c) (hk2 : k < s.2.2.2.1) (hd1 : k = 1 → pm_one (s.2.2.2.2 0) → pm_d t = 0) : gx_Ci La yX8_behind wsX8_behind 5 [gx_R 0, gx_I c, gx_I k] M (fun z M' => pr_S s M (pm_beh s t (s.2.2.2.2 0) c k) z M') := by
  have hz := sm_Z hs hSR
  have hzm := gm_Zm hz
  have hp0 : M 5 ((0 : Int).toNat) = s.2.2.2.2 0 := hSR.2.2.2.2.2.2 0 (by omega)
  have hp03 : gx_3 (s.2.2.2.2 0) := by have := hs.2.2.2.2.2.2 0 (by omega); unfold gx_3; omega
  have hR0 := hR
  obtain ⟨h1, h2, h3, h4, h5, h6, h7, h8, h9⟩ := hR
  obtain ⟨g1, g2, g3, g4⟩ := h6 (pm_d t) (Nat.le_refl _)
  obtain ⟨z1, z2, z3, z4⟩ := h6 0 (Nat.zero_le _)
  have e00 := z4 0 (Nat.zero_le _)
  replace h3 : gx_hid _ := h3
  replace h4 : gx_hid _ := h4
  replace h9 : gx_hid _ := h9
  replace hd1 : gx_hid _ := hd1
  refine gx_start_i (L := [gx_R 0, gx_I c, gx_I k, gx_U, gx_U, gx_U, gx_U]) (by decide) rfl rfl (Nat.le_of_ble_eq_true rfl) rfl ?_
  intro _ _ _ _ _ _ _ _ _ _ _ _ C
  -- the two questions at the start
  refine gx_cut 51 (fun (q : Int × Int) => [gx_R 0, gx_I c, gx_I k, gx_I q.1, gx_I q.2, gx_U, gx_U]) (fun _ => []) (fun _ => M) (fun q => ((q.1 = 1 ∧ pm_d t = 0) ∨ (q.1 = 0 ∧ pm_d t ≠ 0)) ∧ ((q.2 = 1 ∧ pm_d t ≠ 0 ∧ pm_sm t (pm_d t) + 1 = pm_arg (pm_let t (pm_d t))) ∨ (q.2 = 0 ∧ ¬(pm_d t ≠ 0 ∧ pm_sm t (pm_d t) + 1 = pm_arg (pm_let t (pm_d t)))))) (fun q hq => ?_) (fun start => ?_)
  · obtain ⟨top, last⟩ := q
    obtain ⟨htop, hlast⟩ := hq
    simp only at htop hlast
    dsimp only
    have hp158 : ¬(c = 43 ∨ c = 45) → ¬(c = 44 ∧ pm_d t ≠ 0 ∧ pm_sm t (pm_d t) + 1 ≠ pm_arg (pm_let t (pm_d t))) → ¬(c = 41 ∧ pm_d t ≠ 0 ∧ pm_sm t (pm_d t) + 1 = pm_arg (pm_let t (pm_d t))) → pm_beh s t (s.2.2.2.2 0) c k = (if c = 58 ∧ k = 1 ∧ s.2.2.2.2 0 ≠ 105 ∧ pm_one (s.2.2.2.2 0) then some (pm_hd t 1 0) else if c = 61 ∧ pm_d t = 0 ∧ pm_f t = 0 ∧ pm_e t = 0 then some (pm_hd t 0 1) else none) := fun a b d => by
      unfold pm_beh
      rw [if_neg a, if_neg b, if_neg d]
    -- the last part: from 173 on
    refine gx_cut 173 (fun (_ : Unit) => [gx_R 0, gx_I c, gx_I k, gx_I top, gx_I last, gx_U, gx_U]) (fun _ => []) (fun _ => M) (fun _ => ¬(c = 43 ∨ c = 45) ∧ ¬(c = 44 ∧ pm_d t ≠ 0 ∧ pm_sm t (pm_d t) + 1 ≠ pm_arg (pm_let t (pm_d t))) ∧ ¬(c = 41 ∧ pm_d t ≠ 0 ∧ pm_sm t (pm_d t) + 1 = pm_arg (pm_let t (pm_d t)))) (fun _ hn => ?_) (fun tail => ?_)
    · have hbeh := hp158 hn.1 hn.2.1 hn.2.2
      -- begins, then parts
      refine gx_cut 301 (fun (q : (Int × Int) × gx_M) => [gx_R 0, gx_I c, gx_I k, gx_I top, gx_I last, gx_I q.1.1, gx_I q.1.2]) (fun _ => []) (fun q => q.2) (fun q => ((q.1.1 = 1 ∨ q.1.2 = 1) → pr_S s M (pm_beh s t (s.2.2.2.2 0) c k) 1 q.2) ∧ (q.1.1 = 0 ∧ q.1.2 = 0 → pr_S s M (pm_beh s t (s.2.2.2.2 0) c k) 0 q.2) ∧ (q.1.1 = 0 ∨ q.1.1 = 1) ∧ (q.1.2 = 0 ∨ q.1.2 = 1)) (fun q hq => ?_) (fun finish => ?_)
      · obtain ⟨⟨b1, b2⟩, M3⟩ := q
        obtain ⟨f1, f2, f3, f4⟩ := hq
        simp only at f1 f2 f3 f4
        dsimp only
        refine gx_iload C dX8_behind_301 rfl ?_
        refine gx_if_ne C dX8_behind_303 rfl (by unfold gx_3; omega) (fun hb303 => ?_) (fun hb303 => ?_)
        · refine gx_iconst C dX8_behind_311 ?_
          refine gx_goto C dX8_behind_312 rfl ?_
          exact gx_zret C (by omega) dX8_behind_316 (f1 (by omega))
        · refine gx_iload C dX8_behind_306 rfl ?_
          refine gx_if_eq C dX8_behind_308 rfl (by unfold gx_3; omega) (fun hb308 => ?_) (fun hb308 => ?_)
          · refine gx_iconst C dX8_behind_315 ?_
            exact gx_zret C (by omega) dX8_behind_316 (f2 (by omega))
          · refine gx_iconst C dX8_behind_311 ?_
            refine gx_goto C dX8_behind_312 rfl ?_
            exact gx_zret C (by omega) dX8_behind_316 (f1 (by omega))
      · refine gx_cut 245 (fun (q : Int × Int) => [gx_R 0, gx_I c, gx_I k, gx_I top, gx_I last, gx_I q.1, gx_I q.2]) (fun _ => []) (fun _ => M) (fun q => ((q.1 = 1 ∧ (c = 58 ∧ k = 1 ∧ s.2.2.2.2 0 ≠ 105 ∧ pm_one (s.2.2.2.2 0))) ∨ (q.1 = 0 ∧ ¬(c = 58 ∧ k = 1 ∧ s.2.2.2.2 0 ≠ 105 ∧ pm_one (s.2.2.2.2 0)))) ∧ ((q.2 = 1 ∧ (c = 61 ∧ pm_d t = 0 ∧ pm_f t = 0 ∧ pm_e t = 0)) ∨ (q.2 = 0 ∧ ¬(c = 61 ∧ pm_d t = 0 ∧ pm_f t = 0 ∧ pm_e t = 0)))) (fun q hq => ?_) (fun at245 => ?_)
        · obtain ⟨b1, b2⟩ := q
          obtain ⟨f1, f2⟩ := hq
          simp only at f1 f2
          dsimp only
          refine gx_cut 255 (fun (_ : Unit) => [gx_R 0, gx_I c, gx_I k, gx_I top, gx_I last, gx_I b1, gx_I b2]) (fun _ => []) (fun _ => M) (fun _ => b1 = 1 ∨ b2 = 1) (fun _ hb => ?_) (fun at255 => ?_)
          · have hd0 : pm_d t = 0 := by
              rcases hb with hb | hb
              · rcases f1 with ⟨-, q1, q2, q3, q4⟩ | ⟨q, -⟩
                · exact hd1 q2 q4
                · omega
              · rcases f2 with ⟨-, q1, q2, q3⟩ | ⟨q, -⟩
                · exact q2
                · omega
            have hbeh2 : pm_beh s t (s.2.2.2.2 0) c k = some (pm_hd t b1 b2) := by
              rw [hbeh]
              rcases f1 with ⟨q, q1⟩ | ⟨q, q1⟩
              · rw [if_pos q1]
                rcases f2 with ⟨r, r1⟩ | ⟨r, r1⟩
                · omega
                · rw [q, r]
              · rw [if_neg q1]
                rcases f2 with ⟨r, r1⟩ | ⟨r, r1⟩
                · rw [if_pos r1, q, r]
                · omega
            have b1z : b1 = 0 ∨ b1 = 1 := by omega
            have b2z : b2 = 0 ∨ b2 = 1 := by omega
            refine gx_aload_n C dX8_behind_255 rfl ?_
            refine gx_iload C dX8_behind_256 rfl ?_
            refine gx_putZ C 8 _ 16 rfl (gm_0 hM) rfl (by decide) nX8_behind_8 tyX8 tyX8_ok nmX8 (gx_hts C _ fX8_behind_209) rfl rfl (by omega) dX8_behind_258 ?_
            refine gx_aload_n C dX8_behind_261 rfl ?_
            refine gx_iload C dX8_behind_262 rfl ?_
            refine gx_putZ C 8 _ 17 rfl (gm_0 hM) rfl (by decide) nX8_behind_8 tyX8 tyX8_ok nmX8 (gx_hts C _ fX8_behind_212) rfl rfl (by omega) dX8_behind_264 ?_
            refine gx_aload_n C dX8_behind_267 rfl ?_
            refine gx_aload_n C dX8_behind_268 rfl ?_
            refine gx_iconst C dX8_behind_269 ?_
            refine gx_iconst C dX8_behind_270 ?_
            refine gx_callI C 8 rfl (gm_0 hM) (c_X8_pileOf (d := 0) (k := 0) rfl rfl) (cwV 2 (gx_hts C) gX8_behind_X8_pileOf rfl rfl rfl (by decide +kernel) ⟨Nat.le_of_ble_eq_true rfl, Nat.le_of_ble_eq_true rfl⟩) rfl rfl (Nat.le_of_ble_eq_true rfl) ⟨Nat.le_refl _, Nat.le_refl _⟩ dX8_behind_271 (fun z P1 hq => ?_)
            obtain ⟨rfl, rfl⟩ := hq
            refine gx_bipush C dX8_behind_274 rfl ?_
            refine gx_callV C 8 rfl (gm_0 hM) (c_X8_copy hM (a := 144 + 27 * 0 + 9 * 0) (t := 126) (by omega) (by omega) (by omega)) (cwV 2 (gx_hts C) gX8_behind_X8_copy rfl rfl rfl (by decide +kernel) ⟨Nat.le_of_ble_eq_true rfl, Nat.le_of_ble_eq_true rfl⟩) rfl rfl (Nat.le_of_ble_eq_true rfl) ⟨Nat.le_refl _, Nat.le_refl _⟩ dX8_behind_276 (fun P2 hq2 => ?_)
            refine gx_aload_n C dX8_behind_279 rfl ?_
            refine gx_aload_n C dX8_behind_280 rfl ?_
            refine gx_iconst C dX8_behind_281 ?_
            refine gx_iconst C dX8_behind_282 ?_
            refine gx_callI C 8 rfl (gm_0 hM) (c_X8_pileOf (d := 0) (k := 0) rfl rfl) (cwV 2 (gx_hts C) gX8_behind_X8_pileOf rfl rfl rfl (by decide +kernel) ⟨Nat.le_of_ble_eq_true rfl, Nat.le_of_ble_eq_true rfl⟩) rfl rfl (Nat.le_of_ble_eq_true rfl) ⟨Nat.le_refl _, Nat.le_refl _⟩ dX8_behind_283 (fun z P3 hq => ?_)
            obtain ⟨rfl, rfl⟩ := hq
            refine gx_callV C 8 rfl (gm_0 hM) (c_X8_blank hM (t := 144 + 27 * 0 + 9 * 0) (by omega)) (cwV 1 (gx_hts C) gX8_behind_X8_blank rfl rfl rfl (by decide +kernel) ⟨Nat.le_of_ble_eq_true rfl, Nat.le_of_ble_eq_true rfl⟩) rfl rfl (Nat.le_of_ble_eq_true rfl) ⟨Nat.le_refl _, Nat.le_refl _⟩ dX8_behind_286 (fun P4 hq4 => ?_)
            refine gx_aload_n C dX8_behind_289 rfl ?_
            refine gx_getR C 8 _ 12 rfl (gm_0 hM) rfl (by decide) nX8_behind_8 (gx_hts C _ fX8_behind_39) dX8_behind_290 ?_
            refine gx_iconst C dX8_behind_293 ?_
            refine gx_iconst C dX8_behind_294 ?_
            refine gx_iastore C (gm_10 hM) (by omega) dX8_behind_295 rfl ?_
            refine gx_aload_n C dX8_behind_296 rfl ?_
            refine gx_iconst C dX8_behind_297 ?_
            refine gx_putI C 8 _ 15 rfl (gm_0 hM) rfl (by decide) nX8_behind_8 tyX8 tyX8_ok nmX8 (gx_hts C _ fX8_behind_178) rfl rfl dX8_behind_298 ?_
            have q0 : ∀ j, j ≠ 15 → j ≠ 16 → j ≠ 17 → gx_u (gx_u P4 10 0 1) 0 15 0 0 j = M 0 j := fun j a b d => by
              rw [gx_u_ne (by omega), gx_u_nc (by decide), hq4, gx_blk_nc (by decide), hq2, gx_blk_nc (by decide), gx_u_ne (by omega), gx_u_ne (by omega)]
            have q16 : gx_u (gx_u P4 10 0 1) 0 15 0 0 16 = b1 := by
              rw [gx_u_ne (by decide), gx_u_nc (by decide), hq4, gx_blk_nc (by decide), hq2, gx_blk_nc (by decide), gx_u_ne (by decide), gx_u_eq]
            have q17 : gx_u (gx_u P4 10 0 1) 0 15 0 0 17 = b2 := by
              rw [gx_u_ne (by decide), gx_u_nc (by decide), hq4, gx_blk_nc (by decide), hq2, gx_blk_nc (by decide), gx_u_eq]
            have qc : ∀ c', c' ≠ 0 → c' ≠ 6 → c' ≠ 10 → gx_u (gx_u P4 10 0 1) 0 15 0 c' = M c' := fun c' a b d => by
              rw [gx_u_nc a, gx_u_nc d, hq4, gx_blk_nc b, hq2, gx_blk_nc b, gx_u_nc a, gx_u_nc a]
            have q6 : gx_u (gx_u P4 10 0 1) 0 15 0 6 = P4 6 := by rw [gx_u_nc (by decide), gx_u_nc (by decide)]
            have m6 : P3 6 = gx_blk (gx_u (gx_u M 0 16 b1) 0 17 b2) 6 126 9 (mx_of (M 6) 144) 6 := by rw [hq2]; rfl
            have q10 : ∀ j, gx_u (gx_u P4 10 0 1) 0 15 0 10 j = if j = 0 then 1 else M 10 j := fun j => by
              rw [gx_u_nc (by decide), gx_u_at]
              by_cases e : j = 0
              · rw [if_pos ⟨rfl, e⟩, if_pos e]
              · rw [if_neg (fun q => e q.2), if_neg e, hq4, gx_blk_nc (by decide), hq2, gx_blk_nc (by decide), gx_u_nc (by decide), gx_u_nc (by decide)]
            have qE : gm_X M (gx_u (gx_u P4 10 0 1) 0 15 0) := ⟨fun c' hc => qc c' (by omega) (by omega) (by omega), q0 4 (by decide) (by decide) (by decide), q0 6 (by decide) (by decide) (by decide)⟩
            have q144 : mx_of (P4 6) 144 = fun _ => 0 := by rw [hq4, mx_of_blk]; exact mx_cut (fun _ _ => rfl)
            have q126 : mx_of (P4 6) 126 = pm_P t 0 0 := by
              rw [hq4, mx_of_blo (by omega), m6, mx_of_of]
              exact e00.1
            have qo : ∀ o, (144 + 9 ≤ o ∨ o + 9 ≤ 126) → mx_of (P4 6) o = mx_of (M 6) o := fun o ho => by
              rw [hq4, mx_of_blo (by omega), m6, mx_of_blo (by omega)]
              rw [gx_u_nc (by decide), gx_u_nc (by decide)]
            have fin : pr_S s M (pm_beh s t (s.2.2.2.2 0) c k) 1 (gx_u (gx_u P4 10 0 1) 0 15 0) := by
              rw [hbeh2]
              refine ⟨⟨rfl, ⟨by rw [q0 14 (by decide) (by decide) (by decide)]; exact h1, gx_u_eq _ _ _ _, ⟨q16, q17, b1z, b2z⟩, by rw [q0 18 (by decide) (by decide) (by decide), q0 19 (by decide) (by decide) (by decide)]; exact h4, fun i a b => ?_, fun i a => ?_, fun _ => ?_, h8, fun _ => Or.inl ?_⟩, fun h => absurd (show (0 : Nat) = 4 from h) (by decide)⟩, qE⟩
              · have b : i ≤ pm_d t := b
                omega
              · have a : i ≤ pm_d t := a
                have i0 : i = 0 := by omega
                subst i0
                refine ⟨by rw [qc 9 (by decide) (by decide) (by decide)]; exact z1, by rw [q10, if_pos rfl]; exact (fn_up_eq (pm_of t) 0 1).symm, ?_, fun j hj => ?_⟩
                · show pm_sm t 0 ≤ 2 ∧ -9 ≤ fn_up (pm_of t) 0 1 0 ∧ fn_up (pm_of t) 0 1 0 ≤ 9
                  rw [fn_up_eq]
                  omega
                · have hj : j ≤ pm_sm t 0 := hj
                  have j0 : j = 0 := by omega
                  subst j0
                  show mx_of (_) (144 + 27 * 0 + 9 * 0) = fn_up (pm_P t) 0 (fn_up (pm_P t 0) 0 (fun _ => 0)) 0 0 ∧ mx_ok (s.1 82) (fn_up (pm_P t) 0 (fn_up (pm_P t 0) 0 (fun _ => 0)) 0 0)
                  rw [fn_up_eq, fn_up_eq, q6]
                  exact ⟨q144, fun i hi => by show 0 ≤ (0 : Int) ∧ (0 : Int) < s.1 82; omega⟩
              · rw [q6]
                exact ⟨q126, e00.2⟩
              · show fn_up (pm_of t) 0 1 (pm_d t) = 1
                rw [hd0, fn_up_eq]
            exact finish ((b1, b2), gx_u (gx_u P4 10 0 1) 0 15 0) ⟨fun _ => fin, fun h => by have h : b1 = 0 ∧ b2 = 0 := h; omega, b1z, b2z⟩
          · refine gx_iload C dX8_behind_245 rfl ?_
            refine gx_if_ne C dX8_behind_247 rfl (by unfold gx_3; omega) (fun hb247 => ?_) (fun hb247 => ?_)
            · exact at255 () (by omega)
            · refine gx_iload C dX8_behind_250 rfl ?_
              refine gx_if_eq C dX8_behind_252 rfl (by unfold gx_3; omega) (fun hb252 => ?_) (fun hb252 => ?_)
              · have hnone : pm_beh s t (s.2.2.2.2 0) c k = none := by
                  rw [hbeh, if_neg (by omega), if_neg (by omega)]
                exact finish ((b1, b2), M) ⟨fun h => by have h : b1 = 1 ∨ b2 = 1 := h; omega, fun _ => by rw [hnone]; exact ⟨rfl, gm_Xr M⟩, show b1 = 0 ∨ b1 = 1 by omega, show b2 = 0 ∨ b2 = 1 by omega⟩
              · exact at255 () (by omega)
        · -- what begins is
          refine gx_cut 214 (fun (b : Int) => [gx_R 0, gx_I c, gx_I k, gx_I top, gx_I last, gx_I b, gx_U]) (fun _ => []) (fun _ => M) (fun b => (b = 1 ∧ (c = 58 ∧ k = 1 ∧ s.2.2.2.2 0 ≠ 105 ∧ pm_one (s.2.2.2.2 0))) ∨ (b = 0 ∧ ¬(c = 58 ∧ k = 1 ∧ s.2.2.2.2 0 ≠ 105 ∧ pm_one (s.2.2.2.2 0)))) (fun b hb => ?_) (fun at214 => ?_)
          · refine gx_iload_n C dX8_behind_214 rfl ?_
            refine gx_bipush C dX8_behind_215 rfl ?_
            refine gx_icmp_ne C dX8_behind_217 rfl hc (by unfold gx_3; omega) (fun hb217 => ?_) (fun hb217 => ?_)
            · refine gx_iconst C dX8_behind_242 ?_
              refine gx_istore C dX8_behind_243 (by decide) rfl ?_
              exact at245 (b, 0) ⟨hb, Or.inr ⟨rfl, fun q => hb217 q.1⟩⟩
            · refine gx_iload_n C dX8_behind_220 rfl ?_
              refine gx_if_eq C dX8_behind_221 rfl (by unfold gx_3; omega) (fun hb221 => ?_) (fun hb221 => ?_)
              · refine gx_iconst C dX8_behind_242 ?_
                refine gx_istore C dX8_behind_243 (by decide) rfl ?_
                exact at245 (b, 0) ⟨hb, Or.inr ⟨rfl, fun q => by omega⟩⟩
              · refine gx_aload_n C dX8_behind_224 rfl ?_
                refine gx_getI C 8 _ 16 rfl (gm_0 hM) rfl (by decide) nX8_behind_8 (gx_hts C _ fX8_behind_209) dX8_behind_225 h3.1 ?_
                refine gx_if_ne C dX8_behind_228 rfl (gx_3b h3.2.2.1) (fun hb228 => ?_) (fun hb228 => ?_)
                · refine gx_iconst C dX8_behind_242 ?_
                  refine gx_istore C dX8_behind_243 (by decide) rfl ?_
                  exact at245 (b, 0) ⟨hb, Or.inr ⟨rfl, fun q => by omega⟩⟩
                · refine gx_aload_n C dX8_behind_231 rfl ?_
                  refine gx_getI C 8 _ 17 rfl (gm_0 hM) rfl (by decide) nX8_behind_8 (gx_hts C _ fX8_behind_212) dX8_behind_232 h3.2.1 ?_
                  refine gx_if_ne C dX8_behind_235 rfl (gx_3b h3.2.2.2) (fun hb235 => ?_) (fun hb235 => ?_)
                  · refine gx_iconst C dX8_behind_242 ?_
                    refine gx_istore C dX8_behind_243 (by decide) rfl ?_
                    exact at245 (b, 0) ⟨hb, Or.inr ⟨rfl, fun q => by omega⟩⟩
                  · refine gx_iconst C dX8_behind_238 ?_
                    refine gx_goto C dX8_behind_239 rfl ?_
                    refine gx_istore C dX8_behind_243 (by decide) rfl ?_
                    exact at245 (b, 1) ⟨hb, Or.inl ⟨rfl, by omega⟩⟩
          · refine gx_iload_n C dX8_behind_173 rfl ?_
            refine gx_bipush C dX8_behind_174 rfl ?_
            refine gx_icmp_ne C dX8_behind_176 rfl hc (by unfold gx_3; omega) (fun hb176 => ?_) (fun hb176 => ?_)
            · refine gx_iconst C dX8_behind_211 ?_
              refine gx_istore C dX8_behind_212 (by decide) rfl ?_
              exact at214 0 (Or.inr ⟨rfl, fun q => hb176 q.1⟩)
            · refine gx_iload_n C dX8_behind_179 rfl ?_
              refine gx_iconst C dX8_behind_180 ?_
              refine gx_icmp_ne C dX8_behind_181 rfl (by unfold gx_3; omega) (by unfold gx_3; omega) (fun hb181 => ?_) (fun hb181 => ?_)
              · refine gx_iconst C dX8_behind_211 ?_
                refine gx_istore C dX8_behind_212 (by decide) rfl ?_
                exact at214 0 (Or.inr ⟨rfl, fun q => by omega⟩)
              · refine gx_aload_n C dX8_behind_184 rfl ?_
                refine gx_getR C 8 _ 5 rfl (gm_0 hM) rfl (by decide) nX8_behind_8 (gx_hts C _ fX8_behind_23) dX8_behind_185 ?_
                refine gx_iconst C dX8_behind_188 ?_
                refine gx_caload C (gm_5 hM) (by omega) dX8_behind_189 hp0 ?_
                refine gx_bipush C dX8_behind_190 rfl ?_
                refine gx_icmp_eq C dX8_behind_192 rfl hp03 (by unfold gx_3; omega) (fun hb192 => ?_) (fun hb192 => ?_)
                · refine gx_iconst C dX8_behind_211 ?_
                  refine gx_istore C dX8_behind_212 (by decide) rfl ?_
                  exact at214 0 (Or.inr ⟨rfl, fun q => q.2.2.1 hb192⟩)
                · refine gx_aload_n C dX8_behind_195 rfl ?_
                  refine gx_getR C 8 _ 5 rfl (gm_0 hM) rfl (by decide) nX8_behind_8 (gx_hts C _ fX8_behind_23) dX8_behind_196 ?_
                  refine gx_iconst C dX8_behind_199 ?_
                  refine gx_caload C (gm_5 hM) (by omega) dX8_behind_200 hp0 ?_
                  refine gx_statI C (c_X8_isOne hp03) (cwS 1 (gx_hts C) gX8_behind_X8_isOne rfl rfl rfl (by decide +kernel) ⟨Nat.le_of_ble_eq_true rfl, Nat.le_of_ble_eq_true rfl⟩) rfl rfl (Nat.le_of_ble_eq_true rfl) ⟨Nat.le_refl _, Nat.le_refl _⟩ dX8_behind_201 (fun z P1 hq => ?_)
                  obtain ⟨rfl, q1, q2⟩ := hq
                  refine gx_if_eq C dX8_behind_204 rfl (by unfold gx_3; omega) (fun hb204 => ?_) (fun hb204 => ?_)
                  · refine gx_iconst C dX8_behind_211 ?_
                    refine gx_istore C dX8_behind_212 (by decide) rfl ?_
                    exact at214 0 (Or.inr ⟨rfl, fun q => by have := q2.mpr q.2.2.2; omega⟩)
                  · refine gx_iconst C dX8_behind_207 ?_
                    refine gx_goto C dX8_behind_208 rfl ?_
                    refine gx_istore C dX8_behind_212 (by decide) rfl ?_
                    exact at214 1 (Or.inl ⟨rfl, by omega, by omega, hb192, q2.mp (by omega)⟩)
    · -- the signs first
      have sgn : ∀ q : Int, q = (if c = 43 then 1 else -1) → (c = 43 ∨ c = 45) → pr_S s M (pm_beh s t (s.2.2.2.2 0) c k) 1 (gx_u (gx_u M 10 (pm_d t) q) 0 15 0) := fun q hq hcs => by
        have hbeh2 : pm_beh s t (s.2.2.2.2 0) c k = some (pm_sgn t c) := by unfold pm_beh; rw [if_pos hcs]
        rw [hbeh2]
        have k0 : ∀ j, j ≠ 15 → gx_u (gx_u M 10 (pm_d t) q) 0 15 0 0 j = M 0 j := fun j a => by rw [gx_u_ne (by omega), gx_u_nc (by decide)]
        have kc : ∀ c', c' ≠ 0 → c' ≠ 10 → gx_u (gx_u M 10 (pm_d t) q) 0 15 0 c' = M c' := fun c' a b => by rw [gx_u_nc a, gx_u_nc b]
        refine ⟨⟨rfl, ⟨by rw [k0 14 (by decide)]; exact h1, gx_u_eq _ _ _ _, by rw [k0 16 (by decide), k0 17 (by decide)]; exact h3, by rw [k0 18 (by decide), k0 19 (by decide)]; exact h4, fun i a b => by rw [kc 8 (by decide) (by decide), kc 11 (by decide) (by decide)]; exact h5 i a b, fun i a => ?_, fun a => by rw [kc 6 (by decide) (by decide)]; exact h7 a, h8, fun _ => ?_⟩, fun h => absurd (show (0 : Nat) = 4 from h) (by decide)⟩, gm_Xt (gm_Xu (by decide)) (gm_X0 (by decide))⟩
        · obtain ⟨q1, q2, q3, q4⟩ := h6 i a
          rw [kc 9 (by decide) (by decide), kc 6 (by decide) (by decide), gx_u_nc (by decide)]
          show _ = _ ∧ _ = fn_up (pm_of t) (pm_d t) (if c = 43 then 1 else -1) i ∧ (pm_sm t i ≤ 2 ∧ -9 ≤ fn_up (pm_of t) (pm_d t) (if c = 43 then 1 else -1) i ∧ fn_up (pm_of t) (pm_d t) (if c = 43 then 1 else -1) i ≤ 9) ∧ _
          by_cases e : i = pm_d t
          · subst e
            rw [gx_u_eq, fn_up_eq]
            exact ⟨q1, hq, by split <;> omega, q4⟩
          · rw [gx_u_ne (by omega), fn_up_ne e]
            exact ⟨q1, q2, q3, q4⟩
        · show fn_up (pm_of t) (pm_d t) (if c = 43 then 1 else -1) (pm_d t) = 1 ∨ fn_up (pm_of t) (pm_d t) (if c = 43 then 1 else -1) (pm_d t) = -1
          rw [fn_up_eq]
          by_cases e : c = 43
          · rw [if_pos e]
            exact Or.inl rfl
          · rw [if_neg e]
            exact Or.inr rfl
      refine gx_cut 63 (fun (_ : Unit) => [gx_R 0, gx_I c, gx_I k, gx_I top, gx_I last, gx_U, gx_U]) (fun _ => []) (fun _ => M) (fun _ => c = 43 ∨ c = 45) (fun _ hcs => ?_) (fun hsgn => ?_)
      · refine gx_aload_n C dX8_behind_63 rfl ?_
        refine gx_getR C 8 _ 12 rfl (gm_0 hM) rfl (by decide) nX8_behind_8 (gx_hts C _ fX8_behind_39) dX8_behind_64 ?_
        refine gx_aload_n C dX8_behind_67 rfl ?_
        refine gx_getI C 8 _ 14 rfl (gm_0 hM) rfl (by decide) nX8_behind_8 (gx_hts C _ fX8_behind_167) dX8_behind_68 h1 ?_
        refine gx_iload_n C dX8_behind_71 rfl ?_
        refine gx_bipush C dX8_behind_72 rfl ?_
        refine gx_icmp_ne C dX8_behind_74 rfl hc (by unfold gx_3; omega) (fun hb74 => ?_) (fun hb74 => ?_)
        · refine gx_iconst C dX8_behind_81 ?_
          refine gx_iastore C (gm_10 hM) (by omega) dX8_behind_82 (show _ = pm_d t by omega) ?_
          refine gx_aload_n C dX8_behind_83 rfl ?_
          refine gx_iconst C dX8_behind_84 ?_
          refine gx_putI C 8 _ 15 rfl (gm_0 hM) rfl (by decide) nX8_behind_8 tyX8 tyX8_ok nmX8 (gx_hts C _ fX8_behind_178) rfl rfl dX8_behind_85 ?_
          refine gx_iconst C dX8_behind_88 ?_
          exact gx_zret C (by omega) dX8_behind_89 (sgn (-1) (by rw [if_neg hb74]) hcs)
        · refine gx_iconst C dX8_behind_77 ?_
          refine gx_goto C dX8_behind_78 rfl ?_
          refine gx_iastore C (gm_10 hM) (by omega) dX8_behind_82 (show _ = pm_d t by omega) ?_
          refine gx_aload_n C dX8_behind_83 rfl ?_
          refine gx_iconst C dX8_behind_84 ?_
          refine gx_putI C 8 _ 15 rfl (gm_0 hM) rfl (by decide) nX8_behind_8 tyX8 tyX8_ok nmX8 (gx_hts C _ fX8_behind_178) rfl rfl dX8_behind_85 ?_
          refine gx_iconst C dX8_behind_88 ?_
          exact gx_zret C (by omega) dX8_behind_89 (sgn 1 (by rw [if_pos (by omega)]) hcs)
      · refine gx_cut 156 (fun (_ : Unit) => [gx_R 0, gx_I c, gx_I k, gx_I top, gx_I last, gx_U, gx_U]) (fun _ => []) (fun _ => M) (fun _ => ¬(c = 43 ∨ c = 45) ∧ ¬(c = 44 ∧ pm_d t ≠ 0 ∧ pm_sm t (pm_d t) + 1 ≠ pm_arg (pm_let t (pm_d t)))) (fun _ hn => ?_) (fun at156 => ?_)
        · refine gx_iload_n C dX8_behind_156 rfl ?_
          refine gx_bipush C dX8_behind_157 rfl ?_
          refine gx_icmp_ne C dX8_behind_159 rfl hc (by unfold gx_3; omega) (fun hb159 => ?_) (fun hb159 => ?_)
          · exact tail () ⟨hn.1, hn.2, fun q => hb159 q.1⟩
          · refine gx_iload C dX8_behind_162 rfl ?_
            refine gx_if_eq C dX8_behind_164 rfl (by unfold gx_3; omega) (fun hb164 => ?_) (fun hb164 => ?_)
            · exact tail () ⟨hn.1, hn.2, fun q => by omega⟩
            · have hl : pm_d t ≠ 0 ∧ pm_sm t (pm_d t) + 1 = pm_arg (pm_let t (pm_d t)) := by omega
              have hbeh2 : pm_beh s t (s.2.2.2.2 0) c k = some (pm_cls s t) := by
                unfold pm_beh
                rw [if_neg hn.1, if_neg hn.2, if_pos ⟨by omega, hl⟩]
              refine gx_aload_n C dX8_behind_167 rfl ?_
              refine gx_callV C 8 rfl (gm_0 hM) (c_X8_closes hM hs hz (t := t) (by omega) (by omega) hw hl.2 hR0 hU) (cwV 0 (gx_hts C) gX8_behind_X8_closes rfl rfl rfl (by decide +kernel) ⟨Nat.le_of_ble_eq_true rfl, Nat.le_of_ble_eq_true rfl⟩) rfl rfl (Nat.le_of_ble_eq_true rfl) ⟨Nat.le_refl _, Nat.le_refl _⟩ dX8_behind_168 (fun P1 hq => ?_)
              refine gx_iconst C dX8_behind_171 ?_
              exact gx_zret C (by omega) dX8_behind_172 ⟨by rw [hbeh2]; exact ⟨rfl, hq.1, fun _ => hq.2.2⟩, hq.2.1⟩
        · refine gx_cut 90 (fun (_ : Unit) => [gx_R 0, gx_I c, gx_I k, gx_I top, gx_I last, gx_U, gx_U]) (fun _ => []) (fun _ => M) (fun _ => ¬(c = 43 ∨ c = 45)) (fun _ hn => ?_) (fun at90 => ?_)
          · refine gx_iload_n C dX8_behind_90 rfl ?_
            refine gx_bipush C dX8_behind_91 rfl ?_
            refine gx_icmp_ne C dX8_behind_93 rfl hc (by unfold gx_3; omega) (fun hb93 => ?_) (fun hb93 => ?_)
            · exact at156 () ⟨hn, fun q => hb93 q.1⟩
            · refine gx_iload_n C dX8_behind_96 rfl ?_
              refine gx_if_ne C dX8_behind_97 rfl (by unfold gx_3; omega) (fun hb97 => ?_) (fun hb97 => ?_)
              · exact at156 () ⟨hn, fun q => by omega⟩
              · refine gx_iload C dX8_behind_100 rfl ?_
                refine gx_if_ne C dX8_behind_102 rfl (by unfold gx_3; omega) (fun hb102 => ?_) (fun hb102 => ?_)
                · exact at156 () ⟨hn, fun q => by omega⟩
                · have hl : pm_d t ≠ 0 ∧ pm_sm t (pm_d t) + 1 ≠ pm_arg (pm_let t (pm_d t)) := by omega
                  have hbeh2 : pm_beh s t (s.2.2.2.2 0) c k = some (pm_com t) := by
                    unfold pm_beh
                    rw [if_neg hn, if_pos ⟨by omega, hl⟩]
                  obtain ⟨l1, l2, l3, l4, l5⟩ := h5 (pm_d t) (by omega) (Nat.le_refl _)
                  have larg := pm_arg_b (pm_let t (pm_d t))
                  have h14 : gx_u M 9 (pm_d t) ((pm_sm t (pm_d t) : Int) + 1) 0 14 = (pm_d t : Int) := by rw [gx_u_nc (by decide)]; exact h1
                  have h9u : gx_u M 9 (pm_d t) ((pm_sm t (pm_d t) : Int) + 1) 9 ((pm_d t : Int).toNat) = (pm_sm t (pm_d t) : Int) + 1 := gx_u_eq _ _ _ _
                  refine gx_aload_n C dX8_behind_105 rfl ?_
                  refine gx_getR C 8 _ 11 rfl (gm_0 hM) rfl (by decide) nX8_behind_8 (gx_hts C _ fX8_behind_36) dX8_behind_106 ?_
                  refine gx_aload_n C dX8_behind_109 rfl ?_
                  refine gx_getI C 8 _ 14 rfl (gm_0 hM) rfl (by decide) nX8_behind_8 (gx_hts C _ fX8_behind_167) dX8_behind_110 h1 ?_
                  refine gx_dup2 C dX8_behind_113 rfl rfl ?_
                  refine gx_iaload C (gm_9 hM) (by omega) dX8_behind_114 g1 ?_
                  refine gx_iconst C dX8_behind_115 ?_
                  refine gx_iadd C dX8_behind_116 ?_
                  refine gx_iastore C (gm_9 hM) (by omega) dX8_behind_117 (show _ = pm_d t by omega) ?_
                  refine gx_aload_n C dX8_behind_118 rfl ?_
                  refine gx_aload_n C dX8_behind_119 rfl ?_
                  refine gx_aload_n C dX8_behind_120 rfl ?_
                  refine gx_getI C 8 _ 14 rfl (gm_0 hM) rfl (by decide) nX8_behind_8 (gx_hts C _ fX8_behind_167) dX8_behind_121 h14 ?_
                  refine gx_aload_n C dX8_behind_124 rfl ?_
                  refine gx_getR C 8 _ 11 rfl (gm_0 hM) rfl (by decide) nX8_behind_8 (gx_hts C _ fX8_behind_36) dX8_behind_125 ?_
                  refine gx_aload_n C dX8_behind_128 rfl ?_
                  refine gx_getI C 8 _ 14 rfl (gm_0 hM) rfl (by decide) nX8_behind_8 (gx_hts C _ fX8_behind_167) dX8_behind_129 h14 ?_
                  refine gx_iaload C (gm_9 hM) (by omega) dX8_behind_132 h9u ?_
                  refine gx_callI C 8 rfl (gm_0 hM) (c_X8_pileOf (d := pm_d t) (k := pm_sm t (pm_d t) + 1) rfl (by omega)) (cwV 2 (gx_hts C) gX8_behind_X8_pileOf rfl rfl rfl (by decide +kernel) ⟨Nat.le_of_ble_eq_true rfl, Nat.le_of_ble_eq_true rfl⟩) rfl rfl (Nat.le_of_ble_eq_true rfl) ⟨Nat.le_refl _, Nat.le_refl _⟩ dX8_behind_133 (fun z P1 hq => ?_)
                  obtain ⟨rfl, rfl⟩ := hq
                  refine gx_callV C 8 rfl (gm_0 hM) (c_X8_blank hM (t := 144 + 27 * pm_d t + 9 * (pm_sm t (pm_d t) + 1)) (by omega)) (cwV 1 (gx_hts C) gX8_behind_X8_blank rfl rfl rfl (by decide +kernel) ⟨Nat.le_of_ble_eq_true rfl, Nat.le_of_ble_eq_true rfl⟩) rfl rfl (Nat.le_of_ble_eq_true rfl) ⟨Nat.le_refl _, Nat.le_refl _⟩ dX8_behind_136 (fun P2 hq => ?_)
                  refine gx_aload_n C dX8_behind_139 rfl ?_
                  refine gx_getR C 8 _ 12 rfl (gm_0 hM) rfl (by decide) nX8_behind_8 (gx_hts C _ fX8_behind_39) dX8_behind_140 ?_
                  refine gx_aload_n C dX8_behind_143 rfl ?_
                  refine gx_getI C 8 _ 14 rfl (gm_0 hM) rfl (by decide) nX8_behind_8 (gx_hts C _ fX8_behind_167) dX8_behind_144 (show P2 0 14 = (pm_d t : Int) by rw [hq, gx_blk_nc (by decide), gx_u_nc (by decide)]; exact h1) ?_
                  refine gx_iconst C dX8_behind_147 ?_
                  refine gx_iastore C (gm_10 hM) (by omega) dX8_behind_148 (show _ = pm_d t by omega) ?_
                  refine gx_aload_n C dX8_behind_149 rfl ?_
                  refine gx_iconst C dX8_behind_150 ?_
                  refine gx_putI C 8 _ 15 rfl (gm_0 hM) rfl (by decide) nX8_behind_8 tyX8 tyX8_ok nmX8 (gx_hts C _ fX8_behind_178) rfl rfl dX8_behind_151 ?_
                  refine gx_iconst C dX8_behind_154 ?_
                  have k0 : ∀ j, j ≠ 15 → gx_u (gx_u P2 10 (pm_d t) 1) 0 15 0 0 j = M 0 j := fun j a => by rw [gx_u_ne (by omega), gx_u_nc (by decide), hq, gx_blk_nc (by decide), gx_u_nc (by decide)]
                  have kc : ∀ c', c' ≠ 0 → c' ≠ 6 → c' ≠ 9 → c' ≠ 10 → gx_u (gx_u P2 10 (pm_d t) 1) 0 15 0 c' = M c' := fun c' a b d e => by rw [gx_u_nc a, gx_u_nc e, hq, gx_blk_nc b, gx_u_nc d]
                  have k6 : gx_u (gx_u P2 10 (pm_d t) 1) 0 15 0 6 = P2 6 := by rw [gx_u_nc (by decide), gx_u_nc (by decide)]
                  have k9 : gx_u (gx_u P2 10 (pm_d t) 1) 0 15 0 9 = gx_u M 9 (pm_d t) ((pm_sm t (pm_d t) : Int) + 1) 9 := by rw [gx_u_nc (by decide), gx_u_nc (by decide), hq, gx_blk_nc (by decide)]
                  have k10 : ∀ j, gx_u (gx_u P2 10 (pm_d t) 1) 0 15 0 10 j = if j = pm_d t then 1 else M 10 j := fun j => by
                    rw [gx_u_nc (by decide), gx_u_at]
                    by_cases e : j = pm_d t
                    · rw [if_pos ⟨rfl, e⟩, if_pos e]
                    · rw [if_neg (fun q => e q.2), if_neg e, hq, gx_blk_nc (by decide), gx_u_nc (by decide)]
                  have ko : ∀ o, (o + 9 ≤ 144 + 27 * pm_d t + 9 * (pm_sm t (pm_d t) + 1) ∨ 144 + 27 * pm_d t + 9 * (pm_sm t (pm_d t) + 1) + 9 ≤ o) → mx_of (P2 6) o = mx_of (M 6) o := fun o ho => by rw [hq, mx_of_blo (by omega), gx_u_nc (by decide)]
                  have fin : pr_S s M (pm_beh s t (s.2.2.2.2 0) c k) 1 (gx_u (gx_u P2 10 (pm_d t) 1) 0 15 0) := by
                    rw [hbeh2]
                    refine ⟨⟨rfl, ⟨by rw [k0 14 (by decide)]; exact h1, gx_u_eq _ _ _ _, by rw [k0 16 (by decide), k0 17 (by decide)]; exact h3, by rw [k0 18 (by decide), k0 19 (by decide)]; exact h4, fun i a b => ?_, fun i a => ?_, fun a => by rw [k6, ko 126 (by omega)]; exact h7 a, ?_, fun _ => Or.inl (fn_up_eq _ _ _)⟩, fun h => absurd (show (0 : Nat) = 4 from h) (by decide)⟩, ⟨fun c' hc' => kc c' (by omega) (by omega) (by omega) (by omega), k0 4 (by decide), k0 6 (by decide)⟩⟩
                    · obtain ⟨q1, q2, q3, q4, q5⟩ := h5 i a b
                      rw [kc 8 (by decide) (by decide) (by decide) (by decide), kc 11 (by decide) (by decide) (by decide) (by decide)]
                      refine ⟨q1, q2, q3, q4, ?_⟩
                      show fn_up (pm_sm t) (pm_d t) (pm_sm t (pm_d t) + 1) i < pm_arg (pm_let t i)
                      by_cases e : i = pm_d t
                      · subst e
                        rw [fn_up_eq]
                        omega
                      · rw [fn_up_ne e]
                        exact q5
                    · have a : i ≤ pm_d t := a
                      obtain ⟨q1, q2, q3, q4⟩ := h6 i a
                      rw [k9, k10, k6]
                      show _ = ((fn_up (pm_sm t) (pm_d t) (pm_sm t (pm_d t) + 1) i : Nat) : Int) ∧ _ = fn_up (pm_of t) (pm_d t) 1 i ∧ (fn_up (pm_sm t) (pm_d t) (pm_sm t (pm_d t) + 1) i ≤ 2 ∧ -9 ≤ fn_up (pm_of t) (pm_d t) 1 i ∧ fn_up (pm_of t) (pm_d t) 1 i ≤ 9) ∧ ∀ j, j ≤ fn_up (pm_sm t) (pm_d t) (pm_sm t (pm_d t) + 1) i → _ = fn_up (pm_P t) (pm_d t) (fn_up (pm_P t (pm_d t)) (pm_sm t (pm_d t) + 1) (fun _ => 0)) i j ∧ mx_ok (s.1 82) (fn_up (pm_P t) (pm_d t) (fn_up (pm_P t (pm_d t)) (pm_sm t (pm_d t) + 1) (fun _ => 0)) i j)
                      by_cases e : i = pm_d t
                      · subst e
                        rw [fn_up_eq, fn_up_eq, fn_up_eq, if_pos rfl, gx_u_eq]
                        refine ⟨by omega, rfl, by omega, fun j hj => ?_⟩
                        by_cases e2 : j = pm_sm t (pm_d t) + 1
                        · subst e2
                          rw [fn_up_eq, hq, mx_of_blk]
                          exact ⟨mx_cut (fun _ _ => rfl), fun i hi => by show 0 ≤ (0 : Int) ∧ (0 : Int) < s.1 82; omega⟩
                        · rw [fn_up_ne e2, ko _ (by omega)]
                          exact q4 j (by omega)
                      · rw [fn_up_ne e, fn_up_ne e, fn_up_ne e, if_neg e, gx_u_ne (by omega)]
                        exact ⟨q1, q2, q3, fun j hj => by rw [ko _ (by omega)]; exact q4 j hj⟩
                    · show fn_up (pm_sm t) (pm_d t) (pm_sm t (pm_d t) + 1) 0 = 0
                      rw [fn_up_ne (by omega)]
                      exact h8
                  exact gx_zret C (by omega) dX8_behind_155 fin
          · refine gx_iload_n C dX8_behind_51 rfl ?_
            refine gx_bipush C dX8_behind_52 rfl ?_
            refine gx_icmp_eq C dX8_behind_54 rfl hc (by unfold gx_3; omega) (fun hb54 => ?_) (fun hb54 => ?_)
            · exact hsgn () (Or.inl hb54)
            · refine gx_iload_n C dX8_behind_57 rfl ?_
              refine gx_bipush C dX8_behind_58 rfl ?_
              refine gx_icmp_ne C dX8_behind_60 rfl hc (by unfold gx_3; omega) (fun hb60 => ?_) (fun hb60 => ?_)
              · exact at90 () (by omega)
              · exact hsgn () (Or.inr (by omega))
  · refine gx_aload_n C dX8_behind_0 rfl ?_
    refine gx_getI C 8 _ 14 rfl (gm_0 hM) rfl (by decide) nX8_behind_8 (gx_hts C _ fX8_behind_167) dX8_behind_1 h1 ?_
    refine gx_if_ne C dX8_behind_4 rfl (by unfold gx_3; omega) (fun hb4 => ?_) (fun hb4 => ?_)
    · have hdn : pm_d t ≠ 0 := by omega
      obtain ⟨l1, l2, l3, l4, l5⟩ := h5 (pm_d t) (by omega) (Nat.le_refl _)
      refine gx_iconst C dX8_behind_11 ?_
      refine gx_istore_n C dX8_behind_12 (by decide) rfl ?_
      refine gx_iload_n C dX8_behind_13 rfl ?_
      refine gx_if_ne C dX8_behind_14 rfl (by unfold gx_3; omega) (fun hb14 => absurd hb14 (by omega)) (fun hb14 => ?_)
      refine gx_aload_n C dX8_behind_17 rfl ?_
      refine gx_getR C 8 _ 11 rfl (gm_0 hM) rfl (by decide) nX8_behind_8 (gx_hts C _ fX8_behind_36) dX8_behind_18 ?_
      refine gx_aload_n C dX8_behind_21 rfl ?_
      refine gx_getI C 8 _ 14 rfl (gm_0 hM) rfl (by decide) nX8_behind_8 (gx_hts C _ fX8_behind_167) dX8_behind_22 h1 ?_
      refine gx_iaload C (gm_9 hM) (by omega) dX8_behind_25 g1 ?_
      refine gx_iconst C dX8_behind_26 ?_
      refine gx_iadd C dX8_behind_27 ?_
      refine gx_aload_n C dX8_behind_28 rfl ?_
      refine gx_aload_n C dX8_behind_29 rfl ?_
      refine gx_getR C 8 _ 10 rfl (gm_0 hM) rfl (by decide) nX8_behind_8 (gx_hts C _ fX8_behind_33) dX8_behind_30 ?_
      refine gx_aload_n C dX8_behind_33 rfl ?_
      refine gx_getI C 8 _ 14 rfl (gm_0 hM) rfl (by decide) nX8_behind_8 (gx_hts C _ fX8_behind_167) dX8_behind_34 h1 ?_
      refine gx_iaload C (gm_8 hM) (by omega) dX8_behind_37 l1 ?_
      refine gx_callI C 8 rfl (gm_0 hM) (c_X8_sumsOf l3) (cwV 1 (gx_hts C) gX8_behind_X8_sumsOf rfl rfl rfl (by decide +kernel) ⟨Nat.le_of_ble_eq_true rfl, Nat.le_of_ble_eq_true rfl⟩) rfl rfl (Nat.le_of_ble_eq_true rfl) ⟨Nat.le_refl _, Nat.le_refl _⟩ dX8_behind_38 (fun z P1 hq => ?_)
      obtain ⟨rfl, rfl⟩ := hq
      have larg := pm_arg_b (pm_let t (pm_d t))
      refine gx_icmp_ne C dX8_behind_41 rfl (by unfold gx_3; omega) (by unfold gx_3; omega) (fun hb41 => ?_) (fun hb41 => ?_)
      · refine gx_iconst C dX8_behind_48 ?_
        refine gx_istore C dX8_behind_49 (by decide) rfl ?_
        exact start (0, 0) ⟨Or.inr ⟨rfl, hdn⟩, Or.inr ⟨rfl, fun q => by omega⟩⟩
      · refine gx_iconst C dX8_behind_44 ?_
        refine gx_goto C dX8_behind_45 rfl ?_
        refine gx_istore C dX8_behind_49 (by decide) rfl ?_
        exact start (0, 1) ⟨Or.inr ⟨rfl, hdn⟩, Or.inl ⟨rfl, hdn, by omega⟩⟩
    · refine gx_iconst C dX8_behind_7 ?_
      refine gx_goto C dX8_behind_8 rfl ?_
      refine gx_istore_n C dX8_behind_12 (by decide) rfl ?_
      refine gx_iload_n C dX8_behind_13 rfl ?_
      refine gx_if_ne C dX8_behind_14 rfl (by unfold gx_3; omega) (fun hb14 => ?_) (fun hb14 => absurd (by omega) hb14)
      refine gx_iconst C dX8_behind_48 ?_
      refine gx_istore C dX8_behind_49 (by decide) rfl ?_
      exact start (1, 0) ⟨Or.inl ⟨rfl, by omega⟩, Or.inr ⟨rfl, fun q => by omega⟩⟩
