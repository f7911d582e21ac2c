/-- a bracket ends -/
theorem cq_close {s : sp_S} (hs : sp_ok s) {k : Nat} {bef : Int} {t t' : pm_S} {o : Nat} {F : Nat → fr_S} (h : cq_F s k bef t o F) {p0 : Int} (hst : pm_step s t p0 41 k = some t') : 1 ≤ o ∧ o = pm_d t ∧ (mx_ok (s.1 82) (F o).1.1 ∧ ((F o).2.2.1 = 112 ∨ (F o).2.2.1 = 116 ∨ (F o).2.2.1 = 117 → mx_ok (s.1 82) (F o).1.2.1) ∧ ((F o).2.2.1 = 116 → mx_ok (s.1 82) (F o).1.2.2) ∧ ((0 ≤ (F o).2.2.1 ∧ (F o).2.2.1 < 112) ∨ (F o).2.2.1 = 112 ∨ (F o).2.2.1 = 116 ∨ (F o).2.2.1 = 117 ∨ (F o).2.2.1 = 118)) ∧ (mx_ok (s.1 82) (F (o - 1)).1.1 ∧ ((F (o - 1)).2.2.2.2.1 = 1 ∨ (F (o - 1)).2.2.2.2.1 = -1) ∧ (0 ≤ (F (o - 1)).2.2.2.2.2 ∧ (F (o - 1)).2.2.2.2.2 ≤ 9)) ∧ (∀ S, fr_fn (s.1 82) (s.1 81) (zs_el s.1 8) (zs_el s.1 9) (F o) (some S) → mx_ok (s.1 82) S ∧ cq_F s (k + 1) 41 t' (o - 1) (fn_up F (o - 1) (fr_ad (s.1 82) (F (o - 1)) S)) ∧ pm_L t' = pm_L t ∧ pm_e t' = pm_e t) ∧ (fr_fn (s.1 82) (s.1 81) (zs_el s.1 8) (zs_el s.1 9) (F o) none → pm_stop t' = (F o).2.2.2.1 ∧ pm_on t' = 0) := by
  have h : cq_C s k bef (pm_d t) (pm_w t) (pm_on t) (pm_stop t) (pm_let t) (pm_sm t) (pm_of t) (pm_pl t) (pm_P t) o F := h
  obtain ⟨⟨h1, h1w, h1n, h1s⟩, h2, h3, h4, h5, h6, h7, h8, h9⟩ := h
  obtain ⟨hw, hd, hsm, rfl⟩ := pm_i41 h1w hst
  rw [if_neg (by omega)] at h1
  subst h1
  have hm := sp_p hs
  have h3m := ls_3 hm
  have hn := sp_nn hs
  have hni : s.1 81 = ((zs_nn s : Nat) : Int) := by have := hs.1.1; unfold zs_nn; omega
  have hU := sp_Vel hs (r := 8) (by decide)
  have hV := sp_V9 hs
  obtain ⟨g1, g2, g3, g4, g5, g6, g7⟩ := h2 _ (Nat.le_refl (pm_d t))
  obtain ⟨e1, e2, e3, e4, e5, e6, e7⟩ := h2 (pm_d t - 1) (by omega)
  have vS := h7 _ _ (Nat.le_refl (pm_d t)) (Nat.le_refl (pm_sm t (pm_d t)))
  have v1 := h7 (pm_d t - 1) _ (by omega) (Nat.le_refl (pm_sm t (pm_d t - 1)))
  have g5 := g5 (by omega)
  have hd1 : ¬ pm_d t ≤ pm_d t - 1 := by omega
  have fin : ∀ S, sp_V s S → pm_val s t = S → ¬ (pm_on t = 1 ∧ pm_let t (pm_d t) = 118 ∧ mx_det (zs_nn s) (s.1 82) (pm_P t (pm_d t) (pm_sm t (pm_d t))) = 0) → mx_ok (s.1 82) S ∧ cq_F s (k + 1) 41 (pm_cls s t) (pm_d t - 1) (fn_up F (pm_d t - 1) (fr_ad (s.1 82) (F (pm_d t - 1)) S)) ∧ pm_L (pm_cls s t) = pm_L t ∧ pm_e (pm_cls s t) = pm_e t := fun S hS hval hno => by
    have := cq_add (k := k + 1) (d := pm_d t - 1) (lt := pm_let t) (sm := pm_sm t) (of := pm_of t) (pl := pm_pl t) (P := pm_P t) (F := F) hs (fun i hi => h2 i (Nat.le_trans hi (Nat.sub_le _ _))) (fun i hi => h3 i (Nat.le_trans hi (Nat.sub_le _ _)) (fun q => hd1 (q.1 ▸ hi))) (fun i j hi hj => h7 i j (Nat.le_trans hi (Nat.sub_le _ _)) hj) h8 (fun i a b => h9 i a (Nat.le_trans b (Nat.sub_le _ _))) hS 41
    refine ⟨hS.1, ?_, ?_, ?_⟩
    · unfold pm_cls
      rw [hval, if_neg hno]
      have e : pm_cnt (s.1 82) ((pm_d t - 1, pm_w t, pm_f t, pm_e t), t.2.1, t.2.2) S = ((pm_d t - 1, 4, pm_f t, pm_e t), t.2.1, t.2.2.1, (fn_up (pm_P t) (pm_d t - 1) (fn_up (pm_P t (pm_d t - 1)) (pm_sm t (pm_d t - 1)) (mx_lin (s.1 82) (pm_P t (pm_d t - 1) (pm_sm t (pm_d t - 1))) 1 S (pm_of t (pm_d t - 1)))), pm_L t)) := by
        unfold pm_cnt
        rw [if_pos (show pm_on ((pm_d t - 1, pm_w t, pm_f t, pm_e t), t.2.1, t.2.2) = 1 from h1n)]
      rw [e]
      show cq_C s (k + 1) 41 (pm_d t - 1) 4 (pm_on t) (pm_stop t) (pm_let t) (pm_sm t) (pm_of t) (pm_pl t) _ _ _
      rw [h1n, h1s]
      exact this
    · rfl
    · rfl
  rcases g5 with ⟨k1, k2, k3⟩ | ⟨k1, k2, k3⟩
  · have hs0 : pm_sm t (pm_d t) = 0 := by
      rw [k1] at hsm
      have : pm_arg 40 = 1 := rfl
      omega
    have nk1 : ¬ (F (pm_d t)).2.2.1 = 112 := fun e => by rw [e] at k3; exact absurd k3 (by decide)
    have nk2 : ¬ (F (pm_d t)).2.2.1 = 117 := fun e => by rw [e] at k3; exact absurd k3 (by decide)
    have nk3 : ¬ (F (pm_d t)).2.2.1 = 116 := fun e => by rw [e] at k3; exact absurd k3 (by decide)
    have nk4 : ¬ (F (pm_d t)).2.2.1 = 118 := fun e => by rw [e] at k3; exact absurd k3 (by decide)
    refine ⟨Nat.pos_of_ne_zero hd, rfl, ⟨by rw [g1]; exact vS.1, fun h => h.elim (fun e => absurd e nk1) (fun h => h.elim (fun e => absurd e nk3) (fun e => absurd e nk2)), fun h => absurd h nk3, Or.inl ⟨k2, k3⟩⟩, ⟨by rw [e1]; exact v1.1, e6, e7⟩, fun S hf => ?_, fun hf => ?_⟩
    · unfold fr_fn at hf
      rw [if_neg nk1, if_neg nk2, if_neg nk3, if_neg nk4] at hf
      have hf := Option.some.inj hf
      rw [hf, g1]
      refine fin _ vS ?_ (fun h => absurd (k1.symm.trans h.2.1) (by decide))
      unfold pm_val
      rw [k1, if_neg (by decide), if_neg (by decide), if_neg (by decide), if_neg (by decide)]
    · unfold fr_fn at hf
      rw [if_neg nk1, if_neg nk2, if_neg nk3, if_neg nk4] at hf
      cases hf
  · have v0 : 1 ≤ pm_sm t (pm_d t) → sp_V s (pm_P t (pm_d t) 0) := fun _ => h7 _ 0 (Nat.le_refl _) (Nat.zero_le _)
    have hl : pm_let t (pm_d t) = 112 ∨ pm_let t (pm_d t) = 117 ∨ pm_let t (pm_d t) = 116 ∨ pm_let t (pm_d t) = 118 := k1
    have ha : pm_arg 112 = 2 ∧ pm_arg 117 = 2 ∧ pm_arg 116 = 3 ∧ pm_arg 118 = 1 := ⟨rfl, rfl, rfl, rfl⟩
    have sm2 : pm_let t (pm_d t) = 112 ∨ pm_let t (pm_d t) = 117 → pm_sm t (pm_d t) = 1 := fun h => by
      rcases h with h | h <;> rw [h] at hsm <;> omega
    have sm3 : pm_let t (pm_d t) = 116 → pm_sm t (pm_d t) = 2 := fun h => by
      rw [h] at hsm
      omega
    refine ⟨Nat.pos_of_ne_zero hd, rfl, ⟨by rw [g1]; exact vS.1, fun h => ?_, fun h => ?_, by rw [k2]; clear g1 g2 g3 g4 g6 g7 e1 e2 e3 e4 e5 e6 e7 h7 h9 fin hm hn sm2 sm3; omega⟩, ⟨by rw [e1]; exact v1.1, e6, e7⟩, fun S hf => ?_, fun hf => ?_⟩
    · have h1 : 1 ≤ pm_sm t (pm_d t) := by
        rcases h with h | h | h
        · have := sm2 (by omega); omega
        · have := sm3 (by omega); omega
        · have := sm2 (by omega); omega
      rw [g2 h1]
      exact (v0 h1).1
    · have h1 := sm3 (by omega)
      rw [g3 (by omega)]
      exact (h7 _ 1 (Nat.le_refl _) (by omega)).1
    · unfold fr_fn at hf
      rw [k2] at hf
      rcases hl with h | h | h | h
      · have h1 := sm2 (Or.inl h)
        rw [if_pos h] at hf
        have hf := Option.some.inj hf
        rw [hf, g1, g2 (Nat.le_of_eq h1.symm)]
        have va := v0 (Nat.le_of_eq h1.symm)
        refine fin _ (sp_Vp hs va vS) ?_ (fun h' => absurd (h.symm.trans h'.2.1) (by decide))
        unfold pm_val
        rw [if_pos h, sp_pe hs va vS]
      · have h1 := sm2 (Or.inr h)
        rw [if_neg (by rw [h]; decide), if_pos h] at hf
        have hf := Option.some.inj hf
        rw [hf, g1, g2 (Nat.le_of_eq h1.symm)]
        have va := v0 (Nat.le_of_eq h1.symm)
        refine fin _ (sp_Vt hs va vS va) ?_ (fun h' => absurd (h.symm.trans h'.2.1) (by decide))
        unfold pm_val
        rw [if_neg (by rw [h]; decide), if_pos h]
        exact (sp_oe hs va vS).symm
      · have h1 := sm3 h
        rw [if_neg (by rw [h]; decide), if_neg (by rw [h]; decide), if_pos h] at hf
        have hf := Option.some.inj hf
        rw [hf, g1, g2 (by omega), g3 (by omega)]
        have va := v0 (by omega)
        have vb := h7 _ 1 (Nat.le_refl (pm_d t)) (by omega)
        refine fin _ (sp_Vt hs va vb vS) ?_ (fun h' => absurd (h.symm.trans h'.2.1) (by decide))
        unfold pm_val
        rw [if_neg (by rw [h]; decide), if_neg (by rw [h]; decide), if_pos h]
        exact (mc_trip_eq hn hm va.2.1 hU.2.1 vb.2.1 vS.2.1 va.2.2 hU.2.2 vb.2.2 vS.2.2).symm
      · rw [if_neg (by rw [h]; decide), if_neg (by rw [h]; decide), if_neg (by rw [h]; decide), if_pos h] at hf
        obtain ⟨q, hq, hf⟩ := hf
        rw [g1, hni] at hq
        obtain ⟨c1, c2, c3, c4, c5⟩ := ls_gj hn hm vS hq
        by_cases e : (q.2.2 : Int) = s.1 81
        · rw [if_pos e] at hf
          have hf := Option.some.inj hf
          have e' : (q.2.2 : Int) = ((zs_nn s : Nat) : Int) := by omega
          rw [hf, c4 e']
          have vI := mx_inv_V hn h3m (a := pm_P t (pm_d t) (pm_sm t (pm_d t))) vS.2.2
          have z1 : mx_z (zs_nn s) (mx_mul 3 (s.1 82) (zs_el s.1 9) (mx_inv (zs_nn s) (s.1 82) (pm_P t (pm_d t) (pm_sm t (pm_d t))))) := by
            rw [mx_mul3 hn hV.2.1 vI.2.1]
            exact mx_mul_z
          refine fin _ ⟨mx_mul_ok h3m _ _, ?_, fun i j hi hj => ?_⟩ ?_ (fun h => (c3.mp e') h.2.2)
          · rw [mx_mul3 hn z1 hV.2.1]
            exact mx_mul_z
          · have := mx_mul_t3 (m := s.1 82) hV.2.2 vI.2.2 hV.2.2 (k := 3 * i + j) (by omega)
            rw [mx_t_at hj] at this
            exact this.symm
          · unfold pm_val
            rw [if_neg (by rw [h]; decide), if_neg (by rw [h]; decide), if_neg (by rw [h]; decide), if_pos h, mx_mul3 hn z1 hV.2.1, mx_mul3 hn hV.2.1 vI.2.1]
        · rw [if_neg e] at hf
          cases hf
    · unfold fr_fn at hf
      rw [k2] at hf
      rcases hl with h | h | h | h
      · rw [if_pos h] at hf
        cases hf
      · rw [if_neg (by rw [h]; decide), if_pos h] at hf
        cases hf
      · rw [if_neg (by rw [h]; decide), if_neg (by rw [h]; decide), if_pos h] at hf
        cases hf
      · rw [if_neg (by rw [h]; decide), if_neg (by rw [h]; decide), if_neg (by rw [h]; decide), if_pos h] at hf
        obtain ⟨q, hq, hf⟩ := hf
        rw [g1, hni] at hq
        obtain ⟨c1, c2, c3, c4, c5⟩ := ls_gj hn hm vS hq
        by_cases e : (q.2.2 : Int) = s.1 81
        · rw [if_pos e] at hf
          cases hf
        · have hdet : mx_det (zs_nn s) (s.1 82) (pm_P t (pm_d t) (pm_sm t (pm_d t))) = 0 := Classical.byContradiction fun g => e (by rw [hni]; exact c3.mpr g)
          have hc : pm_on t = 1 ∧ pm_let t (pm_d t) = 118 ∧ mx_det (zs_nn s) (s.1 82) (pm_P t (pm_d t) (pm_sm t (pm_d t))) = 0 := ⟨h1n, h, hdet⟩
          have hcl : (pm_cls s t).2.1 = ((pm_pl t (pm_d t) : Int), 0) := by
            unfold pm_cls pm_cnt
            show (if _ then _ else _) = _
            rw [if_pos hc]
          rw [k3]
          exact ⟨congrArg Prod.fst hcl, congrArg Prod.snd hcl⟩
/-- what has stopped stays so -/
theorem pm_fac_o {s : sp_S} {t t' : pm_S} {c : Int} {k : Nat} (h : pm_fac s t c k = some t') : t'.2.1 = t.2.1 := by
  unfold pm_fac at h
  split at h
  · cases h; rfl
  · split at h
    · cases h; rfl
    · cases h
theorem pm_step_o {s : sp_S} {t t' : pm_S} {p0 c : Int} {k : Nat} (h : pm_step s t p0 c k = some t') (h0 : pm_on t ≠ 1) : t'.2.1 = t.2.1 := by
  unfold pm_step at h
  split at h
  · split at h
    · cases h; rfl
    · exact pm_fac_o h
  · split at h
    · split at h
      · cases h; rfl
      · cases h
    · split at h
      · exact pm_fac_o h
      · split at h
        · split at h
          · cases h; rfl
          · cases h
        · unfold pm_beh at h
          split at h
          · cases h; rfl
          · split at h
            · cases h; rfl
            · split at h
              · cases h
                show (if _ then _ else _) = _
                rw [if_neg (fun g => h0 g.1)]
              · split at h
                · cases h; rfl
                · split at h
                  · cases h; rfl
                  · cases h
theorem pm_run_o {s : sp_S} {k : Nat} {t : pm_S} (h : pm_run s k = some t) (h0 : pm_on t ≠ 1) : ∀ j T, pm_run s (k + j) = some T → T.2.1 = t.2.1
  | 0, T, hT => by
    rw [Nat.add_zero, h] at hT
    cases hT
    rfl
  | j + 1, T, hT => by
    obtain ⟨u, h1, h2⟩ := pm_run_s (k := k + j) hT
    have ih := pm_run_o h h0 j u h1
    have hu : pm_on u ≠ 1 := by
      show u.2.1.2 ≠ 1
      rw [ih]
      exact h0
    rw [pm_step_o h2 hu, ih]
/-- how many characters are wanting at least -/
def pm_pot (t : pm_S) : Nat := pm_d t + if pm_w t = 4 then 0 else 1
theorem pm_fac_p {s : sp_S} {t t' : pm_S} {c : Int} {k : Nat} (h : pm_fac s t c k = some t') : pm_pot t ≤ pm_pot t' + 1 := by
  unfold pm_fac at h
  have hb : pm_pot t ≤ pm_d t + 1 := by unfold pm_pot; split <;> omega
  split at h
  · cases h
    show _ ≤ (pm_d t + if 4 = 4 then 0 else 1) + 1
    omega
  · split at h
    · cases h
      show _ ≤ (pm_d t + 1 + _) + 1
      omega
    · cases h
theorem pm_step_p {s : sp_S} {t t' : pm_S} {p0 c : Int} {k : Nat} (hw4 : pm_w t ≤ 4) (h : pm_step s t p0 c k = some t') : pm_pot t ≤ pm_pot t' + 1 := by
  have hb : pm_pot t ≤ pm_d t + 1 := by unfold pm_pot; split <;> omega
  have same : ∀ {u : pm_S}, pm_d u = pm_d t → pm_pot t ≤ pm_pot u + 1 := fun {u} e => by
    have : pm_d u ≤ pm_pot u := by unfold pm_pot; omega
    omega
  unfold pm_step at h
  split at h
  · split at h
    · cases h; exact same rfl
    · exact pm_fac_p h
  · split at h
    · split at h
      · cases h; exact same rfl
      · cases h
    · split at h
      · exact pm_fac_p h
      · split at h
        · split at h
          · cases h; exact same rfl
          · cases h
        · unfold pm_beh at h
          split at h
          · cases h; exact same rfl
          · split at h
            · cases h; exact same rfl
            · split at h
              · cases h
                show _ ≤ (pm_d t - 1 + 0) + 1
                unfold pm_pot
                split <;> omega
              · split at h
                · cases h; exact same rfl
                · split at h
                  · cases h; exact same rfl
                  · cases h
theorem pm_run_p {s : sp_S} {k : Nat} {t : pm_S} (h : pm_run s k = some t) : ∀ j T, pm_run s (k + j) = some T → pm_pot t ≤ pm_pot T + j
  | 0, T, hT => by
    rw [Nat.add_zero, h] at hT
    cases hT
    omega
  | j + 1, T, hT => by
    obtain ⟨u, h1, h2⟩ := pm_run_s (k := k + j) hT
    have ih := pm_run_p h j u h1
    have := pm_step_p (pm_run_d (k + j) u h1).2 h2
    omega
/-- brackets in a faultless text aren't deep -/
theorem pm_deep {s : sp_S} (hs : sp_ok s) {T : pm_S} (hT : pm_fin s T) {k : Nat} (hk : k ≤ s.2.2.2.1) {t : pm_S} (h : pm_run s k = some t) (hw : pm_w t ≠ 4) : pm_d t ≤ 29 := by
  have h60 := hs.2.2.2.2.2.1
  have h1 := pm_run_p h (s.2.2.2.1 - k) T (by rw [show k + (s.2.2.2.1 - k) = s.2.2.2.1 by omega]; exact hT.1)
  have h2 := (pm_run_d k t h).1
  unfold pm_pot at h1
  rw [if_neg hw, if_pos hT.2.1, hT.2.2.1] at h1
  omega
/-- every beginning of a faultless text is read -/
theorem pm_pre {s : sp_S} {k : Nat} : ∀ j T, pm_run s (k + j) = some T → ∃ t, pm_run s k = some t
  | 0, T, h => ⟨T, h⟩
  | j + 1, T, h => by
    obtain ⟨u, h1, h2⟩ := pm_run_s (k := k + j) h
    exact pm_pre j u h1
