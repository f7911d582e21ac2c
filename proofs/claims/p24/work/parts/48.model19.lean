theorem pm_flt_u {s : sp_S} {z w : Int} (h : pm_flt s z) (g : pm_flt s w) : z = w := by
  have up : ∀ k, pm_run s k = none → pm_run s (k + 1) = none := fun k hk => by
    show (pm_run s k).bind _ = none
    rw [hk]
    rfl
  have upn : ∀ j k, pm_run s k = none → pm_run s (k + j) = none := fun j => by
    induction j with
    | zero => exact fun k hk => hk
    | succ j ih => exact fun k hk => up _ (ih k hk)
  rcases h with ⟨k, t, h1, h2, h3, h4⟩ | ⟨t, h1, h2⟩ <;> rcases g with ⟨j, u, g1, g2, g3, g4⟩ | ⟨u, g1, g2⟩
  · rcases Nat.lt_trichotomy k j with q | q | q
    · have := upn (j - (k + 1)) (k + 1) h3
      rw [show k + 1 + (j - (k + 1)) = j by omega, g2] at this
      cases this
    · rw [h4, g4, q]
    · have := upn (k - (j + 1)) (j + 1) g3
      rw [show j + 1 + (k - (j + 1)) = k by omega, h2] at this
      cases this
  · have := upn (s.2.2.2.1 - (k + 1)) (k + 1) h3
    rw [show k + 1 + (s.2.2.2.1 - (k + 1)) = s.2.2.2.1 by omega, g1] at this
    cases this
  · have := upn (s.2.2.2.1 - (j + 1)) (j + 1) g3
    rw [show j + 1 + (s.2.2.2.1 - (j + 1)) = s.2.2.2.1 by omega, h1] at this
    cases this
  · rw [h1] at g1
    cases g1
    rcases h2 with ⟨a, h2⟩ | ⟨a, h2⟩ <;> rcases g2 with ⟨b, g2⟩ | ⟨b, g2⟩
    · rw [h2, g2]
    · exact absurd a b
    · exact absurd b a
    · rw [h2, g2]
/-- the text has no fault: its reading -/
def pm_fin (s : sp_S) (t : pm_S) : Prop := pm_run s s.2.2.2.1 = some t ∧ pm_good t
theorem pm_flt_f {s : sp_S} {t : pm_S} (h : pm_fin s t) : pm_flt s (-6) := Or.inr ⟨t, h.1, Or.inl ⟨h.2, rfl⟩⟩
def sp_emp (s : sp_S) : sp_S := (s.1, s.2.1, s.2.2.1, (0, s.2.2.2.2))
def sp_run (s : sp_S) (z : Int) (s' : sp_S) : Prop :=
  (¬ pm_flt s (-6) ∧ z = -3 ∧ s' = s) ∨ ∃ t, pm_fin s t ∧ (if pm_f t = 1 ∧ pm_stop t = -6 then z = s.2.2.2.2 0 - 65 ∧ s' = sp_emp (sp_push s (zs_put s.1 (9 * (s.2.2.2.2 0 - 65).toNat) (pm_P t 0 0))) else z = -5 ∧ s' = s)
def sp_holds (s : sp_S) (z : Int) : Prop :=
  (¬ pm_flt s (-6) ∧ z = -3) ∨ ∃ t, pm_fin s t ∧ (if pm_f t = 1 ∨ pm_stop t ≠ -6 then z = -5 else (z = 0 ∨ z = 1) ∧ (z = 1 ↔ pm_L t = pm_P t 0 0))
def sp_stops (s : sp_S) (z : Int) : Prop :=
  (¬ pm_flt s (-6) ∧ z = -3) ∨ ∃ t, pm_fin s t ∧ z = pm_stop t
theorem pm_no {s : sp_S} {z : Int} (h : pm_flt s z) (hz : z ≠ -6) : ¬ pm_flt s (-6) := fun g => hz (pm_flt_u h g)
theorem pm_flt_3 {s : sp_S} (hs : sp_ok s) {z : Int} (h : pm_flt s z) : gx_3 z := by
  have := hs.2.2.2.2.2.1
  unfold gx_3
  rcases h with ⟨k, t, h1, h2, h3, h4⟩ | ⟨t, h1, ⟨h2, h3⟩ | ⟨h2, h3⟩⟩ <;> omega
/-- a formula begins with a register's letter -/
theorem pm_beh_f {s : sp_S} {t t' : pm_S} {p0 c : Int} {k : Nat} (h : pm_step s t p0 c k = some t') : pm_f t' = pm_f t ∨ pm_f t' = 0 ∨ (p0 ≠ 105 ∧ pm_one p0) := by
  have hfac : ∀ {t t' : pm_S}, pm_fac s t c k = some t' → pm_f t' = pm_f t := fun {t t'} h => by
    unfold pm_fac at h
    split at h
    · cases h; rfl
    · split at h
      · cases h; rfl
      · cases h
  unfold pm_step at h
  split at h
  · split at h
    · cases h; exact Or.inl rfl
    · exact Or.inl (hfac h)
  · split at h
    · split at h
      · cases h; exact Or.inl rfl
      · cases h
    · split at h
      · exact Or.inl (hfac h)
      · split at h
        · split at h
          · cases h; exact Or.inl rfl
          · cases h
        · unfold pm_beh at h
          split at h
          · cases h; exact Or.inl rfl
          · split at h
            · cases h; exact Or.inl rfl
            · split at h
              · cases h; exact Or.inl rfl
              · split at h
                · next q => exact Or.inr (Or.inr ⟨q.2.2.1, q.2.2.2⟩)
                · split at h
                  · cases h; exact Or.inr (Or.inl rfl)
                  · cases h
theorem pm_run_f {s : sp_S} : ∀ k t, pm_run s k = some t → pm_f t = 1 → s.2.2.2.2 0 ≠ 105 ∧ pm_one (s.2.2.2.2 0)
  | 0, t, h, hf => by
    have h : some pm_t0 = some t := h
    cases h
    exact absurd (show (0 : Int) = 1 from hf) (by decide)
  | k + 1, t, h, hf => by
    have h : (pm_run s k).bind (fun t => pm_step s t (s.2.2.2.2 0) (s.2.2.2.2 k) k) = some t := h
    cases e : pm_run s k with
    | none => rw [e] at h; cases h
    | some u =>
      rw [e] at h
      rcases pm_beh_f (show pm_step s u (s.2.2.2.2 0) (s.2.2.2.2 k) k = some t from h) with q | q | q
      · exact pm_run_f k u e (by rw [← q]; exact hf)
      · omega
      · exact q
def sp_wipe (s : sp_S) (z : Int) (s' : sp_S) : Prop := z = s.2.2.2.1 ∧ s' = sp_emp s
