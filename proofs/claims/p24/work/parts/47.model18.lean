/-- changes of what is wanted alone -/
theorem pr_Rw {m : Int} {t : pm_S} {M : gx_M} (h : pr_R m t M) {w : Nat} (hw : w = 0 ∨ w = 3 → pm_w t = 0 ∨ pm_w t = 3) : pr_R m (pm_ww t w) (gx_u M 0 15 w) := by
  obtain ⟨h1, h2, h3, h4, h5, h6, h7, h8, h9⟩ := h
  have k0 : ∀ j, j ≠ 15 → gx_u M 0 15 (w : Int) 0 j = M 0 j := fun j a => gx_u_ne (by omega)
  have kc : ∀ c', c' ≠ 0 → gx_u M 0 15 (w : Int) c' = M c' := fun c' a => gx_u_nc a
  exact ⟨by rw [k0 14 (by decide)]; exact h1, gx_u_eq _ _ _ _, by rw [k0 16 (by decide), k0 17 (by decide)]; exact h3, by rw [k0 18 (by decide), k0 19 (by decide)]; exact h4, fun i a b => by rw [kc 8 (by decide), kc 11 (by decide)]; exact h5 i a b, fun i a => by rw [kc 9 (by decide), kc 10 (by decide), kc 6 (by decide)]; exact h6 i a, fun a => by rw [kc 6 (by decide)]; exact h7 a, h8, fun q => h9 (hw q)⟩
/-- the reading, from its start -/
def pm_t0 : pm_S := ((0, 0, 0, 0), (-6, 1), (fun _ => 0, fun _ => 0, fun _ => 1, fun _ => 0), (fun _ _ _ => 0, fun _ => 0))
def pm_run (s : sp_S) : Nat → Option pm_S
  | 0 => some pm_t0
  | k + 1 => (pm_run s k).bind (fun t => pm_step s t (s.2.2.2.2 0) (s.2.2.2.2 k) k)
theorem pm_fac_d {s : sp_S} {t t' : pm_S} {c : Int} {k : Nat} (h : pm_fac s t c k = some t') : pm_d t' ≤ pm_d t + 1 ∧ pm_w t' ≤ 4 := by
  unfold pm_fac at h
  split at h
  · cases h
    exact ⟨Nat.le_succ _, Nat.le_refl _⟩
  · split at h
    · cases h
      refine ⟨Nat.le_refl _, ?_⟩
      show (if c = 40 then 0 else 3) ≤ 4
      split <;> omega
    · cases h
theorem pm_step_d {s : sp_S} {t t' : pm_S} {p0 c : Int} {k : Nat} (h : pm_step s t p0 c k = some t') : pm_d t' ≤ pm_d t + 1 ∧ pm_w t' ≤ 4 := by
  unfold pm_step at h
  split at h
  · split at h
    · cases h
      exact ⟨Nat.le_succ _, by show 1 ≤ 4; omega⟩
    · exact pm_fac_d h
  · split at h
    · split at h
      · cases h
        exact ⟨Nat.le_succ _, by show 2 ≤ 4; omega⟩
      · cases h
    · split at h
      · exact pm_fac_d h
      · split at h
        · split at h
          · cases h
            exact ⟨Nat.le_succ _, by show 0 ≤ 4; omega⟩
          · cases h
        · unfold pm_beh at h
          split at h
          · cases h
            exact ⟨Nat.le_succ _, by show 0 ≤ 4; omega⟩
          · split at h
            · cases h
              exact ⟨Nat.le_succ _, by show 0 ≤ 4; omega⟩
            · split at h
              · cases h
                exact ⟨by show pm_d t - 1 ≤ pm_d t + 1; omega, Nat.le_refl _⟩
              · split at h
                · cases h
                  exact ⟨Nat.le_succ _, by show 0 ≤ 4; omega⟩
                · split at h
                  · cases h
                    exact ⟨Nat.le_succ _, by show 0 ≤ 4; omega⟩
                  · cases h
theorem pm_run_d {s : sp_S} : ∀ k t, pm_run s k = some t → pm_d t ≤ k ∧ pm_w t ≤ 4
  | 0, t, h => by
    have h : some pm_t0 = some t := h
    cases h
    exact ⟨Nat.le_refl _, Nat.zero_le _⟩
  | k + 1, t, h => by
    have h : (pm_run s k).bind (fun t => pm_step s t (s.2.2.2.2 0) (s.2.2.2.2 k) k) = some t := h
    cases e : pm_run s k with
    | none => rw [e] at h; cases h
    | some u =>
      rw [e] at h
      have h1 := pm_run_d k u e
      have h2 := pm_step_d (show pm_step s u (s.2.2.2.2 0) (s.2.2.2.2 k) k = some t from h)
      exact ⟨by omega, h2.2⟩
theorem pm_run_1 {s : sp_S} {t : pm_S} (h : pm_run s 1 = some t) (h1 : pm_one (s.2.2.2.2 0)) : pm_d t = 0 := by
  have h : pm_step s pm_t0 (s.2.2.2.2 0) (s.2.2.2.2 0) 0 = some t := h
  unfold pm_step at h
  rw [if_pos (show pm_w pm_t0 = 0 from rfl), if_neg (by omega)] at h
  unfold pm_fac at h
  rw [if_pos h1] at h
  cases h
  rfl
def pm_good (t : pm_S) : Prop := pm_w t = 4 ∧ pm_d t = 0 ∧ (pm_f t = 1 ∨ pm_e t = 1)
/-- the fault of the text, -6 if there is none -/
def pm_flt (s : sp_S) (z : Int) : Prop :=
  (∃ k t, k < s.2.2.2.1 ∧ pm_run s k = some t ∧ pm_run s (k + 1) = none ∧ z = (k : Int)) ∨ (∃ t, pm_run s s.2.2.2.1 = some t ∧ ((pm_good t ∧ z = -6) ∨ (¬ pm_good t ∧ z = s.2.2.2.1)))
