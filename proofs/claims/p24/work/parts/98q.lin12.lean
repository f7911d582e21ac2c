/-! carrying out: the frames are the reading's levels -/
def cq_1 (t : pm_S) (i : Nat) (f : fr_S) : Prop :=
  f.1.1 = pm_P t i (pm_sm t i) ∧ (1 ≤ pm_sm t i → f.1.2.1 = pm_P t i 0) ∧ (2 ≤ pm_sm t i → f.1.2.2 = pm_P t i 1) ∧ f.2.1 = pm_sm t i ∧ (1 ≤ i → (pm_let t i = 40 ∧ 0 ≤ f.2.2.1 ∧ f.2.2.1 < 112) ∨ (pm_ltr (pm_let t i) ∧ f.2.2.1 = pm_let t i ∧ f.2.2.2.1 = (pm_pl t i : Int))) ∧ (f.2.2.2.2.1 = 1 ∨ f.2.2.2.2.1 = -1) ∧ (0 ≤ f.2.2.2.2.2 ∧ f.2.2.2.2.2 ≤ 9)
def cq_F (s : sp_S) (k : Nat) (bef : Int) (t : pm_S) (o : Nat) (F : Nat → fr_S) : Prop :=
  (o = (if pm_w t = 3 then pm_d t - 1 else pm_d t) ∧ pm_w t ≤ 4 ∧ pm_on t = 1 ∧ pm_stop t = -6) ∧ (∀ i, i ≤ o → cq_1 t i (F i)) ∧ (∀ i, i ≤ o → ¬ (i = pm_d t ∧ pm_w t = 4) → (F i).2.2.2.2.1 * (F i).2.2.2.2.2 = pm_of t i) ∧ (pm_w t = 0 ∨ pm_w t = 4 → (F o).2.2.2.2.2 = 1) ∧ (pm_w t = 3 → 1 ≤ pm_d t ∧ bef = pm_let t (pm_d t) ∧ pm_pl t (pm_d t) + 1 = k ∧ pm_ltr (pm_let t (pm_d t)) ∧ pm_P t (pm_d t) 0 = (fun _ => 0) ∧ pm_sm t (pm_d t) = 0 ∧ pm_of t (pm_d t) = 1) ∧ (pm_w t = 0 ∨ pm_w t = 2 → 0 ≤ bef ∧ bef < 112) ∧ (∀ i j, i ≤ pm_d t → j ≤ pm_sm t i → sp_V s (pm_P t i j)) ∧ pm_sm t 0 = 0 ∧ ∀ i, 1 ≤ i → i ≤ pm_d t → pm_sm t i < pm_arg (pm_let t i)
theorem pm_i40 {s : sp_S} {t t' : pm_S} {p0 : Int} {k : Nat} (h : pm_step s t p0 40 k = some t') : ((pm_w t = 0 ∨ pm_w t = 2) ∧ t' = pm_opn t 40 k 0) ∨ (pm_w t = 3 ∧ t' = pm_ww t 0) := by
  have hf : pm_fac s t 40 k = some (pm_opn t 40 k 0) := pq_i1 (by decide) (pq_i0 (Or.inl rfl) rfl)
  unfold pm_step at h
  split at h
  · next w =>
    rw [if_neg (by decide), hf] at h
    exact Or.inl ⟨Or.inl w, (Option.some.inj h).symm⟩
  · split at h
    · rw [if_neg (by decide)] at h
      cases h
    · split at h
      · next w =>
        rw [hf] at h
        exact Or.inl ⟨Or.inr w, (Option.some.inj h).symm⟩
      · split at h
        · next w =>
          rw [if_pos rfl] at h
          exact Or.inr ⟨w, (Option.some.inj h).symm⟩
        · unfold pm_beh at h
          rw [if_neg (by decide), if_neg (fun g => absurd g.1 (by decide)), if_neg (fun g => absurd g.1 (by decide)), if_neg (fun g => absurd g.1 (by decide)), if_neg (fun g => absurd g.1 (by decide))] at h
          cases h
theorem pm_i41 {s : sp_S} {t t' : pm_S} {p0 : Int} {k : Nat} (hw : pm_w t ≤ 4) (h : pm_step s t p0 41 k = some t') : pm_w t = 4 ∧ pm_d t ≠ 0 ∧ pm_sm t (pm_d t) + 1 = pm_arg (pm_let t (pm_d t)) ∧ t' = pm_cls s t := by
  have hf : pm_fac s t 41 k = none := pq_i1 (by decide) (pq_i1 (by decide) rfl)
  unfold pm_step at h
  split at h
  · rw [if_neg (by decide), hf] at h
    cases h
  · split at h
    · rw [if_neg (by decide)] at h
      cases h
    · split at h
      · rw [hf] at h
        cases h
      · split at h
        · rw [if_neg (by decide)] at h
          cases h
        · unfold pm_beh at h
          rw [if_neg (by decide), if_neg (fun g => absurd g.1 (by decide))] at h
          split at h
          · next q => exact ⟨by omega, q.2.1, q.2.2, (Option.some.inj h).symm⟩
          · rw [if_neg (fun g => absurd g.1 (by decide)), if_neg (fun g => absurd g.1 (by decide))] at h
            cases h
theorem pm_ir {s : sp_S} {t t' : pm_S} {p0 c : Int} {k : Nat} (hw : pm_w t ≤ 4) (h40 : c ≠ 40) (h41 : c ≠ 41) (h58 : c ≠ 58) (h : pm_step s t p0 c k = some t') :
    ((pm_w t = 0 ∨ pm_w t = 2) ∧ pm_one c ∧ t' = pm_cnt (s.1 82) t (zs_el s.1 (if c = 105 then 9 else (c - 65).toNat))) ∨ (pm_w t = 0 ∧ 48 ≤ c ∧ c ≤ 57 ∧ t' = pm_dig t c) ∨ (pm_w t = 1 ∧ c = 42 ∧ t' = pm_ww t 2) ∨ ((pm_w t = 0 ∨ pm_w t = 2) ∧ pm_ltr c ∧ t' = pm_opn t c k 3) ∨ (pm_w t = 4 ∧ (c = 43 ∨ c = 45) ∧ t' = pm_sgn t c) ∨ (pm_w t = 4 ∧ c = 44 ∧ pm_d t ≠ 0 ∧ pm_sm t (pm_d t) + 1 ≠ pm_arg (pm_let t (pm_d t)) ∧ t' = pm_com t) ∨ (pm_w t = 4 ∧ c = 61 ∧ pm_d t = 0 ∧ t' = pm_hd t 0 1) := by
  have hf : ∀ {u}, pm_fac s t c k = some u → (pm_one c ∧ u = pm_cnt (s.1 82) t (zs_el s.1 (if c = 105 then 9 else (c - 65).toNat))) ∨ (pm_ltr c ∧ u = pm_opn t c k 3) := fun {u} g => by
    unfold pm_fac at g
    split at g
    · next q => exact Or.inl ⟨q, (Option.some.inj g).symm⟩
    · split at g
      · next q =>
        exact Or.inr ⟨q.elim (fun e => absurd e h40) id, (Option.some.inj g).symm⟩
      · cases g
  unfold pm_step at h
  split at h
  · next w =>
    split at h
    · next q => exact Or.inr (Or.inl ⟨w, q.1, q.2, (Option.some.inj h).symm⟩)
    · rcases hf h with ⟨g1, g2⟩ | ⟨g1, g2⟩
      · exact Or.inl ⟨Or.inl w, g1, g2⟩
      · exact Or.inr (Or.inr (Or.inr (Or.inl ⟨Or.inl w, g1, g2⟩)))
  · split at h
    · next w =>
      split at h
      · next q => exact Or.inr (Or.inr (Or.inl ⟨w, q, (Option.some.inj h).symm⟩))
      · cases h
    · split at h
      · next w =>
        rcases hf h with ⟨g1, g2⟩ | ⟨g1, g2⟩
        · exact Or.inl ⟨Or.inr w, g1, g2⟩
        · exact Or.inr (Or.inr (Or.inr (Or.inl ⟨Or.inr w, g1, g2⟩)))
      · split at h
        · cases h
        · have w4 : pm_w t = 4 := by omega
          unfold pm_beh at h
          split at h
          · next q => exact Or.inr (Or.inr (Or.inr (Or.inr (Or.inl ⟨w4, q, (Option.some.inj h).symm⟩))))
          · split at h
            · next q => exact Or.inr (Or.inr (Or.inr (Or.inr (Or.inr (Or.inl ⟨w4, q.1, q.2.1, q.2.2, (Option.some.inj h).symm⟩)))))
            · rw [if_neg (fun g => h41 g.1), if_neg (fun g => h58 g.1)] at h
              split at h
              · next q => exact Or.inr (Or.inr (Or.inr (Or.inr (Or.inr (Or.inr ⟨w4, q.1, q.2.1, (Option.some.inj h).symm⟩)))))
              · cases h
theorem sp_V0 {s : sp_S} (hs : sp_ok s) : sp_V s (fun _ => 0) := by
  have := ls_3 (sp_p hs)
  exact ⟨fun k _ => by dsimp only; omega, ⟨fun _ _ _ _ _ => ⟨rfl, rfl⟩, fun _ _ => rfl⟩, fun _ _ _ _ => rfl⟩
/-- a bracket is opened -/
theorem cq_open {s : sp_S} (hs : sp_ok s) {k : Nat} {bef : Int} {t t' : pm_S} {o : Nat} {F : Nat → fr_S} (h : cq_F s k bef t o F) {p0 : Int} (hst : pm_step s t p0 40 k = some t') (a b : Nat → Int) : cq_F s (k + 1) 40 t' (o + 1) (fn_up F (o + 1) ((fun _ => 0, a, b), (0, bef, (k : Int) - 1, 1, 1))) ∧ pm_d t' = o + 1 ∧ pm_w t' = 0 ∧ (0 ≤ bef ∧ bef < 65536) ∧ pm_L t' = pm_L t ∧ pm_e t' = pm_e t := by
  obtain ⟨⟨h1, h1w, h1n, h1s⟩, h2, h3, h4, h5, h6, h7, h8, h9⟩ := h
  rcases pm_i40 hst with ⟨hw, rfl⟩ | ⟨hw, rfl⟩
  · rw [if_neg (by omega)] at h1
    subst h1
    have hb := h6 hw
    refine ⟨⟨⟨rfl, Nat.zero_le _, h1n, h1s⟩, fun i hi => ?_, fun i hi _ => ?_, fun _ => ?_, fun g => absurd (show (0 : Nat) = 3 from g) (by decide), fun _ => by decide, fun i j hi hj => ?_, ?_, fun i hi hid => ?_⟩, rfl, rfl, by omega, rfl, rfl⟩
    · by_cases q : i = pm_d t + 1
      · rw [q, fn_up_eq]
        refine ⟨?_, fun g => ?_, fun g => ?_, ?_, fun _ => Or.inl ⟨fn_up_eq _ _ _, hb⟩, Or.inl rfl, ⟨show (0 : Int) ≤ 1 by decide, show (1 : Int) ≤ 9 by decide⟩⟩
        · show (fun _ => 0) = fn_up (pm_P t) (pm_d t + 1) _ (pm_d t + 1) (fn_up (pm_sm t) (pm_d t + 1) 0 (pm_d t + 1))
          rw [fn_up_eq, fn_up_eq, fn_up_eq]
        · have g : 1 ≤ fn_up (pm_sm t) (pm_d t + 1) 0 (pm_d t + 1) := g
          rw [fn_up_eq] at g
          omega
        · have g : 2 ≤ fn_up (pm_sm t) (pm_d t + 1) 0 (pm_d t + 1) := g
          rw [fn_up_eq] at g
          omega
        · show 0 = fn_up (pm_sm t) (pm_d t + 1) 0 (pm_d t + 1)
          rw [fn_up_eq]
      · rw [fn_up_ne q]
        have g := h2 i (by omega)
        unfold cq_1 at g ⊢
        show _ = fn_up (pm_P t) (pm_d t + 1) _ i (fn_up (pm_sm t) (pm_d t + 1) 0 i) ∧ (1 ≤ fn_up (pm_sm t) (pm_d t + 1) 0 i → _ = fn_up (pm_P t) (pm_d t + 1) _ i 0) ∧ (2 ≤ fn_up (pm_sm t) (pm_d t + 1) 0 i → _ = fn_up (pm_P t) (pm_d t + 1) _ i 1) ∧ _ = fn_up (pm_sm t) (pm_d t + 1) 0 i ∧ (1 ≤ i → (fn_up (pm_let t) (pm_d t + 1) 40 i = 40 ∧ _) ∨ (pm_ltr (fn_up (pm_let t) (pm_d t + 1) 40 i) ∧ _ = fn_up (pm_let t) (pm_d t + 1) 40 i ∧ _ = ((fn_up (pm_pl t) (pm_d t + 1) k i : Nat) : Int))) ∧ _
        rw [fn_up_ne q, fn_up_ne q, fn_up_ne q, fn_up_ne q]
        exact g
    · show _ = fn_up (pm_of t) (pm_d t + 1) 1 i
      by_cases q : i = pm_d t + 1
      · rw [q, fn_up_eq, fn_up_eq]; rfl
      · rw [fn_up_ne q, fn_up_ne q]
        exact h3 i (by omega) (by omega)
    · rw [fn_up_eq]
    · show sp_V s (fn_up (pm_P t) (pm_d t + 1) _ i j)
      by_cases q : i = pm_d t + 1
      · have hj : j ≤ fn_up (pm_sm t) (pm_d t + 1) 0 i := hj
        rw [q, fn_up_eq] at hj
        have : j = 0 := by omega
        rw [q, fn_up_eq, this, fn_up_eq]
        exact sp_V0 hs
      · have hj : j ≤ fn_up (pm_sm t) (pm_d t + 1) 0 i := hj
        rw [fn_up_ne q] at hj
        rw [fn_up_ne q]
        have hi : i ≤ pm_d t + 1 := hi
        exact h7 i j (by omega) hj
    · show fn_up (pm_sm t) (pm_d t + 1) 0 0 = 0
      rw [fn_up_ne (by omega)]
      exact h8
    · show fn_up (pm_sm t) (pm_d t + 1) 0 i < pm_arg (fn_up (pm_let t) (pm_d t + 1) 40 i)
      have hid : i ≤ pm_d t + 1 := hid
      by_cases q : i = pm_d t + 1
      · rw [q, fn_up_eq, fn_up_eq]; decide
      · rw [fn_up_ne q, fn_up_ne q]
        exact h9 i hi (by omega)
  · rw [if_pos hw] at h1
    obtain ⟨g1, g2, g3, g4, g5, g6, g7⟩ := h5 hw
    have ho : o + 1 = pm_d t := by omega
    refine ⟨⟨⟨ho, Nat.zero_le _, h1n, h1s⟩, fun i hi => ?_, fun i hi _ => ?_, fun _ => ?_, fun g => absurd (show (0 : Nat) = 3 from g) (by decide), fun _ => by decide, h7, h8, h9⟩, ho.symm, rfl, ?_, rfl, rfl⟩
    · by_cases q : i = o + 1
      · rw [q, fn_up_eq]
        show (fun _ => 0) = pm_P t (o + 1) (pm_sm t (o + 1)) ∧ (1 ≤ pm_sm t (o + 1) → _) ∧ (2 ≤ pm_sm t (o + 1) → _) ∧ 0 = pm_sm t (o + 1) ∧ (1 ≤ o + 1 → _ ∨ (pm_ltr (pm_let t (o + 1)) ∧ bef = pm_let t (o + 1) ∧ (k : Int) - 1 = (pm_pl t (o + 1) : Int))) ∧ _
        rw [ho, g6, g5]
        exact ⟨rfl, fun h => absurd h (by decide), fun h => absurd h (by decide), rfl, fun _ => Or.inr ⟨g4, g2, by omega⟩, Or.inl rfl, ⟨show (0 : Int) ≤ 1 by decide, show (1 : Int) ≤ 9 by decide⟩⟩
      · rw [fn_up_ne q]
        exact h2 i (by omega)
    · show _ = pm_of t i
      by_cases q : i = o + 1
      · rw [q, fn_up_eq, ho, g7]; rfl
      · rw [fn_up_ne q]
        exact h3 i (by omega) (by omega)
    · rw [fn_up_eq]
    · rw [g2]
      have g4 : pm_let t (pm_d t) = 112 ∨ pm_let t (pm_d t) = 117 ∨ pm_let t (pm_d t) = 116 ∨ pm_let t (pm_d t) = 118 := g4
      omega
