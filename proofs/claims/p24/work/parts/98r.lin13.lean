/-- a level's frame, by its parts -/
def cq_k (lt : Nat → Int) (sm : Nat → Nat) (pl : Nat → Nat) (P : Nat → Nat → Nat → Int) (i : Nat) (f : fr_S) : Prop :=
  f.1.1 = P i (sm i) ∧ (1 ≤ sm i → f.1.2.1 = P i 0) ∧ (2 ≤ sm i → f.1.2.2 = P i 1) ∧ f.2.1 = sm i ∧ (1 ≤ i → (lt i = 40 ∧ 0 ≤ f.2.2.1 ∧ f.2.2.1 < 112) ∨ (pm_ltr (lt i) ∧ f.2.2.1 = lt i ∧ f.2.2.2.1 = (pl i : Int))) ∧ (f.2.2.2.2.1 = 1 ∨ f.2.2.2.2.1 = -1) ∧ (0 ≤ f.2.2.2.2.2 ∧ f.2.2.2.2.2 ≤ 9)
def cq_C (s : sp_S) (k : Nat) (bef : Int) (d w : Nat) (on stp : Int) (lt : Nat → Int) (sm : Nat → Nat) (of : Nat → Int) (pl : Nat → Nat) (P : Nat → Nat → Nat → Int) (o : Nat) (F : Nat → fr_S) : Prop :=
  (o = (if w = 3 then d - 1 else d) ∧ w ≤ 4 ∧ on = 1 ∧ stp = -6) ∧ (∀ i, i ≤ o → cq_k lt sm pl P i (F i)) ∧ (∀ i, i ≤ o → ¬ (i = d ∧ w = 4) → (F i).2.2.2.2.1 * (F i).2.2.2.2.2 = of i) ∧ (w = 0 ∨ w = 4 → (F o).2.2.2.2.2 = 1) ∧ (w = 3 → 1 ≤ d ∧ bef = lt d ∧ pl d + 1 = k ∧ pm_ltr (lt d) ∧ P d 0 = (fun _ => 0) ∧ sm d = 0 ∧ of d = 1) ∧ (w = 0 ∨ w = 2 → 0 ≤ bef ∧ bef < 112) ∧ (∀ i j, i ≤ d → j ≤ sm i → sp_V s (P i j)) ∧ sm 0 = 0 ∧ ∀ i, 1 ≤ i → i ≤ d → sm i < pm_arg (lt i)
section CQ
variable {s : sp_S} {k : Nat} {bef : Int} {d w : Nat} {on stp : Int} {lt : Nat → Int} {sm : Nat → Nat} {of : Nat → Int} {pl : Nat → Nat} {P : Nat → Nat → Nat → Int} {o : Nat} {F : Nat → fr_S}
theorem cq_add (hs : sp_ok s) (h2 : ∀ i, i ≤ d → cq_k lt sm pl P i (F i)) (h3 : ∀ i, i ≤ d → (F i).2.2.2.2.1 * (F i).2.2.2.2.2 = of i) (h7 : ∀ i j, i ≤ d → j ≤ sm i → sp_V s (P i j)) (h8 : sm 0 = 0) (h9 : ∀ i, 1 ≤ i → i ≤ d → sm i < pm_arg (lt i)) {v : Nat → Int} (hv : sp_V s v) (c : Int) : cq_C s k c d 4 1 (-6) lt sm of pl (fn_up P d (fn_up (P d) (sm d) (mx_lin (s.1 82) (P d (sm d)) 1 v (of d)))) d (fn_up F d (fr_ad (s.1 82) (F d) v)) := by
  refine ⟨⟨rfl, Nat.le_refl _, rfl, rfl⟩, fun i hi => ?_, fun i hi hn => ?_, fun _ => ?_, fun g => absurd g (by decide), fun g => absurd g (by decide), fun i j hi hj => ?_, h8, h9⟩
  · by_cases q : i = d
    · subst q
      obtain ⟨g1, g2, g3, g4, g5, g6, g7⟩ := h2 i (Nat.le_refl i)
      unfold cq_k
      rw [fn_up_eq, fn_up_eq, fn_up_eq]
      refine ⟨?_, fun h => ?_, fun h => ?_, g4, g5, g6, ⟨show (0 : Int) ≤ 1 by decide, show (1 : Int) ≤ 9 by decide⟩⟩
      · funext j
        show (if j < 9 then _ else _) = mx_lin _ _ _ _ _ j
        unfold mx_lin
        by_cases q : j < 9
        · rw [if_pos q, if_pos q, g1, Int.mul_one, h3 i (Nat.le_refl i), Int.mul_comm (of i)]
        · rw [if_neg q, if_neg q]
      · rw [fn_up_ne (by omega)]
        exact g2 h
      · rw [fn_up_ne (by omega)]
        exact g3 h
    · unfold cq_k
      rw [fn_up_ne q, fn_up_ne q]
      exact h2 i hi
  · have q : i ≠ d := fun e => hn ⟨e, rfl⟩
    rw [fn_up_ne q]
    exact h3 i hi
  · rw [fn_up_eq]
    rfl
  · by_cases q : i = d
    · subst q
      rw [fn_up_eq]
      by_cases q2 : j = sm i
      · rw [q2, fn_up_eq]
        exact mx_lin_V (ls_3 (sp_p hs)) (h7 i _ hi (Nat.le_refl _)) hv
      · rw [fn_up_ne q2]
        exact h7 i j hi hj
    · rw [fn_up_ne q]
      exact h7 i j hi hj
/-- the same levels, the top's weight changed -/
theorem cq_wt (h : cq_C s k bef d w on stp lt sm of pl P o F) (hw : w ≠ 3) {w2 : Nat} (hw2 : w2 ≤ 2) {sg tm : Int} (hsg : sg = 1 ∨ sg = -1) (htm : 0 ≤ tm ∧ tm ≤ 9) (h0 : w2 = 0 → tm = 1) {b2 : Int} (hb : 0 ≤ b2 ∧ b2 < 112) : cq_C s (k + 1) b2 d w2 on stp lt sm (fn_up of d (sg * tm)) pl P o (fn_up F o ((F o).1, ((F o).2.1, (F o).2.2.1, (F o).2.2.2.1, sg, tm))) := by
  obtain ⟨⟨h1, h1w, h1n, h1s⟩, h2, h3, h4, h5, h6, h7, h8, h9⟩ := h
  rw [if_neg hw] at h1
  subst h1
  refine ⟨⟨by rw [if_neg (by omega)], by omega, h1n, h1s⟩, fun i hi => ?_, fun i hi hn => ?_, fun g => ?_, fun g => absurd g (by omega), fun _ => hb, h7, h8, h9⟩
  · by_cases q : i = o
    · rw [q, fn_up_eq]
      obtain ⟨g1, g2, g3, g4, g5, g6, g7⟩ := h2 o (Nat.le_refl o)
      exact ⟨g1, g2, g3, g4, g5, hsg, htm⟩
    · rw [fn_up_ne q]
      exact h2 i hi
  · by_cases q : i = o
    · rw [q, fn_up_eq, fn_up_eq]
    · rw [fn_up_ne q, fn_up_ne q]
      exact h3 i hi (fun g => q g.1)
  · rw [fn_up_eq]
    exact h0 (by omega)
/-- "*" -/
theorem cq_star (h : cq_C s k bef d w on stp lt sm of pl P o F) (hw : w = 1) : cq_C s (k + 1) 42 d 2 on stp lt sm of pl P o F := by
  obtain ⟨⟨h1, h1w, h1n, h1s⟩, h2, h3, h4, h5, h6, h7, h8, h9⟩ := h
  rw [if_neg (by omega)] at h1
  subst h1
  exact ⟨⟨by rw [if_neg (by decide)], by decide, h1n, h1s⟩, h2, fun i hi _ => h3 i hi (by omega), fun g => absurd g (by decide), fun g => absurd g (by decide), fun _ => by decide, h7, h8, h9⟩
/-- a letter -/
theorem cq_ltr (hs : sp_ok s) (h : cq_C s k bef d w on stp lt sm of pl P o F) (hw : w = 0 ∨ w = 2) {c : Int} (hc : pm_ltr c) : cq_C s (k + 1) c (d + 1) 3 on stp (fn_up lt (d + 1) c) (fn_up sm (d + 1) 0) (fn_up of (d + 1) 1) (fn_up pl (d + 1) k) (fn_up P (d + 1) (fn_up (P (d + 1)) 0 (fun _ => 0))) o F := by
  obtain ⟨⟨h1, h1w, h1n, h1s⟩, h2, h3, h4, h5, h6, h7, h8, h9⟩ := h
  rw [if_neg (by omega)] at h1
  subst h1
  refine ⟨⟨rfl, by decide, h1n, h1s⟩, fun i hi => ?_, fun i hi hn => ?_, fun g => absurd g (by decide), fun _ => ⟨by omega, by rw [fn_up_eq], by rw [fn_up_eq], by rw [fn_up_eq]; exact hc, by rw [fn_up_eq, fn_up_eq], by rw [fn_up_eq], by rw [fn_up_eq]⟩, fun g => absurd g (by decide), fun i j hi hj => ?_, by rw [fn_up_ne (by omega)]; exact h8, fun i hi hid => ?_⟩
  · have q : i ≠ o + 1 := by omega
    unfold cq_k
    rw [fn_up_ne q, fn_up_ne q, fn_up_ne q, fn_up_ne q]
    exact h2 i hi
  · have q : i ≠ o + 1 := by omega
    rw [fn_up_ne q]
    exact h3 i hi (by omega)
  · by_cases q : i = o + 1
    · rw [q, fn_up_eq] at hj
      have : j = 0 := by omega
      rw [q, fn_up_eq, this, fn_up_eq]
      exact sp_V0 hs
    · rw [fn_up_ne q] at hj ⊢
      exact h7 i j (by omega) hj
  · by_cases q : i = o + 1
    · rw [q, fn_up_eq, fn_up_eq]
      have := pm_arg_b c
      omega
    · rw [fn_up_ne q, fn_up_ne q]
      exact h9 i hi (by omega)
/-- "," -/
theorem cq_com (hs : sp_ok s) (h : cq_C s k bef d w on stp lt sm of pl P o F) (hw : w = 4) (hd : d ≠ 0) (hne : sm d + 1 ≠ pm_arg (lt d)) : cq_C s (k + 1) 44 d 0 on stp lt (fn_up sm d (sm d + 1)) (fn_up of d 1) pl (fn_up P d (fn_up (P d) (sm d + 1) (fun _ => 0))) o (fn_up F o (fr_kp (F o))) := by
  obtain ⟨⟨h1, h1w, h1n, h1s⟩, h2, h3, h4, h5, h6, h7, h8, h9⟩ := h
  rw [if_neg (by omega)] at h1
  subst h1
  have h9o := h9 o (by omega) (Nat.le_refl o)
  have hab := pm_arg_b (lt o)
  refine ⟨⟨by rw [if_neg (by decide)], by decide, h1n, h1s⟩, fun i hi => ?_, fun i hi hn => ?_, fun g => ?_, fun g => absurd g (by decide), fun _ => by decide, fun i j hi hj => ?_, by rw [fn_up_ne (by omega)]; exact h8, fun i hi hid => ?_⟩
  · by_cases q : i = o
    · subst q
      obtain ⟨g1, g2, g3, g4, g5, g6, g7⟩ := h2 i (Nat.le_refl i)
      unfold cq_k
      rw [fn_up_eq, fn_up_eq, fn_up_eq, fn_up_eq]
      unfold fr_kp
      refine ⟨rfl, fun _ => ?_, fun _ => ?_, ?_, g5, Or.inl rfl, ⟨show (0 : Int) ≤ 1 by decide, show (1 : Int) ≤ 9 by decide⟩⟩
      · show (if (F i).2.1 = 0 then (F i).1.1 else (F i).1.2.1) = _
        rw [fn_up_ne (by omega), g4]
        by_cases q : sm i = 0
        · rw [if_pos q, g1, q]
        · rw [if_neg q]
          exact g2 (by omega)
      · show (if (F i).2.1 = 0 then (F i).1.2.2 else (F i).1.1) = _
        rw [fn_up_ne (by omega), g4, if_neg (by omega), g1, show sm i = 1 by omega]
      · show (F i).2.1 + 1 = _
        rw [g4]
    · unfold cq_k
      rw [fn_up_ne q, fn_up_ne q, fn_up_ne q]
      exact h2 i hi
  · by_cases q : i = o
    · rw [q, fn_up_eq, fn_up_eq]
      rfl
    · rw [fn_up_ne q, fn_up_ne q]
      exact h3 i hi (fun g => q g.1)
  · rw [fn_up_eq]
    rfl
  · by_cases q : i = o
    · subst q
      rw [fn_up_eq] at hj ⊢
      by_cases q2 : j = sm i + 1
      · rw [q2, fn_up_eq]
        exact sp_V0 hs
      · rw [fn_up_ne q2]
        exact h7 i j hi (by omega)
    · rw [fn_up_ne q] at hj ⊢
      exact h7 i j hi hj
  · by_cases q : i = o
    · rw [q, fn_up_eq]
      omega
    · rw [fn_up_ne q]
      exact h9 i hi hid
/-- "=" -/
theorem cq_eqs (hs : sp_ok s) (h : cq_C s k bef d w on stp lt sm of pl P o F) (hw : w = 4) (hd : d = 0) : cq_C s (k + 1) 61 d 0 on stp lt sm (fn_up of 0 1) pl (fn_up P 0 (fn_up (P 0) 0 (fun _ => 0))) o (fn_up F o (fr_st (F o))) ∧ P 0 0 = (F o).1.1 := by
  obtain ⟨⟨h1, h1w, h1n, h1s⟩, h2, h3, h4, h5, h6, h7, h8, h9⟩ := h
  rw [if_neg (by omega)] at h1
  subst h1
  subst hd
  obtain ⟨g1, g2, g3, g4, g5, g6, g7⟩ := h2 0 (Nat.le_refl 0)
  rw [h8] at g1
  refine ⟨⟨⟨by rw [if_neg (by decide)], by decide, h1n, h1s⟩, fun i hi => ?_, fun i hi hn => ?_, fun g => ?_, fun g => absurd g (by decide), fun _ => by decide, fun i j hi hj => ?_, h8, h9⟩, g1.symm⟩
  · have q : i = 0 := by omega
    subst q
    unfold cq_k
    rw [fn_up_eq, fn_up_eq]
    unfold fr_st
    refine ⟨?_, fun h => by omega, fun h => by omega, g4, fun h => by omega, Or.inl rfl, ⟨show (0 : Int) ≤ 1 by decide, show (1 : Int) ≤ 9 by decide⟩⟩
    show (fun _ => 0) = fn_up (P 0) 0 (fun _ => 0) (sm 0)
    rw [h8, fn_up_eq]
  · have q : i = 0 := by omega
    subst q
    rw [fn_up_eq, fn_up_eq]
    rfl
  · rw [fn_up_eq]
    rfl
  · have q : i = 0 := by omega
    subst q
    rw [h8] at hj
    have q : j = 0 := by omega
    subst q
    rw [fn_up_eq, fn_up_eq]
    exact sp_V0 hs
end CQ
theorem sp_Vel10 {s : sp_S} (hs : sp_ok s) {r : Nat} (hr : r < 10) : sp_V s (zs_el s.1 r) := by
  by_cases h : r < 9
  · exact sp_Vel hs h
  · have : r = 9 := by omega
    rw [this]
    exact sp_V9 hs
/-- a character that is no bracket -/
theorem cq_read {s : sp_S} (hs : sp_ok s) {k : Nat} {bef : Int} {t t' : pm_S} {o : Nat} {F : Nat → fr_S} (h : cq_F s k bef t o F) {p0 c : Int} (h40 : c ≠ 40) (h41 : c ≠ 41) (h58 : c ≠ 58) (hst : pm_step s t p0 c k = some t') : cq_F s (k + 1) c t' o (fn_up F o (fr_rd (s.1 82) (zs_el s.1) (zs_el s.1 9) (F o) c)) ∧ (c = 61 → pm_L t' = (F o).1.1) ∧ (c ≠ 61 → pm_L t' = pm_L t ∧ pm_e t' = pm_e t) := by
  have h : cq_C s k bef (pm_d t) (pm_w t) (pm_on t) (pm_stop t) (pm_let t) (pm_sm t) (pm_of t) (pm_pl t) (pm_P t) o F := h
  have same : ∀ x, x = F o → fn_up F o x = F := fun x hx => by
    funext i
    by_cases q : i = o
    · rw [q, fn_up_eq, hx]
    · rw [fn_up_ne q]
  rcases pm_ir h.1.2.1 h40 h41 h58 hst with ⟨hw, hc, rfl⟩ | ⟨hw, hc1, hc2, rfl⟩ | ⟨hw, hc, rfl⟩ | ⟨hw, hc, rfl⟩ | ⟨hw, hc, rfl⟩ | ⟨hw, hc, hd, hne, rfl⟩ | ⟨hw, hc, hd, rfl⟩
  · have hc : (65 ≤ c ∧ c ≤ 72) ∨ c = 105 := hc
    refine ⟨?_, fun e => by omega, fun _ => ⟨rfl, rfl⟩⟩
    obtain ⟨⟨h1, h1w, h1n, h1s⟩, h2, h3, h4, h5, h6, h7, h8, h9⟩ := h
    rw [if_neg (by omega)] at h1
    have hv : sp_V s (zs_el s.1 (if c = 105 then 9 else (c - 65).toNat)) := sp_Vel10 hs (by split <;> omega)
    have hr : fr_rd (s.1 82) (zs_el s.1) (zs_el s.1 9) (F o) c = fr_ad (s.1 82) (F o) (zs_el s.1 (if c = 105 then 9 else (c - 65).toNat)) := by
      unfold fr_rd
      by_cases e : c = 105
      · rw [if_neg (by omega), if_pos e, if_pos e]
      · rw [if_pos (by omega), if_neg e]
    rw [hr]
    have := cq_add (k := k + 1) hs (fun i hi => h2 i (by omega)) (fun i hi => h3 i (by omega) (by omega)) h7 h8 h9 hv c
    rw [← h1] at this
    have e : pm_cnt (s.1 82) t (zs_el s.1 (if c = 105 then 9 else (c - 65).toNat)) = ((pm_d t, 4, pm_f t, pm_e t), t.2.1, t.2.2.1, (fn_up (pm_P t) (pm_d t) (fn_up (pm_P t (pm_d t)) (pm_sm t (pm_d t)) (mx_lin (s.1 82) (pm_P t (pm_d t) (pm_sm t (pm_d t))) 1 (zs_el s.1 (if c = 105 then 9 else (c - 65).toNat)) (pm_of t (pm_d t)))), pm_L t)) := by
      unfold pm_cnt
      rw [if_pos h1n]
    rw [e]
    show cq_C s (k + 1) c (pm_d t) 4 (pm_on t) (pm_stop t) (pm_let t) (pm_sm t) (pm_of t) (pm_pl t) _ o _
    rw [h1n, h1s, ← h1]
    exact this
  · have hr : fr_rd (s.1 82) (zs_el s.1) (zs_el s.1 9) (F o) c = ((F o).1, ((F o).2.1, (F o).2.2.1, (F o).2.2.2.1, (F o).2.2.2.2.1, c - 48)) := by
      unfold fr_rd
      rw [if_neg (by omega), if_neg (by omega), if_pos ⟨hc1, hc2⟩]
    have ho := h.1.1
    rw [if_neg (by omega)] at ho
    have g6 := (h.2.1 o (Nat.le_refl o)).2.2.2.2.2.1
    have g3 := h.2.2.1 o (Nat.le_refl o) (by omega)
    rw [h.2.2.2.1 (Or.inl hw), Int.mul_one] at g3
    rw [hr]
    refine ⟨?_, fun e => by omega, fun _ => ⟨rfl, rfl⟩⟩
    have := cq_wt h (by omega) (w2 := 1) (by decide) g6 (tm := c - 48) (by omega) (fun e => absurd e (by decide)) (b2 := c) (by omega)
    show cq_C s (k + 1) c (pm_d t) 1 (pm_on t) (pm_stop t) (pm_let t) (pm_sm t) (fn_up (pm_of t) (pm_d t) (pm_of t (pm_d t) * (c - 48))) (pm_pl t) (pm_P t) o _
    rw [← ho, ← g3, ho]
    rw [ho] at this
    exact this
  · have hr : fr_rd (s.1 82) (zs_el s.1) (zs_el s.1 9) (F o) c = F o := by
      unfold fr_rd
      rw [if_neg (by omega), if_neg (by omega), if_neg (by omega), if_neg (by omega), if_neg (by omega), if_neg (by omega)]
    rw [hr, same _ rfl, hc]
    exact ⟨cq_star h hw, fun e => absurd e (by decide), fun _ => ⟨rfl, rfl⟩⟩
  · have hc' : c = 112 ∨ c = 117 ∨ c = 116 ∨ c = 118 := hc
    have hr : fr_rd (s.1 82) (zs_el s.1) (zs_el s.1 9) (F o) c = F o := by
      unfold fr_rd
      rw [if_neg (by omega), if_neg (by omega), if_neg (by omega), if_neg (by omega), if_neg (by omega), if_neg (by omega)]
    rw [hr, same _ rfl]
    exact ⟨cq_ltr hs h hw hc, fun e => by omega, fun _ => ⟨rfl, rfl⟩⟩
  · have hr : fr_rd (s.1 82) (zs_el s.1) (zs_el s.1 9) (F o) c = ((F o).1, ((F o).2.1, (F o).2.2.1, (F o).2.2.2.1, (if c = 43 then 1 else -1), (F o).2.2.2.2.2)) := by
      unfold fr_rd
      rw [if_neg (by omega), if_neg (by omega), if_neg (by omega), if_pos hc]
    rw [hr, h.2.2.2.1 (Or.inr hw)]
    refine ⟨?_, fun e => by omega, fun _ => ⟨rfl, rfl⟩⟩
    have := cq_wt h (by omega) (w2 := 0) (by decide) (sg := if c = 43 then 1 else -1) (by split; exact Or.inl rfl; exact Or.inr rfl) (tm := 1) (by decide) (fun _ => rfl) (b2 := c) (by omega)
    rw [Int.mul_one] at this
    exact this
  · subst hc
    have hr : fr_rd (s.1 82) (zs_el s.1) (zs_el s.1 9) (F o) 44 = fr_kp (F o) := by
      unfold fr_rd
      rw [if_neg (by decide), if_neg (by decide), if_neg (by decide), if_neg (by decide), if_pos rfl]
    rw [hr]
    exact ⟨cq_com hs h hw hd hne, fun e => absurd e (by decide), fun _ => ⟨rfl, rfl⟩⟩
  · subst hc
    have hr : fr_rd (s.1 82) (zs_el s.1) (zs_el s.1 9) (F o) 61 = fr_st (F o) := by
      unfold fr_rd
      rw [if_neg (by decide), if_neg (by decide), if_neg (by decide), if_neg (by decide), if_neg (by decide), if_pos rfl]
    rw [hr]
    obtain ⟨g1, g2⟩ := cq_eqs hs h hw hd
    exact ⟨g1, fun _ => g2, fun e => absurd rfl e⟩
