/-! the class's reading and the reference's -/
def pq_C (p0 : Int) (k d w : Nat) (f e : Int) (lt : Nat → Int) (sm : Nat → Nat) (o : Nat) (nx aw dv : Int) (cm : Nat → Int) : Prop :=
  (aw = (w : Int) ∧ w ≤ 4 ∧ o = (if w = 3 then d - 1 else d)) ∧ (w = 3 → 1 ≤ d ∧ sm d = 0 ∧ nx = (pm_arg (lt d) : Int) - 1) ∧ (∀ i, 1 ≤ i → i ≤ d → sm i < pm_arg (lt i)) ∧ (∀ i, i < o → cm i = (pm_arg (lt (i + 1)) : Int) - 1 - sm (i + 1)) ∧ ((dv = 0 ∨ dv = 1) ∧ (f = 0 ∨ f = 1) ∧ (e = 0 ∨ e = 1) ∧ (dv = 1 ↔ (f = 1 ∨ e = 1))) ∧ d ≤ k ∧ (k = 0 → w = 0) ∧ (k ≤ 1 → f = 0 ∧ e = 0) ∧ (k = 1 → pm_one p0 → d = 0)
section PQ
variable {p0 : Int} {k d w : Nat} {f e : Int} {lt : Nat → Int} {sm : Nat → Nat} {o : Nat} {nx aw dv : Int} {cm : Nat → Int}
theorem pq_c1 (h : pq_C p0 k d w f e lt sm o nx aw dv cm) (hw : w = 0 ∨ w = 2) : pq_C p0 (k + 1) d 4 f e lt sm o nx 4 dv cm := by
  obtain ⟨⟨a1, a2, a3⟩, b, c, g, m, n, z1, z2, z3⟩ := h
  rw [if_neg (by omega)] at a3
  exact ⟨⟨rfl, by omega, by rw [if_neg (by decide)]; exact a3⟩, fun h => absurd h (by decide), c, g, m, by omega, fun h => by omega, fun h => z2 (by omega), fun h1 _ => by omega⟩
theorem pq_c2 (h : pq_C p0 k d w f e lt sm o nx aw dv cm) (hw : w = 0) : pq_C p0 (k + 1) d 1 f e lt sm o nx 1 dv cm := by
  obtain ⟨⟨a1, a2, a3⟩, b, c, g, m, n, z1, z2, z3⟩ := h
  rw [if_neg (by omega)] at a3
  exact ⟨⟨rfl, by omega, by rw [if_neg (by decide)]; exact a3⟩, fun h => absurd h (by decide), c, g, m, by omega, fun h => by omega, fun h => z2 (by omega), fun h1 _ => by omega⟩
theorem pq_c3 (h : pq_C p0 k d w f e lt sm o nx aw dv cm) (hw : w = 1) : pq_C p0 (k + 1) d 2 f e lt sm o nx 2 dv cm := by
  obtain ⟨⟨a1, a2, a3⟩, b, c, g, m, n, z1, z2, z3⟩ := h
  rw [if_neg (by omega)] at a3
  exact ⟨⟨rfl, by omega, by rw [if_neg (by decide)]; exact a3⟩, fun h => absurd h (by decide), c, g, m, by omega, fun h => by omega, fun h => z2 (by omega), fun h1 _ => by omega⟩
theorem pq_c4 (h : pq_C p0 k d w f e lt sm o nx aw dv cm) (hw : w = 0 ∨ w = 2) (h1 : k = 0 → p0 = 40) : pq_C p0 (k + 1) (d + 1) 0 f e (fn_up lt (d + 1) 40) (fn_up sm (d + 1) 0) (o + 1) 0 0 dv (fn_up cm o 0) := by
  obtain ⟨⟨a1, a2, a3⟩, b, c, g, m, n, z1, z2, z3⟩ := h
  rw [if_neg (by omega)] at a3
  refine ⟨⟨rfl, by omega, by rw [if_neg (by decide), a3]⟩, fun h => absurd h (by decide), fun i hi hid => ?_, fun i hi => ?_, m, by omega, fun h => by omega, fun h => z2 (by omega), fun h2 h3 => by have := h1 (by omega); omega⟩
  · by_cases q : i = d + 1
    · rw [q, fn_up_eq, fn_up_eq]; decide
    · rw [fn_up_ne q, fn_up_ne q]; exact c i hi (by omega)
  · by_cases q : i = o
    · rw [q, fn_up_eq, a3, fn_up_eq, fn_up_eq]; decide
    · rw [fn_up_ne q, fn_up_ne (by omega), fn_up_ne (by omega)]; exact g i (by omega)
theorem pq_c5 {c0 : Int} (h : pq_C p0 k d w f e lt sm o nx aw dv cm) (hw : w = 0 ∨ w = 2) (hc : pm_ltr c0) (h1 : k = 0 → p0 = c0) : pq_C p0 (k + 1) (d + 1) 3 f e (fn_up lt (d + 1) c0) (fn_up sm (d + 1) 0) o (pd_nc c0) 3 dv cm := by
  obtain ⟨⟨a1, a2, a3⟩, b, c, g, m, n, z1, z2, z3⟩ := h
  rw [if_neg (by omega)] at a3
  have hn : pd_nc c0 = (pm_arg c0 : Int) - 1 := by
    unfold pd_nc pm_arg
    rcases hc with rfl | rfl | rfl | rfl <;> rfl
  have hb := pm_arg_b c0
  refine ⟨⟨rfl, by omega, by rw [if_pos rfl]; omega⟩, fun _ => ⟨by omega, fn_up_eq _ _ _, by rw [fn_up_eq]; exact hn⟩, fun i hi hid => ?_, fun i hi => ?_, m, by omega, fun h => by omega, fun h => z2 (by omega), fun h2 h3 => by have := h1 (by omega); rcases hc with rfl | rfl | rfl | rfl <;> omega⟩
  · by_cases q : i = d + 1
    · rw [q, fn_up_eq, fn_up_eq]; omega
    · rw [fn_up_ne q, fn_up_ne q]; exact c i hi (by omega)
  · rw [fn_up_ne (by omega), fn_up_ne (by omega)]; exact g i (by omega)
theorem pq_c6 (h : pq_C p0 k d w f e lt sm o nx aw dv cm) (hw : w = 3) : pq_C p0 (k + 1) d 0 f e lt sm (o + 1) nx 0 dv (fn_up cm o nx) := by
  obtain ⟨⟨a1, a2, a3⟩, b, c, g, m, n, z1, z2, z3⟩ := h
  rw [if_pos hw] at a3
  obtain ⟨b1, b2, b3⟩ := b hw
  refine ⟨⟨rfl, by omega, by rw [if_neg (by decide)]; omega⟩, fun h => absurd h (by decide), c, fun i hi => ?_, m, by omega, fun h => by omega, fun h => z2 (by omega), fun h2 h3 => by omega⟩
  by_cases q : i = o
  · rw [q, fn_up_eq, show o + 1 = d by omega, b2]; omega
  · rw [fn_up_ne q]; exact g i (by omega)
theorem pq_c7 (h : pq_C p0 k d w f e lt sm o nx aw dv cm) (hw : w = 4) : pq_C p0 (k + 1) d 0 f e lt sm o nx 0 dv cm := by
  obtain ⟨⟨a1, a2, a3⟩, b, c, g, m, n, z1, z2, z3⟩ := h
  rw [if_neg (by omega)] at a3
  exact ⟨⟨rfl, by omega, by rw [if_neg (by decide)]; exact a3⟩, fun h => absurd h (by decide), c, g, m, by omega, fun h => by omega, fun h => z2 (by omega), fun h1 _ => by omega⟩
theorem pq_c8 (h : pq_C p0 k d w f e lt sm o nx aw dv cm) (hw : w = 4) (hd : d ≠ 0) (hs : sm d + 1 ≠ pm_arg (lt d)) : pq_C p0 (k + 1) d 0 f e lt (fn_up sm d (sm d + 1)) o nx 0 dv (fn_up cm (o - 1) (cm (o - 1) - 1)) := by
  obtain ⟨⟨a1, a2, a3⟩, b, c, g, m, n, z1, z2, z3⟩ := h
  rw [if_neg (by omega)] at a3
  have hcd := c d (by omega) (Nat.le_refl d)
  refine ⟨⟨rfl, by omega, by rw [if_neg (by decide)]; exact a3⟩, fun h => absurd h (by decide), fun i hi hid => ?_, fun i hi => ?_, m, by omega, fun h => by omega, fun h => z2 (by omega), fun h1 _ => by omega⟩
  · by_cases q : i = d
    · rw [q, fn_up_eq]; omega
    · rw [fn_up_ne q]; exact c i hi hid
  · by_cases q : i = o - 1
    · have e1 : o - 1 + 1 = d := by omega
      rw [q, fn_up_eq, g (o - 1) (by omega), e1, fn_up_eq]
      omega
    · rw [fn_up_ne q, fn_up_ne (by omega)]; exact g i hi
theorem pq_c9 (h : pq_C p0 k d w f e lt sm o nx aw dv cm) (hw : w = 4) (hd : d ≠ 0) : pq_C p0 (k + 1) (d - 1) 4 f e lt sm (o - 1) nx 4 dv cm := by
  obtain ⟨⟨a1, a2, a3⟩, b, c, g, m, n, z1, z2, z3⟩ := h
  rw [if_neg (by omega)] at a3
  exact ⟨⟨rfl, by omega, by rw [if_neg (by decide)]; omega⟩, fun h => absurd h (by decide), fun i hi hid => c i hi (by omega), fun i hi => g i (by omega), m, by omega, fun h => by omega, fun h => z2 (by omega), fun h1 _ => by omega⟩
theorem pq_c10 {f1 e1 : Int} (h : pq_C p0 k d w f e lt sm o nx aw dv cm) (hw : w = 4) (hd : d = 0) (hf : (f1 = 1 ∧ e1 = 0) ∨ (f1 = 0 ∧ e1 = 1)) : pq_C p0 (k + 1) d 0 f1 e1 lt sm o nx 0 1 cm := by
  obtain ⟨⟨a1, a2, a3⟩, b, c, g, m, n, z1, z2, z3⟩ := h
  rw [if_neg (by omega)] at a3
  exact ⟨⟨rfl, by omega, by rw [if_neg (by decide)]; omega⟩, fun h => absurd h (by decide), c, g, by omega, by omega, fun h => by omega, fun h => by omega, fun h1 _ => by omega⟩
end PQ
def pq_R (p0 : Int) (k : Nat) (t : pm_S) (q : pd_S) : Prop := pq_C p0 k (pm_d t) (pm_w t) (pm_f t) (pm_e t) (pm_let t) (pm_sm t) q.1.1 q.1.2.1 q.1.2.2.1 q.1.2.2.2 q.2
/-- both go on, or neither -/
def pq_O (p0 : Int) (k : Nat) (o : Option pm_S) (w : Option pd_S) : Prop := (o = none ∧ w = none) ∨ ∃ t q, o = some t ∧ w = some q ∧ pq_R p0 k t q
theorem pq_i0 {α : Type} {p : Prop} [Decidable p] {a b c : α} (h : p) (e : a = c) : (if p then a else b) = c := (if_pos h).trans e
theorem pq_i1 {α : Type} {p : Prop} [Decidable p] {a b c : α} (h : ¬ p) (e : b = c) : (if p then a else b) = c := (if_neg h).trans e
theorem pq_oo {p0 : Int} {k : Nat} {o : Option pm_S} {w : Option pd_S} {t : pm_S} {q : pd_S} (h1 : o = some t) (h2 : w = some q) (h : pq_R p0 k t q) : pq_O p0 k o w := Or.inr ⟨t, q, h1, h2, h⟩
theorem pq_on {p0 : Int} {k : Nat} {o : Option pm_S} {w : Option pd_S} (h1 : o = none) (h2 : w = none) : pq_O p0 k o w := Or.inl ⟨h1, h2⟩
theorem pq_fac {s : sp_S} {p0 c : Int} {k : Nat} (hk : k < 60) {t : pm_S} {q : pd_S} (h : pq_R p0 k t q) (hw : pm_w t = 0 ∨ pm_w t = 2) (h1 : k = 0 → p0 = c) : pq_O p0 (k + 1) (pm_fac s t c k) (pd_fac q c) := by
  have ho : q.1.1 < 60 := by
    have a := h.1.2.2
    have b := h.2.2.2.2.2.1
    rw [if_neg (by omega)] at a
    omega
  by_cases e1 : pm_one c
  · exact pq_oo (pq_i0 e1 rfl) (pq_i0 (Or.symm e1) rfl) (pq_c1 h hw)
  · have n1 : ¬ (c = 105 ∨ (65 ≤ c ∧ c ≤ 72)) := fun h => e1 (Or.symm h)
    by_cases e2 : c = 40
    · have := pq_c4 h hw (fun h => by rw [h1 h, e2])
      subst e2
      exact pq_oo (pq_i1 e1 (pq_i0 (Or.inl rfl) rfl)) (pq_i1 n1 (pq_i0 rfl (pq_i1 (show ¬ q.1.1 = 60 by omega) rfl))) this
    · by_cases e3 : pm_ltr c
      · have e4 : c = 116 ∨ c = 112 ∨ c = 117 ∨ c = 118 := by
          have e3 : c = 112 ∨ c = 117 ∨ c = 116 ∨ c = 118 := e3
          omega
        have := pq_c5 h hw e3 h1
        refine pq_oo (t := pm_opn t c k 3) (pq_i1 e1 (pq_i0 (Or.inr e3) (by rw [if_neg e2]))) (pq_i1 n1 (pq_i1 e2 (pq_i0 e4 rfl))) this
      · have e4 : ¬ (c = 116 ∨ c = 112 ∨ c = 117 ∨ c = 118) := by
          have e3 : ¬ (c = 112 ∨ c = 117 ∨ c = 116 ∨ c = 118) := e3
          omega
        exact pq_on (pq_i1 e1 (pq_i1 (fun h => h.elim e2 e3) rfl)) (pq_i1 n1 (pq_i1 e2 (pq_i1 e4 rfl)))
theorem pq_beh {s : sp_S} {p0 c : Int} {k : Nat} {t : pm_S} {q : pd_S} (h : pq_R p0 k t q) (hw : pm_w t = 4) : pq_O p0 (k + 1) (pm_beh s t p0 c k) (if 0 < q.1.1 then pd_ins q c else pd_out q c k p0) := by
  obtain ⟨⟨a1, a2, a3⟩, b, cc, g, ⟨m1, m2, m3, m4⟩, n, z1, z2, z3⟩ := id h
  rw [if_neg (by omega)] at a3
  have hsg : ¬ (c = 43 ∨ c = 45) → pd_sgn q c = none := fun e => if_neg e
  by_cases e1 : c = 43 ∨ c = 45
  · have hs : (if 0 < q.1.1 then pd_ins q c else pd_out q c k p0) = some ((q.1.1, q.1.2.1, 0, q.1.2.2.2), q.2) := by
      have k1 : pd_ins q c = some ((q.1.1, q.1.2.1, 0, q.1.2.2.2), q.2) := pq_i1 (by omega) (pq_i1 (by omega) (if_pos e1))
      have k2 : pd_out q c k p0 = some ((q.1.1, q.1.2.1, 0, q.1.2.2.2), q.2) := pq_i1 (by omega) (if_pos e1)
      rw [k1, k2, ite_self]
    exact pq_oo (if_pos e1) hs (pq_c7 h hw)
  · by_cases hd : pm_d t = 0
    · have ho : ¬ 0 < q.1.1 := by omega
      by_cases e2 : c = 58 ∧ k = 1 ∧ p0 ≠ 105 ∧ pm_one p0
      · have hz := z2 (by omega)
        have hp : 65 ≤ p0 ∧ p0 ≤ 72 := by
          have := e2.2.2.2
          have h5 := e2.2.2.1
          rcases this with h | h
          · exact h
          · exact absurd h h5
        exact pq_oo (pq_i1 e1 (pq_i1 (fun h => h.2.1 hd) (pq_i1 (fun h => h.2.1 hd) (if_pos e2)))) (pq_i1 ho (if_pos ⟨Or.inr ⟨e2.1, e2.2.1, hp⟩, by omega⟩)) (pq_c10 h hw hd (Or.inl ⟨rfl, rfl⟩))
      · by_cases e3 : c = 61 ∧ pm_d t = 0 ∧ pm_f t = 0 ∧ pm_e t = 0
        · exact pq_oo (pq_i1 e1 (pq_i1 (fun h => h.2.1 hd) (pq_i1 (fun h => h.2.1 hd) (pq_i1 e2 (if_pos e3))))) (pq_i1 ho (if_pos ⟨Or.inl e3.1, by omega⟩)) (pq_c10 h hw hd (Or.inr ⟨rfl, rfl⟩))
        · exact pq_on (pq_i1 e1 (pq_i1 (fun h => h.2.1 hd) (pq_i1 (fun h => h.2.1 hd) (pq_i1 e2 (if_neg e3))))) (pq_i1 ho (pq_i1 (fun h => by
            obtain ⟨h1 | ⟨h1, h2, h3⟩, h4⟩ := h
            · exact e3 ⟨h1, hd, by omega, by omega⟩
            · exact e2 ⟨h1, h2, by omega, Or.inl h3⟩) (hsg e1)))
    · have ho : 0 < q.1.1 := by omega
      have gd := g (q.1.1 - 1) (by omega)
      rw [show q.1.1 - 1 + 1 = pm_d t by omega] at gd
      have cd := cc (pm_d t) (by omega) (Nat.le_refl _)
      by_cases e2 : c = 44 ∧ pm_sm t (pm_d t) + 1 ≠ pm_arg (pm_let t (pm_d t))
      · exact pq_oo (pq_i1 e1 (if_pos ⟨e2.1, hd, e2.2⟩)) (pq_i0 ho (pq_i1 (by omega) (if_pos ⟨e2.1, by omega⟩))) (pq_c8 h hw hd e2.2)
      · by_cases e3 : c = 41 ∧ pm_sm t (pm_d t) + 1 = pm_arg (pm_let t (pm_d t))
        · have e4 : q.1.2.2.1 = 4 := by omega
          have := pq_c9 h hw hd
          exact pq_oo (q := ((q.1.1 - 1, q.1.2.1, 4, q.1.2.2.2), q.2)) (pq_i1 e1 (pq_i1 (fun h => e2 ⟨h.1, h.2.2⟩) (if_pos ⟨e3.1, hd, e3.2⟩))) (pq_i0 ho (pq_i0 ⟨e3.1, by omega⟩ (by rw [e4]))) this
        · exact pq_on (pq_i1 e1 (pq_i1 (fun h => e2 ⟨h.1, h.2.2⟩) (pq_i1 (fun h => e3 ⟨h.1, h.2.2⟩) (pq_i1 (fun h => hd (z3 h.2.1 h.2.2.2)) (if_neg (fun h => hd h.2.1)))))) (pq_i0 ho (pq_i1 (fun h => e3 ⟨h.1, by omega⟩) (pq_i1 (fun h => e2 ⟨h.1, by omega⟩) (hsg e1))))
theorem pq_step {s : sp_S} {p0 c : Int} {k : Nat} (hk : k < 60) {t : pm_S} {q : pd_S} (h : pq_R p0 k t q) (h1 : k = 0 → p0 = c) : pq_O p0 (k + 1) (pm_step s t p0 c k) (pd_tk q c k p0) := by
  have a1 := h.1.1
  have a2 := h.1.2.1
  by_cases w0 : pm_w t = 0
  · have v0 : q.1.2.2.1 = 0 := by omega
    by_cases e : 48 ≤ c ∧ c ≤ 57
    · exact pq_oo (pq_i0 w0 (if_pos e)) (pq_i0 v0 (pq_i0 e (if_pos e))) (pq_c2 h w0)
    · rw [show pm_step s t p0 c k = pm_fac s t c k from pq_i0 w0 (if_neg e), show pd_tk q c k p0 = pd_fac q c from pq_i0 v0 (if_neg e)]
      exact pq_fac hk h (Or.inl w0) h1
  · have v0 : ¬ q.1.2.2.1 = 0 := by omega
    by_cases w1 : pm_w t = 1
    · have v1 : q.1.2.2.1 = 1 := by omega
      by_cases e : c = 42
      · exact pq_oo (pq_i1 w0 (pq_i0 w1 (if_pos e))) (pq_i1 v0 (pq_i0 v1 (if_pos e))) (pq_c3 h w1)
      · exact pq_on (pq_i1 w0 (pq_i0 w1 (if_neg e))) (pq_i1 v0 (pq_i0 v1 (if_neg e)))
    · have v1 : ¬ q.1.2.2.1 = 1 := by omega
      by_cases w2 : pm_w t = 2
      · rw [show pm_step s t p0 c k = pm_fac s t c k from pq_i1 w0 (pq_i1 w1 (if_pos w2)), show pd_tk q c k p0 = pd_fac q c from pq_i1 v0 (pq_i1 v1 (if_pos (by omega)))]
        exact pq_fac hk h (Or.inr w2) h1
      · have v2 : ¬ q.1.2.2.1 = 2 := by omega
        by_cases w3 : pm_w t = 3
        · have v3 : q.1.2.2.1 = 3 := by omega
          by_cases e : c = 40
          · have b1 := h.1.2.2
            rw [if_pos w3] at b1
            have b2 := h.2.2.2.2.2.1
            exact pq_oo (pq_i1 w0 (pq_i1 w1 (pq_i1 w2 (pq_i0 w3 (if_pos e))))) (pq_i1 v0 (pq_i1 v1 (pq_i1 v2 (pq_i0 v3 (pq_i0 e (if_neg (show ¬ q.1.1 = 60 by omega))))))) (pq_c6 h w3)
          · exact pq_on (pq_i1 w0 (pq_i1 w1 (pq_i1 w2 (pq_i0 w3 (if_neg e))))) (pq_i1 v0 (pq_i1 v1 (pq_i1 v2 (pq_i0 v3 (if_neg e)))))
        · rw [show pm_step s t p0 c k = pm_beh s t p0 c k from pq_i1 w0 (pq_i1 w1 (pq_i1 w2 (if_neg w3))), show pd_tk q c k p0 = (if 0 < q.1.1 then pd_ins q c else pd_out q c k p0) from pq_i1 v0 (pq_i1 v1 (pq_i1 v2 (if_neg (by omega))))]
          exact pq_beh h (by omega)
theorem pq_run {s : sp_S} : ∀ k, k ≤ 60 → pq_O (s.2.2.2.2 0) k (pm_run s k) (pd_go s.2.2.2.2 k)
  | 0, _ => Or.inr ⟨_, _, rfl, rfl, ⟨rfl, by decide, rfl⟩, fun h => absurd h (by decide), fun i h1 h2 => absurd h2 (by show ¬ i ≤ 0; omega), fun i hi => absurd hi (by show ¬ i < 0; omega), ⟨Or.inl rfl, Or.inl rfl, Or.inl rfl, by decide⟩, Nat.le_refl 0, fun _ => rfl, fun _ => ⟨rfl, rfl⟩, fun h => absurd h (by decide)⟩
  | k + 1, hk => by
    have ih := pq_run (s := s) k (by omega)
    show pq_O _ _ ((pm_run s k).bind _) ((pd_go s.2.2.2.2 k).bind _)
    rcases ih with ⟨h1, h2⟩ | ⟨t, q, h1, h2, h3⟩
    · rw [h1, h2]
      exact Or.inl ⟨rfl, rfl⟩
    · rw [h1, h2]
      exact pq_step (by omega) h3 (fun h => by rw [h])
theorem pq_good {p0 : Int} {k : Nat} {t : pm_S} {q : pd_S} (h : pq_R p0 k t q) : pm_good t ↔ q.1.2.2.1 = 4 ∧ q.1.1 = 0 ∧ q.1.2.2.2 = 1 := by
  obtain ⟨⟨a1, a2, a3⟩, b, cc, g, ⟨m1, m2, m3, m4⟩, n, z1, z2, z3⟩ := h
  unfold pm_good
  constructor
  · rintro ⟨h1, h2, h3⟩
    rw [if_neg (by omega)] at a3
    exact ⟨by omega, by omega, m4.mpr h3⟩
  · rintro ⟨h1, h2, h3⟩
    rw [if_neg (by omega)] at a3
    exact ⟨by omega, by omega, m4.mp h3⟩
/-- the fault -/
theorem pq_flt {s : sp_S} (hs : sp_ok s) {z : Int} (h : pd_flt s.2.2.2.2 s.2.2.2.1 z) : pm_flt s z := by
  have h60 := hs.2.2.2.2.2.1
  rcases h with ⟨k, h1, ⟨t, h2⟩, h3, h4⟩ | ⟨t, h1, h2⟩
  · rcases pq_run (s := s) k (by omega) with ⟨g1, g2⟩ | ⟨u, q, g1, g2, g3⟩
    · rw [h2] at g2; cases g2
    · rcases pq_run (s := s) (k + 1) (by omega) with ⟨f1, f2⟩ | ⟨u', q', f1, f2, f3⟩
      · exact Or.inl ⟨k, u, h1, g1, f1, h4⟩
      · rw [h3] at f2; cases f2
  · rcases pq_run (s := s) s.2.2.2.1 h60 with ⟨g1, g2⟩ | ⟨u, q, g1, g2, g3⟩
    · rw [h1] at g2; cases g2
    · rw [h1] at g2
      cases g2
      refine Or.inr ⟨u, g1, ?_⟩
      have hg := pq_good g3
      by_cases e : t.1.2.2.1 = 4 ∧ t.1.1 = 0 ∧ t.1.2.2.2 = 1
      · rw [if_pos e] at h2
        exact Or.inl ⟨hg.mpr e, h2⟩
      · rw [if_neg e] at h2
        exact Or.inr ⟨fun g => e (hg.mp g), h2⟩
theorem pq_fin {s : sp_S} (hs : sp_ok s) (h : pd_flt s.2.2.2.2 s.2.2.2.1 (-6)) : ∃ t, pm_fin s t := by
  rcases pq_flt hs h with ⟨k, t, h1, h2, h3, h4⟩ | ⟨t, h1, ⟨h2, h3⟩ | ⟨h2, h3⟩⟩
  · omega
  · exact ⟨t, h1, h2⟩
  · omega
/-! what the text is -/
theorem pm_fac_f {s : sp_S} {t t' : pm_S} {c : Int} {k : Nat} (h : pm_fac s t c k = some t') : pm_f t' = pm_f t ∧ pm_e t' = pm_e t := by
  unfold pm_fac at h
  split at h
  · cases h; exact ⟨rfl, rfl⟩
  · split at h
    · cases h; exact ⟨rfl, rfl⟩
    · cases h
/-- a step keeps the kind of text, but for ":" and "=" -/
theorem pm_step_f {s : sp_S} {t t' : pm_S} {p0 c : Int} {k : Nat} (h : pm_step s t p0 c k = some t') : (pm_f t' = pm_f t ∧ pm_e t' = pm_e t ∧ c ≠ 58) ∨ (c = 58 ∧ k = 1 ∧ p0 ≠ 105 ∧ pm_one p0 ∧ pm_f t' = 1) ∨ (c = 61 ∧ pm_f t = 0 ∧ pm_e t = 0 ∧ pm_f t' = 0 ∧ pm_e t' = 1) := by
  have hfac : ∀ {t t' : pm_S}, pm_fac s t c k = some t' → pm_f t' = pm_f t ∧ pm_e t' = pm_e t ∧ c ≠ 58 := fun {t t'} h => by
    refine ⟨(pm_fac_f h).1, (pm_fac_f h).2, fun e => ?_⟩
    unfold pm_fac at h
    rw [if_neg (by omega), if_neg (by unfold pm_ltr; omega)] at h
    cases h
  unfold pm_step at h
  split at h
  · split at h
    · cases h; exact Or.inl ⟨rfl, rfl, by omega⟩
    · exact Or.inl (hfac h)
  · split at h
    · split at h
      · cases h; exact Or.inl ⟨rfl, rfl, by omega⟩
      · cases h
    · split at h
      · exact Or.inl (hfac h)
      · split at h
        · split at h
          · cases h; exact Or.inl ⟨rfl, rfl, by omega⟩
          · cases h
        · unfold pm_beh at h
          split at h
          · cases h; exact Or.inl ⟨rfl, rfl, by omega⟩
          · split at h
            · cases h; exact Or.inl ⟨rfl, rfl, by omega⟩
            · split at h
              · cases h; exact Or.inl ⟨rfl, rfl, by omega⟩
              · split at h
                · next q => cases h; exact Or.inr (Or.inl ⟨q.1, q.2.1, q.2.2.1, q.2.2.2, rfl⟩)
                · split at h
                  · next q => cases h; exact Or.inr (Or.inr ⟨q.1, q.2.2.1, q.2.2.2, rfl, rfl⟩)
                  · cases h
theorem pm_run_s {s : sp_S} {k : Nat} {t' : pm_S} (h : pm_run s (k + 1) = some t') : ∃ t, pm_run s k = some t ∧ pm_step s t (s.2.2.2.2 0) (s.2.2.2.2 k) k = some t' := by
  have h : (pm_run s k).bind (fun t => pm_step s t (s.2.2.2.2 0) (s.2.2.2.2 k) k) = some t' := h
  cases e : pm_run s k with
  | none => rw [e] at h; cases h
  | some u => rw [e] at h; exact ⟨u, rfl, h⟩
theorem pm_kind {s : sp_S} : ∀ k t, pm_run s k = some t → (pm_f t = 1 ↔ 1 < k ∧ s.2.2.2.2 1 = 58 ∧ 65 ≤ s.2.2.2.2 0 ∧ s.2.2.2.2 0 ≤ 72) ∧ (pm_f t = 0 ∨ pm_f t = 1) ∧ ∀ i, 2 ≤ i → i < k → s.2.2.2.2 i ≠ 58
  | 0, t, h => by
    have h : some pm_t0 = some t := h
    cases h
    exact ⟨⟨fun h => absurd h (by decide), fun h => absurd h.1 (by omega)⟩, Or.inl rfl, fun i _ hi => absurd hi (by omega)⟩
  | k + 1, t', h => by
    obtain ⟨t, h1, h2⟩ := pm_run_s h
    obtain ⟨i1, i2, i3⟩ := pm_kind k t h1
    have hh := pm_step_f h2
    refine ⟨?_, ?_, fun i hi hik e => ?_⟩
    · rcases hh with ⟨g1, g2, g3⟩ | ⟨g1, g2, g3, g4, g5⟩ | ⟨g1, g2, g3, g4, g5⟩
      · rw [g1, i1]
        constructor
        · rintro ⟨a, b⟩; exact ⟨by omega, b⟩
        · rintro ⟨a, b, c⟩
          refine ⟨?_, b, c⟩
          rcases (show k = 1 ∨ 1 < k by omega) with rfl | q
          · exact absurd b g3
          · exact q
      · rw [g2] at g1
        refine ⟨fun _ => ⟨by omega, g1, ?_⟩, fun _ => g5⟩
        unfold pm_one at g4
        omega
      · rw [g4]
        refine ⟨fun h => absurd h (by decide), fun ⟨a, b, c⟩ => ?_⟩
        rcases (show k = 1 ∨ 1 < k by omega) with rfl | q
        · omega
        · have := i1.mpr ⟨q, b, c⟩
          omega
    · rcases hh with ⟨g1, g2, g3⟩ | ⟨g1, g2, g3, g4, g5⟩ | ⟨g1, g2, g3, g4, g5⟩ <;> omega
    · by_cases q : i = k
      · subst q
        rcases hh with ⟨g1, g2, g3⟩ | ⟨g1, g2, g3, g4, g5⟩ | ⟨g1, g2, g3, g4, g5⟩ <;> omega
      · exact i3 i hi (by omega) e
/-- which register, if it is a formula -/
theorem pm_tg {s : sp_S} {t : pm_S} (h : pm_fin s t) : (pm_f t = 1 → pd_tg s.2.2.2.2 s.2.2.2.1 = s.2.2.2.2 0 - 65 ∧ 65 ≤ s.2.2.2.2 0 ∧ s.2.2.2.2 0 ≤ 72 ∧ 1 < s.2.2.2.1) ∧ (pm_f t ≠ 1 → pd_tg s.2.2.2.2 s.2.2.2.1 = -6) := by
  obtain ⟨i1, i2, i3⟩ := pm_kind _ t h.1
  unfold pd_tg
  constructor
  · intro hf
    have := i1.mp hf
    rw [if_pos this]
    exact ⟨rfl, this.2.2.1, this.2.2.2, this.1⟩
  · intro hf
    rw [if_neg (fun g => hf (i1.mpr g))]
