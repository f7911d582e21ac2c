/-! READING A TEXT: a machine of depth, what is wanted, kinds of text; the stop, whether it works; letters, sums, factors, places by depth; the sums' values, the left side -/
abbrev pm_S : Type := (Nat × Nat × Int × Int) × (Int × Int) × ((Nat → Int) × (Nat → Nat) × (Nat → Int) × (Nat → Nat)) × ((Nat → Nat → Nat → Int) × (Nat → Int))
abbrev pm_d (t : pm_S) : Nat := t.1.1
abbrev pm_w (t : pm_S) : Nat := t.1.2.1
abbrev pm_f (t : pm_S) : Int := t.1.2.2.1
abbrev pm_e (t : pm_S) : Int := t.1.2.2.2
abbrev pm_stop (t : pm_S) : Int := t.2.1.1
abbrev pm_on (t : pm_S) : Int := t.2.1.2
abbrev pm_let (t : pm_S) : Nat → Int := t.2.2.1.1
abbrev pm_sm (t : pm_S) : Nat → Nat := t.2.2.1.2.1
abbrev pm_of (t : pm_S) : Nat → Int := t.2.2.1.2.2.1
abbrev pm_pl (t : pm_S) : Nat → Nat := t.2.2.1.2.2.2
abbrev pm_P (t : pm_S) : Nat → Nat → Nat → Int := t.2.2.2.1
abbrev pm_L (t : pm_S) : Nat → Int := t.2.2.2.2
/-- f, but v at i -/
def fn_up {α : Type} (f : Nat → α) (i : Nat) (v : α) : Nat → α := fun j => if j = i then v else f j
theorem fn_up_eq {α : Type} (f : Nat → α) (i : Nat) (v : α) : fn_up f i v i = v := if_pos rfl
theorem fn_up_ne {α : Type} {f : Nat → α} {i j : Nat} {v : α} (h : j ≠ i) : fn_up f i v j = f j := if_neg h
abbrev pm_one (c : Int) : Prop := (65 ≤ c ∧ c ≤ 72) ∨ c = 105
abbrev pm_ltr (c : Int) : Prop := c = 112 ∨ c = 117 ∨ c = 116 ∨ c = 118
def pm_arg (c : Int) : Nat := if c = 116 then 3 else if c = 112 ∨ c = 117 then 2 else 1
theorem pm_arg_b (c : Int) : 1 ≤ pm_arg c ∧ pm_arg c ≤ 3 := by
  unfold pm_arg
  split
  · omega
  · split <;> omega
/-- a factor's value comes to the sum at hand -/
def pm_cnt (m : Int) (t : pm_S) (v : Nat → Int) : pm_S :=
  ((pm_d t, 4, pm_f t, pm_e t), t.2.1, t.2.2.1, (if pm_on t = 1 then fn_up (pm_P t) (pm_d t) (fn_up (pm_P t (pm_d t)) (pm_sm t (pm_d t)) (mx_lin m (pm_P t (pm_d t) (pm_sm t (pm_d t))) 1 v (pm_of t (pm_d t)))) else pm_P t, pm_L t))
/-- a bracket begins -/
def pm_opn (t : pm_S) (c : Int) (k w : Nat) : pm_S :=
  ((pm_d t + 1, w, pm_f t, pm_e t), t.2.1, (fn_up (pm_let t) (pm_d t + 1) c, fn_up (pm_sm t) (pm_d t + 1) 0, fn_up (pm_of t) (pm_d t + 1) 1, fn_up (pm_pl t) (pm_d t + 1) k), (fn_up (pm_P t) (pm_d t + 1) (fn_up (pm_P t (pm_d t + 1)) 0 (fun _ => 0)), pm_L t))
/-- what the bracket at hand gives -/
def pm_val (s : sp_S) (t : pm_S) : Nat → Int :=
  if pm_let t (pm_d t) = 112 then zs_prod s (pm_P t (pm_d t) 0) (pm_P t (pm_d t) (pm_sm t (pm_d t)))
  else if pm_let t (pm_d t) = 117 then zs_oper s (pm_P t (pm_d t) 0) (pm_P t (pm_d t) (pm_sm t (pm_d t)))
  else if pm_let t (pm_d t) = 116 then mx_trip (zs_nn s) (s.1 82) (zs_el s.1 8) (pm_P t (pm_d t) 0) (pm_P t (pm_d t) 1) (pm_P t (pm_d t) (pm_sm t (pm_d t)))
  else if pm_let t (pm_d t) = 118 then mx_mul (zs_nn s) (s.1 82) (mx_mul (zs_nn s) (s.1 82) (zs_el s.1 9) (mx_inv (zs_nn s) (s.1 82) (pm_P t (pm_d t) (pm_sm t (pm_d t))))) (zs_el s.1 9)
  else pm_P t (pm_d t) (pm_sm t (pm_d t))
/-- a bracket ends -/
def pm_cls (s : sp_S) (t : pm_S) : pm_S :=
  pm_cnt (s.1 82) ((pm_d t - 1, pm_w t, pm_f t, pm_e t), (if pm_on t = 1 ∧ pm_let t (pm_d t) = 118 ∧ mx_det (zs_nn s) (s.1 82) (pm_P t (pm_d t) (pm_sm t (pm_d t))) = 0 then ((pm_pl t (pm_d t) : Int), 0) else t.2.1), t.2.2) (pm_val s t)
/-- the machine in the reference's numbers -/
def pr_R (m : Int) (t : pm_S) (M : gx_M) : Prop :=
  M 0 14 = pm_d t ∧ M 0 15 = pm_w t ∧ (M 0 16 = pm_f t ∧ M 0 17 = pm_e t ∧ (pm_f t = 0 ∨ pm_f t = 1) ∧ (pm_e t = 0 ∨ pm_e t = 1)) ∧ (M 0 18 = pm_stop t ∧ M 0 19 = pm_on t ∧ (pm_on t = 0 ∨ pm_on t = 1) ∧ gx_3 (pm_stop t)) ∧
  (∀ i, 1 ≤ i → i ≤ pm_d t → M 8 i = pm_let t i ∧ M 11 i = pm_pl t i ∧ gx_3 (pm_let t i) ∧ pm_pl t i < 60 ∧ pm_sm t i < pm_arg (pm_let t i)) ∧
  (∀ i, i ≤ pm_d t → M 9 i = pm_sm t i ∧ M 10 i = pm_of t i ∧ (pm_sm t i ≤ 2 ∧ -9 ≤ pm_of t i ∧ pm_of t i ≤ 9) ∧ ∀ k, k ≤ pm_sm t i → mx_of (M 6) (144 + 27 * i + 9 * k) = pm_P t i k ∧ mx_ok m (pm_P t i k)) ∧
  ((pm_f t = 1 ∨ pm_e t = 1) → mx_of (M 6) 126 = pm_L t ∧ mx_ok m (pm_L t)) ∧ pm_sm t 0 = 0 ∧ (pm_w t = 0 ∨ pm_w t = 3 → pm_of t (pm_d t) = 1 ∨ pm_of t (pm_d t) = -1)
theorem pr_Rb {m : Int} {t : pm_S} {M : gx_M} {o : Nat} {f : Nat → Int} (h : pr_R m t M) (ho : o + 9 ≤ 126 ∨ o = 135) : pr_R m t (gx_blk M 6 o 9 f) := by
  obtain ⟨h1, h2, h3, h4, h5, h6, h7, h8, h9⟩ := h
  have f0 : ∀ c, c ≠ 6 → gx_blk M 6 o 9 f c = M c := fun c hc => gx_blk_nc hc
  refine ⟨by rw [f0 0 (by decide)]; exact h1, by rw [f0 0 (by decide)]; exact h2, by rw [f0 0 (by decide)]; exact h3, by rw [f0 0 (by decide)]; exact h4, fun i a b => by rw [f0 8 (by decide), f0 11 (by decide)]; exact h5 i a b, fun i a => ?_, fun a => ?_, h8, h9⟩
  · rw [f0 9 (by decide), f0 10 (by decide)]
    obtain ⟨q1, q2, q3, q4⟩ := h6 i a
    exact ⟨q1, q2, q3, fun k hk => by rw [mx_of_blo (by omega)]; exact q4 k hk⟩
  · rw [mx_of_blo (by omega)]
    exact h7 a
