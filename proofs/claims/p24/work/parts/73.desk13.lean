/-! the pad's reading -/
abbrev pd_S : Type := (Nat × Int × Int × Int) × (Nat → Int)
def pd_ok (t : pd_S) : Prop := t.1.1 ≤ 60 ∧ (0 ≤ t.1.2.1 ∧ t.1.2.1 ≤ 2) ∧ (0 ≤ t.1.2.2.1 ∧ t.1.2.2.1 ≤ 4) ∧ (t.1.2.2.2 = 0 ∨ t.1.2.2.2 = 1) ∧ ∀ i, i < t.1.1 → 0 ≤ t.2 i ∧ t.2 i ≤ 2
def pd_R (t : pd_S) (M : gx_M) : Prop := M 14 3 = (t.1.1 : Int) ∧ M 14 4 = t.1.2.1 ∧ M 14 5 = t.1.2.2.1 ∧ M 14 6 = t.1.2.2.2 ∧ ∀ i, i < t.1.1 → M 42 i = t.2 i
def pd_F (M M' : gx_M) : Prop := (∀ c, c ≠ 14 → c ≠ 42 → M' c = M c) ∧ M' 14 1 = M 14 1
theorem pd_Fr (M : gx_M) : pd_F M M := ⟨fun _ _ _ => rfl, rfl⟩
theorem pd_Ft {M M1 M2 : gx_M} (h : pd_F M M1) (g : pd_F M1 M2) : pd_F M M2 := ⟨fun c a b => (g.1 c a b).trans (h.1 c a b), g.2.trans h.2⟩
theorem pd_Fu {M : gx_M} {k : Nat} {v : Int} (h : k ≠ 1) : pd_F M (gx_u M 14 k v) := ⟨fun c a _ => gx_u_nc a, gx_u_ne (by omega)⟩
theorem pd_Fc {M : gx_M} {k : Nat} {v : Int} : pd_F M (gx_u M 42 k v) := ⟨fun c _ b => gx_u_nc b, by rw [gx_u_nc (by decide)]⟩
/-- what a step leaves -/
def pd_P (M : gx_M) (o : Option pd_S) (z : Int) (M' : gx_M) : Prop := pd_F M M' ∧ ((∃ t, o = some t ∧ z = 1 ∧ pd_R t M' ∧ pd_ok t) ∨ (o = none ∧ z = 0))
theorem pd_aw {t : pd_S} {M : gx_M} {v : Int} (h : pd_R t M) (k : pd_ok t) (hv : 0 ≤ v ∧ v ≤ 4) : pd_R ((t.1.1, t.1.2.1, v, t.1.2.2.2), t.2) (gx_u M 14 5 v) ∧ pd_ok ((t.1.1, t.1.2.1, v, t.1.2.2.2), t.2) :=
  ⟨⟨by rw [gx_u_ne (by decide)]; exact h.1, by rw [gx_u_ne (by decide)]; exact h.2.1, gx_u_eq _ _ _ _, by rw [gx_u_ne (by decide)]; exact h.2.2.2.1, fun i hi => by rw [gx_u_nc (by decide)]; exact h.2.2.2.2 i hi⟩, ⟨k.1, k.2.1, hv, k.2.2.2⟩⟩
theorem pd_nx {t : pd_S} {M : gx_M} {v : Int} (h : pd_R t M) (k : pd_ok t) (hv : 0 ≤ v ∧ v ≤ 2) : pd_R ((t.1.1, v, t.1.2.2.1, t.1.2.2.2), t.2) (gx_u M 14 4 v) ∧ pd_ok ((t.1.1, v, t.1.2.2.1, t.1.2.2.2), t.2) :=
  ⟨⟨by rw [gx_u_ne (by decide)]; exact h.1, gx_u_eq _ _ _ _, by rw [gx_u_ne (by decide)]; exact h.2.2.1, by rw [gx_u_ne (by decide)]; exact h.2.2.2.1, fun i hi => by rw [gx_u_nc (by decide)]; exact h.2.2.2.2 i hi⟩, ⟨k.1, hv, k.2.2⟩⟩
theorem pd_dv {t : pd_S} {M : gx_M} {v : Int} (h : pd_R t M) (k : pd_ok t) (hv : v = 0 ∨ v = 1) : pd_R ((t.1.1, t.1.2.1, t.1.2.2.1, v), t.2) (gx_u M 14 6 v) ∧ pd_ok ((t.1.1, t.1.2.1, t.1.2.2.1, v), t.2) :=
  ⟨⟨by rw [gx_u_ne (by decide)]; exact h.1, by rw [gx_u_ne (by decide)]; exact h.2.1, by rw [gx_u_ne (by decide)]; exact h.2.2.1, gx_u_eq _ _ _ _, fun i hi => by rw [gx_u_nc (by decide)]; exact h.2.2.2.2 i hi⟩, ⟨k.1, k.2.1, k.2.2.1, hv, k.2.2.2.2⟩⟩
def pd_dig (t : pd_S) (c : Int) : Option pd_S := if 48 ≤ c ∧ c ≤ 57 then some ((t.1.1, t.1.2.1, 1, t.1.2.2.2), t.2) else none
def pd_bra (t : pd_S) : Option pd_S := if t.1.1 = 60 then none else some ((t.1.1 + 1, t.1.2.1, 0, t.1.2.2.2), fn_up t.2 t.1.1 t.1.2.1)
def pd_nc (c : Int) : Int := if c = 116 then 2 else if c = 112 ∨ c = 117 then 1 else 0
def pd_fac (t : pd_S) (c : Int) : Option pd_S := if c = 105 ∨ (65 ≤ c ∧ c ≤ 72) then some ((t.1.1, t.1.2.1, 4, t.1.2.2.2), t.2) else if c = 40 then pd_bra ((t.1.1, 0, t.1.2.2.1, t.1.2.2.2), t.2) else if c = 116 ∨ c = 112 ∨ c = 117 ∨ c = 118 then some ((t.1.1, pd_nc c, 3, t.1.2.2.2), t.2) else none
def pd_sgn (t : pd_S) (c : Int) : Option pd_S := if c = 43 ∨ c = 45 then some ((t.1.1, t.1.2.1, 0, t.1.2.2.2), t.2) else none
def pd_ins (t : pd_S) (c : Int) : Option pd_S := if c = 41 ∧ t.2 (t.1.1 - 1) = 0 then some ((t.1.1 - 1, t.1.2.1, t.1.2.2.1, t.1.2.2.2), t.2) else if c = 44 ∧ 0 < t.2 (t.1.1 - 1) then some ((t.1.1, t.1.2.1, 0, t.1.2.2.2), fn_up t.2 (t.1.1 - 1) (t.2 (t.1.1 - 1) - 1)) else pd_sgn t c
def pd_out (t : pd_S) (c : Int) (k : Nat) (p0 : Int) : Option pd_S := if (c = 61 ∨ (c = 58 ∧ k = 1 ∧ 65 ≤ p0 ∧ p0 ≤ 72)) ∧ t.1.2.2.2 = 0 then some ((t.1.1, t.1.2.1, 0, 1), t.2) else pd_sgn t c
def pd_tk (t : pd_S) (c : Int) (k : Nat) (p0 : Int) : Option pd_S := if t.1.2.2.1 = 0 then (if 48 ≤ c ∧ c ≤ 57 then pd_dig t c else pd_fac t c) else if t.1.2.2.1 = 1 then (if c = 42 then some ((t.1.1, t.1.2.1, 2, t.1.2.2.2), t.2) else none) else if t.1.2.2.1 = 2 then pd_fac t c else if t.1.2.2.1 = 3 then (if c = 40 then pd_bra t else none) else if 0 < t.1.1 then pd_ins t c else pd_out t c k p0
set_option maxRecDepth 100000 in
set_option maxHeartbeats 4000000 in
theorem c_X3_takesDigit {La : List gx_K} (hL : gd_H La) {M : gx_M} {t : pd_S} (hR : pd_R t M) (ok : pd_ok t) {c : Int} (hc : gx_3 c) : gx_Ci La yX3_takesDigit wsX3_takesDigit 0 [gx_R 14, gx_I c] M (fun z M' => (48 ≤ c ∧ c ≤ 57 ∧ pd_P M (pd_dig t c) z M' ∧ z = 1) ∨ (¬ (48 ≤ c ∧ c ≤ 57) ∧ z = 0 ∧ M' = M)) := by
  refine gx_start_i (L := [gx_R 14, gx_I c]) (by decide) rfl rfl (Nat.le_of_ble_eq_true rfl) rfl ?_
  intro _ _ _ _ _ _ _ _ _ _ _ _ C
  refine gx_iload_n C dX3_takesDigit_0 rfl ?_
  refine gx_bipush C dX3_takesDigit_1 rfl ?_
  refine gx_icmp_lt C dX3_takesDigit_3 rfl hc (by unfold gx_3; omega) (fun hb3 => ?_) (fun hb3 => ?_)
  · refine gx_iconst C dX3_takesDigit_12 ?_
    exact gx_zret C (by omega) dX3_takesDigit_13 (Or.inr ⟨by omega, rfl, rfl⟩)
  · refine gx_iload_n C dX3_takesDigit_6 rfl ?_
    refine gx_bipush C dX3_takesDigit_7 rfl ?_
    refine gx_icmp_le C dX3_takesDigit_9 rfl hc (by unfold gx_3; omega) (fun hb9 => ?_) (fun hb9 => ?_)
    · refine gx_aload_n C dX3_takesDigit_14 rfl ?_
      refine gx_iconst C dX3_takesDigit_15 ?_
      refine gx_putI C 3 _ 5 rfl (gd_14 hL) rfl (by decide) nX3_takesDigit_3 tyX3 tyX3_ok nmX3 (gx_hts C _ fX3_takesDigit_35) rfl rfl dX3_takesDigit_16 ?_
      refine gx_iconst C dX3_takesDigit_19 ?_
      obtain ⟨h1, h2⟩ := pd_aw hR ok (v := 1) (by decide)
      exact gx_zret C (by omega) dX3_takesDigit_20 (Or.inl ⟨by omega, by omega, ⟨pd_Fu (by decide), Or.inl ⟨_, if_pos (by omega), rfl, h1, h2⟩⟩, rfl⟩)
    · refine gx_iconst C dX3_takesDigit_12 ?_
      exact gx_zret C (by omega) dX3_takesDigit_13 (Or.inr ⟨by omega, rfl, rfl⟩)
set_option maxRecDepth 100000 in
set_option maxHeartbeats 4000000 in
theorem c_X3_takesBracket {La : List gx_K} (hL : gd_H La) {M : gx_M} {t : pd_S} (hR : pd_R t M) (ok : pd_ok t) : gx_Ci La yX3_takesBracket wsX3_takesBracket 0 [gx_R 14] M (fun z M' => pd_P M (pd_bra t) z M') := by
  obtain ⟨⟨o, nx, aw, dv⟩, cm⟩ := t
  obtain ⟨r1, r2, r3, r4, r5⟩ := id hR
  obtain ⟨k1, k2, k3, k4, k5⟩ := id ok
  simp only at r1 r2 r3 r4 r5 k1 k2 k3 k4 k5
  refine gx_start_i (L := [gx_R 14]) (by decide) rfl rfl (Nat.le_of_ble_eq_true rfl) rfl ?_
  intro _ _ _ _ _ _ _ _ _ _ _ _ C
  refine gx_aload_n C dX3_takesBracket_0 rfl ?_
  refine gx_getI C 3 _ 3 rfl (gd_14 hL) rfl (by decide) nX3_takesBracket_3 (gx_hts C _ fX3_takesBracket_29) dX3_takesBracket_1 r1 ?_
  refine gx_bipush C dX3_takesBracket_4 rfl ?_
  refine gx_icmp_lt C dX3_takesBracket_6 rfl (by unfold gx_3; omega) (by unfold gx_3; omega) (fun hb6 => ?_) (fun hb6 => ?_)
  · have e1 : gx_u M 42 o nx 14 3 = o := by rw [gx_u_nc (by decide)]; exact r1
    refine gx_aload_n C dX3_takesBracket_11 rfl ?_
    refine gx_getR C 3 _ 2 rfl (gd_14 hL) rfl (by decide) nX3_takesBracket_3 (gx_hts C _ fX3_takesBracket_15) dX3_takesBracket_12 ?_
    refine gx_aload_n C dX3_takesBracket_15 rfl ?_
    refine gx_getI C 3 _ 3 rfl (gd_14 hL) rfl (by decide) nX3_takesBracket_3 (gx_hts C _ fX3_takesBracket_29) dX3_takesBracket_16 r1 ?_
    refine gx_aload_n C dX3_takesBracket_19 rfl ?_
    refine gx_getI C 3 _ 4 rfl (gd_14 hL) rfl (by decide) nX3_takesBracket_3 (gx_hts C _ fX3_takesBracket_32) dX3_takesBracket_20 r2 ?_
    refine gx_iastore C (gd_42 hL) (by omega) dX3_takesBracket_23 (show _ = o by omega) ?_
    refine gx_aload_n C dX3_takesBracket_24 rfl ?_
    refine gx_dup C dX3_takesBracket_25 rfl ?_
    refine gx_getI C 3 _ 3 rfl (gd_14 hL) rfl (by decide) nX3_takesBracket_3 (gx_hts C _ fX3_takesBracket_29) dX3_takesBracket_26 e1 ?_
    refine gx_iconst C dX3_takesBracket_29 ?_
    refine gx_iadd C dX3_takesBracket_30 ?_
    refine gx_putI C 3 _ 3 rfl (gd_14 hL) rfl (by decide) nX3_takesBracket_3 tyX3 tyX3_ok nmX3 (gx_hts C _ fX3_takesBracket_29) rfl rfl dX3_takesBracket_31 ?_
    refine gx_aload_n C dX3_takesBracket_34 rfl ?_
    refine gx_iconst C dX3_takesBracket_35 ?_
    refine gx_putI C 3 _ 5 rfl (gd_14 hL) rfl (by decide) nX3_takesBracket_3 tyX3 tyX3_ok nmX3 (gx_hts C _ fX3_takesBracket_35) rfl rfl dX3_takesBracket_36 ?_
    refine gx_iconst C dX3_takesBracket_39 ?_
    have h : pd_R ((o + 1, nx, 0, dv), fn_up cm o nx) (gx_u (gx_u (gx_u M 42 o nx) 14 3 ((o : Int) + 1)) 14 5 0) := by
      refine ⟨by rw [gx_u_ne (by decide), gx_u_eq]; show (o : Int) + 1 = ((o + 1 : Nat) : Int); omega, by rw [gx_u_ne (by decide), gx_u_ne (by decide), gx_u_nc (by decide)]; exact r2, gx_u_eq _ _ _ _, by rw [gx_u_ne (by decide), gx_u_ne (by decide), gx_u_nc (by decide)]; exact r4, fun i hi => ?_⟩
      rw [gx_u_nc (by decide), gx_u_nc (by decide)]
      show _ = if i = o then nx else cm i
      by_cases e : i = o
      · rw [if_pos e, e, gx_u_eq]
      · rw [if_neg e, gx_u_ne (by omega)]
        exact r5 i (by have : i < o + 1 := hi; omega)
    have g : pd_ok ((o + 1, nx, 0, dv), fn_up cm o nx) := by
      refine ⟨by show o + 1 ≤ 60; omega, k2, show 0 ≤ (0 : Int) ∧ (0 : Int) ≤ 4 from by decide, k4, fun i hi => ?_⟩
      show 0 ≤ (if i = o then nx else cm i) ∧ (if i = o then nx else cm i) ≤ 2
      by_cases e : i = o
      · rw [if_pos e]; exact k2
      · rw [if_neg e]
        exact k5 i (by have : i < o + 1 := hi; omega)
    exact gx_zret C (by omega) dX3_takesBracket_40 ⟨pd_Ft pd_Fc (pd_Ft (pd_Fu (by decide)) (pd_Fu (by decide))), Or.inl ⟨_, if_neg (show ¬ o = 60 by omega), rfl, h, g⟩⟩
  · refine gx_iconst C dX3_takesBracket_9 ?_
    exact gx_zret C (by omega) dX3_takesBracket_10 ⟨pd_Fr M, Or.inr ⟨if_pos (show o = 60 by omega), rfl⟩⟩
set_option maxRecDepth 100000 in
set_option maxHeartbeats 4000000 in
theorem c_X3_takesSign {La : List gx_K} (hL : gd_H La) {M : gx_M} {t : pd_S} (hR : pd_R t M) (ok : pd_ok t) {c : Int} (hc : gx_3 c) : gx_Ci La yX3_takesSign wsX3_takesSign 0 [gx_R 14, gx_I c] M (fun z M' => pd_P M (pd_sgn t c) z M') := by
  obtain ⟨h1, h2⟩ := pd_aw hR ok (v := 0) (by decide)
  have hF : pd_F M (gx_u M 14 5 0) := pd_Fu (by decide)
  refine gx_start_i (L := [gx_R 14, gx_I c]) (by decide) rfl rfl (Nat.le_of_ble_eq_true rfl) rfl ?_
  intro _ _ _ _ _ _ _ _ _ _ _ _ C
  refine gx_aload_n C dX3_takesSign_0 rfl ?_
  refine gx_iconst C dX3_takesSign_1 ?_
  refine gx_putI C 3 _ 5 rfl (gd_14 hL) rfl (by decide) nX3_takesSign_3 tyX3 tyX3_ok nmX3 (gx_hts C _ fX3_takesSign_35) rfl rfl dX3_takesSign_2 ?_
  refine gx_iload_n C dX3_takesSign_5 rfl ?_
  refine gx_bipush C dX3_takesSign_6 rfl ?_
  refine gx_icmp_eq C dX3_takesSign_8 rfl hc (by unfold gx_3; omega) (fun hb8 => ?_) (fun hb8 => ?_)
  · refine gx_iconst C dX3_takesSign_17 ?_
    refine gx_goto C dX3_takesSign_18 rfl ?_
    exact gx_zret C (by omega) dX3_takesSign_22 ⟨hF, Or.inl ⟨_, if_pos (by omega), rfl, h1, h2⟩⟩
  · refine gx_iload_n C dX3_takesSign_11 rfl ?_
    refine gx_bipush C dX3_takesSign_12 rfl ?_
    refine gx_icmp_ne C dX3_takesSign_14 rfl hc (by unfold gx_3; omega) (fun hb14 => ?_) (fun hb14 => ?_)
    · refine gx_iconst C dX3_takesSign_21 ?_
      exact gx_zret C (by omega) dX3_takesSign_22 ⟨hF, Or.inr ⟨if_neg (by omega), rfl⟩⟩
    · refine gx_iconst C dX3_takesSign_17 ?_
      refine gx_goto C dX3_takesSign_18 rfl ?_
      exact gx_zret C (by omega) dX3_takesSign_22 ⟨hF, Or.inl ⟨_, if_pos (by omega), rfl, h1, h2⟩⟩
set_option maxRecDepth 100000 in
set_option maxHeartbeats 4000000 in
theorem c_X3_takesFactor {La : List gx_K} (hL : gd_H La) {M : gx_M} {t : pd_S} (hR : pd_R t M) (ok : pd_ok t) {c : Int} (hc : gx_3 c) : gx_Ci La yX3_takesFactor wsX3_takesFactor 1 [gx_R 14, gx_I c] M (fun z M' => pd_P M (pd_fac t c) z M') := by
  obtain ⟨h1, h2⟩ := pd_aw hR ok (v := 4) (by decide)
  have hF : pd_F M (gx_u M 14 5 4) := pd_Fu (by decide)
  have hg : 0 ≤ pd_nc c ∧ pd_nc c ≤ 2 := by unfold pd_nc; split <;> (try split) <;> omega
  refine gx_start_i (L := [gx_R 14, gx_I c]) (by decide) rfl rfl (Nat.le_of_ble_eq_true rfl) rfl ?_
  intro _ _ _ _ _ _ _ _ _ _ _ _ C
  refine gx_iload_n C dX3_takesFactor_0 rfl ?_
  refine gx_bipush C dX3_takesFactor_1 rfl ?_
  refine gx_icmp_eq C dX3_takesFactor_3 rfl hc (by unfold gx_3; omega) (fun hb3 => ?_) (fun hb3 => ?_)
  · refine gx_aload_n C dX3_takesFactor_15 rfl ?_
    refine gx_iconst C dX3_takesFactor_16 ?_
    refine gx_putI C 3 _ 5 rfl (gd_14 hL) rfl (by decide) nX3_takesFactor_3 tyX3 tyX3_ok nmX3 (gx_hts C _ fX3_takesFactor_35) rfl rfl dX3_takesFactor_17 ?_
    refine gx_iconst C dX3_takesFactor_20 ?_
    exact gx_zret C (by omega) dX3_takesFactor_21 ⟨hF, Or.inl ⟨_, if_pos (by omega), rfl, h1, h2⟩⟩
  · refine gx_iload_n C dX3_takesFactor_6 rfl ?_
    refine gx_statIN C (c_X7_registerOf hc) (⟨va_cnB 1 (gx_hts C) gX3_takesFactor_X7_registerOf_n25 rfl rfl rfl ((gx_hN C).2 ("PeirceDesk$Pad", 25, yX7_registerOf, "PeirceDesk") (by decide +kernel)) ((gx_hts C) (.initialized RX7) (by decide +kernel)) (by decide +kernel) ⟨Nat.le_of_ble_eq_true rfl, Nat.le_of_ble_eq_true rfl⟩, (gx_hts C) (.static yX7_registerOf) (by decide +kernel), trivial⟩) rfl rfl (Nat.le_of_ble_eq_true rfl) ⟨Nat.le_refl _, Nat.le_refl _⟩ dX3_takesFactor_7 (fun z P hz => ?_)
    obtain ⟨rfl, hz⟩ := hz
    have hz3 : -6 ≤ z ∧ z ≤ 7 ∧ (z = -6 ↔ ¬ (65 ≤ c ∧ c ≤ 72)) := by
      rw [hz]
      split <;> omega
    refine gx_bipush C dX3_takesFactor_10 rfl ?_
    refine gx_icmp_eq C dX3_takesFactor_12 rfl (by unfold gx_3; omega) (by unfold gx_3; omega) (fun hb12 => ?_) (fun hb12 => ?_)
    · have e1 : ¬ (c = 105 ∨ (65 ≤ c ∧ c ≤ 72)) := fun h => h.elim hb3 (hz3.2.2.mp hb12)
      refine gx_iload_n C dX3_takesFactor_22 rfl ?_
      refine gx_bipush C dX3_takesFactor_23 rfl ?_
      refine gx_icmp_ne C dX3_takesFactor_25 rfl hc (by unfold gx_3; omega) (fun hb25 => ?_) (fun hb25 => ?_)
      · refine gx_aload_n C dX3_takesFactor_38 rfl ?_
        refine gx_iload_n C dX3_takesFactor_39 rfl ?_
        refine gx_bipush C dX3_takesFactor_40 rfl ?_
        refine gx_cut 66 (fun (_ : Int) => [gx_R 14, gx_I c]) (fun v => [gx_I v, gx_R 14]) (fun _ => P) (fun v => v = pd_nc c) (fun v hv => ?_) (fun fin => ?_)
        · subst hv
          obtain ⟨g1, g2⟩ := pd_nx hR ok (v := pd_nc c) hg
          obtain ⟨g3, g4⟩ := pd_aw g1 g2 (v := 3) (by decide)
          have hF3 : pd_F P (gx_u (gx_u P 14 4 (pd_nc c)) 14 5 3) := pd_Ft (pd_Fu (by decide)) (pd_Fu (by decide))
          have e5 : gx_u (gx_u P 14 4 (pd_nc c)) 14 5 3 14 4 = pd_nc c := by rw [gx_u_ne (by decide), gx_u_eq]
          refine gx_putI C 3 _ 4 rfl (gd_14 hL) rfl (by decide) nX3_takesFactor_3 tyX3 tyX3_ok nmX3 (gx_hts C _ fX3_takesFactor_32) rfl rfl dX3_takesFactor_66 ?_
          refine gx_aload_n C dX3_takesFactor_69 rfl ?_
          refine gx_iconst C dX3_takesFactor_70 ?_
          refine gx_putI C 3 _ 5 rfl (gd_14 hL) rfl (by decide) nX3_takesFactor_3 tyX3 tyX3_ok nmX3 (gx_hts C _ fX3_takesFactor_35) rfl rfl dX3_takesFactor_71 ?_
          refine gx_aload_n C dX3_takesFactor_74 rfl ?_
          refine gx_getI C 3 _ 4 rfl (gd_14 hL) rfl (by decide) nX3_takesFactor_3 (gx_hts C _ fX3_takesFactor_32) dX3_takesFactor_75 e5 ?_
          refine gx_if_gt C dX3_takesFactor_78 rfl (by unfold gx_3; omega) (fun hb78 => ?_) (fun hb78 => ?_)
          · have e6 : c = 116 ∨ c = 112 ∨ c = 117 ∨ c = 118 := by
              unfold pd_nc at hb78
              by_cases k1 : c = 116
              · exact Or.inl k1
              · rw [if_neg k1] at hb78
                by_cases k2 : c = 112 ∨ c = 117
                · omega
                · rw [if_neg k2] at hb78
                  omega
            refine gx_iconst C dX3_takesFactor_87 ?_
            refine gx_goto C dX3_takesFactor_88 rfl ?_
            exact gx_zret C (by omega) dX3_takesFactor_92 ⟨hF3, Or.inl ⟨_, by unfold pd_fac; rw [if_neg e1, if_neg hb25, if_pos e6], rfl, g3, g4⟩⟩
          · have e6 : ¬ (c = 116 ∨ c = 112 ∨ c = 117) := fun h => hb78 (by
              unfold pd_nc
              by_cases k1 : c = 116
              · rw [if_pos k1]; decide
              · rw [if_neg k1, if_pos (by omega)]; decide)
            refine gx_iload_n C dX3_takesFactor_81 rfl ?_
            refine gx_bipush C dX3_takesFactor_82 rfl ?_
            refine gx_icmp_ne C dX3_takesFactor_84 rfl hc (by unfold gx_3; omega) (fun hb84 => ?_) (fun hb84 => ?_)
            · refine gx_iconst C dX3_takesFactor_91 ?_
              exact gx_zret C (by omega) dX3_takesFactor_92 ⟨hF3, Or.inr ⟨by unfold pd_fac; rw [if_neg e1, if_neg hb25, if_neg (by omega)], rfl⟩⟩
            · refine gx_iconst C dX3_takesFactor_87 ?_
              refine gx_goto C dX3_takesFactor_88 rfl ?_
              exact gx_zret C (by omega) dX3_takesFactor_92 ⟨hF3, Or.inl ⟨_, by unfold pd_fac; rw [if_neg e1, if_neg hb25, if_pos (by omega)], rfl, g3, g4⟩⟩
        · refine gx_icmp_ne C dX3_takesFactor_42 rfl hc (by unfold gx_3; omega) (fun hb42 => ?_) (fun hb42 => ?_)
          · refine gx_iload_n C dX3_takesFactor_49 rfl ?_
            refine gx_bipush C dX3_takesFactor_50 rfl ?_
            refine gx_icmp_eq C dX3_takesFactor_52 rfl hc (by unfold gx_3; omega) (fun hb52 => ?_) (fun hb52 => ?_)
            · refine gx_iconst C dX3_takesFactor_61 ?_
              refine gx_goto C dX3_takesFactor_62 rfl ?_
              exact fin 1 (by unfold pd_nc; rw [if_neg (by omega), if_pos (by omega)])
            · refine gx_iload_n C dX3_takesFactor_55 rfl ?_
              refine gx_bipush C dX3_takesFactor_56 rfl ?_
              refine gx_icmp_ne C dX3_takesFactor_58 rfl hc (by unfold gx_3; omega) (fun hb58 => ?_) (fun hb58 => ?_)
              · refine gx_iconst C dX3_takesFactor_65 ?_
                exact fin 0 (by unfold pd_nc; rw [if_neg (by omega), if_neg (by omega)])
              · refine gx_iconst C dX3_takesFactor_61 ?_
                refine gx_goto C dX3_takesFactor_62 rfl ?_
                exact fin 1 (by unfold pd_nc; rw [if_neg (by omega), if_pos (by omega)])
          · refine gx_iconst C dX3_takesFactor_45 ?_
            refine gx_goto C dX3_takesFactor_46 rfl ?_
            exact fin 2 (by unfold pd_nc; rw [if_pos (by omega)])
      · obtain ⟨g1, g2⟩ := pd_nx hR ok (v := 0) (by decide)
        refine gx_aload_n C dX3_takesFactor_28 rfl ?_
        refine gx_iconst C dX3_takesFactor_29 ?_
        refine gx_putI C 3 _ 4 rfl (gd_14 hL) rfl (by decide) nX3_takesFactor_3 tyX3 tyX3_ok nmX3 (gx_hts C _ fX3_takesFactor_32) rfl rfl dX3_takesFactor_30 ?_
        refine gx_aload_n C dX3_takesFactor_33 rfl ?_
        refine gx_callI C 3 rfl (gd_14 hL) (c_X3_takesBracket hL g1 g2) (cwV 0 (gx_hts C) gX3_takesFactor_X3_takesBracket rfl rfl rfl (by decide +kernel) ⟨Nat.le_of_ble_eq_true rfl, Nat.le_of_ble_eq_true rfl⟩) rfl rfl (Nat.le_of_ble_eq_true rfl) ⟨Nat.le_refl _, Nat.le_refl _⟩ dX3_takesFactor_34 (fun z2 P2 h6 => ?_)
        exact gx_zret C (by rcases h6.2 with ⟨_, _, h, _⟩ | ⟨_, h⟩ <;> omega) dX3_takesFactor_37 ⟨pd_Ft (pd_Fu (by decide)) h6.1, by unfold pd_fac; rw [if_neg e1, if_pos (by omega)]; exact h6.2⟩
    · refine gx_aload_n C dX3_takesFactor_15 rfl ?_
      refine gx_iconst C dX3_takesFactor_16 ?_
      refine gx_putI C 3 _ 5 rfl (gd_14 hL) rfl (by decide) nX3_takesFactor_3 tyX3 tyX3_ok nmX3 (gx_hts C _ fX3_takesFactor_35) rfl rfl dX3_takesFactor_17 ?_
      refine gx_iconst C dX3_takesFactor_20 ?_
      exact gx_zret C (by omega) dX3_takesFactor_21 ⟨hF, Or.inl ⟨_, if_pos (by omega), rfl, h1, h2⟩⟩
