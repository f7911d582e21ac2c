def pd_0 : pd_S := ((0, 0, 0, 0), fun _ => 0)
/-- the text read up to a place -/
def pd_go (p : Nat → Int) : Nat → Option pd_S
  | 0 => some pd_0
  | k + 1 => (pd_go p k).bind (fun t => pd_tk t (p k) k (p 0))
def pd_flt (p : Nat → Int) (tn : Nat) (z : Int) : Prop := (∃ k, k < tn ∧ (∃ t, pd_go p k = some t) ∧ pd_go p (k + 1) = none ∧ z = (k : Int)) ∨ (∃ t, pd_go p tn = some t ∧ z = if t.1.2.2.1 = 4 ∧ t.1.1 = 0 ∧ t.1.2.2.2 = 1 then -6 else (tn : Int))
/-- the pad's text -/
def pd_T (p : Nat → Int) (tn : Nat) (M : gx_M) : Prop := M 14 1 = (tn : Int) ∧ tn ≤ 60 ∧ ∀ i, i < tn → M 41 i = p i ∧ 33 ≤ p i ∧ p i ≤ 126
theorem pd_TF {p : Nat → Int} {tn : Nat} {M M' : gx_M} (h : pd_T p tn M) (f : pd_F M M') : pd_T p tn M' := by
  unfold pd_T
  rw [f.2, f.1 41 (by decide) (by decide)]
  exact h
set_option maxRecDepth 100000 in
set_option maxHeartbeats 4000000 in
theorem c_X3_findFault {La : List gx_K} (hL : gd_H La) {M : gx_M} {p : Nat → Int} {tn : Nat} (hT : pd_T p tn M) : gx_Ci La yX3_findFault wsX3_findFault 3 [gx_R 14] M (fun z M' => pd_flt p tn z ∧ pd_F M M') := by
  obtain ⟨t1, t2, t3⟩ := id hT
  refine gx_start_i (L := [gx_R 14, gx_U]) (by decide) rfl rfl (Nat.le_of_ble_eq_true rfl) rfl ?_
  intro _ _ _ _ _ _ _ _ _ _ _ _ C
  refine gx_aload_n C dX3_findFault_0 rfl ?_
  refine gx_iconst C dX3_findFault_1 ?_
  refine gx_putI C 3 _ 3 rfl (gd_14 hL) rfl (by decide) nX3_findFault_3 tyX3 tyX3_ok nmX3 (gx_hts C _ fX3_findFault_29) rfl rfl dX3_findFault_2 ?_
  refine gx_aload_n C dX3_findFault_5 rfl ?_
  refine gx_iconst C dX3_findFault_6 ?_
  refine gx_putI C 3 _ 4 rfl (gd_14 hL) rfl (by decide) nX3_findFault_3 tyX3 tyX3_ok nmX3 (gx_hts C _ fX3_findFault_32) rfl rfl dX3_findFault_7 ?_
  refine gx_aload_n C dX3_findFault_10 rfl ?_
  refine gx_iconst C dX3_findFault_11 ?_
  refine gx_putI C 3 _ 5 rfl (gd_14 hL) rfl (by decide) nX3_findFault_3 tyX3 tyX3_ok nmX3 (gx_hts C _ fX3_findFault_35) rfl rfl dX3_findFault_12 ?_
  refine gx_aload_n C dX3_findFault_15 rfl ?_
  refine gx_iconst C dX3_findFault_16 ?_
  refine gx_putZ C 3 _ 6 rfl (gd_14 hL) rfl (by decide) nX3_findFault_3 tyX3 tyX3_ok nmX3 (gx_hts C _ fX3_findFault_38) rfl rfl (by omega) dX3_findFault_17 ?_
  refine gx_iconst C dX3_findFault_20 ?_
  refine gx_istore_n C dX3_findFault_21 (by decide) rfl ?_
  have hF0 : pd_F M (gx_u (gx_u (gx_u (gx_u M 14 3 0) 14 4 0) 14 5 0) 14 6 0) := pd_Ft (pd_Fu (by decide)) (pd_Ft (pd_Fu (by decide)) (pd_Ft (pd_Fu (by decide)) (pd_Fu (by decide))))
  have hR0 : pd_R pd_0 (gx_u (gx_u (gx_u (gx_u M 14 3 0) 14 4 0) 14 5 0) 14 6 0) := ⟨by rw [gx_u_ne (by decide), gx_u_ne (by decide), gx_u_ne (by decide), gx_u_eq]; rfl, by rw [gx_u_ne (by decide), gx_u_ne (by decide), gx_u_eq]; rfl, by rw [gx_u_ne (by decide), gx_u_eq]; rfl, gx_u_eq _ _ _ _, fun i hi => absurd hi (Nat.not_lt_zero i)⟩
  have ok0 : pd_ok pd_0 := ⟨Nat.zero_le _, by decide, by decide, Or.inl rfl, fun i hi => absurd hi (Nat.not_lt_zero i)⟩
  generalize gx_u (gx_u (gx_u (gx_u M 14 3 0) 14 4 0) 14 5 0) 14 6 0 = M0 at hF0 hR0 ⊢
  refine gx_for tn (fun k (_ : gx_M × pd_S) => [gx_R 14, gx_I (k : Int)]) (fun a => a.1) (fun k a => pd_go p k = some a.2 ∧ pd_R a.2 a.1 ∧ pd_ok a.2 ∧ pd_F M a.1) 0 (M0, pd_0) (by omega) ⟨rfl, hR0, ok0, hF0⟩ (fun k a hk hI ih => ?_) (fun a hI => ?_)
  · obtain ⟨Q, t⟩ := a
    obtain ⟨i1, i2, i3, i4⟩ := hI
    simp only at i1 i2 i3 i4 ⊢
    obtain ⟨u1, u2, u3⟩ := pd_TF hT i4
    obtain ⟨c1, c2, c3⟩ := u3 k hk
    obtain ⟨d1, d2, d3⟩ := u3 0 (by omega)
    have e1 : Q 41 (((k : Int)).toNat) = p k := c1
    refine gx_iload_n C dX3_findFault_22 rfl ?_
    refine gx_aload_n C dX3_findFault_23 rfl ?_
    refine gx_getI C 3 _ 1 rfl (gd_14 hL) rfl (by decide) nX3_findFault_3 (gx_hts C _ fX3_findFault_21) dX3_findFault_24 u1 ?_
    refine gx_icmp_ge C dX3_findFault_27 rfl (by unfold gx_3; omega) (by unfold gx_3; omega) (fun hb27 => absurd hb27 (by omega)) (fun hb27 => ?_)
    refine gx_aload_n C dX3_findFault_30 rfl ?_
    refine gx_aload_n C dX3_findFault_31 rfl ?_
    refine gx_getR C 3 _ 0 rfl (gd_14 hL) rfl (by decide) nX3_findFault_3 (gx_hts C _ fX3_findFault_9) dX3_findFault_32 ?_
    refine gx_iload_n C dX3_findFault_35 rfl ?_
    refine gx_caload C (gd_41 hL) (by omega) dX3_findFault_36 e1 ?_
    refine gx_iload_n C dX3_findFault_37 rfl ?_
    refine gx_callI C 3 rfl (gd_14 hL) (c_X3_takes hL i2 i3 (c := p k) (by unfold gx_3; omega) (k := k) (by omega) d1 (by omega)) (cwV 2 (gx_hts C) gX3_findFault_X3_takes rfl rfl rfl (by decide +kernel) ⟨Nat.le_of_ble_eq_true rfl, Nat.le_of_ble_eq_true rfl⟩) rfl rfl (Nat.le_of_ble_eq_true rfl) ⟨Nat.le_refl _, Nat.le_refl _⟩ dX3_findFault_38 (fun z P hz => ?_)
    have hzz := pd_Pz hz
    obtain ⟨hz1, hz2⟩ := hz
    refine gx_if_ne C dX3_findFault_41 rfl (by unfold gx_3; omega) (fun hb41 => ?_) (fun hb41 => ?_)
    · refine gx_iinc C dX3_findFault_46 (by decide) rfl rfl ?_
      refine gx_goto C dX3_findFault_49 rfl ?_
      rcases hz2 with ⟨t', h, _, h2, h3⟩ | ⟨_, h⟩
      · exact ih (P, t') ⟨by show (pd_go p k).bind _ = some t'; rw [i1]; exact h, h2, h3, pd_Ft i4 hz1⟩
      · omega
    · refine gx_iload_n C dX3_findFault_44 rfl ?_
      rcases hz2 with ⟨t', _, h, _⟩ | ⟨h, _⟩
      · omega
      · exact gx_iret C dX3_findFault_45 ⟨Or.inl ⟨k, hk, ⟨t, i1⟩, by show (pd_go p k).bind _ = none; rw [i1]; exact h, rfl⟩, pd_Ft i4 hz1⟩
  · obtain ⟨Q, t⟩ := a
    obtain ⟨i1, i2, i3, i4⟩ := hI
    simp only at i1 i2 i3 i4 ⊢
    obtain ⟨u1, u2, u3⟩ := pd_TF hT i4
    obtain ⟨r1, r2, r3, r4, r5⟩ := i2
    obtain ⟨k1, k2, k3, k4, k5⟩ := i3
    refine gx_iload_n C dX3_findFault_22 rfl ?_
    refine gx_aload_n C dX3_findFault_23 rfl ?_
    refine gx_getI C 3 _ 1 rfl (gd_14 hL) rfl (by decide) nX3_findFault_3 (gx_hts C _ fX3_findFault_21) dX3_findFault_24 u1 ?_
    refine gx_icmp_ge C dX3_findFault_27 rfl (by unfold gx_3; omega) (by unfold gx_3; omega) (fun hb27 => ?_) (fun hb27 => absurd (by omega) hb27)
    refine gx_aload_n C dX3_findFault_52 rfl ?_
    refine gx_getI C 3 _ 5 rfl (gd_14 hL) rfl (by decide) nX3_findFault_3 (gx_hts C _ fX3_findFault_35) dX3_findFault_53 r3 ?_
    refine gx_iconst C dX3_findFault_56 ?_
    refine gx_cut 79 (fun (_ : Int) => [gx_R 14, gx_I (tn : Int)]) (fun _ => []) (fun _ => Q) (fun _ => ¬ (t.1.2.2.1 = 4 ∧ t.1.1 = 0 ∧ t.1.2.2.2 = 1)) (fun v hv => ?_) (fun fin => ?_)
    · refine gx_aload_n C dX3_findFault_79 rfl ?_
      refine gx_getI C 3 _ 1 rfl (gd_14 hL) rfl (by decide) nX3_findFault_3 (gx_hts C _ fX3_findFault_21) dX3_findFault_80 u1 ?_
      exact gx_iret C dX3_findFault_83 ⟨Or.inr ⟨t, i1, by rw [if_neg hv]⟩, i4⟩
    · refine gx_icmp_ne C dX3_findFault_57 rfl (by unfold gx_3; omega) (by unfold gx_3; omega) (fun hb57 => ?_) (fun hb57 => ?_)
      · exact fin 0 (fun h => hb57 h.1)
      · refine gx_aload_n C dX3_findFault_60 rfl ?_
        refine gx_getI C 3 _ 3 rfl (gd_14 hL) rfl (by decide) nX3_findFault_3 (gx_hts C _ fX3_findFault_29) dX3_findFault_61 r1 ?_
        refine gx_if_ne C dX3_findFault_64 rfl (by unfold gx_3; omega) (fun hb64 => ?_) (fun hb64 => ?_)
        · exact fin 0 (fun h => hb64 (by omega))
        · refine gx_aload_n C dX3_findFault_67 rfl ?_
          refine gx_getI C 3 _ 6 rfl (gd_14 hL) rfl (by decide) nX3_findFault_3 (gx_hts C _ fX3_findFault_38) dX3_findFault_68 r4 ?_
          refine gx_if_eq C dX3_findFault_71 rfl (by unfold gx_3; omega) (fun hb71 => ?_) (fun hb71 => ?_)
          · exact fin 0 (fun h => by omega)
          · refine gx_bipush C dX3_findFault_74 rfl ?_
            refine gx_goto C dX3_findFault_76 rfl ?_
            exact gx_iret C dX3_findFault_83 ⟨Or.inr ⟨t, i1, by rw [if_pos ⟨by omega, by omega, by omega⟩]⟩, i4⟩
def pd_tg (p : Nat → Int) (tn : Nat) : Int := if 1 < tn ∧ p 1 = 58 ∧ 65 ≤ p 0 ∧ p 0 ≤ 72 then p 0 - 65 else -6
set_option maxRecDepth 100000 in
set_option maxHeartbeats 4000000 in
theorem c_X3_target {La : List gx_K} (hL : gd_H La) {M : gx_M} {p : Nat → Int} {tn : Nat} (hT : pd_T p tn M) : gx_Ci La yX3_target wsX3_target 1 [gx_R 14] M (fun z M' => M' = M ∧ z = pd_tg p tn) := by
  obtain ⟨t1, t2, t3⟩ := id hT
  refine gx_start_i (L := [gx_R 14]) (by decide) rfl rfl (Nat.le_of_ble_eq_true rfl) rfl ?_
  intro _ _ _ _ _ _ _ _ _ _ _ _ C
  refine gx_aload_n C dX3_target_0 rfl ?_
  refine gx_getI C 3 _ 1 rfl (gd_14 hL) rfl (by decide) nX3_target_3 (gx_hts C _ fX3_target_21) dX3_target_1 t1 ?_
  refine gx_iconst C dX3_target_4 ?_
  refine gx_icmp_le C dX3_target_5 rfl (by unfold gx_3; omega) (by unfold gx_3; omega) (fun hb5 => ?_) (fun hb5 => ?_)
  · refine gx_bipush C dX3_target_31 rfl ?_
    exact gx_iret C dX3_target_33 ⟨rfl, by unfold pd_tg; rw [if_neg (by omega)]⟩
  · obtain ⟨c1, c2, c3⟩ := t3 0 (by omega)
    obtain ⟨d1, d2, d3⟩ := t3 1 (by omega)
    refine gx_aload_n C dX3_target_8 rfl ?_
    refine gx_getR C 3 _ 0 rfl (gd_14 hL) rfl (by decide) nX3_target_3 (gx_hts C _ fX3_target_9) dX3_target_9 ?_
    refine gx_iconst C dX3_target_12 ?_
    refine gx_caload C (gd_41 hL) (by omega) dX3_target_13 d1 ?_
    refine gx_bipush C dX3_target_14 rfl ?_
    refine gx_icmp_ne C dX3_target_16 rfl (by unfold gx_3; omega) (by unfold gx_3; omega) (fun hb16 => ?_) (fun hb16 => ?_)
    · refine gx_bipush C dX3_target_31 rfl ?_
      exact gx_iret C dX3_target_33 ⟨rfl, by unfold pd_tg; rw [if_neg (by omega)]⟩
    · refine gx_aload_n C dX3_target_19 rfl ?_
      refine gx_getR C 3 _ 0 rfl (gd_14 hL) rfl (by decide) nX3_target_3 (gx_hts C _ fX3_target_9) dX3_target_20 ?_
      refine gx_iconst C dX3_target_23 ?_
      refine gx_caload C (gd_41 hL) (by omega) dX3_target_24 c1 ?_
      refine gx_statIN C (c_X7_registerOf (c := p 0) (by unfold gx_3; omega)) (⟨va_cnB 1 (gx_hts C) gX3_target_X7_registerOf_n25 rfl rfl rfl ((gx_hN C).2 ("PeirceDesk$Pad", 25, yX7_registerOf, "PeirceDesk") (by decide +kernel)) ((gx_hts C) (.initialized RX7) (by decide +kernel)) (by decide +kernel) ⟨Nat.le_of_ble_eq_true rfl, Nat.le_of_ble_eq_true rfl⟩, (gx_hts C) (.static yX7_registerOf) (by decide +kernel), trivial⟩) rfl rfl (Nat.le_of_ble_eq_true rfl) ⟨Nat.le_refl _, Nat.le_refl _⟩ dX3_target_25 (fun z P hz => ?_)
      obtain ⟨rfl, hz⟩ := hz
      have hz' : z = pd_tg p tn := by
        rw [hz]
        unfold pd_tg
        by_cases e : 65 ≤ p 0 ∧ p 0 ≤ 72
        · rw [if_pos e, if_pos (by omega)]
        · rw [if_neg e, if_neg (by omega)]
      refine gx_goto C dX3_target_28 rfl ?_
      exact gx_iret C dX3_target_33 ⟨rfl, hz'⟩
