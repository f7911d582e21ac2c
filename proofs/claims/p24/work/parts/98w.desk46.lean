/-! the text carried out -/
theorem pm_step_st {s : sp_S} {t t' : pm_S} {p0 c : Int} {k : Nat} (h : pm_step s t p0 c k = some t') : t'.2.1 = t.2.1 ∨ ∃ n : Nat, t'.2.1 = ((n : Int), 0) := by
  unfold pm_step at h
  split at h
  · split at h
    · cases h; exact Or.inl rfl
    · exact Or.inl (pm_fac_o h)
  · split at h
    · split at h
      · cases h; exact Or.inl rfl
      · cases h
    · split at h
      · exact Or.inl (pm_fac_o h)
      · split at h
        · split at h
          · cases h; exact Or.inl rfl
          · cases h
        · unfold pm_beh at h
          split at h
          · cases h; exact Or.inl rfl
          · split at h
            · cases h; exact Or.inl rfl
            · split at h
              · cases h
                by_cases q : pm_on t = 1 ∧ pm_let t (pm_d t) = 118 ∧ mx_det (zs_nn s) (s.1 82) (pm_P t (pm_d t) (pm_sm t (pm_d t))) = 0
                · refine Or.inr ⟨pm_pl t (pm_d t), ?_⟩
                  show (if _ then _ else _) = _
                  rw [if_pos q]
                · refine Or.inl ?_
                  show (if _ then _ else _) = _
                  rw [if_neg q]
              · split at h
                · cases h; exact Or.inl rfl
                · split at h
                  · cases h; exact Or.inl rfl
                  · cases h
theorem pm_run_st {s : sp_S} : ∀ k t, pm_run s k = some t → (pm_on t = 1 ∧ pm_stop t = -6) ∨ (pm_on t = 0 ∧ 0 ≤ pm_stop t)
  | 0, t, h => by
    have h : some pm_t0 = some t := h
    cases h
    exact Or.inl ⟨rfl, rfl⟩
  | k + 1, t', h => by
    obtain ⟨t, h1, h2⟩ := pm_run_s h
    have ih := pm_run_st k t h1
    rcases pm_step_st h2 with e | ⟨n, e⟩
    · unfold pm_on pm_stop
      rw [e]
      exact ih
    · refine Or.inr ⟨congrArg Prod.snd e, ?_⟩
      have : pm_stop t' = (n : Int) := congrArg Prod.fst e
      omega
/-- where the carrying out begins -/
def cq_k0 (s : sp_S) : Nat := if pd_tg s.2.2.2.2 s.2.2.2.1 = -6 then 0 else 2
theorem cq_start {s : sp_S} (hs : sp_ok s) {T : pm_S} (hT : pm_fin s T) (a b : Nat → Int) : ∃ t, pm_run s (cq_k0 s) = some t ∧ cq_F s (cq_k0 s) 40 t 0 (fun _ => ((fun _ => 0, a, b), (0, 40, 0, 1, 1))) ∧ pm_e t = 0 ∧ cq_k0 s ≤ s.2.2.2.1 := by
  have hz := sp_V0 hs
  by_cases hf : pm_f T = 1
  · obtain ⟨h1, h2, h3, h4⟩ := (pm_tg hT).1 hf
    have h58 : s.2.2.2.2 1 = 58 := ((pm_kind _ T hT.1).1.mp hf).2.1
    have hk : cq_k0 s = 2 := by
      unfold cq_k0
      rw [if_neg (by omega)]
    obtain ⟨t, ht⟩ := pm_pre (s := s) (k := 2) (s.2.2.2.1 - 2) T (by rw [show 2 + (s.2.2.2.1 - 2) = s.2.2.2.1 by omega]; exact hT.1)
    obtain ⟨t1, r1, r2⟩ := pm_run_s (k := 1) ht
    have r1' : pm_step s pm_t0 (s.2.2.2.2 0) (s.2.2.2.2 0) 0 = some t1 := r1
    rw [h58] at r2
    have e1 : pm_step s pm_t0 (s.2.2.2.2 0) (s.2.2.2.2 0) 0 = some (pm_cnt (s.1 82) pm_t0 (zs_el s.1 (if s.2.2.2.2 0 = 105 then 9 else (s.2.2.2.2 0 - 65).toNat))) := pq_i0 rfl (pq_i1 (by omega) (if_pos (Or.inl ⟨h2, h3⟩)))
    rw [e1] at r1'
    cases r1'
    have e2 : ∀ u : pm_S, pm_w u = 4 → pm_d u = 0 → pm_step s u (s.2.2.2.2 0) 58 1 = some (pm_hd u 1 0) := fun u hw hd => pq_i1 (by omega) (pq_i1 (by omega) (pq_i1 (by omega) (pq_i1 (by omega) (pq_i1 (by decide) (pq_i1 (fun g => g.2.1 hd) (pq_i1 (fun g => g.2.1 hd) (if_pos ⟨rfl, rfl, by omega, Or.inl ⟨h2, h3⟩⟩)))))))
    rw [e2 _ rfl rfl] at r2
    cases r2
    rw [hk]
    refine ⟨_, ht, ⟨⟨rfl, Nat.zero_le _, rfl, rfl⟩, fun i hi => ?_, fun i hi _ => ?_, fun _ => rfl, fun g => absurd (show (0 : Nat) = 3 from g) (by decide), fun _ => by decide, fun i j hi hj => ?_, rfl, fun i h1 h2 => ?_⟩, rfl, h4⟩
    · obtain rfl : i = 0 := by omega
      refine ⟨?_, fun h => absurd (show 1 ≤ 0 from h) (by decide), fun h => absurd (show 2 ≤ 0 from h) (by decide), rfl, fun h => absurd h (by decide), Or.inl rfl, ⟨show (0 : Int) ≤ 1 by decide, show (1 : Int) ≤ 9 by decide⟩⟩
      rfl
    · obtain rfl : i = 0 := by omega
      rfl
    · have hi : i ≤ 0 := hi
      obtain rfl : i = 0 := by omega
      have hj : j ≤ 0 := hj
      obtain rfl : j = 0 := by omega
      exact hz
    · have h2 : i ≤ 0 := h2
      omega
  · have h1 := (pm_tg hT).2 hf
    have hk : cq_k0 s = 0 := by
      unfold cq_k0
      rw [if_pos h1]
    rw [hk]
    refine ⟨pm_t0, rfl, ⟨⟨rfl, Nat.zero_le _, rfl, rfl⟩, fun i hi => ?_, fun i hi _ => rfl, fun _ => rfl, fun g => absurd (show (0 : Nat) = 3 from g) (by decide), fun _ => by decide, fun i j hi hj => hz, rfl, fun i h1 h2 => ?_⟩, rfl, Nat.zero_le _⟩
    · obtain rfl : i = 0 := by omega
      exact ⟨rfl, fun h => absurd (show 1 ≤ 0 from h) (by decide), fun h => absurd (show 2 ≤ 0 from h) (by decide), rfl, fun h => absurd h (by decide), Or.inl rfl, ⟨show (0 : Int) ≤ 1 by decide, show (1 : Int) ≤ 9 by decide⟩⟩
    · have h2 : i ≤ 0 := h2
      omega
/-- ":" is behind -/
theorem cq_n58 {s : sp_S} {T : pm_S} (hT : pm_fin s T) {k : Nat} (h0 : cq_k0 s ≤ k) (hk : k < s.2.2.2.1) : s.2.2.2.2 k ≠ 58 := fun h => by
  have hi := pm_kind _ T hT.1
  by_cases h2 : 2 ≤ k
  · exact hi.2.2 k h2 hk h
  · have hk0 : cq_k0 s = 0 := by
      unfold cq_k0 at h0 ⊢
      split
      · rfl
      · next q => rw [if_neg q] at h0; omega
    have ht : pd_tg s.2.2.2.2 s.2.2.2.1 = -6 := by
      unfold cq_k0 at hk0
      split at hk0
      · next q => exact q
      · omega
    have hf : pm_f T ≠ 1 := fun g => by
      have := (pm_tg hT).1 g
      omega
    obtain ⟨t', r⟩ := pm_pre (s := s) (k := k + 1) (s.2.2.2.1 - (k + 1)) T (by rw [show k + 1 + (s.2.2.2.1 - (k + 1)) = s.2.2.2.1 by omega]; exact hT.1)
    obtain ⟨t, r1, r2⟩ := pm_run_s r
    rw [h] at r2
    rcases pm_step_f r2 with ⟨g1, g2, g3⟩ | ⟨g1, g2, g3, g4, g5⟩ | ⟨g1, g2, g3, g4, g5⟩
    · exact g3 rfl
    · subst g2
      have g4 : (65 ≤ s.2.2.2.2 0 ∧ s.2.2.2.2 0 ≤ 72) ∨ s.2.2.2.2 0 = 105 := g4
      exact hf (hi.1.mpr ⟨hk, h, by omega⟩)
    · exact absurd g1 (by decide)
def cq_I (s : sp_S) (M : gx_M) (k : Nat) (q : gx_M × Int) : Prop := ∃ t o F, pm_run s k = some t ∧ cq_F s k q.2 t o F ∧ o ≤ 29 ∧ q.1 15 1 = (o : Int) ∧ (∀ i, i ≤ o → fr_R (F i) (154 + 4 * i) q.1) ∧ (pm_e t = 1 → mx_of (q.1 44) 0 = pm_L t ∧ mx_ok (s.1 82) (pm_L t)) ∧ sd_X M q.1 ∧ cq_k0 s ≤ k
set_option maxRecDepth 100000 in
set_option maxHeartbeats 4000000 in
theorem c_X4_carryOut {La : List gx_K} (hL : gd_H La) {M : gx_M} {s : sp_S} (hs : sp_ok s) (hR : sd_R s M) {T : pm_S} (hT : pm_fin s T) : gx_Ci La yX4_carryOut wsX4_carryOut 5 [gx_R 15, gx_R 14, gx_R 13] M (fun z M' => z = pm_stop T ∧ (z = -6 → mx_of (M' 155) 0 = pm_P T 0 0 ∧ sp_V s (pm_P T 0 0) ∧ (pm_e T = 1 → mx_of (M' 44) 0 = pm_L T ∧ mx_ok (s.1 82) (pm_L T))) ∧ sd_X M M') := by
  have hm := hs.1.2.1
  have hn3 := hs.1.1
  have hTx := sd_T hs hR
  have ht60 := hs.2.2.2.2.2.1
  have hV9 := sp_V9 hs
  refine gx_start_i (L := [gx_R 15, gx_R 14, gx_R 13, gx_U, gx_U, gx_U]) (by decide) rfl rfl (Nat.le_of_ble_eq_true rfl) rfl ?_
  intro _ _ _ _ _ _ _ _ _ _ _ _ C
  refine gx_aload_n C dX4_carryOut_0 rfl ?_
  refine gx_iconst C dX4_carryOut_1 ?_
  refine gx_putI C 4 _ 1 rfl (gd_15 hL) rfl (by decide) nX4_carryOut_4 tyX4 tyX4_ok nmX4 (gx_hts C _ fX4_carryOut_25) rfl rfl dX4_carryOut_2 ?_
  refine gx_aload_n C dX4_carryOut_5 rfl ?_
  refine gx_getR C 4 _ 0 rfl (gd_15 hL) rfl (by decide) nX4_carryOut_4 (gx_hts C _ fX4_carryOut_11) dX4_carryOut_6 ?_
  refine gx_iconst C dX4_carryOut_9 ?_
  refine gx_aaload C (gd_43 hL) (by decide) (by omega) dX4_carryOut_10 (show _ = 154 + 4 * 0 from rfl) ?_
  refine gx_bipush C dX4_carryOut_11 rfl ?_
  refine gx_iconst C dX4_carryOut_13 ?_
  refine gx_callVN C 1 rfl (gd_f hL 0 (by decide)).1 (c_X1_open (gd_f hL 0 (by decide)) (k := 40) (p := 0) (by decide)) (⟨va_cnB 2 (gx_hts C) gX4_carryOut_X1_open_n29 rfl rfl rfl ((gx_hN C).2 ("PeirceDesk$Reckoner", 29, yX1_open, "PeirceDesk") (by decide +kernel)) ((gx_hts C) (.initialized RX1) (by decide +kernel)) (by decide +kernel) ⟨Nat.le_of_ble_eq_true rfl, Nat.le_of_ble_eq_true rfl⟩, (gx_hts C) (.instanceMethod yX1_open) (by decide +kernel), (gx_hts C) (.selects RX1 yX1_open yX1_open) (by decide +kernel)⟩) rfl rfl (Nat.le_of_ble_eq_true rfl) ⟨Nat.le_refl _, Nat.le_refl _⟩ dX4_carryOut_14 (fun M1 h => ?_)
  obtain ⟨⟨fa, fb, h1⟩, h2⟩ := h
  have X1 : sd_X M M1 := ⟨fun c hc => by rw [h2 c (by omega), gx_u_nc (by omega)], by rw [h2 14 (by omega), gx_u_nc (by omega)], fun k _ _ _ _ _ => by rw [h2 35 (by omega), gx_u_nc (by omega)]⟩
  have hR1 := sd_XR hR X1
  refine gx_bipush C dX4_carryOut_17 rfl ?_
  refine gx_istore_n C dX4_carryOut_19 (by decide) rfl ?_
  refine gx_aload_n C dX4_carryOut_20 rfl ?_
  refine gx_callIN C 3 rfl (gd_14 hL) (c_X3_target hL (sd_T hs hR1)) (⟨va_cnB 0 (gx_hts C) gX4_carryOut_X3_target_n32 rfl rfl rfl ((gx_hN C).2 ("PeirceDesk$Reckoner", 32, yX3_target, "PeirceDesk") (by decide +kernel)) ((gx_hts C) (.initialized RX3) (by decide +kernel)) (by decide +kernel) ⟨Nat.le_of_ble_eq_true rfl, Nat.le_of_ble_eq_true rfl⟩, (gx_hts C) (.instanceMethod yX3_target) (by decide +kernel), (gx_hts C) (.selects RX3 yX3_target yX3_target) (by decide +kernel)⟩) rfl rfl (Nat.le_of_ble_eq_true rfl) ⟨Nat.le_refl _, Nat.le_refl _⟩ dX4_carryOut_21 (fun z P hz => ?_)
  obtain ⟨rfl, rfl⟩ := hz
  obtain ⟨t0, s1, s2, s3, s4⟩ := cq_start hs hT fa fb
  have h15 : P 15 1 = ((0 : Nat) : Int) := by rw [h2 15 (by omega), gx_u_eq]; rfl
  have hI0 : cq_I s M (cq_k0 s) (P, 40) := ⟨t0, 0, _, s1, s2, by decide, h15, fun i hi => by
    obtain rfl : i = 0 := by omega
    exact h1, fun e => by rw [s3] at e; exact absurd e (by decide), X1, Nat.le_refl _⟩
  refine gx_cut 36 (fun (_ : Unit) => [gx_R 15, gx_R 14, gx_R 13, gx_I 40, gx_I ((cq_k0 s : Nat) : Int), gx_U]) (fun _ => []) (fun _ => P) (fun _ => True) (fun _ _ => ?_) (fun at36 => ?_)
  · refine gx_for s.2.2.2.1 (fun k (q : gx_M × Int) => [gx_R 15, gx_R 14, gx_R 13, gx_I q.2, gx_I (k : Int), gx_U]) (fun q => q.1) (fun k q => cq_I s M k q) (cq_k0 s) (P, 40) s4 hI0 (fun k q hk hI ih => ?_) (fun q hI => ?_)
    · obtain ⟨Q, bef⟩ := q
      obtain ⟨t, o, F, i1, i2, i3, i4, i5, i6, i7, i8⟩ := hI
      simp only at i1 i2 i3 i4 i5 i6 i7 i8 ⊢
      have hRQ := sd_XR hR i7
      obtain ⟨q1, q2, q3⟩ := sd_T hs hRQ
      obtain ⟨c1, c2, c3⟩ := q3 k hk
      obtain ⟨t', r⟩ := pm_pre (s := s) (k := k + 1) (s.2.2.2.1 - (k + 1)) T (by rw [show k + 1 + (s.2.2.2.1 - (k + 1)) = s.2.2.2.1 by omega]; exact hT.1)
      have hst : pm_step s t (s.2.2.2.2 0) (s.2.2.2.2 k) k = some t' := by
        obtain ⟨u, r1, r2⟩ := pm_run_s r
        rw [i1] at r1
        cases r1
        exact r2
      have h58 := cq_n58 hT i8 hk
      have hfo := gd_f hL o (by omega)
      have fo := i5 o (Nat.le_refl o)
      generalize hp : s.2.2.2.2 k = c at c1 c2 c3 hst h58
      refine gx_iload C dX4_carryOut_36 rfl ?_
      refine gx_aload_n C dX4_carryOut_38 rfl ?_
      refine gx_getIN C 3 _ 1 rfl (gd_14 hL) rfl (by decide) nX4_carryOut_3 ((gx_hN C).1 ("PeirceDesk$Reckoner", 38, "PeirceDesk$Pad", "length", "I", "PeirceDesk") (by decide +kernel) |> va_Nw.use rfl) dX4_carryOut_39 q1 ?_
      refine gx_icmp_ge C dX4_carryOut_42 rfl (by unfold gx_3; omega) (by unfold gx_3; omega) (fun hb42 => absurd hb42 (by omega)) (fun hb42 => ?_)
      refine gx_aload_n C dX4_carryOut_45 rfl ?_
      refine gx_getRN C 3 _ 0 rfl (gd_14 hL) rfl (by decide) nX4_carryOut_3 ((gx_hN C).1 ("PeirceDesk$Reckoner", 41, "PeirceDesk$Pad", "signs", "[C", "PeirceDesk") (by decide +kernel) |> va_Nw.use rfl) dX4_carryOut_46 ?_
      refine gx_iload C dX4_carryOut_49 rfl ?_
      refine gx_caload C (gd_41 hL) (by omega) dX4_carryOut_51 c1 ?_
      refine gx_istore C dX4_carryOut_52 (by decide) rfl ?_
      refine gx_iload C dX4_carryOut_54 rfl ?_
      refine gx_bipush C dX4_carryOut_56 rfl ?_
      refine gx_icmp_ne C dX4_carryOut_58 rfl (by unfold gx_3; omega) (by unfold gx_3; omega) (fun hb58 => ?_) (fun hb58 => ?_)
      · refine gx_iload C dX4_carryOut_73 rfl ?_
        refine gx_bipush C dX4_carryOut_75 rfl ?_
        refine gx_icmp_ne C dX4_carryOut_77 rfl (by unfold gx_3; omega) (by unfold gx_3; omega) (fun hb77 => ?_) (fun hb77 => ?_)
        · have cF := i2
          obtain ⟨d1, d2, d3⟩ := cq_read hs i2 hb58 hb77 h58 hst
          have k1 := cF.2.1 o (Nat.le_refl o)
          have vo : sp_V s (F o).1.1 := by
            rw [k1.1]
            refine cF.2.2.2.2.2.2.1 o _ ?_ (Nat.le_refl _)
            have := cF.1.1
            split at this <;> omega
          have ks : (F o).2.1 ≤ 100 := by
            rw [k1.2.2.2.1]
            by_cases e0 : o = 0
            · rw [e0, cF.2.2.2.2.2.2.2.1]
              decide
            · have g := cF.2.2.2.2.2.2.2.2 o (by omega) (by have := cF.1.1; split at this <;> omega)
              have := pm_arg_b (pm_let t o)
              omega
          refine gx_aload_n C dX4_carryOut_123 rfl ?_
          refine gx_iload C dX4_carryOut_124 rfl ?_
          refine gx_aload_n C dX4_carryOut_126 rfl ?_
          refine gx_getR C 4 _ 0 rfl (gd_15 hL) rfl (by decide) nX4_carryOut_4 (gx_hts C _ fX4_carryOut_11) dX4_carryOut_127 ?_
          refine gx_aload_n C dX4_carryOut_130 rfl ?_
          refine gx_getI C 4 _ 1 rfl (gd_15 hL) rfl (by decide) nX4_carryOut_4 (gx_hts C _ fX4_carryOut_25) dX4_carryOut_131 i4 ?_
          refine gx_aaload C (gd_43 hL) (by decide) (by omega) dX4_carryOut_134 (show _ = 154 + 4 * o by omega) ?_
          refine gx_aload_n C dX4_carryOut_135 rfl ?_
          refine gx_getRN C 0 _ 0 rfl (gd_13 hL) rfl (by decide) nX4_carryOut_0 ((gx_hN C).1 ("PeirceDesk$Reckoner", 55, "PeirceDesk$Algebra", "now", "LPeirceDesk$State;", "PeirceDesk") (by decide +kernel) |> va_Nw.use rfl) dX4_carryOut_136 ?_
          refine gx_callV C 4 rfl (gd_15 hL) (c_X4_read hL (fc := 154 + 4 * o) hfo (by omega) fo (m := s.1 82) (by omega) hRQ.1.2.1 vo.1 k1.2.2.2.2.2.1 k1.2.2.2.2.2.2 ks (El := zs_el s.1) (fun r hr => hRQ.1.2.2 r (by omega)) (fun r hr => (sp_Vel hs (by omega)).1) (V := zs_el s.1 9) (hRQ.1.2.2 9 (by decide)) hV9.1 (c := c) (by omega)) (cwV 3 (gx_hts C) gX4_carryOut_X4_read rfl rfl rfl (by decide +kernel) ⟨Nat.le_of_ble_eq_true rfl, Nat.le_of_ble_eq_true rfl⟩) rfl rfl (Nat.le_of_ble_eq_true rfl) ⟨Nat.le_refl _, Nat.le_refl _⟩ dX4_carryOut_139 (fun M2 h => ?_)
          obtain ⟨e1, e2, e3⟩ := h
          have X2 : sd_X Q M2 := ⟨fun c' hc => e3 c' (by omega) (by omega), by rw [e3 14 (by decide) (by omega)], fun k _ _ _ _ _ => by rw [e3 35 (by decide) (by omega)]⟩
          refine gx_iload C dX4_carryOut_142 rfl ?_
          refine gx_istore_n C dX4_carryOut_144 (by decide) rfl ?_
          refine gx_iinc C dX4_carryOut_145 (by decide) rfl rfl ?_
          refine gx_goto C dX4_carryOut_148 rfl ?_
          refine gx_weak (L' := [gx_R 15, gx_R 14, gx_R 13, gx_I c, gx_I ((k + 1 : Nat) : Int), gx_U]) ⟨Or.inr rfl, Or.inr rfl, Or.inr rfl, Or.inr rfl, Or.inr rfl, Or.inl rfl, trivial⟩ (ih (M2, c) ?_)
          refine ⟨t', o, _, r, d1, i3, (congrFun (e3 15 (by decide) (by omega)) 1).trans i4, fun i hi => ?_, fun he => ?_, sd_Xt i7 X2, by omega⟩
          · by_cases q : i = o
            · rw [q, fn_up_eq]
              exact e1
            · rw [fn_up_ne q]
              exact fr_Rf (i5 i hi) (fun c' a b => e3 c' (by omega) (by omega))
          · by_cases q : c = 61
            · rw [if_pos q] at e2
              rw [d2 q]
              exact ⟨e2, vo.1⟩
            · rw [if_neg q] at e2
              obtain ⟨f1, f2⟩ := d3 q
              rw [f2] at he
              rw [f1]
              exact ⟨e2.trans (i6 he).1, (i6 he).2⟩
        · have hc41 : c = 41 := Classical.not_not.mp hb77
          subst hc41
          obtain ⟨z1, z2, ⟨o1, o2, o3, hk4⟩, ⟨p1, p2, p3⟩, zS, zN⟩ := cq_close hs i2 hst
          have fo1 := i5 (o - 1) (by omega)
          refine gx_aload_n C dX4_carryOut_80 rfl ?_
          refine gx_getR C 4 _ 0 rfl (gd_15 hL) rfl (by decide) nX4_carryOut_4 (gx_hts C _ fX4_carryOut_11) dX4_carryOut_81 ?_
          refine gx_aload_n C dX4_carryOut_84 rfl ?_
          refine gx_getI C 4 _ 1 rfl (gd_15 hL) rfl (by decide) nX4_carryOut_4 (gx_hts C _ fX4_carryOut_25) dX4_carryOut_85 i4 ?_
          refine gx_aaload C (gd_43 hL) (by decide) (by omega) dX4_carryOut_88 (show _ = 154 + 4 * o by omega) ?_
          refine gx_aload_n C dX4_carryOut_89 rfl ?_
          refine gx_callIN C 1 rfl (gd_f hL o (by omega)).1 (c_X1_finish hL hfo (by omega) fo (sd_A hs hRQ) o1 o2 o3 hk4) (⟨va_cnB 1 (gx_hts C) gX4_carryOut_X1_finish_n48 rfl rfl rfl ((gx_hN C).2 ("PeirceDesk$Reckoner", 48, yX1_finish, "PeirceDesk") (by decide +kernel)) ((gx_hts C) (.initialized RX1) (by decide +kernel)) (by decide +kernel) ⟨Nat.le_of_ble_eq_true rfl, Nat.le_of_ble_eq_true rfl⟩, (gx_hts C) (.instanceMethod yX1_finish) (by decide +kernel), (gx_hts C) (.selects RX1 yX1_finish yX1_finish) (by decide +kernel)⟩) rfl rfl (Nat.le_of_ble_eq_true rfl) ⟨Nat.le_refl _, Nat.le_refl _⟩ dX4_carryOut_90 (fun z M2 h => ?_)
          obtain ⟨e1, e2⟩ := h
          have X2 : sd_X Q M2 := ⟨fun c' hc => e1 c' (by omega) (by omega) (by omega) (by omega), by rw [e1 14 (by omega) (by omega) (by omega) (by omega)], fun k _ _ _ _ _ => by rw [e1 35 (by omega) (by omega) (by omega) (by omega)]⟩
          have hR2 := sd_XR hRQ X2
          have e15 : M2 15 1 = (o : Int) := by rw [e1 15 (by omega) (by omega) (by omega) (by omega)]; exact i4
          rcases e2 with ⟨S, f1, f2, f3⟩ | ⟨f1, f2⟩
          · obtain ⟨y1, y2, y3, y4⟩ := zS S f1
            subst f2
            obtain ⟨d, rfl⟩ : ∃ d, o = d + 1 := ⟨o - 1, by omega⟩
            simp only [Nat.add_sub_cancel] at y2 p1 p2 p3 fo1
            refine gx_if_ne C dX4_carryOut_93 rfl (by unfold gx_3; omega) (fun hb93 => ?_) (fun hb93 => absurd (by omega) hb93)
            refine gx_aload_n C dX4_carryOut_109 rfl ?_
            refine gx_aload_n C dX4_carryOut_110 rfl ?_
            refine gx_getRN C 0 _ 0 rfl (gd_13 hL) rfl (by decide) nX4_carryOut_0 ((gx_hN C).1 ("PeirceDesk$Reckoner", 55, "PeirceDesk$Algebra", "now", "LPeirceDesk$State;", "PeirceDesk") (by decide +kernel) |> va_Nw.use rfl) dX4_carryOut_111 ?_
            refine gx_getIN C 6 _ 1 rfl (gd_now hL).1 rfl (by decide) nX4_carryOut_6 ((gx_hN C).1 ("PeirceDesk$Reckoner", 61, "PeirceDesk$State", "modulus", "I", "PeirceDesk") (by decide +kernel) |> va_Nw.use rfl) dX4_carryOut_114 hR2.1.2.1 ?_
            refine gx_callV C 4 rfl (gd_15 hL) (c_X4_closeBracket hL (d := d) e15 (by omega) (f := F d) (fr_Rf fo1 (fun c' a b => e1 c' (by omega) (by omega) (by omega) (by omega))) (m := s.1 82) (by omega) p1 p2 p3 (A := S) f3 y1) (cwV 1 (gx_hts C) gX4_carryOut_X4_closeBracket rfl rfl rfl (by decide +kernel) ⟨Nat.le_of_ble_eq_true rfl, Nat.le_of_ble_eq_true rfl⟩) rfl rfl (Nat.le_of_ble_eq_true rfl) ⟨Nat.le_refl _, Nat.le_refl _⟩ dX4_carryOut_117 (fun M3 h => ?_)
            obtain ⟨x1, x2, x3⟩ := h
            have X3 : sd_X M2 M3 := ⟨fun c' hc => x3 c' (by omega) (by omega), by rw [x3 14 (by decide) (by omega)], fun k _ _ _ _ _ => by rw [x3 35 (by decide) (by omega)]⟩
            refine gx_goto C dX4_carryOut_120 rfl ?_
            refine gx_iload C dX4_carryOut_142 rfl ?_
            refine gx_istore_n C dX4_carryOut_144 (by decide) rfl ?_
            refine gx_iinc C dX4_carryOut_145 (by decide) rfl rfl ?_
            refine gx_goto C dX4_carryOut_148 rfl ?_
            refine gx_weak (L' := [gx_R 15, gx_R 14, gx_R 13, gx_I 41, gx_I ((k + 1 : Nat) : Int), gx_U]) ⟨Or.inr rfl, Or.inr rfl, Or.inr rfl, Or.inr rfl, Or.inr rfl, Or.inl rfl, trivial⟩ (ih (M3, 41) ?_)
            refine ⟨t', d, _, r, y2, by omega, x1, fun i hi => ?_, fun he => ?_, sd_Xt i7 (sd_Xt X2 X3), by omega⟩
            · by_cases q : i = d
              · rw [q, fn_up_eq]
                exact x2
              · rw [fn_up_ne q]
                exact fr_Rf (fr_Rf (i5 i (by omega)) (fun c' a b => e1 c' (by omega) (by omega) (by omega) (by omega))) (fun c' a b => x3 c' (by omega) (by omega))
            · rw [y4] at he
              rw [y3]
              refine ⟨?_, (i6 he).2⟩
              show mx_of (M3 44) 0 = pm_L t
              rw [x3 44 (by decide) (by omega), e1 44 (by omega) (by omega) (by omega) (by omega)]
              exact (i6 he).1
          · subst f2
            obtain ⟨w1, w2⟩ := zN f1
            have hsT : T.2.1 = t'.2.1 := pm_run_o r (by rw [w2]; decide) (s.2.2.2.1 - (k + 1)) T (by rw [show k + 1 + (s.2.2.2.1 - (k + 1)) = s.2.2.2.1 by omega]; exact hT.1)
            have hsp : pm_stop T = (F o).2.2.2.1 := by
              rw [← w1]
              exact congrArg Prod.fst hsT
            have hpos : 0 ≤ pm_stop T := by
              rcases pm_run_st _ t' r with g | g
              · rw [w2] at g
                exact absurd g.1 (by decide)
              · have : pm_stop T = pm_stop t' := congrArg Prod.fst hsT
                omega
            have epl : M2 (154 + 4 * o) 5 = (F o).2.2.2.1 := by
              rw [e1 (154 + 4 * o) (by omega) (by omega) (by omega) (by omega)]
              exact fo.2.2.2.2.2.1
            refine gx_if_ne C dX4_carryOut_93 rfl (by unfold gx_3; omega) (fun hb93 => absurd hb93 (by omega)) (fun hb93 => ?_)
            refine gx_aload_n C dX4_carryOut_96 rfl ?_
            refine gx_getR C 4 _ 0 rfl (gd_15 hL) rfl (by decide) nX4_carryOut_4 (gx_hts C _ fX4_carryOut_11) dX4_carryOut_97 ?_
            refine gx_aload_n C dX4_carryOut_100 rfl ?_
            refine gx_getI C 4 _ 1 rfl (gd_15 hL) rfl (by decide) nX4_carryOut_4 (gx_hts C _ fX4_carryOut_25) dX4_carryOut_101 e15 ?_
            refine gx_aaload C (gd_43 hL) (by decide) (by omega) dX4_carryOut_104 (show _ = 154 + 4 * o by omega) ?_
            refine gx_getIN C 1 _ 5 rfl (gd_f hL o (by omega)).1 rfl (by decide) nX4_carryOut_1 ((gx_hN C).1 ("PeirceDesk$Reckoner", 52, "PeirceDesk$Frame", "place", "I", "PeirceDesk") (by decide +kernel) |> va_Nw.use rfl) dX4_carryOut_105 epl ?_
            exact gx_iret C dX4_carryOut_108 ⟨hsp.symm, fun h => by omega, sd_Xt i7 X2⟩
      · have hc40 : c = 40 := Classical.not_not.mp hb58
        subst hc40
        obtain ⟨-, dd, dw, db, dL, de⟩ := cq_open hs i2 hst (fun _ => 0) (fun _ => 0)
        have hdeep := pm_deep hs hT (k := k + 1) (by omega) r (by rw [dw]; decide)
        refine gx_aload_n C dX4_carryOut_61 rfl ?_
        refine gx_iload_n C dX4_carryOut_62 rfl ?_
        refine gx_iload C dX4_carryOut_63 rfl ?_
        refine gx_iconst C dX4_carryOut_65 ?_
        refine gx_isub C dX4_carryOut_66 ?_
        refine gx_callV C 4 rfl (gd_15 hL) (c_X4_openBracket hL (d := o) i4 (by omega) (k := bef) (p := (k : Int) - 1) db) (cwV 2 (gx_hts C) gX4_carryOut_X4_openBracket rfl rfl rfl (by decide +kernel) ⟨Nat.le_of_ble_eq_true rfl, Nat.le_of_ble_eq_true rfl⟩) rfl rfl (Nat.le_of_ble_eq_true rfl) ⟨Nat.le_refl _, Nat.le_refl _⟩ dX4_carryOut_67 (fun M2 h => ?_)
        obtain ⟨x1, ⟨xa, xb, x2⟩, x3⟩ := h
        have X3 : sd_X Q M2 := ⟨fun c' hc => x3 c' (by omega) (by omega), by rw [x3 14 (by decide) (by omega)], fun k _ _ _ _ _ => by rw [x3 35 (by decide) (by omega)]⟩
        obtain ⟨dF, -⟩ := cq_open hs i2 hst xa xb
        refine gx_goto C dX4_carryOut_70 rfl ?_
        refine gx_iload C dX4_carryOut_142 rfl ?_
        refine gx_istore_n C dX4_carryOut_144 (by decide) rfl ?_
        refine gx_iinc C dX4_carryOut_145 (by decide) rfl rfl ?_
        refine gx_goto C dX4_carryOut_148 rfl ?_
        refine gx_weak (L' := [gx_R 15, gx_R 14, gx_R 13, gx_I 40, gx_I ((k + 1 : Nat) : Int), gx_U]) ⟨Or.inr rfl, Or.inr rfl, Or.inr rfl, Or.inr rfl, Or.inr rfl, Or.inl rfl, trivial⟩ (ih (M2, 40) ?_)
        refine ⟨t', o + 1, _, r, dF, by omega, x1, fun i hi => ?_, fun he => ?_, sd_Xt i7 X3, by omega⟩
        · by_cases q : i = o + 1
          · rw [q, fn_up_eq]
            exact x2
          · rw [fn_up_ne q]
            exact fr_Rf (i5 i (by omega)) (fun c' a b => x3 c' (by omega) (by omega))
        · rw [de] at he
          show mx_of (M2 44) 0 = pm_L t' ∧ mx_ok (s.1 82) (pm_L t')
          rw [dL, x3 44 (by decide) (by omega)]
          exact i6 he
    · obtain ⟨Q, bef⟩ := q
      obtain ⟨t, o, F, i1, i2, i3, i4, i5, i6, i7, i8⟩ := hI
      simp only at i1 i2 i3 i4 i5 i6 i7 i8 ⊢
      have hRQ := sd_XR hR i7
      obtain ⟨q1, q2, q3⟩ := sd_T hs hRQ
      rw [hT.1] at i1
      cases i1
      have ho : o = 0 := by
        have h1 := i2.1.1
        have h2 := hT.2.1
        have h3 := hT.2.2.1
        rw [if_neg (by omega)] at h1
        omega
      subst ho
      have f0 := (i2.2.1 0 (Nat.le_refl 0)).1
      rw [i2.2.2.2.2.2.2.2.1] at f0
      have v0 := i2.2.2.2.2.2.2.1 0 0 (Nat.zero_le _) (Nat.zero_le _)
      refine gx_iload C dX4_carryOut_36 rfl ?_
      refine gx_aload_n C dX4_carryOut_38 rfl ?_
      refine gx_getIN C 3 _ 1 rfl (gd_14 hL) rfl (by decide) nX4_carryOut_3 ((gx_hN C).1 ("PeirceDesk$Reckoner", 38, "PeirceDesk$Pad", "length", "I", "PeirceDesk") (by decide +kernel) |> va_Nw.use rfl) dX4_carryOut_39 q1 ?_
      refine gx_icmp_ge C dX4_carryOut_42 rfl (by unfold gx_3; omega) (by unfold gx_3; omega) (fun hb42 => ?_) (fun hb42 => absurd (by omega) hb42)
      refine gx_bipush C dX4_carryOut_151 rfl ?_
      exact gx_iret C dX4_carryOut_153 ⟨i2.1.2.2.2.symm, fun _ => ⟨(i5 0 (Nat.le_refl 0)).1.trans f0, v0, i6⟩, i7⟩
  · refine gx_bipush C dX4_carryOut_24 rfl ?_
    have hk0 : cq_k0 s = if pd_tg s.2.2.2.2 s.2.2.2.1 = -6 then 0 else 2 := rfl
    have h3b : -6 ≤ pd_tg s.2.2.2.2 s.2.2.2.1 ∧ pd_tg s.2.2.2.2 s.2.2.2.1 ≤ 7 := by
      unfold pd_tg
      split <;> omega
    refine gx_icmp_ne C dX4_carryOut_26 rfl (by unfold gx_3; omega) (by unfold gx_3; omega) (fun hb26 => ?_) (fun hb26 => ?_)
    · rw [if_neg hb26] at hk0
      refine gx_iconst C dX4_carryOut_33 ?_
      refine gx_istore C dX4_carryOut_34 (by decide) rfl ?_
      have := at36 () trivial
      rw [hk0] at this
      exact this
    · rw [if_pos (Classical.not_not.mp hb26)] at hk0
      refine gx_iconst C dX4_carryOut_29 ?_
      refine gx_goto C dX4_carryOut_30 rfl ?_
      refine gx_istore C dX4_carryOut_34 (by decide) rfl ?_
      have := at36 () trivial
      rw [hk0] at this
      exact this
