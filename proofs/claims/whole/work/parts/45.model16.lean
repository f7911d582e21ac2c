/-- a place where roads meet -/
theorem gx_cut {p : Program} {l : Launch} {e : Env} {R : Room} {s : State} {m : MethodId} {args : Array Value} {below : List Frame} {meth : Method} {c : Code} {cells slots : Nat} {Q : State → Prop} {nL : Nat} {D : va_G} {tc : Nat → ClassId} {ad : Nat → Nat} {La : List gx_K} {A : Nat → Prop} {H0 : Heap} {pc : Nat} {L st : List gx_V} {M : gx_M} {α : Type} (at_ : Nat) (Lf sf : α → List gx_V) (Mf : α → gx_M) (P : α → Prop)
    (J : ∀ a, P a → gx_G p l e R s m args below meth c cells slots Q nL D tc ad La A H0 at_ (Lf a) (sf a) (Mf a))
    (k : (∀ a, P a → gx_G p l e R s m args below meth c cells slots Q nL D tc ad La A H0 at_ (Lf a) (sf a) (Mf a)) → gx_G p l e R s m args below meth c cells slots Q nL D tc ad La A H0 pc L st M) : gx_G p l e R s m args below meth c cells slots Q nL D tc ad La A H0 pc L st M := k J
def pr_U (s : sp_S) (M : gx_M) : Prop := mx_of (M 6) 27 = zs_el s.1 8 ∧ mx_of (M 6) 36 = zs_el s.1 9
theorem pr_UE {s : sp_S} {S : Nat → Prop} {M M' : gx_M} (h : pr_U s M) (hE : gm_E S M M') (hS : ∀ j, S j → j < 27 ∨ 45 ≤ j) : pr_U s M' := ⟨by rw [gm_Eo hE (fun j a b q => by have := hS j q; omega)]; exact h.1, by rw [gm_Eo hE (fun j a b q => by have := hS j q; omega)]; exact h.2⟩
theorem pr_U6 {s : sp_S} {M M' : gx_M} (h : pr_U s M) (h6 : M' 6 = M 6) : pr_U s M' := by
  unfold pr_U
  rw [h6]
  exact h
theorem pm_val_ok {s : sp_S} (hs : sp_ok s) {t : pm_S} (h : ∀ k, k ≤ pm_sm t (pm_d t) → mx_ok (s.1 82) (pm_P t (pm_d t) k)) : mx_ok (s.1 82) (pm_val s t) := by
  have hm := zs_m hs.1
  unfold pm_val
  split
  · exact mx_lin_ok hm.1 _ _ _ _
  · split
    · exact mx_mul_ok hm.1 _ _
    · split
      · exact mx_lin_ok hm.1 _ _ _ _
      · split
        · exact mx_mul_ok hm.1 _ _
        · exact h _ (Nat.le_refl _)
set_option maxRecDepth 100000 in
set_option maxHeartbeats 4000000 in
theorem c_X8_closes {La : List gx_K} (hM : gm_H La) {M : gx_M} {s : sp_S} (hs : sp_ok s) (hz : gm_Z M (s.1 81).toNat (s.1 82)) {t : pm_S} (hd : pm_d t ≤ 60) (hd1 : 1 ≤ pm_d t) (hw : pm_w t = 4) (hlast : pm_sm t (pm_d t) + 1 = pm_arg (pm_let t (pm_d t))) (hR : pr_R (s.1 82) t M) (hU : pr_U s M) : gx_Cv La yX8_closes wsX8_closes 4 [gx_R 0] M (fun M' => pr_R (s.1 82) (pm_cls s t) M' ∧ gm_X M M' ∧ pr_U s M') := by
  have hzm := gm_Zm hz
  have hR0 := hR
  obtain ⟨h1, h2, h3, h4, h5, h6, h7, h8, h9⟩ := hR
  obtain ⟨l1, l2, l3, l4, l5⟩ := h5 (pm_d t) hd1 (Nat.le_refl _)
  obtain ⟨g1, g2, g3, g4⟩ := h6 (pm_d t) (Nat.le_refl _)
  have ou := zs_el_ok hs.1 (r := 8) (by omega)
  have ov := zs_el_ok hs.1 (r := 9) (by omega)
  refine gx_start_v (L := [gx_R 0, gx_U, gx_U]) (by decide) rfl rfl (Nat.le_of_ble_eq_true rfl) rfl ?_
  intro _ _ _ _ _ _ _ _ _ _ _ _ C
  refine gx_aload_n C dX8_closes_0 rfl ?_
  refine gx_getI C 8 _ 14 rfl (gm_0 hM) rfl (by decide) nX8_closes_8 (gx_hts C _ fX8_closes_167) dX8_closes_1 h1 ?_
  refine gx_istore_n C dX8_closes_4 (by decide) rfl ?_
  refine gx_aload_n C dX8_closes_5 rfl ?_
  refine gx_iload_n C dX8_closes_6 rfl ?_
  refine gx_aload_n C dX8_closes_7 rfl ?_
  refine gx_getR C 8 _ 11 rfl (gm_0 hM) rfl (by decide) nX8_closes_8 (gx_hts C _ fX8_closes_36) dX8_closes_8 ?_
  refine gx_iload_n C dX8_closes_11 rfl ?_
  refine gx_iaload C (gm_9 hM) (by omega) dX8_closes_12 g1 ?_
  refine gx_callI C 8 rfl (gm_0 hM) (c_X8_pileOf (d := pm_d t) (k := pm_sm t (pm_d t)) rfl rfl) (cwV 2 (gx_hts C) gX8_closes_X8_pileOf rfl rfl rfl (by decide +kernel) ⟨Nat.le_of_ble_eq_true rfl, Nat.le_of_ble_eq_true rfl⟩) rfl rfl (Nat.le_of_ble_eq_true rfl) ⟨Nat.le_refl _, Nat.le_refl _⟩ dX8_closes_13 (fun z M1 hq => ?_)
  obtain ⟨rfl, rfl⟩ := hq
  refine gx_istore_n C dX8_closes_16 (by decide) rfl ?_
  refine gx_aload_n C dX8_closes_17 rfl ?_
  refine gx_dup C dX8_closes_18 rfl ?_
  refine gx_getI C 8 _ 14 rfl (gm_0 hM) rfl (by decide) nX8_closes_8 (gx_hts C _ fX8_closes_167) dX8_closes_19 h1 ?_
  refine gx_iconst C dX8_closes_22 ?_
  refine gx_isub C dX8_closes_23 ?_
  refine gx_putI C 8 _ 14 rfl (gm_0 hM) rfl (by decide) nX8_closes_8 tyX8 tyX8_ok nmX8 (gx_hts C _ fX8_closes_167) rfl rfl dX8_closes_24 ?_
  have hR1 : ∀ q : Int × Int, (q.2 = 0 ∨ q.2 = 1) → gx_3 q.1 → ∀ M2 : gx_M, (∀ c, c ≠ 0 → M2 c = M1 c) → (∀ j, j ≠ 14 → j ≠ 18 → j ≠ 19 → M2 0 j = M1 0 j) → M2 0 14 = (pm_d t : Int) - 1 → M2 0 18 = q.1 → M2 0 19 = q.2 → pr_R (s.1 82) ((pm_d t - 1, pm_w t, pm_f t, pm_e t), q, t.2.2) M2 := fun q hq1 hq2 M2 f0 f1 f2 f3 f4 => by
    refine ⟨by rw [f2]; show _ = ((pm_d t - 1 : Nat) : Int); omega, by rw [f1 15 (by decide) (by decide) (by decide)]; exact h2, by rw [f1 16 (by decide) (by decide) (by decide), f1 17 (by decide) (by decide) (by decide)]; exact h3, ⟨f3, f4, hq1, hq2⟩, fun i a b => ?_, fun i a => ?_, fun a => ?_, h8, fun h => ?_⟩
    · have b : i ≤ pm_d t - 1 := b
      rw [f0 8 (by decide), f0 11 (by decide)]
      exact h5 i a (by omega)
    · have a : i ≤ pm_d t - 1 := a
      rw [f0 9 (by decide), f0 10 (by decide), f0 6 (by decide)]
      exact h6 i (by omega)
    · rw [f0 6 (by decide)]
      exact h7 a
    · have h : pm_w t = 0 ∨ pm_w t = 3 := h
      omega
  have hRa := hR1 t.2.1 h4.2.2.1 h4.2.2.2 (gx_u M1 0 14 ((pm_d t : Int) - 1)) (fun c a => gx_u_nc a) (fun j a b c => gx_u_ne (by omega)) (gx_u_eq _ _ _ _) (by rw [gx_u_ne (by decide)]; exact h4.1) (by rw [gx_u_ne (by decide)]; exact h4.2.1)
  have hUa : pr_U s (gx_u M1 0 14 ((pm_d t : Int) - 1)) := pr_U6 hU (gx_u_nc (by decide))
  have hXa : gm_X M1 (gx_u M1 0 14 ((pm_d t : Int) - 1)) := gm_X0 (by decide)
  have hza := gm_XZ hXa hz
  have e8 : gx_u M1 0 14 ((pm_d t : Int) - 1) 8 ((pm_d t : Int).toNat) = pm_let t (pm_d t) := by rw [gx_u_nc (by decide)]; exact l1
  have e11 : gx_u M1 0 14 ((pm_d t : Int) - 1) 11 ((pm_d t : Int).toNat) = pm_pl t (pm_d t) := by rw [gx_u_nc (by decide)]; exact l2
  have e6 : gx_u M1 0 14 ((pm_d t : Int) - 1) 6 = M1 6 := gx_u_nc (by decide)
  have e19 : gx_u M1 0 14 ((pm_d t : Int) - 1) 0 19 = pm_on t := by rw [gx_u_ne (by decide)]; exact h4.2.1
  generalize gx_u M1 0 14 ((pm_d t : Int) - 1) = Ma at hRa hUa hXa hza e8 e11 e6 e19 ⊢
  obtain ⟨p1, p2⟩ := g4 (pm_sm t (pm_d t)) (Nat.le_refl _)
  obtain ⟨p3, p4⟩ := g4 0 (Nat.zero_le _)
  rw [← e6] at p1 p3
  refine gx_cut 172 (fun (_ : gx_M) => [gx_R 0, gx_I (pm_d t), gx_I ((144 + 27 * pm_d t + 9 * pm_sm t (pm_d t) : Nat) : Int)]) (fun _ => []) (fun M3 => M3) (fun M3 => pr_R (s.1 82) ((pm_d t - 1, pm_w t, pm_f t, pm_e t), (if pm_on t = 1 ∧ pm_let t (pm_d t) = 118 ∧ mx_det (zs_nn s) (s.1 82) (pm_P t (pm_d t) (pm_sm t (pm_d t))) = 0 then ((pm_pl t (pm_d t) : Int), 0) else t.2.1), t.2.2) M3 ∧ ((if pm_on t = 1 ∧ pm_let t (pm_d t) = 118 ∧ mx_det (zs_nn s) (s.1 82) (pm_P t (pm_d t) (pm_sm t (pm_d t))) = 0 then (((pm_pl t (pm_d t) : Nat) : Int), (0 : Int)) else t.2.1).2 = 1 → mx_of (M3 6) 135 = pm_val s t) ∧ gm_X M1 M3 ∧ pr_U s M3) (fun M3 hq => ?_) (fun fin => ?_)
  · obtain ⟨q1, q2, q3, q4⟩ := hq
    refine gx_aload_n C dX8_closes_172 rfl ?_
    refine gx_sipush C dX8_closes_173 rfl ?_
    refine gx_callV C 8 rfl (gm_0 hM) (c_X8_counts hM (gm_XZ q3 hz) (by show pm_d t - 1 ≤ 60; omega) q1 (fun h => ⟨q2 h, pm_val_ok hs (fun k hk => (g4 k hk).2)⟩)) (cwV 1 (gx_hts C) gX8_closes_X8_counts rfl rfl rfl (by decide +kernel) ⟨Nat.le_of_ble_eq_true rfl, Nat.le_of_ble_eq_true rfl⟩) rfl rfl (Nat.le_of_ble_eq_true rfl) ⟨Nat.le_refl _, Nat.le_refl _⟩ dX8_closes_176 (fun M4 q5 => ?_)
    exact gx_vret C dX8_closes_179 ⟨q5.1, gm_Xt q3 q5.2.1, by rw [q5.2.2 27 (by omega)]; exact q4.1, by rw [q5.2.2 36 (by omega)]; exact q4.2⟩
  · refine gx_aload_n C dX8_closes_27 rfl ?_
    refine gx_getI C 8 _ 19 rfl (gm_0 hM) rfl (by decide) nX8_closes_8 (gx_hts C _ fX8_closes_174) dX8_closes_28 e19 ?_
    rcases h4.2.2.1 with hon | hon
    · refine gx_if_eq C dX8_closes_31 rfl (by unfold gx_3; omega) (fun hb31 => ?_) (fun hb31 => absurd (by omega) hb31)
      have hn : ¬(pm_on t = 1 ∧ pm_let t (pm_d t) = 118 ∧ mx_det (zs_nn s) (s.1 82) (pm_P t (pm_d t) (pm_sm t (pm_d t))) = 0) := fun q => by omega
      exact fin Ma ⟨by rw [if_neg hn]; exact hRa, by rw [if_neg hn]; exact fun q => absurd (show pm_on t = 1 from q) (by omega), hXa, hUa⟩
    · refine gx_if_eq C dX8_closes_31 rfl (by unfold gx_3; omega) (fun hb31 => absurd hb31 (by omega)) (fun hb31 => ?_)
      have hE135 : ∀ {P Q : gx_M}, gm_E (gm_S 135) P Q → (∀ {t : pm_S}, pr_R (s.1 82) t P → pr_R (s.1 82) t Q) ∧ (pr_U s P → pr_U s Q) := fun h => ⟨fun q => pr_RE q h (fun j hj => by unfold gm_S at hj; omega), fun q => pr_UE q h (fun j hj => by unfold gm_S at hj; omega)⟩
      have hn : ∀ q : ¬ pm_let t (pm_d t) = 118, ¬(pm_on t = 1 ∧ pm_let t (pm_d t) = 118 ∧ mx_det (zs_nn s) (s.1 82) (pm_P t (pm_d t) (pm_sm t (pm_d t))) = 0) := fun q h => q h.2.1
      refine gx_aload_n C dX8_closes_34 rfl ?_
      refine gx_getR C 8 _ 10 rfl (gm_0 hM) rfl (by decide) nX8_closes_8 (gx_hts C _ fX8_closes_33) dX8_closes_35 ?_
      refine gx_iload_n C dX8_closes_38 rfl ?_
      refine gx_iaload C (gm_8 hM) (by omega) dX8_closes_39 e8 ?_
      refine gx_bipush C dX8_closes_40 rfl ?_
      refine gx_icmp_ne C dX8_closes_42 rfl l3 (by unfold gx_3; omega) (fun hb42 => ?_) (fun hb42 => ?_)
      · refine gx_aload_n C dX8_closes_62 rfl ?_
        refine gx_getR C 8 _ 10 rfl (gm_0 hM) rfl (by decide) nX8_closes_8 (gx_hts C _ fX8_closes_33) dX8_closes_63 ?_
        refine gx_iload_n C dX8_closes_66 rfl ?_
        refine gx_iaload C (gm_8 hM) (by omega) dX8_closes_67 e8 ?_
        refine gx_bipush C dX8_closes_68 rfl ?_
        refine gx_icmp_ne C dX8_closes_70 rfl l3 (by unfold gx_3; omega) (fun hb70 => ?_) (fun hb70 => ?_)
        · refine gx_aload_n C dX8_closes_90 rfl ?_
          refine gx_getR C 8 _ 10 rfl (gm_0 hM) rfl (by decide) nX8_closes_8 (gx_hts C _ fX8_closes_33) dX8_closes_91 ?_
          refine gx_iload_n C dX8_closes_94 rfl ?_
          refine gx_iaload C (gm_8 hM) (by omega) dX8_closes_95 e8 ?_
          refine gx_bipush C dX8_closes_96 rfl ?_
          refine gx_icmp_ne C dX8_closes_98 rfl l3 (by unfold gx_3; omega) (fun hb98 => ?_) (fun hb98 => ?_)
          · refine gx_aload_n C dX8_closes_124 rfl ?_
            refine gx_getR C 8 _ 10 rfl (gm_0 hM) rfl (by decide) nX8_closes_8 (gx_hts C _ fX8_closes_33) dX8_closes_125 ?_
            refine gx_iload_n C dX8_closes_128 rfl ?_
            refine gx_iaload C (gm_8 hM) (by omega) dX8_closes_129 e8 ?_
            refine gx_bipush C dX8_closes_130 rfl ?_
            refine gx_icmp_ne C dX8_closes_132 rfl l3 (by unfold gx_3; omega) (fun hb132 => ?_) (fun hb132 => ?_)
            · have h118 : ¬ pm_let t (pm_d t) = 118 := hb132
              refine gx_aload_n C dX8_closes_164 rfl ?_
              refine gx_iload_n C dX8_closes_165 rfl ?_
              refine gx_sipush C dX8_closes_166 rfl ?_
              refine gx_callV C 8 rfl (gm_0 hM) (c_X8_copy hM (a := 144 + 27 * pm_d t + 9 * pm_sm t (pm_d t)) (t := 135) (by omega) (by omega) (by omega)) (cwV 2 (gx_hts C) gX8_closes_X8_copy rfl rfl rfl (by decide +kernel) ⟨Nat.le_of_ble_eq_true rfl, Nat.le_of_ble_eq_true rfl⟩) rfl rfl (Nat.le_of_ble_eq_true rfl) ⟨Nat.le_refl _, Nat.le_refl _⟩ dX8_closes_169 (fun M3 q1 => ?_)
              rw [p1] at q1
              have E3 : gm_E (gm_S 135) Ma M3 := by rw [q1]; exact gm_Eb (fun j a b => Or.inr (by omega))
              have v3 : mx_of (M3 6) 135 = pm_val s t := by
                rw [q1, ← p1, mx_of_of, p1]
                unfold pm_val
                rw [if_neg hb42, if_neg hb70, if_neg hb98, if_neg h118]
              exact fin M3 ⟨by rw [if_neg (hn h118)]; exact (hE135 E3).1 hRa, fun _ => v3, gm_Xt hXa (gm_X6 E3), (hE135 E3).2 hUa⟩
            · have h118 : pm_let t (pm_d t) = 118 := by omega
              refine gx_aload_n C dX8_closes_135 rfl ?_
              refine gx_iload_n C dX8_closes_136 rfl ?_
              refine gx_sipush C dX8_closes_137 rfl ?_
              refine gx_callI C 8 rfl (gm_0 hM) (c_X8_inverse hM hza (a := 144 + 27 * pm_d t + 9 * pm_sm t (pm_d t)) (t := 135) (by omega) (by omega) (by omega) (by omega) (mx_ok_e p1 p2) (mx_ok_e hUa.2 ov)) (cwV 2 (gx_hts C) gX8_closes_X8_inverse rfl rfl rfl (by decide +kernel) ⟨Nat.le_of_ble_eq_true rfl, Nat.le_of_ble_eq_true rfl⟩) rfl rfl (Nat.le_of_ble_eq_true rfl) ⟨Nat.le_refl _, Nat.le_refl _⟩ dX8_closes_140 (fun z M3 q1 => ?_)
              rw [p1, hUa.2] at q1
              obtain ⟨q2, q3, q4, E3⟩ := q1
              refine gx_if_ne C dX8_closes_143 rfl (by unfold gx_3; omega) (fun hb143 => ?_) (fun hb143 => ?_)
              · have hdet : ¬ mx_det (zs_nn s) (s.1 82) (pm_P t (pm_d t) (pm_sm t (pm_d t))) = 0 := fun h => hb143 (q3.mpr h)
                have hn2 : ¬(pm_on t = 1 ∧ pm_let t (pm_d t) = 118 ∧ mx_det (zs_nn s) (s.1 82) (pm_P t (pm_d t) (pm_sm t (pm_d t))) = 0) := fun h => hdet h.2.2
                have v3 : mx_of (M3 6) 135 = pm_val s t := by
                  rw [q4 (by omega)]
                  unfold pm_val
                  rw [if_neg (by omega), if_neg (by omega), if_neg (by omega), if_pos h118]
                  rfl
                exact fin M3 ⟨by rw [if_neg hn2]; exact (hE135 E3).1 hRa, fun _ => v3, gm_Xt hXa (gm_X6 E3), (hE135 E3).2 hUa⟩
              · have hdet : mx_det (zs_nn s) (s.1 82) (pm_P t (pm_d t) (pm_sm t (pm_d t))) = 0 := q3.mp (by omega)
                have hy2 : pm_on t = 1 ∧ pm_let t (pm_d t) = 118 ∧ mx_det (zs_nn s) (s.1 82) (pm_P t (pm_d t) (pm_sm t (pm_d t))) = 0 := ⟨hon, h118, hdet⟩
                have e11' : M3 11 ((pm_d t : Int).toNat) = pm_pl t (pm_d t) := by rw [E3.1 11 (by decide)]; exact e11
                refine gx_aload_n C dX8_closes_146 rfl ?_
                refine gx_aload_n C dX8_closes_147 rfl ?_
                refine gx_getR C 8 _ 13 rfl (gm_0 hM) rfl (by decide) nX8_closes_8 (gx_hts C _ fX8_closes_42) dX8_closes_148 ?_
                refine gx_iload_n C dX8_closes_151 rfl ?_
                refine gx_iaload C (gm_11 hM) (by omega) dX8_closes_152 e11' ?_
                refine gx_putI C 8 _ 18 rfl (gm_0 hM) rfl (by decide) nX8_closes_8 tyX8 tyX8_ok nmX8 (gx_hts C _ fX8_closes_188) rfl rfl dX8_closes_153 ?_
                refine gx_aload_n C dX8_closes_156 rfl ?_
                refine gx_iconst C dX8_closes_157 ?_
                refine gx_putZ C 8 _ 19 rfl (gm_0 hM) rfl (by decide) nX8_closes_8 tyX8 tyX8_ok nmX8 (gx_hts C _ fX8_closes_174) rfl rfl (by omega) dX8_closes_158 ?_
                refine gx_goto C dX8_closes_161 rfl ?_
                have f3 := (hE135 E3).1 hRa
                obtain ⟨r1, r2, r3, r4, r5, r6, r7, r8, r9⟩ := f3
                refine fin (gx_u (gx_u M3 0 18 ((pm_pl t (pm_d t) : Nat) : Int)) 0 19 0) ⟨?_, by rw [if_pos hy2]; exact fun q => absurd (show (0 : Int) = 1 from q) (by decide), gm_Xt (gm_Xt hXa (gm_X6 E3)) (gm_Xt (gm_X0 (by decide)) (gm_X0 (by decide))), pr_U6 ((hE135 E3).2 hUa) (by rw [gx_u_nc (by decide), gx_u_nc (by decide)])⟩
                rw [if_pos hy2]
                have k1 : ∀ c, c ≠ 0 → gx_u (gx_u M3 0 18 ((pm_pl t (pm_d t) : Nat) : Int)) 0 19 0 c = M3 c := fun c a => by rw [gx_u_nc a, gx_u_nc a]
                have k2 : ∀ j, j ≠ 18 → j ≠ 19 → gx_u (gx_u M3 0 18 ((pm_pl t (pm_d t) : Nat) : Int)) 0 19 0 0 j = M3 0 j := fun j a b => by rw [gx_u_ne (by omega), gx_u_ne (by omega)]
                exact ⟨by rw [k2 14 (by decide) (by decide)]; exact r1, by rw [k2 15 (by decide) (by decide)]; exact r2, by rw [k2 16 (by decide) (by decide), k2 17 (by decide) (by decide)]; exact r3, ⟨by rw [gx_u_ne (by decide), gx_u_eq], gx_u_eq _ _ _ _, Or.inl rfl, by show gx_3 ((pm_pl t (pm_d t) : Nat) : Int); unfold gx_3; omega⟩, fun i a b => by rw [k1 8 (by decide), k1 11 (by decide)]; exact r5 i a b, fun i a => by rw [k1 9 (by decide), k1 10 (by decide), k1 6 (by decide)]; exact r6 i a, fun a => by rw [k1 6 (by decide)]; exact r7 a, r8, r9⟩
          · have h116 : pm_let t (pm_d t) = 116 := by omega
            have hs2 : pm_sm t (pm_d t) = 2 := by rw [h116] at hlast; unfold pm_arg at hlast; simp at hlast; omega
            obtain ⟨p5, p6⟩ := g4 1 (by omega)
            rw [← e6] at p5
            refine gx_aload_n C dX8_closes_101 rfl ?_
            refine gx_aload_n C dX8_closes_102 rfl ?_
            refine gx_iload_n C dX8_closes_103 rfl ?_
            refine gx_iconst C dX8_closes_104 ?_
            refine gx_callI C 8 rfl (gm_0 hM) (c_X8_pileOf (d := pm_d t) (k := 0) rfl rfl) (cwV 2 (gx_hts C) gX8_closes_X8_pileOf rfl rfl rfl (by decide +kernel) ⟨Nat.le_of_ble_eq_true rfl, Nat.le_of_ble_eq_true rfl⟩) rfl rfl (Nat.le_of_ble_eq_true rfl) ⟨Nat.le_refl _, Nat.le_refl _⟩ dX8_closes_105 (fun z M3 hq => ?_)
            obtain ⟨rfl, rfl⟩ := hq
            refine gx_aload_n C dX8_closes_108 rfl ?_
            refine gx_iload_n C dX8_closes_109 rfl ?_
            refine gx_iconst C dX8_closes_110 ?_
            refine gx_callI C 8 rfl (gm_0 hM) (c_X8_pileOf (d := pm_d t) (k := 1) rfl rfl) (cwV 2 (gx_hts C) gX8_closes_X8_pileOf rfl rfl rfl (by decide +kernel) ⟨Nat.le_of_ble_eq_true rfl, Nat.le_of_ble_eq_true rfl⟩) rfl rfl (Nat.le_of_ble_eq_true rfl) ⟨Nat.le_refl _, Nat.le_refl _⟩ dX8_closes_111 (fun z M3 hq => ?_)
            obtain ⟨rfl, rfl⟩ := hq
            refine gx_iload_n C dX8_closes_114 rfl ?_
            refine gx_sipush C dX8_closes_115 rfl ?_
            refine gx_callV C 8 rfl (gm_0 hM) (c_X8_triple hM hza (a := 144 + 27 * pm_d t + 9 * 0) (b := 144 + 27 * pm_d t + 9 * 1) (c := 144 + 27 * pm_d t + 9 * pm_sm t (pm_d t)) (t := 135) (by omega) (by omega) (by omega) (by omega) (by omega) (by omega) (by omega) (by omega) (mx_ok_e p3 p4) (mx_ok_e p5 p6) (mx_ok_e p1 p2) (mx_ok_e hUa.1 ou)) (cwV 4 (gx_hts C) gX8_closes_X8_triple rfl rfl rfl (by decide +kernel) ⟨Nat.le_of_ble_eq_true rfl, Nat.le_of_ble_eq_true rfl⟩) rfl rfl (Nat.le_of_ble_eq_true rfl) ⟨Nat.le_refl _, Nat.le_refl _⟩ dX8_closes_118 (fun M4 q1 => ?_)
            obtain ⟨q2, E3⟩ := q1
            rw [hUa.1, p1, p3, p5] at q2
            have v3 : mx_of (M4 6) 135 = pm_val s t := by
              rw [q2]
              unfold pm_val
              rw [if_neg hb42, if_neg hb70, if_pos h116]
              rfl
            refine gx_goto C dX8_closes_121 rfl ?_
            exact fin M4 ⟨by rw [if_neg (hn (by omega))]; exact (hE135 E3).1 hRa, fun _ => v3, gm_Xt hXa (gm_X6 E3), (hE135 E3).2 hUa⟩
        · have h117 : pm_let t (pm_d t) = 117 := by omega
          refine gx_aload_n C dX8_closes_73 rfl ?_
          refine gx_aload_n C dX8_closes_74 rfl ?_
          refine gx_iload_n C dX8_closes_75 rfl ?_
          refine gx_iconst C dX8_closes_76 ?_
          refine gx_callI C 8 rfl (gm_0 hM) (c_X8_pileOf (d := pm_d t) (k := 0) rfl rfl) (cwV 2 (gx_hts C) gX8_closes_X8_pileOf rfl rfl rfl (by decide +kernel) ⟨Nat.le_of_ble_eq_true rfl, Nat.le_of_ble_eq_true rfl⟩) rfl rfl (Nat.le_of_ble_eq_true rfl) ⟨Nat.le_refl _, Nat.le_refl _⟩ dX8_closes_77 (fun z M3 hq => ?_)
          obtain ⟨rfl, rfl⟩ := hq
          refine gx_iload_n C dX8_closes_80 rfl ?_
          refine gx_sipush C dX8_closes_81 rfl ?_
          refine gx_callV C 8 rfl (gm_0 hM) (c_X8_operator hM hza (a := 144 + 27 * pm_d t + 9 * 0) (b := 144 + 27 * pm_d t + 9 * pm_sm t (pm_d t)) (t := 135) (by omega) (by omega) (by omega) (by omega) (by omega) (by omega) (mx_ok_e p3 p4) (mx_ok_e p1 p2) (mx_ok_e hUa.1 ou)) (cwV 3 (gx_hts C) gX8_closes_X8_operator rfl rfl rfl (by decide +kernel) ⟨Nat.le_of_ble_eq_true rfl, Nat.le_of_ble_eq_true rfl⟩) rfl rfl (Nat.le_of_ble_eq_true rfl) ⟨Nat.le_refl _, Nat.le_refl _⟩ dX8_closes_84 (fun M4 q1 => ?_)
          obtain ⟨q2, E3⟩ := q1
          rw [hUa.1, p1, p3] at q2
          have v3 : mx_of (M4 6) 135 = pm_val s t := by
            rw [q2]
            unfold pm_val
            rw [if_neg hb42, if_pos h117]
            rfl
          refine gx_goto C dX8_closes_87 rfl ?_
          exact fin M4 ⟨by rw [if_neg (hn (by omega))]; exact (hE135 E3).1 hRa, fun _ => v3, gm_Xt hXa (gm_X6 E3), (hE135 E3).2 hUa⟩
      · have h112 : pm_let t (pm_d t) = 112 := by omega
        refine gx_aload_n C dX8_closes_45 rfl ?_
        refine gx_aload_n C dX8_closes_46 rfl ?_
        refine gx_iload_n C dX8_closes_47 rfl ?_
        refine gx_iconst C dX8_closes_48 ?_
        refine gx_callI C 8 rfl (gm_0 hM) (c_X8_pileOf (d := pm_d t) (k := 0) rfl rfl) (cwV 2 (gx_hts C) gX8_closes_X8_pileOf rfl rfl rfl (by decide +kernel) ⟨Nat.le_of_ble_eq_true rfl, Nat.le_of_ble_eq_true rfl⟩) rfl rfl (Nat.le_of_ble_eq_true rfl) ⟨Nat.le_refl _, Nat.le_refl _⟩ dX8_closes_49 (fun z M3 hq => ?_)
        obtain ⟨rfl, rfl⟩ := hq
        refine gx_iload_n C dX8_closes_52 rfl ?_
        refine gx_sipush C dX8_closes_53 rfl ?_
        refine gx_callV C 8 rfl (gm_0 hM) (c_X8_product hM hza (a := 144 + 27 * pm_d t + 9 * 0) (b := 144 + 27 * pm_d t + 9 * pm_sm t (pm_d t)) (t := 135) (by omega) (by omega) (by omega) (by omega) (by omega) (by omega) (mx_ok_e p3 p4) (mx_ok_e p1 p2) (mx_ok_e hUa.1 ou)) (cwV 3 (gx_hts C) gX8_closes_X8_product rfl rfl rfl (by decide +kernel) ⟨Nat.le_of_ble_eq_true rfl, Nat.le_of_ble_eq_true rfl⟩) rfl rfl (Nat.le_of_ble_eq_true rfl) ⟨Nat.le_refl _, Nat.le_refl _⟩ dX8_closes_56 (fun M4 q1 => ?_)
        obtain ⟨q2, E3⟩ := q1
        rw [hUa.1, p1, p3] at q2
        have v3 : mx_of (M4 6) 135 = pm_val s t := by
          rw [q2]
          unfold pm_val
          rw [if_pos h112]
          rfl
        refine gx_goto C dX8_closes_59 rfl ?_
        exact fin M4 ⟨by rw [if_neg (hn (by omega))]; exact (hE135 E3).1 hRa, fun _ => v3, gm_Xt hXa (gm_X6 E3), (hE135 E3).2 hUa⟩
