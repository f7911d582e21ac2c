/-! THE LAW: inverses -/
theorem so_1 {s : sp_S} {r z : Int} (hr : 0 ≤ r ∧ r ≤ 9) (h : sp_of s r 1 z) : z = mx_det (zs_nn s) (s.1 82) (zs_el s.1 r.toNat) := by
  unfold sp_of at h
  rw [if_pos hr, if_neg (by decide), if_pos rfl] at h
  exact h
theorem so_2 {s : sp_S} {r z : Int} (hr : 0 ≤ r ∧ r ≤ 9) (h : sp_of s r 2 z) : z = mx_rank (zs_nn s) (s.1 82) (zs_el s.1 r.toNat) := by
  unfold sp_of at h
  rw [if_pos hr, if_neg (by decide), if_neg (by decide), if_pos rfl] at h
  exact h
theorem so_3 {s : sp_S} {r z : Int} (hr : 0 ≤ r ∧ r ≤ 9) (h : sp_of s r 3 z) : (z = 0 ∨ z = 1) ∧ (z = 1 ↔ zs_sq s (zs_el s.1 r.toNat)) := by
  unfold sp_of at h
  rw [if_pos hr, if_neg (by decide), if_neg (by decide), if_neg (by decide), if_pos rfl] at h
  exact h
theorem so_4 {s : sp_S} {r z : Int} (hr : 0 ≤ r ∧ r ≤ 9) (h : sp_of s r 4 z) : (z = 0 ∨ z = 1) ∧ (z = 0 ↔ mx_det (zs_nn s) (s.1 82) (zs_el s.1 r.toNat) = 0) := by
  unfold sp_of at h
  rw [if_pos hr, if_neg (by decide), if_neg (by decide), if_neg (by decide), if_neg (by decide), if_pos rfl] at h
  exact h
theorem so_5 {s : sp_S} {r z : Int} (hr : 0 ≤ r ∧ r ≤ 9) (h : sp_of s r 5 z) : mx_fst (fun k => zs_po s (zs_el s.1 r.toNat) (zs_el s.1 r.toNat) k = zs_el s.1 9) 2000 z := by
  unfold sp_of at h
  rw [if_pos hr, if_neg (by decide), if_neg (by decide), if_neg (by decide), if_neg (by decide), if_neg (by decide), if_pos rfl] at h
  exact h
theorem so_6 {s : sp_S} {r z : Int} (hr : 0 ≤ r ∧ r ≤ 9) (h : sp_of s r 6 z) : ∃ K : Nat, sp_deg s (zs_el s.1 r.toNat) K ∧ z = K := by
  unfold sp_of at h
  rw [if_pos hr, if_neg (by decide), if_neg (by decide), if_neg (by decide), if_neg (by decide), if_neg (by decide), if_neg (by decide), if_pos rfl] at h
  exact h
theorem so_7 {s : sp_S} {r z : Int} (hr : 0 ≤ r ∧ r ≤ 9) (h : sp_of s r 7 z) : mx_fst (fun k => zs_po s (zs_el s.1 r.toNat) (zs_el s.1 r.toNat) k = fun _ => 0) 10 z := by
  unfold sp_of at h
  rw [if_pos hr, if_neg (by decide), if_neg (by decide), if_neg (by decide), if_neg (by decide), if_neg (by decide), if_neg (by decide), if_neg (by decide), if_pos rfl] at h
  exact h
/-- the rank is the size just if the determinant is not 0 -/
theorem rk_n {s : sp_S} (hs : sp_ok s) {a : Nat → Int} (ha : sp_V s a) : mx_rank (zs_nn s) (s.1 82) a ≤ zs_nn s ∧ (mx_rank (zs_nn s) (s.1 82) a = zs_nn s ↔ ¬ mx_det (zs_nn s) (s.1 82) a = 0) := by
  obtain ⟨q, hq⟩ := ls_runx (sp_p hs) (R0 := rr_ld ((zs_nn s : Nat) : Int) a) (rr_ld_ok (ls_3 (sp_p hs)) ha.1) (pv := 1) 3 (by decide)
  obtain ⟨c1, c2, c3, c4, c5⟩ := ls_gj (sp_nn hs) (sp_p hs) ha hq
  refine ⟨by omega, ?_⟩
  rw [c1]
  constructor
  · intro h
    exact c3.mp (by omega)
  · intro h
    have := c3.mpr h
    omega
set_option maxRecDepth 100000 in
set_option maxHeartbeats 8000000 in
theorem c_L_inverses {M : gx_M} {s : sp_S} (hs : sp_ok s) (hR : sd_R s M) : gx_Ci gn_La yL_inverses wsL_inverses 7 [gx_R 12] M (fun z M' => z = 1 ∧ sd_R (st_tx s tx_10) M') := by
  have hA := sp_Vel hs (r := 0) (by decide)
  have hni := sp_n hs
  have hn := sp_nn hs
  have hmm := zs_m hs.1
  have hdb := mx_det_b (n := zs_nn s) hmm.1 (zs_el s.1 0)
  obtain ⟨rk1, rk2⟩ := rk_n hs hA
  by_cases hd : mx_det (zs_nn s) (s.1 82) (zs_el s.1 0) = 0
  · have hd0 := hd
    refine gx_start_i (L := [gx_R 12, gx_U, gx_U, gx_U]) (by decide) rfl rfl (Nat.le_of_ble_eq_true rfl) rfl ?_
    intro _ _ _ _ _ _ _ _ _ _ _ _ C
    have q8 := tq_8s hs hd
    have q9 := tq_9s hs hd
    have q10 := tq_10s hs hd
    have hrk : ¬ mx_rank (zs_nn s) (s.1 82) (zs_el s.1 0) = zs_nn s := fun h => rk2.mp h hd
    refine gx_aload_n C dL_inverses_0 rfl ?_
    refine gx_iconst C dL_inverses_1 ?_
    refine gx_iconst C dL_inverses_2 ?_
    refine gx_callI C 7 rfl (gd_12 gn_Hd) (c_X7_of gn_Hd hs hR (r := 0) (w := 4) (by unfold gx_3; omega) (by unfold gx_3; omega)) (cwV 2 (gx_hts C) gL_inverses_X7_of rfl rfl rfl (by decide +kernel) ⟨Nat.le_of_ble_eq_true rfl, Nat.le_of_ble_eq_true rfl⟩) rfl rfl (Nat.le_of_ble_eq_true rfl) ⟨Nat.le_refl _, Nat.le_refl _⟩ dL_inverses_3 (fun z1 M1 h1 => ?_)
    obtain ⟨h1, x1⟩ := h1
    obtain ⟨h1, h1b⟩ := so_4 (by omega) h1
    have hz1 : z1 = 0 := h1b.mpr hd
    subst hz1
    have R1 := sd_XR hR x1
    refine gx_iconst C dL_inverses_6 ?_
    refine gx_icmp_ne C dL_inverses_7 rfl (by unfold gx_3; omega) (by unfold gx_3; omega) (fun hb7 => ?_) (fun hb7 => absurd (by omega) hb7)
    refine gx_iconst C dL_inverses_14 ?_
    refine gx_istore_n C dL_inverses_15 (by decide) rfl ?_
    refine gx_iload_n C dL_inverses_16 rfl ?_
    refine gx_aload_n C dL_inverses_17 rfl ?_
    refine gx_iconst C dL_inverses_18 ?_
    refine gx_iconst C dL_inverses_19 ?_
    refine gx_callI C 7 rfl (gd_12 gn_Hd) (c_X7_of gn_Hd hs R1 (r := 0) (w := 1) (by unfold gx_3; omega) (by unfold gx_3; omega)) (cwV 2 (gx_hts C) gL_inverses_X7_of rfl rfl rfl (by decide +kernel) ⟨Nat.le_of_ble_eq_true rfl, Nat.le_of_ble_eq_true rfl⟩) rfl rfl (Nat.le_of_ble_eq_true rfl) ⟨Nat.le_refl _, Nat.le_refl _⟩ dL_inverses_20 (fun z2 M2 h2 => ?_)
    obtain ⟨h2, x2⟩ := h2
    have h2 := so_1 (by omega) h2
    have h2 : z2 = mx_det (zs_nn s) (s.1 82) (zs_el s.1 0) := h2
    have R2 := sd_XR R1 x2
    refine gx_if_eq C dL_inverses_23 rfl (by unfold gx_3; omega) (fun hb23 => ?_) (fun hb23 => absurd (by omega) hb23)
    refine gx_iconst C dL_inverses_30 ?_
    refine gx_icmp_ne C dL_inverses_31 rfl (by unfold gx_3; omega) (by unfold gx_3; omega) (fun hb31 => absurd hb31 (by omega)) (fun hb31 => ?_)
    refine gx_iload_n C dL_inverses_34 rfl ?_
    refine gx_aload_n C dL_inverses_35 rfl ?_
    refine gx_iconst C dL_inverses_36 ?_
    refine gx_iconst C dL_inverses_37 ?_
    refine gx_callI C 7 rfl (gd_12 gn_Hd) (c_X7_of gn_Hd hs R2 (r := 0) (w := 2) (by unfold gx_3; omega) (by unfold gx_3; omega)) (cwV 2 (gx_hts C) gL_inverses_X7_of rfl rfl rfl (by decide +kernel) ⟨Nat.le_of_ble_eq_true rfl, Nat.le_of_ble_eq_true rfl⟩) rfl rfl (Nat.le_of_ble_eq_true rfl) ⟨Nat.le_refl _, Nat.le_refl _⟩ dL_inverses_38 (fun z3 M3 h3 => ?_)
    obtain ⟨h3, x3⟩ := h3
    have h3 := so_2 (by omega) h3
    have h3 : z3 = mx_rank (zs_nn s) (s.1 82) (zs_el s.1 0) := h3
    have R3 := sd_XR R2 x3
    refine gx_aload_n C dL_inverses_41 rfl ?_
    refine gx_iconst C dL_inverses_42 ?_
    refine gx_callI C 7 rfl (gd_12 gn_Hd) (c_X7_count gn_Hd hs R3 (w := 0) (by unfold gx_3; omega)) (cwV 1 (gx_hts C) gL_inverses_X7_count rfl rfl rfl (by decide +kernel) ⟨Nat.le_of_ble_eq_true rfl, Nat.le_of_ble_eq_true rfl⟩) rfl rfl (Nat.le_of_ble_eq_true rfl) ⟨Nat.le_refl _, Nat.le_refl _⟩ dL_inverses_43 (fun z4 M4 h4 => ?_)
    obtain ⟨h4, x4⟩ := h4
    have h4 : z4 = s.1 81 := h4
    have R4 := sd_XR R3 x4
    refine gx_icmp_ne C dL_inverses_46 rfl (by unfold gx_3; omega) (by unfold gx_3; omega) (fun hb46 => ?_) (fun hb46 => absurd (by omega) hb46)
    refine gx_iconst C dL_inverses_53 ?_
    refine gx_icmp_ne C dL_inverses_54 rfl (by unfold gx_3; omega) (by unfold gx_3; omega) (fun hb54 => absurd hb54 (by omega)) (fun hb54 => ?_)
    refine gx_iconst C dL_inverses_57 ?_
    refine gx_goto C dL_inverses_58 rfl ?_
    refine gx_istore_n C dL_inverses_62 (by decide) rfl ?_
    refine gx_iload_n C dL_inverses_63 rfl ?_
    refine gx_if_eq C dL_inverses_64 rfl (by unfold gx_3; omega) (fun hb64 => absurd hb64 (by omega)) (fun hb64 => ?_)
    refine gx_aload_n C dL_inverses_67 rfl ?_
    refine gx_ldc2 C (v := gl_l 8442069160722710825) (by decide +kernel : Cond.constantLong RL 112 _ ∈ _) dL_inverses_68 ?_
    refine gx_ldc2 C (v := gl_l 2702657) (by decide +kernel : Cond.constantLong RL 114 _ ∈ _) dL_inverses_71 ?_
    refine gx_lconst_0 C dL_inverses_74  ?_
    refine gx_lconst_0 C dL_inverses_75  ?_
    refine gx_lconst_0 C dL_inverses_76  ?_
    refine gx_bipush C dL_inverses_77 rfl ?_
    refine gx_statI C (c_says_8 hs R4 (tx_flts q8)) (cwS 7 (gx_hts C) gL_inverses_L_says rfl rfl rfl (by decide +kernel) ⟨Nat.le_of_ble_eq_true rfl, Nat.le_of_ble_eq_true rfl⟩) rfl rfl (Nat.le_of_ble_eq_true rfl) ⟨Nat.le_refl _, Nat.le_refl _⟩ dL_inverses_79 (fun z80 M80 g8 => ?_)
    obtain ⟨rfl, g8⟩ := g8
    have g8 : sd_R (st_tx s tx_8) M80 := g8
    refine gx_if_eq C dL_inverses_82 rfl (by unfold gx_3; omega) (fun hb82 => absurd hb82 (by omega)) (fun hb82 => ?_)
    refine gx_aload_n C dL_inverses_85 rfl ?_
    refine gx_callI C 7 rfl (gd_12 gn_Hd) (c_X7_stops gn_Hd (tk_8 hs) g8) (cwV 0 (gx_hts C) gL_inverses_X7_stops rfl rfl rfl (by decide +kernel) ⟨Nat.le_of_ble_eq_true rfl, Nat.le_of_ble_eq_true rfl⟩) rfl rfl (Nat.le_of_ble_eq_true rfl) ⟨Nat.le_refl _, Nat.le_refl _⟩ dL_inverses_86 (fun y8 P8 h8 => ?_)
    obtain ⟨h8, x8⟩ := h8
    have h8 := tx_stops5 q8 h8
    subst h8
    have S8 := sd_XR g8 x8
    refine gx_iload_n C dL_inverses_89 rfl ?_
    refine gx_if_eq C dL_inverses_90 rfl (by unfold gx_3; omega) (fun hb90 => ?_) (fun hb90 => absurd (by omega) hb90)
    refine gx_iconst C dL_inverses_98 ?_
    refine gx_icmp_ne C dL_inverses_99 rfl (by unfold gx_3; omega) (by unfold gx_3; omega) (fun hb99 => absurd hb99 (by omega)) (fun hb99 => ?_)
    refine gx_aload_n C dL_inverses_102 rfl ?_
    refine gx_callI C 7 rfl (gd_12 gn_Hd) (c_X7_holds gn_Hd (tk_8 hs) S8) (cwV 0 (gx_hts C) gL_inverses_X7_holds rfl rfl rfl (by decide +kernel) ⟨Nat.le_of_ble_eq_true rfl, Nat.le_of_ble_eq_true rfl⟩) rfl rfl (Nat.le_of_ble_eq_true rfl) ⟨Nat.le_refl _, Nat.le_refl _⟩ dL_inverses_103 (fun w8 W8 k8 => ?_)
    obtain ⟨k8, j8⟩ := k8
    have k8 := tx_holds5 q8 (by decide) k8
    subst k8
    have T8 := sd_XR S8 j8
    refine gx_iload_n C dL_inverses_106 rfl ?_
    refine gx_if_eq C dL_inverses_107 rfl (by unfold gx_3; omega) (fun hb107 => ?_) (fun hb107 => absurd (by omega) hb107)
    refine gx_bipush C dL_inverses_114 rfl ?_
    refine gx_icmp_ne C dL_inverses_116 rfl (by unfold gx_3; omega) (by unfold gx_3; omega) (fun hb116 => absurd hb116 (by omega)) (fun hb116 => ?_)
    refine gx_iconst C dL_inverses_119 ?_
    refine gx_goto C dL_inverses_120 rfl ?_
    refine gx_istore_n C dL_inverses_124 (by decide) rfl ?_
    refine gx_iload_n C dL_inverses_125 rfl ?_
    refine gx_if_eq C dL_inverses_126 rfl (by unfold gx_3; omega) (fun hb126 => absurd hb126 (by omega)) (fun hb126 => ?_)
    refine gx_aload_n C dL_inverses_129 rfl ?_
    refine gx_ldc2 C (v := gl_l 8081781190533071145) (by decide +kernel : Cond.constantLong RL 116 _ ∈ _) dL_inverses_130 ?_
    refine gx_ldc2 C (v := gl_l 2702697) (by decide +kernel : Cond.constantLong RL 118 _ ∈ _) dL_inverses_133 ?_
    refine gx_lconst_0 C dL_inverses_136  ?_
    refine gx_lconst_0 C dL_inverses_137  ?_
    refine gx_lconst_0 C dL_inverses_138  ?_
    refine gx_bipush C dL_inverses_139 rfl ?_
    refine gx_statI C (c_says_9 (tk_8 hs) T8 (tx_flts q9)) (cwS 7 (gx_hts C) gL_inverses_L_says rfl rfl rfl (by decide +kernel) ⟨Nat.le_of_ble_eq_true rfl, Nat.le_of_ble_eq_true rfl⟩) rfl rfl (Nat.le_of_ble_eq_true rfl) ⟨Nat.le_refl _, Nat.le_refl _⟩ dL_inverses_141 (fun z90 M90 g9 => ?_)
    obtain ⟨rfl, g9⟩ := g9
    have g9 : sd_R (st_tx s tx_9) M90 := g9
    refine gx_if_eq C dL_inverses_144 rfl (by unfold gx_3; omega) (fun hb144 => absurd hb144 (by omega)) (fun hb144 => ?_)
    refine gx_aload_n C dL_inverses_147 rfl ?_
    refine gx_callI C 7 rfl (gd_12 gn_Hd) (c_X7_holds gn_Hd (tk_9 hs) g9) (cwV 0 (gx_hts C) gL_inverses_X7_holds rfl rfl rfl (by decide +kernel) ⟨Nat.le_of_ble_eq_true rfl, Nat.le_of_ble_eq_true rfl⟩) rfl rfl (Nat.le_of_ble_eq_true rfl) ⟨Nat.le_refl _, Nat.le_refl _⟩ dL_inverses_148 (fun w9 W9 k9 => ?_)
    obtain ⟨k9, j9⟩ := k9
    have k9 := tx_holds5 q9 (by decide) k9
    subst k9
    have T9 := sd_XR g9 j9
    refine gx_iload_n C dL_inverses_151 rfl ?_
    refine gx_if_eq C dL_inverses_152 rfl (by unfold gx_3; omega) (fun hb152 => ?_) (fun hb152 => absurd (by omega) hb152)
    refine gx_bipush C dL_inverses_159 rfl ?_
    refine gx_icmp_ne C dL_inverses_161 rfl (by unfold gx_3; omega) (by unfold gx_3; omega) (fun hb161 => absurd hb161 (by omega)) (fun hb161 => ?_)
    refine gx_iconst C dL_inverses_164 ?_
    refine gx_goto C dL_inverses_165 rfl ?_
    refine gx_istore_n C dL_inverses_169 (by decide) rfl ?_
    refine gx_iload_n C dL_inverses_170 rfl ?_
    refine gx_if_eq C dL_inverses_171 rfl (by unfold gx_3; omega) (fun hb171 => absurd hb171 (by omega)) (fun hb171 => ?_)
    refine gx_aload_n C dL_inverses_174 rfl ?_
    refine gx_ldc2 C (v := gl_l 8514185010807908669) (by decide +kernel : Cond.constantLong RL 120 _ ∈ _) dL_inverses_175 ?_
    refine gx_ldc2 C (v := gl_l 65) (by decide +kernel : Cond.constantLong RL 122 _ ∈ _) dL_inverses_178 ?_
    refine gx_lconst_0 C dL_inverses_181  ?_
    refine gx_lconst_0 C dL_inverses_182  ?_
    refine gx_lconst_0 C dL_inverses_183  ?_
    refine gx_bipush C dL_inverses_184 rfl ?_
    refine gx_statI C (c_says_10 (tk_9 hs) T9 (tx_flts q10)) (cwS 7 (gx_hts C) gL_inverses_L_says rfl rfl rfl (by decide +kernel) ⟨Nat.le_of_ble_eq_true rfl, Nat.le_of_ble_eq_true rfl⟩) rfl rfl (Nat.le_of_ble_eq_true rfl) ⟨Nat.le_refl _, Nat.le_refl _⟩ dL_inverses_186 (fun z100 M100 g10 => ?_)
    obtain ⟨rfl, g10⟩ := g10
    have g10 : sd_R (st_tx s tx_10) M100 := g10
    refine gx_if_eq C dL_inverses_189 rfl (by unfold gx_3; omega) (fun hb189 => absurd hb189 (by omega)) (fun hb189 => ?_)
    refine gx_aload_n C dL_inverses_192 rfl ?_
    refine gx_callI C 7 rfl (gd_12 gn_Hd) (c_X7_stops gn_Hd (tk_10 hs) g10) (cwV 0 (gx_hts C) gL_inverses_X7_stops rfl rfl rfl (by decide +kernel) ⟨Nat.le_of_ble_eq_true rfl, Nat.le_of_ble_eq_true rfl⟩) rfl rfl (Nat.le_of_ble_eq_true rfl) ⟨Nat.le_refl _, Nat.le_refl _⟩ dL_inverses_193 (fun y10 P10 h10 => ?_)
    obtain ⟨h10, x10⟩ := h10
    have h10 := tx_stops5 q10 h10
    subst h10
    have S10 := sd_XR g10 x10
    refine gx_iload_n C dL_inverses_196 rfl ?_
    refine gx_if_eq C dL_inverses_197 rfl (by unfold gx_3; omega) (fun hb197 => ?_) (fun hb197 => absurd (by omega) hb197)
    refine gx_iconst C dL_inverses_205 ?_
    refine gx_icmp_ne C dL_inverses_206 rfl (by unfold gx_3; omega) (by unfold gx_3; omega) (fun hb206 => absurd hb206 (by omega)) (fun hb206 => ?_)
    refine gx_aload_n C dL_inverses_209 rfl ?_
    refine gx_callI C 7 rfl (gd_12 gn_Hd) (c_X7_holds gn_Hd (tk_10 hs) S10) (cwV 0 (gx_hts C) gL_inverses_X7_holds rfl rfl rfl (by decide +kernel) ⟨Nat.le_of_ble_eq_true rfl, Nat.le_of_ble_eq_true rfl⟩) rfl rfl (Nat.le_of_ble_eq_true rfl) ⟨Nat.le_refl _, Nat.le_refl _⟩ dL_inverses_210 (fun w10 W10 k10 => ?_)
    obtain ⟨k10, j10⟩ := k10
    have k10 := tx_holds5 q10 (by decide) k10
    subst k10
    have T10 := sd_XR S10 j10
    refine gx_iload_n C dL_inverses_213 rfl ?_
    refine gx_if_eq C dL_inverses_214 rfl (by unfold gx_3; omega) (fun hb214 => ?_) (fun hb214 => absurd (by omega) hb214)
    refine gx_bipush C dL_inverses_221 rfl ?_
    refine gx_icmp_ne C dL_inverses_223 rfl (by unfold gx_3; omega) (by unfold gx_3; omega) (fun hb223 => absurd hb223 (by omega)) (fun hb223 => ?_)
    refine gx_iconst C dL_inverses_226 ?_
    refine gx_goto C dL_inverses_227 rfl ?_
    refine gx_istore_n C dL_inverses_231 (by decide) rfl ?_
    refine gx_aload_n C dL_inverses_232 rfl ?_
    refine gx_iconst C dL_inverses_233 ?_
    refine gx_iconst C dL_inverses_234 ?_
    refine gx_callI C 7 rfl (gd_12 gn_Hd) (c_X7_of gn_Hd (tk_10 hs) T10 (r := 0) (w := 5) (by unfold gx_3; omega) (by unfold gx_3; omega)) (cwV 2 (gx_hts C) gL_inverses_X7_of rfl rfl rfl (by decide +kernel) ⟨Nat.le_of_ble_eq_true rfl, Nat.le_of_ble_eq_true rfl⟩) rfl rfl (Nat.le_of_ble_eq_true rfl) ⟨Nat.le_refl _, Nat.le_refl _⟩ dL_inverses_235 (fun z5 M5 h5 => ?_)
    obtain ⟨h5, x5⟩ := h5
    have h5 := dg_ord (s := st_tx s tx_10) (tk_10 hs) hA (so_5 (by omega) h5)
    have R5 := sd_XR T10 x5
    rcases h5 with rfl | ⟨h5, -⟩
    · refine gx_istore_n C dL_inverses_238 (by decide) rfl ?_
      refine gx_iload_n C dL_inverses_239 rfl ?_
      refine gx_if_eq C dL_inverses_240 rfl (by unfold gx_3; omega) (fun hb240 => absurd hb240 (by omega)) (fun hb240 => ?_)
      refine gx_iload_n C dL_inverses_243 rfl ?_
      refine gx_if_ne C dL_inverses_244 rfl (by unfold gx_3; omega) (fun hb244 => absurd hb244 (by omega)) (fun hb244 => ?_)
      refine gx_iload_n C dL_inverses_247 rfl ?_
      refine gx_bipush C dL_inverses_248 rfl ?_
      refine gx_icmp_ne C dL_inverses_250 rfl (by unfold gx_3; omega) (by unfold gx_3; omega) (fun hb250 => absurd hb250 (by omega)) (fun hb250 => ?_)
      refine gx_iload_n C dL_inverses_253 rfl ?_
      refine gx_bipush C dL_inverses_254 rfl ?_
      refine gx_icmp_eq C dL_inverses_256 rfl (by unfold gx_3; omega) (by unfold gx_3; omega) (fun hb256 => ?_) (fun hb256 => absurd (by omega) hb256)
      refine gx_iconst C dL_inverses_284 ?_
      refine gx_goto C dL_inverses_285 rfl ?_
      exact gx_zret C (by omega) dL_inverses_289 ⟨rfl, R5⟩
    · exact absurd hd h5
  · have hd0 := hd
    refine gx_start_i (L := [gx_R 12, gx_U, gx_U, gx_U]) (by decide) rfl rfl (Nat.le_of_ble_eq_true rfl) rfl ?_
    intro _ _ _ _ _ _ _ _ _ _ _ _ C
    obtain ⟨X8, q8⟩ := tq_8 hs hd
    obtain ⟨X9, q9⟩ := tq_9 hs hd
    obtain ⟨X10, q10⟩ := tq_10 hs hd
    have hrk := rk2.mpr hd
    refine gx_aload_n C dL_inverses_0 rfl ?_
    refine gx_iconst C dL_inverses_1 ?_
    refine gx_iconst C dL_inverses_2 ?_
    refine gx_callI C 7 rfl (gd_12 gn_Hd) (c_X7_of gn_Hd hs hR (r := 0) (w := 4) (by unfold gx_3; omega) (by unfold gx_3; omega)) (cwV 2 (gx_hts C) gL_inverses_X7_of rfl rfl rfl (by decide +kernel) ⟨Nat.le_of_ble_eq_true rfl, Nat.le_of_ble_eq_true rfl⟩) rfl rfl (Nat.le_of_ble_eq_true rfl) ⟨Nat.le_refl _, Nat.le_refl _⟩ dL_inverses_3 (fun z1 M1 h1 => ?_)
    obtain ⟨h1, x1⟩ := h1
    obtain ⟨h1, h1b⟩ := so_4 (by omega) h1
    have hz1 : z1 = 1 := by
      rcases h1 with e | e
      · exact absurd (h1b.mp e) hd
      · exact e
    subst hz1
    have R1 := sd_XR hR x1
    refine gx_iconst C dL_inverses_6 ?_
    refine gx_icmp_ne C dL_inverses_7 rfl (by unfold gx_3; omega) (by unfold gx_3; omega) (fun hb7 => absurd hb7 (by omega)) (fun hb7 => ?_)
    refine gx_iconst C dL_inverses_10 ?_
    refine gx_goto C dL_inverses_11 rfl ?_
    refine gx_istore_n C dL_inverses_15 (by decide) rfl ?_
    refine gx_iload_n C dL_inverses_16 rfl ?_
    refine gx_aload_n C dL_inverses_17 rfl ?_
    refine gx_iconst C dL_inverses_18 ?_
    refine gx_iconst C dL_inverses_19 ?_
    refine gx_callI C 7 rfl (gd_12 gn_Hd) (c_X7_of gn_Hd hs R1 (r := 0) (w := 1) (by unfold gx_3; omega) (by unfold gx_3; omega)) (cwV 2 (gx_hts C) gL_inverses_X7_of rfl rfl rfl (by decide +kernel) ⟨Nat.le_of_ble_eq_true rfl, Nat.le_of_ble_eq_true rfl⟩) rfl rfl (Nat.le_of_ble_eq_true rfl) ⟨Nat.le_refl _, Nat.le_refl _⟩ dL_inverses_20 (fun z2 M2 h2 => ?_)
    obtain ⟨h2, x2⟩ := h2
    have h2 := so_1 (by omega) h2
    have h2 : z2 = mx_det (zs_nn s) (s.1 82) (zs_el s.1 0) := h2
    have R2 := sd_XR R1 x2
    refine gx_if_eq C dL_inverses_23 rfl (by unfold gx_3; omega) (fun hb23 => absurd hb23 (by omega)) (fun hb23 => ?_)
    refine gx_iconst C dL_inverses_26 ?_
    refine gx_goto C dL_inverses_27 rfl ?_
    refine gx_icmp_ne C dL_inverses_31 rfl (by unfold gx_3; omega) (by unfold gx_3; omega) (fun hb31 => absurd hb31 (by omega)) (fun hb31 => ?_)
    refine gx_iload_n C dL_inverses_34 rfl ?_
    refine gx_aload_n C dL_inverses_35 rfl ?_
    refine gx_iconst C dL_inverses_36 ?_
    refine gx_iconst C dL_inverses_37 ?_
    refine gx_callI C 7 rfl (gd_12 gn_Hd) (c_X7_of gn_Hd hs R2 (r := 0) (w := 2) (by unfold gx_3; omega) (by unfold gx_3; omega)) (cwV 2 (gx_hts C) gL_inverses_X7_of rfl rfl rfl (by decide +kernel) ⟨Nat.le_of_ble_eq_true rfl, Nat.le_of_ble_eq_true rfl⟩) rfl rfl (Nat.le_of_ble_eq_true rfl) ⟨Nat.le_refl _, Nat.le_refl _⟩ dL_inverses_38 (fun z3 M3 h3 => ?_)
    obtain ⟨h3, x3⟩ := h3
    have h3 := so_2 (by omega) h3
    have h3 : z3 = mx_rank (zs_nn s) (s.1 82) (zs_el s.1 0) := h3
    have R3 := sd_XR R2 x3
    refine gx_aload_n C dL_inverses_41 rfl ?_
    refine gx_iconst C dL_inverses_42 ?_
    refine gx_callI C 7 rfl (gd_12 gn_Hd) (c_X7_count gn_Hd hs R3 (w := 0) (by unfold gx_3; omega)) (cwV 1 (gx_hts C) gL_inverses_X7_count rfl rfl rfl (by decide +kernel) ⟨Nat.le_of_ble_eq_true rfl, Nat.le_of_ble_eq_true rfl⟩) rfl rfl (Nat.le_of_ble_eq_true rfl) ⟨Nat.le_refl _, Nat.le_refl _⟩ dL_inverses_43 (fun z4 M4 h4 => ?_)
    obtain ⟨h4, x4⟩ := h4
    have h4 : z4 = s.1 81 := h4
    have R4 := sd_XR R3 x4
    refine gx_icmp_ne C dL_inverses_46 rfl (by unfold gx_3; omega) (by unfold gx_3; omega) (fun hb46 => absurd hb46 (by omega)) (fun hb46 => ?_)
    refine gx_iconst C dL_inverses_49 ?_
    refine gx_goto C dL_inverses_50 rfl ?_
    refine gx_icmp_ne C dL_inverses_54 rfl (by unfold gx_3; omega) (by unfold gx_3; omega) (fun hb54 => absurd hb54 (by omega)) (fun hb54 => ?_)
    refine gx_iconst C dL_inverses_57 ?_
    refine gx_goto C dL_inverses_58 rfl ?_
    refine gx_istore_n C dL_inverses_62 (by decide) rfl ?_
    refine gx_iload_n C dL_inverses_63 rfl ?_
    refine gx_if_eq C dL_inverses_64 rfl (by unfold gx_3; omega) (fun hb64 => absurd hb64 (by omega)) (fun hb64 => ?_)
    refine gx_aload_n C dL_inverses_67 rfl ?_
    refine gx_ldc2 C (v := gl_l 8442069160722710825) (by decide +kernel : Cond.constantLong RL 112 _ ∈ _) dL_inverses_68 ?_
    refine gx_ldc2 C (v := gl_l 2702657) (by decide +kernel : Cond.constantLong RL 114 _ ∈ _) dL_inverses_71 ?_
    refine gx_lconst_0 C dL_inverses_74  ?_
    refine gx_lconst_0 C dL_inverses_75  ?_
    refine gx_lconst_0 C dL_inverses_76  ?_
    refine gx_bipush C dL_inverses_77 rfl ?_
    refine gx_statI C (c_says_8 hs R4 (tx_flt q8)) (cwS 7 (gx_hts C) gL_inverses_L_says rfl rfl rfl (by decide +kernel) ⟨Nat.le_of_ble_eq_true rfl, Nat.le_of_ble_eq_true rfl⟩) rfl rfl (Nat.le_of_ble_eq_true rfl) ⟨Nat.le_refl _, Nat.le_refl _⟩ dL_inverses_79 (fun z80 M80 g8 => ?_)
    obtain ⟨rfl, g8⟩ := g8
    have g8 : sd_R (st_tx s tx_8) M80 := g8
    refine gx_if_eq C dL_inverses_82 rfl (by unfold gx_3; omega) (fun hb82 => absurd hb82 (by omega)) (fun hb82 => ?_)
    refine gx_aload_n C dL_inverses_85 rfl ?_
    refine gx_callI C 7 rfl (gd_12 gn_Hd) (c_X7_stops gn_Hd (tk_8 hs) g8) (cwV 0 (gx_hts C) gL_inverses_X7_stops rfl rfl rfl (by decide +kernel) ⟨Nat.le_of_ble_eq_true rfl, Nat.le_of_ble_eq_true rfl⟩) rfl rfl (Nat.le_of_ble_eq_true rfl) ⟨Nat.le_refl _, Nat.le_refl _⟩ dL_inverses_86 (fun y8 P8 h8 => ?_)
    obtain ⟨h8, x8⟩ := h8
    have h8 := tx_stops q8 h8
    subst h8
    have S8 := sd_XR g8 x8
    refine gx_iload_n C dL_inverses_89 rfl ?_
    refine gx_if_eq C dL_inverses_90 rfl (by unfold gx_3; omega) (fun hb90 => absurd hb90 (by omega)) (fun hb90 => ?_)
    refine gx_bipush C dL_inverses_93 rfl ?_
    refine gx_goto C dL_inverses_95 rfl ?_
    refine gx_icmp_ne C dL_inverses_99 rfl (by unfold gx_3; omega) (by unfold gx_3; omega) (fun hb99 => absurd hb99 (by omega)) (fun hb99 => ?_)
    refine gx_aload_n C dL_inverses_102 rfl ?_
    refine gx_callI C 7 rfl (gd_12 gn_Hd) (c_X7_holds gn_Hd (tk_8 hs) S8) (cwV 0 (gx_hts C) gL_inverses_X7_holds rfl rfl rfl (by decide +kernel) ⟨Nat.le_of_ble_eq_true rfl, Nat.le_of_ble_eq_true rfl⟩) rfl rfl (Nat.le_of_ble_eq_true rfl) ⟨Nat.le_refl _, Nat.le_refl _⟩ dL_inverses_103 (fun w8 W8 k8 => ?_)
    obtain ⟨k8, j8⟩ := k8
    have k8 := tx_holds q8 rfl k8
    subst k8
    have T8 := sd_XR S8 j8
    refine gx_iload_n C dL_inverses_106 rfl ?_
    refine gx_if_eq C dL_inverses_107 rfl (by unfold gx_3; omega) (fun hb107 => absurd hb107 (by omega)) (fun hb107 => ?_)
    refine gx_iconst C dL_inverses_110 ?_
    refine gx_goto C dL_inverses_111 rfl ?_
    refine gx_icmp_ne C dL_inverses_116 rfl (by unfold gx_3; omega) (by unfold gx_3; omega) (fun hb116 => absurd hb116 (by omega)) (fun hb116 => ?_)
    refine gx_iconst C dL_inverses_119 ?_
    refine gx_goto C dL_inverses_120 rfl ?_
    refine gx_istore_n C dL_inverses_124 (by decide) rfl ?_
    refine gx_iload_n C dL_inverses_125 rfl ?_
    refine gx_if_eq C dL_inverses_126 rfl (by unfold gx_3; omega) (fun hb126 => absurd hb126 (by omega)) (fun hb126 => ?_)
    refine gx_aload_n C dL_inverses_129 rfl ?_
    refine gx_ldc2 C (v := gl_l 8081781190533071145) (by decide +kernel : Cond.constantLong RL 116 _ ∈ _) dL_inverses_130 ?_
    refine gx_ldc2 C (v := gl_l 2702697) (by decide +kernel : Cond.constantLong RL 118 _ ∈ _) dL_inverses_133 ?_
    refine gx_lconst_0 C dL_inverses_136  ?_
    refine gx_lconst_0 C dL_inverses_137  ?_
    refine gx_lconst_0 C dL_inverses_138  ?_
    refine gx_bipush C dL_inverses_139 rfl ?_
    refine gx_statI C (c_says_9 (tk_8 hs) T8 (tx_flt q9)) (cwS 7 (gx_hts C) gL_inverses_L_says rfl rfl rfl (by decide +kernel) ⟨Nat.le_of_ble_eq_true rfl, Nat.le_of_ble_eq_true rfl⟩) rfl rfl (Nat.le_of_ble_eq_true rfl) ⟨Nat.le_refl _, Nat.le_refl _⟩ dL_inverses_141 (fun z90 M90 g9 => ?_)
    obtain ⟨rfl, g9⟩ := g9
    have g9 : sd_R (st_tx s tx_9) M90 := g9
    refine gx_if_eq C dL_inverses_144 rfl (by unfold gx_3; omega) (fun hb144 => absurd hb144 (by omega)) (fun hb144 => ?_)
    refine gx_aload_n C dL_inverses_147 rfl ?_
    refine gx_callI C 7 rfl (gd_12 gn_Hd) (c_X7_holds gn_Hd (tk_9 hs) g9) (cwV 0 (gx_hts C) gL_inverses_X7_holds rfl rfl rfl (by decide +kernel) ⟨Nat.le_of_ble_eq_true rfl, Nat.le_of_ble_eq_true rfl⟩) rfl rfl (Nat.le_of_ble_eq_true rfl) ⟨Nat.le_refl _, Nat.le_refl _⟩ dL_inverses_148 (fun w9 W9 k9 => ?_)
    obtain ⟨k9, j9⟩ := k9
    have k9 := tx_holds q9 rfl k9
    subst k9
    have T9 := sd_XR g9 j9
    refine gx_iload_n C dL_inverses_151 rfl ?_
    refine gx_if_eq C dL_inverses_152 rfl (by unfold gx_3; omega) (fun hb152 => absurd hb152 (by omega)) (fun hb152 => ?_)
    refine gx_iconst C dL_inverses_155 ?_
    refine gx_goto C dL_inverses_156 rfl ?_
    refine gx_icmp_ne C dL_inverses_161 rfl (by unfold gx_3; omega) (by unfold gx_3; omega) (fun hb161 => absurd hb161 (by omega)) (fun hb161 => ?_)
    refine gx_iconst C dL_inverses_164 ?_
    refine gx_goto C dL_inverses_165 rfl ?_
    refine gx_istore_n C dL_inverses_169 (by decide) rfl ?_
    refine gx_iload_n C dL_inverses_170 rfl ?_
    refine gx_if_eq C dL_inverses_171 rfl (by unfold gx_3; omega) (fun hb171 => absurd hb171 (by omega)) (fun hb171 => ?_)
    refine gx_aload_n C dL_inverses_174 rfl ?_
    refine gx_ldc2 C (v := gl_l 8514185010807908669) (by decide +kernel : Cond.constantLong RL 120 _ ∈ _) dL_inverses_175 ?_
    refine gx_ldc2 C (v := gl_l 65) (by decide +kernel : Cond.constantLong RL 122 _ ∈ _) dL_inverses_178 ?_
    refine gx_lconst_0 C dL_inverses_181  ?_
    refine gx_lconst_0 C dL_inverses_182  ?_
    refine gx_lconst_0 C dL_inverses_183  ?_
    refine gx_bipush C dL_inverses_184 rfl ?_
    refine gx_statI C (c_says_10 (tk_9 hs) T9 (tx_flt q10)) (cwS 7 (gx_hts C) gL_inverses_L_says rfl rfl rfl (by decide +kernel) ⟨Nat.le_of_ble_eq_true rfl, Nat.le_of_ble_eq_true rfl⟩) rfl rfl (Nat.le_of_ble_eq_true rfl) ⟨Nat.le_refl _, Nat.le_refl _⟩ dL_inverses_186 (fun z100 M100 g10 => ?_)
    obtain ⟨rfl, g10⟩ := g10
    have g10 : sd_R (st_tx s tx_10) M100 := g10
    refine gx_if_eq C dL_inverses_189 rfl (by unfold gx_3; omega) (fun hb189 => absurd hb189 (by omega)) (fun hb189 => ?_)
    refine gx_aload_n C dL_inverses_192 rfl ?_
    refine gx_callI C 7 rfl (gd_12 gn_Hd) (c_X7_stops gn_Hd (tk_10 hs) g10) (cwV 0 (gx_hts C) gL_inverses_X7_stops rfl rfl rfl (by decide +kernel) ⟨Nat.le_of_ble_eq_true rfl, Nat.le_of_ble_eq_true rfl⟩) rfl rfl (Nat.le_of_ble_eq_true rfl) ⟨Nat.le_refl _, Nat.le_refl _⟩ dL_inverses_193 (fun y10 P10 h10 => ?_)
    obtain ⟨h10, x10⟩ := h10
    have h10 := tx_stops q10 h10
    subst h10
    have S10 := sd_XR g10 x10
    refine gx_iload_n C dL_inverses_196 rfl ?_
    refine gx_if_eq C dL_inverses_197 rfl (by unfold gx_3; omega) (fun hb197 => absurd hb197 (by omega)) (fun hb197 => ?_)
    refine gx_bipush C dL_inverses_200 rfl ?_
    refine gx_goto C dL_inverses_202 rfl ?_
    refine gx_icmp_ne C dL_inverses_206 rfl (by unfold gx_3; omega) (by unfold gx_3; omega) (fun hb206 => absurd hb206 (by omega)) (fun hb206 => ?_)
    refine gx_aload_n C dL_inverses_209 rfl ?_
    refine gx_callI C 7 rfl (gd_12 gn_Hd) (c_X7_holds gn_Hd (tk_10 hs) S10) (cwV 0 (gx_hts C) gL_inverses_X7_holds rfl rfl rfl (by decide +kernel) ⟨Nat.le_of_ble_eq_true rfl, Nat.le_of_ble_eq_true rfl⟩) rfl rfl (Nat.le_of_ble_eq_true rfl) ⟨Nat.le_refl _, Nat.le_refl _⟩ dL_inverses_210 (fun w10 W10 k10 => ?_)
    obtain ⟨k10, j10⟩ := k10
    have k10 := tx_holds q10 rfl k10
    subst k10
    have T10 := sd_XR S10 j10
    refine gx_iload_n C dL_inverses_213 rfl ?_
    refine gx_if_eq C dL_inverses_214 rfl (by unfold gx_3; omega) (fun hb214 => absurd hb214 (by omega)) (fun hb214 => ?_)
    refine gx_iconst C dL_inverses_217 ?_
    refine gx_goto C dL_inverses_218 rfl ?_
    refine gx_icmp_ne C dL_inverses_223 rfl (by unfold gx_3; omega) (by unfold gx_3; omega) (fun hb223 => absurd hb223 (by omega)) (fun hb223 => ?_)
    refine gx_iconst C dL_inverses_226 ?_
    refine gx_goto C dL_inverses_227 rfl ?_
    refine gx_istore_n C dL_inverses_231 (by decide) rfl ?_
    refine gx_aload_n C dL_inverses_232 rfl ?_
    refine gx_iconst C dL_inverses_233 ?_
    refine gx_iconst C dL_inverses_234 ?_
    refine gx_callI C 7 rfl (gd_12 gn_Hd) (c_X7_of gn_Hd (tk_10 hs) T10 (r := 0) (w := 5) (by unfold gx_3; omega) (by unfold gx_3; omega)) (cwV 2 (gx_hts C) gL_inverses_X7_of rfl rfl rfl (by decide +kernel) ⟨Nat.le_of_ble_eq_true rfl, Nat.le_of_ble_eq_true rfl⟩) rfl rfl (Nat.le_of_ble_eq_true rfl) ⟨Nat.le_refl _, Nat.le_refl _⟩ dL_inverses_235 (fun z5 M5 h5 => ?_)
    obtain ⟨h5, x5⟩ := h5
    have h5 := dg_ord (s := st_tx s tx_10) (tk_10 hs) hA (so_5 (by omega) h5)
    have R5 := sd_XR T10 x5
    rcases h5 with rfl | ⟨-, k, k1, rfl, k3, k4⟩
    · refine gx_istore_n C dL_inverses_238 (by decide) rfl ?_
      refine gx_iload_n C dL_inverses_239 rfl ?_
      refine gx_if_eq C dL_inverses_240 rfl (by unfold gx_3; omega) (fun hb240 => absurd hb240 (by omega)) (fun hb240 => ?_)
      refine gx_iload_n C dL_inverses_243 rfl ?_
      refine gx_if_ne C dL_inverses_244 rfl (by unfold gx_3; omega) (fun hb244 => ?_) (fun hb244 => absurd (by omega) hb244)
      refine gx_iload_n C dL_inverses_253 rfl ?_
      refine gx_bipush C dL_inverses_254 rfl ?_
      refine gx_icmp_eq C dL_inverses_256 rfl (by unfold gx_3; omega) (by unfold gx_3; omega) (fun hb256 => ?_) (fun hb256 => absurd (by omega) hb256)
      refine gx_iconst C dL_inverses_284 ?_
      refine gx_goto C dL_inverses_285 rfl ?_
      exact gx_zret C (by omega) dL_inverses_289 ⟨rfl, R5⟩
    · refine gx_istore_n C dL_inverses_238 (by decide) rfl ?_
      refine gx_iload_n C dL_inverses_239 rfl ?_
      refine gx_if_eq C dL_inverses_240 rfl (by unfold gx_3; omega) (fun hb240 => absurd hb240 (by omega)) (fun hb240 => ?_)
      refine gx_iload_n C dL_inverses_243 rfl ?_
      refine gx_if_ne C dL_inverses_244 rfl (by unfold gx_3; omega) (fun hb244 => ?_) (fun hb244 => absurd (by omega) hb244)
      refine gx_iload_n C dL_inverses_253 rfl ?_
      refine gx_bipush C dL_inverses_254 rfl ?_
      refine gx_icmp_eq C dL_inverses_256 rfl (by unfold gx_3; omega) (by unfold gx_3; omega) (fun hb256 => absurd hb256 (by omega)) (fun hb256 => ?_)
      refine gx_aload_n C dL_inverses_259 rfl ?_
      refine gx_iconst C dL_inverses_260 ?_
      refine gx_iload_n C dL_inverses_261 rfl ?_
      refine gx_statI C (c_L_isUnit (s := st_tx s tx_10) (tk_10 hs) R5 (r := 0) (k := (k : Int) + 1) (by omega) (by omega)) (cwS 3 (gx_hts C) gL_inverses_L_isUnit rfl rfl rfl (by decide +kernel) ⟨Nat.le_of_ble_eq_true rfl, Nat.le_of_ble_eq_true rfl⟩) rfl rfl (Nat.le_of_ble_eq_true rfl) ⟨Nat.le_refl _, Nat.le_refl _⟩ dL_inverses_262 (fun z6 M6 h6 => ?_)
      obtain ⟨h6, h6b, R6⟩ := h6
      have h6 : z6 = 1 := h6b.mpr (by rw [show ((k : Int) + 1).toNat = k + 1 by omega]; exact k3)
      subst h6
      refine gx_if_eq C dL_inverses_265 rfl (by unfold gx_3; omega) (fun hb265 => absurd hb265 (by omega)) (fun hb265 => ?_)
      refine gx_iload_n C dL_inverses_268 rfl ?_
      refine gx_iconst C dL_inverses_269 ?_
      rcases k4 with rfl | k4
      · refine gx_icmp_eq C dL_inverses_270 rfl (by unfold gx_3; omega) (by unfold gx_3; omega) (fun hb270 => ?_) (fun hb270 => absurd (by omega) hb270)
        refine gx_iconst C dL_inverses_284 ?_
        refine gx_goto C dL_inverses_285 rfl ?_
        exact gx_zret C (by omega) dL_inverses_289 ⟨rfl, R6⟩
      · by_cases hk0 : k = 0
        · refine gx_icmp_eq C dL_inverses_270 rfl (by unfold gx_3; omega) (by unfold gx_3; omega) (fun hb270 => ?_) (fun hb270 => absurd (by omega) hb270)
          refine gx_iconst C dL_inverses_284 ?_
          refine gx_goto C dL_inverses_285 rfl ?_
          exact gx_zret C (by omega) dL_inverses_289 ⟨rfl, R6⟩
        · refine gx_icmp_eq C dL_inverses_270 rfl (by unfold gx_3; omega) (by unfold gx_3; omega) (fun hb270 => absurd hb270 (by omega)) (fun hb270 => ?_)
          refine gx_aload_n C dL_inverses_273 rfl ?_
          refine gx_iconst C dL_inverses_274 ?_
          refine gx_iload_n C dL_inverses_275 rfl ?_
          refine gx_iconst C dL_inverses_276 ?_
          refine gx_isub C dL_inverses_277 ?_
          refine gx_statI C (c_L_isUnit (s := st_tx s tx_10) (tk_10 hs) R6 (r := 0) (k := (k : Int) + 1 - 1) (by omega) (by omega)) (cwS 3 (gx_hts C) gL_inverses_L_isUnit rfl rfl rfl (by decide +kernel) ⟨Nat.le_of_ble_eq_true rfl, Nat.le_of_ble_eq_true rfl⟩) rfl rfl (Nat.le_of_ble_eq_true rfl) ⟨Nat.le_refl _, Nat.le_refl _⟩ dL_inverses_278 (fun z7 M7 h7 => ?_)
          obtain ⟨h7, h7b, R7⟩ := h7
          have h7 : z7 = 0 := by
            rcases h7 with e | e
            · exact e
            · have := h7b.mp e
              rw [show ((k : Int) + 1 - 1).toNat = k by omega] at this
              exact absurd this k4
          subst h7
          refine gx_if_ne C dL_inverses_281 rfl (by unfold gx_3; omega) (fun hb281 => absurd hb281 (by omega)) (fun hb281 => ?_)
          refine gx_iconst C dL_inverses_284 ?_
          refine gx_goto C dL_inverses_285 rfl ?_
          exact gx_zret C (by omega) dL_inverses_289 ⟨rfl, R7⟩
