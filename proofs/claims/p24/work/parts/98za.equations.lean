/-! THE LAW: equations that hold always; isUnit -/
theorem tq_rule {s : sp_S} (hs : sp_ok s) {a b c : Int} (ha : 0 ≤ a ∧ a ≤ 7) (hb : 0 ≤ b ∧ b ≤ 7) (hc : 0 ≤ c ∧ c ≤ 7) {z : Int} (h : sp_rule s a b c 0 z) : z = 1 := by
  unfold sp_rule at h
  rw [if_pos ⟨ha, hb, hc⟩, if_pos (by omega), if_neg (by omega)] at h
  refine h.2.mpr ?_
  unfold zs_oper
  exact al_5 (sp_nn hs)
set_option maxRecDepth 100000 in
set_option maxHeartbeats 4000000 in
theorem c_L_equations {M : gx_M} {s : sp_S} (hs : sp_ok s) (hR : sd_R s M) : gx_Ci gn_La yL_equations wsL_equations 7 [gx_R 12] M (fun z M' => z = 1 ∧ sd_R (st_tx s tx_7) M') := by
  obtain ⟨X1, q1⟩ := tq_1 hs
  obtain ⟨X2, q2⟩ := tq_2 hs
  obtain ⟨X3, q3⟩ := tq_3 hs
  obtain ⟨X4, q4⟩ := tq_4 hs
  obtain ⟨X5, q5⟩ := tq_5 hs
  obtain ⟨X6, q6⟩ := tq_6 hs
  obtain ⟨X7, q7⟩ := tq_7 hs
  refine gx_start_i (L := [gx_R 12, gx_U]) (by decide) rfl rfl (Nat.le_of_ble_eq_true rfl) rfl ?_
  intro _ _ _ _ _ _ _ _ _ _ _ _ C
  refine gx_aload_n C dL_equations_0 rfl ?_
  refine gx_ldc2 C (v := gl_l 8081781189660720496) (by decide +kernel : Cond.constantLong RL 57 _ ∈ _) dL_equations_1 ?_
  refine gx_ldc2 C (v := gl_l 172908888361) (by decide +kernel : Cond.constantLong RL 59 _ ∈ _) dL_equations_4 ?_
  refine gx_lconst_0 C dL_equations_7  ?_
  refine gx_lconst_0 C dL_equations_8  ?_
  refine gx_lconst_0 C dL_equations_9  ?_
  refine gx_bipush C dL_equations_10 rfl ?_
  refine gx_statI C (c_says_1 hs hR (tx_flt q1)) (cwS 7 (gx_hts C) gL_equations_L_says rfl rfl rfl (by decide +kernel) ⟨Nat.le_of_ble_eq_true rfl, Nat.le_of_ble_eq_true rfl⟩) rfl rfl (Nat.le_of_ble_eq_true rfl) ⟨Nat.le_refl _, Nat.le_refl _⟩ dL_equations_12 (fun z1 M1 g1 => ?_)
  obtain ⟨rfl, g1⟩ := g1
  have g1 : sd_R (st_tx s tx_1) M1 := g1
  refine gx_if_eq C dL_equations_15 rfl (by unfold gx_3; omega) (fun hb15 => absurd hb15 (by omega)) (fun hb15 => ?_)
  refine gx_aload_n C dL_equations_18 rfl ?_
  refine gx_callI C 7 rfl (gd_12 gn_Hd) (c_X7_holds gn_Hd (tk_1 hs) g1) (cwV 0 (gx_hts C) gL_equations_X7_holds rfl rfl rfl (by decide +kernel) ⟨Nat.le_of_ble_eq_true rfl, Nat.le_of_ble_eq_true rfl⟩) rfl rfl (Nat.le_of_ble_eq_true rfl) ⟨Nat.le_refl _, Nat.le_refl _⟩ dL_equations_19 (fun y1 P1 h1 => ?_)
  obtain ⟨h1, x1⟩ := h1
  have h1 := tx_holds q1 rfl h1
  subst h1
  have R1 := sd_XR g1 x1
  refine gx_iconst C dL_equations_22 ?_
  refine gx_icmp_ne C dL_equations_23 rfl (by unfold gx_3; omega) (by unfold gx_3; omega) (fun hb23 => absurd hb23 (by omega)) (fun hb23 => ?_)
  refine gx_iconst C dL_equations_26 ?_
  refine gx_goto C dL_equations_27 rfl ?_
  refine gx_istore_n C dL_equations_31 (by decide) rfl ?_
  refine gx_iload_n C dL_equations_32 rfl ?_
  refine gx_if_eq C dL_equations_33 rfl (by unfold gx_3; omega) (fun hb33 => absurd hb33 (by omega)) (fun hb33 => ?_)
  refine gx_aload_n C dL_equations_36 rfl ?_
  refine gx_ldc2 C (v := gl_l 8081825170109054273) (by decide +kernel : Cond.constantLong RL 68 _ ∈ _) dL_equations_37 ?_
  refine gx_lconst_0 C dL_equations_40  ?_
  refine gx_lconst_0 C dL_equations_41  ?_
  refine gx_lconst_0 C dL_equations_42  ?_
  refine gx_lconst_0 C dL_equations_43  ?_
  refine gx_bipush C dL_equations_44 rfl ?_
  refine gx_statI C (c_says_2 (tk_1 hs) R1 (tx_flt q2)) (cwS 7 (gx_hts C) gL_equations_L_says rfl rfl rfl (by decide +kernel) ⟨Nat.le_of_ble_eq_true rfl, Nat.le_of_ble_eq_true rfl⟩) rfl rfl (Nat.le_of_ble_eq_true rfl) ⟨Nat.le_refl _, Nat.le_refl _⟩ dL_equations_46 (fun z2 M2 g2 => ?_)
  obtain ⟨rfl, g2⟩ := g2
  have g2 : sd_R (st_tx s tx_2) M2 := g2
  refine gx_if_eq C dL_equations_49 rfl (by unfold gx_3; omega) (fun hb49 => absurd hb49 (by omega)) (fun hb49 => ?_)
  refine gx_aload_n C dL_equations_52 rfl ?_
  refine gx_callI C 7 rfl (gd_12 gn_Hd) (c_X7_holds gn_Hd (tk_2 hs) g2) (cwV 0 (gx_hts C) gL_equations_X7_holds rfl rfl rfl (by decide +kernel) ⟨Nat.le_of_ble_eq_true rfl, Nat.le_of_ble_eq_true rfl⟩) rfl rfl (Nat.le_of_ble_eq_true rfl) ⟨Nat.le_refl _, Nat.le_refl _⟩ dL_equations_53 (fun y2 P2 h2 => ?_)
  obtain ⟨h2, x2⟩ := h2
  have h2 := tx_holds q2 rfl h2
  subst h2
  have R2 := sd_XR g2 x2
  refine gx_iconst C dL_equations_56 ?_
  refine gx_icmp_ne C dL_equations_57 rfl (by unfold gx_3; omega) (by unfold gx_3; omega) (fun hb57 => absurd hb57 (by omega)) (fun hb57 => ?_)
  refine gx_iconst C dL_equations_60 ?_
  refine gx_goto C dL_equations_61 rfl ?_
  refine gx_istore_n C dL_equations_65 (by decide) rfl ?_
  refine gx_iload_n C dL_equations_66 rfl ?_
  refine gx_if_eq C dL_equations_67 rfl (by unfold gx_3; omega) (fun hb67 => absurd hb67 (by omega)) (fun hb67 => ?_)
  refine gx_aload_n C dL_equations_70 rfl ?_
  refine gx_ldc2 C (v := gl_l 8442069159850360114) (by decide +kernel : Cond.constantLong RL 70 _ ∈ _) dL_equations_71 ?_
  refine gx_ldc2 C (v := gl_l 3057988407368099905) (by decide +kernel : Cond.constantLong RL 72 _ ∈ _) dL_equations_74 ?_
  refine gx_ldc2 C (v := gl_l 3189156742964455536) (by decide +kernel : Cond.constantLong RL 74 _ ∈ _) dL_equations_77 ?_
  refine gx_ldc2 C (v := gl_l 2900648293378572841) (by decide +kernel : Cond.constantLong RL 76 _ ∈ _) dL_equations_80 ?_
  refine gx_lconst_0 C dL_equations_83  ?_
  refine gx_bipush C dL_equations_84 rfl ?_
  refine gx_statI C (c_says_3 (tk_2 hs) R2 (tx_flt q3)) (cwS 7 (gx_hts C) gL_equations_L_says rfl rfl rfl (by decide +kernel) ⟨Nat.le_of_ble_eq_true rfl, Nat.le_of_ble_eq_true rfl⟩) rfl rfl (Nat.le_of_ble_eq_true rfl) ⟨Nat.le_refl _, Nat.le_refl _⟩ dL_equations_86 (fun z3 M3 g3 => ?_)
  obtain ⟨rfl, g3⟩ := g3
  have g3 : sd_R (st_tx s tx_3) M3 := g3
  refine gx_if_eq C dL_equations_89 rfl (by unfold gx_3; omega) (fun hb89 => absurd hb89 (by omega)) (fun hb89 => ?_)
  refine gx_aload_n C dL_equations_92 rfl ?_
  refine gx_callI C 7 rfl (gd_12 gn_Hd) (c_X7_holds gn_Hd (tk_3 hs) g3) (cwV 0 (gx_hts C) gL_equations_X7_holds rfl rfl rfl (by decide +kernel) ⟨Nat.le_of_ble_eq_true rfl, Nat.le_of_ble_eq_true rfl⟩) rfl rfl (Nat.le_of_ble_eq_true rfl) ⟨Nat.le_refl _, Nat.le_refl _⟩ dL_equations_93 (fun y3 P3 h3 => ?_)
  obtain ⟨h3, x3⟩ := h3
  have h3 := tx_holds q3 rfl h3
  subst h3
  have R3 := sd_XR g3 x3
  refine gx_iconst C dL_equations_96 ?_
  refine gx_icmp_ne C dL_equations_97 rfl (by unfold gx_3; omega) (by unfold gx_3; omega) (fun hb97 => absurd hb97 (by omega)) (fun hb97 => ?_)
  refine gx_iconst C dL_equations_100 ?_
  refine gx_goto C dL_equations_101 rfl ?_
  refine gx_istore_n C dL_equations_105 (by decide) rfl ?_
  refine gx_iload_n C dL_equations_106 rfl ?_
  refine gx_if_eq C dL_equations_107 rfl (by unfold gx_3; omega) (fun hb107 => absurd hb107 (by omega)) (fun hb107 => ?_)
  refine gx_aload_n C dL_equations_110 rfl ?_
  refine gx_ldc2 C (v := gl_l 8370011565812629801) (by decide +kernel : Cond.constantLong RL 78 _ ∈ _) dL_equations_111 ?_
  refine gx_ldc2 C (v := gl_l 17298789331911209) (by decide +kernel : Cond.constantLong RL 80 _ ∈ _) dL_equations_114 ?_
  refine gx_lconst_0 C dL_equations_117  ?_
  refine gx_lconst_0 C dL_equations_118  ?_
  refine gx_lconst_0 C dL_equations_119  ?_
  refine gx_bipush C dL_equations_120 rfl ?_
  refine gx_statI C (c_says_4 (tk_3 hs) R3 (tx_flt q4)) (cwS 7 (gx_hts C) gL_equations_L_says rfl rfl rfl (by decide +kernel) ⟨Nat.le_of_ble_eq_true rfl, Nat.le_of_ble_eq_true rfl⟩) rfl rfl (Nat.le_of_ble_eq_true rfl) ⟨Nat.le_refl _, Nat.le_refl _⟩ dL_equations_122 (fun z4 M4 g4 => ?_)
  obtain ⟨rfl, g4⟩ := g4
  have g4 : sd_R (st_tx s tx_4) M4 := g4
  refine gx_if_eq C dL_equations_125 rfl (by unfold gx_3; omega) (fun hb125 => absurd hb125 (by omega)) (fun hb125 => ?_)
  refine gx_aload_n C dL_equations_128 rfl ?_
  refine gx_callI C 7 rfl (gd_12 gn_Hd) (c_X7_holds gn_Hd (tk_4 hs) g4) (cwV 0 (gx_hts C) gL_equations_X7_holds rfl rfl rfl (by decide +kernel) ⟨Nat.le_of_ble_eq_true rfl, Nat.le_of_ble_eq_true rfl⟩) rfl rfl (Nat.le_of_ble_eq_true rfl) ⟨Nat.le_refl _, Nat.le_refl _⟩ dL_equations_129 (fun y4 P4 h4 => ?_)
  obtain ⟨h4, x4⟩ := h4
  have h4 := tx_holds q4 rfl h4
  subst h4
  have R4 := sd_XR g4 x4
  refine gx_iconst C dL_equations_132 ?_
  refine gx_icmp_ne C dL_equations_133 rfl (by unfold gx_3; omega) (by unfold gx_3; omega) (fun hb133 => absurd hb133 (by omega)) (fun hb133 => ?_)
  refine gx_iconst C dL_equations_136 ?_
  refine gx_goto C dL_equations_137 rfl ?_
  refine gx_istore_n C dL_equations_141 (by decide) rfl ?_
  refine gx_iload_n C dL_equations_142 rfl ?_
  refine gx_if_eq C dL_equations_143 rfl (by unfold gx_3; omega) (fun hb143 => absurd hb143 (by omega)) (fun hb143 => ?_)
  refine gx_aload_n C dL_equations_146 rfl ?_
  refine gx_ldc2 C (v := gl_l 8442126317258555945) (by decide +kernel : Cond.constantLong RL 82 _ ∈ _) dL_equations_147 ?_
  refine gx_ldc2 C (v := gl_l 3189438305043759404) (by decide +kernel : Cond.constantLong RL 84 _ ∈ _) dL_equations_150 ?_
  refine gx_ldc2 C (v := gl_l 8442070260217561388) (by decide +kernel : Cond.constantLong RL 86 _ ∈ _) dL_equations_153 ?_
  refine gx_ldc2 C (v := gl_l 1126770985) (by decide +kernel : Cond.constantLong RL 88 _ ∈ _) dL_equations_156 ?_
  refine gx_lconst_0 C dL_equations_159  ?_
  refine gx_bipush C dL_equations_160 rfl ?_
  refine gx_statI C (c_says_5 (tk_4 hs) R4 (tx_flt q5)) (cwS 7 (gx_hts C) gL_equations_L_says rfl rfl rfl (by decide +kernel) ⟨Nat.le_of_ble_eq_true rfl, Nat.le_of_ble_eq_true rfl⟩) rfl rfl (Nat.le_of_ble_eq_true rfl) ⟨Nat.le_refl _, Nat.le_refl _⟩ dL_equations_162 (fun z5 M5 g5 => ?_)
  obtain ⟨rfl, g5⟩ := g5
  have g5 : sd_R (st_tx s tx_5) M5 := g5
  refine gx_if_eq C dL_equations_165 rfl (by unfold gx_3; omega) (fun hb165 => absurd hb165 (by omega)) (fun hb165 => ?_)
  refine gx_aload_n C dL_equations_168 rfl ?_
  refine gx_callI C 7 rfl (gd_12 gn_Hd) (c_X7_holds gn_Hd (tk_5 hs) g5) (cwV 0 (gx_hts C) gL_equations_X7_holds rfl rfl rfl (by decide +kernel) ⟨Nat.le_of_ble_eq_true rfl, Nat.le_of_ble_eq_true rfl⟩) rfl rfl (Nat.le_of_ble_eq_true rfl) ⟨Nat.le_refl _, Nat.le_refl _⟩ dL_equations_169 (fun y5 P5 h5 => ?_)
  obtain ⟨h5, x5⟩ := h5
  have h5 := tx_holds q5 rfl h5
  subst h5
  have R5 := sd_XR g5 x5
  refine gx_iconst C dL_equations_172 ?_
  refine gx_icmp_ne C dL_equations_173 rfl (by unfold gx_3; omega) (by unfold gx_3; omega) (fun hb173 => absurd hb173 (by omega)) (fun hb173 => ?_)
  refine gx_iconst C dL_equations_176 ?_
  refine gx_goto C dL_equations_177 rfl ?_
  refine gx_istore_n C dL_equations_181 (by decide) rfl ?_
  refine gx_iload_n C dL_equations_182 rfl ?_
  refine gx_if_eq C dL_equations_183 rfl (by unfold gx_3; omega) (fun hb183 => absurd hb183 (by omega)) (fun hb183 => ?_)
  refine gx_aload_n C dL_equations_186 rfl ?_
  refine gx_ldc2 C (v := gl_l 8442069155555590953) (by decide +kernel : Cond.constantLong RL 90 _ ∈ _) dL_equations_187 ?_
  refine gx_ldc2 C (v := gl_l 4428490068969335083) (by decide +kernel : Cond.constantLong RL 92 _ ∈ _) dL_equations_190 ?_
  refine gx_ldc2 C (v := gl_l 8442070259378760498) (by decide +kernel : Cond.constantLong RL 94 _ ∈ _) dL_equations_193 ?_
  refine gx_ldc2 C (v := gl_l 3059114307271994434) (by decide +kernel : Cond.constantLong RL 96 _ ∈ _) dL_equations_196 ?_
  refine gx_ldc2 C (v := gl_l 41) (by decide +kernel : Cond.constantLong RL 98 _ ∈ _) dL_equations_199 ?_
  refine gx_bipush C dL_equations_202 rfl ?_
  refine gx_statI C (c_says_6 (tk_5 hs) R5 (tx_flt q6)) (cwS 7 (gx_hts C) gL_equations_L_says rfl rfl rfl (by decide +kernel) ⟨Nat.le_of_ble_eq_true rfl, Nat.le_of_ble_eq_true rfl⟩) rfl rfl (Nat.le_of_ble_eq_true rfl) ⟨Nat.le_refl _, Nat.le_refl _⟩ dL_equations_204 (fun z6 M6 g6 => ?_)
  obtain ⟨rfl, g6⟩ := g6
  have g6 : sd_R (st_tx s tx_6) M6 := g6
  refine gx_if_eq C dL_equations_207 rfl (by unfold gx_3; omega) (fun hb207 => absurd hb207 (by omega)) (fun hb207 => ?_)
  refine gx_aload_n C dL_equations_210 rfl ?_
  refine gx_callI C 7 rfl (gd_12 gn_Hd) (c_X7_holds gn_Hd (tk_6 hs) g6) (cwV 0 (gx_hts C) gL_equations_X7_holds rfl rfl rfl (by decide +kernel) ⟨Nat.le_of_ble_eq_true rfl, Nat.le_of_ble_eq_true rfl⟩) rfl rfl (Nat.le_of_ble_eq_true rfl) ⟨Nat.le_refl _, Nat.le_refl _⟩ dL_equations_211 (fun y6 P6 h6 => ?_)
  obtain ⟨h6, x6⟩ := h6
  have h6 := tx_holds q6 rfl h6
  subst h6
  have R6 := sd_XR g6 x6
  refine gx_iconst C dL_equations_214 ?_
  refine gx_icmp_ne C dL_equations_215 rfl (by unfold gx_3; omega) (by unfold gx_3; omega) (fun hb215 => absurd hb215 (by omega)) (fun hb215 => ?_)
  refine gx_iconst C dL_equations_218 ?_
  refine gx_goto C dL_equations_219 rfl ?_
  refine gx_istore_n C dL_equations_223 (by decide) rfl ?_
  refine gx_iload_n C dL_equations_224 rfl ?_
  refine gx_if_eq C dL_equations_225 rfl (by unfold gx_3; omega) (fun hb225 => absurd hb225 (by omega)) (fun hb225 => ?_)
  refine gx_aload_n C dL_equations_228 rfl ?_
  refine gx_ldc2 C (v := gl_l 8081832849510777129) (by decide +kernel : Cond.constantLong RL 100 _ ∈ _) dL_equations_229 ?_
  refine gx_ldc2 C (v := gl_l 3202103595440941353) (by decide +kernel : Cond.constantLong RL 102 _ ∈ _) dL_equations_232 ?_
  refine gx_ldc2 C (v := gl_l 4427082694088730736) (by decide +kernel : Cond.constantLong RL 104 _ ∈ _) dL_equations_235 ?_
  refine gx_ldc2 C (v := gl_l 2900648293378572841) (by decide +kernel : Cond.constantLong RL 76 _ ∈ _) dL_equations_238 ?_
  refine gx_ldc2 C (v := gl_l 41) (by decide +kernel : Cond.constantLong RL 98 _ ∈ _) dL_equations_241 ?_
  refine gx_bipush C dL_equations_244 rfl ?_
  refine gx_statI C (c_says_7 (tk_6 hs) R6 (tx_flt q7)) (cwS 7 (gx_hts C) gL_equations_L_says rfl rfl rfl (by decide +kernel) ⟨Nat.le_of_ble_eq_true rfl, Nat.le_of_ble_eq_true rfl⟩) rfl rfl (Nat.le_of_ble_eq_true rfl) ⟨Nat.le_refl _, Nat.le_refl _⟩ dL_equations_246 (fun z7 M7 g7 => ?_)
  obtain ⟨rfl, g7⟩ := g7
  have g7 : sd_R (st_tx s tx_7) M7 := g7
  refine gx_if_eq C dL_equations_249 rfl (by unfold gx_3; omega) (fun hb249 => absurd hb249 (by omega)) (fun hb249 => ?_)
  refine gx_aload_n C dL_equations_252 rfl ?_
  refine gx_callI C 7 rfl (gd_12 gn_Hd) (c_X7_holds gn_Hd (tk_7 hs) g7) (cwV 0 (gx_hts C) gL_equations_X7_holds rfl rfl rfl (by decide +kernel) ⟨Nat.le_of_ble_eq_true rfl, Nat.le_of_ble_eq_true rfl⟩) rfl rfl (Nat.le_of_ble_eq_true rfl) ⟨Nat.le_refl _, Nat.le_refl _⟩ dL_equations_253 (fun y7 P7 h7 => ?_)
  obtain ⟨h7, x7⟩ := h7
  have h7 := tx_holds q7 rfl h7
  subst h7
  have R7 := sd_XR g7 x7
  refine gx_iconst C dL_equations_256 ?_
  refine gx_icmp_ne C dL_equations_257 rfl (by unfold gx_3; omega) (by unfold gx_3; omega) (fun hb257 => absurd hb257 (by omega)) (fun hb257 => ?_)
  refine gx_iconst C dL_equations_260 ?_
  refine gx_goto C dL_equations_261 rfl ?_
  refine gx_istore_n C dL_equations_265 (by decide) rfl ?_
  refine gx_iload_n C dL_equations_266 rfl ?_
  refine gx_if_eq C dL_equations_267 rfl (by unfold gx_3; omega) (fun hb267 => absurd hb267 (by omega)) (fun hb267 => ?_)
  refine gx_aload_n C dL_equations_270 rfl ?_
  refine gx_callI C 7 rfl (gd_12 gn_Hd) (c_X7_stops gn_Hd (tk_7 hs) R7) (cwV 0 (gx_hts C) gL_equations_X7_stops rfl rfl rfl (by decide +kernel) ⟨Nat.le_of_ble_eq_true rfl, Nat.le_of_ble_eq_true rfl⟩) rfl rfl (Nat.le_of_ble_eq_true rfl) ⟨Nat.le_refl _, Nat.le_refl _⟩ dL_equations_271 (fun y8 P8 h8 => ?_)
  obtain ⟨h8, x8⟩ := h8
  have h8 := tx_stops q7 h8
  subst h8
  have R8 := sd_XR R7 x8
  refine gx_bipush C dL_equations_274 rfl ?_
  refine gx_icmp_ne C dL_equations_276 rfl (by unfold gx_3; omega) (by unfold gx_3; omega) (fun hb276 => absurd hb276 (by omega)) (fun hb276 => ?_)
  refine gx_aload_n C dL_equations_279 rfl ?_
  refine gx_callI C 7 rfl (gd_12 gn_Hd) (c_X7_run gn_Hd (tk_7 hs) R8) (cwV 0 (gx_hts C) gL_equations_X7_run rfl rfl rfl (by decide +kernel) ⟨Nat.le_of_ble_eq_true rfl, Nat.le_of_ble_eq_true rfl⟩) rfl rfl (Nat.le_of_ble_eq_true rfl) ⟨Nat.le_refl _, Nat.le_refl _⟩ dL_equations_280 (fun y9 P9 h9 => ?_)
  obtain ⟨s9, h9, -, R9, -⟩ := h9
  obtain ⟨rfl, rfl⟩ := tx_run5 q7 h9
  refine gx_bipush C dL_equations_283 rfl ?_
  refine gx_icmp_ne C dL_equations_285 rfl (by unfold gx_3; omega) (by unfold gx_3; omega) (fun hb285 => absurd hb285 (by omega)) (fun hb285 => ?_)
  refine gx_aload_n C dL_equations_288 rfl ?_
  refine gx_iconst C dL_equations_289 ?_
  refine gx_iconst C dL_equations_290 ?_
  refine gx_iconst C dL_equations_291 ?_
  refine gx_iconst C dL_equations_292 ?_
  refine gx_callI C 7 rfl (gd_12 gn_Hd) (c_X7_rule gn_Hd (tk_7 hs) R9 (a := 0) (b := 1) (c := 2) (w := 0) (by unfold gx_3; omega) (by unfold gx_3; omega) (by unfold gx_3; omega) (by unfold gx_3; omega)) (cwV 4 (gx_hts C) gL_equations_X7_rule rfl rfl rfl (by decide +kernel) ⟨Nat.le_of_ble_eq_true rfl, Nat.le_of_ble_eq_true rfl⟩) rfl rfl (Nat.le_of_ble_eq_true rfl) ⟨Nat.le_refl _, Nat.le_refl _⟩ dL_equations_293 (fun y10 P10 h10 => ?_)
  obtain ⟨h10, x10⟩ := h10
  have h10 := tq_rule (tk_7 hs) (by omega) (by omega) (by omega) h10
  subst h10
  have R10 := sd_XR R9 x10
  refine gx_iconst C dL_equations_296 ?_
  refine gx_icmp_ne C dL_equations_297 rfl (by unfold gx_3; omega) (by unfold gx_3; omega) (fun hb297 => absurd hb297 (by omega)) (fun hb297 => ?_)
  refine gx_aload_n C dL_equations_300 rfl ?_
  refine gx_iconst C dL_equations_301 ?_
  refine gx_iconst C dL_equations_302 ?_
  refine gx_iconst C dL_equations_303 ?_
  refine gx_iconst C dL_equations_304 ?_
  refine gx_callI C 7 rfl (gd_12 gn_Hd) (c_X7_rule gn_Hd (tk_7 hs) R10 (a := 2) (b := 0) (c := 1) (w := 0) (by unfold gx_3; omega) (by unfold gx_3; omega) (by unfold gx_3; omega) (by unfold gx_3; omega)) (cwV 4 (gx_hts C) gL_equations_X7_rule rfl rfl rfl (by decide +kernel) ⟨Nat.le_of_ble_eq_true rfl, Nat.le_of_ble_eq_true rfl⟩) rfl rfl (Nat.le_of_ble_eq_true rfl) ⟨Nat.le_refl _, Nat.le_refl _⟩ dL_equations_305 (fun y11 P11 h11 => ?_)
  obtain ⟨h11, x11⟩ := h11
  have h11 := tq_rule (tk_7 hs) (by omega) (by omega) (by omega) h11
  subst h11
  have R11 := sd_XR R10 x11
  refine gx_iconst C dL_equations_308 ?_
  refine gx_icmp_ne C dL_equations_309 rfl (by unfold gx_3; omega) (by unfold gx_3; omega) (fun hb309 => absurd hb309 (by omega)) (fun hb309 => ?_)
  refine gx_iconst C dL_equations_312 ?_
  refine gx_goto C dL_equations_313 rfl ?_
  exact gx_zret C (by omega) dL_equations_317 ⟨rfl, R11⟩
theorem sp_pw_e {s : sp_S} {r k i j z : Int} (h : sp_power s r k i j z) (hr : 0 ≤ r ∧ r ≤ 7) (hk : 0 ≤ k ∧ k ≤ 2000) (hi : 0 ≤ i ∧ i < s.1 81) (hj : 0 ≤ j ∧ j < s.1 81) : z = zs_po s (zs_el s.1 r.toNat) (zs_el s.1 9) k.toNat (3 * i.toNat + j.toNat) := by
  unfold sp_power at h
  rw [if_pos ⟨hr, hi.1, hi.2, hj.1, hj.2⟩, if_pos hk] at h
  exact h
theorem sp_en_e {s : sp_S} {r i j z : Int} (h : sp_entry s r i j z) (hr : 0 ≤ r ∧ r ≤ 9) (hi : 0 ≤ i ∧ i < s.1 81) (hj : 0 ≤ j ∧ j < s.1 81) : z = zs_el s.1 r.toNat (3 * i.toNat + j.toNat) := by
  unfold sp_entry at h
  rw [if_pos ⟨hr, hi.1, hi.2, hj.1, hj.2⟩] at h
  exact h
theorem sp_n {s : sp_S} (hs : sp_ok s) : s.1 81 = ((zs_nn s : Nat) : Int) := by
  have := hs.1.1
  unfold zs_nn
  omega
theorem sp_V3 {s : sp_S} (hs : sp_ok s) {a : Nat → Int} (ha : sp_V s a) {k : Nat} (hk : k < 9) : gx_3 (a k) := by
  have := ha.1 k hk
  have := zs_m hs.1
  unfold gx_3
  omega
set_option maxRecDepth 100000 in
set_option maxHeartbeats 4000000 in
theorem c_L_isUnit {M : gx_M} {s : sp_S} (hs : sp_ok s) (hR : sd_R s M) {r k : Int} (hr : 0 ≤ r ∧ r ≤ 7) (hk : 0 ≤ k ∧ k ≤ 2000) : gx_Ci gn_La yL_isUnit wsL_isUnit 6 [gx_R 12, gx_I r, gx_I k] M (fun z M' => (z = 0 ∨ z = 1) ∧ (z = 1 ↔ zs_po s (zs_el s.1 r.toNat) (zs_el s.1 9) k.toNat = zs_el s.1 9) ∧ sd_R s M') := by
  have hn := sp_nn hs
  have hni := sp_n hs
  have hA := sp_Vel hs (r := r.toNat) (by omega)
  have h9 := sp_V9 hs
  have hp := dg_V hs hA k.toNat
  refine gx_start_i (L := [gx_R 12, gx_I r, gx_I k, gx_U, gx_U, gx_U]) (by decide) rfl rfl (Nat.le_of_ble_eq_true rfl) rfl ?_
  intro _ _ _ _ _ _ _ _ _ _ _ _ C
  refine gx_iconst C dL_isUnit_0 ?_
  refine gx_istore_n C dL_isUnit_1 (by decide) rfl ?_
  refine gx_iconst C dL_isUnit_2 ?_
  refine gx_istore C dL_isUnit_3 (by decide) rfl ?_
  refine gx_for (zs_nn s) (fun i (a : Int × gx_M) => [gx_R 12, gx_I r, gx_I k, gx_I a.1, gx_I (i : Int), gx_U]) (fun a => a.2) (fun i a => (a.1 = 0 ∨ a.1 = 1) ∧ (a.1 = 1 ↔ ∀ i' j', i' < i → j' < zs_nn s → zs_po s (zs_el s.1 r.toNat) (zs_el s.1 9) k.toNat (3 * i' + j') = zs_el s.1 9 (3 * i' + j')) ∧ sd_R s a.2) 0 (1, M) (Nat.zero_le _) ⟨Or.inr rfl, ⟨fun _ i' j' h => absurd h (Nat.not_lt_zero _), fun _ => rfl⟩, hR⟩ (fun i a hi hI nxt => ?_) (fun a hI => ?_)
  · obtain ⟨q, P⟩ := a
    obtain ⟨hq, hqi, hP⟩ := hI
    refine gx_iload C dL_isUnit_5 rfl ?_
    refine gx_aload_n C dL_isUnit_7 rfl ?_
    refine gx_iconst C dL_isUnit_8 ?_
    refine gx_callI C 7 rfl (gd_12 gn_Hd) (c_X7_count gn_Hd hs hP (w := 0) (by unfold gx_3; omega)) (cwV 1 (gx_hts C) gL_isUnit_X7_count rfl rfl rfl (by decide +kernel) ⟨Nat.le_of_ble_eq_true rfl, Nat.le_of_ble_eq_true rfl⟩) rfl rfl (Nat.le_of_ble_eq_true rfl) ⟨Nat.le_refl _, Nat.le_refl _⟩ dL_isUnit_9 (fun z1 P1 h1 => ?_)
    obtain ⟨h1, x1⟩ := h1
    have hz1 : z1 = s.1 81 := h1
    subst hz1
    have hP1 := sd_XR hP x1
    refine gx_icmp_ge C dL_isUnit_12 rfl (by unfold gx_3; omega) (by unfold gx_3; omega) (fun hb12 => absurd hb12 (by omega)) (fun hb12 => ?_)
    refine gx_iconst C dL_isUnit_15 ?_
    refine gx_istore C dL_isUnit_16 (by decide) rfl ?_
    refine gx_for (zs_nn s) (fun j (a : Int × gx_M) => [gx_R 12, gx_I r, gx_I k, gx_I a.1, gx_I (i : Int), gx_I (j : Int)]) (fun a => a.2) (fun j a => (a.1 = 0 ∨ a.1 = 1) ∧ (a.1 = 1 ↔ (∀ i' j', i' < i → j' < zs_nn s → zs_po s (zs_el s.1 r.toNat) (zs_el s.1 9) k.toNat (3 * i' + j') = zs_el s.1 9 (3 * i' + j')) ∧ ∀ j', j' < j → zs_po s (zs_el s.1 r.toNat) (zs_el s.1 9) k.toNat (3 * i + j') = zs_el s.1 9 (3 * i + j')) ∧ sd_R s a.2) 0 (q, P1) (Nat.zero_le _) ⟨hq, ⟨fun h => ⟨hqi.mp h, fun j' h => absurd h (Nat.not_lt_zero _)⟩, fun h => hqi.mpr h.1⟩, hP1⟩ (fun j a hj hI nxt2 => ?_) (fun a hI => ?_)
    · obtain ⟨q, P⟩ := a
      obtain ⟨hq, hqi, hP⟩ := hI
      refine gx_iload C dL_isUnit_18 rfl ?_
      refine gx_aload_n C dL_isUnit_20 rfl ?_
      refine gx_iconst C dL_isUnit_21 ?_
      refine gx_callI C 7 rfl (gd_12 gn_Hd) (c_X7_count gn_Hd hs hP (w := 0) (by unfold gx_3; omega)) (cwV 1 (gx_hts C) gL_isUnit_X7_count rfl rfl rfl (by decide +kernel) ⟨Nat.le_of_ble_eq_true rfl, Nat.le_of_ble_eq_true rfl⟩) rfl rfl (Nat.le_of_ble_eq_true rfl) ⟨Nat.le_refl _, Nat.le_refl _⟩ dL_isUnit_22 (fun z1 P1 h1 => ?_)
      obtain ⟨h1, x1⟩ := h1
      have hz1 : z1 = s.1 81 := h1
      subst hz1
      have hP1 := sd_XR hP x1
      refine gx_icmp_ge C dL_isUnit_25 rfl (by unfold gx_3; omega) (by unfold gx_3; omega) (fun hb25 => absurd hb25 (by omega)) (fun hb25 => ?_)
      refine gx_iload_n C dL_isUnit_28 rfl ?_
      have all : ∀ {X : Nat → Prop}, (∀ j', j' < j + 1 → X j') ↔ (∀ j', j' < j → X j') ∧ X j := fun {X} => mx_all
      refine gx_if_eq C dL_isUnit_29 rfl (by unfold gx_3; omega) (fun hb29 => ?_) (fun hb29 => ?_)
      · refine gx_iconst C dL_isUnit_59 ?_
        refine gx_istore_n C dL_isUnit_60 (by decide) rfl ?_
        refine gx_iinc C dL_isUnit_61 (by decide) rfl rfl ?_
        refine gx_goto C dL_isUnit_64 rfl ?_
        refine nxt2 (0, P1) ⟨Or.inl rfl, ⟨fun h => absurd h (show ¬ (0 : Int) = 1 by decide), fun h => ?_⟩, hP1⟩
        have := hqi.mpr ⟨h.1, (all.mp h.2).1⟩
        exact absurd this (by show ¬ q = 1; omega)
      · have hq1 : q = 1 := by omega
        subst hq1
        refine gx_aload_n C dL_isUnit_32 rfl ?_
        refine gx_iload_n C dL_isUnit_33 rfl ?_
        refine gx_iload_n C dL_isUnit_34 rfl ?_
        refine gx_iload C dL_isUnit_35 rfl ?_
        refine gx_iload C dL_isUnit_37 rfl ?_
        refine gx_callI C 7 rfl (gd_12 gn_Hd) (c_X7_power gn_Hd hs hP1 (r := r) (k := k) (i := (i : Int)) (j := (j : Int)) (by unfold gx_3; omega) (by unfold gx_3; omega) (by unfold gx_3; omega) (by unfold gx_3; omega)) (cwV 4 (gx_hts C) gL_isUnit_X7_power rfl rfl rfl (by decide +kernel) ⟨Nat.le_of_ble_eq_true rfl, Nat.le_of_ble_eq_true rfl⟩) rfl rfl (Nat.le_of_ble_eq_true rfl) ⟨Nat.le_refl _, Nat.le_refl _⟩ dL_isUnit_39 (fun z2 P2 h2 => ?_)
        obtain ⟨h2, x2⟩ := h2
        have h2 := sp_pw_e h2 hr hk (by omega) (by omega)
        rw [Int.toNat_natCast, Int.toNat_natCast] at h2
        have hP2 := sd_XR hP1 x2
        have hz23 := sp_V3 hs hp (k := 3 * i + j) (by omega)
        rw [← h2] at hz23
        refine gx_aload_n C dL_isUnit_42 rfl ?_
        refine gx_bipush C dL_isUnit_43 rfl ?_
        refine gx_iload C dL_isUnit_45 rfl ?_
        refine gx_iload C dL_isUnit_47 rfl ?_
        refine gx_callI C 7 rfl (gd_12 gn_Hd) (c_X7_entry gn_Hd hs hP2 (r := 9) (i := (i : Int)) (j := (j : Int)) (by unfold gx_3; omega) (by unfold gx_3; omega) (by unfold gx_3; omega)) (cwV 3 (gx_hts C) gL_isUnit_X7_entry rfl rfl rfl (by decide +kernel) ⟨Nat.le_of_ble_eq_true rfl, Nat.le_of_ble_eq_true rfl⟩) rfl rfl (Nat.le_of_ble_eq_true rfl) ⟨Nat.le_refl _, Nat.le_refl _⟩ dL_isUnit_49 (fun z3 P3 h3 => ?_)
        obtain ⟨h3, rfl⟩ := h3
        have h3 := sp_en_e h3 (by omega) (by omega) (by omega)
        rw [Int.toNat_natCast, Int.toNat_natCast] at h3
        have h3 : z3 = zs_el s.1 9 (3 * i + j) := h3
        have hz33 := sp_V3 hs h9 (k := 3 * i + j) (by omega)
        rw [← h3] at hz33
        refine gx_icmp_ne C dL_isUnit_52 rfl hz23 hz33 (fun hb52 => ?_) (fun hb52 => ?_)
        · refine gx_iconst C dL_isUnit_59 ?_
          refine gx_istore_n C dL_isUnit_60 (by decide) rfl ?_
          refine gx_iinc C dL_isUnit_61 (by decide) rfl rfl ?_
          refine gx_goto C dL_isUnit_64 rfl ?_
          refine nxt2 (0, P3) ⟨Or.inl rfl, ⟨fun h => absurd h (show ¬ (0 : Int) = 1 by decide), fun h => ?_⟩, hP2⟩
          have := (all.mp h.2).2
          rw [← h2, ← h3] at this
          omega
        · refine gx_iconst C dL_isUnit_55 ?_
          refine gx_goto C dL_isUnit_56 rfl ?_
          refine gx_istore_n C dL_isUnit_60 (by decide) rfl ?_
          refine gx_iinc C dL_isUnit_61 (by decide) rfl rfl ?_
          refine gx_goto C dL_isUnit_64 rfl ?_
          refine nxt2 (1, P3) ⟨Or.inr rfl, ⟨fun _ => ⟨(hqi.mp rfl).1, all.mpr ⟨(hqi.mp rfl).2, ?_⟩⟩, fun _ => rfl⟩, hP2⟩
          rw [← h2, ← h3]
          omega
    · obtain ⟨q, P⟩ := a
      obtain ⟨hq, hqi, hP⟩ := hI
      refine gx_iload C dL_isUnit_18 rfl ?_
      refine gx_aload_n C dL_isUnit_20 rfl ?_
      refine gx_iconst C dL_isUnit_21 ?_
      refine gx_callI C 7 rfl (gd_12 gn_Hd) (c_X7_count gn_Hd hs hP (w := 0) (by unfold gx_3; omega)) (cwV 1 (gx_hts C) gL_isUnit_X7_count rfl rfl rfl (by decide +kernel) ⟨Nat.le_of_ble_eq_true rfl, Nat.le_of_ble_eq_true rfl⟩) rfl rfl (Nat.le_of_ble_eq_true rfl) ⟨Nat.le_refl _, Nat.le_refl _⟩ dL_isUnit_22 (fun z1 P1 h1 => ?_)
      obtain ⟨h1, x1⟩ := h1
      have hz1 : z1 = s.1 81 := h1
      subst hz1
      have hP1 := sd_XR hP x1
      refine gx_icmp_ge C dL_isUnit_25 rfl (by unfold gx_3; omega) (by unfold gx_3; omega) (fun hb25 => ?_) (fun hb25 => absurd (by omega) hb25)
      refine gx_iinc C dL_isUnit_67 (by decide) rfl rfl ?_
      refine gx_goto C dL_isUnit_70 rfl ?_
      refine gx_weak (L' := [gx_R 12, gx_I r, gx_I k, gx_I q, gx_I ((i + 1 : Nat) : Int), gx_U]) ⟨Or.inr rfl, Or.inr rfl, Or.inr rfl, Or.inr rfl, Or.inr rfl, Or.inl rfl, trivial⟩ ?_
      refine nxt (q, P1) ⟨hq, ⟨fun h i' j' hi' hj' => ?_, fun h => hqi.mpr ⟨fun i' j' a b => h i' j' (Nat.lt_succ_of_lt a) b, fun j' b => h i j' (Nat.lt_succ_self i) b⟩⟩, hP1⟩
      rcases (show i' < i ∨ i' = i by omega) with g | g
      · exact (hqi.mp h).1 i' j' g hj'
      · rw [g]
        exact (hqi.mp h).2 j' hj'
  · obtain ⟨q, P⟩ := a
    obtain ⟨hq, hqi, hP⟩ := hI
    refine gx_iload C dL_isUnit_5 rfl ?_
    refine gx_aload_n C dL_isUnit_7 rfl ?_
    refine gx_iconst C dL_isUnit_8 ?_
    refine gx_callI C 7 rfl (gd_12 gn_Hd) (c_X7_count gn_Hd hs hP (w := 0) (by unfold gx_3; omega)) (cwV 1 (gx_hts C) gL_isUnit_X7_count rfl rfl rfl (by decide +kernel) ⟨Nat.le_of_ble_eq_true rfl, Nat.le_of_ble_eq_true rfl⟩) rfl rfl (Nat.le_of_ble_eq_true rfl) ⟨Nat.le_refl _, Nat.le_refl _⟩ dL_isUnit_9 (fun z1 P1 h1 => ?_)
    obtain ⟨h1, x1⟩ := h1
    have hz1 : z1 = s.1 81 := h1
    subst hz1
    have hP1 := sd_XR hP x1
    refine gx_icmp_ge C dL_isUnit_12 rfl (by unfold gx_3; omega) (by unfold gx_3; omega) (fun hb12 => ?_) (fun hb12 => absurd (by omega) hb12)
    refine gx_iload_n C dL_isUnit_73 rfl ?_
    exact gx_zret C (by omega) dL_isUnit_74 ⟨hq, ⟨fun h => al_ext hp h9 (fun i j hi hj => hqi.mp h i j hi hj) hn, fun h => hqi.mpr (fun i j _ _ => congrFun h _)⟩, hP1⟩
