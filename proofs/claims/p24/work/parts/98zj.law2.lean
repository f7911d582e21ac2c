/-! THE LAW: its body -/
section LAW6
variable {p : Program} {l : Launch} {e : Env} {s : State} {m : MethodId} {args : Array Value} {below : List Frame} {meth : Method} {c : Code} {Q : State → Prop} {ret : Option FieldType} {D : va_G} {tc : Nat → ClassId} {ad : Nat → Nat} {A : Nat → Prop}
variable {b n : Nat} {xs : Nat → Int32}
set_option maxRecDepth 100000 in
set_option maxHeartbeats 16000000 in
theorem wl_body (C : gx_C p room_1 s m args meth c cL_law RL 8 wsL_law ret D tc ad gn_La A s.heap) (hX : va_X b n xs s s.heap) (hbl : b < s.heap.size) (hbA : ¬ A b) (had : ad 1000 = b) (hn : n ≤ 260) (hA : ∀ q, A q → s.heap.size ≤ q) (hfin : ∀ (pc : Nat), pc = 152 ∨ pc = 243 → ∀ (H : Heap) (ls : Array Slot), W p l e room_1 s m args below meth c H [] 262 2352 Q (F0 m pc ls [.int (gx_i 1)])) : gx_G p l e room_1 s m args below meth c 262 2352 Q 8 D tc ad gn_La A s.heap 8 [gx_R 1000, gx_R 12, gx_U, gx_U, gx_U, gx_U, gx_U, gx_U] [] gn_M0 := by
  have fin : ∀ (pc : Nat), pc = 152 ∨ pc = 243 → ∀ (L : List gx_V) (M : gx_M) (H : Heap) (locs : List Loc) (ls : Array Slot), va_P D vwCl (gx_w gn_La tc ad M) H → va_S A s.heap H locs → lv_has ls 8 (gx_l ad 0 L) → W p l e room_1 s m args below meth c H locs 262 2352 Q (F0 m pc ls ([gx_I 1].map (gx_T ad))) := fun pc hpc L M H locs ls hP hS hl => va_forget (fun q hq => hA _ (hS.2.2 q hq)) (hfin pc hpc H ls)
  refine gx_cut 36 (fun (_ : sp_S × gx_M) => [gx_R 1000, gx_R 12, gx_U, gx_U, gx_U, gx_U, gx_U, gx_U]) (fun _ => []) (fun a => a.2) (fun a => sp_ok a.1 ∧ sd_R a.1 a.2) (fun a ha => ?_) (fun at36 => ?_)
  · obtain ⟨s0, P0⟩ := a
    obtain ⟨ok0, R0⟩ := ha
    have ok0 : sp_ok s0 := ok0
    have R0 : sd_R s0 P0 := R0
    refine gx_aload_n C dL_law_36 rfl ?_
    refine gx_aload_n C dL_law_37 rfl ?_
    refine gy_statI C hX hbl hbA had (c_L_build (xs := xs) hn ok0 R0) (cwS 2 (gx_hts C) gL_law_L_build rfl rfl rfl (by decide +kernel) ⟨Nat.le_of_ble_eq_true rfl, Nat.le_of_ble_eq_true rfl⟩) rfl rfl (Nat.le_of_ble_eq_true rfl) ⟨Nat.le_of_ble_eq_true rfl, Nat.le_of_ble_eq_true rfl⟩ dL_law_38 (fun z1 P1 h1 => ?_)
    obtain ⟨rfl, s1, ok1, R1, hz1⟩ := h1
    refine gx_if_eq C dL_law_41 rfl (by unfold gx_3; omega) (fun hb41 => absurd hb41 (by omega)) (fun hb41 => ?_)
    refine gx_aload_n C dL_law_44 rfl ?_
    refine gx_statI C (c_L_equations ok1 R1) (cwS 1 (gx_hts C) gL_law_L_equations rfl rfl rfl (by decide +kernel) ⟨Nat.le_of_ble_eq_true rfl, Nat.le_of_ble_eq_true rfl⟩) rfl rfl (Nat.le_of_ble_eq_true rfl) ⟨Nat.le_of_ble_eq_true rfl, Nat.le_of_ble_eq_true rfl⟩ dL_law_45 (fun z2 P2 h2 => ?_)
    obtain ⟨rfl, R2⟩ := h2
    refine gx_if_eq C dL_law_48 rfl (by unfold gx_3; omega) (fun hb48 => absurd hb48 (by omega)) (fun hb48 => ?_)
    refine gx_aload_n C dL_law_51 rfl ?_
    refine gx_statI C (c_L_inverses (tk_7 ok1) R2) (cwS 1 (gx_hts C) gL_law_L_inverses rfl rfl rfl (by decide +kernel) ⟨Nat.le_of_ble_eq_true rfl, Nat.le_of_ble_eq_true rfl⟩) rfl rfl (Nat.le_of_ble_eq_true rfl) ⟨Nat.le_of_ble_eq_true rfl, Nat.le_of_ble_eq_true rfl⟩ dL_law_52 (fun z3 P3 h3 => ?_)
    obtain ⟨rfl, R3⟩ := h3
    have R3 : sd_R (st_tx s1 tx_10) P3 := R3
    refine gx_if_eq C dL_law_55 rfl (by unfold gx_3; omega) (fun hb55 => absurd hb55 (by omega)) (fun hb55 => ?_)
    refine gx_aload_n C dL_law_58 rfl ?_
    refine gx_statI C (c_L_powers (tk_10 ok1) R3) (cwS 1 (gx_hts C) gL_law_L_powers rfl rfl rfl (by decide +kernel) ⟨Nat.le_of_ble_eq_true rfl, Nat.le_of_ble_eq_true rfl⟩) rfl rfl (Nat.le_of_ble_eq_true rfl) ⟨Nat.le_of_ble_eq_true rfl, Nat.le_of_ble_eq_true rfl⟩ dL_law_59 (fun z4 P4 h4 => ?_)
    obtain ⟨rfl, R4⟩ := h4
    refine gx_if_eq C dL_law_62 rfl (by unfold gx_3; omega) (fun hb62 => absurd hb62 (by omega)) (fun hb62 => ?_)
    refine gx_aload_n C dL_law_65 rfl ?_
    refine gx_aload_n C dL_law_66 rfl ?_
    refine gx_iconst C dL_law_67 ?_
    refine gy_statI C hX hbl hbA had (c_L_cell hn (k := 5) (by omega)) (cwS 2 (gx_hts C) gL_law_L_cell rfl rfl rfl (by decide +kernel) ⟨Nat.le_of_ble_eq_true rfl, Nat.le_of_ble_eq_true rfl⟩) rfl rfl (Nat.le_of_ble_eq_true rfl) ⟨Nat.le_of_ble_eq_true rfl, Nat.le_of_ble_eq_true rfl⟩ dL_law_68 (fun g P5 h5 => ?_)
    obtain ⟨rfl, hg⟩ := h5
    refine gx_statI C (c_L_squares (tk_10 ok1) R4 hz1 hg) (cwS 2 (gx_hts C) gL_law_L_squares rfl rfl rfl (by decide +kernel) ⟨Nat.le_of_ble_eq_true rfl, Nat.le_of_ble_eq_true rfl⟩) rfl rfl (Nat.le_of_ble_eq_true rfl) ⟨Nat.le_of_ble_eq_true rfl, Nat.le_of_ble_eq_true rfl⟩ dL_law_71 (fun z5 P6 h6 => ?_)
    obtain ⟨rfl, s2, ok2, R6⟩ := h6
    refine gx_if_ne C dL_law_74 rfl (by unfold gx_3; omega) (fun hb74 => ?_) (fun hb74 => absurd (by omega) hb74)
    have hmm := zs_m ok2.1
    have hm4 := ok2.1.2.1
    have hn2 := ok2.1.1
    refine gx_aload_n C dL_law_79 rfl ?_
    refine gx_iconst C dL_law_80 ?_
    refine gx_iconst C dL_law_81 ?_
    refine gx_callI C 7 rfl (gd_12 gn_Hd) (c_X7_of gn_Hd ok2 R6 (r := 0) (w := 3) (by unfold gx_3; omega) (by unfold gx_3; omega)) (cwV 2 (gx_hts C) gL_law_X7_of rfl rfl rfl (by decide +kernel) ⟨Nat.le_of_ble_eq_true rfl, Nat.le_of_ble_eq_true rfl⟩) rfl rfl (Nat.le_of_ble_eq_true rfl) ⟨Nat.le_of_ble_eq_true rfl, Nat.le_of_ble_eq_true rfl⟩ dL_law_82 (fun z6 P7 h7 => ?_)
    obtain ⟨h7, x7⟩ := h7
    obtain ⟨h7, h7b⟩ := so_3 (by omega) h7
    have h7b : z6 = 1 ↔ zs_sq s2 (zs_el s2.1 0) := h7b
    have R7 := sd_XR R6 x7
    refine gx_iconst C dL_law_85 ?_
    refine gx_cut 117 (fun (_ : gx_M) => [gx_R 1000, gx_R 12, gx_U, gx_U, gx_U, gx_U, gx_U, gx_U]) (fun _ => [gx_I 1]) (fun a => a) (fun a => sd_R s2 a) (fun P8 R8 => ?_) (fun at117 => ?_)
    · refine gx_istore_n C dL_law_117 (by decide) rfl ?_
      refine gx_aload_n C dL_law_118 rfl ?_
      refine gx_iconst C dL_law_119 ?_
      refine gx_callI C 7 rfl (gd_12 gn_Hd) (c_X7_count gn_Hd ok2 R8 (w := 1) (by unfold gx_3; omega)) (cwV 1 (gx_hts C) gL_law_X7_count rfl rfl rfl (by decide +kernel) ⟨Nat.le_of_ble_eq_true rfl, Nat.le_of_ble_eq_true rfl⟩) rfl rfl (Nat.le_of_ble_eq_true rfl) ⟨Nat.le_of_ble_eq_true rfl, Nat.le_of_ble_eq_true rfl⟩ dL_law_120 (fun mv P9 h9 => ?_)
      obtain ⟨h9, x9⟩ := h9
      have h9 : mv = s2.1 82 := h9
      have R9 := sd_XR R8 x9
      refine gx_istore_n C dL_law_123 (by decide) rfl ?_
      refine gx_aload_n C dL_law_124 rfl ?_
      refine gx_iconst C dL_law_125 ?_
      refine gx_callI C 7 rfl (gd_12 gn_Hd) (c_X7_count gn_Hd ok2 R9 (w := 0) (by unfold gx_3; omega)) (cwV 1 (gx_hts C) gL_law_X7_count rfl rfl rfl (by decide +kernel) ⟨Nat.le_of_ble_eq_true rfl, Nat.le_of_ble_eq_true rfl⟩) rfl rfl (Nat.le_of_ble_eq_true rfl) ⟨Nat.le_of_ble_eq_true rfl, Nat.le_of_ble_eq_true rfl⟩ dL_law_126 (fun nv P10 h10 => ?_)
      obtain ⟨h10, x10⟩ := h10
      have h10 : nv = s2.1 81 := h10
      have R10 := sd_XR R9 x10
      refine gx_iconst C dL_law_129 ?_
      by_cases hs3 : nv = 3
      · refine gx_icmp_ne C dL_law_130 rfl (by unfold gx_3; omega) (by unfold gx_3; omega) (fun hb130 => absurd hb130 (by omega)) (fun hb130 => ?_)
        refine gx_iload_n C dL_law_133 rfl ?_
        refine gx_if_eq C dL_law_134 rfl (by unfold gx_3; omega) (fun hb134 => absurd hb134 (by omega)) (fun hb134 => ?_)
        refine gx_aload_n C dL_law_137 rfl ?_
        refine gx_iconst C dL_law_138 ?_
        refine gx_callI C 7 rfl (gd_12 gn_Hd) (c_X7_howMany gn_Hd ok2 R10 (w := 0) (by unfold gx_3; omega)) (cwV 1 (gx_hts C) gL_law_X7_howMany rfl rfl rfl (by decide +kernel) ⟨Nat.le_of_ble_eq_true rfl, Nat.le_of_ble_eq_true rfl⟩) rfl rfl (Nat.le_of_ble_eq_true rfl) ⟨Nat.le_of_ble_eq_true rfl, Nat.le_of_ble_eq_true rfl⟩ dL_law_139 (fun y0 P11 h11 => ?_)
        obtain ⟨h11, x11⟩ := h11
        have h11 : y0 = -5 := mn_3 (by omega) h11
        subst h11
        refine gx_bipush C dL_law_142 rfl ?_
        refine gx_icmp_ne C dL_law_144 rfl (by unfold gx_3; omega) (by unfold gx_3; omega) (fun hb144 => absurd hb144 (by omega)) (fun hb144 => ?_)
        refine gx_iconst C dL_law_147 ?_
        refine gx_goto C dL_law_148 rfl ?_
        exact fin 152 (Or.inl rfl) _ _
      · have hs2 : s2.1 81 = 2 := by omega
        refine gx_icmp_ne C dL_law_130 rfl (by unfold gx_3; omega) (by unfold gx_3; omega) (fun hb130 => ?_) (fun hb130 => absurd (by omega) hb130)
        refine gx_aload_n C dL_law_153 rfl ?_
        refine gx_iconst C dL_law_154 ?_
        refine gx_callI C 7 rfl (gd_12 gn_Hd) (c_X7_howMany gn_Hd ok2 R10 (w := 0) (by unfold gx_3; omega)) (cwV 1 (gx_hts C) gL_law_X7_howMany rfl rfl rfl (by decide +kernel) ⟨Nat.le_of_ble_eq_true rfl, Nat.le_of_ble_eq_true rfl⟩) rfl rfl (Nat.le_of_ble_eq_true rfl) ⟨Nat.le_of_ble_eq_true rfl, Nat.le_of_ble_eq_true rfl⟩ dL_law_155 (fun y0 P11 h11 => ?_)
        obtain ⟨h11, x11⟩ := h11
        have R11 := sd_XR R10 x11
        refine gx_istore C dL_law_158 (by decide) rfl ?_
        refine gx_aload_n C dL_law_160 rfl ?_
        refine gx_iconst C dL_law_161 ?_
        refine gx_callI C 7 rfl (gd_12 gn_Hd) (c_X7_howMany gn_Hd ok2 R11 (w := 1) (by unfold gx_3; omega)) (cwV 1 (gx_hts C) gL_law_X7_howMany rfl rfl rfl (by decide +kernel) ⟨Nat.le_of_ble_eq_true rfl, Nat.le_of_ble_eq_true rfl⟩) rfl rfl (Nat.le_of_ble_eq_true rfl) ⟨Nat.le_of_ble_eq_true rfl, Nat.le_of_ble_eq_true rfl⟩ dL_law_162 (fun y1 P12 h12 => ?_)
        obtain ⟨h12, x12⟩ := h12
        have R12 := sd_XR R11 x12
        refine gx_istore C dL_law_165 (by decide) rfl ?_
        refine gx_aload_n C dL_law_167 rfl ?_
        refine gx_iconst C dL_law_168 ?_
        refine gx_callI C 7 rfl (gd_12 gn_Hd) (c_X7_howMany gn_Hd ok2 R12 (w := 2) (by unfold gx_3; omega)) (cwV 1 (gx_hts C) gL_law_X7_howMany rfl rfl rfl (by decide +kernel) ⟨Nat.le_of_ble_eq_true rfl, Nat.le_of_ble_eq_true rfl⟩) rfl rfl (Nat.le_of_ble_eq_true rfl) ⟨Nat.le_of_ble_eq_true rfl, Nat.le_of_ble_eq_true rfl⟩ dL_law_169 (fun y2 P13 h13 => ?_)
        obtain ⟨h13, x13⟩ := h13
        have R13 := sd_XR R12 x13
        refine gx_istore C dL_law_172 (by decide) rfl ?_
        refine gx_aload_n C dL_law_174 rfl ?_
        refine gx_iconst C dL_law_175 ?_
        refine gx_callI C 7 rfl (gd_12 gn_Hd) (c_X7_howMany gn_Hd ok2 R13 (w := 3) (by unfold gx_3; omega)) (cwV 1 (gx_hts C) gL_law_X7_howMany rfl rfl rfl (by decide +kernel) ⟨Nat.le_of_ble_eq_true rfl, Nat.le_of_ble_eq_true rfl⟩) rfl rfl (Nat.le_of_ble_eq_true rfl) ⟨Nat.le_of_ble_eq_true rfl, Nat.le_of_ble_eq_true rfl⟩ dL_law_176 (fun y3 P14 h14 => ?_)
        obtain ⟨h14, x14⟩ := h14
        obtain ⟨m1, m2, m3, m4, m5, m6, m7, m8, m9⟩ := mn_all ok2 hs2 h11 h12 h13 h14
        rw [← h9] at m3 m4
        have hq : 0 ≤ mv * mv ∧ mv * mv ≤ 121 := by
          rw [h9]
          rcases hm4 with e | e | e | e <;> rw [e] <;> decide
        have hc3 : 0 ≤ mv * mv * mv ∧ mv * mv * mv ≤ 1331 := by
          rw [h9]
          rcases hm4 with e | e | e | e <;> rw [e] <;> decide
        have hm4' : gx_hid (_ ∨ _) := hm4
        have hn2' : gx_hid (_ ∨ _) := hn2
        clear hm4 hn2
        refine gx_istore C dL_law_179 (by decide) rfl ?_
        refine gx_iload_n C dL_law_181 rfl ?_
        refine gx_if_eq C dL_law_182 rfl (by unfold gx_3; omega) (fun hb182 => absurd hb182 (by omega)) (fun hb182 => ?_)
        refine gx_iload C dL_law_185 rfl ?_
        refine gx_iconst C dL_law_187 ?_
        refine gx_icmp_lt C dL_law_188 rfl (by unfold gx_3; omega) (by unfold gx_3; omega) (fun hb188 => absurd hb188 (by omega)) (fun hb188 => ?_)
        refine gx_iload C dL_law_191 rfl ?_
        refine gx_iload C dL_law_193 rfl ?_
        refine gx_icmp_ne C dL_law_195 rfl (by unfold gx_3; omega) (by unfold gx_3; omega) (fun hb195 => absurd hb195 (by omega)) (fun hb195 => ?_)
        refine gx_iload C dL_law_198 rfl ?_
        refine gx_iload C dL_law_200 rfl ?_
        refine gx_iadd C dL_law_202 ?_
        refine gx_iload_n C dL_law_203 rfl ?_
        refine gx_iload_n C dL_law_204 rfl ?_
        refine gx_imul C dL_law_205 ?_
        refine gx_iload_n C dL_law_206 rfl ?_
        refine gx_imul C dL_law_207 ?_
        refine gx_icmp_gt C dL_law_208 rfl (by unfold gx_3; omega) (by unfold gx_3; omega) (fun hb208 => absurd hb208 (by omega)) (fun hb208 => ?_)
        refine gx_iload C dL_law_211 rfl ?_
        refine gx_iload_n C dL_law_213 rfl ?_
        refine gx_iload_n C dL_law_214 rfl ?_
        refine gx_imul C dL_law_215 ?_
        refine gx_iload_n C dL_law_216 rfl ?_
        refine gx_imul C dL_law_217 ?_
        refine gx_iload_n C dL_law_218 rfl ?_
        refine gx_iload_n C dL_law_219 rfl ?_
        refine gx_imul C dL_law_220 ?_
        refine gx_isub C dL_law_221 ?_
        refine gx_icmp_ne C dL_law_222 rfl (by unfold gx_3; omega) (by unfold gx_3; omega) (fun hb222 => absurd hb222 (by omega)) (fun hb222 => ?_)
        refine gx_iload C dL_law_225 rfl ?_
        refine gx_iconst C dL_law_227 ?_
        refine gx_icmp_lt C dL_law_228 rfl (by unfold gx_3; omega) (by unfold gx_3; omega) (fun hb228 => absurd hb228 (by omega)) (fun hb228 => ?_)
        refine gx_iload C dL_law_231 rfl ?_
        refine gx_iload C dL_law_233 rfl ?_
        refine gx_icmp_gt C dL_law_235 rfl (by unfold gx_3; omega) (by unfold gx_3; omega) (fun hb235 => absurd hb235 (by omega)) (fun hb235 => ?_)
        refine gx_iconst C dL_law_238 ?_
        refine gx_goto C dL_law_239 rfl ?_
        exact fin 243 (Or.inr rfl) _ _
    · by_cases hsq : zs_sq s2 (zs_el s2.1 0)
      · have hz6 : z6 = 1 := h7b.mpr hsq
        subst hz6
        refine gx_icmp_eq C dL_law_86 rfl (by unfold gx_3; omega) (by unfold gx_3; omega) (fun hb86 => ?_) (fun hb86 => absurd (by omega) hb86)
        refine gx_iconst C dL_law_112 ?_
        refine gx_goto C dL_law_113 rfl ?_
        exact at117 P7 R7
      · have hz6 : z6 = 0 := Or.resolve_right h7 (fun q => hsq (h7b.mp q))
        subst hz6
        refine gx_icmp_eq C dL_law_86 rfl (by unfold gx_3; omega) (by unfold gx_3; omega) (fun hb86 => absurd hb86 (by omega)) (fun hb86 => ?_)
        refine gx_aload_n C dL_law_89 rfl ?_
        refine gx_iconst C dL_law_90 ?_
        refine gx_iconst C dL_law_91 ?_
        refine gx_iconst C dL_law_92 ?_
        refine gx_callI C 7 rfl (gd_12 gn_Hd) (c_X7_split gn_Hd ok2 R7 (a := 0) (b := 1) (t := 2) (by unfold gx_3; omega) (by unfold gx_3; omega) (by unfold gx_3; omega)) (cwV 3 (gx_hts C) gL_law_X7_split rfl rfl rfl (by decide +kernel) ⟨Nat.le_of_ble_eq_true rfl, Nat.le_of_ble_eq_true rfl⟩) rfl rfl (Nat.le_of_ble_eq_true rfl) ⟨Nat.le_of_ble_eq_true rfl, Nat.le_of_ble_eq_true rfl⟩ dL_law_93 (fun y P8 h8 => ?_)
        obtain ⟨s3, h8, R8, -⟩ := h8
        unfold sp_split at h8
        rw [if_pos (by omega)] at h8
        obtain ⟨rfl, rfl⟩ := h8.2 hsq
        refine gx_bipush C dL_law_96 rfl ?_
        refine gx_icmp_ne C dL_law_98 rfl (by unfold gx_3; omega) (by unfold gx_3; omega) (fun hb98 => absurd hb98 (by omega)) (fun hb98 => ?_)
        refine gx_aload_n C dL_law_101 rfl ?_
        refine gx_iconst C dL_law_102 ?_
        refine gx_iconst C dL_law_103 ?_
        refine gx_callI C 7 rfl (gd_12 gn_Hd) (c_X7_partSize gn_Hd ok2 R8 (r := 0) (w := 1) (by unfold gx_3; omega) (by unfold gx_3; omega)) (cwV 2 (gx_hts C) gL_law_X7_partSize rfl rfl rfl (by decide +kernel) ⟨Nat.le_of_ble_eq_true rfl, Nat.le_of_ble_eq_true rfl⟩) rfl rfl (Nat.le_of_ble_eq_true rfl) ⟨Nat.le_of_ble_eq_true rfl, Nat.le_of_ble_eq_true rfl⟩ dL_law_104 (fun y2 P9 h9 => ?_)
        obtain ⟨h9, x9⟩ := h9
        unfold sp_psize at h9
        rw [if_pos (by omega), if_pos (by omega)] at h9
        have h9 := h9.2 hsq
        subst h9
        have R9 := sd_XR R8 x9
        refine gx_bipush C dL_law_107 rfl ?_
        refine gx_icmp_ne C dL_law_109 rfl (by unfold gx_3; omega) (by unfold gx_3; omega) (fun hb109 => absurd hb109 (by omega)) (fun hb109 => ?_)
        refine gx_iconst C dL_law_112 ?_
        refine gx_goto C dL_law_113 rfl ?_
        exact at117 P9 R9
  · refine gx_aload_n C dL_law_8 rfl ?_
    refine gx_bipush C dL_law_9 rfl ?_
    refine gy_statI C hX hbl hbA had (c_L_cell hn (k := 6) (by omega)) (cwS 2 (gx_hts C) gL_law_L_cell rfl rfl rfl (by decide +kernel) ⟨Nat.le_of_ble_eq_true rfl, Nat.le_of_ble_eq_true rfl⟩) rfl rfl (Nat.le_of_ble_eq_true rfl) ⟨Nat.le_of_ble_eq_true rfl, Nat.le_of_ble_eq_true rfl⟩ dL_law_11 (fun g P1 h1 => ?_)
    obtain ⟨rfl, hg⟩ := h1
    refine gx_iconst C dL_law_14 ?_
    refine gx_statI C (c_L_low hg (n := 2) (by omega)) (cwS 2 (gx_hts C) gL_law_L_low rfl rfl rfl (by decide +kernel) ⟨Nat.le_of_ble_eq_true rfl, Nat.le_of_ble_eq_true rfl⟩) rfl rfl (Nat.le_of_ble_eq_true rfl) ⟨Nat.le_of_ble_eq_true rfl, Nat.le_of_ble_eq_true rfl⟩ dL_law_15 (fun z P2 h2 => ?_)
    obtain ⟨rfl, z0, z1⟩ := h2
    refine gx_if_ne C dL_law_18 rfl (by unfold gx_3; omega) (fun hb18 => ?_) (fun hb18 => ?_)
    · exact at36 (sp_0, gn_M0) ⟨sp_0ok, sd_0⟩
    · refine gx_aload_n C dL_law_21 rfl ?_
      refine gx_aload_n C dL_law_22 rfl ?_
      refine gx_bipush C dL_law_23 rfl ?_
      refine gy_statI C hX hbl hbA had (c_L_cell hn (k := 7) (by omega)) (cwS 2 (gx_hts C) gL_law_L_cell rfl rfl rfl (by decide +kernel) ⟨Nat.le_of_ble_eq_true rfl, Nat.le_of_ble_eq_true rfl⟩) rfl rfl (Nat.le_of_ble_eq_true rfl) ⟨Nat.le_of_ble_eq_true rfl, Nat.le_of_ble_eq_true rfl⟩ dL_law_25 (fun g2 P3 h3 => ?_)
      obtain ⟨rfl, hg2⟩ := h3
      refine gx_statI C (c_L_before sp_0ok sd_0 rfl hg2) (cwS 2 (gx_hts C) gL_law_L_before rfl rfl rfl (by decide +kernel) ⟨Nat.le_of_ble_eq_true rfl, Nat.le_of_ble_eq_true rfl⟩) rfl rfl (Nat.le_of_ble_eq_true rfl) ⟨Nat.le_of_ble_eq_true rfl, Nat.le_of_ble_eq_true rfl⟩ dL_law_28 (fun z3 P4 h4 => ?_)
      obtain ⟨rfl, s1, ok1, R1⟩ := h4
      refine gx_if_ne C dL_law_31 rfl (by unfold gx_3; omega) (fun hb31 => ?_) (fun hb31 => absurd (by omega) hb31)
      exact at36 (s1, P4) ⟨ok1, R1⟩
end LAW6
