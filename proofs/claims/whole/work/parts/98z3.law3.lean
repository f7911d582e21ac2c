/-! THE LAW: the loop over the script -/
theorem wl_c78 : Cond.constantLong RL 78 (4294967295) ∈ wsL_law := by decide +kernel
section LAW4
variable {p : Program} {l : Launch} {e : Env} {s : State} {m : MethodId} {args : Array Value} {below : List Frame} {meth : Method} {c : Code} {cells slots : Nat} {Q : State → Prop} {ret : Option FieldType} {D : va_G} {tc : Nat → ClassId} {ad : Nat → Nat} {A : Nat → Prop}
variable {b n : Nat} {xs : Nat → Int32}
set_option maxRecDepth 100000 in
theorem wl_op0 (C : gx_C p room_1 s m args meth c cL_law RL 4 wsL_law ret D tc ad gn_La A s.heap) (hX : va_X b n xs s s.heap) (hbl : b < s.heap.size) (hbA : ¬ A b) (had : ad 1000 = b) (hn : n ≤ 2560) {i : Nat} (hi : i + 5 ≤ n) {st : sp_S} {M : gx_M} (hs : sp_ok st) (hd : sd_R st M) (hm : sm_R st M) (nxt : ∀ st' M', sp_ok st' → sd_R st' M' → sm_R st' M' → gx_G p l e room_1 s m args below meth c 274 5453 Q 4 D tc ad gn_La A s.heap 755 [gx_R 1000, gx_R 12, gx_R 0, gx_I (i : Int)] [] M') : gx_G p l e room_1 s m args below meth c 274 5453 Q 4 D tc ad gn_La A s.heap 132 [gx_R 1000, gx_R 12, gx_R 0, gx_I (i : Int)] [] M := by
  refine gx_aload_n C dL_law_132 rfl ?_
  refine gx_aload_n C dL_law_133 rfl ?_
  refine gx_iload_n C dL_law_134 rfl ?_
  refine gx_iconst C dL_law_135 ?_
  refine gx_iadd C dL_law_136 ?_
  refine gl_ld C hX hbl hbA had (by omega) dL_law_137 ?_
  refine gx_aload_n C dL_law_138 rfl ?_
  refine gx_iload_n C dL_law_139 rfl ?_
  refine gx_iconst C dL_law_140 ?_
  refine gx_iadd C dL_law_141 ?_
  refine gl_ld C hX hbl hbA had (by omega) dL_law_142 ?_
  refine gx_callI C 7 rfl (gd_12 gn_Hd) (c_X7_begin gn_Hd hs hd (wl_3 (xs ((i : Int) + 1).toNat)) (wl_3 (xs ((i : Int) + 2).toNat))) (cwV 2 (gx_hts C) gL_law_X7_begin rfl rfl rfl (by decide +kernel) ⟨Nat.le_of_ble_eq_true rfl, Nat.le_of_ble_eq_true rfl⟩) rfl rfl (Nat.le_of_ble_eq_true rfl) ⟨Nat.le_of_ble_eq_true rfl, Nat.le_of_ble_eq_true rfl⟩ dL_law_143 (fun z1 M1 h1 => ?_)
  obtain ⟨s1, u1, q1, f1⟩ := h1
  refine gx_aload_n C dL_law_146 rfl ?_
  refine gx_aload_n C dL_law_147 rfl ?_
  refine gx_iload_n C dL_law_148 rfl ?_
  refine gx_iconst C dL_law_149 ?_
  refine gx_iadd C dL_law_150 ?_
  refine gl_ld C hX hbl hbA had (by omega) dL_law_151 ?_
  refine gx_aload_n C dL_law_152 rfl ?_
  refine gx_iload_n C dL_law_153 rfl ?_
  refine gx_iconst C dL_law_154 ?_
  refine gx_iadd C dL_law_155 ?_
  refine gl_ld C hX hbl hbA had (by omega) dL_law_156 ?_
  refine gx_callI C 8 rfl (gm_0 gn_Hm) (c_X8_begin gn_Hm hs (sm_Rf f1 hm) (wl_3 (xs ((i : Int) + 1).toNat)) (wl_3 (xs ((i : Int) + 2).toNat))) (cwV 2 (gx_hts C) gL_law_X8_begin rfl rfl rfl (by decide +kernel) ⟨Nat.le_of_ble_eq_true rfl, Nat.le_of_ble_eq_true rfl⟩) rfl rfl (Nat.le_of_ble_eq_true rfl) ⟨Nat.le_of_ble_eq_true rfl, Nat.le_of_ble_eq_true rfl⟩ dL_law_157 (fun z2 M2 h2 => ?_)
  obtain ⟨s2, u2, q2, f2⟩ := h2
  obtain ⟨rfl, rfl⟩ := sp_begin_u u1 u2
  exact gx_eqT C dL_law_160 rfl (nxt s1 M2 (sp_begin_ok hs u1) (sd_Rf f2 q1) q2)
set_option maxRecDepth 100000 in
theorem wl_op1 (C : gx_C p room_1 s m args meth c cL_law RL 4 wsL_law ret D tc ad gn_La A s.heap) (hX : va_X b n xs s s.heap) (hbl : b < s.heap.size) (hbA : ¬ A b) (had : ad 1000 = b) (hn : n ≤ 2560) {i : Nat} (hi : i + 5 ≤ n) {st : sp_S} {M : gx_M} (hs : sp_ok st) (hd : sd_R st M) (hm : sm_R st M) (nxt : ∀ st' M', sp_ok st' → sd_R st' M' → sm_R st' M' → gx_G p l e room_1 s m args below meth c 274 5453 Q 4 D tc ad gn_La A s.heap 755 [gx_R 1000, gx_R 12, gx_R 0, gx_I (i : Int)] [] M') : gx_G p l e room_1 s m args below meth c 274 5453 Q 4 D tc ad gn_La A s.heap 165 [gx_R 1000, gx_R 12, gx_R 0, gx_I (i : Int)] [] M := by
  refine gx_aload_n C dL_law_165 rfl ?_
  refine gx_aload_n C dL_law_166 rfl ?_
  refine gx_iload_n C dL_law_167 rfl ?_
  refine gx_iconst C dL_law_168 ?_
  refine gx_iadd C dL_law_169 ?_
  refine gl_ld C hX hbl hbA had (by omega) dL_law_170 ?_
  refine gx_aload_n C dL_law_171 rfl ?_
  refine gx_iload_n C dL_law_172 rfl ?_
  refine gx_iconst C dL_law_173 ?_
  refine gx_iadd C dL_law_174 ?_
  refine gl_ld C hX hbl hbA had (by omega) dL_law_175 ?_
  refine gx_aload_n C dL_law_176 rfl ?_
  refine gx_iload_n C dL_law_177 rfl ?_
  refine gx_iconst C dL_law_178 ?_
  refine gx_iadd C dL_law_179 ?_
  refine gl_ld C hX hbl hbA had (by omega) dL_law_180 ?_
  refine gx_aload_n C dL_law_181 rfl ?_
  refine gx_iload_n C dL_law_182 rfl ?_
  refine gx_iconst C dL_law_183 ?_
  refine gx_iadd C dL_law_184 ?_
  refine gl_ld C hX hbl hbA had (by omega) dL_law_185 ?_
  refine gx_callI C 7 rfl (gd_12 gn_Hd) (c_X7_set gn_Hd hs hd (wl_3 (xs ((i : Int) + 1).toNat)) (wl_3 (xs ((i : Int) + 2).toNat)) (wl_3 (xs ((i : Int) + 3).toNat)) (wl_3 (xs ((i : Int) + 4).toNat))) (cwV 4 (gx_hts C) gL_law_X7_set rfl rfl rfl (by decide +kernel) ⟨Nat.le_of_ble_eq_true rfl, Nat.le_of_ble_eq_true rfl⟩) rfl rfl (Nat.le_of_ble_eq_true rfl) ⟨Nat.le_of_ble_eq_true rfl, Nat.le_of_ble_eq_true rfl⟩ dL_law_186 (fun z1 M1 h1 => ?_)
  obtain ⟨s1, u1, q1, f1⟩ := h1
  refine gx_aload_n C dL_law_189 rfl ?_
  refine gx_aload_n C dL_law_190 rfl ?_
  refine gx_iload_n C dL_law_191 rfl ?_
  refine gx_iconst C dL_law_192 ?_
  refine gx_iadd C dL_law_193 ?_
  refine gl_ld C hX hbl hbA had (by omega) dL_law_194 ?_
  refine gx_aload_n C dL_law_195 rfl ?_
  refine gx_iload_n C dL_law_196 rfl ?_
  refine gx_iconst C dL_law_197 ?_
  refine gx_iadd C dL_law_198 ?_
  refine gl_ld C hX hbl hbA had (by omega) dL_law_199 ?_
  refine gx_aload_n C dL_law_200 rfl ?_
  refine gx_iload_n C dL_law_201 rfl ?_
  refine gx_iconst C dL_law_202 ?_
  refine gx_iadd C dL_law_203 ?_
  refine gl_ld C hX hbl hbA had (by omega) dL_law_204 ?_
  refine gx_aload_n C dL_law_205 rfl ?_
  refine gx_iload_n C dL_law_206 rfl ?_
  refine gx_iconst C dL_law_207 ?_
  refine gx_iadd C dL_law_208 ?_
  refine gl_ld C hX hbl hbA had (by omega) dL_law_209 ?_
  refine gx_callI C 8 rfl (gm_0 gn_Hm) (c_X8_set gn_Hm hs (sm_Rf f1 hm) (wl_3 (xs ((i : Int) + 1).toNat)) (wl_3 (xs ((i : Int) + 2).toNat)) (wl_3 (xs ((i : Int) + 3).toNat)) (wl_3 (xs ((i : Int) + 4).toNat))) (cwV 4 (gx_hts C) gL_law_X8_set rfl rfl rfl (by decide +kernel) ⟨Nat.le_of_ble_eq_true rfl, Nat.le_of_ble_eq_true rfl⟩) rfl rfl (Nat.le_of_ble_eq_true rfl) ⟨Nat.le_of_ble_eq_true rfl, Nat.le_of_ble_eq_true rfl⟩ dL_law_210 (fun z2 M2 h2 => ?_)
  obtain ⟨s2, u2, q2, f2⟩ := h2
  obtain ⟨rfl, rfl⟩ := sp_set_u u1 u2
  exact gx_eqT C dL_law_213 rfl (nxt s1 M2 (sp_set_ok hs u1) (sd_Rf f2 q1) q2)
set_option maxRecDepth 100000 in
theorem wl_op2 (C : gx_C p room_1 s m args meth c cL_law RL 4 wsL_law ret D tc ad gn_La A s.heap) (hX : va_X b n xs s s.heap) (hbl : b < s.heap.size) (hbA : ¬ A b) (had : ad 1000 = b) (hn : n ≤ 2560) {i : Nat} (hi : i + 5 ≤ n) {st : sp_S} {M : gx_M} (hs : sp_ok st) (hd : sd_R st M) (hm : sm_R st M) (nxt : ∀ st' M', sp_ok st' → sd_R st' M' → sm_R st' M' → gx_G p l e room_1 s m args below meth c 274 5453 Q 4 D tc ad gn_La A s.heap 755 [gx_R 1000, gx_R 12, gx_R 0, gx_I (i : Int)] [] M') : gx_G p l e room_1 s m args below meth c 274 5453 Q 4 D tc ad gn_La A s.heap 218 [gx_R 1000, gx_R 12, gx_R 0, gx_I (i : Int)] [] M := by
  refine gx_aload_n C dL_law_218 rfl ?_
  refine gx_aload_n C dL_law_219 rfl ?_
  refine gx_iload_n C dL_law_220 rfl ?_
  refine gx_iconst C dL_law_221 ?_
  refine gx_iadd C dL_law_222 ?_
  refine gl_ld C hX hbl hbA had (by omega) dL_law_223 ?_
  refine gx_callI C 7 rfl (gd_12 gn_Hd) (c_X7_base gn_Hd hs hd (wl_3 (xs ((i : Int) + 1).toNat))) (cwV 1 (gx_hts C) gL_law_X7_base rfl rfl rfl (by decide +kernel) ⟨Nat.le_of_ble_eq_true rfl, Nat.le_of_ble_eq_true rfl⟩) rfl rfl (Nat.le_of_ble_eq_true rfl) ⟨Nat.le_of_ble_eq_true rfl, Nat.le_of_ble_eq_true rfl⟩ dL_law_224 (fun z1 M1 h1 => ?_)
  obtain ⟨s1, u1, q1, f1⟩ := h1
  refine gx_aload_n C dL_law_227 rfl ?_
  refine gx_aload_n C dL_law_228 rfl ?_
  refine gx_iload_n C dL_law_229 rfl ?_
  refine gx_iconst C dL_law_230 ?_
  refine gx_iadd C dL_law_231 ?_
  refine gl_ld C hX hbl hbA had (by omega) dL_law_232 ?_
  refine gx_callI C 8 rfl (gm_0 gn_Hm) (c_X8_base gn_Hm hs (sm_Rf f1 hm) (wl_3 (xs ((i : Int) + 1).toNat))) (cwV 1 (gx_hts C) gL_law_X8_base rfl rfl rfl (by decide +kernel) ⟨Nat.le_of_ble_eq_true rfl, Nat.le_of_ble_eq_true rfl⟩) rfl rfl (Nat.le_of_ble_eq_true rfl) ⟨Nat.le_of_ble_eq_true rfl, Nat.le_of_ble_eq_true rfl⟩ dL_law_233 (fun z2 M2 h2 => ?_)
  obtain ⟨s2, u2, q2, f2⟩ := h2
  obtain ⟨rfl, rfl⟩ := sp_base_u u1 u2
  exact gx_eqT C dL_law_236 rfl (nxt s1 M2 (sp_base_ok hs u1) (sd_Rf f2 q1) q2)
set_option maxRecDepth 100000 in
theorem wl_op3 (C : gx_C p room_1 s m args meth c cL_law RL 4 wsL_law ret D tc ad gn_La A s.heap) (hX : va_X b n xs s s.heap) (hbl : b < s.heap.size) (hbA : ¬ A b) (had : ad 1000 = b) (hn : n ≤ 2560) {i : Nat} (hi : i + 5 ≤ n) {st : sp_S} {M : gx_M} (hs : sp_ok st) (hd : sd_R st M) (hm : sm_R st M) (nxt : ∀ st' M', sp_ok st' → sd_R st' M' → sm_R st' M' → gx_G p l e room_1 s m args below meth c 274 5453 Q 4 D tc ad gn_La A s.heap 755 [gx_R 1000, gx_R 12, gx_R 0, gx_I (i : Int)] [] M') : gx_G p l e room_1 s m args below meth c 274 5453 Q 4 D tc ad gn_La A s.heap 241 [gx_R 1000, gx_R 12, gx_R 0, gx_I (i : Int)] [] M := by
  refine gx_aload_n C dL_law_241 rfl ?_
  refine gx_aload_n C dL_law_242 rfl ?_
  refine gx_iload_n C dL_law_243 rfl ?_
  refine gx_iconst C dL_law_244 ?_
  refine gx_iadd C dL_law_245 ?_
  refine gl_ld C hX hbl hbA had (by omega) dL_law_246 ?_
  refine gx_aload_n C dL_law_247 rfl ?_
  refine gx_iload_n C dL_law_248 rfl ?_
  refine gx_iconst C dL_law_249 ?_
  refine gx_iadd C dL_law_250 ?_
  refine gl_ld C hX hbl hbA had (by omega) dL_law_251 ?_
  refine gx_aload_n C dL_law_252 rfl ?_
  refine gx_iload_n C dL_law_253 rfl ?_
  refine gx_iconst C dL_law_254 ?_
  refine gx_iadd C dL_law_255 ?_
  refine gl_ld C hX hbl hbA had (by omega) dL_law_256 ?_
  refine gx_callI C 7 rfl (gd_12 gn_Hd) (c_X7_split gn_Hd hs hd (wl_3 (xs ((i : Int) + 1).toNat)) (wl_3 (xs ((i : Int) + 2).toNat)) (wl_3 (xs ((i : Int) + 3).toNat))) (cwV 3 (gx_hts C) gL_law_X7_split rfl rfl rfl (by decide +kernel) ⟨Nat.le_of_ble_eq_true rfl, Nat.le_of_ble_eq_true rfl⟩) rfl rfl (Nat.le_of_ble_eq_true rfl) ⟨Nat.le_of_ble_eq_true rfl, Nat.le_of_ble_eq_true rfl⟩ dL_law_257 (fun z1 M1 h1 => ?_)
  obtain ⟨s1, u1, q1, f1⟩ := h1
  refine gx_aload_n C dL_law_260 rfl ?_
  refine gx_aload_n C dL_law_261 rfl ?_
  refine gx_iload_n C dL_law_262 rfl ?_
  refine gx_iconst C dL_law_263 ?_
  refine gx_iadd C dL_law_264 ?_
  refine gl_ld C hX hbl hbA had (by omega) dL_law_265 ?_
  refine gx_aload_n C dL_law_266 rfl ?_
  refine gx_iload_n C dL_law_267 rfl ?_
  refine gx_iconst C dL_law_268 ?_
  refine gx_iadd C dL_law_269 ?_
  refine gl_ld C hX hbl hbA had (by omega) dL_law_270 ?_
  refine gx_aload_n C dL_law_271 rfl ?_
  refine gx_iload_n C dL_law_272 rfl ?_
  refine gx_iconst C dL_law_273 ?_
  refine gx_iadd C dL_law_274 ?_
  refine gl_ld C hX hbl hbA had (by omega) dL_law_275 ?_
  refine gx_callI C 8 rfl (gm_0 gn_Hm) (c_X8_split gn_Hm hs (sm_Rf f1 hm) (wl_3 (xs ((i : Int) + 1).toNat)) (wl_3 (xs ((i : Int) + 2).toNat)) (wl_3 (xs ((i : Int) + 3).toNat))) (cwV 3 (gx_hts C) gL_law_X8_split rfl rfl rfl (by decide +kernel) ⟨Nat.le_of_ble_eq_true rfl, Nat.le_of_ble_eq_true rfl⟩) rfl rfl (Nat.le_of_ble_eq_true rfl) ⟨Nat.le_of_ble_eq_true rfl, Nat.le_of_ble_eq_true rfl⟩ dL_law_276 (fun z2 M2 h2 => ?_)
  obtain ⟨s2, u2, q2, f2⟩ := h2
  obtain ⟨rfl, rfl⟩ := sp_split_u u1 u2
  exact gx_eqT C dL_law_279 rfl (nxt s1 M2 (sp_split_ok hs u1) (sd_Rf f2 q1) q2)
set_option maxRecDepth 100000 in
theorem wl_op4 (C : gx_C p room_1 s m args meth c cL_law RL 4 wsL_law ret D tc ad gn_La A s.heap) (hX : va_X b n xs s s.heap) (hbl : b < s.heap.size) (hbA : ¬ A b) (had : ad 1000 = b) (hn : n ≤ 2560) {i : Nat} (hi : i + 5 ≤ n) {st : sp_S} {M : gx_M} (hs : sp_ok st) (hd : sd_R st M) (hm : sm_R st M) (nxt : ∀ st' M', sp_ok st' → sd_R st' M' → sm_R st' M' → gx_G p l e room_1 s m args below meth c 274 5453 Q 4 D tc ad gn_La A s.heap 755 [gx_R 1000, gx_R 12, gx_R 0, gx_I (i : Int)] [] M') : gx_G p l e room_1 s m args below meth c 274 5453 Q 4 D tc ad gn_La A s.heap 284 [gx_R 1000, gx_R 12, gx_R 0, gx_I (i : Int)] [] M := by
  refine gx_aload_n C dL_law_284 rfl ?_
  refine gx_callI C 7 rfl (gd_12 gn_Hd) (c_X7_run gn_Hd hs hd) (cwV 0 (gx_hts C) gL_law_X7_run rfl rfl rfl (by decide +kernel) ⟨Nat.le_of_ble_eq_true rfl, Nat.le_of_ble_eq_true rfl⟩) rfl rfl (Nat.le_of_ble_eq_true rfl) ⟨Nat.le_of_ble_eq_true rfl, Nat.le_of_ble_eq_true rfl⟩ dL_law_285 (fun z1 M1 h1 => ?_)
  obtain ⟨s1, u1, ok1, q1, f1⟩ := h1
  refine gx_aload_n C dL_law_288 rfl ?_
  refine gx_callI C 8 rfl (gm_0 gn_Hm) (c_X8_run gn_Hm hs (sm_Rf f1 hm)) (cwV 0 (gx_hts C) gL_law_X8_run rfl rfl rfl (by decide +kernel) ⟨Nat.le_of_ble_eq_true rfl, Nat.le_of_ble_eq_true rfl⟩) rfl rfl (Nat.le_of_ble_eq_true rfl) ⟨Nat.le_of_ble_eq_true rfl, Nat.le_of_ble_eq_true rfl⟩ dL_law_289 (fun z2 M2 h2 => ?_)
  obtain ⟨s2, u2, q2, f2⟩ := h2
  obtain ⟨rfl, rfl⟩ := sp_run_u u1 u2
  exact gx_eqT C dL_law_292 rfl (nxt s1 M2 ok1 (sd_Rf f2 q1) q2)
set_option maxRecDepth 100000 in
theorem wl_op5 (C : gx_C p room_1 s m args meth c cL_law RL 4 wsL_law ret D tc ad gn_La A s.heap) (hX : va_X b n xs s s.heap) (hbl : b < s.heap.size) (hbA : ¬ A b) (had : ad 1000 = b) (hn : n ≤ 2560) {i : Nat} (hi : i + 5 ≤ n) {st : sp_S} {M : gx_M} (hs : sp_ok st) (hd : sd_R st M) (hm : sm_R st M) (nxt : ∀ st' M', sp_ok st' → sd_R st' M' → sm_R st' M' → gx_G p l e room_1 s m args below meth c 274 5453 Q 4 D tc ad gn_La A s.heap 755 [gx_R 1000, gx_R 12, gx_R 0, gx_I (i : Int)] [] M') : gx_G p l e room_1 s m args below meth c 274 5453 Q 4 D tc ad gn_La A s.heap 297 [gx_R 1000, gx_R 12, gx_R 0, gx_I (i : Int)] [] M := by
  refine gx_aload_n C dL_law_297 rfl ?_
  refine gx_aload_n C dL_law_298 rfl ?_
  refine gx_iload_n C dL_law_299 rfl ?_
  refine gx_iconst C dL_law_300 ?_
  refine gx_iadd C dL_law_301 ?_
  refine gl_ld C hX hbl hbA had (by omega) dL_law_302 ?_
  refine gx_aload_n C dL_law_303 rfl ?_
  refine gx_iload_n C dL_law_304 rfl ?_
  refine gx_iconst C dL_law_305 ?_
  refine gx_iadd C dL_law_306 ?_
  refine gl_ld C hX hbl hbA had (by omega) dL_law_307 ?_
  refine gx_aload_n C dL_law_308 rfl ?_
  refine gx_iload_n C dL_law_309 rfl ?_
  refine gx_iconst C dL_law_310 ?_
  refine gx_iadd C dL_law_311 ?_
  refine gl_ld C hX hbl hbA had (by omega) dL_law_312 ?_
  refine gx_callI C 7 rfl (gd_12 gn_Hd) (c_X7_entry gn_Hd hs hd (wl_3 (xs ((i : Int) + 1).toNat)) (wl_3 (xs ((i : Int) + 2).toNat)) (wl_3 (xs ((i : Int) + 3).toNat))) (cwV 3 (gx_hts C) gL_law_X7_entry rfl rfl rfl (by decide +kernel) ⟨Nat.le_of_ble_eq_true rfl, Nat.le_of_ble_eq_true rfl⟩) rfl rfl (Nat.le_of_ble_eq_true rfl) ⟨Nat.le_of_ble_eq_true rfl, Nat.le_of_ble_eq_true rfl⟩ dL_law_313 (fun z1 M1 h1 => ?_)
  obtain ⟨u1, e1⟩ := h1
  have q1 : sd_R st M1 := by rw [e1]; exact hd
  have f1 : ∀ c, c < 12 → M1 c = M c := fun c _ => by rw [e1]
  refine gx_aload_n C dL_law_316 rfl ?_
  refine gx_aload_n C dL_law_317 rfl ?_
  refine gx_iload_n C dL_law_318 rfl ?_
  refine gx_iconst C dL_law_319 ?_
  refine gx_iadd C dL_law_320 ?_
  refine gl_ld C hX hbl hbA had (by omega) dL_law_321 ?_
  refine gx_aload_n C dL_law_322 rfl ?_
  refine gx_iload_n C dL_law_323 rfl ?_
  refine gx_iconst C dL_law_324 ?_
  refine gx_iadd C dL_law_325 ?_
  refine gl_ld C hX hbl hbA had (by omega) dL_law_326 ?_
  refine gx_aload_n C dL_law_327 rfl ?_
  refine gx_iload_n C dL_law_328 rfl ?_
  refine gx_iconst C dL_law_329 ?_
  refine gx_iadd C dL_law_330 ?_
  refine gl_ld C hX hbl hbA had (by omega) dL_law_331 ?_
  refine gx_callI C 8 rfl (gm_0 gn_Hm) (c_X8_entry gn_Hm hs (sm_Rf f1 hm) (wl_3 (xs ((i : Int) + 1).toNat)) (wl_3 (xs ((i : Int) + 2).toNat)) (wl_3 (xs ((i : Int) + 3).toNat))) (cwV 3 (gx_hts C) gL_law_X8_entry rfl rfl rfl (by decide +kernel) ⟨Nat.le_of_ble_eq_true rfl, Nat.le_of_ble_eq_true rfl⟩) rfl rfl (Nat.le_of_ble_eq_true rfl) ⟨Nat.le_of_ble_eq_true rfl, Nat.le_of_ble_eq_true rfl⟩ dL_law_332 (fun z2 M2 h2 => ?_)
  obtain ⟨u2, q2, f2⟩ := h2
  obtain rfl := sp_entry_u u1 u2
  exact gx_eqT C dL_law_335 rfl (nxt st M2 hs (sd_Rf f2 q1) q2)
set_option maxRecDepth 100000 in
theorem wl_op6 (C : gx_C p room_1 s m args meth c cL_law RL 4 wsL_law ret D tc ad gn_La A s.heap) (hX : va_X b n xs s s.heap) (hbl : b < s.heap.size) (hbA : ¬ A b) (had : ad 1000 = b) (hn : n ≤ 2560) {i : Nat} (hi : i + 5 ≤ n) {st : sp_S} {M : gx_M} (hs : sp_ok st) (hd : sd_R st M) (hm : sm_R st M) (nxt : ∀ st' M', sp_ok st' → sd_R st' M' → sm_R st' M' → gx_G p l e room_1 s m args below meth c 274 5453 Q 4 D tc ad gn_La A s.heap 755 [gx_R 1000, gx_R 12, gx_R 0, gx_I (i : Int)] [] M') : gx_G p l e room_1 s m args below meth c 274 5453 Q 4 D tc ad gn_La A s.heap 340 [gx_R 1000, gx_R 12, gx_R 0, gx_I (i : Int)] [] M := by
  refine gx_aload_n C dL_law_340 rfl ?_
  refine gx_aload_n C dL_law_341 rfl ?_
  refine gx_iload_n C dL_law_342 rfl ?_
  refine gx_iconst C dL_law_343 ?_
  refine gx_iadd C dL_law_344 ?_
  refine gl_ld C hX hbl hbA had (by omega) dL_law_345 ?_
  refine gx_aload_n C dL_law_346 rfl ?_
  refine gx_iload_n C dL_law_347 rfl ?_
  refine gx_iconst C dL_law_348 ?_
  refine gx_iadd C dL_law_349 ?_
  refine gl_ld C hX hbl hbA had (by omega) dL_law_350 ?_
  refine gx_callI C 7 rfl (gd_12 gn_Hd) (c_X7_of gn_Hd hs hd (wl_3 (xs ((i : Int) + 1).toNat)) (wl_3 (xs ((i : Int) + 2).toNat))) (cwV 2 (gx_hts C) gL_law_X7_of rfl rfl rfl (by decide +kernel) ⟨Nat.le_of_ble_eq_true rfl, Nat.le_of_ble_eq_true rfl⟩) rfl rfl (Nat.le_of_ble_eq_true rfl) ⟨Nat.le_of_ble_eq_true rfl, Nat.le_of_ble_eq_true rfl⟩ dL_law_351 (fun z1 M1 h1 => ?_)
  obtain ⟨u1, x1⟩ := h1
  have q1 := sd_XR hd x1
  have f1 : ∀ c, c < 12 → M1 c = M c := fun c hc => x1.1 c (by omega)
  refine gx_aload_n C dL_law_354 rfl ?_
  refine gx_aload_n C dL_law_355 rfl ?_
  refine gx_iload_n C dL_law_356 rfl ?_
  refine gx_iconst C dL_law_357 ?_
  refine gx_iadd C dL_law_358 ?_
  refine gl_ld C hX hbl hbA had (by omega) dL_law_359 ?_
  refine gx_aload_n C dL_law_360 rfl ?_
  refine gx_iload_n C dL_law_361 rfl ?_
  refine gx_iconst C dL_law_362 ?_
  refine gx_iadd C dL_law_363 ?_
  refine gl_ld C hX hbl hbA had (by omega) dL_law_364 ?_
  refine gx_callI C 8 rfl (gm_0 gn_Hm) (c_X8_of gn_Hm hs (sm_Rf f1 hm) (fun r hr => sp_degx hs (sp_Vel10 hs hr)) (wl_3 (xs ((i : Int) + 1).toNat)) (wl_3 (xs ((i : Int) + 2).toNat))) (cwV 2 (gx_hts C) gL_law_X8_of rfl rfl rfl (by decide +kernel) ⟨Nat.le_of_ble_eq_true rfl, Nat.le_of_ble_eq_true rfl⟩) rfl rfl (Nat.le_of_ble_eq_true rfl) ⟨Nat.le_of_ble_eq_true rfl, Nat.le_of_ble_eq_true rfl⟩ dL_law_365 (fun z2 M2 h2 => ?_)
  obtain ⟨u2, q2, f2⟩ := h2
  obtain rfl := sp_of_u u1 u2
  exact gx_eqT C dL_law_368 rfl (nxt st M2 hs (sd_Rf f2 q1) q2)
set_option maxRecDepth 100000 in
theorem wl_op7 (C : gx_C p room_1 s m args meth c cL_law RL 4 wsL_law ret D tc ad gn_La A s.heap) (hX : va_X b n xs s s.heap) (hbl : b < s.heap.size) (hbA : ¬ A b) (had : ad 1000 = b) (hn : n ≤ 2560) {i : Nat} (hi : i + 5 ≤ n) {st : sp_S} {M : gx_M} (hs : sp_ok st) (hd : sd_R st M) (hm : sm_R st M) (nxt : ∀ st' M', sp_ok st' → sd_R st' M' → sm_R st' M' → gx_G p l e room_1 s m args below meth c 274 5453 Q 4 D tc ad gn_La A s.heap 755 [gx_R 1000, gx_R 12, gx_R 0, gx_I (i : Int)] [] M') : gx_G p l e room_1 s m args below meth c 274 5453 Q 4 D tc ad gn_La A s.heap 373 [gx_R 1000, gx_R 12, gx_R 0, gx_I (i : Int)] [] M := by
  refine gx_aload_n C dL_law_373 rfl ?_
  refine gx_aload_n C dL_law_374 rfl ?_
  refine gx_iload_n C dL_law_375 rfl ?_
  refine gx_iconst C dL_law_376 ?_
  refine gx_iadd C dL_law_377 ?_
  refine gl_ld C hX hbl hbA had (by omega) dL_law_378 ?_
  refine gx_callI C 7 rfl (gd_12 gn_Hd) (c_X7_count gn_Hd hs hd (wl_3 (xs ((i : Int) + 1).toNat))) (cwV 1 (gx_hts C) gL_law_X7_count rfl rfl rfl (by decide +kernel) ⟨Nat.le_of_ble_eq_true rfl, Nat.le_of_ble_eq_true rfl⟩) rfl rfl (Nat.le_of_ble_eq_true rfl) ⟨Nat.le_of_ble_eq_true rfl, Nat.le_of_ble_eq_true rfl⟩ dL_law_379 (fun z1 M1 h1 => ?_)
  obtain ⟨u1, x1⟩ := h1
  have q1 := sd_XR hd x1
  have f1 : ∀ c, c < 12 → M1 c = M c := fun c hc => x1.1 c (by omega)
  refine gx_aload_n C dL_law_382 rfl ?_
  refine gx_aload_n C dL_law_383 rfl ?_
  refine gx_iload_n C dL_law_384 rfl ?_
  refine gx_iconst C dL_law_385 ?_
  refine gx_iadd C dL_law_386 ?_
  refine gl_ld C hX hbl hbA had (by omega) dL_law_387 ?_
  refine gx_callI C 8 rfl (gm_0 gn_Hm) (c_X8_count gn_Hm hs (sm_Rf f1 hm) (wl_3 (xs ((i : Int) + 1).toNat))) (cwV 1 (gx_hts C) gL_law_X8_count rfl rfl rfl (by decide +kernel) ⟨Nat.le_of_ble_eq_true rfl, Nat.le_of_ble_eq_true rfl⟩) rfl rfl (Nat.le_of_ble_eq_true rfl) ⟨Nat.le_of_ble_eq_true rfl, Nat.le_of_ble_eq_true rfl⟩ dL_law_388 (fun z2 M2 h2 => ?_)
  obtain ⟨u2, q2, f2⟩ := h2
  obtain rfl := sp_count_u u1 u2
  exact gx_eqT C dL_law_391 rfl (nxt st M2 hs (sd_Rf f2 q1) q2)
set_option maxRecDepth 100000 in
theorem wl_op8 (C : gx_C p room_1 s m args meth c cL_law RL 4 wsL_law ret D tc ad gn_La A s.heap) (hX : va_X b n xs s s.heap) (hbl : b < s.heap.size) (hbA : ¬ A b) (had : ad 1000 = b) (hn : n ≤ 2560) {i : Nat} (hi : i + 5 ≤ n) {st : sp_S} {M : gx_M} (hs : sp_ok st) (hd : sd_R st M) (hm : sm_R st M) (nxt : ∀ st' M', sp_ok st' → sd_R st' M' → sm_R st' M' → gx_G p l e room_1 s m args below meth c 274 5453 Q 4 D tc ad gn_La A s.heap 755 [gx_R 1000, gx_R 12, gx_R 0, gx_I (i : Int)] [] M') : gx_G p l e room_1 s m args below meth c 274 5453 Q 4 D tc ad gn_La A s.heap 396 [gx_R 1000, gx_R 12, gx_R 0, gx_I (i : Int)] [] M := by
  refine gx_aload_n C dL_law_396 rfl ?_
  refine gx_aload_n C dL_law_397 rfl ?_
  refine gx_iload_n C dL_law_398 rfl ?_
  refine gx_iconst C dL_law_399 ?_
  refine gx_iadd C dL_law_400 ?_
  refine gl_ld C hX hbl hbA had (by omega) dL_law_401 ?_
  refine gx_aload_n C dL_law_402 rfl ?_
  refine gx_iload_n C dL_law_403 rfl ?_
  refine gx_iconst C dL_law_404 ?_
  refine gx_iadd C dL_law_405 ?_
  refine gl_ld C hX hbl hbA had (by omega) dL_law_406 ?_
  refine gx_callI C 7 rfl (gd_12 gn_Hd) (c_X7_areSame gn_Hd hs hd (wl_3 (xs ((i : Int) + 1).toNat)) (wl_3 (xs ((i : Int) + 2).toNat))) (cwV 2 (gx_hts C) gL_law_X7_areSame rfl rfl rfl (by decide +kernel) ⟨Nat.le_of_ble_eq_true rfl, Nat.le_of_ble_eq_true rfl⟩) rfl rfl (Nat.le_of_ble_eq_true rfl) ⟨Nat.le_of_ble_eq_true rfl, Nat.le_of_ble_eq_true rfl⟩ dL_law_407 (fun z1 M1 h1 => ?_)
  obtain ⟨u1, e1⟩ := h1
  have q1 : sd_R st M1 := by rw [e1]; exact hd
  have f1 : ∀ c, c < 12 → M1 c = M c := fun c _ => by rw [e1]
  refine gx_aload_n C dL_law_410 rfl ?_
  refine gx_aload_n C dL_law_411 rfl ?_
  refine gx_iload_n C dL_law_412 rfl ?_
  refine gx_iconst C dL_law_413 ?_
  refine gx_iadd C dL_law_414 ?_
  refine gl_ld C hX hbl hbA had (by omega) dL_law_415 ?_
  refine gx_aload_n C dL_law_416 rfl ?_
  refine gx_iload_n C dL_law_417 rfl ?_
  refine gx_iconst C dL_law_418 ?_
  refine gx_iadd C dL_law_419 ?_
  refine gl_ld C hX hbl hbA had (by omega) dL_law_420 ?_
  refine gx_callI C 8 rfl (gm_0 gn_Hm) (c_X8_areSame gn_Hm hs (sm_Rf f1 hm) (wl_3 (xs ((i : Int) + 1).toNat)) (wl_3 (xs ((i : Int) + 2).toNat))) (cwV 2 (gx_hts C) gL_law_X8_areSame rfl rfl rfl (by decide +kernel) ⟨Nat.le_of_ble_eq_true rfl, Nat.le_of_ble_eq_true rfl⟩) rfl rfl (Nat.le_of_ble_eq_true rfl) ⟨Nat.le_of_ble_eq_true rfl, Nat.le_of_ble_eq_true rfl⟩ dL_law_421 (fun z2 M2 h2 => ?_)
  obtain ⟨u2, q2, f2⟩ := h2
  obtain rfl := sp_same_u u1 u2
  exact gx_eqT C dL_law_424 rfl (nxt st M2 hs (sd_Rf f2 q1) q2)
set_option maxRecDepth 100000 in
theorem wl_op9 (C : gx_C p room_1 s m args meth c cL_law RL 4 wsL_law ret D tc ad gn_La A s.heap) (hX : va_X b n xs s s.heap) (hbl : b < s.heap.size) (hbA : ¬ A b) (had : ad 1000 = b) (hn : n ≤ 2560) {i : Nat} (hi : i + 5 ≤ n) {st : sp_S} {M : gx_M} (hs : sp_ok st) (hd : sd_R st M) (hm : sm_R st M) (nxt : ∀ st' M', sp_ok st' → sd_R st' M' → sm_R st' M' → gx_G p l e room_1 s m args below meth c 274 5453 Q 4 D tc ad gn_La A s.heap 755 [gx_R 1000, gx_R 12, gx_R 0, gx_I (i : Int)] [] M') : gx_G p l e room_1 s m args below meth c 274 5453 Q 4 D tc ad gn_La A s.heap 429 [gx_R 1000, gx_R 12, gx_R 0, gx_I (i : Int)] [] M := by
  refine gx_aload_n C dL_law_429 rfl ?_
  refine gx_aload_n C dL_law_430 rfl ?_
  refine gx_iload_n C dL_law_431 rfl ?_
  refine gx_iconst C dL_law_432 ?_
  refine gx_iadd C dL_law_433 ?_
  refine gl_ld C hX hbl hbA had (by omega) dL_law_434 ?_
  refine gx_aload_n C dL_law_435 rfl ?_
  refine gx_iload_n C dL_law_436 rfl ?_
  refine gx_iconst C dL_law_437 ?_
  refine gx_iadd C dL_law_438 ?_
  refine gl_ld C hX hbl hbA had (by omega) dL_law_439 ?_
  refine gx_aload_n C dL_law_440 rfl ?_
  refine gx_iload_n C dL_law_441 rfl ?_
  refine gx_iconst C dL_law_442 ?_
  refine gx_iadd C dL_law_443 ?_
  refine gl_ld C hX hbl hbA had (by omega) dL_law_444 ?_
  refine gx_aload_n C dL_law_445 rfl ?_
  refine gx_iload_n C dL_law_446 rfl ?_
  refine gx_iconst C dL_law_447 ?_
  refine gx_iadd C dL_law_448 ?_
  refine gl_ld C hX hbl hbA had (by omega) dL_law_449 ?_
  refine gx_callI C 7 rfl (gd_12 gn_Hd) (c_X7_power gn_Hd hs hd (wl_3 (xs ((i : Int) + 1).toNat)) (wl_3 (xs ((i : Int) + 2).toNat)) (wl_3 (xs ((i : Int) + 3).toNat)) (wl_3 (xs ((i : Int) + 4).toNat))) (cwV 4 (gx_hts C) gL_law_X7_power rfl rfl rfl (by decide +kernel) ⟨Nat.le_of_ble_eq_true rfl, Nat.le_of_ble_eq_true rfl⟩) rfl rfl (Nat.le_of_ble_eq_true rfl) ⟨Nat.le_of_ble_eq_true rfl, Nat.le_of_ble_eq_true rfl⟩ dL_law_450 (fun z1 M1 h1 => ?_)
  obtain ⟨u1, x1⟩ := h1
  have q1 := sd_XR hd x1
  have f1 : ∀ c, c < 12 → M1 c = M c := fun c hc => x1.1 c (by omega)
  refine gx_aload_n C dL_law_453 rfl ?_
  refine gx_aload_n C dL_law_454 rfl ?_
  refine gx_iload_n C dL_law_455 rfl ?_
  refine gx_iconst C dL_law_456 ?_
  refine gx_iadd C dL_law_457 ?_
  refine gl_ld C hX hbl hbA had (by omega) dL_law_458 ?_
  refine gx_aload_n C dL_law_459 rfl ?_
  refine gx_iload_n C dL_law_460 rfl ?_
  refine gx_iconst C dL_law_461 ?_
  refine gx_iadd C dL_law_462 ?_
  refine gl_ld C hX hbl hbA had (by omega) dL_law_463 ?_
  refine gx_aload_n C dL_law_464 rfl ?_
  refine gx_iload_n C dL_law_465 rfl ?_
  refine gx_iconst C dL_law_466 ?_
  refine gx_iadd C dL_law_467 ?_
  refine gl_ld C hX hbl hbA had (by omega) dL_law_468 ?_
  refine gx_aload_n C dL_law_469 rfl ?_
  refine gx_iload_n C dL_law_470 rfl ?_
  refine gx_iconst C dL_law_471 ?_
  refine gx_iadd C dL_law_472 ?_
  refine gl_ld C hX hbl hbA had (by omega) dL_law_473 ?_
  refine gx_callI C 8 rfl (gm_0 gn_Hm) (c_X8_power gn_Hm hs (sm_Rf f1 hm) (wl_3 (xs ((i : Int) + 1).toNat)) (wl_3 (xs ((i : Int) + 2).toNat)) (wl_3 (xs ((i : Int) + 3).toNat)) (wl_3 (xs ((i : Int) + 4).toNat))) (cwV 4 (gx_hts C) gL_law_X8_power rfl rfl rfl (by decide +kernel) ⟨Nat.le_of_ble_eq_true rfl, Nat.le_of_ble_eq_true rfl⟩) rfl rfl (Nat.le_of_ble_eq_true rfl) ⟨Nat.le_of_ble_eq_true rfl, Nat.le_of_ble_eq_true rfl⟩ dL_law_474 (fun z2 M2 h2 => ?_)
  obtain ⟨u2, q2, f2⟩ := h2
  obtain rfl := sp_power_u u1 u2
  exact gx_eqT C dL_law_477 rfl (nxt st M2 hs (sd_Rf f2 q1) q2)
set_option maxRecDepth 100000 in
theorem wl_op10 (C : gx_C p room_1 s m args meth c cL_law RL 4 wsL_law ret D tc ad gn_La A s.heap) (hX : va_X b n xs s s.heap) (hbl : b < s.heap.size) (hbA : ¬ A b) (had : ad 1000 = b) (hn : n ≤ 2560) {i : Nat} (hi : i + 5 ≤ n) {st : sp_S} {M : gx_M} (hs : sp_ok st) (hd : sd_R st M) (hm : sm_R st M) (nxt : ∀ st' M', sp_ok st' → sd_R st' M' → sm_R st' M' → gx_G p l e room_1 s m args below meth c 274 5453 Q 4 D tc ad gn_La A s.heap 755 [gx_R 1000, gx_R 12, gx_R 0, gx_I (i : Int)] [] M') : gx_G p l e room_1 s m args below meth c 274 5453 Q 4 D tc ad gn_La A s.heap 482 [gx_R 1000, gx_R 12, gx_R 0, gx_I (i : Int)] [] M := by
  refine gx_aload_n C dL_law_482 rfl ?_
  refine gx_aload_n C dL_law_483 rfl ?_
  refine gx_iload_n C dL_law_484 rfl ?_
  refine gx_iconst C dL_law_485 ?_
  refine gx_iadd C dL_law_486 ?_
  refine gl_ld C hX hbl hbA had (by omega) dL_law_487 ?_
  refine gx_aload_n C dL_law_488 rfl ?_
  refine gx_iload_n C dL_law_489 rfl ?_
  refine gx_iconst C dL_law_490 ?_
  refine gx_iadd C dL_law_491 ?_
  refine gl_ld C hX hbl hbA had (by omega) dL_law_492 ?_
  refine gx_aload_n C dL_law_493 rfl ?_
  refine gx_iload_n C dL_law_494 rfl ?_
  refine gx_iconst C dL_law_495 ?_
  refine gx_iadd C dL_law_496 ?_
  refine gl_ld C hX hbl hbA had (by omega) dL_law_497 ?_
  refine gx_aload_n C dL_law_498 rfl ?_
  refine gx_iload_n C dL_law_499 rfl ?_
  refine gx_iconst C dL_law_500 ?_
  refine gx_iadd C dL_law_501 ?_
  refine gl_ld C hX hbl hbA had (by omega) dL_law_502 ?_
  refine gx_callI C 7 rfl (gd_12 gn_Hd) (c_X7_rule gn_Hd hs hd (wl_3 (xs ((i : Int) + 1).toNat)) (wl_3 (xs ((i : Int) + 2).toNat)) (wl_3 (xs ((i : Int) + 3).toNat)) (wl_3 (xs ((i : Int) + 4).toNat))) (cwV 4 (gx_hts C) gL_law_X7_rule rfl rfl rfl (by decide +kernel) ⟨Nat.le_of_ble_eq_true rfl, Nat.le_of_ble_eq_true rfl⟩) rfl rfl (Nat.le_of_ble_eq_true rfl) ⟨Nat.le_of_ble_eq_true rfl, Nat.le_of_ble_eq_true rfl⟩ dL_law_503 (fun z1 M1 h1 => ?_)
  obtain ⟨u1, x1⟩ := h1
  have q1 := sd_XR hd x1
  have f1 : ∀ c, c < 12 → M1 c = M c := fun c hc => x1.1 c (by omega)
  refine gx_aload_n C dL_law_506 rfl ?_
  refine gx_aload_n C dL_law_507 rfl ?_
  refine gx_iload_n C dL_law_508 rfl ?_
  refine gx_iconst C dL_law_509 ?_
  refine gx_iadd C dL_law_510 ?_
  refine gl_ld C hX hbl hbA had (by omega) dL_law_511 ?_
  refine gx_aload_n C dL_law_512 rfl ?_
  refine gx_iload_n C dL_law_513 rfl ?_
  refine gx_iconst C dL_law_514 ?_
  refine gx_iadd C dL_law_515 ?_
  refine gl_ld C hX hbl hbA had (by omega) dL_law_516 ?_
  refine gx_aload_n C dL_law_517 rfl ?_
  refine gx_iload_n C dL_law_518 rfl ?_
  refine gx_iconst C dL_law_519 ?_
  refine gx_iadd C dL_law_520 ?_
  refine gl_ld C hX hbl hbA had (by omega) dL_law_521 ?_
  refine gx_aload_n C dL_law_522 rfl ?_
  refine gx_iload_n C dL_law_523 rfl ?_
  refine gx_iconst C dL_law_524 ?_
  refine gx_iadd C dL_law_525 ?_
  refine gl_ld C hX hbl hbA had (by omega) dL_law_526 ?_
  refine gx_callI C 8 rfl (gm_0 gn_Hm) (c_X8_rule gn_Hm hs (sm_Rf f1 hm) (wl_3 (xs ((i : Int) + 1).toNat)) (wl_3 (xs ((i : Int) + 2).toNat)) (wl_3 (xs ((i : Int) + 3).toNat)) (wl_3 (xs ((i : Int) + 4).toNat))) (cwV 4 (gx_hts C) gL_law_X8_rule rfl rfl rfl (by decide +kernel) ⟨Nat.le_of_ble_eq_true rfl, Nat.le_of_ble_eq_true rfl⟩) rfl rfl (Nat.le_of_ble_eq_true rfl) ⟨Nat.le_of_ble_eq_true rfl, Nat.le_of_ble_eq_true rfl⟩ dL_law_527 (fun z2 M2 h2 => ?_)
  obtain ⟨u2, q2, f2⟩ := h2
  obtain rfl := sp_rule_u u1 u2
  exact gx_eqT C dL_law_530 rfl (nxt st M2 hs (sd_Rf f2 q1) q2)
set_option maxRecDepth 100000 in
theorem wl_op11 (C : gx_C p room_1 s m args meth c cL_law RL 4 wsL_law ret D tc ad gn_La A s.heap) (hX : va_X b n xs s s.heap) (hbl : b < s.heap.size) (hbA : ¬ A b) (had : ad 1000 = b) (hn : n ≤ 2560) {i : Nat} (hi : i + 5 ≤ n) {st : sp_S} {M : gx_M} (hs : sp_ok st) (hd : sd_R st M) (hm : sm_R st M) (nxt : ∀ st' M', sp_ok st' → sd_R st' M' → sm_R st' M' → gx_G p l e room_1 s m args below meth c 274 5453 Q 4 D tc ad gn_La A s.heap 755 [gx_R 1000, gx_R 12, gx_R 0, gx_I (i : Int)] [] M') : gx_G p l e room_1 s m args below meth c 274 5453 Q 4 D tc ad gn_La A s.heap 535 [gx_R 1000, gx_R 12, gx_R 0, gx_I (i : Int)] [] M := by
  refine gx_aload_n C dL_law_535 rfl ?_
  refine gx_aload_n C dL_law_536 rfl ?_
  refine gx_iload_n C dL_law_537 rfl ?_
  refine gx_iconst C dL_law_538 ?_
  refine gx_iadd C dL_law_539 ?_
  refine gl_ld C hX hbl hbA had (by omega) dL_law_540 ?_
  refine gx_aload_n C dL_law_541 rfl ?_
  refine gx_iload_n C dL_law_542 rfl ?_
  refine gx_iconst C dL_law_543 ?_
  refine gx_iadd C dL_law_544 ?_
  refine gl_ld C hX hbl hbA had (by omega) dL_law_545 ?_
  refine gx_callI C 7 rfl (gd_12 gn_Hd) (c_X7_partSize gn_Hd hs hd (wl_3 (xs ((i : Int) + 1).toNat)) (wl_3 (xs ((i : Int) + 2).toNat))) (cwV 2 (gx_hts C) gL_law_X7_partSize rfl rfl rfl (by decide +kernel) ⟨Nat.le_of_ble_eq_true rfl, Nat.le_of_ble_eq_true rfl⟩) rfl rfl (Nat.le_of_ble_eq_true rfl) ⟨Nat.le_of_ble_eq_true rfl, Nat.le_of_ble_eq_true rfl⟩ dL_law_546 (fun z1 M1 h1 => ?_)
  obtain ⟨u1, x1⟩ := h1
  have q1 := sd_XR hd x1
  have f1 : ∀ c, c < 12 → M1 c = M c := fun c hc => x1.1 c (by omega)
  refine gx_aload_n C dL_law_549 rfl ?_
  refine gx_aload_n C dL_law_550 rfl ?_
  refine gx_iload_n C dL_law_551 rfl ?_
  refine gx_iconst C dL_law_552 ?_
  refine gx_iadd C dL_law_553 ?_
  refine gl_ld C hX hbl hbA had (by omega) dL_law_554 ?_
  refine gx_aload_n C dL_law_555 rfl ?_
  refine gx_iload_n C dL_law_556 rfl ?_
  refine gx_iconst C dL_law_557 ?_
  refine gx_iadd C dL_law_558 ?_
  refine gl_ld C hX hbl hbA had (by omega) dL_law_559 ?_
  refine gx_callI C 8 rfl (gm_0 gn_Hm) (c_X8_partSize gn_Hm hs (sm_Rf f1 hm) (wl_3 (xs ((i : Int) + 1).toNat)) (wl_3 (xs ((i : Int) + 2).toNat))) (cwV 2 (gx_hts C) gL_law_X8_partSize rfl rfl rfl (by decide +kernel) ⟨Nat.le_of_ble_eq_true rfl, Nat.le_of_ble_eq_true rfl⟩) rfl rfl (Nat.le_of_ble_eq_true rfl) ⟨Nat.le_of_ble_eq_true rfl, Nat.le_of_ble_eq_true rfl⟩ dL_law_560 (fun z2 M2 h2 => ?_)
  obtain ⟨u2, q2, f2⟩ := h2
  obtain rfl := sp_psize_u u1 u2
  exact gx_eqT C dL_law_563 rfl (nxt st M2 hs (sd_Rf f2 q1) q2)
set_option maxRecDepth 100000 in
theorem wl_op12 (C : gx_C p room_1 s m args meth c cL_law RL 4 wsL_law ret D tc ad gn_La A s.heap) (hX : va_X b n xs s s.heap) (hbl : b < s.heap.size) (hbA : ¬ A b) (had : ad 1000 = b) (hn : n ≤ 2560) {i : Nat} (hi : i + 5 ≤ n) {st : sp_S} {M : gx_M} (hs : sp_ok st) (hd : sd_R st M) (hm : sm_R st M) (nxt : ∀ st' M', sp_ok st' → sd_R st' M' → sm_R st' M' → gx_G p l e room_1 s m args below meth c 274 5453 Q 4 D tc ad gn_La A s.heap 755 [gx_R 1000, gx_R 12, gx_R 0, gx_I (i : Int)] [] M') : gx_G p l e room_1 s m args below meth c 274 5453 Q 4 D tc ad gn_La A s.heap 568 [gx_R 1000, gx_R 12, gx_R 0, gx_I (i : Int)] [] M := by
  refine gx_aload_n C dL_law_568 rfl ?_
  refine gx_aload_n C dL_law_569 rfl ?_
  refine gx_iload_n C dL_law_570 rfl ?_
  refine gx_iconst C dL_law_571 ?_
  refine gx_iadd C dL_law_572 ?_
  refine gl_ld C hX hbl hbA had (by omega) dL_law_573 ?_
  refine gx_callI C 7 rfl (gd_12 gn_Hd) (c_X7_howMany gn_Hd hs hd (wl_3 (xs ((i : Int) + 1).toNat))) (cwV 1 (gx_hts C) gL_law_X7_howMany rfl rfl rfl (by decide +kernel) ⟨Nat.le_of_ble_eq_true rfl, Nat.le_of_ble_eq_true rfl⟩) rfl rfl (Nat.le_of_ble_eq_true rfl) ⟨Nat.le_of_ble_eq_true rfl, Nat.le_of_ble_eq_true rfl⟩ dL_law_574 (fun z1 M1 h1 => ?_)
  obtain ⟨u1, x1⟩ := h1
  have q1 := sd_XR hd x1
  have f1 : ∀ c, c < 12 → M1 c = M c := fun c hc => x1.1 c (by omega)
  refine gx_aload_n C dL_law_577 rfl ?_
  refine gx_aload_n C dL_law_578 rfl ?_
  refine gx_iload_n C dL_law_579 rfl ?_
  refine gx_iconst C dL_law_580 ?_
  refine gx_iadd C dL_law_581 ?_
  refine gl_ld C hX hbl hbA had (by omega) dL_law_582 ?_
  refine gx_callI C 8 rfl (gm_0 gn_Hm) (c_X8_howMany gn_Hm hs (sm_Rf f1 hm) (wl_3 (xs ((i : Int) + 1).toNat))) (cwV 1 (gx_hts C) gL_law_X8_howMany rfl rfl rfl (by decide +kernel) ⟨Nat.le_of_ble_eq_true rfl, Nat.le_of_ble_eq_true rfl⟩) rfl rfl (Nat.le_of_ble_eq_true rfl) ⟨Nat.le_of_ble_eq_true rfl, Nat.le_of_ble_eq_true rfl⟩ dL_law_583 (fun z2 M2 h2 => ?_)
  obtain ⟨u2, q2, f2⟩ := h2
  obtain rfl := sp_many_u u1 u2
  exact gx_eqT C dL_law_586 rfl (nxt st M2 hs (sd_Rf f2 q1) q2)
set_option maxRecDepth 100000 in
theorem wl_op13 (C : gx_C p room_1 s m args meth c cL_law RL 4 wsL_law ret D tc ad gn_La A s.heap) (hX : va_X b n xs s s.heap) (hbl : b < s.heap.size) (hbA : ¬ A b) (had : ad 1000 = b) (hn : n ≤ 2560) {i : Nat} (hi : i + 5 ≤ n) {st : sp_S} {M : gx_M} (hs : sp_ok st) (hd : sd_R st M) (hm : sm_R st M) (nxt : ∀ st' M', sp_ok st' → sd_R st' M' → sm_R st' M' → gx_G p l e room_1 s m args below meth c 274 5453 Q 4 D tc ad gn_La A s.heap 755 [gx_R 1000, gx_R 12, gx_R 0, gx_I (i : Int)] [] M') : gx_G p l e room_1 s m args below meth c 274 5453 Q 4 D tc ad gn_La A s.heap 591 [gx_R 1000, gx_R 12, gx_R 0, gx_I (i : Int)] [] M := by
  refine gx_aload_n C dL_law_591 rfl ?_
  refine gx_callI C 7 rfl (gd_12 gn_Hd) (c_X7_holds gn_Hd hs hd) (cwV 0 (gx_hts C) gL_law_X7_holds rfl rfl rfl (by decide +kernel) ⟨Nat.le_of_ble_eq_true rfl, Nat.le_of_ble_eq_true rfl⟩) rfl rfl (Nat.le_of_ble_eq_true rfl) ⟨Nat.le_of_ble_eq_true rfl, Nat.le_of_ble_eq_true rfl⟩ dL_law_592 (fun z1 M1 h1 => ?_)
  obtain ⟨u1, x1⟩ := h1
  have q1 := sd_XR hd x1
  have f1 : ∀ c, c < 12 → M1 c = M c := fun c hc => x1.1 c (by omega)
  refine gx_aload_n C dL_law_595 rfl ?_
  refine gx_callI C 8 rfl (gm_0 gn_Hm) (c_X8_holds gn_Hm hs (sm_Rf f1 hm)) (cwV 0 (gx_hts C) gL_law_X8_holds rfl rfl rfl (by decide +kernel) ⟨Nat.le_of_ble_eq_true rfl, Nat.le_of_ble_eq_true rfl⟩) rfl rfl (Nat.le_of_ble_eq_true rfl) ⟨Nat.le_of_ble_eq_true rfl, Nat.le_of_ble_eq_true rfl⟩ dL_law_596 (fun z2 M2 h2 => ?_)
  obtain ⟨u2, q2, f2⟩ := h2
  obtain rfl := sp_holds_u u1 u2
  exact gx_eqT C dL_law_599 rfl (nxt st M2 hs (sd_Rf f2 q1) q2)
set_option maxRecDepth 100000 in
theorem wl_op14 (C : gx_C p room_1 s m args meth c cL_law RL 4 wsL_law ret D tc ad gn_La A s.heap) (hX : va_X b n xs s s.heap) (hbl : b < s.heap.size) (hbA : ¬ A b) (had : ad 1000 = b) (hn : n ≤ 2560) {i : Nat} (hi : i + 5 ≤ n) {st : sp_S} {M : gx_M} (hs : sp_ok st) (hd : sd_R st M) (hm : sm_R st M) (nxt : ∀ st' M', sp_ok st' → sd_R st' M' → sm_R st' M' → gx_G p l e room_1 s m args below meth c 274 5453 Q 4 D tc ad gn_La A s.heap 755 [gx_R 1000, gx_R 12, gx_R 0, gx_I (i : Int)] [] M') : gx_G p l e room_1 s m args below meth c 274 5453 Q 4 D tc ad gn_La A s.heap 604 [gx_R 1000, gx_R 12, gx_R 0, gx_I (i : Int)] [] M := by
  refine gx_aload_n C dL_law_604 rfl ?_
  refine gx_callI C 7 rfl (gd_12 gn_Hd) (c_X7_stops gn_Hd hs hd) (cwV 0 (gx_hts C) gL_law_X7_stops rfl rfl rfl (by decide +kernel) ⟨Nat.le_of_ble_eq_true rfl, Nat.le_of_ble_eq_true rfl⟩) rfl rfl (Nat.le_of_ble_eq_true rfl) ⟨Nat.le_of_ble_eq_true rfl, Nat.le_of_ble_eq_true rfl⟩ dL_law_605 (fun z1 M1 h1 => ?_)
  obtain ⟨u1, x1⟩ := h1
  have q1 := sd_XR hd x1
  have f1 : ∀ c, c < 12 → M1 c = M c := fun c hc => x1.1 c (by omega)
  refine gx_aload_n C dL_law_608 rfl ?_
  refine gx_callI C 8 rfl (gm_0 gn_Hm) (c_X8_stops gn_Hm hs (sm_Rf f1 hm)) (cwV 0 (gx_hts C) gL_law_X8_stops rfl rfl rfl (by decide +kernel) ⟨Nat.le_of_ble_eq_true rfl, Nat.le_of_ble_eq_true rfl⟩) rfl rfl (Nat.le_of_ble_eq_true rfl) ⟨Nat.le_of_ble_eq_true rfl, Nat.le_of_ble_eq_true rfl⟩ dL_law_609 (fun z2 M2 h2 => ?_)
  obtain ⟨u2, q2, f2⟩ := h2
  obtain rfl := sp_stops_u u1 u2
  exact gx_eqT C dL_law_612 rfl (nxt st M2 hs (sd_Rf f2 q1) q2)
set_option maxRecDepth 100000 in
theorem wl_op15 (C : gx_C p room_1 s m args meth c cL_law RL 4 wsL_law ret D tc ad gn_La A s.heap) (hX : va_X b n xs s s.heap) (hbl : b < s.heap.size) (hbA : ¬ A b) (had : ad 1000 = b) (hn : n ≤ 2560) {i : Nat} (hi : i + 5 ≤ n) {st : sp_S} {M : gx_M} (hs : sp_ok st) (hd : sd_R st M) (hm : sm_R st M) (nxt : ∀ st' M', sp_ok st' → sd_R st' M' → sm_R st' M' → gx_G p l e room_1 s m args below meth c 274 5453 Q 4 D tc ad gn_La A s.heap 755 [gx_R 1000, gx_R 12, gx_R 0, gx_I (i : Int)] [] M') : gx_G p l e room_1 s m args below meth c 274 5453 Q 4 D tc ad gn_La A s.heap 617 [gx_R 1000, gx_R 12, gx_R 0, gx_I (i : Int)] [] M := by
  obtain ⟨N, hN, hXN⟩ := gl_of (((gx_i (xs ((i : Int) + 1).toNat).toInt).toInt64 <<< ((gx_i 32).toInt64 &&& 63)) ||| ((gx_i (xs ((i : Int) + 2).toNat).toInt).toInt64 &&& 4294967295))
  refine gx_aload_n C dL_law_617 rfl ?_
  refine gx_aload_n C dL_law_618 rfl ?_
  refine gx_iload_n C dL_law_619 rfl ?_
  refine gx_iconst C dL_law_620 ?_
  refine gx_iadd C dL_law_621 ?_
  refine gl_ld C hX hbl hbA had (by omega) dL_law_622 ?_
  refine gx_i2l C dL_law_623 ?_
  refine gx_bipush C dL_law_624 rfl ?_
  refine gx_lshl C dL_law_626 ?_
  refine gx_aload_n C dL_law_627 rfl ?_
  refine gx_iload_n C dL_law_628 rfl ?_
  refine gx_iconst C dL_law_629 ?_
  refine gx_iadd C dL_law_630 ?_
  refine gl_ld C hX hbl hbA had (by omega) dL_law_631 ?_
  refine gx_i2l C dL_law_632 ?_
  refine gx_ldc2 C (index := 78) (v := 4294967295) wl_c78 dL_law_633 ?_
  refine gx_land C dL_law_636 rfl ?_
  refine gx_lor C dL_law_637 ?_
  rw [hXN]
  refine gx_callI C 7 rfl (gd_12 gn_Hd) (c_X7_put gn_Hd hs hd hN) (cwV 1 (gx_hts C) gL_law_X7_put rfl rfl rfl (by decide +kernel) ⟨Nat.le_of_ble_eq_true rfl, Nat.le_of_ble_eq_true rfl⟩) rfl rfl (Nat.le_of_ble_eq_true rfl) ⟨Nat.le_of_ble_eq_true rfl, Nat.le_of_ble_eq_true rfl⟩ dL_law_638 (fun z1 M1 h1 => ?_)
  obtain ⟨s1, u1, q1, f1⟩ := h1
  refine gx_aload_n C dL_law_641 rfl ?_
  refine gx_aload_n C dL_law_642 rfl ?_
  refine gx_iload_n C dL_law_643 rfl ?_
  refine gx_iconst C dL_law_644 ?_
  refine gx_iadd C dL_law_645 ?_
  refine gl_ld C hX hbl hbA had (by omega) dL_law_646 ?_
  refine gx_i2l C dL_law_647 ?_
  refine gx_bipush C dL_law_648 rfl ?_
  refine gx_lshl C dL_law_650 ?_
  refine gx_aload_n C dL_law_651 rfl ?_
  refine gx_iload_n C dL_law_652 rfl ?_
  refine gx_iconst C dL_law_653 ?_
  refine gx_iadd C dL_law_654 ?_
  refine gl_ld C hX hbl hbA had (by omega) dL_law_655 ?_
  refine gx_i2l C dL_law_656 ?_
  refine gx_ldc2 C (index := 78) (v := 4294967295) wl_c78 dL_law_657 ?_
  refine gx_land C dL_law_660 rfl ?_
  refine gx_lor C dL_law_661 ?_
  rw [hXN]
  refine gx_callI C 8 rfl (gm_0 gn_Hm) (c_X8_put gn_Hm hs (sm_Rf f1 hm) hN) (cwV 1 (gx_hts C) gL_law_X8_put rfl rfl rfl (by decide +kernel) ⟨Nat.le_of_ble_eq_true rfl, Nat.le_of_ble_eq_true rfl⟩) rfl rfl (Nat.le_of_ble_eq_true rfl) ⟨Nat.le_of_ble_eq_true rfl, Nat.le_of_ble_eq_true rfl⟩ dL_law_662 (fun z2 M2 h2 => ?_)
  obtain ⟨s2, u2, q2, f2⟩ := h2
  obtain ⟨rfl, rfl⟩ := sp_put_u u1 u2
  exact gx_eqT C dL_law_665 rfl (nxt s1 M2 (sp_put_ok hs u1) (sd_Rf f2 q1) q2)
set_option maxRecDepth 100000 in
theorem wl_op16 (C : gx_C p room_1 s m args meth c cL_law RL 4 wsL_law ret D tc ad gn_La A s.heap) (hX : va_X b n xs s s.heap) (hbl : b < s.heap.size) (hbA : ¬ A b) (had : ad 1000 = b) (hn : n ≤ 2560) {i : Nat} (hi : i + 5 ≤ n) {st : sp_S} {M : gx_M} (hs : sp_ok st) (hd : sd_R st M) (hm : sm_R st M) (nxt : ∀ st' M', sp_ok st' → sd_R st' M' → sm_R st' M' → gx_G p l e room_1 s m args below meth c 274 5453 Q 4 D tc ad gn_La A s.heap 755 [gx_R 1000, gx_R 12, gx_R 0, gx_I (i : Int)] [] M') : gx_G p l e room_1 s m args below meth c 274 5453 Q 4 D tc ad gn_La A s.heap 670 [gx_R 1000, gx_R 12, gx_R 0, gx_I (i : Int)] [] M := by
  refine gx_aload_n C dL_law_670 rfl ?_
  refine gx_callI C 7 rfl (gd_12 gn_Hd) (c_X7_wipe gn_Hd hd) (cwV 0 (gx_hts C) gL_law_X7_wipe rfl rfl rfl (by decide +kernel) ⟨Nat.le_of_ble_eq_true rfl, Nat.le_of_ble_eq_true rfl⟩) rfl rfl (Nat.le_of_ble_eq_true rfl) ⟨Nat.le_of_ble_eq_true rfl, Nat.le_of_ble_eq_true rfl⟩ dL_law_671 (fun z1 M1 h1 => ?_)
  obtain ⟨s1, u1, q1, f1⟩ := h1
  refine gx_aload_n C dL_law_674 rfl ?_
  refine gx_callI C 8 rfl (gm_0 gn_Hm) (c_X8_wipe gn_Hm hs (sm_Rf f1 hm)) (cwV 0 (gx_hts C) gL_law_X8_wipe rfl rfl rfl (by decide +kernel) ⟨Nat.le_of_ble_eq_true rfl, Nat.le_of_ble_eq_true rfl⟩) rfl rfl (Nat.le_of_ble_eq_true rfl) ⟨Nat.le_of_ble_eq_true rfl, Nat.le_of_ble_eq_true rfl⟩ dL_law_675 (fun z2 M2 h2 => ?_)
  obtain ⟨s2, u2, q2, f2⟩ := h2
  obtain ⟨rfl, rfl⟩ := sp_wipe_u u1 u2
  exact gx_eqT C dL_law_678 rfl (nxt s1 M2 (sp_wipe_ok hs u1) (sd_Rf f2 q1) q2)
set_option maxRecDepth 100000 in
theorem wl_op17 (C : gx_C p room_1 s m args meth c cL_law RL 4 wsL_law ret D tc ad gn_La A s.heap) (hX : va_X b n xs s s.heap) (hbl : b < s.heap.size) (hbA : ¬ A b) (had : ad 1000 = b) (hn : n ≤ 2560) {i : Nat} (hi : i + 5 ≤ n) {st : sp_S} {M : gx_M} (hs : sp_ok st) (hd : sd_R st M) (hm : sm_R st M) (nxt : ∀ st' M', sp_ok st' → sd_R st' M' → sm_R st' M' → gx_G p l e room_1 s m args below meth c 274 5453 Q 4 D tc ad gn_La A s.heap 755 [gx_R 1000, gx_R 12, gx_R 0, gx_I (i : Int)] [] M') : gx_G p l e room_1 s m args below meth c 274 5453 Q 4 D tc ad gn_La A s.heap 683 [gx_R 1000, gx_R 12, gx_R 0, gx_I (i : Int)] [] M := by
  refine gx_aload_n C dL_law_683 rfl ?_
  refine gx_callI C 7 rfl (gd_12 gn_Hd) (c_X7_fault gn_Hd hs hd) (cwV 0 (gx_hts C) gL_law_X7_fault rfl rfl rfl (by decide +kernel) ⟨Nat.le_of_ble_eq_true rfl, Nat.le_of_ble_eq_true rfl⟩) rfl rfl (Nat.le_of_ble_eq_true rfl) ⟨Nat.le_of_ble_eq_true rfl, Nat.le_of_ble_eq_true rfl⟩ dL_law_684 (fun z1 M1 h1 => ?_)
  obtain ⟨u1, x1⟩ := h1
  have q1 := sd_XR hd x1
  have f1 : ∀ c, c < 12 → M1 c = M c := fun c hc => x1.1 c (by omega)
  refine gx_aload_n C dL_law_687 rfl ?_
  refine gx_callI C 8 rfl (gm_0 gn_Hm) (c_X8_fault gn_Hm hs (sm_Rf f1 hm)) (cwV 0 (gx_hts C) gL_law_X8_fault rfl rfl rfl (by decide +kernel) ⟨Nat.le_of_ble_eq_true rfl, Nat.le_of_ble_eq_true rfl⟩) rfl rfl (Nat.le_of_ble_eq_true rfl) ⟨Nat.le_of_ble_eq_true rfl, Nat.le_of_ble_eq_true rfl⟩ dL_law_688 (fun z2 M2 h2 => ?_)
  obtain ⟨u2, q2, f2⟩ := h2
  obtain rfl := pm_flt_u u1 u2
  exact gx_eqT C dL_law_691 rfl (nxt st M2 hs (sd_Rf f2 q1) q2)
set_option maxRecDepth 100000 in
theorem wl_op18 (C : gx_C p room_1 s m args meth c cL_law RL 4 wsL_law ret D tc ad gn_La A s.heap) (hX : va_X b n xs s s.heap) (hbl : b < s.heap.size) (hbA : ¬ A b) (had : ad 1000 = b) (hn : n ≤ 2560) {i : Nat} (hi : i + 5 ≤ n) {st : sp_S} {M : gx_M} (hs : sp_ok st) (hd : sd_R st M) (hm : sm_R st M) (nxt : ∀ st' M', sp_ok st' → sd_R st' M' → sm_R st' M' → gx_G p l e room_1 s m args below meth c 274 5453 Q 4 D tc ad gn_La A s.heap 755 [gx_R 1000, gx_R 12, gx_R 0, gx_I (i : Int)] [] M') : gx_G p l e room_1 s m args below meth c 274 5453 Q 4 D tc ad gn_La A s.heap 696 [gx_R 1000, gx_R 12, gx_R 0, gx_I (i : Int)] [] M := by
  refine gx_aload_n C dL_law_696 rfl ?_
  refine gx_callI C 7 rfl (gd_12 gn_Hd) (c_X7_undo gn_Hd hs hd) (cwV 0 (gx_hts C) gL_law_X7_undo rfl rfl rfl (by decide +kernel) ⟨Nat.le_of_ble_eq_true rfl, Nat.le_of_ble_eq_true rfl⟩) rfl rfl (Nat.le_of_ble_eq_true rfl) ⟨Nat.le_of_ble_eq_true rfl, Nat.le_of_ble_eq_true rfl⟩ dL_law_697 (fun z1 M1 h1 => ?_)
  obtain ⟨s1, u1, q1, f1⟩ := h1
  refine gx_aload_n C dL_law_700 rfl ?_
  refine gx_callI C 8 rfl (gm_0 gn_Hm) (c_X8_undo gn_Hm hs (sm_Rf f1 hm)) (cwV 0 (gx_hts C) gL_law_X8_undo rfl rfl rfl (by decide +kernel) ⟨Nat.le_of_ble_eq_true rfl, Nat.le_of_ble_eq_true rfl⟩) rfl rfl (Nat.le_of_ble_eq_true rfl) ⟨Nat.le_of_ble_eq_true rfl, Nat.le_of_ble_eq_true rfl⟩ dL_law_701 (fun z2 M2 h2 => ?_)
  obtain ⟨s2, u2, q2, f2⟩ := h2
  obtain ⟨rfl, rfl⟩ := sp_undo_u u1 u2
  exact gx_eqT C dL_law_704 rfl (nxt s1 M2 (sp_undo_ok hs u1) (sd_Rf f2 q1) q2)
set_option maxRecDepth 100000 in
theorem wl_op19 (C : gx_C p room_1 s m args meth c cL_law RL 4 wsL_law ret D tc ad gn_La A s.heap) (hX : va_X b n xs s s.heap) (hbl : b < s.heap.size) (hbA : ¬ A b) (had : ad 1000 = b) (hn : n ≤ 2560) {i : Nat} (hi : i + 5 ≤ n) {st : sp_S} {M : gx_M} (hs : sp_ok st) (hd : sd_R st M) (hm : sm_R st M) (nxt : ∀ st' M', sp_ok st' → sd_R st' M' → sm_R st' M' → gx_G p l e room_1 s m args below meth c 274 5453 Q 4 D tc ad gn_La A s.heap 755 [gx_R 1000, gx_R 12, gx_R 0, gx_I (i : Int)] [] M') : gx_G p l e room_1 s m args below meth c 274 5453 Q 4 D tc ad gn_La A s.heap 709 [gx_R 1000, gx_R 12, gx_R 0, gx_I (i : Int)] [] M := by
  refine gx_aload_n C dL_law_709 rfl ?_
  refine gx_aload_n C dL_law_710 rfl ?_
  refine gx_iload_n C dL_law_711 rfl ?_
  refine gx_iconst C dL_law_712 ?_
  refine gx_iadd C dL_law_713 ?_
  refine gl_ld C hX hbl hbA had (by omega) dL_law_714 ?_
  refine gx_callI C 7 rfl (gd_12 gn_Hd) (c_X7_save gn_Hd hd (wl_3 (xs ((i : Int) + 1).toNat))) (cwV 1 (gx_hts C) gL_law_X7_save rfl rfl rfl (by decide +kernel) ⟨Nat.le_of_ble_eq_true rfl, Nat.le_of_ble_eq_true rfl⟩) rfl rfl (Nat.le_of_ble_eq_true rfl) ⟨Nat.le_of_ble_eq_true rfl, Nat.le_of_ble_eq_true rfl⟩ dL_law_715 (fun z1 M1 h1 => ?_)
  obtain ⟨s1, u1, q1, f1⟩ := h1
  refine gx_aload_n C dL_law_718 rfl ?_
  refine gx_aload_n C dL_law_719 rfl ?_
  refine gx_iload_n C dL_law_720 rfl ?_
  refine gx_iconst C dL_law_721 ?_
  refine gx_iadd C dL_law_722 ?_
  refine gl_ld C hX hbl hbA had (by omega) dL_law_723 ?_
  refine gx_callI C 8 rfl (gm_0 gn_Hm) (c_X8_save gn_Hm hs (sm_Rf f1 hm) (wl_3 (xs ((i : Int) + 1).toNat))) (cwV 1 (gx_hts C) gL_law_X8_save rfl rfl rfl (by decide +kernel) ⟨Nat.le_of_ble_eq_true rfl, Nat.le_of_ble_eq_true rfl⟩) rfl rfl (Nat.le_of_ble_eq_true rfl) ⟨Nat.le_of_ble_eq_true rfl, Nat.le_of_ble_eq_true rfl⟩ dL_law_724 (fun z2 M2 h2 => ?_)
  obtain ⟨s2, u2, q2, f2⟩ := h2
  obtain ⟨rfl, rfl⟩ := sp_save_u u1 u2
  exact gx_eqT C dL_law_727 rfl (nxt s1 M2 (sp_save_ok hs u1) (sd_Rf f2 q1) q2)
set_option maxRecDepth 100000 in
theorem wl_op20 (C : gx_C p room_1 s m args meth c cL_law RL 4 wsL_law ret D tc ad gn_La A s.heap) (hX : va_X b n xs s s.heap) (hbl : b < s.heap.size) (hbA : ¬ A b) (had : ad 1000 = b) (hn : n ≤ 2560) {i : Nat} (hi : i + 5 ≤ n) {st : sp_S} {M : gx_M} (hs : sp_ok st) (hd : sd_R st M) (hm : sm_R st M) (nxt : ∀ st' M', sp_ok st' → sd_R st' M' → sm_R st' M' → gx_G p l e room_1 s m args below meth c 274 5453 Q 4 D tc ad gn_La A s.heap 755 [gx_R 1000, gx_R 12, gx_R 0, gx_I (i : Int)] [] M') : gx_G p l e room_1 s m args below meth c 274 5453 Q 4 D tc ad gn_La A s.heap 732 [gx_R 1000, gx_R 12, gx_R 0, gx_I (i : Int)] [] M := by
  refine gx_aload_n C dL_law_732 rfl ?_
  refine gx_aload_n C dL_law_733 rfl ?_
  refine gx_iload_n C dL_law_734 rfl ?_
  refine gx_iconst C dL_law_735 ?_
  refine gx_iadd C dL_law_736 ?_
  refine gl_ld C hX hbl hbA had (by omega) dL_law_737 ?_
  refine gx_callI C 7 rfl (gd_12 gn_Hd) (c_X7_restore gn_Hd hs hd (wl_3 (xs ((i : Int) + 1).toNat))) (cwV 1 (gx_hts C) gL_law_X7_restore rfl rfl rfl (by decide +kernel) ⟨Nat.le_of_ble_eq_true rfl, Nat.le_of_ble_eq_true rfl⟩) rfl rfl (Nat.le_of_ble_eq_true rfl) ⟨Nat.le_of_ble_eq_true rfl, Nat.le_of_ble_eq_true rfl⟩ dL_law_738 (fun z1 M1 h1 => ?_)
  obtain ⟨s1, u1, q1, f1⟩ := h1
  refine gx_aload_n C dL_law_741 rfl ?_
  refine gx_aload_n C dL_law_742 rfl ?_
  refine gx_iload_n C dL_law_743 rfl ?_
  refine gx_iconst C dL_law_744 ?_
  refine gx_iadd C dL_law_745 ?_
  refine gl_ld C hX hbl hbA had (by omega) dL_law_746 ?_
  refine gx_callI C 8 rfl (gm_0 gn_Hm) (c_X8_restore gn_Hm hs (sm_Rf f1 hm) (wl_3 (xs ((i : Int) + 1).toNat))) (cwV 1 (gx_hts C) gL_law_X8_restore rfl rfl rfl (by decide +kernel) ⟨Nat.le_of_ble_eq_true rfl, Nat.le_of_ble_eq_true rfl⟩) rfl rfl (Nat.le_of_ble_eq_true rfl) ⟨Nat.le_of_ble_eq_true rfl, Nat.le_of_ble_eq_true rfl⟩ dL_law_747 (fun z2 M2 h2 => ?_)
  obtain ⟨s2, u2, q2, f2⟩ := h2
  obtain ⟨rfl, rfl⟩ := sp_restore_u u1 u2
  exact gx_eqT C dL_law_750 rfl (nxt s1 M2 (sp_restore_ok hs u1) (sd_Rf f2 q1) q2)
end LAW4
