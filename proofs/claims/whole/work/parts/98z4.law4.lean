/-! THE LAW: from its entry to its end-/
theorem wl_NW {s : State} {b : Nat} (htbl : ∀ w ∈ lw_tbl, w.before #[Value.ref b] s = true) : gx_NW s := by
  have h1 : (gx_nF.all fun q => decide (Cond.fieldLinkNest q.1 q.2.1 q.2.2.1 q.2.2.2.1 q.2.2.2.2.1 q.2.2.2.2.2 ∈ tables_1)) = true := by decide +kernel
  have h2 : (gx_nM.all fun q => decide (Cond.methodLinkNest q.1 q.2.1 q.2.2.1 q.2.2.2 ∈ tables_1)) = true := by decide +kernel
  refine ⟨fun q hq => ?_, fun q hq => ?_⟩
  · exact htbl _ (List.mem_append_right _ (of_decide_eq_true (List.all_eq_true.mp h1 q hq)))
  · exact htbl _ (List.mem_append_right _ (of_decide_eq_true (List.all_eq_true.mp h2 q hq)))
section LAW5
variable {p : Program} {l : Launch} {e : Env} {s : State} {m : MethodId} {args : Array Value} {below : List Frame} {meth : Method} {c : Code} {Q : State → Prop} {ret : Option FieldType} {D : va_G} {tc : Nat → ClassId} {ad : Nat → Nat} {A : Nat → Prop}
variable {b n : Nat} {xs : Nat → Int32}
theorem wl_loop (C : gx_C p room_1 s m args meth c cL_law RL 4 wsL_law ret D tc ad gn_La A s.heap) (hX : va_X b n xs s s.heap) (hbl : b < s.heap.size) (hbA : ¬ A b) (had : ad 1000 = b) (hn : n ≤ 2560) (hA : ∀ q, A q → s.heap.size ≤ q) (hfin : ∀ (H : Heap) (ls : Array Slot), W p l e room_1 s m args below meth c H [] 274 5453 Q (F0 m 762 ls [.int (gx_i 1)])) : ∀ (k i : Nat) (st : sp_S) (M : gx_M), n ≤ i + 5 * k → i ≤ 2570 → sp_ok st → sd_R st M → sm_R st M → gx_G p l e room_1 s m args below meth c 274 5453 Q 4 D tc ad gn_La A s.heap 18 [gx_R 1000, gx_R 12, gx_R 0, gx_I (i : Int)] [] M := by
  intro k
  induction k with
  | zero =>
    intro i st M h1 h2 hs hd hm
    refine gx_iload_n C dL_law_18 rfl ?_
    refine gx_aload_n C dL_law_19 rfl ?_
    refine gl_len C hX hbl hbA had dL_law_20 ?_
    refine gx_iconst C dL_law_21 ?_
    refine gx_isub C dL_law_22 ?_
    refine gx_icmp_gt C dL_law_23 rfl (by unfold gx_3; omega) (by unfold gx_3; omega) (fun hgt => ?_) (fun hle => absurd (by omega) hle)
    refine gx_iconst C dL_law_761 ?_
    exact fun H locs ls hP hS hl => va_forget (fun q hq => hA _ (hS.2.2 q hq)) (hfin H ls)
  | succ k ih =>
    intro i st M h1 h2 hs hd hm
    refine gx_iload_n C dL_law_18 rfl ?_
    refine gx_aload_n C dL_law_19 rfl ?_
    refine gl_len C hX hbl hbA had dL_law_20 ?_
    refine gx_iconst C dL_law_21 ?_
    refine gx_isub C dL_law_22 ?_
    refine gx_icmp_gt C dL_law_23 rfl (by unfold gx_3; omega) (by unfold gx_3; omega) (fun hgt => ?_) (fun hle => ?_)
    · refine gx_iconst C dL_law_761 ?_
      exact fun H locs ls hP hS hl => va_forget (fun q hq => hA _ (hS.2.2 q hq)) (hfin H ls)
    have hi : i + 5 ≤ n := by omega
    have nxt : ∀ (st' : sp_S) (M' : gx_M), sp_ok st' → sd_R st' M' → sm_R st' M' → gx_G p l e room_1 s m args below meth c 274 5453 Q 4 D tc ad gn_La A s.heap 755 [gx_R 1000, gx_R 12, gx_R 0, gx_I (i : Int)] [] M' := by
      intro st' M' hs' hd' hm'
      refine gx_iinc C dL_law_755 (by decide) rfl rfl ?_
      refine gx_goto C dL_law_758 rfl ?_
      rw [show (i : Int) + 5 = ((i + 5 : Nat) : Int) by omega]
      exact ih (i + 5) st' M' (by omega) (by omega) hs' hd' hm'
    refine gx_aload_n C dL_law_26 rfl ?_
    refine gx_iload_n C dL_law_27 rfl ?_
    refine gl_ld C hX hbl hbA had (by omega) dL_law_28 ?_
    refine gx_bipush C dL_law_29 rfl ?_
    refine gx_iand C (v := (xs (i : Int).toNat &&& gx_i 31).toInt) dL_law_31 (by rw [wl_it, wl_it]) ?_
    have h3 := wl_3 (xs (i : Int).toNat &&& gx_i 31)
    generalize (xs (i : Int).toNat &&& gx_i 31).toInt = r at h3 ⊢
    rcases (show r = 0 ∨ r = 1 ∨ r = 2 ∨ r = 3 ∨ r = 4 ∨ r = 5 ∨ r = 6 ∨ r = 7 ∨ r = 8 ∨ r = 9 ∨ r = 10 ∨ r = 11 ∨ r = 12 ∨ r = 13 ∨ r = 14 ∨ r = 15 ∨ r = 16 ∨ r = 17 ∨ r = 18 ∨ r = 19 ∨ r = 20 ∨ (r < 0 ∨ 20 < r) by omega) with h | h | h | h | h | h | h | h | h | h | h | h | h | h | h | h | h | h | h | h | h | h
    · exact gx_tabIn C (off := 100) (tgt := 132) dL_law_32 h3 (by omega) (by omega) (by rw [h]; rfl) rfl (wl_op0 C hX hbl hbA had hn hi hs hd hm nxt)
    · exact gx_tabIn C (off := 133) (tgt := 165) dL_law_32 h3 (by omega) (by omega) (by rw [h]; rfl) rfl (wl_op1 C hX hbl hbA had hn hi hs hd hm nxt)
    · exact gx_tabIn C (off := 186) (tgt := 218) dL_law_32 h3 (by omega) (by omega) (by rw [h]; rfl) rfl (wl_op2 C hX hbl hbA had hn hi hs hd hm nxt)
    · exact gx_tabIn C (off := 209) (tgt := 241) dL_law_32 h3 (by omega) (by omega) (by rw [h]; rfl) rfl (wl_op3 C hX hbl hbA had hn hi hs hd hm nxt)
    · exact gx_tabIn C (off := 252) (tgt := 284) dL_law_32 h3 (by omega) (by omega) (by rw [h]; rfl) rfl (wl_op4 C hX hbl hbA had hn hi hs hd hm nxt)
    · exact gx_tabIn C (off := 265) (tgt := 297) dL_law_32 h3 (by omega) (by omega) (by rw [h]; rfl) rfl (wl_op5 C hX hbl hbA had hn hi hs hd hm nxt)
    · exact gx_tabIn C (off := 308) (tgt := 340) dL_law_32 h3 (by omega) (by omega) (by rw [h]; rfl) rfl (wl_op6 C hX hbl hbA had hn hi hs hd hm nxt)
    · exact gx_tabIn C (off := 341) (tgt := 373) dL_law_32 h3 (by omega) (by omega) (by rw [h]; rfl) rfl (wl_op7 C hX hbl hbA had hn hi hs hd hm nxt)
    · exact gx_tabIn C (off := 364) (tgt := 396) dL_law_32 h3 (by omega) (by omega) (by rw [h]; rfl) rfl (wl_op8 C hX hbl hbA had hn hi hs hd hm nxt)
    · exact gx_tabIn C (off := 397) (tgt := 429) dL_law_32 h3 (by omega) (by omega) (by rw [h]; rfl) rfl (wl_op9 C hX hbl hbA had hn hi hs hd hm nxt)
    · exact gx_tabIn C (off := 450) (tgt := 482) dL_law_32 h3 (by omega) (by omega) (by rw [h]; rfl) rfl (wl_op10 C hX hbl hbA had hn hi hs hd hm nxt)
    · exact gx_tabIn C (off := 503) (tgt := 535) dL_law_32 h3 (by omega) (by omega) (by rw [h]; rfl) rfl (wl_op11 C hX hbl hbA had hn hi hs hd hm nxt)
    · exact gx_tabIn C (off := 536) (tgt := 568) dL_law_32 h3 (by omega) (by omega) (by rw [h]; rfl) rfl (wl_op12 C hX hbl hbA had hn hi hs hd hm nxt)
    · exact gx_tabIn C (off := 559) (tgt := 591) dL_law_32 h3 (by omega) (by omega) (by rw [h]; rfl) rfl (wl_op13 C hX hbl hbA had hn hi hs hd hm nxt)
    · exact gx_tabIn C (off := 572) (tgt := 604) dL_law_32 h3 (by omega) (by omega) (by rw [h]; rfl) rfl (wl_op14 C hX hbl hbA had hn hi hs hd hm nxt)
    · exact gx_tabIn C (off := 585) (tgt := 617) dL_law_32 h3 (by omega) (by omega) (by rw [h]; rfl) rfl (wl_op15 C hX hbl hbA had hn hi hs hd hm nxt)
    · exact gx_tabIn C (off := 638) (tgt := 670) dL_law_32 h3 (by omega) (by omega) (by rw [h]; rfl) rfl (wl_op16 C hX hbl hbA had hn hi hs hd hm nxt)
    · exact gx_tabIn C (off := 651) (tgt := 683) dL_law_32 h3 (by omega) (by omega) (by rw [h]; rfl) rfl (wl_op17 C hX hbl hbA had hn hi hs hd hm nxt)
    · exact gx_tabIn C (off := 664) (tgt := 696) dL_law_32 h3 (by omega) (by omega) (by rw [h]; rfl) rfl (wl_op18 C hX hbl hbA had hn hi hs hd hm nxt)
    · exact gx_tabIn C (off := 677) (tgt := 709) dL_law_32 h3 (by omega) (by omega) (by rw [h]; rfl) rfl (wl_op19 C hX hbl hbA had hn hi hs hd hm nxt)
    · exact gx_tabIn C (off := 700) (tgt := 732) dL_law_32 h3 (by omega) (by omega) (by rw [h]; rfl) rfl (wl_op20 C hX hbl hbA had hn hi hs hd hm nxt)
    · exact gx_tabOut C (tgt := 755) dL_law_32 h3 (by omega) rfl (nxt st M hs hd hm)
end LAW5
set_option maxRecDepth 100000 in
theorem wl_start (MNA : gn_MNA) {p : Program} {e : Env} {s : State} {m : MethodId} {below : List Frame} {meth : Method} {c : Code} (l : Launch) {b n : Nat} {xs : Nat → Int32} {ret0 : Option FieldType} (hn : n ≤ 2560) (hexec : p.tables.exec = Jvm.exec) (hcode : c.code = cL_law) (hret : meth.sig.returnType = ret0) (hml : c.maxLocals = 4) (hown : s.vm.findClass RL = some m.cls) (htbl : ∀ w ∈ lw_tbl, w.before #[Value.ref b] s = true) (hX : va_X b n xs s s.heap) (hbl : b < s.heap.size) (hlk : meth.locks = false) {Q : State → Prop} (hfin : ∀ (H : Heap) (ls : Array Slot), W p l e room_1 s m #[Value.ref b] below meth c H [] 274 5453 Q (F0 m 762 ls [.int (gx_i 1)])) : W p l e room_1 s m #[Value.ref b] below meth c s.heap [] 0 0 Q (entryFrame m ([Value.ref b] : List Value).toArray 4) := by
  have hts : ∀ w ∈ wsL_law, w.before #[Value.ref b] s = true := fun w hw => htbl w (wsL_law_in w hw)
  obtain ⟨D, hD⟩ := wl_D hts
  have o3 := htbl _ (show Cond.arrayOver (.array .int) ∈ lw_tbl by decide +kernel)
  have o4 := htbl _ (show Cond.arrayOver (.object "PeirceDesk$State") ∈ lw_tbl by decide +kernel)
  have o5 := htbl _ (show Cond.arrayOver (.object "PeirceDesk$Frame") ∈ lw_tbl by decide +kernel)
  obtain ⟨tc, htc⟩ := wl_tc (s := s) (args := #[Value.ref b]) (htbl _ (show Cond.arrayClass .int ∈ lw_tbl by decide +kernel)) (htbl _ (show Cond.arrayClass .char ∈ lw_tbl by decide +kernel)) (htbl _ (show Cond.arrayClass .boolean ∈ lw_tbl by decide +kernel)) o3 o4 o5
  have hK : va_K D vwCl (gx_tys tc) s := ⟨hD, htc⟩
  have hN : gx_NW s := wl_NW htbl
  have hO : gn_O s := ⟨o4, o5, o3⟩
  obtain ⟨ad, hcg, h1000⟩ : ∃ ad : Nat → Nat, (∀ c, c < 274 → gn_ad s.heap.size c = ad c) ∧ ad 1000 = b := ⟨fun c => if c = 1000 then b else gn_ad s.heap.size c, fun c hc => (if_neg (by omega)).symm, if_pos rfl⟩
  subst h1000
  have hA0 := gn_aA (A := fun q => s.heap.size ≤ q) (b := s.heap.size) (fun q h => h)
  have ha : gn_a (fun q => s.heap.size ≤ q) ad := ⟨fun i j hi hj he => hA0.1 i j hi hj (by rw [hcg i hi, hcg j hj]; exact he), fun c hc => by rw [← hcg c hc]; exact hA0.2 c hc⟩
  have hlen : gn_La.length = 274 := by decide +kernel
  have C : gn_C p room_1 s m #[Value.ref (ad 1000)] meth c cL_law RL 4 wsL_law ret0 D tc ad (fun q => s.heap.size ≤ q) s.heap.size := ⟨⟨hexec, hcode, hml, hown, hts, hK, hN, hlk, hret, fun i _ hi => absurd hi (Nat.not_lt_zero i), fun i hi => absurd hi (Nat.not_lt_zero i), fun q h => h⟩, ha, hO, rfl⟩
  have CL : gx_C p room_1 s m #[Value.ref (ad 1000)] meth c cL_law RL 4 wsL_law ret0 D tc ad gn_La (fun q => s.heap.size ≤ q) s.heap := ⟨hexec, hcode, hml, hown, hts, hK, hN, hlk, hret, fun i j hi hj he => ha.1 i j (by rw [hlen] at hi; exact hi) (by rw [hlen] at hj; exact hj) he, fun i hi => ha.2 i (by rw [hlen] at hi; exact hi), fun q h => h⟩
  have o12 : ad 12 = s.heap.size := by
    rw [← hcg 12 (by decide)]
    rfl
  have o0 : ad 0 = s.heap.size + 262 := by
    rw [← hcg 0 (by decide)]
    rfl
  have o18 : ad 18 = s.heap.size + 261 := by
    rw [← hcg 18 (by decide)]
    rfl
  have key : gp_G p l e room_1 s m #[Value.ref (ad 1000)] below meth c 0 0 Q 4 ad (gn_P D ad (fun q => s.heap.size ≤ q) s.heap (fun _ => none)) 0 [gx_R 1000, gx_U, gx_U, gx_U] [] := by
    refine gn_new C (k := 12) 7 tyX7 rfl wl_n7 tyX7_ok (show Cond.classLink RL 7 RX7 ∈ wsL_law by decide +kernel) (show Cond.instantiable RX7 6 ∈ wsL_law by decide +kernel) (show Cond.initialized RX7 ∈ wsL_law by decide +kernel) gn_fs7 (by decide) (by omega) (Or.inl rfl) ⟨Nat.le_of_ble_eq_true rfl, Nat.le_of_ble_eq_true rfl⟩ dL_law_0 ?_
    refine gp_dup C.1 dL_law_3 rfl ?_
    refine gn_callX C hcg (b := 12) (mc := 261) (ms := 2346) (by decide) (gn_Iz (by omega) (c_X7_init MNA (b := s.heap.size) (tc := tc) (gn_u_eq _ _ _))) (cwI 0 (gx_hts C.1) gL_law_X7_init rfl rfl rfl (gx_hts C.1 (.initialized RX7) (by decide +kernel)) (gx_hts C.1 (.methodLink RL 9 yX7_init) (by decide +kernel)) (gx_hts C.1 (.instanceMethod yX7_init) (by decide +kernel)) rfl (by decide +kernel) ⟨Nat.le_of_ble_eq_true rfl, Nat.le_of_ble_eq_true rfl⟩) (Or.inr ⟨12, _, gn_u_eq _ _ _, by omega⟩) (Nat.le_of_ble_eq_true rfl) ⟨Nat.le_of_ble_eq_true rfl, Nat.le_of_ble_eq_true rfl⟩ dL_law_4 ?_
    refine gp_astore_n C.1 dL_law_7 (by decide) rfl ?_
    refine gn_new C (k := 0) 8 tyX8 rfl wl_n8 tyX8_ok (show Cond.classLink RL 10 RX8 ∈ wsL_law by decide +kernel) (show Cond.instantiable RX8 20 ∈ wsL_law by decide +kernel) (show Cond.initialized RX8 ∈ wsL_law by decide +kernel) gn_fs8 (by decide) (by omega) (Or.inr ⟨18, _, gn_f_in (by decide), by omega⟩) ⟨Nat.le_of_ble_eq_true rfl, Nat.le_of_ble_eq_true rfl⟩ dL_law_8 ?_
    refine gp_dup C.1 dL_law_11 rfl ?_
    refine gn_callX C hcg (b := 0) (mc := 11) (ms := 3081) (by decide) (gn_Iz (by omega) (c_X8_init (b := s.heap.size) (tc := tc) (gn_u_eq _ _ _))) (cwI 0 (gx_hts C.1) gL_law_X8_init rfl rfl rfl (gx_hts C.1 (.initialized RX8) (by decide +kernel)) (gx_hts C.1 (.methodLink RL 12 yX8_init) (by decide +kernel)) (gx_hts C.1 (.instanceMethod yX8_init) (by decide +kernel)) rfl (by decide +kernel) ⟨Nat.le_of_ble_eq_true rfl, Nat.le_of_ble_eq_true rfl⟩) (Or.inr ⟨0, _, gn_u_eq _ _ _, by omega⟩) (Nat.le_of_ble_eq_true rfl) ⟨Nat.le_of_ble_eq_true rfl, Nat.le_of_ble_eq_true rfl⟩ dL_law_12 ?_
    refine gp_astore_n C.1 dL_law_15 (by decide) rfl ?_
    refine gp_iconst C.1 dL_law_16 ?_
    refine gp_istore_n C.1 dL_law_17 (by decide) rfl ?_
    intro H locs ls hP hl
    refine wl_loop CL hX hbl (Nat.not_le.mpr hbl) rfl hn (fun q h => h) hfin 512 0 sp_0 gn_M0 (by omega) (by omega) sp_0ok sd_0 sm_0 H locs ls ?_ hP.2 hl
    intro k q hq
    have hk := (gx_of hq).1
    have h2 : gn_La[k]? = some gn_La[k] := List.getElem?_eq_getElem hk
    rw [gx_at h2] at hq
    cases hq
    rw [hlen] at hk
    have hw := hP.1 k (gn_e tc (gn_ad s.heap.size) k) (by
      by_cases q : k < 12
      · exact gn_f_in ⟨Nat.zero_le _, q⟩
      · rw [gn_f_ne (by omega), gn_u_ne (by omega), gn_f_in (by omega)])
    rw [gn_e_at h2] at hw
    exact wl_ext hcg (List.all_eq_true.mp wl_rngs _ (List.getElem_mem _)) hw.2
  show W p l e room_1 s m #[Value.ref (ad 1000)] below meth c s.heap [] 0 0 Q (entryFrame m (([gx_R 1000] : List gx_V).map (gx_T ad)).toArray 4)
  rw [lg_entry_eq]
  exact key s.heap [] _ ⟨fun c e h => (by cases h), va_S.rf⟩ (gx_begin (ad := ad) (av := [gx_R 1000]) (n := 4) (by decide))
