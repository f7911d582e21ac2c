/-! THE LAW: its start -/
set_option maxRecDepth 100000 in
theorem wl_start (MNA : gn_MNA) {p : Program} {e : Env} {s : State} {m : MethodId} {below : List Frame} {meth : Method} {c : Code} (l : Launch) {b n : Nat} {xs : Nat → Int32} {ret0 : Option FieldType} (hn : n ≤ 260) (hexec : p.tables.exec = Jvm.exec) (hcode : c.code = cL_law) (hret : meth.sig.returnType = ret0) (hml : c.maxLocals = 8) (hown : s.vm.findClass RL = some m.cls) (htbl : ∀ w ∈ lw_tbl, w.before #[Value.ref b] s = true) (hX : va_X b n xs s s.heap) (hbl : b < s.heap.size) (hlk : meth.locks = false) {Q : State → Prop} (hfin : ∀ (pc : Nat), pc = 152 ∨ pc = 243 → ∀ (H : Heap) (ls : Array Slot), W p l e room_1 s m #[Value.ref b] below meth c H [] 262 2352 Q (F0 m pc ls [.int (gx_i 1)])) : W p l e room_1 s m #[Value.ref b] below meth c s.heap [] 0 0 Q (entryFrame m ([Value.ref b] : List Value).toArray 8) := by
  have hts : ∀ w ∈ wsL_law, w.before #[Value.ref b] s = true := fun w hw => htbl w (wsL_law_in w hw)
  obtain ⟨D, hD⟩ := wl_D hts
  have o3 := htbl _ (show Cond.arrayOver (.array .int) ∈ lw_tbl by decide +kernel)
  have o4 := htbl _ (show Cond.arrayOver (.object "PeirceDesk$State") ∈ lw_tbl by decide +kernel)
  have o5 := htbl _ (show Cond.arrayOver (.object "PeirceDesk$Frame") ∈ lw_tbl by decide +kernel)
  obtain ⟨tc, htc⟩ := wl_tc (s := s) (args := #[Value.ref b]) (htbl _ (show Cond.arrayClass .int ∈ lw_tbl by decide +kernel)) (htbl _ (show Cond.arrayClass .char ∈ lw_tbl by decide +kernel)) (htbl _ (show Cond.arrayClass .boolean ∈ lw_tbl by decide +kernel)) o3 o4 o5
  have hK : va_K D vwCl (gx_tys tc) s := ⟨hD, htc⟩
  have hN : gx_NW s := wl_NW htbl
  have hO : gn_O s := ⟨o4, o5, o3⟩
  obtain ⟨ad, hcg, h1000⟩ : ∃ ad : Nat → Nat, (∀ c, c < 274 → gn_ad s.heap.size c = ad c) ∧ ad 1000 = b := ⟨fun c => if c = 1000 then b else gn_ad s.heap.size c, fun c hc => (if_neg (by omega)).symm, if_pos rfl⟩
  subst h1000
  have hA0 := gn_aA (A := fun q => s.heap.size ≤ q) (b := s.heap.size) (fun q h => h)
  have ha : gn_a (fun q => s.heap.size ≤ q) ad := ⟨fun i j hi hj he => hA0.1 i j hi hj (by rw [hcg i hi, hcg j hj]; exact he), fun c hc => by rw [← hcg c hc]; exact hA0.2 c hc⟩
  have hlen : gn_La.length = 274 := by decide +kernel
  have C : gn_C p room_1 s m #[Value.ref (ad 1000)] meth c cL_law RL 8 wsL_law ret0 D tc ad (fun q => s.heap.size ≤ q) s.heap.size := ⟨⟨hexec, hcode, hml, hown, hts, hK, hN, hlk, hret, fun i _ hi => absurd hi (Nat.not_lt_zero i), fun i hi => absurd hi (Nat.not_lt_zero i), fun q h => h⟩, ha, hO, rfl⟩
  have CL : gx_C p room_1 s m #[Value.ref (ad 1000)] meth c cL_law RL 8 wsL_law ret0 D tc ad gn_La (fun q => s.heap.size ≤ q) s.heap := ⟨hexec, hcode, hml, hown, hts, hK, hN, hlk, hret, fun i j hi hj he => ha.1 i j (by rw [hlen] at hi; exact hi) (by rw [hlen] at hj; exact hj) he, fun i hi => ha.2 i (by rw [hlen] at hi; exact hi), fun q h => h⟩
  have o12 : ad 12 = s.heap.size := by
    rw [← hcg 12 (by decide)]
    rfl
  have key : gp_G p l e room_1 s m #[Value.ref (ad 1000)] below meth c 0 0 Q 8 ad (gn_P D ad (fun q => s.heap.size ≤ q) s.heap (fun _ => none)) 0 [gx_R 1000, gx_U, gx_U, gx_U, gx_U, gx_U, gx_U, gx_U] [] := by
    refine gn_new C (k := 12) 7 tyX7 rfl wl_n7 tyX7_ok (show Cond.classLink RL 11 RX7 ∈ wsL_law by decide +kernel) (show Cond.instantiable RX7 6 ∈ wsL_law by decide +kernel) (show Cond.initialized RX7 ∈ wsL_law by decide +kernel) gn_fs7 (by decide) (by omega) (Or.inl rfl) ⟨Nat.le_of_ble_eq_true rfl, Nat.le_of_ble_eq_true rfl⟩ dL_law_0 ?_
    refine gp_dup C.1 dL_law_3 rfl ?_
    refine gn_callX C hcg (b := 12) (mc := 261) (ms := 2346) (by decide) (gn_Iz (by omega) (c_X7_init MNA (b := s.heap.size) (tc := tc) (gn_u_eq _ _ _))) (cwI 0 (gx_hts C.1) gL_law_X7_init rfl rfl rfl (gx_hts C.1 (.initialized RX7) (by decide +kernel)) (gx_hts C.1 (.methodLink RL 160 yX7_init) (by decide +kernel)) (gx_hts C.1 (.instanceMethod yX7_init) (by decide +kernel)) rfl (by decide +kernel) ⟨Nat.le_of_ble_eq_true rfl, Nat.le_of_ble_eq_true rfl⟩) (Or.inr ⟨12, _, gn_u_eq _ _ _, by omega⟩) (Nat.le_of_ble_eq_true rfl) ⟨Nat.le_of_ble_eq_true rfl, Nat.le_of_ble_eq_true rfl⟩ dL_law_4 ?_
    refine gp_astore_n C.1 dL_law_7 (by decide) rfl ?_
    intro H locs ls hP hl
    refine wl_body CL hX hbl (Nat.not_le.mpr hbl) rfl hn (fun q h => h) hfin H locs ls ?_ hP.2 hl
    intro k q hq
    obtain ⟨hk, hqe⟩ := gx_of hq
    rw [gn_k0] at hk hqe
    rw [hlen] at hk
    have h2 : gn_La[12 + k]? = some gn_La[12 + k] := List.getElem?_eq_getElem (by rw [hlen]; exact hk)
    have hw := hP.1 (12 + k) (gn_e tc (gn_ad s.heap.size) (12 + k)) (by rw [gn_f_in ⟨by omega, by omega⟩])
    rw [gn_e_at h2] at hw
    have hv := wl_ext hcg (List.all_eq_true.mp wl_rngs _ (List.getElem_mem _)) hw.2
    rw [hqe, List.getD_eq_getElem?_getD, h2]
    exact hv
  show W p l e room_1 s m #[Value.ref (ad 1000)] below meth c s.heap [] 0 0 Q (entryFrame m (([gx_R 1000] : List gx_V).map (gx_T ad)).toArray 8)
  rw [lg_entry_eq]
  exact key s.heap [] _ ⟨fun c e h => (by cases h), va_S.rf⟩ (gx_begin (ad := ad) (av := [gx_R 1000]) (n := 8) (by decide))
