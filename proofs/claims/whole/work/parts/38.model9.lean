theorem gx_met_w {l : Launch} {y : MethodName} {ws : List Cond} {rm : Room} {Pc : Array Value → State → Prop} {Qc Qc' : Array Value → State → Outcome → State → Prop} {mc ms : Nat} {free : Addr → Prop} (h : Met l y ws rm Pc Qc mc ms free) (hq : ∀ a s o t, Qc a s o t → Qc' a s o t) : Met l y ws rm Pc Qc' mc ms free := by
  intro p e ha hc hk s m args below hf happ hP hK
  obtain ⟨n, o, h1, h2, h3, h4, h5⟩ := h p e ha hc hk s m args below hf happ hP hK
  exact ⟨n, o, h1, h2, h3, hq _ _ _ _ h4, h5⟩
theorem gx_wk_v {La : List gx_K} {y : MethodName} {ws : List Cond} {d : Nat} {av : List gx_V} {M : gx_M} {post post' : gx_M → Prop} (h : gx_Cv La y ws d av M post) (hq : ∀ M', post M' → post' M') : gx_Cv La y ws d av M post' :=
  fun l D tc ad sz => gx_met_w (h l D tc ad sz) (fun a s o t hx => by
    obtain ⟨⟨u, h1, h2, h3⟩, h4⟩ := hx
    exact ⟨⟨u, h1, hq u h2, h3⟩, h4⟩)
theorem gx_wk_i {La : List gx_K} {y : MethodName} {ws : List Cond} {d : Nat} {av : List gx_V} {M : gx_M} {post post' : Int → gx_M → Prop} (h : gx_Ci La y ws d av M post) (hq : ∀ z M', post z M' → post' z M') : gx_Ci La y ws d av M post' :=
  fun l D tc ad sz => gx_met_w (h l D tc ad sz) (fun a s o t hx => by
    obtain ⟨⟨r, u, h1, ⟨z, h5, h6⟩, h3⟩, h4⟩ := hx
    exact ⟨⟨r, u, h1, ⟨z, h5, hq z u h6⟩, h3⟩, h4⟩)
theorem mx_id_at (n : Int) (k : Nat) : mx_id n k = if k % 4 = 0 ∧ ((k / 4 : Nat) : Int) < n then 1 else 0 := rfl
theorem sp_bel_ok {s : sp_S} (hs : sp_ok s) {r : Int} (hr : r = -6 ∨ (0 ≤ r ∧ r ≤ 7)) : mx_ok (s.1 82) (sp_bel s r) := by
  have hm := hs.1.2.1
  intro k hk
  unfold sp_bel
  split
  · rw [mx_id_at]
    split <;> omega
  · exact (hs.1.2.2.1 r.toNat (by omega)).1 k hk
theorem mx_det_c {n : Nat} {m : Int} {a b : Nat → Int} (h : ∀ k, k < 9 → a k = b k) : mx_det n m a = mx_det n m b := by
  unfold mx_det
  simp only [mx_d3s, mx_at, h 0 (by omega), h 1 (by omega), h 2 (by omega), h 3 (by omega), h 4 (by omega), h 5 (by omega), h 6 (by omega), h 7 (by omega), h 8 (by omega), Nat.reduceMod, Nat.reduceMul, Nat.reduceAdd]
set_option maxRecDepth 100000 in
set_option maxHeartbeats 4000000 in
theorem c_X8_base {La : List gx_K} (hM : gm_H La) {M : gx_M} {s : sp_S} (hs : sp_ok s) (hR : sm_R s M) {r : Int} (hr : gx_3 r) : gx_Ci La yX8_base wsX8_base 2 [gx_R 0, gx_I r] M (fun z M' => ∃ s', sp_base s r z s' ∧ sm_Q s' M M') := by
  have hz := sm_Z hs hR
  have hzm := gm_Zm hz
  have hn := sm_n hs
  have bad1 : ¬(r = -6 ∨ (0 ≤ r ∧ r ≤ 7)) → ∃ s', sp_base s r (-1) s' ∧ sm_Q s' M M := fun h => ⟨s, by unfold sp_base; rw [if_neg h]; exact ⟨rfl, rfl⟩, sm_XQ hR (gm_Xr M)⟩
  refine gx_start_i (L := [gx_R 0, gx_I r, gx_U, gx_U]) (by decide) rfl rfl (Nat.le_of_ble_eq_true rfl) rfl ?_
  intro _ _ _ _ _ _ _ _ _ _ _ _ C
  have rest : ∀ {l D tc ad p e s2 m args below meth c} (C : gx_C p (gx_rm 2) s2 m args meth c cX8_base yX8_base.cls 4 wsX8_base (some .int) D tc ad La (gx_A ad La.length s2.heap.size) s2.heap), (r = -6 ∨ (0 ≤ r ∧ r ≤ 7)) → gx_G p l e (gx_rm 2) s2 m args below meth c 0 0 (MQ below (va_Qi (fun q (M' : gx_M) => ∃ z, q = gx_i z ∧ ∃ s', sp_base s r z s' ∧ sm_Q s' M M') (fun M' t => va_P D vwCl (gx_w La tc ad M') t.heap) (gx_A ad La.length s2.heap.size)) args s2 0 0 (gx_A ad La.length s2.heap.size)) 4 D tc ad La (gx_A ad La.length s2.heap.size) s2.heap 15 [gx_R 0, gx_I r, gx_U, gx_U] [] M := by
    intro l D tc ad p e s2 m args below meth c C hq
    have ob := sp_bel_ok hs hq
    refine gx_aload_n C dX8_base_15 rfl ?_
    refine gx_iconst C dX8_base_16 ?_
    refine gx_callV C 8 rfl (gm_0 hM) (c_X8_blank hM (t := 0) (by omega)) (cwV 1 (gx_hts C) gX8_base_X8_blank rfl rfl rfl (by decide +kernel) ⟨Nat.le_of_ble_eq_true rfl, Nat.le_of_ble_eq_true rfl⟩) rfl rfl (Nat.le_of_ble_eq_true rfl) ⟨Nat.le_refl _, Nat.le_refl _⟩ dX8_base_17 (fun M1 h1 => ?_)
    refine gx_iconst C dX8_base_20 ?_
    refine gx_istore_n C dX8_base_21 (by decide) rfl ?_
    refine gx_for 9 (fun k (_ : gx_M) => [gx_R 0, gx_I r, gx_I (k : Int), gx_U]) (fun M' => M') (fun k M' => M' = gx_blk M 6 0 9 (fun i => if i < k then sp_bel s r i else 0)) 0 M1 (by omega) h1 (fun k M' hk hI ih => ?_) (fun M' hI => ?_)
    · have z' : gm_Z M' (s.1 81).toNat (s.1 82) := by rw [hI]; exact gm_Zb hz
      have hstep : ∀ x : gx_V, gx_G p l e (gx_rm 2) s2 m args below meth c 0 0 (MQ below (va_Qi (fun q (M' : gx_M) => ∃ z, q = gx_i z ∧ ∃ s', sp_base s r z s' ∧ sm_Q s' M M') (fun M' t => va_P D vwCl (gx_w La tc ad M') t.heap) (gx_A ad La.length s2.heap.size)) args s2 0 0 (gx_A ad La.length s2.heap.size)) 4 D tc ad La (gx_A ad La.length s2.heap.size) s2.heap 22 [gx_R 0, gx_I r, gx_I ((k : Int) + 1), x] [] (gx_u M' 6 (0 + k) (sp_bel s r k)) := fun x => gx_weak (L' := [gx_R 0, gx_I r, gx_I ((k + 1 : Nat) : Int), gx_U]) ⟨Or.inr rfl, Or.inr rfl, Or.inr rfl, Or.inl rfl, trivial⟩ (ih _ (by
        rw [hI, gx_blk_u hk]
        refine gx_blk_f (fun i hi => ?_)
        by_cases e : i = k
        · rw [if_pos e, if_pos (by omega), e]
        · rw [if_neg e]
          by_cases e2 : i < k
          · rw [if_pos e2, if_pos (by omega)]
          · rw [if_neg e2, if_neg (by omega)]))
      have hone : ∀ q : Int, (q = 1 ∧ (k % 4 = 0 ∧ ((k / 4 : Nat) : Int) < s.1 81)) ∨ (q = 0 ∧ ¬(k % 4 = 0 ∧ ((k / 4 : Nat) : Int) < s.1 81)) → gx_G p l e (gx_rm 2) s2 m args below meth c 0 0 (MQ below (va_Qi (fun q (M' : gx_M) => ∃ z, q = gx_i z ∧ ∃ s', sp_base s r z s' ∧ sm_Q s' M M') (fun M' t => va_P D vwCl (gx_w La tc ad M') t.heap) (gx_A ad La.length s2.heap.size)) args s2 0 0 (gx_A ad La.length s2.heap.size)) 4 D tc ad La (gx_A ad La.length s2.heap.size) s2.heap 52 [gx_R 0, gx_I r, gx_I (k : Int), gx_U] [gx_I q] M' := by
        intro q hq1
        refine gx_istore_n C dX8_base_52 (by decide) rfl ?_
        refine gx_aload_n C dX8_base_53 rfl ?_
        refine gx_getR C 8 _ 7 rfl (gm_0 hM) rfl (by decide) nX8_base_8 (gx_hts C _ fX8_base_27) dX8_base_54 ?_
        refine gx_iconst C dX8_base_57 ?_
        refine gx_iload_n C dX8_base_58 rfl ?_
        refine gx_iadd C dX8_base_59 ?_
        refine gx_iload_n C dX8_base_60 rfl ?_
        refine gx_bipush C dX8_base_61 rfl ?_
        refine gx_icmp_eq C dX8_base_63 rfl (by unfold gx_3; omega) (by unfold gx_3; omega) (fun hb63 => ?_) (fun hb63 => ?_)
        · have hel : sp_bel s r k = q := by
            unfold sp_bel
            rw [if_pos hb63, mx_id_at]
            rcases hq1 with ⟨rfl, h⟩ | ⟨rfl, h⟩
            · rw [if_pos h]
            · rw [if_neg h]
          refine gx_iload_n C dX8_base_80 rfl ?_
          refine gx_if_eq C dX8_base_81 rfl (by unfold gx_3; omega) (fun hb81 => ?_) (fun hb81 => ?_)
          · have q0 : q = 0 := hb81
            subst q0
            refine gx_iconst C dX8_base_88 ?_
            refine gx_iastore C (gm_6 hM) (by omega) dX8_base_89 (show _ = 0 + k by omega) ?_
            refine gx_iinc C dX8_base_90 (by decide) rfl rfl ?_
            refine gx_goto C dX8_base_93 rfl ?_
            rw [← hel]
            exact hstep _
          · have q0 : q = 1 := by omega
            subst q0
            refine gx_iconst C dX8_base_84 ?_
            refine gx_goto C dX8_base_85 rfl ?_
            refine gx_iastore C (gm_6 hM) (by omega) dX8_base_89 (show _ = 0 + k by omega) ?_
            refine gx_iinc C dX8_base_90 (by decide) rfl rfl ?_
            refine gx_goto C dX8_base_93 rfl ?_
            have := hstep (gx_I 1)
            rw [hel] at this
            exact this
        · obtain ⟨r', rfl⟩ : ∃ i : Nat, r = i := ⟨r.toNat, by omega⟩
          have e1 : M' 1 ((9 * (r' : Int) + (k : Int)).toNat) = sp_bel s r' k := by
            rw [hI, gx_blk_nc (by decide), show (9 * (r' : Int) + (k : Int)).toNat = 9 * r' + k by omega, hR.1 _ (by omega)]
            unfold sp_bel
            rw [if_neg hb63]
            exact (mx_of_at hk).symm
          refine gx_aload_n C dX8_base_66 rfl ?_
          refine gx_getR C 8 _ 0 rfl (gm_0 hM) rfl (by decide) nX8_base_8 (gx_hts C _ fX8_base_7) dX8_base_67 ?_
          refine gx_bipush C dX8_base_70 rfl ?_
          refine gx_iload_n C dX8_base_72 rfl ?_
          refine gx_imul C dX8_base_73 ?_
          refine gx_iload_n C dX8_base_74 rfl ?_
          refine gx_iadd C dX8_base_75 ?_
          refine gx_iaload C (gm_1 hM) (by omega) dX8_base_76 e1 ?_
          refine gx_goto C dX8_base_77 rfl ?_
          refine gx_iastore C (gm_6 hM) (by omega) dX8_base_89 (show _ = 0 + k by omega) ?_
          refine gx_iinc C dX8_base_90 (by decide) rfl rfl ?_
          refine gx_goto C dX8_base_93 rfl ?_
          exact hstep _
      refine gx_iload_n C dX8_base_22 rfl ?_
      refine gx_bipush C dX8_base_23 rfl ?_
      refine gx_icmp_ge C dX8_base_25 rfl (by unfold gx_3; omega) (by unfold gx_3; omega) (fun hb25 => absurd hb25 (by omega)) (fun hb25 => ?_)
      refine gx_iload_n C dX8_base_28 rfl ?_
      refine gx_iconst C dX8_base_29 ?_
      refine gx_irem C dX8_base_30 (by unfold gx_3; omega) (by unfold gx_3; omega) (by omega) (gx_tmod (by omega)) ?_
      refine gx_if_ne C dX8_base_31 rfl (by unfold gx_3; omega) (fun hb31 => ?_) (fun hb31 => ?_)
      · refine gx_iconst C dX8_base_51 ?_
        exact hone 0 (Or.inr ⟨rfl, by omega⟩)
      · refine gx_iload_n C dX8_base_34 rfl ?_
        refine gx_iconst C dX8_base_35 ?_
        refine gx_idiv C dX8_base_36 (by unfold gx_3; omega) (by unfold gx_3; omega) (by omega) (gx_tdiv (by omega)) ?_
        refine gx_aload_n C dX8_base_37 rfl ?_
        refine gx_getR C 8 _ 0 rfl (gm_0 hM) rfl (by decide) nX8_base_8 (gx_hts C _ fX8_base_7) dX8_base_38 ?_
        refine gx_bipush C dX8_base_41 rfl ?_
        refine gx_iaload C (gm_1 hM) (by omega) dX8_base_43 z'.1 ?_
        refine gx_icmp_ge C dX8_base_44 rfl (by unfold gx_3; omega) (by unfold gx_3; omega) (fun hb44 => ?_) (fun hb44 => ?_)
        · refine gx_iconst C dX8_base_51 ?_
          exact hone 0 (Or.inr ⟨rfl, by omega⟩)
        · refine gx_iconst C dX8_base_47 ?_
          refine gx_goto C dX8_base_48 rfl ?_
          exact hone 1 (Or.inl ⟨rfl, by omega⟩)
    · have hf : M' = gx_blk M 6 0 9 (sp_bel s r) := by rw [hI]; exact gx_blk_f (fun i hi => if_pos hi)
      have z' : gm_Z M' (s.1 81).toNat (s.1 82) := by rw [hI]; exact gm_Zb hz
      have e0 : ∀ k, k < 9 → mx_of (M' 6) 0 k = sp_bel s r k := fun k hk => by
        rw [hf, mx_of_blk]
        exact if_pos hk
      have hdet : mx_det (s.1 81).toNat (s.1 82) (mx_of (M' 6) 0) = mx_det (s.1 81).toNat (s.1 82) (sp_bel s r) := mx_det_c e0
      have hX : gm_X M M' := by rw [hf]; exact gm_Xb
      have hdb := mx_det_b (n := (s.1 81).toNat) (m := s.1 82) hzm.1 (sp_bel s r)
      refine gx_iload_n C dX8_base_22 rfl ?_
      refine gx_bipush C dX8_base_23 rfl ?_
      refine gx_icmp_ge C dX8_base_25 rfl (by unfold gx_3; omega) (by unfold gx_3; omega) (fun hb25 => ?_) (fun hb25 => absurd (by omega) hb25)
      refine gx_aload_n C dX8_base_96 rfl ?_
      refine gx_iconst C dX8_base_97 ?_
      refine gx_callI C 8 rfl (gm_0 hM) (c_X8_determinant hM z' (a := 0) (by omega) (fun k hk => by rw [e0 k hk]; exact ob k hk)) (cwV 1 (gx_hts C) gX8_base_X8_determinant rfl rfl rfl (by decide +kernel) ⟨Nat.le_of_ble_eq_true rfl, Nat.le_of_ble_eq_true rfl⟩) rfl rfl (Nat.le_of_ble_eq_true rfl) ⟨Nat.le_refl _, Nat.le_refl _⟩ dX8_base_98 (fun z M2 h2 => ?_)
      obtain ⟨rfl, h2⟩ := h2
      rw [hdet] at h2
      subst h2
      refine gx_istore_n C dX8_base_101 (by decide) rfl ?_
      refine gx_iload_n C dX8_base_102 rfl ?_
      refine gx_if_ne C dX8_base_103 rfl (by unfold gx_3; omega) (fun hb103 => ?_) (fun hb103 => ?_)
      · refine gx_aload_n C dX8_base_109 rfl ?_
        refine gx_callV C 8 rfl (gm_0 hM) (c_X8_record hM (sm_X hR hX) hs.2.1) (cwV 0 (gx_hts C) gX8_base_X8_record rfl rfl rfl (by decide +kernel) ⟨Nat.le_of_ble_eq_true rfl, Nat.le_of_ble_eq_true rfl⟩) rfl rfl (Nat.le_of_ble_eq_true rfl) ⟨Nat.le_refl _, Nat.le_refl _⟩ dX8_base_110 (fun M3 h8 => ?_)
        obtain ⟨⟨hR2, hF2⟩, h9, h10⟩ := h8
        have e6 : M3 6 = M2 6 := h9 6 (by decide) (by decide)
        refine gx_iconst C dX8_base_113 ?_
        refine gx_istore_n C dX8_base_114 (by decide) rfl ?_
        refine gx_for 9 (fun k (_ : gx_M) => [gx_R 0, gx_I r, gx_I (mx_det (s.1 81).toNat (s.1 82) (sp_bel s r)), gx_I (k : Int)]) (fun M' => M') (fun k M' => M' = gx_blk M3 1 72 k (sp_bel s r)) 0 M3 (by omega) gx_blk_0.symm (fun k M4 hk h4 ih => ?_) (fun M4 h4 => ?_)
        · have e1 : M4 6 ((0 + (k : Int)).toNat) = sp_bel s r k := by
            rw [h4, gx_blk_nc (by decide), e6, ← e0 k hk, mx_of_at hk, show (0 + (k : Int)).toNat = 0 + k by omega]
          refine gx_iload_n C dX8_base_115 rfl ?_
          refine gx_bipush C dX8_base_116 rfl ?_
          refine gx_icmp_ge C dX8_base_118 rfl (by unfold gx_3; omega) (by unfold gx_3; omega) (fun hb118 => absurd hb118 (by omega)) (fun hb118 => ?_)
          refine gx_aload_n C dX8_base_121 rfl ?_
          refine gx_getR C 8 _ 0 rfl (gm_0 hM) rfl (by decide) nX8_base_8 (gx_hts C _ fX8_base_7) dX8_base_122 ?_
          refine gx_bipush C dX8_base_125 rfl ?_
          refine gx_iload_n C dX8_base_127 rfl ?_
          refine gx_iadd C dX8_base_128 ?_
          refine gx_aload_n C dX8_base_129 rfl ?_
          refine gx_getR C 8 _ 7 rfl (gm_0 hM) rfl (by decide) nX8_base_8 (gx_hts C _ fX8_base_27) dX8_base_130 ?_
          refine gx_iconst C dX8_base_133 ?_
          refine gx_iload_n C dX8_base_134 rfl ?_
          refine gx_iadd C dX8_base_135 ?_
          refine gx_iaload C (gm_6 hM) (by omega) dX8_base_136 e1 ?_
          refine gx_iastore C (gm_1 hM) (by omega) dX8_base_137 (show _ = 72 + k by omega) ?_
          refine gx_iinc C dX8_base_138 (by decide) rfl rfl ?_
          refine gx_goto C dX8_base_141 rfl ?_
          exact ih _ (by rw [h4]; exact gx_blk_s rfl)
        · refine gx_iload_n C dX8_base_115 rfl ?_
          refine gx_bipush C dX8_base_116 rfl ?_
          refine gx_icmp_ge C dX8_base_118 rfl (by unfold gx_3; omega) (by unfold gx_3; omega) (fun hb118 => ?_) (fun hb118 => absurd (by omega) hb118)
          have fin : sm_Q (sp_push s (zs_put s.1 72 (sp_bel s r))) M M4 := by
            refine ⟨sm_Rp hR2 (fun k hk => ?_) (fun c hc _ => by rw [h4, gx_blk_nc hc]), fun c hc => by rw [h4, gx_blk_nc (by omega), hF2 c hc, hX.1 c (Or.inr hc)]⟩
            rw [h4]
            unfold zs_put
            by_cases q : 72 ≤ k ∧ k < 72 + 9
            · rw [if_pos q]
              have := gx_blk_in (M := M3) (c := 1) (o := 72) (n := 9) (k := k - 72) (f := sp_bel s r) (by omega)
              rwa [show 72 + (k - 72) = k by omega] at this
            · rw [if_neg q, gx_blk_out (by omega)]
              exact hR2.1 k hk
          refine gx_iload_n C dX8_base_144 rfl ?_
          exact gx_iret C dX8_base_145 ⟨_, by unfold sp_base; rw [if_pos hq, if_neg hb103]; exact ⟨rfl, rfl⟩, fin⟩
      · refine gx_bipush C dX8_base_106 rfl ?_
        exact gx_iret C dX8_base_108 ⟨s, by unfold sp_base; rw [if_pos hq, if_pos (by omega)]; exact ⟨rfl, rfl⟩, sm_XQ hR hX⟩
  refine gx_iload_n C dX8_base_0 rfl ?_
  refine gx_bipush C dX8_base_1 rfl ?_
  refine gx_icmp_eq C dX8_base_3 rfl hr (by unfold gx_3; omega) (fun hb3 => ?_) (fun hb3 => ?_)
  · exact rest C (Or.inl hb3)
  · refine gx_iload_n C dX8_base_6 rfl ?_
    refine gx_statI C (c_X8_isRegister hr) (cwS 1 (gx_hts C) gX8_base_X8_isRegister rfl rfl rfl (by decide +kernel) ⟨Nat.le_of_ble_eq_true rfl, Nat.le_of_ble_eq_true rfl⟩) rfl rfl (Nat.le_of_ble_eq_true rfl) ⟨Nat.le_refl _, Nat.le_refl _⟩ dX8_base_7 (fun z M1 h1 => ?_)
    obtain ⟨rfl, h1⟩ := h1
    by_cases hq : 0 ≤ r ∧ r ≤ 7
    · rw [if_pos hq] at h1
      subst h1
      refine gx_if_ne C dX8_base_10 rfl (by unfold gx_3; omega) (fun hb10 => ?_) (fun hb10 => absurd (by omega) hb10)
      exact rest C (Or.inr hq)
    · rw [if_neg hq] at h1
      subst h1
      refine gx_if_ne C dX8_base_10 rfl (by unfold gx_3; omega) (fun hb10 => absurd hb10 (by omega)) (fun hb10 => ?_)
      refine gx_iconst C dX8_base_13 ?_
      exact gx_iret C dX8_base_14 (bad1 (by omega))
/-- what a load leaves in the work row -/
def gm_E3 : Nat → Prop := fun j => 27 ≤ j ∧ j < 45
theorem gm_ld {M M' : gx_M} {n r t : Nat} {m : Int} (h : M' = gx_blk (gx_blk (gx_blk M 6 27 9 (mx_of (M 1) 72)) 6 36 9 (mx_inv n m (mx_of (M 1) 72))) 6 t 9 (gm_el M n m r)) (hd : t + 9 ≤ 27 ∨ 45 ≤ t) : mx_of (M' 6) t = gm_el M n m r ∧ mx_of (M' 6) 27 = mx_of (M 1) 72 ∧ mx_of (M' 6) 36 = mx_inv n m (mx_of (M 1) 72) ∧ gm_E (fun j => (27 ≤ j ∧ j < 45) ∨ (t ≤ j ∧ j < t + 9)) M M' := by
  refine ⟨by rw [h]; exact mx_of_el, by rw [h, mx_of_blo (by omega), mx_of_blo (by omega)]; exact mx_of_of, by rw [h, mx_of_blo (by omega)]; exact mx_of_inv, ?_⟩
  rw [h]
  refine gm_Et (gm_Et (gm_Eb (fun j h1 h2 => Or.inl (by omega))) (gm_Eb (fun j h1 h2 => Or.inl (by omega)))) (gm_Eb (fun j h1 h2 => Or.inr (by omega)))
set_option maxRecDepth 100000 in
set_option maxHeartbeats 4000000 in
/-- load, in the words of the desk -/
theorem c_X8_loadS {La : List gx_K} (hM : gm_H La) {M : gx_M} {s : sp_S} (hs : sp_ok s) (hR : sm_R s M) {x : Int} {r t : Nat} (hx : x = r) (hr : r < 10) (ht : t + 9 ≤ 1926) (hd : t + 9 ≤ 27 ∨ 45 ≤ t) : gx_Cv La yX8_load wsX8_load 4 [gx_R 0, gx_I x, gx_I t] M (fun M' => mx_of (M' 6) t = zs_el s.1 r ∧ mx_of (M' 6) 27 = zs_el s.1 8 ∧ mx_of (M' 6) 36 = zs_el s.1 9 ∧ gm_E (fun j => (27 ≤ j ∧ j < 45) ∨ (t ≤ j ∧ j < t + 9)) M M') := by
  refine gx_wk_v (c_X8_load hM (sm_Z hs hR) (sm_ou hs hR) hx hr ht hd) (fun M' h => ?_)
  obtain ⟨h1, h2, h3, h4⟩ := gm_ld h hd
  exact ⟨by rw [h1, sm_gel hR hr], by rw [h2, sm_el72 hR]; rfl, by rw [h3, sm_el72 hR]; rfl, h4⟩
