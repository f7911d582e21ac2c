/-! A TEXT IS SAID -/
theorem sd_tx {s' s : sp_S} {tx : List Int} {M : gx_M} (hR : sd_R s' M) (e1 : s'.1 = s.1) (e2 : s'.2.1 = s.2.1) (e3 : s'.2.2.1 = s.2.2.1) (e4 : s'.2.2.2.1 = tx.length) (e5 : ∀ i, i < tx.length → s'.2.2.2.2 i = tx.getD i 0) : sd_R (st_tx s tx) M := by
  obtain ⟨h1, h2, h3, h4, ⟨h5, h6⟩, h7⟩ := hR
  rw [e1] at h1
  rw [e2] at h2
  rw [e3] at h3 h4
  rw [e4] at h5 h6
  exact ⟨h1, h2, h3, h4, ⟨h5, fun i hi => (h6 i hi).trans (e5 i hi)⟩, h7⟩
theorem tx_wipe {s s' : sp_S} {z : Int} {M : gx_M} (h : sp_wipe s z s') (hR : sd_R s' M) : z = s.2.2.2.1 ∧ sd_R (st_tx s []) M := by
  obtain ⟨h1, rfl⟩ := h
  exact ⟨h1, sd_tx hR rfl rfl rfl rfl (fun i hi => absurd hi (Nat.not_lt_zero i))⟩
/-- the signs of a number -/
def tx_w (N n : Nat) : List Int := (List.range n).map (fun i => ((pt_b N (n - 1 - i) : Nat) : Int))
theorem tx_wl {N n : Nat} : (tx_w N n).length = n := by simp [tx_w]
theorem tx_wat {N n i : Nat} (h : i < n) : (tx_w N n).getD i 0 = ((pt_b N (n - 1 - i) : Nat) : Int) := by
  rw [List.getD_eq_getElem?_getD]
  unfold tx_w
  rw [List.getElem?_map, List.getElem?_range h]
  rfl
theorem tx_put {s s' : sp_S} {tx : List Int} {N n : Nat} (hn : pt_ok N n) (h60 : tx.length + n ≤ 60) {z : Int} {M : gx_M} (h : sp_put (st_tx s tx) N z s') (hR : sd_R s' M) : z = (tx.length : Int) + (n : Int) ∧ sd_R (st_tx s (tx ++ tx_w N n)) M := by
  rcases h with ⟨k, hk, h⟩ | ⟨h0, -⟩
  · have := pt_ok_u hn hk
    subst this
    rw [if_neg (by show ¬ 60 < tx.length + n; omega)] at h
    obtain ⟨rfl, rfl⟩ := h
    refine ⟨by show ((tx.length + n : Nat) : Int) = _; omega, sd_tx hR rfl rfl rfl (by rw [List.length_append, tx_wl]; rfl) (fun i hi => ?_)⟩
    rw [List.length_append, tx_wl] at hi
    show (if i < tx.length then tx.getD i 0 else ((pt_b N (n - 1 - (i - tx.length)) : Nat) : Int)) = _
    by_cases q : i < tx.length
    · rw [if_pos q, List.getD_eq_getElem?_getD, List.getD_eq_getElem?_getD, List.getElem?_append_left q]
    · rw [if_neg q, List.getD_eq_getElem?_getD, List.getElem?_append_right (by omega), ← List.getD_eq_getElem?_getD, tx_wat (by omega)]
  · exact absurd ⟨n, hn⟩ h0
/-- signs that may be -/
def tx_ok (tx : List Int) : Prop := tx.length ≤ 60 ∧ ∀ i, i < tx.length → 33 ≤ tx.getD i 0 ∧ tx.getD i 0 ≤ 126
theorem st_ok {s : sp_S} (hs : sp_ok s) {tx : List Int} (h : tx_ok tx) : sp_ok (st_tx s tx) := ⟨hs.1, hs.2.1, hs.2.2.1, hs.2.2.2.1, hs.2.2.2.2.1, h.1, h.2⟩
theorem tx_ok0 : tx_ok [] := ⟨Nat.zero_le _, fun i hi => absurd hi (Nat.not_lt_zero i)⟩
theorem tx_ok1 {tx : List Int} (h : tx_ok tx) {N n : Nat} (hn : pt_ok N n) (h60 : tx.length + n ≤ 60) : tx_ok (tx ++ tx_w N n) := by
  refine ⟨by rw [List.length_append, tx_wl]; exact h60, fun i hi => ?_⟩
  rw [List.length_append, tx_wl] at hi
  by_cases q : i < tx.length
  · rw [List.getD_eq_getElem?_getD, List.getElem?_append_left q, ← List.getD_eq_getElem?_getD]
    exact h.2 i q
  · rw [List.getD_eq_getElem?_getD, List.getElem?_append_right (by omega), ← List.getD_eq_getElem?_getD, tx_wat (by omega)]
    have := hn.2.2.2 (n - 1 - (i - tx.length)) (by omega)
    omega
/-- a word of a text, that may be wanting -/
def tx_o (N n base : Nat) : Prop := (N = 0 ∧ n = 0) ∨ (N < 18446744073709551616 ∧ pt_ok N n ∧ base < n ∧ lg_cmp (gl_l N) (gl_l 0) = gx_i 1)
theorem tx_cmp0 : lg_cmp (gl_l 0) (gl_l 0) = gx_i 0 := by decide
theorem tx_w0 {tx : List Int} : tx ++ tx_w 0 0 = tx := List.append_nil tx
set_option maxRecDepth 100000 in
theorem c_L_low {La : List gx_K} {M : gx_M} {x n : Int} (hx : gx_3 x) (hn : 0 < n ∧ n ≤ 100) : gx_Ci La yL_low wsL_low 0 [gx_I x, gx_I n] M (fun z M' => M' = M ∧ 0 ≤ z ∧ z < n) := by
  obtain ⟨w, hw, w0, w1⟩ := gy_and x
  have hmod := Int.emod_nonneg w (show n ≠ 0 by omega)
  have hlt := Int.emod_lt_of_pos w hn.1
  have htm := gx_tmod (y := n) w0
  refine gx_start_i (L := [gx_I x, gx_I n]) (by decide) rfl rfl (Nat.le_of_ble_eq_true rfl) rfl ?_
  intro _ _ _ _ _ _ _ _ _ _ _ _ C
  refine gx_iload_n C dL_low_0 rfl ?_
  refine gx_ldc C (n := 2147483647) (by decide +kernel : Cond.constant RL 9 _ ∈ _) rfl dL_low_1 ?_
  refine gx_iand C dL_low_3 hw ?_
  refine gx_iload_n C dL_low_4 rfl ?_
  refine gx_irem C dL_low_5 (by unfold gx_3; omega) (by unfold gx_3; omega) (by omega) htm ?_
  exact gx_iret C dL_low_6 ⟨rfl, by omega, by omega⟩
set_option maxRecDepth 100000 in
theorem c_L_cell {b n : Nat} {xs : Nat → Int32} (hn : n ≤ 260) {M : gx_M} {k : Int} (hk : 0 ≤ k ∧ k ≤ 7) : gy_Ci gn_La yL_cell wsL_cell 0 b n xs [gx_R 1000, gx_I k] M (fun z M' => M' = M ∧ gx_3 z) := by
  have hk3 : gx_3 k := by unfold gx_3; omega
  have hn3 : gx_3 (n : Int) := by unfold gx_3; omega
  refine gy_start (own := RL) (L := [gx_R 1000, gx_I k]) (by decide) rfl rfl (Nat.le_of_ble_eq_true rfl) rfl ?_
  intro _ _ _ _ _ _ _ _ _ _ _ _ C hX hbl hbA had
  refine gx_iload_n C dL_cell_0 rfl ?_
  refine gx_aload_n C dL_cell_1 rfl ?_
  refine gl_len C hX hbl hbA had dL_cell_2 ?_
  refine gx_icmp_ge C dL_cell_3 rfl hk3 hn3 (fun hb3 => ?_) (fun hb3 => ?_)
  · refine gx_ldc C (n := 32452867) (by decide +kernel : Cond.constant RL 7 _ ∈ _) rfl dL_cell_12 ?_
    refine gx_iload_n C dL_cell_14 rfl ?_
    refine gx_imul C dL_cell_15 ?_
    refine gx_ldc C (n := 49979687) (by decide +kernel : Cond.constant RL 8 _ ∈ _) rfl dL_cell_16 ?_
    refine gx_iadd C dL_cell_18 ?_
    exact gx_iret C dL_cell_19 ⟨rfl, by unfold gx_3; omega⟩
  · refine gx_aload_n C dL_cell_6 rfl ?_
    refine gx_iload_n C dL_cell_7 rfl ?_
    refine gl_ld C hX hbl hbA had (by omega) dL_cell_8 ?_
    refine gx_goto C dL_cell_9 rfl ?_
    exact gx_iret C dL_cell_19 ⟨rfl, wl_3 _⟩
set_option maxRecDepth 100000 in
set_option maxHeartbeats 4000000 in
theorem c_L_says {M : gx_M} {s : sp_S} (hs : sp_ok s) (hR : sd_R s M) {Na Nb Nc Nd Ne na nb nc nd ne : Nat} (ha : Na < 18446744073709551616 ∧ pt_ok Na na) (hb : tx_o Nb nb (8 - na)) (hc : tx_o Nc nc (16 - (na + nb))) (hd : tx_o Nd nd (24 - (na + nb + nc))) (he : tx_o Ne ne (32 - (na + nb + nc + nd))) {tx : List Int} (htx : tx_w Na na ++ tx_w Nb nb ++ tx_w Nc nc ++ tx_w Nd nd ++ tx_w Ne ne = tx) (h60 : na + nb + nc + nd + ne ≤ 60) (hf : pm_flt (st_tx s tx) (-6)) {K : Int} (hK : K = ((na + nb + nc + nd + ne : Nat) : Int)) : gx_Ci gn_La yL_says wsL_says 6 [gx_R 12, gx_J (gl_l Na), gx_J (gl_l Nb), gx_J (gl_l Nc), gx_J (gl_l Nd), gx_J (gl_l Ne), gx_I K] M (fun z M' => z = 1 ∧ sd_R (st_tx s tx) M') := by
  have hlen := hs.2.2.2.2.2.1
  have l1 : (tx_w Na na).length = na := tx_wl
  have l2 : (tx_w Na na ++ tx_w Nb nb).length = na + nb := by rw [List.length_append, tx_wl, tx_wl]
  have l3 : (tx_w Na na ++ tx_w Nb nb ++ tx_w Nc nc).length = na + nb + nc := by rw [List.length_append, l2, tx_wl]
  have l4 : (tx_w Na na ++ tx_w Nb nb ++ tx_w Nc nc ++ tx_w Nd nd).length = na + nb + nc + nd := by rw [List.length_append, l3, tx_wl]
  have l5 : tx.length = na + nb + nc + nd + ne := by rw [← htx, List.length_append, l4, tx_wl]
  have ok1 : tx_ok (tx_w Na na) := tx_ok1 tx_ok0 ha.2 (by show 0 + na ≤ 60; omega)
  have oko : ∀ {t : List Int} {N n base : Nat}, tx_ok t → tx_o N n base → t.length + n ≤ 60 → tx_ok (t ++ tx_w N n) := fun {t N n base} ht h hl => by
    rcases h with ⟨rfl, rfl⟩ | ⟨-, h, -⟩
    · rw [tx_w0]; exact ht
    · exact tx_ok1 ht h hl
  have ok2 := oko ok1 hb (by omega)
  have ok3 := oko ok2 hc (by omega)
  have ok4 := oko ok3 hd (by omega)
  have ok5 := oko ok4 he (by omega)
  refine gx_start_i (L := [gx_R 12, gx_J (gl_l Na), gx_U, gx_J (gl_l Nb), gx_U, gx_J (gl_l Nc), gx_U, gx_J (gl_l Nd), gx_U, gx_J (gl_l Ne), gx_U, gx_I K, gx_U, gx_U]) (by decide) rfl rfl (Nat.le_of_ble_eq_true rfl) rfl ?_
  intro _ _ _ _ _ _ _ _ _ _ _ _ C
  refine gx_aload_n C dL_says_0 rfl ?_
  refine gx_iconst C dL_says_1 ?_
  refine gx_callI C 7 rfl (gd_12 gn_Hd) (c_X7_count gn_Hd hs hR (w := 4) (by unfold gx_3; omega)) (cwV 1 (gx_hts C) gL_says_X7_count rfl rfl rfl (by decide +kernel) ⟨Nat.le_of_ble_eq_true rfl, Nat.le_of_ble_eq_true rfl⟩) rfl rfl (Nat.le_of_ble_eq_true rfl) ⟨Nat.le_refl _, Nat.le_refl _⟩ dL_says_2 (fun z1 M1 h1 => ?_)
  obtain ⟨h1, x1⟩ := h1
  have hz1 : z1 = (s.2.2.2.1 : Int) := h1
  have hR1 := sd_XR hR x1
  refine gx_istore C dL_says_5 (by decide) rfl ?_
  refine gx_aload_n C dL_says_7 rfl ?_
  refine gx_callI C 7 rfl (gd_12 gn_Hd) (c_X7_wipe gn_Hd hR1) (cwV 0 (gx_hts C) gL_says_X7_wipe rfl rfl rfl (by decide +kernel) ⟨Nat.le_of_ble_eq_true rfl, Nat.le_of_ble_eq_true rfl⟩) rfl rfl (Nat.le_of_ble_eq_true rfl) ⟨Nat.le_refl _, Nat.le_refl _⟩ dL_says_8 (fun z2 M2 h2 => ?_)
  obtain ⟨s2, h2, r2, -⟩ := h2
  obtain ⟨hz2, hR2⟩ := tx_wipe h2 r2
  refine gx_iload C dL_says_11 rfl ?_
  refine gx_icmp_ne C dL_says_13 rfl (by unfold gx_3; omega) (by unfold gx_3; omega) (fun hb13 => absurd hb13 (by omega)) (fun hb13 => ?_)
  refine gx_aload_n C dL_says_16 rfl ?_
  refine gx_lload_n C dL_says_17 rfl ?_
  refine gx_callI C 7 rfl (gd_12 gn_Hd) (c_X7_put gn_Hd (st_ok hs tx_ok0) hR2 ha.1) (cwV 1 (gx_hts C) gL_says_X7_put rfl rfl rfl (by decide +kernel) ⟨Nat.le_of_ble_eq_true rfl, Nat.le_of_ble_eq_true rfl⟩) rfl rfl (Nat.le_of_ble_eq_true rfl) ⟨Nat.le_refl _, Nat.le_refl _⟩ dL_says_18 (fun z3 M3 h3 => ?_)
  obtain ⟨s3, h3, r3, -⟩ := h3
  obtain ⟨hz3, hR3⟩ := tx_put ha.2 (by show 0 + na ≤ 60; omega) h3 r3
  have hz3 : z3 = (0 : Int) + (na : Int) := hz3
  have hR3 : sd_R (st_tx s (tx_w Na na)) M3 := hR3
  have hna := ha.2.1
  refine gx_if_le C dL_says_21 rfl (by unfold gx_3; omega) (fun hb21 => absurd hb21 (by omega)) (fun hb21 => ?_)
  refine gx_iconst C dL_says_24 ?_
  refine gx_goto C dL_says_25 rfl ?_
  refine gx_istore C dL_says_29 (by decide) rfl ?_
  refine gx_iload C dL_says_31 rfl ?_
  refine gx_if_eq C dL_says_33 rfl (by unfold gx_3; omega) (fun hb33 => absurd hb33 (by omega)) (fun hb33 => ?_)
  refine gx_cut 52 (fun (_ : gx_M) => [gx_R 12, gx_J (gl_l Na), gx_U, gx_J (gl_l Nb), gx_U, gx_J (gl_l Nc), gx_U, gx_J (gl_l Nd), gx_U, gx_J (gl_l Ne), gx_U, gx_I K, gx_I z1, gx_I 1]) (fun _ => []) (fun P => P) (fun P => sd_R (st_tx s (tx_w Na na ++ tx_w Nb nb)) P) (fun P hP => ?_) (fun fin => ?_)
  · refine gx_cut 70 (fun (_ : gx_M) => [gx_R 12, gx_J (gl_l Na), gx_U, gx_J (gl_l Nb), gx_U, gx_J (gl_l Nc), gx_U, gx_J (gl_l Nd), gx_U, gx_J (gl_l Ne), gx_U, gx_I K, gx_I z1, gx_I 1]) (fun _ => []) (fun P => P) (fun P => sd_R (st_tx s (tx_w Na na ++ tx_w Nb nb ++ tx_w Nc nc)) P) (fun P hP => ?_) (fun fin => ?_)
    · refine gx_cut 88 (fun (_ : gx_M) => [gx_R 12, gx_J (gl_l Na), gx_U, gx_J (gl_l Nb), gx_U, gx_J (gl_l Nc), gx_U, gx_J (gl_l Nd), gx_U, gx_J (gl_l Ne), gx_U, gx_I K, gx_I z1, gx_I 1]) (fun _ => []) (fun P => P) (fun P => sd_R (st_tx s (tx_w Na na ++ tx_w Nb nb ++ tx_w Nc nc ++ tx_w Nd nd)) P) (fun P hP => ?_) (fun fin => ?_)
      · refine gx_cut 106 (fun (_ : gx_M) => [gx_R 12, gx_J (gl_l Na), gx_U, gx_J (gl_l Nb), gx_U, gx_J (gl_l Nc), gx_U, gx_J (gl_l Nd), gx_U, gx_J (gl_l Ne), gx_U, gx_I K, gx_I z1, gx_I 1]) (fun _ => []) (fun P => P) (fun P => sd_R (st_tx s tx) P) (fun P hP => ?_) (fun fin => ?_)
        · refine gx_iconst C dL_says_106 ?_
          refine gx_goto C dL_says_107 rfl ?_
          refine gx_istore C dL_says_111 (by decide) rfl ?_
          refine gx_iload C dL_says_113 rfl ?_
          refine gx_if_eq C dL_says_115 rfl (by unfold gx_3; omega) (fun hb115 => absurd hb115 (by omega)) (fun hb115 => ?_)
          refine gx_aload_n C dL_says_118 rfl ?_
          refine gx_iconst C dL_says_119 ?_
          refine gx_callI C 7 rfl (gd_12 gn_Hd) (c_X7_count gn_Hd (st_ok hs (htx ▸ ok5)) hP (w := 4) (by unfold gx_3; omega)) (cwV 1 (gx_hts C) gL_says_X7_count rfl rfl rfl (by decide +kernel) ⟨Nat.le_of_ble_eq_true rfl, Nat.le_of_ble_eq_true rfl⟩) rfl rfl (Nat.le_of_ble_eq_true rfl) ⟨Nat.le_refl _, Nat.le_refl _⟩ dL_says_120 (fun y1 P1 h4 => ?_)
          obtain ⟨h4, x4⟩ := h4
          have hy1 : y1 = (tx.length : Int) := h4
          have hP1 := sd_XR hP x4
          refine gx_iload C dL_says_123 rfl ?_
          refine gx_icmp_ne C dL_says_125 rfl (by unfold gx_3; omega) (by unfold gx_3; omega) (fun hb125 => absurd hb125 (by omega)) (fun hb125 => ?_)
          refine gx_aload_n C dL_says_128 rfl ?_
          refine gx_callI C 7 rfl (gd_12 gn_Hd) (c_X7_fault gn_Hd (st_ok hs (htx ▸ ok5)) hP1) (cwV 0 (gx_hts C) gL_says_X7_fault rfl rfl rfl (by decide +kernel) ⟨Nat.le_of_ble_eq_true rfl, Nat.le_of_ble_eq_true rfl⟩) rfl rfl (Nat.le_of_ble_eq_true rfl) ⟨Nat.le_refl _, Nat.le_refl _⟩ dL_says_129 (fun y2 P2 h5 => ?_)
          obtain ⟨h5, x5⟩ := h5
          have hy2 : y2 = -6 := pm_flt_u h5 hf
          have hP2 := sd_XR hP1 x5
          refine gx_bipush C dL_says_132 rfl ?_
          refine gx_icmp_ne C dL_says_134 rfl (by unfold gx_3; omega) (by unfold gx_3; omega) (fun hb134 => absurd hb134 (by omega)) (fun hb134 => ?_)
          refine gx_iconst C dL_says_137 ?_
          refine gx_goto C dL_says_138 rfl ?_
          exact gx_zret C (by omega) dL_says_142 ⟨rfl, hP2⟩
        · rcases he with ⟨rfl, rfl⟩ | ⟨he1, he2, he3, he4⟩
          · refine gx_lload C dL_says_88 rfl ?_
            refine gx_lconst_0 C dL_says_90  ?_
            refine gx_lcmp C dL_says_91 tx_cmp0 ?_
            refine gx_if_eq C dL_says_92 rfl (by unfold gx_3; omega) (fun hb92 => ?_) (fun hb92 => absurd (by omega) hb92)
            exact fin P (by rw [← htx, tx_w0]; exact hP)
          · refine gx_lload C dL_says_88 rfl ?_
            refine gx_lconst_0 C dL_says_90  ?_
            refine gx_lcmp C dL_says_91 he4 ?_
            refine gx_if_eq C dL_says_92 rfl (by unfold gx_3; omega) (fun hb92 => absurd hb92 (by omega)) (fun hb92 => ?_)
            refine gx_aload_n C dL_says_95 rfl ?_
            refine gx_lload C dL_says_96 rfl ?_
            refine gx_callI C 7 rfl (gd_12 gn_Hd) (c_X7_put gn_Hd (st_ok hs ok4) hP he1) (cwV 1 (gx_hts C) gL_says_X7_put rfl rfl rfl (by decide +kernel) ⟨Nat.le_of_ble_eq_true rfl, Nat.le_of_ble_eq_true rfl⟩) rfl rfl (Nat.le_of_ble_eq_true rfl) ⟨Nat.le_refl _, Nat.le_refl _⟩ dL_says_98 (fun y P1 h => ?_)
            obtain ⟨s', h, r, -⟩ := h
            obtain ⟨hy, hP1⟩ := tx_put he2 (by omega) h r
            rw [l4] at hy
            refine gx_bipush C dL_says_101 rfl ?_
            refine gx_icmp_le C dL_says_103 rfl (by unfold gx_3; omega) (by unfold gx_3; omega) (fun hb103 => absurd hb103 (by omega)) (fun hb103 => ?_)
            exact fin P1 (by rw [← htx]; exact hP1)
      · rcases hd with ⟨rfl, rfl⟩ | ⟨hd1, hd2, hd3, hd4⟩
        · refine gx_lload C dL_says_70 rfl ?_
          refine gx_lconst_0 C dL_says_72  ?_
          refine gx_lcmp C dL_says_73 tx_cmp0 ?_
          refine gx_if_eq C dL_says_74 rfl (by unfold gx_3; omega) (fun hb74 => ?_) (fun hb74 => absurd (by omega) hb74)
          exact fin P (by rw [tx_w0]; exact hP)
        · refine gx_lload C dL_says_70 rfl ?_
          refine gx_lconst_0 C dL_says_72  ?_
          refine gx_lcmp C dL_says_73 hd4 ?_
          refine gx_if_eq C dL_says_74 rfl (by unfold gx_3; omega) (fun hb74 => absurd hb74 (by omega)) (fun hb74 => ?_)
          refine gx_aload_n C dL_says_77 rfl ?_
          refine gx_lload C dL_says_78 rfl ?_
          refine gx_callI C 7 rfl (gd_12 gn_Hd) (c_X7_put gn_Hd (st_ok hs ok3) hP hd1) (cwV 1 (gx_hts C) gL_says_X7_put rfl rfl rfl (by decide +kernel) ⟨Nat.le_of_ble_eq_true rfl, Nat.le_of_ble_eq_true rfl⟩) rfl rfl (Nat.le_of_ble_eq_true rfl) ⟨Nat.le_refl _, Nat.le_refl _⟩ dL_says_80 (fun y P1 h => ?_)
          obtain ⟨s', h, r, -⟩ := h
          obtain ⟨hy, hP1⟩ := tx_put hd2 (by omega) h r
          rw [l3] at hy
          refine gx_bipush C dL_says_83 rfl ?_
          refine gx_icmp_le C dL_says_85 rfl (by unfold gx_3; omega) (by unfold gx_3; omega) (fun hb85 => absurd hb85 (by omega)) (fun hb85 => ?_)
          exact fin P1 hP1
    · rcases hc with ⟨rfl, rfl⟩ | ⟨hc1, hc2, hc3, hc4⟩
      · refine gx_lload C dL_says_52 rfl ?_
        refine gx_lconst_0 C dL_says_54  ?_
        refine gx_lcmp C dL_says_55 tx_cmp0 ?_
        refine gx_if_eq C dL_says_56 rfl (by unfold gx_3; omega) (fun hb56 => ?_) (fun hb56 => absurd (by omega) hb56)
        exact fin P (by rw [tx_w0]; exact hP)
      · refine gx_lload C dL_says_52 rfl ?_
        refine gx_lconst_0 C dL_says_54  ?_
        refine gx_lcmp C dL_says_55 hc4 ?_
        refine gx_if_eq C dL_says_56 rfl (by unfold gx_3; omega) (fun hb56 => absurd hb56 (by omega)) (fun hb56 => ?_)
        refine gx_aload_n C dL_says_59 rfl ?_
        refine gx_lload C dL_says_60 rfl ?_
        refine gx_callI C 7 rfl (gd_12 gn_Hd) (c_X7_put gn_Hd (st_ok hs ok2) hP hc1) (cwV 1 (gx_hts C) gL_says_X7_put rfl rfl rfl (by decide +kernel) ⟨Nat.le_of_ble_eq_true rfl, Nat.le_of_ble_eq_true rfl⟩) rfl rfl (Nat.le_of_ble_eq_true rfl) ⟨Nat.le_refl _, Nat.le_refl _⟩ dL_says_62 (fun y P1 h => ?_)
        obtain ⟨s', h, r, -⟩ := h
        obtain ⟨hy, hP1⟩ := tx_put hc2 (by omega) h r
        rw [l2] at hy
        refine gx_bipush C dL_says_65 rfl ?_
        refine gx_icmp_le C dL_says_67 rfl (by unfold gx_3; omega) (by unfold gx_3; omega) (fun hb67 => absurd hb67 (by omega)) (fun hb67 => ?_)
        exact fin P1 hP1
  · rcases hb with ⟨rfl, rfl⟩ | ⟨hb1, hb2, hb3, hb4⟩
    · refine gx_lload_n C dL_says_36 rfl ?_
      refine gx_lconst_0 C dL_says_37  ?_
      refine gx_lcmp C dL_says_38 tx_cmp0 ?_
      refine gx_if_eq C dL_says_39 rfl (by unfold gx_3; omega) (fun hb39 => ?_) (fun hb39 => absurd (by omega) hb39)
      exact fin M3 (by rw [tx_w0]; exact hR3)
    · refine gx_lload_n C dL_says_36 rfl ?_
      refine gx_lconst_0 C dL_says_37  ?_
      refine gx_lcmp C dL_says_38 hb4 ?_
      refine gx_if_eq C dL_says_39 rfl (by unfold gx_3; omega) (fun hb39 => absurd hb39 (by omega)) (fun hb39 => ?_)
      refine gx_aload_n C dL_says_42 rfl ?_
      refine gx_lload_n C dL_says_43 rfl ?_
      refine gx_callI C 7 rfl (gd_12 gn_Hd) (c_X7_put gn_Hd (st_ok hs ok1) hR3 hb1) (cwV 1 (gx_hts C) gL_says_X7_put rfl rfl rfl (by decide +kernel) ⟨Nat.le_of_ble_eq_true rfl, Nat.le_of_ble_eq_true rfl⟩) rfl rfl (Nat.le_of_ble_eq_true rfl) ⟨Nat.le_refl _, Nat.le_refl _⟩ dL_says_44 (fun y P1 h => ?_)
      obtain ⟨s', h, r, -⟩ := h
      obtain ⟨hy, hP1⟩ := tx_put hb2 (by omega) h r
      rw [l1] at hy
      refine gx_bipush C dL_says_47 rfl ?_
      refine gx_icmp_le C dL_says_49 rfl (by unfold gx_3; omega) (by unfold gx_3; omega) (fun hb49 => absurd hb49 (by omega)) (fun hb49 => ?_)
      exact fin P1 hP1
