/-! THE LAW: squares -/
theorem on_el {s : sp_S} {K : Nat} {x : Int} {f : Nat → Int} (hK : K < 3) (h0 : zs_el s.1 4 = fun _ => 0) (h : f = fun k => if k < 9 then (if k = 3 * K + K then x else if k = 3 * K + K then x else zs_el s.1 4 k) else 0) : f = mx_one K x := by
  rw [h, h0]
  funext k
  unfold mx_one
  by_cases h9 : k < 9
  · rw [if_pos h9]
    by_cases e : k = 3 * K + K
    · rw [if_pos e, if_pos (by omega)]
    · rw [if_neg e, if_neg e, if_neg (by omega)]
  · rw [if_neg h9, if_neg (by omega)]
theorem nz_u {f : Nat → Int} {q b : Int} (h : mx_nz f q) (hb : b = 0 ∨ b = 1) (hi : b = 1 ↔ ¬ f = fun _ => 0) : q = b := by
  rcases h with ⟨h1, rfl⟩ | ⟨h1, rfl⟩
  · rcases hb with e | e
    · exact e.symm
    · exact absurd h1 (hi.mp e)
  · exact (hi.mpr h1).symm
theorem bt_9 {P : Nat → Prop} {z : Int} (h : mx_bit P 8 z) : ∃ b4 b5 b6 b7 : Int, (z / 16 % 2 = b4 ∧ z / 32 % 2 = b5 ∧ z / 64 % 2 = b6 ∧ z / 128 % 2 = b7) ∧ z / 32 = b5 + 2 * b6 + 4 * b7 ∧ (gx_hid (b4 = 0 ∨ b4 = 1) ∧ gx_hid (b5 = 0 ∨ b5 = 1) ∧ gx_hid (b6 = 0 ∨ b6 = 1) ∧ gx_hid (b7 = 0 ∨ b7 = 1)) ∧ gx_hid (b4 = 1 ↔ P 4) ∧ gx_hid (b5 = 1 ↔ P 5) ∧ gx_hid (b6 = 1 ↔ P 6) ∧ gx_hid (b7 = 1 ↔ P 7) := by
  obtain ⟨b, b01, bi, hc⟩ := bt_8 h
  have bb : ∀ i, 0 ≤ b i ∧ b i ≤ 1 := fun i => by rcases b01 i with e | e <;> omega
  have c0 := bb 0
  have c1 := bb 1
  have c2 := bb 2
  have c3 := bb 3
  have c4 := bb 4
  have c5 := bb 5
  have c6 := bb 6
  have c7 := bb 7
  exact ⟨b 4, b 5, b 6, b 7, ⟨by omega, by omega, by omega, by omega⟩, by omega, ⟨b01 4, b01 5, b01 6, b01 7⟩, bi 4, bi 5, bi 6, bi 7⟩
theorem nz_b {f : Nat → Int} {q : Int} (h : mx_nz f q) : 0 ≤ q ∧ q ≤ 1 := by
  rcases h with ⟨-, e⟩ | ⟨-, e⟩ <;> omega
theorem ct_2 {s : sp_S} {z : Int} (h : sp_count s 2 z) : mx_bit (fun r => ¬ zs_el s.1 r = fun _ => 0) 8 z := h
theorem ct_3 {s : sp_S} {z : Int} (h : sp_count s 3 z) : mx_bit (fun r => zs_sq s (zs_el s.1 r)) 8 z := h
theorem ct_5 {s : sp_S} {z : Int} (h : sp_count s 5 z) : z = (s.2.1.1 : Int) := h
set_option maxRecDepth 100000 in
set_option maxHeartbeats 16000000 in
theorem c_L_squares {M : gx_M} {s : sp_S} (hs : sp_ok s) (hR : sd_R s M) (hz : ∀ r, 4 ≤ r → r < 8 → zs_el s.1 r = fun _ => 0) {g : Int} (hg : gx_3 g) : gx_Ci gn_La yL_squares wsL_squares 7 [gx_R 12, gx_I g] M (fun z M' => z = 1 ∧ ∃ s', sp_ok s' ∧ sd_R s' M') := by
  have hni := sp_n hs
  have hn := sp_nn hs
  have hmm := zs_m hs.1
  have h8 := sp_Vel hs (r := 8) (by decide)
  refine gx_start_i (L := [gx_R 12, gx_I g, gx_U, gx_U, gx_U, gx_U, gx_U, gx_U, gx_U, gx_U, gx_U]) (by decide) rfl rfl (Nat.le_of_ble_eq_true rfl) rfl ?_
  intro _ _ _ _ _ _ _ _ _ _ _ _ C
  refine gx_iload_n C dL_squares_0 rfl ?_
  refine gx_aload_n C dL_squares_1 rfl ?_
  refine gx_iconst C dL_squares_2 ?_
  refine gx_callI C 7 rfl (gd_12 gn_Hd) (c_X7_count gn_Hd hs hR (w := 0) (by unfold gx_3; omega)) (cwV 1 (gx_hts C) gL_squares_X7_count rfl rfl rfl (by decide +kernel) ⟨Nat.le_of_ble_eq_true rfl, Nat.le_of_ble_eq_true rfl⟩) rfl rfl (Nat.le_of_ble_eq_true rfl) ⟨Nat.le_refl _, Nat.le_refl _⟩ dL_squares_3 (fun z1 M1 h1 => ?_)
  obtain ⟨h1, x1⟩ := h1
  have h1 : z1 = s.1 81 := h1
  have R1 := sd_XR hR x1
  refine gx_statI C (c_L_low hg (n := z1) (by omega)) (cwS 2 (gx_hts C) gL_squares_L_low rfl rfl rfl (by decide +kernel) ⟨Nat.le_of_ble_eq_true rfl, Nat.le_of_ble_eq_true rfl⟩) rfl rfl (Nat.le_of_ble_eq_true rfl) ⟨Nat.le_refl _, Nat.le_refl _⟩ dL_squares_6 (fun k M2 h2 => ?_)
  obtain ⟨rfl, k0, k1⟩ := h2
  obtain ⟨K, rfl⟩ : ∃ K : Nat, k = (K : Int) := ⟨k.toNat, by omega⟩
  have hK : K < zs_nn s := by omega
  refine gx_istore_n C dL_squares_9 (by decide) rfl ?_
  refine gx_aload_n C dL_squares_10 rfl ?_
  refine gx_bipush C dL_squares_11 rfl ?_
  refine gx_iload_n C dL_squares_13 rfl ?_
  refine gx_iload_n C dL_squares_14 rfl ?_
  refine gx_callI C 7 rfl (gd_12 gn_Hd) (c_X7_entry gn_Hd hs R1 (r := 8) (i := (K : Int)) (j := (K : Int)) (by unfold gx_3; omega) (by unfold gx_3; omega) (by unfold gx_3; omega)) (cwV 3 (gx_hts C) gL_squares_X7_entry rfl rfl rfl (by decide +kernel) ⟨Nat.le_of_ble_eq_true rfl, Nat.le_of_ble_eq_true rfl⟩) rfl rfl (Nat.le_of_ble_eq_true rfl) ⟨Nat.le_refl _, Nat.le_refl _⟩ dL_squares_15 (fun t M3 h3 => ?_)
  obtain ⟨h3, rfl⟩ := h3
  have h3 := sp_en_e h3 (by omega) (by omega) (by omega)
  rw [Int.toNat_natCast] at h3
  have h3 : t = zs_el s.1 8 (3 * K + K) := h3
  have ht := h8.1 (3 * K + K) (by omega)
  rw [← h3] at ht
  refine gx_istore_n C dL_squares_18 (by decide) rfl ?_
  refine gx_iconst C dL_squares_19 ?_
  refine gx_istore C dL_squares_20 (by decide) rfl ?_
  refine gx_iconst C dL_squares_22 ?_
  refine gx_istore C dL_squares_23 (by decide) rfl ?_
  refine gx_for (s.1 82).toNat (fun v (a : Int × gx_M) => [gx_R 12, gx_I g, gx_I (K : Int), gx_I t, gx_I a.1, gx_I (v : Int), gx_U, gx_U, gx_U, gx_U, gx_U]) (fun a => a.2) (fun v a => 1 ≤ v ∧ (0 ≤ a.1 ∧ a.1 < s.1 82) ∧ (a.1 = 0 ∨ a.1 * t % s.1 82 = 1) ∧ sd_R s a.2) 1 (0, M3) (by omega) ⟨Nat.le_refl 1, ⟨Int.le_refl 0, (by show (0 : Int) < s.1 82; omega)⟩, Or.inl rfl, R1⟩ (fun v a hv hI nxt => ?_) (fun a hI => ?_)
  · obtain ⟨x, P⟩ := a
    obtain ⟨hv1, hx, hx1, hP⟩ := hI
    refine gx_iload C dL_squares_25 rfl ?_
    refine gx_aload_n C dL_squares_27 rfl ?_
    refine gx_iconst C dL_squares_28 ?_
    refine gx_callI C 7 rfl (gd_12 gn_Hd) (c_X7_count gn_Hd hs hP (w := 1) (by unfold gx_3; omega)) (cwV 1 (gx_hts C) gL_squares_X7_count rfl rfl rfl (by decide +kernel) ⟨Nat.le_of_ble_eq_true rfl, Nat.le_of_ble_eq_true rfl⟩) rfl rfl (Nat.le_of_ble_eq_true rfl) ⟨Nat.le_refl _, Nat.le_refl _⟩ dL_squares_29 (fun z2 P1 h4 => ?_)
    obtain ⟨h4, x4⟩ := h4
    have h4 : z2 = s.1 82 := h4
    have hP1 := sd_XR hP x4
    refine gx_icmp_ge C dL_squares_32 rfl (by unfold gx_3; omega) (by unfold gx_3; omega) (fun hb32 => absurd hb32 (by omega)) (fun hb32 => ?_)
    refine gx_iload C dL_squares_35 rfl ?_
    refine gx_iload_n C dL_squares_37 rfl ?_
    refine gx_imul C dL_squares_38 ?_
    refine gx_aload_n C dL_squares_39 rfl ?_
    refine gx_iconst C dL_squares_40 ?_
    refine gx_callI C 7 rfl (gd_12 gn_Hd) (c_X7_count gn_Hd hs hP1 (w := 1) (by unfold gx_3; omega)) (cwV 1 (gx_hts C) gL_squares_X7_count rfl rfl rfl (by decide +kernel) ⟨Nat.le_of_ble_eq_true rfl, Nat.le_of_ble_eq_true rfl⟩) rfl rfl (Nat.le_of_ble_eq_true rfl) ⟨Nat.le_refl _, Nat.le_refl _⟩ dL_squares_41 (fun z3 P2 h5 => ?_)
    obtain ⟨h5, x5⟩ := h5
    have h5 : z3 = s.1 82 := h5
    have hP2 := sd_XR hP1 x5
    have hvt := mx_pr hmm.2 (show 0 ≤ (v : Int) ∧ (v : Int) < s.1 82 by omega) ht
    have htm : ((v : Int) * t).tmod z3 = (v : Int) * t % s.1 82 := by rw [h5]; exact gx_tmod hvt.1
    have hmod := mx_md hmm.1 ((v : Int) * t)
    refine gx_irem C dL_squares_44 (show gx_3 ((v : Int) * t) from ⟨by omega, by omega⟩) (by unfold gx_3; omega) (by omega) htm ?_
    refine gx_iconst C dL_squares_45 ?_
    refine gx_icmp_ne C dL_squares_46 rfl (by unfold gx_3; omega) (by unfold gx_3; omega) (fun hb46 => ?_) (fun hb46 => ?_)
    · refine gx_iload C dL_squares_54 rfl ?_
      refine gx_istore C dL_squares_56 (by decide) rfl ?_
      refine gx_iinc C dL_squares_58 (by decide) rfl rfl ?_
      refine gx_goto C dL_squares_61 rfl ?_
      exact nxt (x, P2) ⟨by omega, hx, hx1, hP2⟩
    · refine gx_iload C dL_squares_49 rfl ?_
      refine gx_goto C dL_squares_51 rfl ?_
      refine gx_istore C dL_squares_56 (by decide) rfl ?_
      refine gx_iinc C dL_squares_58 (by decide) rfl rfl ?_
      refine gx_goto C dL_squares_61 rfl ?_
      exact nxt ((v : Int), P2) ⟨by omega, (by show 0 ≤ (v : Int) ∧ (v : Int) < s.1 82; omega), Or.inr (by show (v : Int) * t % s.1 82 = 1; omega), hP2⟩
  · obtain ⟨x, P⟩ := a
    obtain ⟨-, hx, hx1, hP⟩ := hI
    have hx : 0 ≤ x ∧ x < s.1 82 := hx
    have hx1 : gx_hid (x = 0 ∨ x * t % s.1 82 = 1) := hx1
    have hP : sd_R s P := hP
    refine gx_iload C dL_squares_25 rfl ?_
    refine gx_aload_n C dL_squares_27 rfl ?_
    refine gx_iconst C dL_squares_28 ?_
    refine gx_callI C 7 rfl (gd_12 gn_Hd) (c_X7_count gn_Hd hs hP (w := 1) (by unfold gx_3; omega)) (cwV 1 (gx_hts C) gL_squares_X7_count rfl rfl rfl (by decide +kernel) ⟨Nat.le_of_ble_eq_true rfl, Nat.le_of_ble_eq_true rfl⟩) rfl rfl (Nat.le_of_ble_eq_true rfl) ⟨Nat.le_refl _, Nat.le_refl _⟩ dL_squares_29 (fun z2 P1 h4 => ?_)
    obtain ⟨h4, x4⟩ := h4
    have h4 : z2 = s.1 82 := h4
    have hP1 := sd_XR hP x4
    refine gx_icmp_ge C dL_squares_32 rfl (by unfold gx_3; omega) (by unfold gx_3; omega) (fun hb32 => ?_) (fun hb32 => absurd (by omega) hb32)
    refine gx_aload_n C dL_squares_64 rfl ?_
    refine gx_iconst C dL_squares_65 ?_
    refine gx_iload_n C dL_squares_66 rfl ?_
    refine gx_iload_n C dL_squares_67 rfl ?_
    refine gx_iload C dL_squares_68 rfl ?_
    refine gx_callI C 7 rfl (gd_12 gn_Hd) (c_X7_set gn_Hd hs hP1 (r := 4) (i := (K : Int)) (j := (K : Int)) (v := x) (by unfold gx_3; omega) (by unfold gx_3; omega) (by unfold gx_3; omega) (by unfold gx_3; omega)) (cwV 4 (gx_hts C) gL_squares_X7_set rfl rfl rfl (by decide +kernel) ⟨Nat.le_of_ble_eq_true rfl, Nat.le_of_ble_eq_true rfl⟩) rfl rfl (Nat.le_of_ble_eq_true rfl) ⟨Nat.le_refl _, Nat.le_refl _⟩ dL_squares_70 (fun z3 P2 h5 => ?_)
    obtain ⟨s1, h5, R2, -⟩ := h5
    have ok1 := sp_set_ok hs h5
    obtain ⟨e1, sim1, els, el4, -⟩ := set_e (by omega) (by omega) (by omega) hx (by omega) h5
    have e1 : z3 = zs_el s.1 4 (3 * (K : Int).toNat + (K : Int).toNat) := e1
    rw [hz 4 (by decide) (by decide)] at e1
    have e1 : z3 = 0 := e1
    subst e1
    have el4 : zs_el s1.1 4 = mx_one K x := by
      rw [Int.toNat_natCast] at el4
      exact on_el (by omega) (hz 4 (by decide) (by decide)) el4
    have hn1 : zs_nn s1 = zs_nn s := by unfold zs_nn; rw [sim1.1]
    have hm1 : s1.1 82 = s.1 82 := sim1.2.1
    have sq1 : zs_sq s1 (zs_el s1.1 4) := by
      rw [el4]
      refine on_sq ok1 (by omega) (by omega) ?_
      rw [sim1.2.2.1, hm1, ← h3]
      exact hx1
    refine gx_if_lt C dL_squares_73 rfl (by unfold gx_3; omega) (fun hb73 => absurd hb73 (by omega)) (fun hb73 => ?_)
    refine gx_aload_n C dL_squares_76 rfl ?_
    refine gx_iconst C dL_squares_77 ?_
    refine gx_iconst C dL_squares_78 ?_
    refine gx_callI C 7 rfl (gd_12 gn_Hd) (c_X7_of gn_Hd ok1 R2 (r := 4) (w := 3) (by unfold gx_3; omega) (by unfold gx_3; omega)) (cwV 2 (gx_hts C) gL_squares_X7_of rfl rfl rfl (by decide +kernel) ⟨Nat.le_of_ble_eq_true rfl, Nat.le_of_ble_eq_true rfl⟩) rfl rfl (Nat.le_of_ble_eq_true rfl) ⟨Nat.le_refl _, Nat.le_refl _⟩ dL_squares_79 (fun z4 P3 h6 => ?_)
    obtain ⟨h6, x6⟩ := h6
    have h6 : z4 = 1 := (so_3 (by omega) h6).2.mpr sq1
    subst h6
    have R3 := sd_XR R2 x6
    refine gx_iconst C dL_squares_82 ?_
    refine gx_icmp_ne C dL_squares_83 rfl (by unfold gx_3; omega) (by unfold gx_3; omega) (fun hb83 => absurd hb83 (by omega)) (fun hb83 => ?_)
    refine gx_aload_n C dL_squares_86 rfl ?_
    refine gx_iconst C dL_squares_87 ?_
    refine gx_callI C 7 rfl (gd_12 gn_Hd) (c_X7_count gn_Hd ok1 R3 (w := 3) (by unfold gx_3; omega)) (cwV 1 (gx_hts C) gL_squares_X7_count rfl rfl rfl (by decide +kernel) ⟨Nat.le_of_ble_eq_true rfl, Nat.le_of_ble_eq_true rfl⟩) rfl rfl (Nat.le_of_ble_eq_true rfl) ⟨Nat.le_refl _, Nat.le_refl _⟩ dL_squares_88 (fun c P4 h7 => ?_)
    obtain ⟨h7, x7⟩ := h7
    have R4 := sd_XR R3 x7
    have hcb := mx_bit_b 8 c (ct_3 h7)
    have hcb : 0 ≤ c ∧ c < 256 := hcb
    have hc1 : c / 16 % 2 = 1 := by
      obtain ⟨b4, b5, b6, b7, ⟨c4, -⟩, -, -, i4, -⟩ := bt_9 (ct_3 h7)
      rw [c4]
      exact Iff.mpr i4 sq1
    refine gx_iconst C dL_squares_91 ?_
    refine gx_ishr C dL_squares_92 (bt_4 hcb) ?_
    refine gx_iconst C dL_squares_93 ?_
    refine gx_iand C dL_squares_94 (bt_1 (by omega)) ?_
    refine gx_iconst C dL_squares_95 ?_
    refine gx_icmp_ne C dL_squares_96 rfl (by unfold gx_3; omega) (by unfold gx_3; omega) (fun hb96 => absurd hb96 (by omega)) (fun hb96 => ?_)
    obtain ⟨X11, q11⟩ := tq_11 ok1 sq1
    refine gx_aload_n C dL_squares_99 rfl ?_
    refine gx_ldc2 C (v := gl_l 8081785587757563205) (by decide +kernel : Cond.constantLong RL 131 _ ∈ _) dL_squares_100 ?_
    refine gx_lconst_0 C dL_squares_103  ?_
    refine gx_lconst_0 C dL_squares_104  ?_
    refine gx_lconst_0 C dL_squares_105  ?_
    refine gx_lconst_0 C dL_squares_106  ?_
    refine gx_bipush C dL_squares_107 rfl ?_
    refine gx_statI C (c_says_11 ok1 R4 (tx_flt q11)) (cwS 7 (gx_hts C) gL_squares_L_says rfl rfl rfl (by decide +kernel) ⟨Nat.le_of_ble_eq_true rfl, Nat.le_of_ble_eq_true rfl⟩) rfl rfl (Nat.le_of_ble_eq_true rfl) ⟨Nat.le_refl _, Nat.le_refl _⟩ dL_squares_109 (fun z5 P5 h8 => ?_)
    obtain ⟨rfl, R5⟩ := h8
    refine gx_if_eq C dL_squares_112 rfl (by unfold gx_3; omega) (fun hb112 => absurd hb112 (by omega)) (fun hb112 => ?_)
    refine gx_aload_n C dL_squares_115 rfl ?_
    refine gx_callI C 7 rfl (gd_12 gn_Hd) (c_X7_holds gn_Hd (tk_11 ok1) R5) (cwV 0 (gx_hts C) gL_squares_X7_holds rfl rfl rfl (by decide +kernel) ⟨Nat.le_of_ble_eq_true rfl, Nat.le_of_ble_eq_true rfl⟩) rfl rfl (Nat.le_of_ble_eq_true rfl) ⟨Nat.le_refl _, Nat.le_refl _⟩ dL_squares_116 (fun z6 P6 h9 => ?_)
    obtain ⟨h9, x9⟩ := h9
    have h9 := tx_holds q11 rfl h9
    subst h9
    have R6 := sd_XR R5 x9
    refine gx_iconst C dL_squares_119 ?_
    refine gx_icmp_ne C dL_squares_120 rfl (by unfold gx_3; omega) (by unfold gx_3; omega) (fun hb120 => absurd hb120 (by omega)) (fun hb120 => ?_)
    refine gx_iconst C dL_squares_123 ?_
    refine gx_goto C dL_squares_124 rfl ?_
    refine gx_istore C dL_squares_128 (by decide) rfl ?_
    refine gx_aload_n C dL_squares_130 rfl ?_
    refine gx_iconst C dL_squares_131 ?_
    refine gx_callI C 7 rfl (gd_12 gn_Hd) (c_X7_count gn_Hd (tk_11 ok1) R6 (w := 5) (by unfold gx_3; omega)) (cwV 1 (gx_hts C) gL_squares_X7_count rfl rfl rfl (by decide +kernel) ⟨Nat.le_of_ble_eq_true rfl, Nat.le_of_ble_eq_true rfl⟩) rfl rfl (Nat.le_of_ble_eq_true rfl) ⟨Nat.le_refl _, Nat.le_refl _⟩ dL_squares_132 (fun hd P7 h10 => ?_)
    obtain ⟨h10, x10⟩ := h10
    have h10 : hd = (s1.2.1.1 : Int) := ct_5 h10
    have R7 := sd_XR R6 x10
    have hh6 := ok1.2.1
    refine gx_istore C dL_squares_135 (by decide) rfl ?_
    refine gx_aload_n C dL_squares_137 rfl ?_
    refine gx_iconst C dL_squares_138 ?_
    refine gx_iconst C dL_squares_139 ?_
    refine gx_iconst C dL_squares_140 ?_
    refine gx_callI C 7 rfl (gd_12 gn_Hd) (c_X7_split gn_Hd (tk_11 ok1) R7 (a := 4) (b := 1) (t := 5) (by unfold gx_3; omega) (by unfold gx_3; omega) (by unfold gx_3; omega)) (cwV 3 (gx_hts C) gL_squares_X7_split rfl rfl rfl (by decide +kernel) ⟨Nat.le_of_ble_eq_true rfl, Nat.le_of_ble_eq_true rfl⟩) rfl rfl (Nat.le_of_ble_eq_true rfl) ⟨Nat.le_refl _, Nat.le_refl _⟩ dL_squares_141 (fun pt P8 h11 => ?_)
    obtain ⟨s2, h11, R8, -⟩ := h11
    have ok2 := sp_split_ok (tk_11 ok1) h11
    obtain ⟨sim2, hP2q, el42, hc2, hu2, -, q0, q1, q2, n0, n1, n2, hpt⟩ := spl_e (tk_11 ok1) sq1 h11
    have hc2 : s2.2.1.1 = if s1.2.1.1 = 6 then 6 else s1.2.1.1 + 1 := hc2
    have el42 : zs_el s2.1 4 = mx_one K x := el42.trans el4
    have hq0 := nz_b n0
    have hq1 := nz_b n1
    have hq2 := nz_b n2
    have n0 : gx_hid (mx_nz (zs_el s2.1 5) q0) := n0
    have n1 : gx_hid (mx_nz (zs_el s2.1 6) q1) := n1
    have n2 : gx_hid (mx_nz (zs_el s2.1 7) q2) := n2
    refine gx_istore C dL_squares_144 (by decide) rfl ?_
    refine gx_iload C dL_squares_146 rfl ?_
    refine gx_if_eq C dL_squares_148 rfl (by unfold gx_3; omega) (fun hb148 => absurd hb148 (by omega)) (fun hb148 => ?_)
    refine gx_iload C dL_squares_151 rfl ?_
    refine gx_if_lt C dL_squares_153 rfl (by unfold gx_3; omega) (fun hb153 => absurd hb153 (by omega)) (fun hb153 => ?_)
    refine gx_iload C dL_squares_156 rfl ?_
    refine gx_iconst C dL_squares_158 ?_
    refine gx_icmp_gt C dL_squares_159 rfl (by unfold gx_3; omega) (by unfold gx_3; omega) (fun hb159 => absurd hb159 (by omega)) (fun hb159 => ?_)
    refine gx_aload_n C dL_squares_162 rfl ?_
    refine gx_iconst C dL_squares_163 ?_
    refine gx_callI C 7 rfl (gd_12 gn_Hd) (c_X7_count gn_Hd ok2 R8 (w := 5) (by unfold gx_3; omega)) (cwV 1 (gx_hts C) gL_squares_X7_count rfl rfl rfl (by decide +kernel) ⟨Nat.le_of_ble_eq_true rfl, Nat.le_of_ble_eq_true rfl⟩) rfl rfl (Nat.le_of_ble_eq_true rfl) ⟨Nat.le_refl _, Nat.le_refl _⟩ dL_squares_164 (fun c6 P9 h12 => ?_)
    obtain ⟨h12, x12⟩ := h12
    have h12 : c6 = (s2.2.1.1 : Int) := ct_5 h12
    have R9 := sd_XR R8 x12
    refine gx_cut 186 (fun (_ : Unit) => [gx_R 12, gx_I g, gx_I (K : Int), gx_I t, gx_I x, gx_I 1, gx_I hd, gx_I pt, gx_U, gx_U, gx_U]) (fun _ => []) (fun _ => P9) (fun _ => True) (fun _ _ => ?_) (fun at186 => ?_)
    · refine gx_iconst C dL_squares_186 ?_
      refine gx_goto C dL_squares_187 rfl ?_
      refine gx_istore C dL_squares_191 (by decide) rfl ?_
      refine gx_aload_n C dL_squares_193 rfl ?_
      refine gx_iconst C dL_squares_194 ?_
      refine gx_callI C 7 rfl (gd_12 gn_Hd) (c_X7_count gn_Hd ok2 R9 (w := 2) (by unfold gx_3; omega)) (cwV 1 (gx_hts C) gL_squares_X7_count rfl rfl rfl (by decide +kernel) ⟨Nat.le_of_ble_eq_true rfl, Nat.le_of_ble_eq_true rfl⟩) rfl rfl (Nat.le_of_ble_eq_true rfl) ⟨Nat.le_refl _, Nat.le_refl _⟩ dL_squares_195 (fun c1 P10 h13 => ?_)
      obtain ⟨h13, x13⟩ := h13
      have R10 := sd_XR R9 x13
      have hcb := mx_bit_b 8 c1 (ct_2 h13)
      have hcb : 0 ≤ c1 ∧ c1 < 256 := hcb
      have hbits : c1 / 32 % 2 = q0 ∧ c1 / 64 % 2 = q1 ∧ c1 / 128 % 2 = q2 := by
        obtain ⟨b4, b5, b6, b7, ⟨-, c5, c6, c7⟩, -, ⟨-, a5, a6, a7⟩, -, i5, i6, i7⟩ := bt_9 (ct_2 h13)
        rw [c5, c6, c7]
        exact ⟨(nz_u n0 a5 i5).symm, (nz_u n1 a6 i6).symm, (nz_u n2 a7 i7).symm⟩
      obtain ⟨hb5, hb6, hb7⟩ := hbits
      refine gx_iconst C dL_squares_198 ?_
      refine gx_ishr C dL_squares_199 (bt_5 hcb) ?_
      refine gx_iconst C dL_squares_200 ?_
      refine gx_iand C dL_squares_201 (bt_1 (by omega)) ?_
      refine gx_aload_n C dL_squares_202 rfl ?_
      refine gx_iconst C dL_squares_203 ?_
      refine gx_callI C 7 rfl (gd_12 gn_Hd) (c_X7_count gn_Hd ok2 R10 (w := 2) (by unfold gx_3; omega)) (cwV 1 (gx_hts C) gL_squares_X7_count rfl rfl rfl (by decide +kernel) ⟨Nat.le_of_ble_eq_true rfl, Nat.le_of_ble_eq_true rfl⟩) rfl rfl (Nat.le_of_ble_eq_true rfl) ⟨Nat.le_refl _, Nat.le_refl _⟩ dL_squares_204 (fun c2 P11 h14 => ?_)
      obtain ⟨h14, x14⟩ := h14
      have R11 := sd_XR R10 x14
      have h14 := mx_bit_u 8 c2 c1 (ct_2 h14) (ct_2 h13)
      subst h14
      refine gx_bipush C dL_squares_207 rfl ?_
      refine gx_ishr C dL_squares_209 (bt_6 hcb) ?_
      refine gx_iconst C dL_squares_210 ?_
      refine gx_iand C dL_squares_211 (bt_1 (by omega)) ?_
      refine gx_iadd C dL_squares_212 ?_
      refine gx_aload_n C dL_squares_213 rfl ?_
      refine gx_iconst C dL_squares_214 ?_
      refine gx_callI C 7 rfl (gd_12 gn_Hd) (c_X7_count gn_Hd ok2 R11 (w := 2) (by unfold gx_3; omega)) (cwV 1 (gx_hts C) gL_squares_X7_count rfl rfl rfl (by decide +kernel) ⟨Nat.le_of_ble_eq_true rfl, Nat.le_of_ble_eq_true rfl⟩) rfl rfl (Nat.le_of_ble_eq_true rfl) ⟨Nat.le_refl _, Nat.le_refl _⟩ dL_squares_215 (fun c3 P12 h15 => ?_)
      obtain ⟨h15, x15⟩ := h15
      have R12 := sd_XR R11 x15
      have h15 := mx_bit_u 8 c3 c2 (ct_2 h15) (ct_2 h13)
      subst h15
      refine gx_bipush C dL_squares_218 rfl ?_
      refine gx_ishr C dL_squares_220 (bt_7 hcb) ?_
      refine gx_iconst C dL_squares_221 ?_
      refine gx_iand C dL_squares_222 (bt_1 (by omega)) ?_
      refine gx_iadd C dL_squares_223 ?_
      refine gx_istore C dL_squares_224 (by decide) rfl ?_
      refine gx_iload C dL_squares_226 rfl ?_
      refine gx_if_eq C dL_squares_228 rfl (by unfold gx_3; omega) (fun hb228 => absurd hb228 (by omega)) (fun hb228 => ?_)
      refine gx_iload C dL_squares_231 rfl ?_
      refine gx_iload C dL_squares_233 rfl ?_
      refine gx_icmp_ne C dL_squares_235 rfl (by unfold gx_3; omega) (by unfold gx_3; omega) (fun hb235 => absurd hb235 (by omega)) (fun hb235 => ?_)
      refine gx_iconst C dL_squares_238 ?_
      refine gx_goto C dL_squares_239 rfl ?_
      refine gx_istore C dL_squares_243 (by decide) rfl ?_
      refine gx_iload C dL_squares_245 rfl ?_
      refine gx_if_eq C dL_squares_247 rfl (by unfold gx_3; omega) (fun hb247 => absurd hb247 (by omega)) (fun hb247 => ?_)

      obtain ⟨X12, q12⟩ := tq_12 ok2 hP2q
      refine gx_aload_n C dL_squares_250 rfl ?_
      refine gx_ldc2 C (v := gl_l 19750833038572866) (by decide +kernel : Cond.constantLong RL 136 _ ∈ _) dL_squares_251 ?_
      refine gx_lconst_0 C dL_squares_254  ?_
      refine gx_lconst_0 C dL_squares_255  ?_
      refine gx_lconst_0 C dL_squares_256  ?_
      refine gx_lconst_0 C dL_squares_257  ?_
      refine gx_bipush C dL_squares_258 rfl ?_
      refine gx_statI C (c_says_12 ok2 R12 (tx_flt q12)) (cwS 7 (gx_hts C) gL_squares_L_says rfl rfl rfl (by decide +kernel) ⟨Nat.le_of_ble_eq_true rfl, Nat.le_of_ble_eq_true rfl⟩) rfl rfl (Nat.le_of_ble_eq_true rfl) ⟨Nat.le_refl _, Nat.le_refl _⟩ dL_squares_260 (fun z12 M12 g12 => ?_)
      obtain ⟨rfl, g12⟩ := g12
      have g12 : sd_R (st_tx s2 tx_12) M12 := g12
      refine gx_if_eq C dL_squares_263 rfl (by unfold gx_3; omega) (fun hb263 => absurd hb263 (by omega)) (fun hb263 => ?_)
      refine gx_aload_n C dL_squares_266 rfl ?_
      refine gx_callI C 7 rfl (gd_12 gn_Hd) (c_X7_holds gn_Hd (tk_12 ok2) g12) (cwV 0 (gx_hts C) gL_squares_X7_holds rfl rfl rfl (by decide +kernel) ⟨Nat.le_of_ble_eq_true rfl, Nat.le_of_ble_eq_true rfl⟩) rfl rfl (Nat.le_of_ble_eq_true rfl) ⟨Nat.le_refl _, Nat.le_refl _⟩ dL_squares_267 (fun y12 T12 k12 => ?_)
      obtain ⟨k12, j12⟩ := k12
      have k12 := tx_holds q12 rfl k12
      subst k12
      have S12 := sd_XR g12 j12
      refine gx_iconst C dL_squares_270 ?_
      refine gx_icmp_ne C dL_squares_271 rfl (by unfold gx_3; omega) (by unfold gx_3; omega) (fun hb271 => absurd hb271 (by omega)) (fun hb271 => ?_)
      refine gx_iconst C dL_squares_274 ?_
      refine gx_goto C dL_squares_275 rfl ?_
      refine gx_istore C dL_squares_279 (by decide) rfl ?_
      refine gx_iload C dL_squares_281 rfl ?_
      refine gx_if_eq C dL_squares_283 rfl (by unfold gx_3; omega) (fun hb283 => absurd hb283 (by omega)) (fun hb283 => ?_)
      obtain ⟨X13, q13⟩ := tq_13 ok2 hP2q
      refine gx_aload_n C dL_squares_286 rfl ?_
      refine gx_ldc2 C (v := gl_l 8081785587774340422) (by decide +kernel : Cond.constantLong RL 138 _ ∈ _) dL_squares_287 ?_
      refine gx_lconst_0 C dL_squares_290  ?_
      refine gx_lconst_0 C dL_squares_291  ?_
      refine gx_lconst_0 C dL_squares_292  ?_
      refine gx_lconst_0 C dL_squares_293  ?_
      refine gx_bipush C dL_squares_294 rfl ?_
      refine gx_statI C (c_says_13 (tk_12 ok2) S12 (tx_flt q13)) (cwS 7 (gx_hts C) gL_squares_L_says rfl rfl rfl (by decide +kernel) ⟨Nat.le_of_ble_eq_true rfl, Nat.le_of_ble_eq_true rfl⟩) rfl rfl (Nat.le_of_ble_eq_true rfl) ⟨Nat.le_refl _, Nat.le_refl _⟩ dL_squares_296 (fun z13 M13 g13 => ?_)
      obtain ⟨rfl, g13⟩ := g13
      have g13 : sd_R (st_tx s2 tx_13) M13 := g13
      refine gx_if_eq C dL_squares_299 rfl (by unfold gx_3; omega) (fun hb299 => absurd hb299 (by omega)) (fun hb299 => ?_)
      refine gx_aload_n C dL_squares_302 rfl ?_
      refine gx_callI C 7 rfl (gd_12 gn_Hd) (c_X7_holds gn_Hd (tk_13 ok2) g13) (cwV 0 (gx_hts C) gL_squares_X7_holds rfl rfl rfl (by decide +kernel) ⟨Nat.le_of_ble_eq_true rfl, Nat.le_of_ble_eq_true rfl⟩) rfl rfl (Nat.le_of_ble_eq_true rfl) ⟨Nat.le_refl _, Nat.le_refl _⟩ dL_squares_303 (fun y13 T13 k13 => ?_)
      obtain ⟨k13, j13⟩ := k13
      have k13 := tx_holds q13 rfl k13
      subst k13
      have S13 := sd_XR g13 j13
      refine gx_iconst C dL_squares_306 ?_
      refine gx_icmp_ne C dL_squares_307 rfl (by unfold gx_3; omega) (by unfold gx_3; omega) (fun hb307 => absurd hb307 (by omega)) (fun hb307 => ?_)
      refine gx_iconst C dL_squares_310 ?_
      refine gx_goto C dL_squares_311 rfl ?_
      refine gx_istore C dL_squares_315 (by decide) rfl ?_
      refine gx_iload C dL_squares_317 rfl ?_
      refine gx_if_eq C dL_squares_319 rfl (by unfold gx_3; omega) (fun hb319 => absurd hb319 (by omega)) (fun hb319 => ?_)
      obtain ⟨X14, q14⟩ := tq_14 ok2 hP2q
      refine gx_aload_n C dL_squares_322 rfl ?_
      refine gx_ldc2 C (v := gl_l 3614824969179776809) (by decide +kernel : Cond.constantLong RL 140 _ ∈ _) dL_squares_323 ?_
      refine gx_ldc2 C (v := gl_l 15687) (by decide +kernel : Cond.constantLong RL 142 _ ∈ _) dL_squares_326 ?_
      refine gx_lconst_0 C dL_squares_329  ?_
      refine gx_lconst_0 C dL_squares_330  ?_
      refine gx_lconst_0 C dL_squares_331  ?_
      refine gx_bipush C dL_squares_332 rfl ?_
      refine gx_statI C (c_says_14 (tk_13 ok2) S13 (tx_flt q14)) (cwS 7 (gx_hts C) gL_squares_L_says rfl rfl rfl (by decide +kernel) ⟨Nat.le_of_ble_eq_true rfl, Nat.le_of_ble_eq_true rfl⟩) rfl rfl (Nat.le_of_ble_eq_true rfl) ⟨Nat.le_refl _, Nat.le_refl _⟩ dL_squares_334 (fun z14 M14 g14 => ?_)
      obtain ⟨rfl, g14⟩ := g14
      have g14 : sd_R (st_tx s2 tx_14) M14 := g14
      refine gx_if_eq C dL_squares_337 rfl (by unfold gx_3; omega) (fun hb337 => absurd hb337 (by omega)) (fun hb337 => ?_)
      refine gx_aload_n C dL_squares_340 rfl ?_
      refine gx_callI C 7 rfl (gd_12 gn_Hd) (c_X7_holds gn_Hd (tk_14 ok2) g14) (cwV 0 (gx_hts C) gL_squares_X7_holds rfl rfl rfl (by decide +kernel) ⟨Nat.le_of_ble_eq_true rfl, Nat.le_of_ble_eq_true rfl⟩) rfl rfl (Nat.le_of_ble_eq_true rfl) ⟨Nat.le_refl _, Nat.le_refl _⟩ dL_squares_341 (fun y14 T14 k14 => ?_)
      obtain ⟨k14, j14⟩ := k14
      have k14 := tx_holds q14 rfl k14
      subst k14
      have S14 := sd_XR g14 j14
      refine gx_iconst C dL_squares_344 ?_
      refine gx_icmp_ne C dL_squares_345 rfl (by unfold gx_3; omega) (by unfold gx_3; omega) (fun hb345 => absurd hb345 (by omega)) (fun hb345 => ?_)
      refine gx_iconst C dL_squares_348 ?_
      refine gx_goto C dL_squares_349 rfl ?_
      refine gx_istore C dL_squares_353 (by decide) rfl ?_
      refine gx_iload C dL_squares_355 rfl ?_
      refine gx_if_eq C dL_squares_357 rfl (by unfold gx_3; omega) (fun hb357 => absurd hb357 (by omega)) (fun hb357 => ?_)
      obtain ⟨X15, q15⟩ := tq_15 ok2 hP2q
      refine gx_aload_n C dL_squares_360 rfl ?_
      refine gx_ldc2 C (v := gl_l 8081785587807894849) (by decide +kernel : Cond.constantLong RL 144 _ ∈ _) dL_squares_361 ?_
      refine gx_ldc2 C (v := gl_l 11585) (by decide +kernel : Cond.constantLong RL 146 _ ∈ _) dL_squares_364 ?_
      refine gx_lconst_0 C dL_squares_367  ?_
      refine gx_lconst_0 C dL_squares_368  ?_
      refine gx_lconst_0 C dL_squares_369  ?_
      refine gx_bipush C dL_squares_370 rfl ?_
      refine gx_statI C (c_says_15 (tk_14 ok2) S14 (tx_flt q15)) (cwS 7 (gx_hts C) gL_squares_L_says rfl rfl rfl (by decide +kernel) ⟨Nat.le_of_ble_eq_true rfl, Nat.le_of_ble_eq_true rfl⟩) rfl rfl (Nat.le_of_ble_eq_true rfl) ⟨Nat.le_refl _, Nat.le_refl _⟩ dL_squares_372 (fun z15 M15 g15 => ?_)
      obtain ⟨rfl, g15⟩ := g15
      have g15 : sd_R (st_tx s2 tx_15) M15 := g15
      refine gx_if_eq C dL_squares_375 rfl (by unfold gx_3; omega) (fun hb375 => absurd hb375 (by omega)) (fun hb375 => ?_)
      refine gx_aload_n C dL_squares_378 rfl ?_
      refine gx_callI C 7 rfl (gd_12 gn_Hd) (c_X7_holds gn_Hd (tk_15 ok2) g15) (cwV 0 (gx_hts C) gL_squares_X7_holds rfl rfl rfl (by decide +kernel) ⟨Nat.le_of_ble_eq_true rfl, Nat.le_of_ble_eq_true rfl⟩) rfl rfl (Nat.le_of_ble_eq_true rfl) ⟨Nat.le_refl _, Nat.le_refl _⟩ dL_squares_379 (fun y15 T15 k15 => ?_)
      obtain ⟨k15, j15⟩ := k15
      have k15 := tx_holds q15 rfl k15
      subst k15
      have S15 := sd_XR g15 j15
      refine gx_iconst C dL_squares_382 ?_
      refine gx_icmp_ne C dL_squares_383 rfl (by unfold gx_3; omega) (by unfold gx_3; omega) (fun hb383 => absurd hb383 (by omega)) (fun hb383 => ?_)
      refine gx_iconst C dL_squares_386 ?_
      refine gx_goto C dL_squares_387 rfl ?_
      refine gx_istore C dL_squares_391 (by decide) rfl ?_
      refine gx_iload C dL_squares_393 rfl ?_
      refine gx_if_eq C dL_squares_395 rfl (by unfold gx_3; omega) (fun hb395 => absurd hb395 (by omega)) (fun hb395 => ?_)
      obtain ⟨X16, q16⟩ := tq_16 ok2 hP2q
      refine gx_aload_n C dL_squares_398 rfl ?_
      refine gx_ldc2 C (v := gl_l 8442073557896871238) (by decide +kernel : Cond.constantLong RL 148 _ ∈ _) dL_squares_399 ?_
      refine gx_lconst_0 C dL_squares_402  ?_
      refine gx_lconst_0 C dL_squares_403  ?_
      refine gx_lconst_0 C dL_squares_404  ?_
      refine gx_lconst_0 C dL_squares_405  ?_
      refine gx_bipush C dL_squares_406 rfl ?_
      refine gx_statI C (c_says_16 (tk_15 ok2) S15 (tx_flt q16)) (cwS 7 (gx_hts C) gL_squares_L_says rfl rfl rfl (by decide +kernel) ⟨Nat.le_of_ble_eq_true rfl, Nat.le_of_ble_eq_true rfl⟩) rfl rfl (Nat.le_of_ble_eq_true rfl) ⟨Nat.le_refl _, Nat.le_refl _⟩ dL_squares_408 (fun z16 M16 g16 => ?_)
      obtain ⟨rfl, g16⟩ := g16
      have g16 : sd_R (st_tx s2 tx_16) M16 := g16
      refine gx_if_eq C dL_squares_411 rfl (by unfold gx_3; omega) (fun hb411 => absurd hb411 (by omega)) (fun hb411 => ?_)
      refine gx_aload_n C dL_squares_414 rfl ?_
      refine gx_callI C 7 rfl (gd_12 gn_Hd) (c_X7_holds gn_Hd (tk_16 ok2) g16) (cwV 0 (gx_hts C) gL_squares_X7_holds rfl rfl rfl (by decide +kernel) ⟨Nat.le_of_ble_eq_true rfl, Nat.le_of_ble_eq_true rfl⟩) rfl rfl (Nat.le_of_ble_eq_true rfl) ⟨Nat.le_refl _, Nat.le_refl _⟩ dL_squares_415 (fun y16 T16 k16 => ?_)
      obtain ⟨k16, j16⟩ := k16
      have k16 := tx_holds q16 rfl k16
      subst k16
      have S16 := sd_XR g16 j16
      refine gx_iconst C dL_squares_418 ?_
      refine gx_icmp_ne C dL_squares_419 rfl (by unfold gx_3; omega) (by unfold gx_3; omega) (fun hb419 => absurd hb419 (by omega)) (fun hb419 => ?_)
      refine gx_iconst C dL_squares_422 ?_
      refine gx_goto C dL_squares_423 rfl ?_
      refine gx_istore C dL_squares_427 (by decide) rfl ?_
      refine gx_iload C dL_squares_429 rfl ?_
      refine gx_if_eq C dL_squares_431 rfl (by unfold gx_3; omega) (fun hb431 => absurd hb431 (by omega)) (fun hb431 => ?_)
      obtain ⟨X17, q17⟩ := tq_17 ok2 hP2q
      refine gx_aload_n C dL_squares_434 rfl ?_
      refine gx_ldc2 C (v := gl_l 8442113144660967977) (by decide +kernel : Cond.constantLong RL 150 _ ∈ _) dL_squares_435 ?_
      refine gx_ldc2 C (v := gl_l 15688) (by decide +kernel : Cond.constantLong RL 152 _ ∈ _) dL_squares_438 ?_
      refine gx_lconst_0 C dL_squares_441  ?_
      refine gx_lconst_0 C dL_squares_442  ?_
      refine gx_lconst_0 C dL_squares_443  ?_
      refine gx_bipush C dL_squares_444 rfl ?_
      refine gx_statI C (c_says_17 (tk_16 ok2) S16 (tx_flt q17)) (cwS 7 (gx_hts C) gL_squares_L_says rfl rfl rfl (by decide +kernel) ⟨Nat.le_of_ble_eq_true rfl, Nat.le_of_ble_eq_true rfl⟩) rfl rfl (Nat.le_of_ble_eq_true rfl) ⟨Nat.le_refl _, Nat.le_refl _⟩ dL_squares_446 (fun z17 M17 g17 => ?_)
      obtain ⟨rfl, g17⟩ := g17
      have g17 : sd_R (st_tx s2 tx_17) M17 := g17
      refine gx_if_eq C dL_squares_449 rfl (by unfold gx_3; omega) (fun hb449 => absurd hb449 (by omega)) (fun hb449 => ?_)
      refine gx_aload_n C dL_squares_452 rfl ?_
      refine gx_callI C 7 rfl (gd_12 gn_Hd) (c_X7_holds gn_Hd (tk_17 ok2) g17) (cwV 0 (gx_hts C) gL_squares_X7_holds rfl rfl rfl (by decide +kernel) ⟨Nat.le_of_ble_eq_true rfl, Nat.le_of_ble_eq_true rfl⟩) rfl rfl (Nat.le_of_ble_eq_true rfl) ⟨Nat.le_refl _, Nat.le_refl _⟩ dL_squares_453 (fun y17 T17 k17 => ?_)
      obtain ⟨k17, j17⟩ := k17
      have k17 := tx_holds q17 rfl k17
      subst k17
      have S17 := sd_XR g17 j17
      refine gx_iconst C dL_squares_456 ?_
      refine gx_icmp_ne C dL_squares_457 rfl (by unfold gx_3; omega) (by unfold gx_3; omega) (fun hb457 => absurd hb457 (by omega)) (fun hb457 => ?_)
      refine gx_iconst C dL_squares_460 ?_
      refine gx_goto C dL_squares_461 rfl ?_
      refine gx_istore C dL_squares_465 (by decide) rfl ?_
      refine gx_aload_n C dL_squares_467 rfl ?_
      refine gx_iconst C dL_squares_468 ?_
      refine gx_callI C 7 rfl (gd_12 gn_Hd) (c_X7_count gn_Hd (tk_17 ok2) S17 (w := 0) (by unfold gx_3; omega)) (cwV 1 (gx_hts C) gL_squares_X7_count rfl rfl rfl (by decide +kernel) ⟨Nat.le_of_ble_eq_true rfl, Nat.le_of_ble_eq_true rfl⟩) rfl rfl (Nat.le_of_ble_eq_true rfl) ⟨Nat.le_refl _, Nat.le_refl _⟩ dL_squares_469 (fun n9 U1 h16 => ?_)
      obtain ⟨h16, x16⟩ := h16
      have h16 : n9 = s2.1 81 := h16
      have V1 := sd_XR S17 x16
      have n81 : s2.1 81 = s.1 81 := sim2.1.trans sim1.1
      have nn2 : zs_nn s2 = zs_nn s := by unfold zs_nn; rw [n81]
      have m82 : s2.1 82 = s.1 82 := sim2.2.1.trans sim1.2.1
      have sq2 : zs_sq (st_tx s2 tx_17) (zs_el (st_tx s2 tx_17).1 (4 : Int).toNat) := hP2q.1
      have rk : mx_rank (zs_nn (st_tx s2 tx_17)) ((st_tx s2 tx_17).1 82) (zs_el (st_tx s2 tx_17).1 (4 : Int).toNat) = if x = 0 then 0 else 1 := by
        show mx_rank (zs_nn s2) (s2.1 82) (zs_el s2.1 4) = _
        rw [el42, nn2, m82]
        exact on_rk hn (sp_p hs) hK hx
      have ps : ∀ {w z : Int}, 0 ≤ w ∧ w ≤ 2 → sp_psize (st_tx s2 tx_17) 4 w z → z = mx_pe w ((if x = 0 then 0 else 1 : Nat) : Int) (n9 - ((if x = 0 then 0 else 1 : Nat) : Int)) := fun {w z} hw h => by
        have := on_ps (tk_17 ok2) (by omega) hw sq2 h
        rw [rk] at this
        rw [this, h16]
        rfl
      have hn9 : gx_hid (n9 = 2 ∨ n9 = 3) := show n9 = 2 ∨ n9 = 3 by omega
      have hb9 : 2 ≤ n9 ∧ n9 ≤ 3 := by omega
      refine gx_istore C dL_squares_472 (by decide) rfl ?_
      refine gx_aload_n C dL_squares_474 rfl ?_
      refine gx_iconst C dL_squares_475 ?_
      refine gx_iconst C dL_squares_476 ?_
      refine gx_callI C 7 rfl (gd_12 gn_Hd) (c_X7_partSize gn_Hd (tk_17 ok2) V1 (r := 4) (w := 0) (by unfold gx_3; omega) (by unfold gx_3; omega)) (cwV 2 (gx_hts C) gL_squares_X7_partSize rfl rfl rfl (by decide +kernel) ⟨Nat.le_of_ble_eq_true rfl, Nat.le_of_ble_eq_true rfl⟩) rfl rfl (Nat.le_of_ble_eq_true rfl) ⟨Nat.le_refl _, Nat.le_refl _⟩ dL_squares_477 (fun p0 U2 h17 => ?_)
      obtain ⟨h17, x17⟩ := h17
      have h17 := ps (by omega) h17
      have V2 := sd_XR V1 x17
      refine gx_aload_n C dL_squares_480 rfl ?_
      refine gx_iconst C dL_squares_481 ?_
      refine gx_iconst C dL_squares_482 ?_
      refine gx_callI C 7 rfl (gd_12 gn_Hd) (c_X7_partSize gn_Hd (tk_17 ok2) V2 (r := 4) (w := 1) (by unfold gx_3; omega) (by unfold gx_3; omega)) (cwV 2 (gx_hts C) gL_squares_X7_partSize rfl rfl rfl (by decide +kernel) ⟨Nat.le_of_ble_eq_true rfl, Nat.le_of_ble_eq_true rfl⟩) rfl rfl (Nat.le_of_ble_eq_true rfl) ⟨Nat.le_refl _, Nat.le_refl _⟩ dL_squares_483 (fun p1 U3 h18 => ?_)
      obtain ⟨h18, x18⟩ := h18
      have h18 := ps (by omega) h18
      have V3 := sd_XR V2 x18
      refine gx_iadd C dL_squares_486 ?_
      refine gx_aload_n C dL_squares_487 rfl ?_
      refine gx_iconst C dL_squares_488 ?_
      refine gx_iconst C dL_squares_489 ?_
      refine gx_callI C 7 rfl (gd_12 gn_Hd) (c_X7_partSize gn_Hd (tk_17 ok2) V3 (r := 4) (w := 2) (by unfold gx_3; omega) (by unfold gx_3; omega)) (cwV 2 (gx_hts C) gL_squares_X7_partSize rfl rfl rfl (by decide +kernel) ⟨Nat.le_of_ble_eq_true rfl, Nat.le_of_ble_eq_true rfl⟩) rfl rfl (Nat.le_of_ble_eq_true rfl) ⟨Nat.le_refl _, Nat.le_refl _⟩ dL_squares_490 (fun p2 U4 h19 => ?_)
      obtain ⟨h19, x19⟩ := h19
      have h19 := ps (by omega) h19
      have V4 := sd_XR V3 x19
      refine gx_cut 555 (fun (a : gx_M) => [gx_R 12, gx_I g, gx_I (K : Int), gx_I t, gx_I x, gx_I 1, gx_I hd, gx_I pt, gx_U, gx_U, gx_U]) (fun _ => []) (fun a => a) (fun a => sd_R (st_tx s2 tx_17) a) (fun a V5 => ?_) (fun at555 => ?_)
      · refine gx_iconst C dL_squares_555 ?_
        refine gx_goto C dL_squares_556 rfl ?_
        refine gx_istore C dL_squares_560 (by decide) rfl ?_
        refine gx_iload C dL_squares_562 rfl ?_
        refine gx_if_eq C dL_squares_564 rfl (by unfold gx_3; omega) (fun hb564 => absurd hb564 (by omega)) (fun hb564 => ?_)
        refine gx_aload_n C dL_squares_567 rfl ?_
        refine gx_callI C 7 rfl (gd_12 gn_Hd) (c_X7_undo gn_Hd (tk_17 ok2) V5) (cwV 0 (gx_hts C) gL_squares_X7_undo rfl rfl rfl (by decide +kernel) ⟨Nat.le_of_ble_eq_true rfl, Nat.le_of_ble_eq_true rfl⟩) rfl rfl (Nat.le_of_ble_eq_true rfl) ⟨Nat.le_refl _, Nat.le_refl _⟩ dL_squares_568 (fun un U5 h20 => ?_)
        obtain ⟨s3, h20, V6, -⟩ := h20
        have ok3 := sp_undo_ok (tk_17 ok2) h20
        have hcp : ¬ s2.2.1.1 = 0 := by
          rw [hc2]
          split <;> omega
        unfold sp_undo at h20
        rw [if_neg (by exact hcp)] at h20
        obtain ⟨h20, rfl⟩ := h20
        have h20 : un = (s2.2.1.1 : Int) - 1 := h20
        have hle := ok2.2.1
        refine gx_if_lt C dL_squares_571 rfl (by unfold gx_3; omega) (fun hb571 => absurd hb571 (by omega)) (fun hb571 => ?_)
        refine gx_aload_n C dL_squares_574 rfl ?_
        refine gx_iconst C dL_squares_575 ?_
        refine gx_callI C 7 rfl (gd_12 gn_Hd) (c_X7_count gn_Hd ok3 V6 (w := 2) (by unfold gx_3; omega)) (cwV 1 (gx_hts C) gL_squares_X7_count rfl rfl rfl (by decide +kernel) ⟨Nat.le_of_ble_eq_true rfl, Nat.le_of_ble_eq_true rfl⟩) rfl rfl (Nat.le_of_ble_eq_true rfl) ⟨Nat.le_refl _, Nat.le_refl _⟩ dL_squares_576 (fun c9 U6 h21 => ?_)
        obtain ⟨h21, x21⟩ := h21
        have V7 := sd_XR V6 x21
        have hcb := mx_bit_b 8 c9 (ct_2 h21)
        have hcb : 0 ≤ c9 ∧ c9 < 256 := hcb
        have hc32 : c9 / 32 = 0 := by
          obtain ⟨b4, b5, b6, b7, -, c0, ⟨-, a5, a6, a7⟩, -, i5, i6, i7⟩ := bt_9 (ct_2 h21)
          have zr : ∀ r, 5 ≤ r → r < 8 → zs_el (s2.2.1.2 (s2.2.1.1 - 1)) r = fun _ => 0 := fun r hr1 hr2 => by
            rw [hu2]
            exact (els r (by omega) (by show r ≠ 4; omega)).trans (hz r (by omega) hr2)
          have z5 : b5 = 0 := Or.resolve_right a5 (fun e => (Iff.mp i5 e) (zr 5 (by decide) (by decide)))
          have z6 : b6 = 0 := Or.resolve_right a6 (fun e => (Iff.mp i6 e) (zr 6 (by decide) (by decide)))
          have z7 : b7 = 0 := Or.resolve_right a7 (fun e => (Iff.mp i7 e) (zr 7 (by decide) (by decide)))
          rw [c0, z5, z6, z7]
          rfl
        refine gx_iconst C dL_squares_579 ?_
        refine gx_ishr C dL_squares_580 (bt_5 hcb) ?_
        refine gx_if_ne C dL_squares_581 rfl (by unfold gx_3; omega) (fun hb581 => absurd hb581 (by omega)) (fun hb581 => ?_)
        refine gx_iconst C dL_squares_584 ?_
        refine gx_goto C dL_squares_585 rfl ?_
        exact gx_zret C (by omega) dL_squares_589 ⟨rfl, _, ok3, V7⟩
      · by_cases hx0 : x = 0
        · rw [if_pos hx0] at h17 h18 h19
          rcases hn9 with e | e

          · rw [e] at h17 h18 h19
            have h17 : p0 = 3 := h17
            have h18 : p1 = 0 := h18
            have h19 : p2 = 0 := h19
            subst h17 h18 h19 e
            refine gx_iadd C dL_squares_493 ?_
            refine gx_istore C dL_squares_494 (by decide) rfl ?_
            refine gx_iload C dL_squares_496 rfl ?_
            refine gx_if_eq C dL_squares_498 rfl (by unfold gx_3; omega) (fun hb498 => absurd hb498 (by omega)) (fun hb498 => ?_)
            refine gx_iload C dL_squares_501 rfl ?_
            refine gx_iload C dL_squares_503 rfl ?_
            refine gx_iload C dL_squares_505 rfl ?_
            refine gx_iconst C dL_squares_507 ?_
            refine gx_iadd C dL_squares_508 ?_
            refine gx_imul C dL_squares_509 ?_
            refine gx_iconst C dL_squares_510 ?_
            refine gx_idiv C dL_squares_511 (by unfold gx_3; omega) (by unfold gx_3; omega) (by omega) (by decide : ((2 : Int) * (2 + 1)).tdiv 2 = 3) ?_
            refine gx_icmp_ne C dL_squares_512 rfl (by unfold gx_3; omega) (by unfold gx_3; omega) (fun hb512 => absurd hb512 (by omega)) (fun hb512 => ?_)
            refine gx_iload C dL_squares_515 rfl ?_
            refine gx_if_ne C dL_squares_517 rfl (by unfold gx_3; omega) (fun hb517 => absurd hb517 (by omega)) (fun hb517 => ?_)
            refine gx_aload_n C dL_squares_520 rfl ?_
            refine gx_iconst C dL_squares_521 ?_
            refine gx_iconst C dL_squares_522 ?_
            refine gx_callI C 7 rfl (gd_12 gn_Hd) (c_X7_partSize gn_Hd (tk_17 ok2) V4 (r := 4) (w := 2) (by unfold gx_3; omega) (by unfold gx_3; omega)) (cwV 2 (gx_hts C) gL_squares_X7_partSize rfl rfl rfl (by decide +kernel) ⟨Nat.le_of_ble_eq_true rfl, Nat.le_of_ble_eq_true rfl⟩) rfl rfl (Nat.le_of_ble_eq_true rfl) ⟨Nat.le_refl _, Nat.le_refl _⟩ dL_squares_523 (fun p4 U9 h30 => ?_)
            obtain ⟨h30, x30⟩ := h30
            have h30 := ps (by omega) h30
            rw [if_pos hx0] at h30
            have h30 : p4 = 0 := h30
            subst h30
            have V9 := sd_XR V4 x30
            refine gx_if_ne C dL_squares_526 rfl (by unfold gx_3; omega) (fun hb526 => absurd hb526 (by omega)) (fun hb526 => ?_)
            refine gx_goto C dL_squares_529 rfl ?_
            refine gx_weak (L' := [gx_R 12, gx_I g, gx_I (K : Int), gx_I t, gx_I x, gx_I 1, gx_I hd, gx_I pt, gx_U, gx_U, gx_U]) ⟨Or.inr rfl, Or.inr rfl, Or.inr rfl, Or.inr rfl, Or.inr rfl, Or.inr rfl, Or.inr rfl, Or.inr rfl, Or.inl rfl, Or.inl rfl, Or.inl rfl, trivial⟩ ?_
            exact at555 U9 V9
          · rw [e] at h17 h18 h19
            have h17 : p0 = 6 := h17
            have h18 : p1 = 0 := h18
            have h19 : p2 = 0 := h19
            subst h17 h18 h19 e
            refine gx_iadd C dL_squares_493 ?_
            refine gx_istore C dL_squares_494 (by decide) rfl ?_
            refine gx_iload C dL_squares_496 rfl ?_
            refine gx_if_eq C dL_squares_498 rfl (by unfold gx_3; omega) (fun hb498 => absurd hb498 (by omega)) (fun hb498 => ?_)
            refine gx_iload C dL_squares_501 rfl ?_
            refine gx_iload C dL_squares_503 rfl ?_
            refine gx_iload C dL_squares_505 rfl ?_
            refine gx_iconst C dL_squares_507 ?_
            refine gx_iadd C dL_squares_508 ?_
            refine gx_imul C dL_squares_509 ?_
            refine gx_iconst C dL_squares_510 ?_
            refine gx_idiv C dL_squares_511 (by unfold gx_3; omega) (by unfold gx_3; omega) (by omega) (by decide : ((3 : Int) * (3 + 1)).tdiv 2 = 6) ?_
            refine gx_icmp_ne C dL_squares_512 rfl (by unfold gx_3; omega) (by unfold gx_3; omega) (fun hb512 => absurd hb512 (by omega)) (fun hb512 => ?_)
            refine gx_iload C dL_squares_515 rfl ?_
            refine gx_if_ne C dL_squares_517 rfl (by unfold gx_3; omega) (fun hb517 => absurd hb517 (by omega)) (fun hb517 => ?_)
            refine gx_aload_n C dL_squares_520 rfl ?_
            refine gx_iconst C dL_squares_521 ?_
            refine gx_iconst C dL_squares_522 ?_
            refine gx_callI C 7 rfl (gd_12 gn_Hd) (c_X7_partSize gn_Hd (tk_17 ok2) V4 (r := 4) (w := 2) (by unfold gx_3; omega) (by unfold gx_3; omega)) (cwV 2 (gx_hts C) gL_squares_X7_partSize rfl rfl rfl (by decide +kernel) ⟨Nat.le_of_ble_eq_true rfl, Nat.le_of_ble_eq_true rfl⟩) rfl rfl (Nat.le_of_ble_eq_true rfl) ⟨Nat.le_refl _, Nat.le_refl _⟩ dL_squares_523 (fun p4 U9 h30 => ?_)
            obtain ⟨h30, x30⟩ := h30
            have h30 := ps (by omega) h30
            rw [if_pos hx0] at h30
            have h30 : p4 = 0 := h30
            subst h30
            have V9 := sd_XR V4 x30
            refine gx_if_ne C dL_squares_526 rfl (by unfold gx_3; omega) (fun hb526 => absurd hb526 (by omega)) (fun hb526 => ?_)
            refine gx_goto C dL_squares_529 rfl ?_
            refine gx_weak (L' := [gx_R 12, gx_I g, gx_I (K : Int), gx_I t, gx_I x, gx_I 1, gx_I hd, gx_I pt, gx_U, gx_U, gx_U]) ⟨Or.inr rfl, Or.inr rfl, Or.inr rfl, Or.inr rfl, Or.inr rfl, Or.inr rfl, Or.inr rfl, Or.inr rfl, Or.inl rfl, Or.inl rfl, Or.inl rfl, trivial⟩ ?_
            exact at555 U9 V9
        · rw [if_neg hx0] at h17 h18 h19
          rcases hn9 with e | e
          · rw [e] at h17 h18 h19
            have h17 : p0 = 1 := h17
            have h18 : p1 = 1 := h18
            have h19 : p2 = 1 := h19
            subst h17 h18 h19 e
            refine gx_iadd C dL_squares_493 ?_
            refine gx_istore C dL_squares_494 (by decide) rfl ?_
            refine gx_iload C dL_squares_496 rfl ?_
            refine gx_if_eq C dL_squares_498 rfl (by unfold gx_3; omega) (fun hb498 => absurd hb498 (by omega)) (fun hb498 => ?_)
            refine gx_iload C dL_squares_501 rfl ?_
            refine gx_iload C dL_squares_503 rfl ?_
            refine gx_iload C dL_squares_505 rfl ?_
            refine gx_iconst C dL_squares_507 ?_
            refine gx_iadd C dL_squares_508 ?_
            refine gx_imul C dL_squares_509 ?_
            refine gx_iconst C dL_squares_510 ?_
            refine gx_idiv C dL_squares_511 (by unfold gx_3; omega) (by unfold gx_3; omega) (by omega) (by decide : ((2 : Int) * (2 + 1)).tdiv 2 = 3) ?_
            refine gx_icmp_ne C dL_squares_512 rfl (by unfold gx_3; omega) (by unfold gx_3; omega) (fun hb512 => absurd hb512 (by omega)) (fun hb512 => ?_)
            refine gx_iload C dL_squares_515 rfl ?_
            refine gx_if_ne C dL_squares_517 rfl (by unfold gx_3; omega) (fun hb517 => ?_) (fun hb517 => absurd (by omega) hb517)
            refine gx_aload_n C dL_squares_532 rfl ?_
            refine gx_iconst C dL_squares_533 ?_
            refine gx_iconst C dL_squares_534 ?_
            refine gx_callI C 7 rfl (gd_12 gn_Hd) (c_X7_partSize gn_Hd (tk_17 ok2) V4 (r := 4) (w := 2) (by unfold gx_3; omega) (by unfold gx_3; omega)) (cwV 2 (gx_hts C) gL_squares_X7_partSize rfl rfl rfl (by decide +kernel) ⟨Nat.le_of_ble_eq_true rfl, Nat.le_of_ble_eq_true rfl⟩) rfl rfl (Nat.le_of_ble_eq_true rfl) ⟨Nat.le_refl _, Nat.le_refl _⟩ dL_squares_535 (fun p4 U9 h30 => ?_)
            obtain ⟨h30, x30⟩ := h30
            have h30 := ps (by omega) h30
            rw [if_neg hx0] at h30
            have h30 : p4 = 1 := h30
            subst h30
            have V9 := sd_XR V4 x30
            refine gx_iconst C dL_squares_538 ?_
            refine gx_icmp_ne C dL_squares_539 rfl (by unfold gx_3; omega) (by unfold gx_3; omega) (fun hb539 => absurd hb539 (by omega)) (fun hb539 => ?_)
            refine gx_aload_n C dL_squares_542 rfl ?_
            refine gx_iconst C dL_squares_543 ?_
            refine gx_iconst C dL_squares_544 ?_
            refine gx_callI C 7 rfl (gd_12 gn_Hd) (c_X7_partSize gn_Hd (tk_17 ok2) V9 (r := 4) (w := 1) (by unfold gx_3; omega) (by unfold gx_3; omega)) (cwV 2 (gx_hts C) gL_squares_X7_partSize rfl rfl rfl (by decide +kernel) ⟨Nat.le_of_ble_eq_true rfl, Nat.le_of_ble_eq_true rfl⟩) rfl rfl (Nat.le_of_ble_eq_true rfl) ⟨Nat.le_refl _, Nat.le_refl _⟩ dL_squares_545 (fun p5 U10 h31 => ?_)
            obtain ⟨h31, x31⟩ := h31
            have h31 := ps (by omega) h31
            rw [if_neg hx0] at h31
            have h31 : p5 = 1 := h31
            subst h31
            have V10 := sd_XR V9 x31
            refine gx_iload C dL_squares_548 rfl ?_
            refine gx_iconst C dL_squares_550 ?_
            refine gx_isub C dL_squares_551 ?_
            refine gx_icmp_ne C dL_squares_552 rfl (by unfold gx_3; omega) (by unfold gx_3; omega) (fun hb552 => absurd hb552 (by omega)) (fun hb552 => ?_)
            refine gx_weak (L' := [gx_R 12, gx_I g, gx_I (K : Int), gx_I t, gx_I x, gx_I 1, gx_I hd, gx_I pt, gx_U, gx_U, gx_U]) ⟨Or.inr rfl, Or.inr rfl, Or.inr rfl, Or.inr rfl, Or.inr rfl, Or.inr rfl, Or.inr rfl, Or.inr rfl, Or.inl rfl, Or.inl rfl, Or.inl rfl, trivial⟩ ?_
            exact at555 U10 V10
          · rw [e] at h17 h18 h19
            have h17 : p0 = 3 := h17
            have h18 : p1 = 2 := h18
            have h19 : p2 = 1 := h19
            subst h17 h18 h19 e
            refine gx_iadd C dL_squares_493 ?_
            refine gx_istore C dL_squares_494 (by decide) rfl ?_
            refine gx_iload C dL_squares_496 rfl ?_
            refine gx_if_eq C dL_squares_498 rfl (by unfold gx_3; omega) (fun hb498 => absurd hb498 (by omega)) (fun hb498 => ?_)
            refine gx_iload C dL_squares_501 rfl ?_
            refine gx_iload C dL_squares_503 rfl ?_
            refine gx_iload C dL_squares_505 rfl ?_
            refine gx_iconst C dL_squares_507 ?_
            refine gx_iadd C dL_squares_508 ?_
            refine gx_imul C dL_squares_509 ?_
            refine gx_iconst C dL_squares_510 ?_
            refine gx_idiv C dL_squares_511 (by unfold gx_3; omega) (by unfold gx_3; omega) (by omega) (by decide : ((3 : Int) * (3 + 1)).tdiv 2 = 6) ?_
            refine gx_icmp_ne C dL_squares_512 rfl (by unfold gx_3; omega) (by unfold gx_3; omega) (fun hb512 => absurd hb512 (by omega)) (fun hb512 => ?_)
            refine gx_iload C dL_squares_515 rfl ?_
            refine gx_if_ne C dL_squares_517 rfl (by unfold gx_3; omega) (fun hb517 => ?_) (fun hb517 => absurd (by omega) hb517)
            refine gx_aload_n C dL_squares_532 rfl ?_
            refine gx_iconst C dL_squares_533 ?_
            refine gx_iconst C dL_squares_534 ?_
            refine gx_callI C 7 rfl (gd_12 gn_Hd) (c_X7_partSize gn_Hd (tk_17 ok2) V4 (r := 4) (w := 2) (by unfold gx_3; omega) (by unfold gx_3; omega)) (cwV 2 (gx_hts C) gL_squares_X7_partSize rfl rfl rfl (by decide +kernel) ⟨Nat.le_of_ble_eq_true rfl, Nat.le_of_ble_eq_true rfl⟩) rfl rfl (Nat.le_of_ble_eq_true rfl) ⟨Nat.le_refl _, Nat.le_refl _⟩ dL_squares_535 (fun p4 U9 h30 => ?_)
            obtain ⟨h30, x30⟩ := h30
            have h30 := ps (by omega) h30
            rw [if_neg hx0] at h30
            have h30 : p4 = 1 := h30
            subst h30
            have V9 := sd_XR V4 x30
            refine gx_iconst C dL_squares_538 ?_
            refine gx_icmp_ne C dL_squares_539 rfl (by unfold gx_3; omega) (by unfold gx_3; omega) (fun hb539 => absurd hb539 (by omega)) (fun hb539 => ?_)
            refine gx_aload_n C dL_squares_542 rfl ?_
            refine gx_iconst C dL_squares_543 ?_
            refine gx_iconst C dL_squares_544 ?_
            refine gx_callI C 7 rfl (gd_12 gn_Hd) (c_X7_partSize gn_Hd (tk_17 ok2) V9 (r := 4) (w := 1) (by unfold gx_3; omega) (by unfold gx_3; omega)) (cwV 2 (gx_hts C) gL_squares_X7_partSize rfl rfl rfl (by decide +kernel) ⟨Nat.le_of_ble_eq_true rfl, Nat.le_of_ble_eq_true rfl⟩) rfl rfl (Nat.le_of_ble_eq_true rfl) ⟨Nat.le_refl _, Nat.le_refl _⟩ dL_squares_545 (fun p5 U10 h31 => ?_)
            obtain ⟨h31, x31⟩ := h31
            have h31 := ps (by omega) h31
            rw [if_neg hx0] at h31
            have h31 : p5 = 2 := h31
            subst h31
            have V10 := sd_XR V9 x31
            refine gx_iload C dL_squares_548 rfl ?_
            refine gx_iconst C dL_squares_550 ?_
            refine gx_isub C dL_squares_551 ?_
            refine gx_icmp_ne C dL_squares_552 rfl (by unfold gx_3; omega) (by unfold gx_3; omega) (fun hb552 => absurd hb552 (by omega)) (fun hb552 => ?_)
            refine gx_weak (L' := [gx_R 12, gx_I g, gx_I (K : Int), gx_I t, gx_I x, gx_I 1, gx_I hd, gx_I pt, gx_U, gx_U, gx_U]) ⟨Or.inr rfl, Or.inr rfl, Or.inr rfl, Or.inr rfl, Or.inr rfl, Or.inr rfl, Or.inr rfl, Or.inr rfl, Or.inl rfl, Or.inl rfl, Or.inl rfl, trivial⟩ ?_
            exact at555 U10 V10
    · by_cases hh : s1.2.1.1 = 6
      · rw [if_pos hh] at hc2
        refine gx_iload C dL_squares_167 rfl ?_
        refine gx_bipush C dL_squares_169 rfl ?_
        refine gx_icmp_ge C dL_squares_171 rfl (by unfold gx_3; omega) (by unfold gx_3; omega) (fun hb171 => ?_) (fun hb171 => absurd (by omega) hb171)
        refine gx_bipush C dL_squares_181 rfl ?_
        refine gx_icmp_ne C dL_squares_183 rfl (by unfold gx_3; omega) (by unfold gx_3; omega) (fun hb183 => absurd hb183 (by omega)) (fun hb183 => ?_)
        exact at186 () trivial
      · rw [if_neg hh] at hc2
        refine gx_iload C dL_squares_167 rfl ?_
        refine gx_bipush C dL_squares_169 rfl ?_
        refine gx_icmp_ge C dL_squares_171 rfl (by unfold gx_3; omega) (by unfold gx_3; omega) (fun hb171 => absurd hb171 (by omega)) (fun hb171 => ?_)
        refine gx_iload C dL_squares_174 rfl ?_
        refine gx_iconst C dL_squares_176 ?_
        refine gx_iadd C dL_squares_177 ?_
        refine gx_goto C dL_squares_178 rfl ?_
        refine gx_icmp_ne C dL_squares_183 rfl (by unfold gx_3; omega) (by unfold gx_3; omega) (fun hb183 => absurd hb183 (by omega)) (fun hb183 => ?_)
        exact at186 () trivial
