/-! THE LAW: powers -/
theorem or_16 {x y : Int} (hx : 0 ≤ x ∧ x < 16) (hy : 0 ≤ y ∧ y < 16) : ∃ w, gx_i x ||| gx_i y = gx_i w ∧ (0 ≤ w ∧ w < 16) ∧ (w = 0 ↔ x = 0 ∧ y = 0) := by
  have h : ∀ q : Fin 256, gx_i ((q.val / 16 : Nat) : Int) ||| gx_i ((q.val % 16 : Nat) : Int) = gx_i (((q.val / 16) ||| (q.val % 16) : Nat) : Int) ∧ (q.val / 16) ||| (q.val % 16) < 16 ∧ ((q.val / 16) ||| (q.val % 16) = 0 ↔ q.val / 16 = 0 ∧ q.val % 16 = 0) := by decide +kernel
  have h1 := h ⟨16 * x.toNat + y.toNat, by omega⟩
  simp only [show (16 * x.toNat + y.toNat) / 16 = x.toNat by omega, show (16 * x.toNat + y.toNat) % 16 = y.toNat by omega] at h1
  rw [show ((x.toNat : Nat) : Int) = x by omega, show ((y.toNat : Nat) : Int) = y by omega] at h1
  exact ⟨_, h1.1, by omega, by omega⟩
theorem zr_V {n : Nat} {m : Int} (hm : 3 ≤ m) : mx_V n m (fun _ => 0) := ⟨fun k _ => ⟨Int.le_refl 0, (by show (0 : Int) < m; omega)⟩, ⟨fun _ _ _ _ _ => ⟨rfl, rfl⟩, fun _ _ => rfl⟩, fun _ _ _ _ => rfl⟩
set_option maxRecDepth 100000 in
set_option maxHeartbeats 8000000 in
theorem c_L_powers {M : gx_M} {s : sp_S} (hs : sp_ok s) (hR : sd_R s M) : gx_Ci gn_La yL_powers wsL_powers 7 [gx_R 12] M (fun z M' => z = 1 ∧ sd_R s M') := by
  have hB := sp_Vel hs (r := 1) (by decide)
  have hni := sp_n hs
  have hn := sp_nn hs
  have hmm := zs_m hs.1
  have h9 := sp_V9 hs
  refine gx_start_i (L := [gx_R 12, gx_U, gx_U, gx_U, gx_U, gx_U, gx_U]) (by decide) rfl rfl (Nat.le_of_ble_eq_true rfl) rfl ?_
  intro _ _ _ _ _ _ _ _ _ _ _ _ C
  refine gx_aload_n C dL_powers_0 rfl ?_
  refine gx_iconst C dL_powers_1 ?_
  refine gx_iconst C dL_powers_2 ?_
  refine gx_statI C (c_L_isUnit hs hR (r := 1) (k := 0) (by omega) (by omega)) (cwS 3 (gx_hts C) gL_powers_L_isUnit rfl rfl rfl (by decide +kernel) ⟨Nat.le_of_ble_eq_true rfl, Nat.le_of_ble_eq_true rfl⟩) rfl rfl (Nat.le_of_ble_eq_true rfl) ⟨Nat.le_refl _, Nat.le_refl _⟩ dL_powers_3 (fun z1 M1 h1 => ?_)
  obtain ⟨h1, h1b, R1⟩ := h1
  have h1 : z1 = 1 := h1b.mpr rfl
  subst h1
  refine gx_istore_n C dL_powers_6 (by decide) rfl ?_
  refine gx_aload_n C dL_powers_7 rfl ?_
  refine gx_iconst C dL_powers_8 ?_
  refine gx_bipush C dL_powers_9 rfl ?_
  refine gx_callI C 7 rfl (gd_12 gn_Hd) (c_X7_of gn_Hd hs R1 (r := 1) (w := 7) (by unfold gx_3; omega) (by unfold gx_3; omega)) (cwV 2 (gx_hts C) gL_powers_X7_of rfl rfl rfl (by decide +kernel) ⟨Nat.le_of_ble_eq_true rfl, Nat.le_of_ble_eq_true rfl⟩) rfl rfl (Nat.le_of_ble_eq_true rfl) ⟨Nat.le_refl _, Nat.le_refl _⟩ dL_powers_11 (fun e M2 h2 => ?_)
  obtain ⟨h2, x2⟩ := h2
  have he : gx_hid (_ ∨ _) := dg_end hs hB (so_7 (by omega) h2)
  have R2 := sd_XR R1 x2
  have he3 : -6 ≤ e ∧ e ≤ 10 ∧ e ≠ 0 := by
    rcases he with ⟨rfl, -⟩ | ⟨k, a1, a2, rfl, -⟩ <;> omega
  refine gx_istore_n C dL_powers_14 (by decide) rfl ?_
  refine gx_iconst C dL_powers_15 ?_
  refine gx_istore_n C dL_powers_16 (by decide) rfl ?_
  refine gx_for 12 (fun k (_ : gx_M) => [gx_R 12, gx_I 1, gx_I e, gx_I (k : Int), gx_U, gx_U, gx_U]) (fun a => a) (fun k a => 1 ≤ k ∧ sd_R s a) 1 M2 (by decide) ⟨Nat.le_refl 1, R2⟩ (fun k P hk hI nxt => ?_) (fun P hI => ?_)
  · obtain ⟨hk1, hP⟩ := hI
    have hB' := dg_V hs hB k
    have hb9 : ∀ i j, i < zs_nn s → j < zs_nn s → 0 ≤ zs_po s (zs_el s.1 1) (zs_el s.1 9) k (3 * i + j) ∧ zs_po s (zs_el s.1 1) (zs_el s.1 9) k (3 * i + j) < 11 := fun i j hi hj => by
      have := hB'.1 (3 * i + j) (by omega)
      omega
    refine gx_iload_n C dL_powers_17 rfl ?_
    refine gx_bipush C dL_powers_18 rfl ?_
    refine gx_icmp_ge C dL_powers_20 rfl (by unfold gx_3; omega) (by unfold gx_3; omega) (fun hb20 => absurd hb20 (by omega)) (fun hb20 => ?_)
    refine gx_iload_n C dL_powers_23 rfl ?_
    refine gx_if_eq C dL_powers_24 rfl (by unfold gx_3; omega) (fun hb24 => absurd hb24 (by omega)) (fun hb24 => ?_)
    refine gx_iconst C dL_powers_27 ?_
    refine gx_istore C dL_powers_28 (by decide) rfl ?_
    refine gx_iconst C dL_powers_30 ?_
    refine gx_istore C dL_powers_31 (by decide) rfl ?_
    refine gx_cut 120 (fun (a : Int × gx_M) => [gx_R 12, gx_I 1, gx_I e, gx_I (k : Int), gx_I a.1, gx_U, gx_U]) (fun _ => []) (fun a => a.2) (fun a => (0 ≤ a.1 ∧ a.1 < 16) ∧ (a.1 = 0 ↔ zs_po s (zs_el s.1 1) (zs_el s.1 9) k = fun _ => 0) ∧ sd_R s a.2) (fun a ha => ?_) (fun at120 => ?_)
    · obtain ⟨y, P⟩ := a
      obtain ⟨hy, hy0, hP⟩ := ha
      refine gx_cut 159 (fun (_ : Unit) => [gx_R 12, gx_I 1, gx_I e, gx_I (k : Int), gx_I y, gx_U, gx_U]) (fun _ => []) (fun _ => P) (fun _ => True) (fun _ _ => ?_) (fun at159 => ?_)
      · refine gx_iconst C dL_powers_159 ?_
        refine gx_goto C dL_powers_160 rfl ?_
        refine gx_istore_n C dL_powers_164 (by decide) rfl ?_
        refine gx_iinc C dL_powers_165 (by decide) rfl rfl ?_
        refine gx_goto C dL_powers_168 rfl ?_
        refine gx_weak (L' := [gx_R 12, gx_I 1, gx_I e, gx_I ((k + 1 : Nat) : Int), gx_U, gx_U, gx_U]) ⟨Or.inr rfl, Or.inr rfl, Or.inr rfl, Or.inr rfl, Or.inl rfl, Or.inl rfl, Or.inl rfl, trivial⟩ ?_
        exact nxt P ⟨by omega, hP⟩
      · refine gx_iload_n C dL_powers_120 rfl ?_
        refine gx_if_eq C dL_powers_121 rfl (by unfold gx_3; omega) (fun hb121 => absurd hb121 (by omega)) (fun hb121 => ?_)
        refine gx_iload_n C dL_powers_124 rfl ?_
        refine gx_bipush C dL_powers_125 rfl ?_
        refine gx_icmp_gt C dL_powers_127 rfl (by unfold gx_3; omega) (by unfold gx_3; omega) (fun hb127 => ?_) (fun hb127 => ?_)
        · exact at159 () trivial
        · refine gx_iload C dL_powers_130 rfl ?_
          rcases he with ⟨rfl, he⟩ | ⟨K, a1, a2, rfl, a3, a4⟩
          · have hyn : y ≠ 0 := fun q => he k (by omega) (by omega) (hy0.mp q)
            refine gx_if_ne C dL_powers_132 rfl (by unfold gx_3; omega) (fun hb132 => ?_) (fun hb132 => absurd (by omega) hb132)
            refine gx_iconst C dL_powers_139 ?_
            refine gx_iload_n C dL_powers_140 rfl ?_
            refine gx_bipush C dL_powers_141 rfl ?_
            refine gx_icmp_eq C dL_powers_143 rfl (by unfold gx_3; omega) (by unfold gx_3; omega) (fun hb143 => ?_) (fun hb143 => absurd (by omega) hb143)
            refine gx_iconst C dL_powers_155 ?_
            refine gx_icmp_ne C dL_powers_156 rfl (by unfold gx_3; omega) (by unfold gx_3; omega) (fun hb156 => absurd hb156 (by omega)) (fun hb156 => ?_)
            exact at159 () trivial
          · by_cases hkK : k < K
            · have hyn : y ≠ 0 := fun q => a3 k hkK (hy0.mp q)
              refine gx_if_ne C dL_powers_132 rfl (by unfold gx_3; omega) (fun hb132 => ?_) (fun hb132 => absurd (by omega) hb132)
              refine gx_iconst C dL_powers_139 ?_
              refine gx_iload_n C dL_powers_140 rfl ?_
              refine gx_bipush C dL_powers_141 rfl ?_
              refine gx_icmp_eq C dL_powers_143 rfl (by unfold gx_3; omega) (by unfold gx_3; omega) (fun hb143 => absurd hb143 (by omega)) (fun hb143 => ?_)
              refine gx_iload_n C dL_powers_146 rfl ?_
              refine gx_iload_n C dL_powers_147 rfl ?_
              refine gx_icmp_lt C dL_powers_148 rfl (by unfold gx_3; omega) (by unfold gx_3; omega) (fun hb148 => ?_) (fun hb148 => absurd (by omega) hb148)
              refine gx_iconst C dL_powers_155 ?_
              refine gx_icmp_ne C dL_powers_156 rfl (by unfold gx_3; omega) (by unfold gx_3; omega) (fun hb156 => absurd hb156 (by omega)) (fun hb156 => ?_)
              exact at159 () trivial
            · have hyn : y = 0 := hy0.mpr (a4 k (by omega))
              refine gx_if_ne C dL_powers_132 rfl (by unfold gx_3; omega) (fun hb132 => absurd hb132 (by omega)) (fun hb132 => ?_)
              refine gx_iconst C dL_powers_135 ?_
              refine gx_goto C dL_powers_136 rfl ?_
              refine gx_iload_n C dL_powers_140 rfl ?_
              refine gx_bipush C dL_powers_141 rfl ?_
              refine gx_icmp_eq C dL_powers_143 rfl (by unfold gx_3; omega) (by unfold gx_3; omega) (fun hb143 => absurd hb143 (by omega)) (fun hb143 => ?_)
              refine gx_iload_n C dL_powers_146 rfl ?_
              refine gx_iload_n C dL_powers_147 rfl ?_
              refine gx_icmp_lt C dL_powers_148 rfl (by unfold gx_3; omega) (by unfold gx_3; omega) (fun hb148 => absurd hb148 (by omega)) (fun hb148 => ?_)
              refine gx_iconst C dL_powers_151 ?_
              refine gx_goto C dL_powers_152 rfl ?_
              refine gx_icmp_ne C dL_powers_156 rfl (by unfold gx_3; omega) (by unfold gx_3; omega) (fun hb156 => absurd hb156 (by omega)) (fun hb156 => ?_)
              exact at159 () trivial
    · refine gx_for (zs_nn s) (fun i (a : Int × gx_M) => [gx_R 12, gx_I 1, gx_I e, gx_I (k : Int), gx_I a.1, gx_I (i : Int), gx_U]) (fun a => a.2) (fun i a => (0 ≤ a.1 ∧ a.1 < 16) ∧ (a.1 = 0 ↔ ∀ i' j', i' < i → j' < zs_nn s → zs_po s (zs_el s.1 1) (zs_el s.1 9) k (3 * i' + j') = 0) ∧ sd_R s a.2) 0 (0, P) (Nat.zero_le _) ⟨⟨Int.le_refl 0, (by show (0 : Int) < 16; decide)⟩, ⟨fun _ i' j' h => absurd h (Nat.not_lt_zero _), fun _ => rfl⟩, hP⟩ (fun i a hi hI nxt1 => ?_) (fun a hI => ?_)
      · obtain ⟨y, P⟩ := a
        obtain ⟨hy, hy0, hP⟩ := hI
        refine gx_iload C dL_powers_33 rfl ?_
        refine gx_aload_n C dL_powers_35 rfl ?_
        refine gx_iconst C dL_powers_36 ?_
        refine gx_callI C 7 rfl (gd_12 gn_Hd) (c_X7_count gn_Hd hs hP (w := 0) (by unfold gx_3; omega)) (cwV 1 (gx_hts C) gL_powers_X7_count rfl rfl rfl (by decide +kernel) ⟨Nat.le_of_ble_eq_true rfl, Nat.le_of_ble_eq_true rfl⟩) rfl rfl (Nat.le_of_ble_eq_true rfl) ⟨Nat.le_refl _, Nat.le_refl _⟩ dL_powers_37 (fun z1 P1 h1 => ?_)
        obtain ⟨h1, x1⟩ := h1
        have hz1 : z1 = s.1 81 := h1
        subst hz1
        have hP1 := sd_XR hP x1
        refine gx_icmp_ge C dL_powers_40 rfl (by unfold gx_3; omega) (by unfold gx_3; omega) (fun hb40 => absurd hb40 (by omega)) (fun hb40 => ?_)
        refine gx_iconst C dL_powers_43 ?_
        refine gx_istore C dL_powers_44 (by decide) rfl ?_
        refine gx_for (zs_nn s) (fun j (a : Int × gx_M) => [gx_R 12, gx_I 1, gx_I e, gx_I (k : Int), gx_I a.1, gx_I (i : Int), gx_I (j : Int)]) (fun a => a.2) (fun j a => (0 ≤ a.1 ∧ a.1 < 16) ∧ (a.1 = 0 ↔ (∀ i' j', i' < i → j' < zs_nn s → zs_po s (zs_el s.1 1) (zs_el s.1 9) k (3 * i' + j') = 0) ∧ ∀ j', j' < j → zs_po s (zs_el s.1 1) (zs_el s.1 9) k (3 * i + j') = 0) ∧ sd_R s a.2) 0 (y, P1) (Nat.zero_le _) ⟨hy, ⟨fun h => ⟨hy0.mp h, fun j' h => absurd h (Nat.not_lt_zero _)⟩, fun h => hy0.mpr h.1⟩, hP1⟩ (fun j a hj hI nxt2 => ?_) (fun a hI => ?_)
        · obtain ⟨y, P⟩ := a
          obtain ⟨hy, hy0, hP⟩ := hI
          refine gx_iload C dL_powers_46 rfl ?_
          refine gx_aload_n C dL_powers_48 rfl ?_
          refine gx_iconst C dL_powers_49 ?_
          refine gx_callI C 7 rfl (gd_12 gn_Hd) (c_X7_count gn_Hd hs hP (w := 0) (by unfold gx_3; omega)) (cwV 1 (gx_hts C) gL_powers_X7_count rfl rfl rfl (by decide +kernel) ⟨Nat.le_of_ble_eq_true rfl, Nat.le_of_ble_eq_true rfl⟩) rfl rfl (Nat.le_of_ble_eq_true rfl) ⟨Nat.le_refl _, Nat.le_refl _⟩ dL_powers_50 (fun z1 P1 h1 => ?_)
          obtain ⟨h1, x1⟩ := h1
          have hz1 : z1 = s.1 81 := h1
          subst hz1
          have hP1 := sd_XR hP x1
          refine gx_icmp_ge C dL_powers_53 rfl (by unfold gx_3; omega) (by unfold gx_3; omega) (fun hb53 => absurd hb53 (by omega)) (fun hb53 => ?_)
          have all : ∀ {X : Nat → Prop}, (∀ j', j' < j + 1 → X j') ↔ (∀ j', j' < j → X j') ∧ X j := fun {X} => mx_all
          refine gx_iload C dL_powers_56 rfl ?_
          refine gx_aload_n C dL_powers_58 rfl ?_
          refine gx_iconst C dL_powers_59 ?_
          refine gx_iload_n C dL_powers_60 rfl ?_
          refine gx_iload C dL_powers_61 rfl ?_
          refine gx_iload C dL_powers_63 rfl ?_
          refine gx_callI C 7 rfl (gd_12 gn_Hd) (c_X7_power gn_Hd hs hP1 (r := 1) (k := (k : Int)) (i := (i : Int)) (j := (j : Int)) (by unfold gx_3; omega) (by unfold gx_3; omega) (by unfold gx_3; omega) (by unfold gx_3; omega)) (cwV 4 (gx_hts C) gL_powers_X7_power rfl rfl rfl (by decide +kernel) ⟨Nat.le_of_ble_eq_true rfl, Nat.le_of_ble_eq_true rfl⟩) rfl rfl (Nat.le_of_ble_eq_true rfl) ⟨Nat.le_refl _, Nat.le_refl _⟩ dL_powers_65 (fun z2 P2 h2 => ?_)
          obtain ⟨h2, x2⟩ := h2
          have h2 := sp_pw_e h2 (by omega) (by omega) (by omega) (by omega)
          rw [Int.toNat_natCast, Int.toNat_natCast, Int.toNat_natCast] at h2
          have h2 : z2 = zs_po s (zs_el s.1 1) (zs_el s.1 9) k (3 * i + j) := h2
          have hz2 := hb9 i j hi hj
          rw [← h2] at hz2
          have hP2 := sd_XR hP1 x2
          obtain ⟨w, hw, hw16, hw0⟩ := or_16 hy (show 0 ≤ z2 ∧ z2 < 16 by omega)
          have fin : ∀ P', sd_R s P' → (0 ≤ w ∧ w < 16) ∧ (w = 0 ↔ (∀ i' j', i' < i → j' < zs_nn s → zs_po s (zs_el s.1 1) (zs_el s.1 9) k (3 * i' + j') = 0) ∧ ∀ j', j' < j + 1 → zs_po s (zs_el s.1 1) (zs_el s.1 9) k (3 * i + j') = 0) ∧ sd_R s P' := fun P' hP' => ⟨hw16, by rw [hw0, hy0, all, ← h2]; exact ⟨fun h => ⟨h.1.1, h.1.2, h.2⟩, fun h => ⟨⟨h.1, h.2.1⟩, h.2.2⟩⟩, hP'⟩
          refine gx_ior C dL_powers_68 hw ?_
          refine gx_istore C dL_powers_69 (by decide) rfl ?_
          refine gx_iload_n C dL_powers_71 rfl ?_
          refine gx_if_eq C dL_powers_72 rfl (by unfold gx_3; omega) (fun hb72 => absurd hb72 (by omega)) (fun hb72 => ?_)
          refine gx_iload_n C dL_powers_75 rfl ?_
          refine gx_iconst C dL_powers_76 ?_
          refine gx_icmp_gt C dL_powers_77 rfl (by unfold gx_3; omega) (by unfold gx_3; omega) (fun hb77 => ?_) (fun hb77 => ?_)
          · refine gx_iconst C dL_powers_102 ?_
            refine gx_goto C dL_powers_103 rfl ?_
            refine gx_istore_n C dL_powers_107 (by decide) rfl ?_
            refine gx_iinc C dL_powers_108 (by decide) rfl rfl ?_
            refine gx_goto C dL_powers_111 rfl ?_
            exact nxt2 (w, P2) (fin P2 hP2)
          · have hk2 : k = 1 := by omega
            refine gx_aload_n C dL_powers_80 rfl ?_
            refine gx_iconst C dL_powers_81 ?_
            refine gx_iconst C dL_powers_82 ?_
            refine gx_iload C dL_powers_83 rfl ?_
            refine gx_iload C dL_powers_85 rfl ?_
            refine gx_callI C 7 rfl (gd_12 gn_Hd) (c_X7_power gn_Hd hs hP2 (r := 1) (k := 1) (i := (i : Int)) (j := (j : Int)) (by unfold gx_3; omega) (by unfold gx_3; omega) (by unfold gx_3; omega) (by unfold gx_3; omega)) (cwV 4 (gx_hts C) gL_powers_X7_power rfl rfl rfl (by decide +kernel) ⟨Nat.le_of_ble_eq_true rfl, Nat.le_of_ble_eq_true rfl⟩) rfl rfl (Nat.le_of_ble_eq_true rfl) ⟨Nat.le_refl _, Nat.le_refl _⟩ dL_powers_87 (fun z3 P3 h3 => ?_)
            obtain ⟨h3, x3⟩ := h3
            have h3 := sp_pw_e h3 (by omega) (by omega) (by omega) (by omega)
            rw [Int.toNat_natCast, Int.toNat_natCast] at h3
            have h3 : z3 = zs_po s (zs_el s.1 1) (zs_el s.1 9) 1 (3 * i + j) := h3
            rw [← sp_po_sh hs hB 0] at h3
            have h3 : z3 = zs_el s.1 1 (3 * i + j) := h3
            have hz3 := sp_V3 hs hB (k := 3 * i + j) (by omega)
            rw [← h3] at hz3
            have hP3 := sd_XR hP2 x3
            refine gx_aload_n C dL_powers_90 rfl ?_
            refine gx_iconst C dL_powers_91 ?_
            refine gx_iload C dL_powers_92 rfl ?_
            refine gx_iload C dL_powers_94 rfl ?_
            refine gx_callI C 7 rfl (gd_12 gn_Hd) (c_X7_entry gn_Hd hs hP3 (r := 1) (i := (i : Int)) (j := (j : Int)) (by unfold gx_3; omega) (by unfold gx_3; omega) (by unfold gx_3; omega)) (cwV 3 (gx_hts C) gL_powers_X7_entry rfl rfl rfl (by decide +kernel) ⟨Nat.le_of_ble_eq_true rfl, Nat.le_of_ble_eq_true rfl⟩) rfl rfl (Nat.le_of_ble_eq_true rfl) ⟨Nat.le_refl _, Nat.le_refl _⟩ dL_powers_96 (fun z4 P4 h4 => ?_)
            obtain ⟨h4, rfl⟩ := h4
            have h4 := sp_en_e h4 (by omega) (by omega) (by omega)
            rw [Int.toNat_natCast, Int.toNat_natCast] at h4
            have h4 : z4 = zs_el s.1 1 (3 * i + j) := h4
            rw [← h3] at h4
            subst h4
            refine gx_icmp_ne C dL_powers_99 rfl hz3 hz3 (fun hb99 => absurd hb99 (by omega)) (fun hb99 => ?_)
            refine gx_iconst C dL_powers_102 ?_
            refine gx_goto C dL_powers_103 rfl ?_
            refine gx_istore_n C dL_powers_107 (by decide) rfl ?_
            refine gx_iinc C dL_powers_108 (by decide) rfl rfl ?_
            refine gx_goto C dL_powers_111 rfl ?_
            exact nxt2 (w, P4) (fin P4 hP3)
        · obtain ⟨y, P⟩ := a
          obtain ⟨hy, hy0, hP⟩ := hI
          refine gx_iload C dL_powers_46 rfl ?_
          refine gx_aload_n C dL_powers_48 rfl ?_
          refine gx_iconst C dL_powers_49 ?_
          refine gx_callI C 7 rfl (gd_12 gn_Hd) (c_X7_count gn_Hd hs hP (w := 0) (by unfold gx_3; omega)) (cwV 1 (gx_hts C) gL_powers_X7_count rfl rfl rfl (by decide +kernel) ⟨Nat.le_of_ble_eq_true rfl, Nat.le_of_ble_eq_true rfl⟩) rfl rfl (Nat.le_of_ble_eq_true rfl) ⟨Nat.le_refl _, Nat.le_refl _⟩ dL_powers_50 (fun z1 P1 h1 => ?_)
          obtain ⟨h1, x1⟩ := h1
          have hz1 : z1 = s.1 81 := h1
          subst hz1
          have hP1 := sd_XR hP x1
          refine gx_icmp_ge C dL_powers_53 rfl (by unfold gx_3; omega) (by unfold gx_3; omega) (fun hb53 => ?_) (fun hb53 => absurd (by omega) hb53)
          refine gx_iinc C dL_powers_114 (by decide) rfl rfl ?_
          refine gx_goto C dL_powers_117 rfl ?_
          refine gx_weak (L' := [gx_R 12, gx_I 1, gx_I e, gx_I (k : Int), gx_I y, gx_I ((i + 1 : Nat) : Int), gx_U]) ⟨Or.inr rfl, Or.inr rfl, Or.inr rfl, Or.inr rfl, Or.inr rfl, Or.inr rfl, Or.inl rfl, trivial⟩ ?_
          refine nxt1 (y, P1) ⟨hy, ⟨fun h i' j' hi' hj' => ?_, fun h => hy0.mpr ⟨fun i' j' a b => h i' j' (Nat.lt_succ_of_lt a) b, fun j' b => h i j' (Nat.lt_succ_self i) b⟩⟩, hP1⟩
          rcases (show i' < i ∨ i' = i by omega) with g | g
          · exact (hy0.mp h).1 i' j' g hj'
          · rw [g]
            exact (hy0.mp h).2 j' hj'
      · obtain ⟨y, P⟩ := a
        obtain ⟨hy, hy0, hP⟩ := hI
        refine gx_iload C dL_powers_33 rfl ?_
        refine gx_aload_n C dL_powers_35 rfl ?_
        refine gx_iconst C dL_powers_36 ?_
        refine gx_callI C 7 rfl (gd_12 gn_Hd) (c_X7_count gn_Hd hs hP (w := 0) (by unfold gx_3; omega)) (cwV 1 (gx_hts C) gL_powers_X7_count rfl rfl rfl (by decide +kernel) ⟨Nat.le_of_ble_eq_true rfl, Nat.le_of_ble_eq_true rfl⟩) rfl rfl (Nat.le_of_ble_eq_true rfl) ⟨Nat.le_refl _, Nat.le_refl _⟩ dL_powers_37 (fun z1 P1 h1 => ?_)
        obtain ⟨h1, x1⟩ := h1
        have hz1 : z1 = s.1 81 := h1
        subst hz1
        have hP1 := sd_XR hP x1
        refine gx_icmp_ge C dL_powers_40 rfl (by unfold gx_3; omega) (by unfold gx_3; omega) (fun hb40 => ?_) (fun hb40 => absurd (by omega) hb40)
        refine gx_weak (L' := [gx_R 12, gx_I 1, gx_I e, gx_I (k : Int), gx_I y, gx_U, gx_U]) ⟨Or.inr rfl, Or.inr rfl, Or.inr rfl, Or.inr rfl, Or.inr rfl, Or.inl rfl, Or.inl rfl, trivial⟩ ?_
        exact at120 (y, P1) ⟨hy, ⟨fun h => al_ext hB' (zr_V hmm.1) (fun i j hi hj => hy0.mp h i j hi hj) hn, fun h => hy0.mpr (fun i j _ _ => congrFun h _)⟩, hP1⟩
  · obtain ⟨-, hP⟩ := hI
    refine gx_iload_n C dL_powers_17 rfl ?_
    refine gx_bipush C dL_powers_18 rfl ?_
    refine gx_icmp_ge C dL_powers_20 rfl (by unfold gx_3; omega) (by unfold gx_3; omega) (fun hb20 => ?_) (fun hb20 => absurd (by omega) hb20)
    refine gx_aload_n C dL_powers_171 rfl ?_
    refine gx_iconst C dL_powers_172 ?_
    refine gx_bipush C dL_powers_173 rfl ?_
    refine gx_callI C 7 rfl (gd_12 gn_Hd) (c_X7_of gn_Hd hs hP (r := 1) (w := 6) (by unfold gx_3; omega) (by unfold gx_3; omega)) (cwV 2 (gx_hts C) gL_powers_X7_of rfl rfl rfl (by decide +kernel) ⟨Nat.le_of_ble_eq_true rfl, Nat.le_of_ble_eq_true rfl⟩) rfl rfl (Nat.le_of_ble_eq_true rfl) ⟨Nat.le_refl _, Nat.le_refl _⟩ dL_powers_175 (fun K P1 h3 => ?_)
    obtain ⟨h3, x3⟩ := h3
    obtain ⟨K', hdg, rfl⟩ := so_6 (by omega) h3
    have hK := dg_b hs hB hdg
    have R3 := sd_XR hP x3
    refine gx_istore_n C dL_powers_178 (by decide) rfl ?_
    refine gx_iload_n C dL_powers_179 rfl ?_
    refine gx_if_eq C dL_powers_180 rfl (by unfold gx_3; omega) (fun hb180 => absurd hb180 (by omega)) (fun hb180 => ?_)
    refine gx_iload_n C dL_powers_183 rfl ?_
    refine gx_iconst C dL_powers_184 ?_
    refine gx_icmp_lt C dL_powers_185 rfl (by unfold gx_3; omega) (by unfold gx_3; omega) (fun hb185 => absurd hb185 (by omega)) (fun hb185 => ?_)
    refine gx_iload_n C dL_powers_188 rfl ?_
    refine gx_aload_n C dL_powers_189 rfl ?_
    refine gx_iconst C dL_powers_190 ?_
    refine gx_callI C 7 rfl (gd_12 gn_Hd) (c_X7_count gn_Hd hs R3 (w := 0) (by unfold gx_3; omega)) (cwV 1 (gx_hts C) gL_powers_X7_count rfl rfl rfl (by decide +kernel) ⟨Nat.le_of_ble_eq_true rfl, Nat.le_of_ble_eq_true rfl⟩) rfl rfl (Nat.le_of_ble_eq_true rfl) ⟨Nat.le_refl _, Nat.le_refl _⟩ dL_powers_191 (fun z4 P2 h4 => ?_)
    obtain ⟨h4, x4⟩ := h4
    have h4 : z4 = s.1 81 := h4
    have R4 := sd_XR R3 x4
    refine gx_icmp_gt C dL_powers_194 rfl (by unfold gx_3; omega) (by unfold gx_3; omega) (fun hb194 => absurd hb194 (by omega)) (fun hb194 => ?_)
    refine gx_iload_n C dL_powers_197 rfl ?_
    refine gx_bipush C dL_powers_198 rfl ?_
    rcases he with ⟨rfl, he⟩ | ⟨k, a1, a2, rfl, a3, a4⟩
    · refine gx_icmp_eq C dL_powers_200 rfl (by unfold gx_3; omega) (by unfold gx_3; omega) (fun hb200 => ?_) (fun hb200 => absurd (by omega) hb200)
      refine gx_iconst C dL_powers_217 ?_
      refine gx_goto C dL_powers_218 rfl ?_
      exact gx_zret C (by omega) dL_powers_222 ⟨rfl, R4⟩
    · have hkK := dg_nil hs hB hdg (a4 k (Nat.le_refl _)) (a3 (k - 1) (by omega))
      have hd0 : mx_det (zs_nn s) (s.1 82) (zs_el s.1 1) = 0 := Classical.byContradiction fun hd => dg_inv hs hB hd k (a4 k (Nat.le_refl _))
      refine gx_icmp_eq C dL_powers_200 rfl (by unfold gx_3; omega) (by unfold gx_3; omega) (fun hb200 => absurd hb200 (by omega)) (fun hb200 => ?_)
      refine gx_iload_n C dL_powers_203 rfl ?_
      refine gx_iload_n C dL_powers_204 rfl ?_
      refine gx_icmp_gt C dL_powers_205 rfl (by unfold gx_3; omega) (by unfold gx_3; omega) (fun hb205 => absurd hb205 (by omega)) (fun hb205 => ?_)
      refine gx_aload_n C dL_powers_208 rfl ?_
      refine gx_iconst C dL_powers_209 ?_
      refine gx_iconst C dL_powers_210 ?_
      refine gx_callI C 7 rfl (gd_12 gn_Hd) (c_X7_of gn_Hd hs R4 (r := 1) (w := 4) (by unfold gx_3; omega) (by unfold gx_3; omega)) (cwV 2 (gx_hts C) gL_powers_X7_of rfl rfl rfl (by decide +kernel) ⟨Nat.le_of_ble_eq_true rfl, Nat.le_of_ble_eq_true rfl⟩) rfl rfl (Nat.le_of_ble_eq_true rfl) ⟨Nat.le_refl _, Nat.le_refl _⟩ dL_powers_211 (fun z5 P3 h5 => ?_)
      obtain ⟨h5, x5⟩ := h5
      have h5 : z5 = 0 := (so_4 (by omega) h5).2.mpr hd0
      subst h5
      have R5 := sd_XR R4 x5
      refine gx_if_ne C dL_powers_214 rfl (by unfold gx_3; omega) (fun hb214 => absurd hb214 (by omega)) (fun hb214 => ?_)
      refine gx_iconst C dL_powers_217 ?_
      refine gx_goto C dL_powers_218 rfl ?_
      exact gx_zret C (by omega) dL_powers_222 ⟨rfl, R5⟩
