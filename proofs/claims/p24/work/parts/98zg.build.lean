/-! THE LAW: before, build -/
theorem sq_0 {s : sp_S} (hs : sp_ok s) : zs_sq s (fun _ => 0) := by
  show zs_prod s (fun _ => 0) (fun _ => 0) = fun _ => 0
  unfold zs_prod mx_prod
  rw [al_half (sp_p hs) (al_r_mul (ls_3 (sp_p hs))), al_0R (sp_nn hs)]
theorem bt_0 {P : Nat → Prop} {z : Int} (h : mx_bit P 8 z) (g : ∀ i, i < 8 → ¬ P i) : z = 0 := by
  obtain ⟨b, b01, bi, hc⟩ := bt_8 h
  have e : ∀ i, i < 8 → b i = 0 := fun i hi => Or.resolve_right (b01 i) (fun q => g i hi ((bi i).mp q))
  rw [hc, e 0 (by decide), e 1 (by decide), e 2 (by decide), e 3 (by decide), e 4 (by decide), e 5 (by decide), e 6 (by decide), e 7 (by decide)]
  rfl
theorem bt_255 {P : Nat → Prop} {z : Int} (h : mx_bit P 8 z) (g : ∀ i, i < 8 → P i) : z = 255 := by
  obtain ⟨b, b01, bi, hc⟩ := bt_8 h
  have e : ∀ i, i < 8 → b i = 1 := fun i hi => (bi i).mpr (g i hi)
  rw [hc, e 0 (by decide), e 1 (by decide), e 2 (by decide), e 3 (by decide), e 4 (by decide), e 5 (by decide), e 6 (by decide), e 7 (by decide)]
  rfl
theorem bg_e {s s' : sp_S} {a b z : Int} (ha : a = 2 ∨ a = 3) (hb : b = 3 ∨ b = 5 ∨ b = 7 ∨ b = 11) (h : sp_begin s a b z s') : z = s.1 81 ∧ s'.1 81 = a ∧ s'.1 82 = b ∧ zs_el s'.1 8 = mx_id a ∧ ∀ r, r < 8 → zs_el s'.1 r = fun _ => 0 := by
  unfold sp_begin at h
  rw [if_pos ⟨ha, hb⟩] at h
  obtain ⟨h1, rfl⟩ := h
  refine ⟨h1, rfl, rfl, (zs_new_el ha (r := 8) (by decide)).trans (if_pos rfl), fun r hr => (zs_new_el ha (r := r) (by omega)).trans (if_neg (by omega))⟩
theorem bf_sq {s : sp_S} (hs : sp_ok s) (h1 : s.1 81 = 3) (h2 : s.1 82 = 11) (h8 : zs_el s.1 8 = mx_id 3) {x : Int} (hx : 1 ≤ x ∧ x ≤ 10) (h0 : zs_el s.1 0 = fun k => if k < 9 then (if k = 6 then x else if k = 2 then x else 0) else 0) : ¬ zs_sq s (zs_el s.1 0) := by
  intro h
  have hn : zs_nn s = 3 := by unfold zs_nn; rw [h1]; rfl
  have hV := sp_Vel hs (r := 0) (by decide)
  have h := (tq_sq hs).mp h
  unfold sp_V at hV
  rw [hn, h2] at hV
  have hI := al_Ix (n := 3) (Or.inr rfl) hV
  rw [show (((3 : Nat) : Int)) = 3 from rfl] at hI
  rw [hn, h2, h8, hI] at h
  have h3 := congrFun h (3 * 0 + 0)
  rw [mx_mul3_at (by decide) (by decide), mx_ps3, h0] at h3
  have h4 : x * x % 11 = 0 := by simpa using h3
  rcases (show x = 1 ∨ x = 2 ∨ x = 3 ∨ x = 4 ∨ x = 5 ∨ x = 6 ∨ x = 7 ∨ x = 8 ∨ x = 9 ∨ x = 10 by omega) with rfl | rfl | rfl | rfl | rfl | rfl | rfl | rfl | rfl | rfl <;> exact absurd h4 (by decide)
set_option maxRecDepth 100000 in
set_option maxHeartbeats 8000000 in
theorem c_L_before {M : gx_M} {s : sp_S} (hs : sp_ok s) (hR : sd_R s M) (h2 : s.1 81 = 2) {g : Int} (hg : gx_3 g) : gx_Ci gn_La yL_before wsL_before 7 [gx_R 12, gx_I g] M (fun z M' => z = 1 ∧ ∃ s', sp_ok s' ∧ sd_R s' M') := by
  refine gx_start_i (L := [gx_R 12, gx_I g, gx_U]) (by decide) rfl rfl (Nat.le_of_ble_eq_true rfl) rfl ?_
  intro _ _ _ _ _ _ _ _ _ _ _ _ C
  refine gx_aload_n C dL_before_0 rfl ?_
  refine gx_iconst C dL_before_1 ?_
  refine gx_bipush C dL_before_2 rfl ?_
  refine gx_callI C 7 rfl (gd_12 gn_Hd) (c_X7_begin gn_Hd hs hR (a := 3) (b := 11) (by unfold gx_3; omega) (by unfold gx_3; omega)) (cwV 2 (gx_hts C) gL_before_X7_begin rfl rfl rfl (by decide +kernel) ⟨Nat.le_of_ble_eq_true rfl, Nat.le_of_ble_eq_true rfl⟩) rfl rfl (Nat.le_of_ble_eq_true rfl) ⟨Nat.le_refl _, Nat.le_refl _⟩ dL_before_4 (fun z1 M1 h1 => ?_)
  obtain ⟨s1, h1, R1, -⟩ := h1
  have ok1 := sp_begin_ok hs h1
  obtain ⟨e1, a1, a2, a3, a4⟩ := bg_e (Or.inr rfl) (Or.inr (Or.inr (Or.inr rfl))) h1
  refine gx_iconst C dL_before_7 ?_
  refine gx_icmp_ne C dL_before_8 rfl (by unfold gx_3; omega) (by unfold gx_3; omega) (fun hb8 => absurd hb8 (by omega)) (fun hb8 => ?_)
  refine gx_aload_n C dL_before_11 rfl ?_
  refine gx_iconst C dL_before_12 ?_
  refine gx_iconst C dL_before_13 ?_
  refine gx_iconst C dL_before_14 ?_
  refine gx_iconst C dL_before_15 ?_
  refine gx_iload_n C dL_before_16 rfl ?_
  refine gx_bipush C dL_before_17 rfl ?_
  refine gx_statI C (c_L_low hg (n := 10) (by omega)) (cwS 2 (gx_hts C) gL_before_L_low rfl rfl rfl (by decide +kernel) ⟨Nat.le_of_ble_eq_true rfl, Nat.le_of_ble_eq_true rfl⟩) rfl rfl (Nat.le_of_ble_eq_true rfl) ⟨Nat.le_refl _, Nat.le_refl _⟩ dL_before_19 (fun x M2 h3 => ?_)
  obtain ⟨rfl, x0, x1⟩ := h3
  refine gx_iadd C dL_before_22 ?_
  refine gx_callI C 7 rfl (gd_12 gn_Hd) (c_X7_set gn_Hd ok1 R1 (r := 0) (i := 0) (j := 2) (v := 1 + x) (by unfold gx_3; omega) (by unfold gx_3; omega) (by unfold gx_3; omega) (by unfold gx_3; omega)) (cwV 4 (gx_hts C) gL_before_X7_set rfl rfl rfl (by decide +kernel) ⟨Nat.le_of_ble_eq_true rfl, Nat.le_of_ble_eq_true rfl⟩) rfl rfl (Nat.le_of_ble_eq_true rfl) ⟨Nat.le_refl _, Nat.le_refl _⟩ dL_before_23 (fun z2 M3 h4 => ?_)
  obtain ⟨s2, h4, R2, -⟩ := h4
  have ok2 := sp_set_ok ok1 h4
  obtain ⟨e2, sim2, els2, el2, -⟩ := set_e (by omega) (by omega) (by omega) (by omega) (by omega) h4
  have e2 : z2 = zs_el s1.1 0 2 := e2
  rw [a4 0 (by decide)] at e2
  have e2 : z2 = 0 := e2
  subst e2
  have el2 : zs_el s2.1 0 = fun k => if k < 9 then (if k = 6 then 1 + x else if k = 2 then 1 + x else 0) else 0 := by
    have h : zs_el s2.1 0 = fun k => if k < 9 then (if k = 6 then 1 + x else if k = 2 then 1 + x else zs_el s1.1 0 k) else 0 := el2
    rw [a4 0 (by decide)] at h
    exact h
  refine gx_if_ne C dL_before_26 rfl (by unfold gx_3; omega) (fun hb26 => absurd hb26 (by omega)) (fun hb26 => ?_)
  refine gx_aload_n C dL_before_29 rfl ?_
  refine gx_iconst C dL_before_30 ?_
  refine gx_iconst C dL_before_31 ?_
  refine gx_iconst C dL_before_32 ?_
  refine gx_iconst C dL_before_33 ?_
  refine gx_iload_n C dL_before_34 rfl ?_
  refine gx_iconst C dL_before_35 ?_
  refine gx_ishr C dL_before_36 (wl_it _).symm ?_
  refine gx_bipush C dL_before_37 rfl ?_
  refine gx_statI C (c_L_low (wl_3 _) (n := 10) (by omega)) (cwS 2 (gx_hts C) gL_before_L_low rfl rfl rfl (by decide +kernel) ⟨Nat.le_of_ble_eq_true rfl, Nat.le_of_ble_eq_true rfl⟩) rfl rfl (Nat.le_of_ble_eq_true rfl) ⟨Nat.le_refl _, Nat.le_refl _⟩ dL_before_39 (fun y M4 h5 => ?_)
  obtain ⟨rfl, y0, y1⟩ := h5
  refine gx_iadd C dL_before_42 ?_
  refine gx_callI C 7 rfl (gd_12 gn_Hd) (c_X7_set gn_Hd ok2 R2 (r := 1) (i := 2) (j := 2) (v := 1 + y) (by unfold gx_3; omega) (by unfold gx_3; omega) (by unfold gx_3; omega) (by unfold gx_3; omega)) (cwV 4 (gx_hts C) gL_before_X7_set rfl rfl rfl (by decide +kernel) ⟨Nat.le_of_ble_eq_true rfl, Nat.le_of_ble_eq_true rfl⟩) rfl rfl (Nat.le_of_ble_eq_true rfl) ⟨Nat.le_refl _, Nat.le_refl _⟩ dL_before_43 (fun z3 M5 h6 => ?_)
  obtain ⟨s3, h6, R3, -⟩ := h6
  have ok3 := sp_set_ok ok2 h6
  have n2 : s2.1 81 = 3 := sim2.1.trans a1
  have m2 : s2.1 82 = 11 := sim2.2.1.trans a2
  obtain ⟨e3, sim3, els3, el3, -⟩ := set_e (by omega) (by omega) (by omega) (by omega) (by omega) h6
  have e3 : z3 = zs_el s2.1 1 8 := e3
  rw [els2 1 (by decide) (by decide), a4 1 (by decide)] at e3
  have e3 : z3 = 0 := e3
  subst e3
  refine gx_if_ne C dL_before_46 rfl (by unfold gx_3; omega) (fun hb46 => absurd hb46 (by omega)) (fun hb46 => ?_)
  refine gx_iconst C dL_before_49 ?_
  refine gx_goto C dL_before_50 rfl ?_
  refine gx_istore_n C dL_before_54 (by decide) rfl ?_
  refine gx_iload_n C dL_before_55 rfl ?_
  refine gx_if_eq C dL_before_56 rfl (by unfold gx_3; omega) (fun hb56 => absurd hb56 (by omega)) (fun hb56 => ?_)
  refine gx_aload_n C dL_before_59 rfl ?_
  refine gx_iconst C dL_before_60 ?_
  refine gx_iconst C dL_before_61 ?_
  refine gx_callI C 7 rfl (gd_12 gn_Hd) (c_X7_of gn_Hd ok3 R3 (r := 0) (w := 3) (by unfold gx_3; omega) (by unfold gx_3; omega)) (cwV 2 (gx_hts C) gL_before_X7_of rfl rfl rfl (by decide +kernel) ⟨Nat.le_of_ble_eq_true rfl, Nat.le_of_ble_eq_true rfl⟩) rfl rfl (Nat.le_of_ble_eq_true rfl) ⟨Nat.le_refl _, Nat.le_refl _⟩ dL_before_62 (fun z4 M6 h7 => ?_)
  obtain ⟨h7, x7⟩ := h7
  obtain ⟨h7, h7b⟩ := so_3 (by omega) h7
  have R4 := sd_XR R3 x7
  have hns : ¬ zs_sq s3 (zs_el s3.1 0) := bf_sq ok3 (sim3.1.trans n2) (sim3.2.1.trans m2) (sim3.2.2.1.trans (sim2.2.2.1.trans a3)) (x := 1 + x) (by omega) ((els3 0 (by decide) (by decide)).trans el2)
  have h7 : z4 = 0 := Or.resolve_right h7 (fun q => hns (h7b.mp q))
  subst h7
  refine gx_if_ne C dL_before_65 rfl (by unfold gx_3; omega) (fun hb65 => absurd hb65 (by omega)) (fun hb65 => ?_)
  refine gx_aload_n C dL_before_68 rfl ?_
  refine gx_iconst C dL_before_69 ?_
  refine gx_iconst C dL_before_70 ?_
  refine gx_iconst C dL_before_71 ?_
  refine gx_iconst C dL_before_72 ?_
  refine gx_callI C 7 rfl (gd_12 gn_Hd) (c_X7_rule gn_Hd ok3 R4 (a := 0) (b := 1) (c := 0) (w := 0) (by unfold gx_3; omega) (by unfold gx_3; omega) (by unfold gx_3; omega) (by unfold gx_3; omega)) (cwV 4 (gx_hts C) gL_before_X7_rule rfl rfl rfl (by decide +kernel) ⟨Nat.le_of_ble_eq_true rfl, Nat.le_of_ble_eq_true rfl⟩) rfl rfl (Nat.le_of_ble_eq_true rfl) ⟨Nat.le_refl _, Nat.le_refl _⟩ dL_before_73 (fun z5 M7 h8 => ?_)
  obtain ⟨h8, x8⟩ := h8
  have h8 := tq_rule ok3 (by omega) (by omega) (by omega) h8
  subst h8
  have R5 := sd_XR R4 x8
  refine gx_iconst C dL_before_76 ?_
  refine gx_icmp_ne C dL_before_77 rfl (by unfold gx_3; omega) (by unfold gx_3; omega) (fun hb77 => absurd hb77 (by omega)) (fun hb77 => ?_)
  refine gx_aload_n C dL_before_80 rfl ?_
  refine gx_iconst C dL_before_81 ?_
  refine gx_bipush C dL_before_82 rfl ?_
  refine gx_callI C 7 rfl (gd_12 gn_Hd) (c_X7_of gn_Hd ok3 R5 (r := 1) (w := 6) (by unfold gx_3; omega) (by unfold gx_3; omega)) (cwV 2 (gx_hts C) gL_before_X7_of rfl rfl rfl (by decide +kernel) ⟨Nat.le_of_ble_eq_true rfl, Nat.le_of_ble_eq_true rfl⟩) rfl rfl (Nat.le_of_ble_eq_true rfl) ⟨Nat.le_refl _, Nat.le_refl _⟩ dL_before_84 (fun z6 M8 h9 => ?_)
  obtain ⟨h9, x9⟩ := h9
  obtain ⟨Kd, hdg, rfl⟩ := so_6 (by omega) h9
  have hK := dg_b ok3 (sp_Vel ok3 (r := 1) (by decide)) hdg
  have hnn := sp_nn ok3
  have R6 := sd_XR R5 x9
  refine gx_iconst C dL_before_87 ?_
  refine gx_icmp_lt C dL_before_88 rfl (by unfold gx_3; omega) (by unfold gx_3; omega) (fun hb88 => absurd hb88 (by omega)) (fun hb88 => ?_)
  refine gx_iconst C dL_before_91 ?_
  refine gx_goto C dL_before_92 rfl ?_
  exact gx_zret C (by omega) dL_before_96 ⟨rfl, s3, ok3, R6⟩
/-- while the registers are being filled: r from the place k on, and all behind it, are 0 yet -/
def bd_I (sz m : Int) (s : sp_S) : Prop := sp_ok s ∧ s.1 81 = sz ∧ s.1 82 = m ∧ zs_el s.1 8 = mx_id sz
def bd_Z (r k : Nat) (s : sp_S) : Prop := (∀ q, r < q → q < 8 → zs_el s.1 q = fun _ => 0) ∧ ∀ i j, i < 3 → j < 3 → i ≤ j → k ≤ 3 * i + j → zs_el s.1 r (3 * i + j) = 0
theorem bd_ne {i j a b k : Nat} (hi : i < 3) (hj : j < 3) (ha : a < 3) (hb : b < 3) (hij : i ≤ j) (hab : a ≤ b) (hk : k = 3 * a + b) (hle : k + 1 ≤ 3 * i + j) : ¬ 3 * i + j = 3 * b + a ∧ ¬ 3 * i + j = 3 * a + b := by
  refine ⟨fun q => ?_, by omega⟩
  have h1 : i = b := by omega
  have h2 : j = a := by omega
  omega
theorem bd_s {s s' : sp_S} {sz m : Int} {r k v z : Nat} {x zz : Int} (hr : r < 4) (hk : k < 9) (hI : bd_I sz m s) (hZ : bd_Z r k s) (ha : ((k / 3 : Nat) : Int) < sz) (hb : ((k % 3 : Nat) : Int) < sz) (hab : ((k / 3 : Nat) : Int) ≤ ((k % 3 : Nat) : Int)) (hx : 0 ≤ x ∧ x < m) (hsz : sz ≤ 3) (h : sp_set s (r : Int) ((k / 3 : Nat) : Int) ((k % 3 : Nat) : Int) x zz s') : zz = 0 ∧ bd_I sz m s' ∧ bd_Z r (k + 1) s' ∧ zs_el s'.1 r (3 * (k / 3) + k % 3) = x ∧ zs_el s'.1 r (3 * (k % 3) + k / 3) = x := by
  obtain ⟨ok, h1, h2, h8⟩ := hI
  obtain ⟨z1, z2⟩ := hZ
  obtain ⟨e1, sim, els, el, -⟩ := set_e (by omega) (by omega) (by omega) (by omega) (by omega) h
  rw [Int.toNat_natCast, Int.toNat_natCast, Int.toNat_natCast] at e1
  rw [Int.toNat_natCast, Int.toNat_natCast, Int.toNat_natCast] at el
  rw [Int.toNat_natCast] at els
  refine ⟨?_, ⟨sp_set_ok ok h, sim.1.trans h1, sim.2.1.trans h2, sim.2.2.1.trans h8⟩, ⟨fun q hq1 hq2 => (els q (by omega) (by omega)).trans (z1 q hq1 hq2), fun i j hi hj hij hle => ?_⟩, ?_, ?_⟩
  · rw [e1]
    exact z2 _ _ (by omega) (by omega) (by omega) (by omega)
  · rw [el]
    show (if 3 * i + j < 9 then (if 3 * i + j = 3 * (k % 3) + k / 3 then x else if 3 * i + j = 3 * (k / 3) + k % 3 then x else zs_el s.1 r (3 * i + j)) else 0) = 0
    obtain ⟨n1, n2⟩ := bd_ne hi hj (a := k / 3) (b := k % 3) (k := k) (by omega) (by omega) hij (by omega) (by omega) hle
    rw [if_pos (by omega), if_neg n1, if_neg n2]
    exact z2 i j hi hj hij (by omega)
  · rw [el]
    show (if 3 * (k / 3) + k % 3 < 9 then (if 3 * (k / 3) + k % 3 = 3 * (k % 3) + k / 3 then x else if 3 * (k / 3) + k % 3 = 3 * (k / 3) + k % 3 then x else _) else 0) = x
    rw [if_pos (by omega)]
    by_cases q : 3 * (k / 3) + k % 3 = 3 * (k % 3) + k / 3
    · rw [if_pos q]
    · rw [if_neg q, if_pos rfl]
  · rw [el]
    show (if 3 * (k % 3) + k / 3 < 9 then (if 3 * (k % 3) + k / 3 = 3 * (k % 3) + k / 3 then x else _) else 0) = x
    rw [if_pos (by omega), if_pos rfl]
/-- a register taken as the base -/
theorem ba_e {s s' : sp_S} {z : Int} {sz m : Int} (hI : bd_I sz m s) (hsz : sz = 2 ∨ sz = 3) (hm : ls_p m) (h : sp_base s 3 z s') : sp_ok s' ∧ (∀ r, r < 8 → zs_el s'.1 r = zs_el s.1 r) ∧ ((mx_det (zs_nn s) (s.1 82) (zs_el s.1 3) = 0 → z = -5 ∧ mx_det (zs_nn s') (s'.1 82) (zs_el s'.1 8) = 1) ∧ (¬ mx_det (zs_nn s) (s.1 82) (zs_el s.1 3) = 0 → z = mx_det (zs_nn s) (s.1 82) (zs_el s.1 3) ∧ mx_det (zs_nn s') (s'.1 82) (zs_el s'.1 8) = mx_det (zs_nn s) (s.1 82) (zs_el s.1 3))) := by
  obtain ⟨ok, h1, h2, h8⟩ := hI
  have ok' := sp_base_ok ok h
  have hbe : sp_bel s 3 = zs_el s.1 3 := rfl
  unfold sp_base at h
  rw [if_pos (by omega), hbe] at h
  have hnn : (s.1 81).toNat = zs_nn s := rfl
  rw [hnn] at h
  by_cases hd : mx_det (zs_nn s) (s.1 82) (zs_el s.1 3) = 0
  · rw [if_pos hd] at h
    obtain ⟨rfl, rfl⟩ := h
    refine ⟨ok', fun r _ => rfl, fun _ => ⟨rfl, ?_⟩, fun g => absurd hd g⟩
    have hni := sp_n ok
    have hnz : ((zs_nn s' : Nat) : Int) = sz := by omega
    rw [h8, ← hnz]
    exact mx_det_id (sp_nn ok) (sp_p ok)
  · rw [if_neg hd] at h
    obtain ⟨rfl, rfl⟩ := h
    have h39 : ∀ k, 9 ≤ k → zs_el s.1 3 k = 0 := (sp_Vel ok (r := 3) (by decide)).2.1.2
    have put : ∀ q, q < 9 → zs_el (zs_put s.1 72 (zs_el s.1 3)) q = if q = 8 then zs_el s.1 3 else zs_el s.1 q := fun q hq => by
      have h := zs_put_of (Z := s.1) (f := zs_el s.1 3) (r := 8) (q := q) h39
      rw [show 9 * 8 = 72 from rfl] at h
      rw [show zs_el (zs_put s.1 72 (zs_el s.1 3)) q = mx_of (zs_put s.1 72 (zs_el s.1 3)) (9 * q) from if_pos hq, h, show zs_el s.1 q = mx_of s.1 (9 * q) from if_pos hq]
    refine ⟨ok', fun r hr => (put r (by omega)).trans (if_neg (by omega)), fun g => absurd g hd, fun _ => ⟨rfl, ?_⟩⟩
    have e8 : zs_el (zs_put s.1 72 (zs_el s.1 3)) 8 = zs_el s.1 3 := (put 8 (by decide)).trans (if_pos rfl)
    have e81 : zs_put s.1 72 (zs_el s.1 3) 81 = s.1 81 := if_neg (by omega)
    have e82 : zs_put s.1 72 (zs_el s.1 3) 82 = s.1 82 := if_neg (by omega)
    show mx_det (zs_put s.1 72 (zs_el s.1 3) 81).toNat (zs_put s.1 72 (zs_el s.1 3) 82) (zs_el (zs_put s.1 72 (zs_el s.1 3)) 8) = _
    rw [e8, e81, e82]
    rfl
set_option maxRecDepth 100000 in
set_option maxHeartbeats 16000000 in
theorem c_L_build {b n : Nat} {xs : Nat → Int32} (hn : n ≤ 260) {M : gx_M} {s : sp_S} (hs : sp_ok s) (hR : sd_R s M) : gy_Ci gn_La yL_build wsL_build 7 b n xs [gx_R 12, gx_R 1000] M (fun z M' => z = 1 ∧ ∃ s', sp_ok s' ∧ sd_R s' M' ∧ ∀ r, 4 ≤ r → r < 8 → zs_el s'.1 r = fun _ => 0) := by
  have hn0 := hs.1.1
  refine gy_start (own := RL) (L := [gx_R 12, gx_R 1000, gx_U, gx_U, gx_U, gx_U, gx_U, gx_U, gx_U, gx_U, gx_U, gx_U, gx_U, gx_U]) (by decide) rfl rfl (Nat.le_of_ble_eq_true rfl) rfl ?_
  intro _ _ _ _ _ _ _ _ _ _ _ _ C hX hbl hbA had
  refine gx_aload_n C dL_build_0 rfl ?_
  refine gx_iconst C dL_build_1 ?_
  refine gy_statI C hX hbl hbA had (c_L_cell hn (k := 0) (by omega)) (cwS 2 (gx_hts C) gL_build_L_cell rfl rfl rfl (by decide +kernel) ⟨Nat.le_of_ble_eq_true rfl, Nat.le_of_ble_eq_true rfl⟩) rfl rfl (Nat.le_of_ble_eq_true rfl) ⟨Nat.le_refl _, Nat.le_refl _⟩ dL_build_2 (fun g M1 h1 => ?_)
  obtain ⟨rfl, hg⟩ := h1
  refine gx_istore_n C dL_build_5 (by decide) rfl ?_
  refine gx_iconst C dL_build_6 ?_
  refine gx_iload_n C dL_build_7 rfl ?_
  refine gx_iconst C dL_build_8 ?_
  refine gx_statI C (c_L_low hg (n := 2) (by omega)) (cwS 2 (gx_hts C) gL_build_L_low rfl rfl rfl (by decide +kernel) ⟨Nat.le_of_ble_eq_true rfl, Nat.le_of_ble_eq_true rfl⟩) rfl rfl (Nat.le_of_ble_eq_true rfl) ⟨Nat.le_refl _, Nat.le_refl _⟩ dL_build_9 (fun z M2 h1 => ?_)
  obtain ⟨rfl, z0, z1⟩ := h1
  refine gx_iadd C dL_build_12 ?_
  refine gx_istore_n C dL_build_13 (by decide) rfl ?_
  refine gx_iload_n C dL_build_14 rfl ?_
  refine gx_iconst C dL_build_15 ?_
  refine gx_ishr C dL_build_16 (wl_it _).symm ?_
  refine gx_iconst C dL_build_17 ?_
  refine gx_statI C (c_L_low (wl_3 _) (n := 4) (by omega)) (cwS 2 (gx_hts C) gL_build_L_low rfl rfl rfl (by decide +kernel) ⟨Nat.le_of_ble_eq_true rfl, Nat.le_of_ble_eq_true rfl⟩) rfl rfl (Nat.le_of_ble_eq_true rfl) ⟨Nat.le_refl _, Nat.le_refl _⟩ dL_build_18 (fun wh M3 h1 => ?_)
  obtain ⟨rfl, w0, w1⟩ := h1
  generalize hsz : (2 : Int) + z = sz
  have hszb : 2 ≤ sz ∧ sz ≤ 3 := by omega
  have hsz2 : gx_hid (sz = 2 ∨ sz = 3) := show sz = 2 ∨ sz = 3 by omega
  clear hsz z0 z1
  refine gx_istore C dL_build_21 (by decide) rfl ?_
  refine gx_iload C dL_build_23 rfl ?_
  refine gx_cut 55 (fun (a : Int) => [gx_R 12, gx_R 1000, gx_I g, gx_I sz, gx_I wh, gx_U, gx_U, gx_U, gx_U, gx_U, gx_U, gx_U, gx_U, gx_U]) (fun a => [gx_I a]) (fun _ => M3) (fun a => ls_p a) (fun m hm => ?_) (fun at55 => ?_)
  · have hmb : 3 ≤ m ∧ m ≤ 11 := by rcases hm with rfl | rfl | rfl | rfl <;> omega
    have hm' : gx_hid (ls_p m) := hm
    refine gx_istore C dL_build_55 (by decide) rfl ?_
    refine gx_aload_n C dL_build_57 rfl ?_
    refine gx_iconst C dL_build_58 ?_
    refine gx_callI C 7 rfl (gd_12 gn_Hd) (c_X7_count gn_Hd hs hR (w := 0) (by unfold gx_3; omega)) (cwV 1 (gx_hts C) gL_build_X7_count rfl rfl rfl (by decide +kernel) ⟨Nat.le_of_ble_eq_true rfl, Nat.le_of_ble_eq_true rfl⟩) rfl rfl (Nat.le_of_ble_eq_true rfl) ⟨Nat.le_refl _, Nat.le_refl _⟩ dL_build_59 (fun c0 M4 h2 => ?_)
    obtain ⟨h2, x2⟩ := h2
    have h2 : c0 = s.1 81 := h2
    have R2 := sd_XR hR x2
    refine gx_istore C dL_build_62 (by decide) rfl ?_
    refine gx_aload_n C dL_build_64 rfl ?_
    refine gx_iload_n C dL_build_65 rfl ?_
    refine gx_iload C dL_build_66 rfl ?_
    refine gx_callI C 7 rfl (gd_12 gn_Hd) (c_X7_begin gn_Hd hs R2 (a := sz) (b := m) (by unfold gx_3; omega) (by unfold gx_3; omega)) (cwV 2 (gx_hts C) gL_build_X7_begin rfl rfl rfl (by decide +kernel) ⟨Nat.le_of_ble_eq_true rfl, Nat.le_of_ble_eq_true rfl⟩) rfl rfl (Nat.le_of_ble_eq_true rfl) ⟨Nat.le_refl _, Nat.le_refl _⟩ dL_build_68 (fun bz M5 h3 => ?_)
    obtain ⟨s1, h3, R3, -⟩ := h3
    have ok1 := sp_begin_ok hs h3
    obtain ⟨e1, a1, a2, a3, a4⟩ := bg_e hsz2 hm h3
    refine gx_iload C dL_build_71 rfl ?_
    refine gx_icmp_ne C dL_build_73 rfl (by unfold gx_3; omega) (by unfold gx_3; omega) (fun hb73 => absurd hb73 (by omega)) (fun hb73 => ?_)
    refine gx_aload_n C dL_build_76 rfl ?_
    refine gx_iconst C dL_build_77 ?_
    refine gx_callI C 7 rfl (gd_12 gn_Hd) (c_X7_count gn_Hd ok1 R3 (w := 0) (by unfold gx_3; omega)) (cwV 1 (gx_hts C) gL_build_X7_count rfl rfl rfl (by decide +kernel) ⟨Nat.le_of_ble_eq_true rfl, Nat.le_of_ble_eq_true rfl⟩) rfl rfl (Nat.le_of_ble_eq_true rfl) ⟨Nat.le_refl _, Nat.le_refl _⟩ dL_build_78 (fun c1 M6 h4 => ?_)
    obtain ⟨h4, x4⟩ := h4
    have h4 : c1 = s1.1 81 := h4
    have R4 := sd_XR R3 x4
    refine gx_iload_n C dL_build_81 rfl ?_
    refine gx_icmp_ne C dL_build_82 rfl (by unfold gx_3; omega) (by unfold gx_3; omega) (fun hb82 => absurd hb82 (by omega)) (fun hb82 => ?_)
    refine gx_aload_n C dL_build_85 rfl ?_
    refine gx_iconst C dL_build_86 ?_
    refine gx_callI C 7 rfl (gd_12 gn_Hd) (c_X7_count gn_Hd ok1 R4 (w := 1) (by unfold gx_3; omega)) (cwV 1 (gx_hts C) gL_build_X7_count rfl rfl rfl (by decide +kernel) ⟨Nat.le_of_ble_eq_true rfl, Nat.le_of_ble_eq_true rfl⟩) rfl rfl (Nat.le_of_ble_eq_true rfl) ⟨Nat.le_refl _, Nat.le_refl _⟩ dL_build_87 (fun c2 M7 h5 => ?_)
    obtain ⟨h5, x5⟩ := h5
    have h5 : c2 = s1.1 82 := h5
    have R5 := sd_XR R4 x5
    refine gx_iload C dL_build_90 rfl ?_
    refine gx_icmp_ne C dL_build_92 rfl (by unfold gx_3; omega) (by unfold gx_3; omega) (fun hb92 => absurd hb92 (by omega)) (fun hb92 => ?_)
    refine gx_aload_n C dL_build_95 rfl ?_
    refine gx_iconst C dL_build_96 ?_
    refine gx_callI C 7 rfl (gd_12 gn_Hd) (c_X7_count gn_Hd ok1 R5 (w := 2) (by unfold gx_3; omega)) (cwV 1 (gx_hts C) gL_build_X7_count rfl rfl rfl (by decide +kernel) ⟨Nat.le_of_ble_eq_true rfl, Nat.le_of_ble_eq_true rfl⟩) rfl rfl (Nat.le_of_ble_eq_true rfl) ⟨Nat.le_refl _, Nat.le_refl _⟩ dL_build_97 (fun c3 M8 h6 => ?_)
    obtain ⟨h6, x6⟩ := h6
    have h6 : c3 = 0 := bt_0 (ct_2 h6) (fun i hi => fun q => q (a4 i hi))
    subst h6
    have R6 := sd_XR R5 x6
    refine gx_if_ne C dL_build_100 rfl (by unfold gx_3; omega) (fun hb100 => absurd hb100 (by omega)) (fun hb100 => ?_)
    refine gx_aload_n C dL_build_103 rfl ?_
    refine gx_iconst C dL_build_104 ?_
    refine gx_callI C 7 rfl (gd_12 gn_Hd) (c_X7_count gn_Hd ok1 R6 (w := 3) (by unfold gx_3; omega)) (cwV 1 (gx_hts C) gL_build_X7_count rfl rfl rfl (by decide +kernel) ⟨Nat.le_of_ble_eq_true rfl, Nat.le_of_ble_eq_true rfl⟩) rfl rfl (Nat.le_of_ble_eq_true rfl) ⟨Nat.le_refl _, Nat.le_refl _⟩ dL_build_105 (fun c4 M9 h7 => ?_)
    obtain ⟨h7, x7⟩ := h7
    have h7 : c4 = 255 := bt_255 (ct_3 h7) (fun i hi => by show zs_sq s1 (zs_el s1.1 i); rw [a4 i hi]; exact sq_0 ok1)
    subst h7
    have R7 := sd_XR R6 x7
    refine gx_sipush C dL_build_108 rfl ?_
    refine gx_icmp_ne C dL_build_111 rfl (by unfold gx_3; omega) (by unfold gx_3; omega) (fun hb111 => absurd hb111 (by omega)) (fun hb111 => ?_)
    refine gx_iconst C dL_build_114 ?_
    refine gx_goto C dL_build_115 rfl ?_
    refine gx_istore C dL_build_119 (by decide) rfl ?_
    refine gx_iconst C dL_build_121 ?_
    refine gx_istore C dL_build_122 (by decide) rfl ?_
    refine gx_for 4 (fun r (a : sp_S × gx_M) => [gx_R 12, gx_R 1000, gx_I g, gx_I sz, gx_I wh, gx_I m, gx_I c0, gx_I 1, gx_I (r : Int), gx_U, gx_U, gx_U, gx_U, gx_U]) (fun a => a.2) (fun r a => bd_I sz m a.1 ∧ (∀ q, r ≤ q → q < 8 → zs_el a.1.1 q = fun _ => 0) ∧ sd_R a.1 a.2) 0 (s1, M9) (by decide) ⟨⟨ok1, a1, a2, a3⟩, fun q _ hq => a4 q hq, R7⟩ (fun r a hr hI nxt => ?_) (fun a hI => ?_)
    · obtain ⟨s2, P⟩ := a
      obtain ⟨hI, hZ, hP⟩ := hI
      have hI : bd_I sz m s2 := hI
      refine gx_iload C dL_build_124 rfl ?_
      refine gx_iconst C dL_build_126 ?_
      refine gx_icmp_ge C dL_build_127 rfl (by unfold gx_3; omega) (by unfold gx_3; omega) (fun hb127 => absurd hb127 (by omega)) (fun hb127 => ?_)
      refine gx_iload C dL_build_130 rfl ?_
      refine gx_if_eq C dL_build_132 rfl (by unfold gx_3; omega) (fun hb132 => absurd hb132 (by omega)) (fun hb132 => ?_)
      refine gx_aload_n C dL_build_135 rfl ?_
      refine gx_iconst C dL_build_136 ?_
      refine gx_iload C dL_build_137 rfl ?_
      refine gx_iadd C dL_build_139 ?_
      refine gy_statI C hX hbl hbA had (c_L_cell hn (k := 1 + (r : Int)) (by omega)) (cwS 2 (gx_hts C) gL_build_L_cell rfl rfl rfl (by decide +kernel) ⟨Nat.le_of_ble_eq_true rfl, Nat.le_of_ble_eq_true rfl⟩) rfl rfl (Nat.le_of_ble_eq_true rfl) ⟨Nat.le_refl _, Nat.le_refl _⟩ dL_build_140 (fun h P1 h8 => ?_)
      obtain ⟨rfl, hh⟩ := h8
      refine gx_istore C dL_build_143 (by decide) rfl ?_
      refine gx_iconst C dL_build_145 ?_
      refine gx_istore C dL_build_146 (by decide) rfl ?_
      refine gx_for 9 (fun k (a : sp_S × gx_M) => [gx_R 12, gx_R 1000, gx_I g, gx_I sz, gx_I wh, gx_I m, gx_I c0, gx_I 1, gx_I (r : Int), gx_I h, gx_I (k : Int), gx_U, gx_U, gx_U]) (fun a => a.2) (fun k a => bd_I sz m a.1 ∧ bd_Z r k a.1 ∧ sd_R a.1 a.2) 0 (s2, P1) (by decide) ⟨hI, ⟨fun q a b => hZ q (by omega) b, fun i j _ _ _ _ => by show zs_el s2.1 r (3 * i + j) = 0; rw [show zs_el s2.1 r = fun _ => 0 from hZ r (Nat.le_refl r) (by omega)]⟩, hP⟩ (fun k a hk hI nxt2 => ?_) (fun a hI => ?_)
      · obtain ⟨s3, P⟩ := a
        obtain ⟨hI, hZ, hP⟩ := hI
        have hI : bd_I sz m s3 := hI
        have hZ : bd_Z r k s3 := hZ
        have hdiv : ((k : Int)).tdiv 3 = ((k / 3 : Nat) : Int) := mx_dn k 3
        have hrem : ((k : Int)).tmod 3 = ((k % 3 : Nat) : Int) := mx_3 k
        have hk3 : k / 3 < 3 ∧ k % 3 < 3 := by omega
        refine gx_cut 260 (fun (a : sp_S × gx_M) => [gx_R 12, gx_R 1000, gx_I g, gx_I sz, gx_I wh, gx_I m, gx_I c0, gx_I 1, gx_I (r : Int), gx_I h, gx_I (k : Int), gx_U, gx_U, gx_U]) (fun _ => []) (fun a => a.2) (fun a => bd_I sz m a.1 ∧ bd_Z r (k + 1) a.1 ∧ sd_R a.1 a.2) (fun a ha => ?_) (fun at260 => ?_)
        · obtain ⟨s4, P4⟩ := a
          refine gx_iinc C dL_build_260 (by decide) rfl rfl ?_
          refine gx_goto C dL_build_263 rfl ?_
          exact nxt2 (s4, P4) ha
        · have zk : bd_Z r (k + 1) s3 := ⟨hZ.1, fun i j a b c d => hZ.2 i j a b c (by omega)⟩
          refine gx_iload C dL_build_148 rfl ?_
          refine gx_bipush C dL_build_150 rfl ?_
          refine gx_icmp_ge C dL_build_152 rfl (by unfold gx_3; omega) (by unfold gx_3; omega) (fun hb152 => absurd hb152 (by omega)) (fun hb152 => ?_)
          refine gx_iload C dL_build_155 rfl ?_
          refine gx_if_eq C dL_build_157 rfl (by unfold gx_3; omega) (fun hb157 => absurd hb157 (by omega)) (fun hb157 => ?_)
          refine gx_iload C dL_build_160 rfl ?_
          refine gx_iconst C dL_build_162 ?_
          refine gx_idiv C dL_build_163 (by unfold gx_3; omega) (by unfold gx_3; omega) (by omega) hdiv ?_
          refine gx_istore C dL_build_164 (by decide) rfl ?_
          refine gx_iload C dL_build_166 rfl ?_
          refine gx_iconst C dL_build_168 ?_
          refine gx_irem C dL_build_169 (by unfold gx_3; omega) (by unfold gx_3; omega) (by omega) hrem ?_
          refine gx_istore C dL_build_170 (by decide) rfl ?_
          refine gx_iload C dL_build_172 rfl ?_
          refine gx_iload_n C dL_build_174 rfl ?_
          refine gx_icmp_ge C dL_build_175 rfl (by unfold gx_3; omega) (by unfold gx_3; omega) (fun hb175 => ?_) (fun hb175 => ?_)
          · refine gx_weak (L' := [gx_R 12, gx_R 1000, gx_I g, gx_I sz, gx_I wh, gx_I m, gx_I c0, gx_I 1, gx_I (r : Int), gx_I h, gx_I (k : Int), gx_U, gx_U, gx_U]) ⟨Or.inr rfl, Or.inr rfl, Or.inr rfl, Or.inr rfl, Or.inr rfl, Or.inr rfl, Or.inr rfl, Or.inr rfl, Or.inr rfl, Or.inr rfl, Or.inr rfl, Or.inl rfl, Or.inl rfl, Or.inl rfl, trivial⟩ ?_
            exact at260 (s3, P) ⟨hI, zk, hP⟩
          · refine gx_iload C dL_build_178 rfl ?_
            refine gx_iload_n C dL_build_180 rfl ?_
            refine gx_icmp_ge C dL_build_181 rfl (by unfold gx_3; omega) (by unfold gx_3; omega) (fun hb181 => ?_) (fun hb181 => ?_)
            · refine gx_weak (L' := [gx_R 12, gx_R 1000, gx_I g, gx_I sz, gx_I wh, gx_I m, gx_I c0, gx_I 1, gx_I (r : Int), gx_I h, gx_I (k : Int), gx_U, gx_U, gx_U]) ⟨Or.inr rfl, Or.inr rfl, Or.inr rfl, Or.inr rfl, Or.inr rfl, Or.inr rfl, Or.inr rfl, Or.inr rfl, Or.inr rfl, Or.inr rfl, Or.inr rfl, Or.inl rfl, Or.inl rfl, Or.inl rfl, trivial⟩ ?_
              exact at260 (s3, P) ⟨hI, zk, hP⟩
            · refine gx_iload C dL_build_184 rfl ?_
              refine gx_iload C dL_build_186 rfl ?_
              refine gx_icmp_gt C dL_build_188 rfl (by unfold gx_3; omega) (by unfold gx_3; omega) (fun hb188 => ?_) (fun hb188 => ?_)
              · refine gx_weak (L' := [gx_R 12, gx_R 1000, gx_I g, gx_I sz, gx_I wh, gx_I m, gx_I c0, gx_I 1, gx_I (r : Int), gx_I h, gx_I (k : Int), gx_U, gx_U, gx_U]) ⟨Or.inr rfl, Or.inr rfl, Or.inr rfl, Or.inr rfl, Or.inr rfl, Or.inr rfl, Or.inr rfl, Or.inr rfl, Or.inr rfl, Or.inr rfl, Or.inr rfl, Or.inl rfl, Or.inl rfl, Or.inl rfl, trivial⟩ ?_
                exact at260 (s3, P) ⟨hI, zk, hP⟩
              · refine gx_iload C dL_build_191 rfl ?_
                refine gx_iconst C dL_build_193 ?_
                refine gx_iload C dL_build_194 rfl ?_
                refine gx_imul C dL_build_196 ?_
                refine gx_iload C dL_build_197 rfl ?_
                refine gx_iadd C dL_build_199 ?_
                refine gx_ishr C dL_build_200 (wl_it _).symm ?_
                refine gx_iload C dL_build_201 rfl ?_
                refine gx_statI C (c_L_low (wl_3 _) (n := m) (by omega)) (cwS 2 (gx_hts C) gL_build_L_low rfl rfl rfl (by decide +kernel) ⟨Nat.le_of_ble_eq_true rfl, Nat.le_of_ble_eq_true rfl⟩) rfl rfl (Nat.le_of_ble_eq_true rfl) ⟨Nat.le_refl _, Nat.le_refl _⟩ dL_build_203 (fun v P2 h9 => ?_)
                obtain ⟨rfl, v0, v1⟩ := h9
                refine gx_istore C dL_build_206 (by decide) rfl ?_
                refine gx_aload_n C dL_build_208 rfl ?_
                refine gx_iload C dL_build_209 rfl ?_
                refine gx_iload C dL_build_211 rfl ?_
                refine gx_iload C dL_build_213 rfl ?_
                refine gx_iload C dL_build_215 rfl ?_
                refine gx_callI C 7 rfl (gd_12 gn_Hd) (c_X7_set gn_Hd hI.1 hP (r := (r : Int)) (i := ((k / 3 : Nat) : Int)) (j := ((k % 3 : Nat) : Int)) (v := v) (by unfold gx_3; omega) (by unfold gx_3; omega) (by unfold gx_3; omega) (by unfold gx_3; omega)) (cwV 4 (gx_hts C) gL_build_X7_set rfl rfl rfl (by decide +kernel) ⟨Nat.le_of_ble_eq_true rfl, Nat.le_of_ble_eq_true rfl⟩) rfl rfl (Nat.le_of_ble_eq_true rfl) ⟨Nat.le_refl _, Nat.le_refl _⟩ dL_build_217 (fun zz P3 h10 => ?_)
                obtain ⟨s4, h10, Q1, -⟩ := h10
                obtain ⟨rfl, hI4, hZ4, en1, en2⟩ := bd_s (v := 0) (z := 0) hr hk hI hZ (by omega) (by omega) (by omega) ⟨v0, v1⟩ hszb.2 h10
                have n4 : s4.1 81 = sz := hI4.2.1
                refine gx_if_ne C dL_build_220 rfl (by unfold gx_3; omega) (fun hb220 => absurd hb220 (by omega)) (fun hb220 => ?_)
                refine gx_aload_n C dL_build_223 rfl ?_
                refine gx_iload C dL_build_224 rfl ?_
                refine gx_iload C dL_build_226 rfl ?_
                refine gx_iload C dL_build_228 rfl ?_
                refine gx_callI C 7 rfl (gd_12 gn_Hd) (c_X7_entry gn_Hd hI4.1 Q1 (r := (r : Int)) (i := ((k / 3 : Nat) : Int)) (j := ((k % 3 : Nat) : Int)) (by unfold gx_3; omega) (by unfold gx_3; omega) (by unfold gx_3; omega)) (cwV 3 (gx_hts C) gL_build_X7_entry rfl rfl rfl (by decide +kernel) ⟨Nat.le_of_ble_eq_true rfl, Nat.le_of_ble_eq_true rfl⟩) rfl rfl (Nat.le_of_ble_eq_true rfl) ⟨Nat.le_refl _, Nat.le_refl _⟩ dL_build_230 (fun y1 P4 h11 => ?_)
                obtain ⟨h11, rfl⟩ := h11
                have h11 := sp_en_e h11 (by omega) (by omega) (by omega)
                rw [Int.toNat_natCast, Int.toNat_natCast, Int.toNat_natCast, en1] at h11
                subst h11
                refine gx_iload C dL_build_233 rfl ?_
                refine gx_icmp_ne C dL_build_235 rfl (by unfold gx_3; omega) (by unfold gx_3; omega) (fun hb235 => absurd hb235 (by omega)) (fun hb235 => ?_)
                refine gx_aload_n C dL_build_238 rfl ?_
                refine gx_iload C dL_build_239 rfl ?_
                refine gx_iload C dL_build_241 rfl ?_
                refine gx_iload C dL_build_243 rfl ?_
                refine gx_callI C 7 rfl (gd_12 gn_Hd) (c_X7_entry gn_Hd hI4.1 Q1 (r := (r : Int)) (i := ((k % 3 : Nat) : Int)) (j := ((k / 3 : Nat) : Int)) (by unfold gx_3; omega) (by unfold gx_3; omega) (by unfold gx_3; omega)) (cwV 3 (gx_hts C) gL_build_X7_entry rfl rfl rfl (by decide +kernel) ⟨Nat.le_of_ble_eq_true rfl, Nat.le_of_ble_eq_true rfl⟩) rfl rfl (Nat.le_of_ble_eq_true rfl) ⟨Nat.le_refl _, Nat.le_refl _⟩ dL_build_245 (fun y2 P5 h12 => ?_)
                obtain ⟨h12, rfl⟩ := h12
                have h12 := sp_en_e h12 (by omega) (by omega) (by omega)
                rw [Int.toNat_natCast, Int.toNat_natCast, Int.toNat_natCast, en2] at h12
                subst h12
                refine gx_iload C dL_build_248 rfl ?_
                refine gx_icmp_ne C dL_build_250 rfl (by unfold gx_3; omega) (by unfold gx_3; omega) (fun hb250 => absurd hb250 (by omega)) (fun hb250 => ?_)
                refine gx_iconst C dL_build_253 ?_
                refine gx_goto C dL_build_254 rfl ?_
                refine gx_istore C dL_build_258 (by decide) rfl ?_
                refine gx_weak (L' := [gx_R 12, gx_R 1000, gx_I g, gx_I sz, gx_I wh, gx_I m, gx_I c0, gx_I 1, gx_I (r : Int), gx_I h, gx_I (k : Int), gx_U, gx_U, gx_U]) ⟨Or.inr rfl, Or.inr rfl, Or.inr rfl, Or.inr rfl, Or.inr rfl, Or.inr rfl, Or.inr rfl, Or.inr rfl, Or.inr rfl, Or.inr rfl, Or.inr rfl, Or.inl rfl, Or.inl rfl, Or.inl rfl, trivial⟩ ?_
                exact at260 (s4, P5) ⟨hI4, hZ4, Q1⟩
      · obtain ⟨s3, P⟩ := a
        obtain ⟨hI, hZ, hP⟩ := hI
        refine gx_iload C dL_build_148 rfl ?_
        refine gx_bipush C dL_build_150 rfl ?_
        refine gx_icmp_ge C dL_build_152 rfl (by unfold gx_3; omega) (by unfold gx_3; omega) (fun hb152 => ?_) (fun hb152 => absurd (by omega) hb152)
        refine gx_iinc C dL_build_266 (by decide) rfl rfl ?_
        refine gx_goto C dL_build_269 rfl ?_
        refine gx_weak (L' := [gx_R 12, gx_R 1000, gx_I g, gx_I sz, gx_I wh, gx_I m, gx_I c0, gx_I 1, gx_I ((r + 1 : Nat) : Int), gx_U, gx_U, gx_U, gx_U, gx_U]) ⟨Or.inr rfl, Or.inr rfl, Or.inr rfl, Or.inr rfl, Or.inr rfl, Or.inr rfl, Or.inr rfl, Or.inr rfl, Or.inr rfl, Or.inl rfl, Or.inl rfl, Or.inl rfl, Or.inl rfl, Or.inl rfl, trivial⟩ ?_
        exact nxt (s3, P) ⟨hI, fun q a b => hZ.1 q (by omega) b, hP⟩
    · obtain ⟨s2, P⟩ := a
      obtain ⟨hI, hZ, hP⟩ := hI
      have hI : bd_I sz m s2 := hI
      have ok2 := hI.1
      refine gx_iload C dL_build_124 rfl ?_
      refine gx_iconst C dL_build_126 ?_
      refine gx_icmp_ge C dL_build_127 rfl (by unfold gx_3; omega) (by unfold gx_3; omega) (fun hb127 => ?_) (fun hb127 => absurd (by omega) hb127)
      refine gx_aload_n C dL_build_272 rfl ?_
      refine gx_iconst C dL_build_273 ?_
      refine gx_iconst C dL_build_274 ?_
      refine gx_callI C 7 rfl (gd_12 gn_Hd) (c_X7_of gn_Hd ok2 hP (r := 3) (w := 1) (by unfold gx_3; omega) (by unfold gx_3; omega)) (cwV 2 (gx_hts C) gL_build_X7_of rfl rfl rfl (by decide +kernel) ⟨Nat.le_of_ble_eq_true rfl, Nat.le_of_ble_eq_true rfl⟩) rfl rfl (Nat.le_of_ble_eq_true rfl) ⟨Nat.le_refl _, Nat.le_refl _⟩ dL_build_275 (fun D P1 h8 => ?_)
      obtain ⟨h8, x8⟩ := h8
      have h8 : D = mx_det (zs_nn s2) (s2.1 82) (zs_el s2.1 3) := so_1 (by omega) h8
      have hmm := zs_m ok2.1
      have hdb := mx_det_b (n := zs_nn s2) hmm.1 (zs_el s2.1 3)
      rw [← h8] at hdb
      have Q1 := sd_XR hP x8
      refine gx_istore C dL_build_278 (by decide) rfl ?_
      refine gx_aload_n C dL_build_280 rfl ?_
      refine gx_iconst C dL_build_281 ?_
      refine gx_callI C 7 rfl (gd_12 gn_Hd) (c_X7_base gn_Hd ok2 Q1 (r := 3) (by unfold gx_3; omega)) (cwV 1 (gx_hts C) gL_build_X7_base rfl rfl rfl (by decide +kernel) ⟨Nat.le_of_ble_eq_true rfl, Nat.le_of_ble_eq_true rfl⟩) rfl rfl (Nat.le_of_ble_eq_true rfl) ⟨Nat.le_refl _, Nat.le_refl _⟩ dL_build_282 (fun T P2 h9 => ?_)
      obtain ⟨s3, h9, Q2, -⟩ := h9
      obtain ⟨ok3, els, d1, d2⟩ := ba_e hI hsz2 hm h9
      rw [← h8] at d1 d2
      have hz3 : ∀ r, 4 ≤ r → r < 8 → zs_el s3.1 r = fun _ => 0 := fun r a b => (els r b).trans (hZ r a b)
      refine gx_istore C dL_build_285 (by decide) rfl ?_
      refine gx_iload C dL_build_287 rfl ?_
      refine gx_if_eq C dL_build_289 rfl (by unfold gx_3; omega) (fun hb289 => absurd hb289 (by omega)) (fun hb289 => ?_)
      refine gx_iload C dL_build_292 rfl ?_
      refine gx_iload C dL_build_294 rfl ?_
      by_cases hD : D = 0
      · obtain ⟨hT, hD8⟩ := d1 hD
        refine gx_if_ne C dL_build_296 rfl (by unfold gx_3; omega) (fun hb296 => absurd hb296 (by omega)) (fun hb296 => ?_)
        refine gx_bipush C dL_build_299 rfl ?_
        refine gx_goto C dL_build_301 rfl ?_
        refine gx_icmp_ne C dL_build_306 rfl (by unfold gx_3; omega) (by unfold gx_3; omega) (fun hb306 => absurd hb306 (by omega)) (fun hb306 => ?_)
        refine gx_aload_n C dL_build_309 rfl ?_
        refine gx_bipush C dL_build_310 rfl ?_
        refine gx_iconst C dL_build_312 ?_
        refine gx_callI C 7 rfl (gd_12 gn_Hd) (c_X7_of gn_Hd ok3 Q2 (r := 8) (w := 1) (by unfold gx_3; omega) (by unfold gx_3; omega)) (cwV 2 (gx_hts C) gL_build_X7_of rfl rfl rfl (by decide +kernel) ⟨Nat.le_of_ble_eq_true rfl, Nat.le_of_ble_eq_true rfl⟩) rfl rfl (Nat.le_of_ble_eq_true rfl) ⟨Nat.le_refl _, Nat.le_refl _⟩ dL_build_313 (fun D8 P3 h10 => ?_)
        obtain ⟨h10, x10⟩ := h10
        have h10 : D8 = mx_det (zs_nn s3) (s3.1 82) (zs_el s3.1 8) := so_1 (by omega) h10
        rw [hD8] at h10
        have Q3 := sd_XR Q2 x10
        refine gx_iload C dL_build_316 rfl ?_
        refine gx_if_ne C dL_build_318 rfl (by unfold gx_3; omega) (fun hb318 => absurd hb318 (by omega)) (fun hb318 => ?_)
        refine gx_iconst C dL_build_321 ?_
        refine gx_goto C dL_build_322 rfl ?_
        refine gx_icmp_ne C dL_build_327 rfl (by unfold gx_3; omega) (by unfold gx_3; omega) (fun hb327 => absurd hb327 (by omega)) (fun hb327 => ?_)
        refine gx_iconst C dL_build_330 ?_
        refine gx_goto C dL_build_331 rfl ?_
        exact gx_zret C (by omega) dL_build_335 ⟨rfl, s3, ok3, Q3, hz3⟩
      · obtain ⟨hT, hD8⟩ := d2 hD
        refine gx_if_ne C dL_build_296 rfl (by unfold gx_3; omega) (fun hb296 => ?_) (fun hb296 => absurd (by omega) hb296)
        refine gx_iload C dL_build_304 rfl ?_
        refine gx_icmp_ne C dL_build_306 rfl (by unfold gx_3; omega) (by unfold gx_3; omega) (fun hb306 => absurd hb306 (by omega)) (fun hb306 => ?_)
        refine gx_aload_n C dL_build_309 rfl ?_
        refine gx_bipush C dL_build_310 rfl ?_
        refine gx_iconst C dL_build_312 ?_
        refine gx_callI C 7 rfl (gd_12 gn_Hd) (c_X7_of gn_Hd ok3 Q2 (r := 8) (w := 1) (by unfold gx_3; omega) (by unfold gx_3; omega)) (cwV 2 (gx_hts C) gL_build_X7_of rfl rfl rfl (by decide +kernel) ⟨Nat.le_of_ble_eq_true rfl, Nat.le_of_ble_eq_true rfl⟩) rfl rfl (Nat.le_of_ble_eq_true rfl) ⟨Nat.le_refl _, Nat.le_refl _⟩ dL_build_313 (fun D8 P3 h10 => ?_)
        obtain ⟨h10, x10⟩ := h10
        have h10 : D8 = mx_det (zs_nn s3) (s3.1 82) (zs_el s3.1 8) := so_1 (by omega) h10
        rw [hD8] at h10
        have Q3 := sd_XR Q2 x10
        refine gx_iload C dL_build_316 rfl ?_
        refine gx_if_ne C dL_build_318 rfl (by unfold gx_3; omega) (fun hb318 => ?_) (fun hb318 => absurd (by omega) hb318)
        refine gx_iload C dL_build_325 rfl ?_
        refine gx_icmp_ne C dL_build_327 rfl (by unfold gx_3; omega) (by unfold gx_3; omega) (fun hb327 => absurd hb327 (by omega)) (fun hb327 => ?_)
        refine gx_iconst C dL_build_330 ?_
        refine gx_goto C dL_build_331 rfl ?_
        exact gx_zret C (by omega) dL_build_335 ⟨rfl, s3, ok3, Q3, hz3⟩
  · rcases (show wh = 0 ∨ wh = 1 ∨ wh = 2 ∨ wh = 3 by omega) with rfl | rfl | rfl | rfl
    · refine gx_if_ne C dL_build_25 rfl (by unfold gx_3; omega) (fun hb25 => absurd hb25 (by omega)) (fun hb25 => ?_)
      refine gx_iconst C dL_build_28 ?_
      refine gx_goto C dL_build_29 rfl ?_
      exact at55 3 (Or.inl rfl)
    · refine gx_if_ne C dL_build_25 rfl (by unfold gx_3; omega) (fun hb25 => ?_) (fun hb25 => absurd (by omega) hb25)
      refine gx_iload C dL_build_32 rfl ?_
      refine gx_iconst C dL_build_34 ?_
      refine gx_icmp_ne C dL_build_35 rfl (by unfold gx_3; omega) (by unfold gx_3; omega) (fun hb35 => absurd hb35 (by omega)) (fun hb35 => ?_)
      refine gx_iconst C dL_build_38 ?_
      refine gx_goto C dL_build_39 rfl ?_
      exact at55 5 (Or.inr (Or.inl rfl))
    · refine gx_if_ne C dL_build_25 rfl (by unfold gx_3; omega) (fun hb25 => ?_) (fun hb25 => absurd (by omega) hb25)
      refine gx_iload C dL_build_32 rfl ?_
      refine gx_iconst C dL_build_34 ?_
      refine gx_icmp_ne C dL_build_35 rfl (by unfold gx_3; omega) (by unfold gx_3; omega) (fun hb35 => ?_) (fun hb35 => absurd (by omega) hb35)
      refine gx_iload C dL_build_42 rfl ?_
      refine gx_iconst C dL_build_44 ?_
      refine gx_icmp_ne C dL_build_45 rfl (by unfold gx_3; omega) (by unfold gx_3; omega) (fun hb45 => absurd hb45 (by omega)) (fun hb45 => ?_)
      refine gx_bipush C dL_build_48 rfl ?_
      refine gx_goto C dL_build_50 rfl ?_
      exact at55 7 (Or.inr (Or.inr (Or.inl rfl)))
    · refine gx_if_ne C dL_build_25 rfl (by unfold gx_3; omega) (fun hb25 => ?_) (fun hb25 => absurd (by omega) hb25)
      refine gx_iload C dL_build_32 rfl ?_
      refine gx_iconst C dL_build_34 ?_
      refine gx_icmp_ne C dL_build_35 rfl (by unfold gx_3; omega) (by unfold gx_3; omega) (fun hb35 => ?_) (fun hb35 => absurd (by omega) hb35)
      refine gx_iload C dL_build_42 rfl ?_
      refine gx_iconst C dL_build_44 ?_
      refine gx_icmp_ne C dL_build_45 rfl (by unfold gx_3; omega) (by unfold gx_3; omega) (fun hb45 => ?_) (fun hb45 => absurd (by omega) hb45)
      refine gx_bipush C dL_build_53 rfl ?_
      exact at55 11 (Or.inr (Or.inr (Or.inr rfl)))
