theorem gx_lcast {p : Program} {l : Launch} {e : Env} {R : Room} {s : State} {m : MethodId} {args : Array Value} {below : List Frame} {meth : Method} {c : Code} {cells slots : Nat} {Q : State → Prop} {nL : Nat} {D : va_G} {tc : Nat → ClassId} {ad : Nat → Nat} {La : List gx_K} {A : Nat → Prop} {H0 : Heap} {pc : Nat} {L L' st : List gx_V} {M : gx_M} (h : L = L') (k : gx_G p l e R s m args below meth c cells slots Q nL D tc ad La A H0 pc L' st M) : gx_G p l e R s m args below meth c cells slots Q nL D tc ad La A H0 pc L st M := by
  rw [h]
  exact k
/-- 0 or 1 by whether all is 0 -/
def mx_nz (f : Nat → Int) (q : Int) : Prop := (f = (fun _ => 0) ∧ q = 0) ∨ (¬ f = (fun _ => 0) ∧ q = 1)
def zs_part (s : sp_S) (e b : Nat → Int) (w : Int) : Nat → Int := mx_part (zs_nn s) (s.1 82) (zs_el s.1 8) (zs_el s.1 9) e b w
/-- the first k parts stored -/
def zs_sp (s : sp_S) (e b : Nat → Int) (t : Nat) : Nat → Nat → Int
  | 0 => s.1
  | k + 1 => zs_put (zs_sp s e b t k) (9 * (t + k)) (zs_part s e b (2 - (k : Int)))
def zs_cn (s : sp_S) (e b : Nat → Int) : Nat → Int → Prop
  | 0, z => z = 0
  | k + 1, z => ∃ y q, zs_cn s e b k y ∧ mx_nz (zs_part s e b (2 - (k : Int))) q ∧ z = y + q
def sp_split (s : sp_S) (a b t : Int) (z : Int) (s' : sp_S) : Prop :=
  if (0 ≤ a ∧ a ≤ 7) ∧ (0 ≤ b ∧ b ≤ 7) ∧ (0 ≤ t ∧ t ≤ 5) then
    (zs_sq s (zs_el s.1 a.toNat) → zs_cn s (zs_el s.1 a.toNat) (zs_el s.1 b.toNat) 3 z ∧ s' = sp_push s (zs_sp s (zs_el s.1 a.toNat) (zs_el s.1 b.toNat) t.toNat 3)) ∧ (¬ zs_sq s (zs_el s.1 a.toNat) → z = -5 ∧ s' = s)
  else z = -1 ∧ s' = s
theorem mx_part_ok {n : Nat} {m : Int} (h : 3 ≤ m) {u v e b : Nat → Int} {w : Int} : mx_ok m (mx_part n m u v e b w) := by
  unfold mx_part
  split
  · exact mx_mul_ok h _ _
  · split
    · exact mx_lin_ok h _ _ _ _
    · exact mx_mul_ok h _ _
theorem zs_cnb {s : sp_S} {e b : Nat → Int} : ∀ k z, zs_cn s e b k z → 0 ≤ z ∧ z ≤ k
  | 0, z, h => by
    have : z = 0 := h
    omega
  | k + 1, z, h => by
    obtain ⟨y, q, h1, h2, h3⟩ := h
    have := zs_cnb k y h1
    rcases h2 with ⟨-, h2⟩ | ⟨-, h2⟩ <;> omega
set_option maxRecDepth 100000 in
set_option maxHeartbeats 4000000 in
theorem c_X8_split {La : List gx_K} (hM : gm_H La) {M : gx_M} {s : sp_S} (hs : sp_ok s) (hR : sm_R s M) {a b t : Int} (ha : gx_3 a) (hb : gx_3 b) (ht : gx_3 t) : gx_Ci La yX8_split wsX8_split 5 [gx_R 0, gx_I a, gx_I b, gx_I t] M (fun z M' => ∃ s', sp_split s a b t z s' ∧ sm_Q s' M M') := by
  have hz := sm_Z hs hR
  have hzm := gm_Zm hz
  have bad : ¬((0 ≤ a ∧ a ≤ 7) ∧ (0 ≤ b ∧ b ≤ 7) ∧ (0 ≤ t ∧ t ≤ 5)) → ∃ s', sp_split s a b t (-1) s' ∧ sm_Q s' M M := fun h => ⟨s, by unfold sp_split; rw [if_neg h]; exact ⟨rfl, rfl⟩, sm_XQ hR (gm_Xr M)⟩
  refine gx_start_i (L := [gx_R 0, gx_I a, gx_I b, gx_I t, gx_U, gx_U]) (by decide) rfl rfl (Nat.le_of_ble_eq_true rfl) rfl ?_
  intro _ _ _ _ _ _ _ _ _ _ _ _ C
  refine gx_iload_n C dX8_split_0 rfl ?_
  refine gx_statI C (c_X8_isRegister ha) (cwS 1 (gx_hts C) gX8_split_X8_isRegister rfl rfl rfl (by decide +kernel) ⟨Nat.le_of_ble_eq_true rfl, Nat.le_of_ble_eq_true rfl⟩) rfl rfl (Nat.le_of_ble_eq_true rfl) ⟨Nat.le_refl _, Nat.le_refl _⟩ dX8_split_1 (fun z M1 h1 => ?_)
  obtain ⟨rfl, h1⟩ := h1
  by_cases hq1 : 0 ≤ a ∧ a ≤ 7
  · rw [if_pos hq1] at h1
    subst h1
    refine gx_if_eq C dX8_split_4 rfl (by unfold gx_3; omega) (fun hb4 => absurd hb4 (by omega)) (fun hb4 => ?_)
    refine gx_iload_n C dX8_split_7 rfl ?_
    refine gx_statI C (c_X8_isRegister hb) (cwS 1 (gx_hts C) gX8_split_X8_isRegister rfl rfl rfl (by decide +kernel) ⟨Nat.le_of_ble_eq_true rfl, Nat.le_of_ble_eq_true rfl⟩) rfl rfl (Nat.le_of_ble_eq_true rfl) ⟨Nat.le_refl _, Nat.le_refl _⟩ dX8_split_8 (fun z M2 h1 => ?_)
    obtain ⟨rfl, h1⟩ := h1
    by_cases hq2 : 0 ≤ b ∧ b ≤ 7
    · rw [if_pos hq2] at h1
      subst h1
      refine gx_if_eq C dX8_split_11 rfl (by unfold gx_3; omega) (fun hb11 => absurd hb11 (by omega)) (fun hb11 => ?_)
      refine gx_iload_n C dX8_split_14 rfl ?_
      refine gx_iconst C dX8_split_15 ?_
      refine gx_iconst C dX8_split_16 ?_
      refine gx_statI C (c_X8_in ht (by unfold gx_3; omega) (by unfold gx_3; omega)) (cwS 3 (gx_hts C) gX8_split_X8_in rfl rfl rfl (by decide +kernel) ⟨Nat.le_of_ble_eq_true rfl, Nat.le_of_ble_eq_true rfl⟩) rfl rfl (Nat.le_of_ble_eq_true rfl) ⟨Nat.le_refl _, Nat.le_refl _⟩ dX8_split_17 (fun z M3 h1 => ?_)
      obtain ⟨rfl, h1⟩ := h1
      by_cases hq3 : 0 ≤ t ∧ t ≤ 5
      · rw [if_pos hq3] at h1
        subst h1
        have hg := And.intro hq1 (And.intro hq2 hq3)
        obtain ⟨a', rfl⟩ : ∃ k : Nat, a = k := ⟨a.toNat, by omega⟩
        obtain ⟨b', rfl⟩ : ∃ k : Nat, b = k := ⟨b.toNat, by omega⟩
        obtain ⟨t', rfl⟩ : ∃ k : Nat, t = k := ⟨t.toNat, by omega⟩
        have oa := zs_el_ok hs.1 (r := a') (by omega)
        have ob := zs_el_ok hs.1 (r := b') (by omega)
        have ou := zs_el_ok hs.1 (r := 8) (by omega)
        have ov := zs_el_ok hs.1 (r := 9) (by omega)
        refine gx_if_ne C dX8_split_20 rfl (by unfold gx_3; omega) (fun hb20 => ?_) (fun hb20 => absurd (by omega) hb20)
        refine gx_aload_n C dX8_split_25 rfl ?_
        refine gx_iload_n C dX8_split_26 rfl ?_
        refine gx_bipush C dX8_split_27 rfl ?_
        refine gx_callV C 8 rfl (gm_0 hM) (c_X8_loadS hM hs hR (r := a') (t := 90) rfl (by omega) (by omega) (by omega)) (cwV 2 (gx_hts C) gX8_split_X8_load rfl rfl rfl (by decide +kernel) ⟨Nat.le_of_ble_eq_true rfl, Nat.le_of_ble_eq_true rfl⟩) rfl rfl (Nat.le_of_ble_eq_true rfl) ⟨Nat.le_refl _, Nat.le_refl _⟩ dX8_split_29 (fun P1 h2 => ?_)
        obtain ⟨e1, -, -, E1⟩ := h2
        have X1 := gm_X6 E1
        refine gx_aload_n C dX8_split_32 rfl ?_
        refine gx_iload_n C dX8_split_33 rfl ?_
        refine gx_bipush C dX8_split_34 rfl ?_
        refine gx_callV C 8 rfl (gm_0 hM) (c_X8_loadS hM hs (sm_X hR X1) (r := b') (t := 9) rfl (by omega) (by omega) (by omega)) (cwV 2 (gx_hts C) gX8_split_X8_load rfl rfl rfl (by decide +kernel) ⟨Nat.le_of_ble_eq_true rfl, Nat.le_of_ble_eq_true rfl⟩) rfl rfl (Nat.le_of_ble_eq_true rfl) ⟨Nat.le_refl _, Nat.le_refl _⟩ dX8_split_36 (fun P2 h2 => ?_)
        obtain ⟨b2, u2, v2, E2⟩ := h2
        have e2 : mx_of (P2 6) 90 = zs_el s.1 a' := by rw [gm_Eo E2 (fun j h1 h2 => by omega), e1]
        have X2 := gm_Xt X1 (gm_X6 E2)
        refine gx_aload_n C dX8_split_39 rfl ?_
        refine gx_bipush C dX8_split_40 rfl ?_
        refine gx_callI C 8 rfl (gm_0 hM) (c_X8_isOwnSquare hM (sm_Z hs (sm_X hR X2)) (a := 90) (by omega) (by omega) (mx_ok_e e2 oa) (mx_ok_e u2 ou)) (cwV 1 (gx_hts C) gX8_split_X8_isOwnSquare rfl rfl rfl (by decide +kernel) ⟨Nat.le_of_ble_eq_true rfl, Nat.le_of_ble_eq_true rfl⟩) rfl rfl (Nat.le_of_ble_eq_true rfl) ⟨Nat.le_refl _, Nat.le_refl _⟩ dX8_split_42 (fun z P3 h2 => ?_)
        obtain ⟨g1, g2, E3⟩ := h2
        rw [u2, e2] at g2
        have g2 : z = 1 ↔ zs_sq s (zs_el s.1 a') := g2
        have So : ∀ {q : Nat}, (q + 9 ≤ 45 ∨ 90 ≤ q) → mx_of (P3 6) q = mx_of (P2 6) q := fun h => gm_Eo E3 (fun j h1 h2 => by unfold gm_S; omega)
        have e3 : mx_of (P3 6) 90 = zs_el s.1 a' := by rw [So (by omega), e2]
        have b3 : mx_of (P3 6) 9 = zs_el s.1 b' := by rw [So (by omega), b2]
        have u3 : mx_of (P3 6) 27 = zs_el s.1 8 := by rw [So (by omega), u2]
        have v3 : mx_of (P3 6) 36 = zs_el s.1 9 := by rw [So (by omega), v2]
        have X3 := gm_Xt X2 (gm_X6 E3)
        refine gx_if_ne C dX8_split_45 rfl (by unfold gx_3; omega) (fun hb45 => ?_) (fun hb45 => ?_)
        · refine gx_aload_n C dX8_split_51 rfl ?_
          refine gx_callV C 8 rfl (gm_0 hM) (c_X8_record hM (sm_X hR X3) hs.2.1) (cwV 0 (gx_hts C) gX8_split_X8_record rfl rfl rfl (by decide +kernel) ⟨Nat.le_of_ble_eq_true rfl, Nat.le_of_ble_eq_true rfl⟩) rfl rfl (Nat.le_of_ble_eq_true rfl) ⟨Nat.le_refl _, Nat.le_refl _⟩ dX8_split_52 (fun P4 h8 => ?_)
          obtain ⟨⟨hR4, hF4⟩, h9, h10⟩ := h8
          have e6 : P4 6 = P3 6 := h9 6 (by decide) (by decide)
          have hF0 : ∀ c, 12 ≤ c → P4 c = M3 c := fun c hc => by rw [hF4 c hc, X3.1 c (Or.inr hc)]
          have hz4 : gm_Z P4 (s.1 81).toNat (s.1 82) := by
            have := sm_Z hs (sm_X hR X3)
            unfold gm_Z
            rw [h9 1 (by decide) (by decide)]
            exact this
          refine gx_iconst C dX8_split_55 ?_
          refine gx_istore C dX8_split_56 (by decide) rfl ?_
          refine gx_iconst C dX8_split_58 ?_
          refine gx_istore C dX8_split_59 (by decide) rfl ?_
          refine gx_for 3 (fun k (q : gx_M × Int) => [gx_R 0, gx_I (a' : Int), gx_I (b' : Int), gx_I (t' : Int), gx_I q.2, gx_I (2 - (k : Int))]) (fun q => q.1) (fun k q => zs_cn s (zs_el s.1 a') (zs_el s.1 b') k q.2 ∧ sm_R (sp_push s (zs_sp s (zs_el s.1 a') (zs_el s.1 b') t' k)) q.1 ∧ (∀ c, 12 ≤ c → q.1 c = M3 c) ∧ gm_Z q.1 (s.1 81).toNat (s.1 82) ∧ mx_of (q.1 6) 90 = zs_el s.1 a' ∧ mx_of (q.1 6) 9 = zs_el s.1 b' ∧ mx_of (q.1 6) 27 = zs_el s.1 8 ∧ mx_of (q.1 6) 36 = zs_el s.1 9) 0 (P4, 0) (by omega) ⟨rfl, hR4, hF0, hz4, by show mx_of (P4 6) _ = _; rw [e6]; exact e3, by show mx_of (P4 6) _ = _; rw [e6]; exact b3, by show mx_of (P4 6) _ = _; rw [e6]; exact u3, by show mx_of (P4 6) _ = _; rw [e6]; exact v3⟩ (fun k q hk hI ih => ?_) (fun q hI => ?_)
          · obtain ⟨M', y⟩ := q
            obtain ⟨i1, i2, i3, i4, i5, i6, i7, i8⟩ := hI
            simp only at i1 i2 i3 i4 i5 i6 i7 i8
            refine gx_iload C dX8_split_61 rfl ?_
            refine gx_if_lt C dX8_split_63 rfl (by unfold gx_3; omega) (fun hb63 => absurd hb63 (by omega)) (fun hb63 => ?_)
            refine gx_aload_n C dX8_split_66 rfl ?_
            refine gx_iload C dX8_split_67 rfl ?_
            refine gx_callV C 8 rfl (gm_0 hM) (c_X8_part hM i4 (w := 2 - (k : Int)) (by omega) (mx_ok_e i6 ob) (mx_ok_e i7 ou) (mx_ok_e i8 ov) (mx_ok_e i5 oa)) (cwV 1 (gx_hts C) gX8_split_X8_part rfl rfl rfl (by decide +kernel) ⟨Nat.le_of_ble_eq_true rfl, Nat.le_of_ble_eq_true rfl⟩) rfl rfl (Nat.le_of_ble_eq_true rfl) ⟨Nat.le_refl _, Nat.le_refl _⟩ dX8_split_69 (fun P5 h2 => ?_)
            obtain ⟨r5, E5⟩ := h2
            rw [i5, i6, i7, i8] at r5
            have r5 : mx_of (P5 6) 81 = zs_part s (zs_el s.1 a') (zs_el s.1 b') (2 - (k : Int)) := r5
            have po : mx_ok (s.1 82) (zs_part s (zs_el s.1 a') (zs_el s.1 b') (2 - (k : Int))) := mx_part_ok hzm.1
            have So5 : ∀ {q : Nat}, (q + 9 ≤ 45 ∨ (90 ≤ q ∧ q + 9 ≤ 99)) → mx_of (P5 6) q = mx_of (M' 6) q := fun h => gm_Eo E5 (fun j h1 h2 => by omega)
            refine gx_aload_n C dX8_split_72 rfl ?_
            refine gx_bipush C dX8_split_73 rfl ?_
            refine gx_iload_n C dX8_split_75 rfl ?_
            refine gx_iconst C dX8_split_76 ?_
            refine gx_iadd C dX8_split_77 ?_
            refine gx_iload C dX8_split_78 rfl ?_
            refine gx_isub C dX8_split_80 ?_
            refine gx_callV C 8 rfl (gm_0 hM) (c_X8_store hM (r := t' + k) (a := 81) (by omega) (by omega) (by omega)) (cwV 2 (gx_hts C) gX8_split_X8_store rfl rfl rfl (by decide +kernel) ⟨Nat.le_of_ble_eq_true rfl, Nat.le_of_ble_eq_true rfl⟩) rfl rfl (Nat.le_of_ble_eq_true rfl) ⟨Nat.le_refl _, Nat.le_refl _⟩ dX8_split_81 (fun P6 h6 => ?_)
            rw [r5] at h6
            have c66 : P6 6 = P5 6 := by rw [h6, gx_blk_nc (by decide)]
            have R6 : sm_R (sp_push s (zs_sp s (zs_el s.1 a') (zs_el s.1 b') t' (k + 1))) P6 := by
              have R5 := sm_X i2 (gm_X6 E5)
              obtain ⟨q1, q2, q3, q4, q5, q6, q7⟩ := R5
              have f0 : ∀ c, c ≠ 1 → P6 c = P5 c := fun c hc => by rw [h6, gx_blk_nc hc]
              refine ⟨fun i hi => ?_, by rw [f0 0 (by decide)]; exact q2, fun i j hi hj => by rw [f0 2 (by decide)]; exact q3 i j hi hj, fun j hj => by rw [f0 4 (by decide)]; exact q4 j hj, fun j i hj hsv hi => by rw [f0 3 (by decide)]; exact q5 j i hj hsv hi, by rw [f0 0 (by decide)]; exact q6, fun i hi => by rw [f0 5 (by decide)]; exact q7 i hi⟩
              rw [h6]
              show _ = zs_put (zs_sp s (zs_el s.1 a') (zs_el s.1 b') t' k) (9 * (t' + k)) (zs_part s (zs_el s.1 a') (zs_el s.1 b') (2 - (k : Int))) i
              unfold zs_put
              by_cases q : 9 * (t' + k) ≤ i ∧ i < 9 * (t' + k) + 9
              · rw [if_pos q]
                have := gx_blk_in (M := P5) (c := 1) (o := 9 * (t' + k)) (n := 9) (k := i - 9 * (t' + k)) (f := zs_part s (zs_el s.1 a') (zs_el s.1 b') (2 - (k : Int))) (by omega)
                rwa [show 9 * (t' + k) + (i - 9 * (t' + k)) = i by omega] at this
              · rw [if_neg q, gx_blk_out (by omega)]
                exact q1 i hi
            have Z6 : gm_Z P6 (s.1 81).toNat (s.1 82) := by
              have := gm_Ez E5 i4
              exact ⟨by rw [h6, gx_blk_out (by omega)]; exact this.1, by rw [h6, gx_blk_out (by omega)]; exact this.2.1, this.2.2⟩
            have F6 : ∀ c, 12 ≤ c → P6 c = M3 c := fun c hc => by rw [h6, gx_blk_nc (by omega), E5.1 c (by omega), i3 c hc]
            have r6 : mx_of (P6 6) 81 = zs_part s (zs_el s.1 a') (zs_el s.1 b') (2 - (k : Int)) := by rw [c66, r5]
            have nb := zs_cnb k y i1
            refine gx_iload C dX8_split_84 rfl ?_
            refine gx_aload_n C dX8_split_86 rfl ?_
            refine gx_bipush C dX8_split_87 rfl ?_
            refine gx_callI C 8 rfl (gm_0 hM) (c_X8_isNothing hM (m := s.1 82) (by omega) (a := 81) (by omega) (mx_ok_e r6 po)) (cwV 1 (gx_hts C) gX8_split_X8_isNothing rfl rfl rfl (by decide +kernel) ⟨Nat.le_of_ble_eq_true rfl, Nat.le_of_ble_eq_true rfl⟩) rfl rfl (Nat.le_of_ble_eq_true rfl) ⟨Nat.le_refl _, Nat.le_refl _⟩ dX8_split_89 (fun z P7 h7 => ?_)
            obtain ⟨rfl, j1, j2⟩ := h7
            rw [r6] at j2
            have fin : ∀ q : Int, (q = 1 - z) → (zs_cn s (zs_el s.1 a') (zs_el s.1 b') (k + 1) (y + q) ∧ sm_R (sp_push s (zs_sp s (zs_el s.1 a') (zs_el s.1 b') t' (k + 1))) P7 ∧ (∀ c, 12 ≤ c → P7 c = M3 c) ∧ gm_Z P7 (s.1 81).toNat (s.1 82) ∧ mx_of (P7 6) 90 = zs_el s.1 a' ∧ mx_of (P7 6) 9 = zs_el s.1 b' ∧ mx_of (P7 6) 27 = zs_el s.1 8 ∧ mx_of (P7 6) 36 = zs_el s.1 9) := fun q hq => ⟨⟨y, q, i1, by
              rcases j1 with j1 | j1
              · exact Or.inr ⟨fun h => by have := j2.mpr h; omega, by omega⟩
              · exact Or.inl ⟨j2.mp j1, by omega⟩, rfl⟩, R6, F6, Z6, by rw [c66, So5 (by omega), i5], by rw [c66, So5 (by omega), i6], by rw [c66, So5 (by omega), i7], by rw [c66, So5 (by omega), i8]⟩
            have e5 : (2 : Int) - ((k + 1 : Nat) : Int) = 2 - (k : Int) + -1 := by omega
            refine gx_if_eq C dX8_split_92 rfl (by unfold gx_3; omega) (fun hb92 => ?_) (fun hb92 => ?_)
            · refine gx_iconst C dX8_split_99 ?_
              refine gx_iadd C dX8_split_100 ?_
              refine gx_istore C dX8_split_101 (by decide) rfl ?_
              refine gx_iinc C dX8_split_103 (by decide) rfl rfl ?_
              refine gx_goto C dX8_split_106 rfl ?_
              have := ih (P7, y + 1) (fin 1 (by omega))
              rw [e5] at this
              exact this
            · refine gx_iconst C dX8_split_95 ?_
              refine gx_goto C dX8_split_96 rfl ?_
              refine gx_iadd C dX8_split_100 ?_
              refine gx_istore C dX8_split_101 (by decide) rfl ?_
              refine gx_iinc C dX8_split_103 (by decide) rfl rfl ?_
              refine gx_goto C dX8_split_106 rfl ?_
              have := ih (P7, y + 0) (fin 0 (by omega))
              rw [e5] at this
              exact this
          · obtain ⟨M', y⟩ := q
            obtain ⟨i1, i2, i3, -⟩ := hI
            simp only at i1 i2 i3
            refine gx_iload C dX8_split_61 rfl ?_
            refine gx_if_lt C dX8_split_63 rfl (by unfold gx_3; omega) (fun hb63 => ?_) (fun hb63 => absurd (by omega) hb63)
            refine gx_iload C dX8_split_109 rfl ?_
            exact gx_iret C dX8_split_111 ⟨_, by unfold sp_split; rw [if_pos hg]; exact ⟨fun _ => ⟨i1, rfl⟩, fun h => absurd (g2.mp (by omega)) h⟩, i2, i3⟩
        · refine gx_bipush C dX8_split_48 rfl ?_
          exact gx_iret C dX8_split_50 ⟨s, by unfold sp_split; rw [if_pos hg]; exact ⟨fun h => by have := g2.mpr h; omega, fun _ => ⟨rfl, rfl⟩⟩, sm_XQ hR X3⟩
      · rw [if_neg hq3] at h1
        subst h1
        refine gx_if_ne C dX8_split_20 rfl (by unfold gx_3; omega) (fun hb20 => absurd hb20 (by omega)) (fun hb20 => ?_)
        refine gx_iconst C dX8_split_23 ?_
        exact gx_iret C dX8_split_24 (bad (by omega))
    · rw [if_neg hq2] at h1
      subst h1
      refine gx_if_eq C dX8_split_11 rfl (by unfold gx_3; omega) (fun hb11 => ?_) (fun hb11 => absurd (by omega) hb11)
      refine gx_iconst C dX8_split_23 ?_
      exact gx_iret C dX8_split_24 (bad (by omega))
  · rw [if_neg hq1] at h1
    subst h1
    refine gx_if_eq C dX8_split_4 rfl (by unfold gx_3; omega) (fun hb4 => ?_) (fun hb4 => absurd (by omega) hb4)
    refine gx_iconst C dX8_split_23 ?_
    exact gx_iret C dX8_split_24 (bad (by omega))
/-- a basis of the elements, place by place -/
def mx_bas (r c : Nat) : Nat → Int := fun k => if k = 3 * r + c ∨ k = 3 * c + r then 1 else 0
/-- the rows of the parts of those in the row r, from the place r on -/
def mx_pin (m : Int) (f : (Nat → Int) → (Nat → Int)) (r : Nat) (s : Nat × (Nat → Nat → Int)) : Nat → Nat × (Nat → Nat → Int)
  | 0 => s
  | j + 1 => mx_nw m (mx_pin m f r s j) (f (mx_bas r (r + j)))
def mx_pou (n : Nat) (m : Int) (f : (Nat → Int) → (Nat → Int)) : Nat → Nat × (Nat → Nat → Int)
  | 0 => (0, fun _ _ => 0)
  | r + 1 => mx_pin m f r (mx_pou n m f r) (n - r)
def sp_psize (s : sp_S) (r w : Int) (z : Int) : Prop :=
  if 0 ≤ r ∧ r ≤ 7 then (if 0 ≤ w ∧ w ≤ 2 then (zs_sq s (zs_el s.1 r.toNat) → z = (mx_pou (zs_nn s) (s.1 82) (fun b => zs_part s (zs_el s.1 r.toNat) b w) (zs_nn s)).1) ∧ (¬ zs_sq s (zs_el s.1 r.toNat) → z = -5) else z = -2) else z = -1
theorem mx_pin1 {m : Int} {f : (Nat → Int) → (Nat → Int)} {r : Nat} {s : Nat × (Nat → Nat → Int)} : ∀ j, (mx_pin m f r s j).1 ≤ s.1 + j
  | 0 => Nat.le_refl _
  | j + 1 => by
    have h1 := mx_pin1 (m := m) (f := f) (r := r) (s := s) j
    have h2 := mx_nw1 m (mx_pin m f r s j) (f (mx_bas r (r + j)))
    show (mx_nw m (mx_pin m f r s j) (f (mx_bas r (r + j)))).1 ≤ s.1 + (j + 1)
    omega
theorem mx_pou1 {n : Nat} (hn : n ≤ 3) {m : Int} {f : (Nat → Int) → (Nat → Int)} : ∀ r, r ≤ 3 → (mx_pou n m f r).1 ≤ 3 * r
  | 0, _ => Nat.le_refl _
  | r + 1, h => by
    have h1 := mx_pou1 hn (m := m) (f := f) r (by omega)
    have h2 := mx_pin1 (m := m) (f := f) (r := r) (s := mx_pou n m f r) (n - r)
    show (mx_pin m f r (mx_pou n m f r) (n - r)).1 ≤ 3 * (r + 1)
    omega
theorem mx_pou2 {n : Nat} (hn : n ≤ 3) {m : Int} {f : (Nat → Int) → (Nat → Int)} {r : Nat} (hr : r < n) {j : Nat} (hj : j ≤ n - r) : (mx_pin m f r (mx_pou n m f r) j).1 ≤ 8 := by
  have h2 := mx_pin1 (m := m) (f := f) (r := r) (s := mx_pou n m f r) j
  rcases (show r = 0 ∨ r = 1 ∨ r = 2 by omega) with rfl | rfl | rfl
  · have : (mx_pou n m f 0).1 = 0 := rfl
    omega
  · have := mx_pou1 hn (m := m) (f := f) 1 (by omega)
    omega
  · have := mx_pou1 hn (m := m) (f := f) 2 (by omega)
    omega
set_option maxRecDepth 100000 in
set_option maxHeartbeats 4000000 in
theorem c_X8_partSize {La : List gx_K} (hM : gm_H La) {M : gx_M} {s : sp_S} (hs : sp_ok s) (hR : sm_R s M) {a w : Int} (ha : gx_3 a) (hw : gx_3 w) : gx_Ci La yX8_partSize wsX8_partSize 5 [gx_R 0, gx_I a, gx_I w] M (fun z M' => sp_psize s a w z ∧ sm_Q s M M') := by
  have hz := sm_Z hs hR
  have hzm := gm_Zm hz
  refine gx_start_i (L := [gx_R 0, gx_I a, gx_I w, gx_U, gx_U, gx_U]) (by decide) rfl rfl (Nat.le_of_ble_eq_true rfl) rfl ?_
  intro _ _ _ _ _ _ _ _ _ _ _ _ C
  refine gx_iload_n C dX8_partSize_0 rfl ?_
  refine gx_statI C (c_X8_isRegister ha) (cwS 1 (gx_hts C) gX8_partSize_X8_isRegister rfl rfl rfl (by decide +kernel) ⟨Nat.le_of_ble_eq_true rfl, Nat.le_of_ble_eq_true rfl⟩) rfl rfl (Nat.le_of_ble_eq_true rfl) ⟨Nat.le_refl _, Nat.le_refl _⟩ dX8_partSize_1 (fun z M1 h1 => ?_)
  obtain ⟨rfl, h1⟩ := h1
  by_cases hq1 : 0 ≤ a ∧ a ≤ 7
  · rw [if_pos hq1] at h1
    subst h1
    refine gx_if_ne C dX8_partSize_4 rfl (by unfold gx_3; omega) (fun hb4 => ?_) (fun hb4 => absurd (by omega) hb4)
    refine gx_iload_n C dX8_partSize_9 rfl ?_
    refine gx_iconst C dX8_partSize_10 ?_
    refine gx_iconst C dX8_partSize_11 ?_
    refine gx_statI C (c_X8_in hw (by unfold gx_3; omega) (by unfold gx_3; omega)) (cwS 3 (gx_hts C) gX8_partSize_X8_in rfl rfl rfl (by decide +kernel) ⟨Nat.le_of_ble_eq_true rfl, Nat.le_of_ble_eq_true rfl⟩) rfl rfl (Nat.le_of_ble_eq_true rfl) ⟨Nat.le_refl _, Nat.le_refl _⟩ dX8_partSize_12 (fun z M2 h1 => ?_)
    obtain ⟨rfl, h1⟩ := h1
    by_cases hq2 : 0 ≤ w ∧ w ≤ 2
    · rw [if_pos hq2] at h1
      subst h1
      obtain ⟨a', rfl⟩ : ∃ k : Nat, a = k := ⟨a.toNat, by omega⟩
      have oa := zs_el_ok hs.1 (r := a') (by omega)
      have ou := zs_el_ok hs.1 (r := 8) (by omega)
      have ov := zs_el_ok hs.1 (r := 9) (by omega)
      refine gx_if_ne C dX8_partSize_15 rfl (by unfold gx_3; omega) (fun hb15 => ?_) (fun hb15 => absurd (by omega) hb15)
      refine gx_aload_n C dX8_partSize_21 rfl ?_
      refine gx_iload_n C dX8_partSize_22 rfl ?_
      refine gx_bipush C dX8_partSize_23 rfl ?_
      refine gx_callV C 8 rfl (gm_0 hM) (c_X8_loadS hM hs hR (r := a') (t := 90) rfl (by omega) (by omega) (by omega)) (cwV 2 (gx_hts C) gX8_partSize_X8_load rfl rfl rfl (by decide +kernel) ⟨Nat.le_of_ble_eq_true rfl, Nat.le_of_ble_eq_true rfl⟩) rfl rfl (Nat.le_of_ble_eq_true rfl) ⟨Nat.le_refl _, Nat.le_refl _⟩ dX8_partSize_25 (fun P1 h2 => ?_)
      obtain ⟨e1, u1, v1, E1⟩ := h2
      have X1 := gm_X6 E1
      refine gx_aload_n C dX8_partSize_28 rfl ?_
      refine gx_bipush C dX8_partSize_29 rfl ?_
      refine gx_callI C 8 rfl (gm_0 hM) (c_X8_isOwnSquare hM (sm_Z hs (sm_X hR X1)) (a := 90) (by omega) (by omega) (mx_ok_e e1 oa) (mx_ok_e u1 ou)) (cwV 1 (gx_hts C) gX8_partSize_X8_isOwnSquare rfl rfl rfl (by decide +kernel) ⟨Nat.le_of_ble_eq_true rfl, Nat.le_of_ble_eq_true rfl⟩) rfl rfl (Nat.le_of_ble_eq_true rfl) ⟨Nat.le_refl _, Nat.le_refl _⟩ dX8_partSize_31 (fun z P2 h2 => ?_)
      obtain ⟨g1, g2, E2⟩ := h2
      rw [u1, e1] at g2
      have g2 : z = 1 ↔ zs_sq s (zs_el s.1 a') := g2
      have So : ∀ {q : Nat}, (q + 9 ≤ 45 ∨ 90 ≤ q) → mx_of (P2 6) q = mx_of (P1 6) q := fun h => gm_Eo E2 (fun j h1 h2 => by unfold gm_S; omega)
      have e2 : mx_of (P2 6) 90 = zs_el s.1 a' := by rw [So (by omega), e1]
      have u2 : mx_of (P2 6) 27 = zs_el s.1 8 := by rw [So (by omega), u1]
      have v2 : mx_of (P2 6) 36 = zs_el s.1 9 := by rw [So (by omega), v1]
      have X2 := gm_Xt X1 (gm_X6 E2)
      refine gx_if_ne C dX8_partSize_34 rfl (by unfold gx_3; omega) (fun hb34 => ?_) (fun hb34 => ?_)
      · refine gx_aload_n C dX8_partSize_40 rfl ?_
        refine gx_iconst C dX8_partSize_41 ?_
        refine gx_putI C 8 _ 9 rfl (gm_0 hM) rfl (by decide) nX8_partSize_8 tyX8 tyX8_ok nmX8 (gx_hts C _ fX8_partSize_131) rfl rfl dX8_partSize_42 ?_
        refine gx_iconst C dX8_partSize_45 ?_
        refine gx_istore_n C dX8_partSize_46 (by decide) rfl ?_
        refine gx_iconst C dX8_partSize_47 ?_
        refine gx_istore C dX8_partSize_48 (by decide) rfl ?_
        generalize hf : (fun b => zs_part s (zs_el s.1 a') b w) = f
        have hf' : ∀ b, mx_part (s.1 81).toNat (s.1 82) (zs_el s.1 8) (zs_el s.1 9) (zs_el s.1 a') b w = f b := fun b => by rw [← hf]; rfl
        have of : ∀ b, mx_ok (s.1 82) (f b) := fun b => by rw [← hf' b]; exact mx_part_ok hzm.1
        refine gx_for (s.1 81).toNat (fun r (q : gx_M × Int) => [gx_R 0, gx_I (a' : Int), gx_I w, gx_I q.2, gx_I (r : Int), gx_U]) (fun q => q.1) (fun r q => q.2 = (mx_pou (s.1 81).toNat (s.1 82) f r).1 ∧ gm_W q.1 (s.1 82) (mx_pou (s.1 81).toNat (s.1 82) f r) ∧ gm_X M2 q.1 ∧ mx_of (q.1 6) 90 = zs_el s.1 a' ∧ mx_of (q.1 6) 27 = zs_el s.1 8 ∧ mx_of (q.1 6) 36 = zs_el s.1 9) 0 (gx_u P2 0 9 0, 0) (by omega) ⟨rfl, gm_W0 (M := gx_u P2 0 9 0) (gx_u_eq P2 0 9 0), gm_Xt X2 (gm_XY gm_Yu), by show mx_of (gx_u P2 0 9 0 6) _ = _; rw [gx_u_nc (by decide)]; exact e2, by show mx_of (gx_u P2 0 9 0 6) _ = _; rw [gx_u_nc (by decide)]; exact u2, by show mx_of (gx_u P2 0 9 0 6) _ = _; rw [gx_u_nc (by decide)]; exact v2⟩ (fun r q hr hI ih => ?_) (fun q hI => ?_)
        · obtain ⟨M', y⟩ := q
          obtain ⟨i1, i2, i3, i4, i5, i6⟩ := hI
          simp only at i1 i2 i3 i4 i5 i6
          refine gx_iload C dX8_partSize_50 rfl ?_
          refine gx_aload_n C dX8_partSize_52 rfl ?_
          refine gx_getR C 8 _ 0 rfl (gm_0 hM) rfl (by decide) nX8_partSize_8 (gx_hts C _ fX8_partSize_7) dX8_partSize_53 ?_
          refine gx_bipush C dX8_partSize_56 rfl ?_
          refine gx_iaload C (gm_1 hM) (by omega) dX8_partSize_58 ((sm_Z hs (sm_X hR i3)).1) ?_
          refine gx_icmp_ge C dX8_partSize_59 rfl (by unfold gx_3; omega) (by unfold gx_3; omega) (fun hb59 => absurd hb59 (by omega)) (fun hb59 => ?_)
          refine gx_iload C dX8_partSize_62 rfl ?_
          refine gx_istore C dX8_partSize_64 (by decide) rfl ?_
          refine gx_lcast (L' := [gx_R 0, gx_I (a' : Int), gx_I w, gx_I y, gx_I (r : Int), gx_I ((r : Int) + ((0 : Nat) : Int))]) (by rw [show (r : Int) + ((0 : Nat) : Int) = (r : Int) by omega]; rfl) ?_
          · refine gx_for ((s.1 81).toNat - r) (fun j (q : gx_M × Int) => [gx_R 0, gx_I (a' : Int), gx_I w, gx_I q.2, gx_I (r : Int), gx_I ((r : Int) + (j : Int))]) (fun q => q.1) (fun j q => q.2 = (mx_pin (s.1 82) f r (mx_pou (s.1 81).toNat (s.1 82) f r) j).1 ∧ gm_W q.1 (s.1 82) (mx_pin (s.1 82) f r (mx_pou (s.1 81).toNat (s.1 82) f r) j) ∧ gm_X M2 q.1 ∧ mx_of (q.1 6) 90 = zs_el s.1 a' ∧ mx_of (q.1 6) 27 = zs_el s.1 8 ∧ mx_of (q.1 6) 36 = zs_el s.1 9) 0 (M', y) (by omega) ⟨i1, i2, i3, i4, i5, i6⟩ (fun j q hj hI ih2 => ?_) (fun q hI => ?_)
            · obtain ⟨M4, y4⟩ := q
              obtain ⟨j1, j2, j3, j4, j5, j6⟩ := hI
              simp only at j1 j2 j3 j4 j5 j6
              have hl8 := mx_pou2 (n := (s.1 81).toNat) hzm.2.2.1 (m := s.1 82) (f := f) hr (j := j) (by omega)
              refine gx_iload C dX8_partSize_66 rfl ?_
              refine gx_aload_n C dX8_partSize_68 rfl ?_
              refine gx_getR C 8 _ 0 rfl (gm_0 hM) rfl (by decide) nX8_partSize_8 (gx_hts C _ fX8_partSize_7) dX8_partSize_69 ?_
              refine gx_bipush C dX8_partSize_72 rfl ?_
              refine gx_iaload C (gm_1 hM) (by omega) dX8_partSize_74 ((sm_Z hs (sm_X hR j3)).1) ?_
              refine gx_icmp_ge C dX8_partSize_75 rfl (by unfold gx_3; omega) (by unfold gx_3; omega) (fun hb75 => absurd hb75 (by omega)) (fun hb75 => ?_)
              refine gx_aload_n C dX8_partSize_78 rfl ?_
              refine gx_bipush C dX8_partSize_79 rfl ?_
              refine gx_callV C 8 rfl (gm_0 hM) (c_X8_blank hM (t := 9) (by omega)) (cwV 1 (gx_hts C) gX8_partSize_X8_blank rfl rfl rfl (by decide +kernel) ⟨Nat.le_of_ble_eq_true rfl, Nat.le_of_ble_eq_true rfl⟩) rfl rfl (Nat.le_of_ble_eq_true rfl) ⟨Nat.le_refl _, Nat.le_refl _⟩ dX8_partSize_81 (fun P5 h5 => ?_)
              refine gx_aload_n C dX8_partSize_84 rfl ?_
              refine gx_getR C 8 _ 7 rfl (gm_0 hM) rfl (by decide) nX8_partSize_8 (gx_hts C _ fX8_partSize_27) dX8_partSize_85 ?_
              refine gx_bipush C dX8_partSize_88 rfl ?_
              refine gx_iconst C dX8_partSize_90 ?_
              refine gx_iload C dX8_partSize_91 rfl ?_
              refine gx_imul C dX8_partSize_93 ?_
              refine gx_iadd C dX8_partSize_94 ?_
              refine gx_iload C dX8_partSize_95 rfl ?_
              refine gx_iadd C dX8_partSize_97 ?_
              refine gx_iconst C dX8_partSize_98 ?_
              refine gx_iastore C (gm_6 hM) (by omega) dX8_partSize_99 (show _ = 9 + (3 * r + (r + j)) by omega) ?_
              refine gx_aload_n C dX8_partSize_100 rfl ?_
              refine gx_getR C 8 _ 7 rfl (gm_0 hM) rfl (by decide) nX8_partSize_8 (gx_hts C _ fX8_partSize_27) dX8_partSize_101 ?_
              refine gx_bipush C dX8_partSize_104 rfl ?_
              refine gx_iconst C dX8_partSize_106 ?_
              refine gx_iload C dX8_partSize_107 rfl ?_
              refine gx_imul C dX8_partSize_109 ?_
              refine gx_iadd C dX8_partSize_110 ?_
              refine gx_iload C dX8_partSize_111 rfl ?_
              refine gx_iadd C dX8_partSize_113 ?_
              refine gx_iconst C dX8_partSize_114 ?_
              refine gx_iastore C (gm_6 hM) (by omega) dX8_partSize_115 (show _ = 9 + (3 * (r + j) + r) by omega) ?_
              refine gx_aload_n C dX8_partSize_116 rfl ?_
              rw [h5, gx_blk_u (by omega), gx_blk_u (by omega)]
              have hbas : gx_blk M4 6 9 9 (fun i => if i = 3 * (r + j) + r then 1 else if i = 3 * r + (r + j) then 1 else 0) = gx_blk M4 6 9 9 (mx_bas r (r + j)) := by
                refine gx_blk_f (fun i hi => ?_)
                unfold mx_bas
                by_cases q1 : i = 3 * (r + j) + r
                · rw [if_pos q1, if_pos (Or.inr q1)]
                · rw [if_neg q1]
                  by_cases q2 : i = 3 * r + (r + j)
                  · rw [if_pos q2, if_pos (Or.inl q2)]
                  · rw [if_neg q2, if_neg (by omega)]
              rw [hbas]
              have b5 : mx_of (gx_blk M4 6 9 9 (mx_bas r (r + j)) 6) 9 = mx_bas r (r + j) := by
                rw [mx_of_blk]
                exact mx_cut (fun k hk => if_neg (by omega))
              have ob : mx_ok (s.1 82) (mx_bas r (r + j)) := fun k hk => by
                unfold mx_bas
                split <;> omega
              have e5 : mx_of (gx_blk M4 6 9 9 (mx_bas r (r + j)) 6) 90 = zs_el s.1 a' := by rw [mx_of_blo (by omega), j4]
              have u5 : mx_of (gx_blk M4 6 9 9 (mx_bas r (r + j)) 6) 27 = zs_el s.1 8 := by rw [mx_of_blo (by omega), j5]
              have v5 : mx_of (gx_blk M4 6 9 9 (mx_bas r (r + j)) 6) 36 = zs_el s.1 9 := by rw [mx_of_blo (by omega), j6]
              have X5 : gm_X M2 (gx_blk M4 6 9 9 (mx_bas r (r + j))) := gm_Xt j3 gm_Xb
              have W5 := gm_Wb (t := 9) (n := 9) (f := mx_bas r (r + j)) j2
              generalize gx_blk M4 6 9 9 (mx_bas r (r + j)) = P6 at b5 e5 u5 v5 X5 W5 ⊢
              refine gx_iload_n C dX8_partSize_117 rfl ?_
              refine gx_callV C 8 rfl (gm_0 hM) (c_X8_part hM (sm_Z hs (sm_X hR X5)) (w := w) (by omega) (mx_ok_e b5 ob) (mx_ok_e u5 ou) (mx_ok_e v5 ov) (mx_ok_e e5 oa)) (cwV 1 (gx_hts C) gX8_partSize_X8_part rfl rfl rfl (by decide +kernel) ⟨Nat.le_of_ble_eq_true rfl, Nat.le_of_ble_eq_true rfl⟩) rfl rfl (Nat.le_of_ble_eq_true rfl) ⟨Nat.le_refl _, Nat.le_refl _⟩ dX8_partSize_118 (fun P7 h7 => ?_)
              obtain ⟨r7, E7⟩ := h7
              rw [u5, v5, e5, b5, hf'] at r7
              have So7 : ∀ {q : Nat}, (q + 9 ≤ 45 ∨ (90 ≤ q ∧ q + 9 ≤ 99)) → mx_of (P7 6) q = mx_of (P6 6) q := fun h => gm_Eo E7 (fun j h1 h2 => by omega)
              refine gx_iload_n C dX8_partSize_121 rfl ?_
              refine gx_aload_n C dX8_partSize_122 rfl ?_
              refine gx_bipush C dX8_partSize_123 rfl ?_
              refine gx_callI C 8 rfl (gm_0 hM) (c_X8_isNew hM (sm_Z hs (sm_X hR (gm_Xt X5 (gm_X6 E7)))) (gm_WE W5 E7) (by omega) (a := 81) (by omega) (mx_ok_e r7 (of _))) (cwV 1 (gx_hts C) gX8_partSize_X8_isNew rfl rfl rfl (by decide +kernel) ⟨Nat.le_of_ble_eq_true rfl, Nat.le_of_ble_eq_true rfl⟩) rfl rfl (Nat.le_of_ble_eq_true rfl) ⟨Nat.le_refl _, Nat.le_refl _⟩ dX8_partSize_125 (fun z P8 h8 => ?_)
              rw [r7] at h8
              obtain ⟨k1, k2, k3, k4, k5⟩ := h8
              have fin := ih2 (P8, ((mx_pin (s.1 82) f r (mx_pou (s.1 81).toNat (s.1 82) f r) (j + 1)).1 : Int)) ⟨rfl, k3, gm_Xt (gm_Xt X5 (gm_X6 E7)) (gm_XY k5), by show mx_of (P8 6) _ = _; rw [k4, So7 (by omega), e5], by show mx_of (P8 6) _ = _; rw [k4, So7 (by omega), u5], by show mx_of (P8 6) _ = _; rw [k4, So7 (by omega), v5]⟩
              have hk2 : ((mx_pin (s.1 82) f r (mx_pou (s.1 81).toNat (s.1 82) f r) (j + 1)).1 : Int) = y4 + z := by rw [j1]; exact k2
              rw [hk2] at fin
              have ej : ((r : Int) + ((j + 1 : Nat) : Int)) = (r : Int) + (j : Int) + 1 := by omega
              simp only [ej] at fin
              refine gx_if_eq C dX8_partSize_128 rfl (by unfold gx_3; omega) (fun hb128 => ?_) (fun hb128 => ?_)
              · have : z = 0 := hb128
                subst this
                refine gx_iconst C dX8_partSize_135 ?_
                refine gx_iadd C dX8_partSize_136 ?_
                refine gx_istore_n C dX8_partSize_137 (by decide) rfl ?_
                refine gx_iinc C dX8_partSize_138 (by decide) rfl rfl ?_
                refine gx_goto C dX8_partSize_141 rfl ?_
                exact fin
              · have : z = 1 := by omega
                subst this
                refine gx_iconst C dX8_partSize_131 ?_
                refine gx_goto C dX8_partSize_132 rfl ?_
                refine gx_iadd C dX8_partSize_136 ?_
                refine gx_istore_n C dX8_partSize_137 (by decide) rfl ?_
                refine gx_iinc C dX8_partSize_138 (by decide) rfl rfl ?_
                refine gx_goto C dX8_partSize_141 rfl ?_
                exact fin
            · obtain ⟨M4, y4⟩ := q
              obtain ⟨j1, j2, j3, j4, j5, j6⟩ := hI
              simp only at j1 j2 j3 j4 j5 j6
              refine gx_iload C dX8_partSize_66 rfl ?_
              refine gx_aload_n C dX8_partSize_68 rfl ?_
              refine gx_getR C 8 _ 0 rfl (gm_0 hM) rfl (by decide) nX8_partSize_8 (gx_hts C _ fX8_partSize_7) dX8_partSize_69 ?_
              refine gx_bipush C dX8_partSize_72 rfl ?_
              refine gx_iaload C (gm_1 hM) (by omega) dX8_partSize_74 ((sm_Z hs (sm_X hR j3)).1) ?_
              refine gx_icmp_ge C dX8_partSize_75 rfl (by unfold gx_3; omega) (by unfold gx_3; omega) (fun hb75 => ?_) (fun hb75 => absurd (by omega) hb75)
              refine gx_iinc C dX8_partSize_144 (by decide) rfl rfl ?_
              refine gx_goto C dX8_partSize_147 rfl ?_
              exact gx_weak (L' := [gx_R 0, gx_I (a' : Int), gx_I w, gx_I y4, gx_I ((r + 1 : Nat) : Int), gx_U]) ⟨Or.inr rfl, Or.inr rfl, Or.inr rfl, Or.inr rfl, Or.inr rfl, Or.inl rfl, trivial⟩ (ih (M4, y4) ⟨j1, j2, j3, j4, j5, j6⟩)
        · obtain ⟨M', y⟩ := q
          obtain ⟨i1, i2, i3, i4, i5, i6⟩ := hI
          simp only at i1 i2 i3 i4 i5 i6
          refine gx_iload C dX8_partSize_50 rfl ?_
          refine gx_aload_n C dX8_partSize_52 rfl ?_
          refine gx_getR C 8 _ 0 rfl (gm_0 hM) rfl (by decide) nX8_partSize_8 (gx_hts C _ fX8_partSize_7) dX8_partSize_53 ?_
          refine gx_bipush C dX8_partSize_56 rfl ?_
          refine gx_iaload C (gm_1 hM) (by omega) dX8_partSize_58 ((sm_Z hs (sm_X hR i3)).1) ?_
          refine gx_icmp_ge C dX8_partSize_59 rfl (by unfold gx_3; omega) (by unfold gx_3; omega) (fun hb59 => ?_) (fun hb59 => absurd (by omega) hb59)
          refine gx_iload_n C dX8_partSize_150 rfl ?_
          exact gx_iret C dX8_partSize_151 ⟨by unfold sp_psize; rw [if_pos hq1, if_pos hq2]; exact ⟨fun _ => by rw [i1, ← hf]; rfl, fun h => absurd (g2.mp (by omega)) h⟩, sm_XQ hR i3⟩
      · refine gx_bipush C dX8_partSize_37 rfl ?_
        exact gx_iret C dX8_partSize_39 ⟨by unfold sp_psize; rw [if_pos hq1, if_pos hq2]; exact ⟨fun h => by have := g2.mpr h; omega, fun _ => rfl⟩, sm_XQ hR X2⟩
    · rw [if_neg hq2] at h1
      subst h1
      refine gx_if_ne C dX8_partSize_15 rfl (by unfold gx_3; omega) (fun hb15 => absurd hb15 (by omega)) (fun hb15 => ?_)
      refine gx_bipush C dX8_partSize_18 rfl ?_
      exact gx_iret C dX8_partSize_20 ⟨by unfold sp_psize; rw [if_pos hq1, if_neg hq2], sm_XQ hR (gm_Xr M2)⟩
  · rw [if_neg hq1] at h1
    subst h1
    refine gx_if_ne C dX8_partSize_4 rfl (by unfold gx_3; omega) (fun hb4 => absurd hb4 (by omega)) (fun hb4 => ?_)
    refine gx_iconst C dX8_partSize_7 ?_
    exact gx_iret C dX8_partSize_8 ⟨by unfold sp_psize; rw [if_neg hq1], sm_XQ hR (gm_Xr M1)⟩
