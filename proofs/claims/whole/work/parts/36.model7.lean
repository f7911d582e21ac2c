/-! WHAT A DESK IS: 83 numbers (the registers, the base, size, modulus), the history, the slots, the pad -/
abbrev sp_S : Type := (Nat → Int) × (Nat × (Nat → Nat → Int)) × ((Nat → Int) × (Nat → Nat → Int)) × (Nat × (Nat → Int))
/-- a state of the registers is as it should be -/
def zs_ok (Z : Nat → Int) : Prop := (Z 81 = 2 ∨ Z 81 = 3) ∧ (Z 82 = 3 ∨ Z 82 = 5 ∨ Z 82 = 7 ∨ Z 82 = 11) ∧ (∀ r, r < 9 → mx_ok (Z 82) (mx_of Z (9 * r)) ∧ (∀ i j, i < 3 → j < 3 → mx_of Z (9 * r) (3 * i + j) = mx_of Z (9 * r) (3 * j + i)) ∧ ∀ i j, i < 3 → j < 3 → (Z 81).toNat ≤ i → mx_of Z (9 * r) (3 * i + j) = 0) ∧ mx_det (Z 81).toNat (Z 82) (mx_of Z 72) ≠ 0
def sp_ok (s : sp_S) : Prop := zs_ok s.1 ∧ s.2.1.1 ≤ 6 ∧ (∀ i, i < s.2.1.1 → zs_ok (s.2.1.2 i)) ∧ (∀ j, j < 2 → (s.2.2.1.1 j = 0 ∨ s.2.2.1.1 j = 1)) ∧ (∀ j, j < 2 → s.2.2.1.1 j = 1 → zs_ok (s.2.2.1.2 j)) ∧ s.2.2.2.1 ≤ 60 ∧ ∀ i, i < s.2.2.2.1 → 33 ≤ s.2.2.2.2 i ∧ s.2.2.2.2 i ≤ 126
/-- a change is recorded -/
def sp_h (s : sp_S) : Nat := if s.2.1.1 = 6 then 5 else s.2.1.1
def sp_push (s : sp_S) (Z : Nat → Int) : sp_S := (Z, (sp_h s + 1, fun i => if i = sp_h s then s.1 else if s.2.1.1 = 6 then s.2.1.2 (i + 1) else s.2.1.2 i), s.2.2.1, s.2.2.2)
/-- the reference's numbers are this desk -/
def sm_R (s : sp_S) (M : gx_M) : Prop :=
  (∀ k, k < 83 → M 1 k = s.1 k) ∧ M 0 4 = s.2.1.1 ∧ (∀ i k, i < s.2.1.1 → k < 83 → M 2 (83 * i + k) = s.2.1.2 i k) ∧ (∀ j, j < 2 → M 4 j = s.2.2.1.1 j) ∧ (∀ j k, j < 2 → s.2.2.1.1 j = 1 → k < 83 → M 3 (83 * j + k) = s.2.2.1.2 j k) ∧ M 0 6 = s.2.2.2.1 ∧ ∀ i, i < s.2.2.2.1 → M 5 i = s.2.2.2.2 i
def sm_Q (s : sp_S) (M M' : gx_M) : Prop := sm_R s M' ∧ ∀ c, 12 ≤ c → M' c = M c
/-- scratch alone has changed -/
def gm_X (M M' : gx_M) : Prop := (∀ c, (1 ≤ c ∧ c ≤ 5) ∨ 12 ≤ c → M' c = M c) ∧ M' 0 4 = M 0 4 ∧ M' 0 6 = M 0 6
theorem gm_Xr (M : gx_M) : gm_X M M := ⟨fun _ _ => rfl, rfl, rfl⟩
theorem gm_Xt {M M1 M2 : gx_M} (h1 : gm_X M M1) (h2 : gm_X M1 M2) : gm_X M M2 := ⟨fun c h => (h2.1 c h).trans (h1.1 c h), h2.2.1.trans h1.2.1, h2.2.2.trans h1.2.2⟩
theorem gm_XY {M M' : gx_M} (h : gm_Y M M') : gm_X M M' := ⟨fun c hc => h.1 c (by omega) (by omega) (by omega), h.2 4 (by decide), h.2 6 (by decide)⟩
theorem gm_XE {S : Nat → Prop} {M M' : gx_M} (h : gm_E S M M') : gm_X M M' := gm_XY (gm_YE h)
theorem gm_Xb {M : gx_M} {t n : Nat} {f : Nat → Int} : gm_X M (gx_blk M 6 t n f) := gm_XY gm_Y6
theorem sm_X {s : sp_S} {M M' : gx_M} (h : sm_R s M) (hX : gm_X M M') : sm_R s M' := by
  obtain ⟨h1, h2, h3, h4, h5, h6, h7⟩ := h
  obtain ⟨x1, x2, x3⟩ := hX
  have c1 := x1 1 (by omega)
  have c2 := x1 2 (by omega)
  have c3 := x1 3 (by omega)
  have c4 := x1 4 (by omega)
  have c5 := x1 5 (by omega)
  exact ⟨fun k hk => by rw [c1]; exact h1 k hk, x2.trans h2, fun i k hi hk => by rw [c2]; exact h3 i k hi hk, fun j hj => by rw [c4]; exact h4 j hj, fun j k hj hs hk => by rw [c3]; exact h5 j k hj hs hk, x3.trans h6, fun i hi => by rw [c5]; exact h7 i hi⟩
theorem sm_XQ {s : sp_S} {M M' : gx_M} (h : sm_R s M) (hX : gm_X M M') : sm_Q s M M' := ⟨sm_X h hX, fun c hc => hX.1 c (Or.inr hc)⟩
theorem sm_n {s : sp_S} (hs : sp_ok s) : s.1 81 = ((s.1 81).toNat : Int) := by
  have := hs.1.1
  omega
theorem sm_Z {s : sp_S} {M : gx_M} (hs : sp_ok s) (h : sm_R s M) : gm_Z M (s.1 81).toNat (s.1 82) := ⟨by rw [h.1 81 (by omega)]; exact sm_n hs, h.1 82 (by omega), by have := hs.1.1; omega, hs.1.2.1⟩
theorem sm_el {s : sp_S} {M : gx_M} (h : sm_R s M) {r : Nat} (hr : r < 9) : mx_of (M 1) (9 * r) = mx_of s.1 (9 * r) := mx_of_ext (fun k hk => h.1 _ (by omega))
theorem sm_el72 {s : sp_S} {M : gx_M} (h : sm_R s M) : mx_of (M 1) 72 = mx_of s.1 72 := sm_el h (r := 8) (by omega)
theorem sm_ou {s : sp_S} {M : gx_M} (hs : sp_ok s) (h : sm_R s M) : mx_ok (s.1 82) (mx_of (M 1) 72) := by rw [sm_el72 h]; exact (hs.1.2.2.1 8 (by omega)).1
/-- register, base or unit of a state -/
def zs_el (Z : Nat → Int) (r : Nat) : Nat → Int := if r < 9 then mx_of Z (9 * r) else mx_inv (Z 81).toNat (Z 82) (mx_of Z 72)
theorem sm_gel {s : sp_S} {M : gx_M} (h : sm_R s M) {r : Nat} (hr : r < 10) : gm_el M (s.1 81).toNat (s.1 82) r = zs_el s.1 r := by
  unfold gm_el zs_el
  by_cases h1 : r < 8
  · rw [if_pos h1, if_pos (by omega), sm_el h (by omega)]
  · rw [if_neg h1]
    by_cases h2 : r = 8
    · subst h2
      rw [if_pos rfl, if_pos (by omega), sm_el72 h]
    · rw [if_neg h2, if_neg (by omega), sm_el72 h]
theorem zs_el_ok {Z : Nat → Int} (h : zs_ok Z) {r : Nat} : r < 10 → mx_ok (Z 82) (zs_el Z r) := fun hr => by
  unfold zs_el
  split
  · exact (h.2.2.1 r (by omega)).1
  · exact mx_inv_ok (by have := h.2.1; omega) _
set_option maxRecDepth 100000 in
set_option maxHeartbeats 4000000 in
theorem c_X8_record {La : List gx_K} (hM : gm_H La) {M : gx_M} {s : sp_S} (hR : sm_R s M) (hs6 : s.2.1.1 ≤ 6) : gx_Cv La yX8_record wsX8_record 0 [gx_R 0] M (fun M' => sm_Q (sp_push s s.1) M M' ∧ (∀ c, c ≠ 0 → c ≠ 2 → M' c = M c) ∧ ∀ j, j ≠ 4 → M' 0 j = M 0 j) := by
  obtain ⟨h1, h2, h3, h4, h5, h6, h7⟩ := hR
  refine gx_start_v (L := [gx_R 0, gx_U]) (by decide) rfl rfl (Nat.le_of_ble_eq_true rfl) rfl ?_
  intro _ _ _ _ _ _ _ _ _ _ _ _ C
  have rest : ∀ {l D tc ad p e s2 m args below meth c} (M1 : gx_M) (x : gx_V) (C : gx_C p (gx_rm 0) s2 m args meth c cX8_record yX8_record.cls 2 wsX8_record none D tc ad La (gx_A ad La.length s2.heap.size) s2.heap), M1 0 4 = sp_h s → (∀ c, c ≠ 0 → c ≠ 2 → M1 c = M c) → (∀ j, j ≠ 4 → M1 0 j = M 0 j) → (∀ i k, i < sp_h s → k < 83 → M1 2 (83 * i + k) = if s.2.1.1 = 6 then s.2.1.2 (i + 1) k else s.2.1.2 i k) → gx_G p l e (gx_rm 0) s2 m args below meth c 0 0 (MQ below (va_Qv (fun (M' : gx_M) => sm_Q (sp_push s s.1) M M' ∧ (∀ c, c ≠ 0 → c ≠ 2 → M' c = M c) ∧ ∀ j, j ≠ 4 → M' 0 j = M 0 j) (fun M' t => va_P D vwCl (gx_w La tc ad M') t.heap) (gx_A ad La.length s2.heap.size)) args s2 0 0 (gx_A ad La.length s2.heap.size)) 2 D tc ad La (gx_A ad La.length s2.heap.size) s2.heap 49 [gx_R 0, x] [] M1 := by
    intro l D tc ad p e s2 m args below meth c M1 x C g1 g2 g3 g4
    have hh : sp_h s ≤ 5 := by unfold sp_h; split <;> omega
    have c1 : M1 1 = M 1 := g2 1 (by decide) (by decide)
    refine gx_weak (L' := [gx_R 0, gx_U]) ⟨Or.inr rfl, Or.inl rfl, trivial⟩ ?_
    refine gx_iconst C dX8_record_49 ?_
    refine gx_istore_n C dX8_record_50 (by decide) rfl ?_
    refine gx_for 83 (fun k (_ : gx_M) => [gx_R 0, gx_I (k : Int)]) (fun M' => M') (fun k M' => M' = gx_blk M1 2 (83 * sp_h s) k s.1) 0 M1 (by omega) gx_blk_0.symm (fun k M' hk hI ih => ?_) (fun M' hI => ?_)
    · have e1 : M' 0 4 = sp_h s := by rw [hI, gx_blk_nc (by decide)]; exact g1
      have e2 : M' 1 ((k : Int).toNat) = s.1 k := by rw [hI, gx_blk_nc (by decide), c1]; exact h1 k hk
      refine gx_iload_n C dX8_record_51 rfl ?_
      refine gx_bipush C dX8_record_52 rfl ?_
      refine gx_icmp_ge C dX8_record_54 rfl (by unfold gx_3; omega) (by unfold gx_3; omega) (fun hb54 => absurd hb54 (by omega)) (fun hb54 => ?_)
      refine gx_aload_n C dX8_record_57 rfl ?_
      refine gx_getR C 8 _ 1 rfl (gm_0 hM) rfl (by decide) nX8_record_8 (gx_hts C _ fX8_record_13) dX8_record_58 ?_
      refine gx_aload_n C dX8_record_61 rfl ?_
      refine gx_getI C 8 _ 4 rfl (gm_0 hM) rfl (by decide) nX8_record_8 (gx_hts C _ fX8_record_53) dX8_record_62 e1 ?_
      refine gx_bipush C dX8_record_65 rfl ?_
      refine gx_imul C dX8_record_67 ?_
      refine gx_iload_n C dX8_record_68 rfl ?_
      refine gx_iadd C dX8_record_69 ?_
      refine gx_aload_n C dX8_record_70 rfl ?_
      refine gx_getR C 8 _ 0 rfl (gm_0 hM) rfl (by decide) nX8_record_8 (gx_hts C _ fX8_record_7) dX8_record_71 ?_
      refine gx_iload_n C dX8_record_74 rfl ?_
      refine gx_iaload C (gm_1 hM) (by omega) dX8_record_75 e2 ?_
      refine gx_iastore C (gm_2 hM) (by omega) dX8_record_76 (show _ = 83 * sp_h s + k by omega) ?_
      refine gx_iinc C dX8_record_77 (by decide) rfl rfl ?_
      refine gx_goto C dX8_record_80 rfl ?_
      exact ih _ (by rw [hI]; exact gx_blk_s rfl)
    · have e1 : M' 0 4 = sp_h s := by rw [hI, gx_blk_nc (by decide)]; exact g1
      refine gx_iload_n C dX8_record_51 rfl ?_
      refine gx_bipush C dX8_record_52 rfl ?_
      refine gx_icmp_ge C dX8_record_54 rfl (by unfold gx_3; omega) (by unfold gx_3; omega) (fun hb54 => ?_) (fun hb54 => absurd (by omega) hb54)
      refine gx_aload_n C dX8_record_83 rfl ?_
      refine gx_dup C dX8_record_84 rfl ?_
      refine gx_getI C 8 _ 4 rfl (gm_0 hM) rfl (by decide) nX8_record_8 (gx_hts C _ fX8_record_53) dX8_record_85 e1 ?_
      refine gx_iconst C dX8_record_88 ?_
      refine gx_iadd C dX8_record_89 ?_
      refine gx_putI C 8 _ 4 rfl (gm_0 hM) rfl (by decide) nX8_record_8 tyX8 tyX8_ok nmX8 (gx_hts C _ fX8_record_53) rfl rfl dX8_record_90 ?_
      have k2 : ∀ q, gx_u M' 0 4 q 2 = M' 2 := fun q => gx_u_nc (by decide)
      have fin : sm_Q (sp_push s s.1) M (gx_u M' 0 4 ((sp_h s : Int) + 1)) ∧ (∀ c, c ≠ 0 → c ≠ 2 → gx_u M' 0 4 ((sp_h s : Int) + 1) c = M c) ∧ ∀ j, j ≠ 4 → gx_u M' 0 4 ((sp_h s : Int) + 1) 0 j = M 0 j := by
        have f0 : ∀ c, c ≠ 0 → c ≠ 2 → gx_u M' 0 4 ((sp_h s : Int) + 1) c = M c := fun c a b => by rw [gx_u_nc a, hI, gx_blk_nc b, g2 c a b]
        have f1 : ∀ j, j ≠ 4 → gx_u M' 0 4 ((sp_h s : Int) + 1) 0 j = M 0 j := fun j hj => by rw [gx_u_ne (by omega), hI, gx_blk_nc (by decide), g3 j hj]
        refine ⟨⟨⟨fun k hk => by rw [f0 1 (by decide) (by decide)]; exact h1 k hk, by rw [gx_u_eq]; rfl, fun i k hi hk => ?_, fun j hj => by rw [f0 4 (by decide) (by decide)]; exact h4 j hj, fun j k hj hs hk => by rw [f0 3 (by decide) (by decide)]; exact h5 j k hj hs hk, by rw [f1 6 (by decide)]; exact h6, fun i hi => by rw [f0 5 (by decide) (by decide)]; exact h7 i hi⟩, fun c hc => f0 c (by omega) (by omega)⟩, f0, f1⟩
        have hi' : i < sp_h s + 1 := hi
        rw [k2, hI]
        show _ = (if i = sp_h s then s.1 else if s.2.1.1 = 6 then s.2.1.2 (i + 1) else s.2.1.2 i) k
        by_cases e : i = sp_h s
        · rw [if_pos e, e, gx_blk_in hk]
        · rw [if_neg e, gx_blk_out (by omega), g4 i k (by omega) hk]
          split <;> rfl
      exact gx_vret C dX8_record_93 fin
  refine gx_aload_n C dX8_record_0 rfl ?_
  refine gx_getI C 8 _ 4 rfl (gm_0 hM) rfl (by decide) nX8_record_8 (gx_hts C _ fX8_record_53) dX8_record_1 h2 ?_
  refine gx_bipush C dX8_record_4 rfl ?_
  refine gx_icmp_ne C dX8_record_6 rfl (by unfold gx_3; omega) (by unfold gx_3; omega) (fun hb6 => ?_) (fun hb6 => ?_)
  · exact rest M gx_U C (by rw [h2]; unfold sp_h; rw [if_neg (by omega)]) (fun _ _ _ => rfl) (fun _ _ => rfl) (fun i k hi hk => by
      have hn6 : s.2.1.1 ≠ 6 := by omega
      have hi2 : i < s.2.1.1 := by unfold sp_h at hi; rw [if_neg hn6] at hi; exact hi
      rw [if_neg hn6]
      exact h3 i k hi2 hk)
  · have hn6 : s.2.1.1 = 6 := by omega
    refine gx_iconst C dX8_record_9 ?_
    refine gx_istore_n C dX8_record_10 (by decide) rfl ?_
    refine gx_for 415 (fun k (_ : gx_M) => [gx_R 0, gx_I (k : Int)]) (fun M' => M') (fun k M' => M' = gx_blk M 2 0 k (fun i => M 2 (i + 83))) 0 M (by omega) gx_blk_0.symm (fun k M' hk hI ih => ?_) (fun M' hI => ?_)
    · have e2 : M' 2 (((k : Int) + 83).toNat) = M 2 (k + 83) := by rw [hI, show ((k : Int) + 83).toNat = k + 83 by omega]; exact gx_blk_out (by omega)
      refine gx_iload_n C dX8_record_11 rfl ?_
      refine gx_sipush C dX8_record_12 rfl ?_
      refine gx_icmp_ge C dX8_record_15 rfl (by unfold gx_3; omega) (by unfold gx_3; omega) (fun hb15 => absurd hb15 (by omega)) (fun hb15 => ?_)
      refine gx_aload_n C dX8_record_18 rfl ?_
      refine gx_getR C 8 _ 1 rfl (gm_0 hM) rfl (by decide) nX8_record_8 (gx_hts C _ fX8_record_13) dX8_record_19 ?_
      refine gx_iload_n C dX8_record_22 rfl ?_
      refine gx_aload_n C dX8_record_23 rfl ?_
      refine gx_getR C 8 _ 1 rfl (gm_0 hM) rfl (by decide) nX8_record_8 (gx_hts C _ fX8_record_13) dX8_record_24 ?_
      refine gx_iload_n C dX8_record_27 rfl ?_
      refine gx_bipush C dX8_record_28 rfl ?_
      refine gx_iadd C dX8_record_30 ?_
      refine gx_iaload C (gm_2 hM) (by omega) dX8_record_31 e2 ?_
      refine gx_iastore C (gm_2 hM) (by omega) dX8_record_32 (show _ = 0 + k by omega) ?_
      refine gx_iinc C dX8_record_33 (by decide) rfl rfl ?_
      refine gx_goto C dX8_record_36 rfl ?_
      exact ih _ (by rw [hI]; exact gx_blk_s rfl)
    · have e1 : M' 0 4 = 6 := by rw [hI, gx_blk_nc (by decide), h2, hn6]; rfl
      refine gx_iload_n C dX8_record_11 rfl ?_
      refine gx_sipush C dX8_record_12 rfl ?_
      refine gx_icmp_ge C dX8_record_15 rfl (by unfold gx_3; omega) (by unfold gx_3; omega) (fun hb15 => ?_) (fun hb15 => absurd (by omega) hb15)
      refine gx_aload_n C dX8_record_39 rfl ?_
      refine gx_dup C dX8_record_40 rfl ?_
      refine gx_getI C 8 _ 4 rfl (gm_0 hM) rfl (by decide) nX8_record_8 (gx_hts C _ fX8_record_53) dX8_record_41 e1 ?_
      refine gx_iconst C dX8_record_44 ?_
      refine gx_isub C dX8_record_45 ?_
      refine gx_putI C 8 _ 4 rfl (gm_0 hM) rfl (by decide) nX8_record_8 tyX8 tyX8_ok nmX8 (gx_hts C _ fX8_record_53) rfl rfl dX8_record_46 ?_
      refine rest _ _ C (by rw [gx_u_eq]; unfold sp_h; rw [if_pos hn6]; rfl) (fun c a b => by rw [gx_u_nc a, hI, gx_blk_nc b]) (fun j hj => by rw [gx_u_ne (by omega), hI, gx_blk_nc (by decide)]) (fun i k hi hk => ?_)
      have hi2 : i < 5 := by unfold sp_h at hi; rw [if_pos hn6] at hi; exact hi
      rw [if_pos hn6, gx_u_nc (by decide), hI]
      have := gx_blk_in (M := M) (c := 2) (o := 0) (n := 415) (k := 83 * i + k) (f := fun i => M 2 (i + 83)) (by omega)
      rw [Nat.zero_add] at this
      rw [this, show 83 * i + k + 83 = 83 * (i + 1) + k by omega]
      exact h3 (i + 1) k (by omega) hk
/-- all 0, the base the identity matrix -/
def zs_new (n m : Int) : Nat → Int := fun k => if k = 81 then n else if k = 82 then m else if 72 ≤ k ∧ (k - 72) % 4 = 0 ∧ (((k - 72) / 4 : Nat) : Int) < n then 1 else 0
set_option maxRecDepth 100000 in
set_option maxHeartbeats 4000000 in
theorem c_X8_clear {La : List gx_K} (hM : gm_H La) {M : gx_M} {n m : Int} (hn : n = 2 ∨ n = 3) : gx_Cv La yX8_clear wsX8_clear 0 [gx_R 0, gx_I n, gx_I m] M (fun M' => M' = gx_blk M 1 0 83 (zs_new n m)) := by
  refine gx_start_v (L := [gx_R 0, gx_I n, gx_I m, gx_U]) (by decide) rfl rfl (Nat.le_of_ble_eq_true rfl) rfl ?_
  intro _ _ _ _ _ _ _ _ _ _ _ _ C
  refine gx_iconst C dX8_clear_0 ?_
  refine gx_istore_n C dX8_clear_1 (by decide) rfl ?_
  refine gx_for 83 (fun k (_ : gx_M) => [gx_R 0, gx_I n, gx_I m, gx_I (k : Int)]) (fun M' => M') (fun k M' => M' = gx_blk M 1 0 k (fun _ => 0)) 0 M (by omega) gx_blk_0.symm (fun k M' hk hI ih => ?_) (fun M' hI => ?_)
  · refine gx_iload_n C dX8_clear_2 rfl ?_
    refine gx_bipush C dX8_clear_3 rfl ?_
    refine gx_icmp_ge C dX8_clear_5 rfl (by unfold gx_3; omega) (by unfold gx_3; omega) (fun hb5 => absurd hb5 (by omega)) (fun hb5 => ?_)
    refine gx_aload_n C dX8_clear_8 rfl ?_
    refine gx_getR C 8 _ 0 rfl (gm_0 hM) rfl (by decide) nX8_clear_8 (gx_hts C _ fX8_clear_7) dX8_clear_9 ?_
    refine gx_iload_n C dX8_clear_12 rfl ?_
    refine gx_iconst C dX8_clear_13 ?_
    refine gx_iastore C (gm_1 hM) (by omega) dX8_clear_14 (show _ = 0 + k by omega) ?_
    refine gx_iinc C dX8_clear_15 (by decide) rfl rfl ?_
    refine gx_goto C dX8_clear_18 rfl ?_
    exact ih _ (by rw [hI]; exact gx_blk_s rfl)
  · refine gx_iload_n C dX8_clear_2 rfl ?_
    refine gx_bipush C dX8_clear_3 rfl ?_
    refine gx_icmp_ge C dX8_clear_5 rfl (by unfold gx_3; omega) (by unfold gx_3; omega) (fun hb5 => ?_) (fun hb5 => absurd (by omega) hb5)
    refine gx_aload_n C dX8_clear_21 rfl ?_
    refine gx_getR C 8 _ 0 rfl (gm_0 hM) rfl (by decide) nX8_clear_8 (gx_hts C _ fX8_clear_7) dX8_clear_22 ?_
    refine gx_bipush C dX8_clear_25 rfl ?_
    refine gx_iload_n C dX8_clear_27 rfl ?_
    refine gx_iastore C (gm_1 hM) (by omega) dX8_clear_28 (show _ = 0 + 81 by rfl) ?_
    refine gx_aload_n C dX8_clear_29 rfl ?_
    refine gx_getR C 8 _ 0 rfl (gm_0 hM) rfl (by decide) nX8_clear_8 (gx_hts C _ fX8_clear_7) dX8_clear_30 ?_
    refine gx_bipush C dX8_clear_33 rfl ?_
    refine gx_iload_n C dX8_clear_35 rfl ?_
    refine gx_iastore C (gm_1 hM) (by omega) dX8_clear_36 (show _ = 0 + 82 by rfl) ?_
    refine gx_iconst C dX8_clear_37 ?_
    refine gx_istore_n C dX8_clear_38 (by decide) rfl ?_
    rw [hI, gx_blk_u (by omega), gx_blk_u (by omega)]
    refine gx_for n.toNat (fun k (_ : gx_M) => [gx_R 0, gx_I n, gx_I m, gx_I (k : Int)]) (fun M' => M') (fun k M' => M' = gx_blk M 1 0 83 (fun i => if i = 81 then n else if i = 82 then m else if 72 ≤ i ∧ (i - 72) % 4 = 0 ∧ (i - 72) / 4 < k then 1 else 0)) 0 _ (by omega) (gx_blk_f (fun i hi => by
      by_cases q1 : i = 81
      · rw [if_neg (by omega), if_pos q1, if_pos q1]
      · rw [if_neg q1]
        by_cases q2 : i = 82
        · rw [if_pos q2, if_neg q1, if_pos q2]
        · rw [if_neg q2, if_neg q1, if_neg q2, if_neg (by omega)])) (fun k M' hk hI ih => ?_) (fun M' hI => ?_)
    · refine gx_iload_n C dX8_clear_39 rfl ?_
      refine gx_iload_n C dX8_clear_40 rfl ?_
      refine gx_icmp_ge C dX8_clear_41 rfl (by unfold gx_3; omega) (by unfold gx_3; omega) (fun hb41 => absurd hb41 (by omega)) (fun hb41 => ?_)
      refine gx_aload_n C dX8_clear_44 rfl ?_
      refine gx_getR C 8 _ 0 rfl (gm_0 hM) rfl (by decide) nX8_clear_8 (gx_hts C _ fX8_clear_7) dX8_clear_45 ?_
      refine gx_bipush C dX8_clear_48 rfl ?_
      refine gx_iconst C dX8_clear_50 ?_
      refine gx_iload_n C dX8_clear_51 rfl ?_
      refine gx_imul C dX8_clear_52 ?_
      refine gx_iadd C dX8_clear_53 ?_
      refine gx_iconst C dX8_clear_54 ?_
      refine gx_iastore C (gm_1 hM) (by omega) dX8_clear_55 (show _ = 0 + (72 + 4 * k) by omega) ?_
      refine gx_iinc C dX8_clear_56 (by decide) rfl rfl ?_
      refine gx_goto C dX8_clear_59 rfl ?_
      refine ih _ ?_
      rw [hI, gx_blk_u (by omega)]
      refine gx_blk_f (fun i hi => ?_)
      by_cases q : i = 72 + 4 * k
      · rw [if_pos q, if_neg (by omega), if_neg (by omega), if_pos (by omega)]
      · rw [if_neg q]
        by_cases q1 : i = 81
        · rw [if_pos q1, if_pos q1]
        · rw [if_neg q1, if_neg q1]
          by_cases q2 : i = 82
          · rw [if_pos q2, if_pos q2]
          · rw [if_neg q2, if_neg q2]
            by_cases q3 : 72 ≤ i ∧ (i - 72) % 4 = 0 ∧ (i - 72) / 4 < k
            · rw [if_pos q3, if_pos (by omega)]
            · rw [if_neg q3, if_neg (by omega)]
    · have hf : M' = gx_blk M 1 0 83 (zs_new n m) := by
        rw [hI]
        refine gx_blk_f (fun i hi => ?_)
        unfold zs_new
        by_cases q1 : i = 81
        · rw [if_pos q1, if_pos q1]
        · rw [if_neg q1, if_neg q1]
          by_cases q2 : i = 82
          · rw [if_pos q2, if_pos q2]
          · rw [if_neg q2, if_neg q2]
            by_cases q3 : 72 ≤ i ∧ (i - 72) % 4 = 0 ∧ (i - 72) / 4 < n.toNat
            · rw [if_pos q3, if_pos (by omega)]
            · rw [if_neg q3, if_neg (by omega)]
      refine gx_iload_n C dX8_clear_39 rfl ?_
      refine gx_iload_n C dX8_clear_40 rfl ?_
      refine gx_icmp_ge C dX8_clear_41 rfl (by unfold gx_3; omega) (by unfold gx_3; omega) (fun hb41 => ?_) (fun hb41 => absurd (by omega) hb41)
      exact gx_vret C dX8_clear_62 hf
