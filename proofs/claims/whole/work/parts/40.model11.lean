section GXB
variable {p : Program} {l : Launch} {e : Env} {R : Room} {s : State} {m : MethodId} {args : Array Value} {below : List Frame} {meth : Method} {c : Code} {cells slots : Nat} {Q : State → Prop}
variable {cc : ByteArray} {own : String} {nL : Nat} {Ts : List Cond} {ret : Option FieldType} {D : va_G} {tc : Nat → ClassId} {ad : Nat → Nat} {La : List gx_K} {A : Nat → Prop} {H0 : Heap}
variable {pc : Nat} {L st : List gx_V} {M : gx_M}
theorem gx_ishl (C : gx_C p R s m args meth c cc own nL Ts ret D tc ad La A H0) {x y v : Int} (d : decode cc pc = .ok (.ishl, 1)) (hv : gx_i x <<< (gx_i y &&& 31) = gx_i v) (k : gx_G p l e R s m args below meth c cells slots Q nL D tc ad La A H0 (pc + 1) L (gx_I v :: st) M) : gx_G p l e R s m args below meth c cells slots Q nL D tc ad La A H0 pc L (gx_I y :: gx_I x :: st) M :=
  fun H locs ls hP hS hl => lv_ishl (gx_hx C) (gx_hb C) d (by rw [hv]; exact k H locs ls hP hS hl)
theorem gx_ior (C : gx_C p R s m args meth c cc own nL Ts ret D tc ad La A H0) {x y v : Int} (d : decode cc pc = .ok (.ior, 1)) (hv : gx_i x ||| gx_i y = gx_i v) (k : gx_G p l e R s m args below meth c cells slots Q nL D tc ad La A H0 (pc + 1) L (gx_I v :: st) M) : gx_G p l e R s m args below meth c cells slots Q nL D tc ad La A H0 pc L (gx_I y :: gx_I x :: st) M :=
  fun H locs ls hP hS hl => lv_ior (gx_hx C) (gx_hb C) d (by rw [hv]; exact k H locs ls hP hS hl)
theorem gx_tabIn (C : gx_C p R s m args meth c cc own nL Ts ret D tc ad La A H0) {x dflt lo hi off : Int} {offs : Array Int} {len tgt : Nat} (d : decode cc pc = .ok (.tableswitch dflt lo hi offs, len)) (hx : gx_3 x) (h1 : lo ≤ x) (h2 : x ≤ hi) (ho : offs[(x - lo).toNat]? = some off) (ht : (pc : Int) + off = (tgt : Int)) (k : gx_G p l e R s m args below meth c cells slots Q nL D tc ad La A H0 tgt L st M) : gx_G p l e R s m args below meth c cells slots Q nL D tc ad La A H0 pc L (gx_I x :: st) M :=
  fun H locs ls hP hS hl => lv_tableIn (gx_hx C) (gx_hb C) d (by rw [gx_toInt hx]; omega) (by rw [gx_toInt hx]; omega) (by rw [gx_toInt hx]; exact ho) ht (k H locs ls hP hS hl)
theorem gx_tabOut (C : gx_C p R s m args meth c cc own nL Ts ret D tc ad La A H0) {x dflt lo hi : Int} {offs : Array Int} {len tgt : Nat} (d : decode cc pc = .ok (.tableswitch dflt lo hi offs, len)) (hx : gx_3 x) (h : x < lo ∨ hi < x) (ht : (pc : Int) + dflt = (tgt : Int)) (k : gx_G p l e R s m args below meth c cells slots Q nL D tc ad La A H0 tgt L st M) : gx_G p l e R s m args below meth c cells slots Q nL D tc ad La A H0 pc L (gx_I x :: st) M :=
  fun H locs ls hP hS hl => lv_tableOut (gx_hx C) (gx_hb C) d (by rw [gx_toInt hx]; exact h) ht (k H locs ls hP hS hl)
end GXB
theorem gx_sh1 : ∀ r : Fin 8, gx_i 1 <<< (gx_i (r.val : Int) &&& 31) = gx_i ((2 ^ r.val : Nat) : Int) := by decide +kernel
set_option maxRecDepth 100000 in
theorem gx_or1 : ∀ r : Fin 8, ∀ x : Fin 256, x.val < 2 ^ r.val → gx_i (x.val : Int) ||| gx_i ((2 ^ r.val : Nat) : Int) = gx_i (((x.val + 2 ^ r.val : Nat) : Int)) := by decide +kernel
set_option maxRecDepth 100000 in
theorem gx_or0 : ∀ x : Fin 256, gx_i (x.val : Int) ||| gx_i 0 = gx_i (x.val : Int) := by decide +kernel
/-- the set of the numbers below N with P, as a number -/
def mx_bit (P : Nat → Prop) : Nat → Int → Prop
  | 0, z => z = 0
  | k + 1, z => ∃ y, mx_bit P k y ∧ ((P k ∧ z = y + ((2 ^ k : Nat) : Int)) ∨ (¬ P k ∧ z = y))
theorem mx_bit_b {P : Nat → Prop} : ∀ k z, mx_bit P k z → 0 ≤ z ∧ z < ((2 ^ k : Nat) : Int)
  | 0, z, h => by
    have : z = 0 := h
    subst this
    decide
  | k + 1, z, h => by
    obtain ⟨y, h1, h2⟩ := h
    have h3 := mx_bit_b k y h1
    have : ((2 ^ (k + 1) : Nat) : Int) = ((2 ^ k : Nat) : Int) + ((2 ^ k : Nat) : Int) := by rw [Nat.pow_succ]; omega
    rcases h2 with ⟨-, h2⟩ | ⟨-, h2⟩ <;> omega
theorem mx_bit_u {P : Nat → Prop} : ∀ k z w, mx_bit P k z → mx_bit P k w → z = w
  | 0, z, w, h, g => by
    have h1 : z = 0 := h
    have g1 : w = 0 := g
    rw [h1, g1]
  | k + 1, z, w, h, g => by
    obtain ⟨y, h1, h2⟩ := h
    obtain ⟨x, g1, g2⟩ := g
    have e := mx_bit_u k y x h1 g1
    subst e
    rcases h2 with ⟨a, h2⟩ | ⟨a, h2⟩ <;> rcases g2 with ⟨b, g2⟩ | ⟨b, g2⟩
    · rw [h2, g2]
    · exact absurd a b
    · exact absurd b a
    · rw [h2, g2]
/-- its own square -/
def zs_sq (s : sp_S) (a : Nat → Int) : Prop := zs_prod s a a = a
def sp_count (s : sp_S) (w : Int) (z : Int) : Prop :=
  if w = 0 then z = s.1 81 else if w = 1 then z = s.1 82 else if w = 2 then mx_bit (fun r => ¬ zs_el s.1 r = fun _ => 0) 8 z else if w = 3 then mx_bit (fun r => zs_sq s (zs_el s.1 r)) 8 z else if w = 4 then z = s.2.2.2.1 else if w = 5 then z = s.2.1.1 else z = -2
set_option maxRecDepth 100000 in
set_option maxHeartbeats 4000000 in
theorem c_X8_registersThat {La : List gx_K} (hM : gm_H La) {M : gx_M} {s : sp_S} (hs : sp_ok s) (hR : sm_R s M) {w : Int} (hw : w = 0 ∨ w = 1) {P : Nat → Prop} (hP : P = if w = 0 then fun r => ¬ zs_el s.1 r = fun _ => 0 else fun r => zs_sq s (zs_el s.1 r)) : gx_Ci La yX8_registersThat wsX8_registersThat 5 [gx_R 0, gx_I w] M (fun z M' => mx_bit P 8 z ∧ gm_X M M') := by
  have hz := sm_Z hs hR
  have hzm := gm_Zm hz
  refine gx_start_i (L := [gx_R 0, gx_I w, gx_U, gx_U, gx_U]) (by decide) rfl rfl (Nat.le_of_ble_eq_true rfl) rfl ?_
  intro _ _ _ _ _ _ _ _ _ _ _ _ C
  refine gx_iconst C dX8_registersThat_0 ?_
  refine gx_istore_n C dX8_registersThat_1 (by decide) rfl ?_
  refine gx_iconst C dX8_registersThat_2 ?_
  refine gx_istore_n C dX8_registersThat_3 (by decide) rfl ?_
  refine gx_for 8 (fun r (q : gx_M × Int) => [gx_R 0, gx_I w, gx_I q.2, gx_I (r : Int), gx_U]) (fun q => q.1) (fun r q => mx_bit P r q.2 ∧ gm_X M q.1) 0 (M, 0) (by omega) ⟨rfl, gm_Xr M⟩ (fun r q hr hI ih => ?_) (fun q hI => ?_)
  · obtain ⟨M', y⟩ := q
    obtain ⟨h1, h2⟩ := hI
    simp only at h1 h2
    have hyb := mx_bit_b r y h1
    have hpw : ((2 ^ r : Nat) : Int) ≤ 128 := by
      rcases (show r = 0 ∨ r = 1 ∨ r = 2 ∨ r = 3 ∨ r = 4 ∨ r = 5 ∨ r = 6 ∨ r = 7 by omega) with rfl | rfl | rfl | rfl | rfl | rfl | rfl | rfl <;> decide
    have oa := zs_el_ok hs.1 (r := r) (by omega)
    have ou := zs_el_ok hs.1 (r := 8) (by omega)
    refine gx_iload_n C dX8_registersThat_4 rfl ?_
    refine gx_bipush C dX8_registersThat_5 rfl ?_
    refine gx_icmp_ge C dX8_registersThat_7 rfl (by unfold gx_3; omega) (by unfold gx_3; omega) (fun hb7 => absurd hb7 (by omega)) (fun hb7 => ?_)
    refine gx_aload_n C dX8_registersThat_10 rfl ?_
    refine gx_iload_n C dX8_registersThat_11 rfl ?_
    refine gx_iconst C dX8_registersThat_12 ?_
    refine gx_callV C 8 rfl (gm_0 hM) (c_X8_loadS hM hs (sm_X hR h2) (r := r) (t := 0) rfl (by omega) (by omega) (by omega)) (cwV 2 (gx_hts C) gX8_registersThat_X8_load rfl rfl rfl (by decide +kernel) ⟨Nat.le_of_ble_eq_true rfl, Nat.le_of_ble_eq_true rfl⟩) rfl rfl (Nat.le_of_ble_eq_true rfl) ⟨Nat.le_refl _, Nat.le_refl _⟩ dX8_registersThat_13 (fun M2 h3 => ?_)
    obtain ⟨g1, g2, g3, g4⟩ := h3
    have X2 := gm_Xt h2 (gm_X6 g4)
    have tail : ∀ (q : Int) (M3 : gx_M), gm_X M M3 → ((q = 1 ∧ P r) ∨ (q = 0 ∧ ¬ P r)) → gx_G _ _ _ _ _ _ _ _ _ _ _ _ _ _ _ _ _ _ _ _ 41 [gx_R 0, gx_I w, gx_I y, gx_I (r : Int), gx_U] [gx_I q] M3 := fun q M3 X3 hq => by
      have ey : y = ((y.toNat : Nat) : Int) := by omega
      rcases hq with ⟨rfl, hq⟩ | ⟨rfl, hq⟩
      · have e1 := gx_sh1 ⟨r, hr⟩
        have e2 : gx_i y ||| gx_i ((2 ^ r : Nat) : Int) = gx_i (y + ((2 ^ r : Nat) : Int)) := by
          have := gx_or1 ⟨r, hr⟩ ⟨y.toNat, by omega⟩ (by show y.toNat < 2 ^ r; omega)
          rw [ey]
          simpa using this
        refine gx_istore C dX8_registersThat_41 (by decide) rfl ?_
        refine gx_iload_n C dX8_registersThat_43 rfl ?_
        refine gx_iload C dX8_registersThat_44 rfl ?_
        refine gx_if_eq C dX8_registersThat_46 rfl (by unfold gx_3; omega) (fun hb46 => absurd hb46 (by omega)) (fun hb46 => ?_)
        refine gx_iconst C dX8_registersThat_49 ?_
        refine gx_iload_n C dX8_registersThat_50 rfl ?_
        refine gx_ishl C dX8_registersThat_51 e1 ?_
        refine gx_goto C dX8_registersThat_52 rfl ?_
        refine gx_ior C dX8_registersThat_56 e2 ?_
        refine gx_istore_n C dX8_registersThat_57 (by decide) rfl ?_
        refine gx_iinc C dX8_registersThat_58 (by decide) rfl rfl ?_
        refine gx_goto C dX8_registersThat_61 rfl ?_
        exact gx_weak (L' := [gx_R 0, gx_I w, gx_I (y + ((2 ^ r : Nat) : Int)), gx_I ((r + 1 : Nat) : Int), gx_U]) ⟨Or.inr rfl, Or.inr rfl, Or.inr rfl, Or.inr rfl, Or.inl rfl, trivial⟩ (ih (M3, y + ((2 ^ r : Nat) : Int)) ⟨⟨y, h1, Or.inl ⟨hq, rfl⟩⟩, X3⟩)
      · have e2 : gx_i y ||| gx_i 0 = gx_i y := by
          have := gx_or0 ⟨y.toNat, by omega⟩
          rw [ey]
          exact this
        refine gx_istore C dX8_registersThat_41 (by decide) rfl ?_
        refine gx_iload_n C dX8_registersThat_43 rfl ?_
        refine gx_iload C dX8_registersThat_44 rfl ?_
        refine gx_if_eq C dX8_registersThat_46 rfl (by unfold gx_3; omega) (fun hb46 => ?_) (fun hb46 => absurd (by omega) hb46)
        refine gx_iconst C dX8_registersThat_55 ?_
        refine gx_ior C dX8_registersThat_56 e2 ?_
        refine gx_istore_n C dX8_registersThat_57 (by decide) rfl ?_
        refine gx_iinc C dX8_registersThat_58 (by decide) rfl rfl ?_
        refine gx_goto C dX8_registersThat_61 rfl ?_
        exact gx_weak (L' := [gx_R 0, gx_I w, gx_I y, gx_I ((r + 1 : Nat) : Int), gx_U]) ⟨Or.inr rfl, Or.inr rfl, Or.inr rfl, Or.inr rfl, Or.inl rfl, trivial⟩ (ih (M3, y) ⟨⟨y, h1, Or.inr ⟨hq, rfl⟩⟩, X3⟩)
    rcases hw with rfl | rfl
    · rw [if_pos rfl] at hP
      refine gx_iload_n C dX8_registersThat_16 rfl ?_
      refine gx_if_eq C dX8_registersThat_17 rfl (by unfold gx_3; omega) (fun hb17 => ?_) (fun hb17 => absurd (by omega) hb17)
      refine gx_aload_n C dX8_registersThat_28 rfl ?_
      refine gx_iconst C dX8_registersThat_29 ?_
      refine gx_callI C 8 rfl (gm_0 hM) (c_X8_isNothing hM (m := s.1 82) (by omega) (a := 0) (by omega) (mx_ok_e g1 oa)) (cwV 1 (gx_hts C) gX8_registersThat_X8_isNothing rfl rfl rfl (by decide +kernel) ⟨Nat.le_of_ble_eq_true rfl, Nat.le_of_ble_eq_true rfl⟩) rfl rfl (Nat.le_of_ble_eq_true rfl) ⟨Nat.le_refl _, Nat.le_refl _⟩ dX8_registersThat_30 (fun z M3 h5 => ?_)
      obtain ⟨rfl, h6, h7⟩ := h5
      rw [g1] at h7
      refine gx_if_ne C dX8_registersThat_33 rfl (by unfold gx_3; omega) (fun hb33 => ?_) (fun hb33 => ?_)
      · refine gx_iconst C dX8_registersThat_40 ?_
        exact tail 0 _ X2 (Or.inr ⟨rfl, by rw [hP]; exact fun q => q (h7.mp (by omega))⟩)
      · refine gx_iconst C dX8_registersThat_36 ?_
        refine gx_goto C dX8_registersThat_37 rfl ?_
        exact tail 1 _ X2 (Or.inl ⟨rfl, by rw [hP]; exact fun q => by have := h7.mpr q; omega⟩)
    · rw [if_neg (by decide)] at hP
      refine gx_iload_n C dX8_registersThat_16 rfl ?_
      refine gx_if_eq C dX8_registersThat_17 rfl (by unfold gx_3; omega) (fun hb17 => absurd hb17 (by omega)) (fun hb17 => ?_)
      refine gx_aload_n C dX8_registersThat_20 rfl ?_
      refine gx_iconst C dX8_registersThat_21 ?_
      refine gx_callI C 8 rfl (gm_0 hM) (c_X8_isOwnSquare hM (sm_Z hs (sm_X hR X2)) (a := 0) (by omega) (by omega) (mx_ok_e g1 oa) (mx_ok_e g2 ou)) (cwV 1 (gx_hts C) gX8_registersThat_X8_isOwnSquare rfl rfl rfl (by decide +kernel) ⟨Nat.le_of_ble_eq_true rfl, Nat.le_of_ble_eq_true rfl⟩) rfl rfl (Nat.le_of_ble_eq_true rfl) ⟨Nat.le_refl _, Nat.le_refl _⟩ dX8_registersThat_22 (fun z M3 h5 => ?_)
      obtain ⟨h6, h7, h8⟩ := h5
      rw [g1, g2] at h7
      refine gx_goto C dX8_registersThat_25 rfl ?_
      refine tail z _ (gm_Xt X2 (gm_X6 h8)) ?_
      rw [hP]
      rcases h6 with h6 | h6
      · exact Or.inr ⟨h6, fun q => by have := h7.mpr q; omega⟩
      · exact Or.inl ⟨h6, h7.mp h6⟩
  · obtain ⟨M', y⟩ := q
    obtain ⟨h1, h2⟩ := hI
    simp only at h1 h2
    refine gx_iload_n C dX8_registersThat_4 rfl ?_
    refine gx_bipush C dX8_registersThat_5 rfl ?_
    refine gx_icmp_ge C dX8_registersThat_7 rfl (by unfold gx_3; omega) (by unfold gx_3; omega) (fun hb7 => ?_) (fun hb7 => absurd (by omega) hb7)
    refine gx_iload_n C dX8_registersThat_64 rfl ?_
    exact gx_iret C dX8_registersThat_65 ⟨h1, h2⟩
set_option maxRecDepth 100000 in
set_option maxHeartbeats 4000000 in
theorem c_X8_count {La : List gx_K} (hM : gm_H La) {M : gx_M} {s : sp_S} (hs : sp_ok s) (hR : sm_R s M) {w : Int} (hw : gx_3 w) : gx_Ci La yX8_count wsX8_count 6 [gx_R 0, gx_I w] M (fun z M' => sp_count s w z ∧ sm_Q s M M') := by
  refine gx_start_i (L := [gx_R 0, gx_I w]) (by decide) rfl rfl (Nat.le_of_ble_eq_true rfl) rfl ?_
  intro _ _ _ _ _ _ _ _ _ _ _ _ C
  refine gx_iload_n C dX8_count_0 rfl ?_
  by_cases hr : 0 ≤ w ∧ w ≤ 5
  · rcases (show w = 0 ∨ w = 1 ∨ w = 2 ∨ w = 3 ∨ w = 4 ∨ w = 5 by omega) with rfl | rfl | rfl | rfl | rfl | rfl
    · refine gx_tabIn (tgt := 40) C dX8_count_1 hw (by decide) (by decide) rfl rfl ?_
      refine gx_aload_n C dX8_count_40 rfl ?_
      refine gx_getR C 8 _ 0 rfl (gm_0 hM) rfl (by decide) nX8_count_8 (gx_hts C _ fX8_count_7) dX8_count_41 ?_
      refine gx_bipush C dX8_count_44 rfl ?_
      refine gx_iaload C (gm_1 hM) (by omega) dX8_count_46 (hR.1 81 (by omega)) ?_
      exact gx_iret C dX8_count_47 ⟨rfl, sm_XQ hR (gm_Xr M)⟩
    · refine gx_tabIn (tgt := 48) C dX8_count_1 hw (by decide) (by decide) rfl rfl ?_
      refine gx_aload_n C dX8_count_48 rfl ?_
      refine gx_getR C 8 _ 0 rfl (gm_0 hM) rfl (by decide) nX8_count_8 (gx_hts C _ fX8_count_7) dX8_count_49 ?_
      refine gx_bipush C dX8_count_52 rfl ?_
      refine gx_iaload C (gm_1 hM) (by omega) dX8_count_54 (hR.1 82 (by omega)) ?_
      exact gx_iret C dX8_count_55 ⟨rfl, sm_XQ hR (gm_Xr M)⟩
    · refine gx_tabIn (tgt := 56) C dX8_count_1 hw (by decide) (by decide) rfl rfl ?_
      refine gx_aload_n C dX8_count_56 rfl ?_
      refine gx_iconst C dX8_count_57 ?_
      refine gx_callI C 8 rfl (gm_0 hM) (c_X8_registersThat hM hs hR (Or.inl rfl) rfl) (cwV 1 (gx_hts C) gX8_count_X8_registersThat rfl rfl rfl (by decide +kernel) ⟨Nat.le_of_ble_eq_true rfl, Nat.le_of_ble_eq_true rfl⟩) rfl rfl (Nat.le_of_ble_eq_true rfl) ⟨Nat.le_refl _, Nat.le_refl _⟩ dX8_count_58 (fun z M1 h1 => ?_)
      exact gx_iret C dX8_count_61 ⟨h1.1, sm_XQ hR h1.2⟩
    · refine gx_tabIn (tgt := 62) C dX8_count_1 hw (by decide) (by decide) rfl rfl ?_
      refine gx_aload_n C dX8_count_62 rfl ?_
      refine gx_iconst C dX8_count_63 ?_
      refine gx_callI C 8 rfl (gm_0 hM) (c_X8_registersThat hM hs hR (Or.inr rfl) rfl) (cwV 1 (gx_hts C) gX8_count_X8_registersThat rfl rfl rfl (by decide +kernel) ⟨Nat.le_of_ble_eq_true rfl, Nat.le_of_ble_eq_true rfl⟩) rfl rfl (Nat.le_of_ble_eq_true rfl) ⟨Nat.le_refl _, Nat.le_refl _⟩ dX8_count_64 (fun z M1 h1 => ?_)
      exact gx_iret C dX8_count_67 ⟨h1.1, sm_XQ hR h1.2⟩
    · refine gx_tabIn (tgt := 68) C dX8_count_1 hw (by decide) (by decide) rfl rfl ?_
      refine gx_aload_n C dX8_count_68 rfl ?_
      refine gx_getI C 8 _ 6 rfl (gm_0 hM) rfl (by decide) nX8_count_8 (gx_hts C _ fX8_count_159) dX8_count_69 hR.2.2.2.2.2.1 ?_
      exact gx_iret C dX8_count_72 ⟨rfl, sm_XQ hR (gm_Xr M)⟩
    · refine gx_tabIn (tgt := 73) C dX8_count_1 hw (by decide) (by decide) rfl rfl ?_
      refine gx_aload_n C dX8_count_73 rfl ?_
      refine gx_getI C 8 _ 4 rfl (gm_0 hM) rfl (by decide) nX8_count_8 (gx_hts C _ fX8_count_53) dX8_count_74 hR.2.1 ?_
      exact gx_iret C dX8_count_77 ⟨rfl, sm_XQ hR (gm_Xr M)⟩
  · refine gx_tabOut (tgt := 78) C dX8_count_1 hw (by omega) rfl ?_
    refine gx_bipush C dX8_count_78 rfl ?_
    exact gx_iret C dX8_count_80 ⟨by unfold sp_count; rw [if_neg (by omega), if_neg (by omega), if_neg (by omega), if_neg (by omega), if_neg (by omega), if_neg (by omega)], sm_XQ hR (gm_Xr M)⟩
