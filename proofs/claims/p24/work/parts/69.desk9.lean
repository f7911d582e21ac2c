section GXB
variable {p : Program} {l : Launch} {e : Env} {R : Room} {s : State} {m : MethodId} {args : Array Value} {below : List Frame} {meth : Method} {c : Code} {cells slots : Nat} {Q : State → Prop}
variable {cc : ByteArray} {own : String} {nL : Nat} {Ts : List Cond} {ret : Option FieldType} {D : va_G} {tc : Nat → ClassId} {ad : Nat → Nat} {La : List gx_K} {A : Nat → Prop} {H0 : Heap}
variable {pc : Nat} {L st : List gx_V} {M : gx_M}
theorem gx_ishr (C : gx_C p R s m args meth c cc own nL Ts ret D tc ad La A H0) {x y v : Int} (d : decode cc pc = .ok (.ishr, 1)) (hv : gx_i x >>> (gx_i y &&& 31) = gx_i v) (k : gx_G p l e R s m args below meth c cells slots Q nL D tc ad La A H0 (pc + 1) L (gx_I v :: st) M) : gx_G p l e R s m args below meth c cells slots Q nL D tc ad La A H0 pc L (gx_I y :: gx_I x :: st) M :=
  fun H locs ls hP hS hl => lv_ishr (gx_hx C) (gx_hb C) d (by rw [hv]; exact k H locs ls hP hS hl)
theorem gx_iand (C : gx_C p R s m args meth c cc own nL Ts ret D tc ad La A H0) {x y v : Int} (d : decode cc pc = .ok (.iand, 1)) (hv : gx_i x &&& gx_i y = gx_i v) (k : gx_G p l e R s m args below meth c cells slots Q nL D tc ad La A H0 (pc + 1) L (gx_I v :: st) M) : gx_G p l e R s m args below meth c cells slots Q nL D tc ad La A H0 pc L (gx_I y :: gx_I x :: st) M :=
  fun H locs ls hP hS hl => lv_iand (gx_hx C) (gx_hb C) d (by rw [hv]; exact k H locs ls hP hS hl)
end GXB
theorem gx_bvn {x : Nat} (h : x < 2 ^ 31) : (gx_i (x : Int)).toBitVec.toNat = x := by
  show (BitVec.ofInt 32 (x : Int)).toNat = x
  rw [BitVec.toNat_ofInt]
  omega
theorem gx_shr {x : Nat} (h : x ≤ 2000) : ∀ k : Nat, k < 11 → gx_i (x : Int) >>> (gx_i (k : Int) &&& 31) = gx_i ((x / 2 ^ k : Nat) : Int) := fun k hk => by
  have h1 : ∀ j : Fin 11, ((gx_i (j.val : Int) &&& 31).toBitVec.smod 32).toNat = j.val := by decide +kernel
  apply Int32.toBitVec_inj.1
  apply BitVec.eq_of_toNat_eq
  show (BitVec.sshiftRight (gx_i (x : Int)).toBitVec ((gx_i (k : Int) &&& 31).toBitVec.smod 32).toNat).toNat = _
  rw [h1 ⟨k, hk⟩, BitVec.sshiftRight_eq_of_msb_false, BitVec.toNat_ushiftRight, gx_bvn (by omega), Nat.shiftRight_eq_div_pow, gx_bvn]
  · exact Nat.lt_of_le_of_lt (Nat.div_le_self _ _) (by omega)
  · rw [BitVec.msb_eq_false_iff_two_mul_lt, gx_bvn (by omega)]
    omega
theorem gx_and1 {x : Nat} (h : x ≤ 2000) : gx_i (x : Int) &&& gx_i 1 = gx_i ((x % 2 : Nat) : Int) := by
  apply Int32.toBitVec_inj.1
  apply BitVec.eq_of_toNat_eq
  rw [Int32.toBitVec_and, BitVec.toNat_and, gx_bvn (by omega), gx_bvn (by omega)]
  show x &&& 1 = x % 2
  exact Nat.and_one_is_mod x
/-- the algebra's size and modulus, its base and its unit -/
def ga_A (n m : Int) (U V : Nat → Int) (M : gx_M) : Prop := M 46 0 = n ∧ M 46 1 = m ∧ mx_of (M 56) 0 = U ∧ mx_of (M 57) 0 = V ∧ (n = 2 ∨ n = 3) ∧ (3 ≤ m ∧ m ≤ 11) ∧ mx_ok m U ∧ mx_ok m V
theorem ga_Af {n m : Int} {U V : Nat → Int} {M M' : gx_M} (h : ga_A n m U V M) (e : ∀ c, c = 46 ∨ c = 56 ∨ c = 57 → M' c = M c) : ga_A n m U V M' := by
  unfold ga_A
  rw [e 46 (by omega), e 56 (by omega), e 57 (by omega)]
  exact h
theorem mc_prod_ok {m : Int} (h : 3 ≤ m) (u a b : Nat → Int) : mx_ok m (mc_prod m u a b) := mx_sym_ok h _
theorem mc_trip_ok {m : Int} (h : 3 ≤ m) (u a b c : Nat → Int) : mx_ok m (mc_trip m u a b c) := mx_sym_ok h _
set_option maxRecDepth 100000 in
set_option maxHeartbeats 4000000 in
theorem c_X0_isOwnSquare {La : List gx_K} (hL : gd_H La) {M : gx_M} {n m : Int} {U V : Nat → Int} (hA : ga_A n m U V M) {a : Nat} (ha : gd_9 La a) (na : 35 ≤ a) (oa : mx_ok m (mx_of (M a) 0)) : gx_Ci La yX0_isOwnSquare wsX0_isOwnSquare 3 [gx_R 13, gx_R a] M (fun z M' => (z = 0 ∨ z = 1) ∧ (z = 1 ↔ mc_prod m U (mx_of (M a) 0) (mx_of (M a) 0) = mx_of (M a) 0) ∧ ga_O 33 M M') := by
  obtain ⟨a0, a1, rfl, rfl, a4, a5, a6, a7⟩ := hA
  refine gx_start_i (L := [gx_R 13, gx_R a]) (by decide) rfl rfl (Nat.le_of_ble_eq_true rfl) rfl ?_
  intro _ _ _ _ _ _ _ _ _ _ _ _ C
  refine gx_aload_n C dX0_isOwnSquare_0 rfl ?_
  refine gx_aload_n C dX0_isOwnSquare_1 rfl ?_
  refine gx_aload_n C dX0_isOwnSquare_2 rfl ?_
  refine gx_aload_n C dX0_isOwnSquare_3 rfl ?_
  refine gx_getR C 0 _ 7 rfl (gd_13 hL) rfl (by decide) nX0_isOwnSquare_0 (gx_hts C _ fX0_isOwnSquare_43) dX0_isOwnSquare_4 ?_
  refine gx_callV C 0 rfl (gd_13 hL) (c_X0_product hL a5 a1 ha ha (gd_33 hL) (by omega) (by omega) (by decide) oa oa a6) (cwV 3 (gx_hts C) gX0_isOwnSquare_X0_product rfl rfl rfl (by decide +kernel) ⟨Nat.le_of_ble_eq_true rfl, Nat.le_of_ble_eq_true rfl⟩) rfl rfl (Nat.le_of_ble_eq_true rfl) ⟨Nat.le_refl _, Nat.le_refl _⟩ dX0_isOwnSquare_7 (fun P h2 => ?_)
  obtain ⟨p1, p2⟩ := h2
  have ea : mx_of (P a) 0 = mx_of (M a) 0 := by rw [p2 a (by omega) (by omega) (by omega)]
  refine gx_aload_n C dX0_isOwnSquare_10 rfl ?_
  refine gx_getR C 0 _ 7 rfl (gd_13 hL) rfl (by decide) nX0_isOwnSquare_0 (gx_hts C _ fX0_isOwnSquare_43) dX0_isOwnSquare_11 ?_
  refine gx_aload_n C dX0_isOwnSquare_14 rfl ?_
  refine gx_statIN C (c_X7_same (m := m) a5.2 (gd_33 hL) ha (by rw [p1]; exact mc_prod_ok a5.1 _ _ _) (by rw [ea]; exact oa)) (⟨va_cnB 2 (gx_hts C) gX0_isOwnSquare_X7_same_n116 rfl rfl rfl ((gx_hN C).2 ("PeirceDesk$Algebra", 116, yX7_same, "PeirceDesk") (by decide +kernel)) ((gx_hts C) (.initialized RX7) (by decide +kernel)) (by decide +kernel) ⟨Nat.le_of_ble_eq_true rfl, Nat.le_of_ble_eq_true rfl⟩, (gx_hts C) (.static yX7_same) (by decide +kernel), trivial⟩) rfl rfl (Nat.le_of_ble_eq_true rfl) ⟨Nat.le_refl _, Nat.le_refl _⟩ dX0_isOwnSquare_15 (fun z P2 h3 => ?_)
  rw [p1, ea] at h3
  obtain ⟨rfl, h4, h5⟩ := h3
  exact gx_zret C (by omega) dX0_isOwnSquare_18 ⟨h4, h5, p2⟩
/-- the class's powers -/
def mc_po (m : Int) (u a b : Nat → Int) : Nat → Nat → Int
  | 0 => b
  | k + 1 => mc_prod m u (mc_po m u a b k) a
theorem mc_po_ok {m : Int} (h : 3 ≤ m) {u a b : Nat → Int} (ob : mx_ok m b) : ∀ k, mx_ok m (mc_po m u a b k)
  | 0 => ob
  | _ + 1 => mc_prod_ok h _ _ _
/-- powers by squares -/
def mc_rs (m : Int) (u v a : Nat → Int) (N : Nat) : Nat → (Nat → Int) × (Nat → Int)
  | 0 => (v, a)
  | k + 1 => (if N / 2 ^ k % 2 = 1 then mc_prod m u (mc_rs m u v a N k).1 (mc_rs m u v a N k).2 else (mc_rs m u v a N k).1, mc_prod m u (mc_rs m u v a N k).2 (mc_rs m u v a N k).2)
theorem mc_rs_ok {m : Int} (h : 3 ≤ m) {u v a : Nat → Int} (ov : mx_ok m v) (oa : mx_ok m a) {N : Nat} : ∀ k, mx_ok m (mc_rs m u v a N k).1 ∧ mx_ok m (mc_rs m u v a N k).2
  | 0 => ⟨ov, oa⟩
  | k + 1 => ⟨by
      show mx_ok m (if N / 2 ^ k % 2 = 1 then _ else _)
      split
      · exact mc_prod_ok h _ _ _
      · exact (mc_rs_ok h ov oa k).1, mc_prod_ok h _ _ _⟩
set_option maxRecDepth 100000 in
set_option maxHeartbeats 4000000 in
theorem c_X0_raise {La : List gx_K} (hL : gd_H La) {M : gx_M} {n m : Int} {U V : Nat → Int} (hA : ga_A n m U V M) {a : Nat} (ha : gd_9 La a) (na : 46 ≤ a) (oa : mx_ok m (mx_of (M a) 0)) {N : Nat} (hN : N ≤ 2000) : gx_Cv La yX0_raise wsX0_raise 3 [gx_R 13, gx_R a, gx_I N] M (fun M' => mx_of (M' 29) 0 = (mc_rs m U V (mx_of (M a) 0) N 11).1 ∧ ∀ c, c ≠ 29 → c ≠ 31 → c ≠ 32 → c ≠ 33 → M' c = M c) := by
  refine gx_start_v (L := [gx_R 13, gx_R a, gx_I N, gx_U]) (by decide) rfl rfl (Nat.le_of_ble_eq_true rfl) rfl ?_
  intro _ _ _ _ _ _ _ _ _ _ _ _ C
  refine gx_aload_n C dX0_raise_0 rfl ?_
  refine gx_callR C 0 rfl (gd_13 hL) (c_X0_unit hL) (cwV 0 (gx_hts C) gX0_raise_X0_unit rfl rfl rfl (by decide +kernel) ⟨Nat.le_of_ble_eq_true rfl, Nat.le_of_ble_eq_true rfl⟩) rfl rfl (Nat.le_of_ble_eq_true rfl) ⟨Nat.le_refl _, Nat.le_refl _⟩ dX0_raise_1 (fun u P h5 => ?_)
  obtain ⟨rfl, rfl⟩ := h5
  refine gx_aload_n C dX0_raise_4 rfl ?_
  refine gx_getR C 0 _ 3 rfl (gd_13 hL) rfl (by decide) nX0_raise_0 (gx_hts C _ fX0_raise_30) dX0_raise_5 ?_
  refine gx_statVN C (c_X7_copy (gd_57 hL) (gd_29 hL)) (⟨va_cnB 2 (gx_hts C) gX0_raise_X7_copy_n110 rfl rfl rfl ((gx_hN C).2 ("PeirceDesk$Algebra", 110, yX7_copy, "PeirceDesk") (by decide +kernel)) ((gx_hts C) (.initialized RX7) (by decide +kernel)) (by decide +kernel) ⟨Nat.le_of_ble_eq_true rfl, Nat.le_of_ble_eq_true rfl⟩, (gx_hts C) (.static yX7_copy) (by decide +kernel), trivial⟩) rfl rfl (Nat.le_of_ble_eq_true rfl) ⟨Nat.le_refl _, Nat.le_refl _⟩ dX0_raise_8 (fun P1 h1 => ?_)
  have ea : mx_of (P1 a) 0 = mx_of (P a) 0 := by rw [h1, gx_blk_nc (by omega)]
  have e29 : mx_of (P1 29) 0 = V := by rw [h1, mx_of_cp]; exact hA.2.2.2.1
  refine gx_aload_n C dX0_raise_11 rfl ?_
  refine gx_aload_n C dX0_raise_12 rfl ?_
  refine gx_getR C 0 _ 7 rfl (gd_13 hL) rfl (by decide) nX0_raise_0 (gx_hts C _ fX0_raise_43) dX0_raise_13 ?_
  refine gx_statVN C (c_X7_copy ha (gd_33 hL)) (⟨va_cnB 2 (gx_hts C) gX0_raise_X7_copy_n110 rfl rfl rfl ((gx_hN C).2 ("PeirceDesk$Algebra", 110, yX7_copy, "PeirceDesk") (by decide +kernel)) ((gx_hts C) (.initialized RX7) (by decide +kernel)) (by decide +kernel) ⟨Nat.le_of_ble_eq_true rfl, Nat.le_of_ble_eq_true rfl⟩, (gx_hts C) (.static yX7_copy) (by decide +kernel), trivial⟩) rfl rfl (Nat.le_of_ble_eq_true rfl) ⟨Nat.le_refl _, Nat.le_refl _⟩ dX0_raise_16 (fun P2 h2 => ?_)
  have e33 : mx_of (P2 33) 0 = mx_of (P a) 0 := by rw [h2, mx_of_cp, ea]
  have e29' : mx_of (P2 29) 0 = V := by rw [h2, gx_blk_nc (by decide)]; exact e29
  refine gx_iconst C dX0_raise_19 ?_
  refine gx_istore_n C dX0_raise_20 (by decide) rfl ?_
  refine gx_for 11 (fun k (_ : gx_M) => [gx_R 13, gx_R a, gx_I N, gx_I (k : Int)]) (fun Q => Q) (fun k Q => mx_of (Q 29) 0 = (mc_rs m U V (mx_of (P a) 0) N k).1 ∧ mx_of (Q 33) 0 = (mc_rs m U V (mx_of (P a) 0) N k).2 ∧ ∀ c, c ≠ 29 → c ≠ 31 → c ≠ 32 → c ≠ 33 → Q c = P c) 0 P2 (by omega) ⟨e29', e33, fun c c1 _ _ c2 => by rw [h2, gx_blk_nc c2, h1, gx_blk_nc c1]⟩ (fun k Q hk hI ih => ?_) (fun Q hI => ?_)
  · obtain ⟨i1, i2, i3⟩ := hI
    obtain ⟨o1, o2⟩ := mc_rs_ok (u := U) hA.2.2.2.2.2.1.1 hA.2.2.2.2.2.2.2 oa (N := N) k
    have hs2 : (mc_rs m U V (mx_of (P a) 0) N (k + 1)).2 = mc_prod m U (mc_rs m U V (mx_of (P a) 0) N k).2 (mc_rs m U V (mx_of (P a) 0) N k).2 := rfl
    have hs1 : (mc_rs m U V (mx_of (P a) 0) N (k + 1)).1 = if N / 2 ^ k % 2 = 1 then mc_prod m U (mc_rs m U V (mx_of (P a) 0) N k).1 (mc_rs m U V (mx_of (P a) 0) N k).2 else (mc_rs m U V (mx_of (P a) 0) N k).1 := rfl
    have hAQ : ga_A n m U V Q := ga_Af hA (fun c hc => i3 c (by omega) (by omega) (by omega) (by omega))
    have hd1 : N / 2 ^ k ≤ 2000 := Nat.le_trans (Nat.div_le_self _ _) hN
    have hd2 : N / 2 ^ k % 2 < 2 := Nat.mod_lt _ (by decide)
    refine gx_iload_n C dX0_raise_21 rfl ?_
    refine gx_bipush C dX0_raise_22 rfl ?_
    refine gx_icmp_ge C dX0_raise_24 rfl (by unfold gx_3; omega) (by unfold gx_3; omega) (fun hb24 => absurd hb24 (by omega)) (fun hb24 => ?_)
    refine gx_iload_n C dX0_raise_27 rfl ?_
    refine gx_iload_n C dX0_raise_28 rfl ?_
    refine gx_ishr C dX0_raise_29 (gx_shr hN k hk) ?_
    refine gx_iconst C dX0_raise_30 ?_
    refine gx_iand C dX0_raise_31 (gx_and1 hd1) ?_
    refine gx_iconst C dX0_raise_32 ?_
    refine gx_cut 52 (fun (_ : gx_M) => [gx_R 13, gx_R a, gx_I N, gx_I (k : Int)]) (fun _ => []) (fun Q2 => Q2) (fun Q2 => mx_of (Q2 29) 0 = (mc_rs m U V (mx_of (P a) 0) N (k + 1)).1 ∧ mx_of (Q2 33) 0 = (mc_rs m U V (mx_of (P a) 0) N k).2 ∧ ∀ c, c ≠ 29 → c ≠ 31 → c ≠ 32 → c ≠ 33 → Q2 c = P c) (fun Q2 hQ => ?_) (fun fin => ?_)
    · obtain ⟨j1, j2, j3⟩ := hQ
      have hA2 : ga_A n m U V Q2 := ga_Af hA (fun c hc => j3 c (by omega) (by omega) (by omega) (by omega))
      obtain ⟨a0, a1, a2, a3, a4, a5, a6, a7⟩ := hA2
      refine gx_aload_n C dX0_raise_52 rfl ?_
      refine gx_aload_n C dX0_raise_53 rfl ?_
      refine gx_getR C 0 _ 7 rfl (gd_13 hL) rfl (by decide) nX0_raise_0 (gx_hts C _ fX0_raise_43) dX0_raise_54 ?_
      refine gx_aload_n C dX0_raise_57 rfl ?_
      refine gx_getR C 0 _ 7 rfl (gd_13 hL) rfl (by decide) nX0_raise_0 (gx_hts C _ fX0_raise_43) dX0_raise_58 ?_
      refine gx_aload_n C dX0_raise_61 rfl ?_
      refine gx_getR C 0 _ 7 rfl (gd_13 hL) rfl (by decide) nX0_raise_0 (gx_hts C _ fX0_raise_43) dX0_raise_62 ?_
      refine gx_callV C 0 rfl (gd_13 hL) (c_X0_product hL a5 a1 (gd_33 hL) (gd_33 hL) (gd_33 hL) (by decide) (by decide) (by decide) (by rw [j2]; exact o2) (by rw [j2]; exact o2) (by rw [a2]; exact a6)) (cwV 3 (gx_hts C) gX0_raise_X0_product rfl rfl rfl (by decide +kernel) ⟨Nat.le_of_ble_eq_true rfl, Nat.le_of_ble_eq_true rfl⟩) rfl rfl (Nat.le_of_ble_eq_true rfl) ⟨Nat.le_refl _, Nat.le_refl _⟩ dX0_raise_65 (fun P3 h6 => ?_)
      obtain ⟨p1, p2⟩ := h6
      rw [a2, j2] at p1
      refine gx_iinc C dX0_raise_68 (by decide) rfl rfl ?_
      refine gx_goto C dX0_raise_71 rfl ?_
      exact ih P3 ⟨by rw [p2 29 (by decide) (by decide) (by decide)]; exact j1, p1, fun c c1 c2 c3 c4 => by rw [p2 c c2 c3 c4]; exact j3 c c1 c2 c3 c4⟩
    · refine gx_icmp_ne C dX0_raise_33 rfl (by unfold gx_3; omega) (by unfold gx_3; omega) (fun hb33 => ?_) (fun hb33 => ?_)
      · exact fin Q ⟨by rw [hs1, if_neg (by omega)]; exact i1, i2, i3⟩
      · obtain ⟨a0, a1, a2, a3, a4, a5, a6, a7⟩ := hAQ
        refine gx_aload_n C dX0_raise_36 rfl ?_
        refine gx_aload_n C dX0_raise_37 rfl ?_
        refine gx_getR C 0 _ 3 rfl (gd_13 hL) rfl (by decide) nX0_raise_0 (gx_hts C _ fX0_raise_30) dX0_raise_38 ?_
        refine gx_aload_n C dX0_raise_41 rfl ?_
        refine gx_getR C 0 _ 7 rfl (gd_13 hL) rfl (by decide) nX0_raise_0 (gx_hts C _ fX0_raise_43) dX0_raise_42 ?_
        refine gx_aload_n C dX0_raise_45 rfl ?_
        refine gx_getR C 0 _ 3 rfl (gd_13 hL) rfl (by decide) nX0_raise_0 (gx_hts C _ fX0_raise_30) dX0_raise_46 ?_
        refine gx_callV C 0 rfl (gd_13 hL) (c_X0_product hL a5 a1 (gd_29 hL) (gd_33 hL) (gd_29 hL) (by decide) (by decide) (by decide) (by rw [i1]; exact o1) (by rw [i2]; exact o2) (by rw [a2]; exact a6)) (cwV 3 (gx_hts C) gX0_raise_X0_product rfl rfl rfl (by decide +kernel) ⟨Nat.le_of_ble_eq_true rfl, Nat.le_of_ble_eq_true rfl⟩) rfl rfl (Nat.le_of_ble_eq_true rfl) ⟨Nat.le_refl _, Nat.le_refl _⟩ dX0_raise_49 (fun P3 h6 => ?_)
        obtain ⟨p1, p2⟩ := h6
        rw [a2, i1, i2] at p1
        exact fin P3 ⟨by rw [hs1, if_pos (by omega)]; exact p1, by rw [p2 33 (by decide) (by decide) (by decide)]; exact i2, fun c c1 c2 c3 c4 => by rw [p2 c c2 c3 c1]; exact i3 c c1 c2 c3 c4⟩
  · refine gx_iload_n C dX0_raise_21 rfl ?_
    refine gx_bipush C dX0_raise_22 rfl ?_
    refine gx_icmp_ge C dX0_raise_24 rfl (by unfold gx_3; omega) (by unfold gx_3; omega) (fun hb24 => ?_) (fun hb24 => absurd (by omega) hb24)
    exact gx_vret C dX0_raise_74 ⟨hI.1, hI.2.2⟩
set_option maxRecDepth 100000 in
set_option maxHeartbeats 4000000 in
theorem c_X0_leastZeroPower {La : List gx_K} (hL : gd_H La) {M : gx_M} {n m : Int} {U V : Nat → Int} (hA : ga_A n m U V M) {a : Nat} (ha : gd_9 La a) (na : 46 ≤ a) (oa : mx_ok m (mx_of (M a) 0)) : gx_Ci La yX0_leastZeroPower wsX0_leastZeroPower 3 [gx_R 13, gx_R a] M (fun z M' => mx_fst (fun k => mc_po m U (mx_of (M a) 0) (mx_of (M a) 0) k = fun _ => 0) 10 z ∧ ∀ c, c ≠ 29 → c ≠ 31 → c ≠ 32 → M' c = M c) := by
  refine gx_start_i (L := [gx_R 13, gx_R a, gx_U]) (by decide) rfl rfl (Nat.le_of_ble_eq_true rfl) rfl ?_
  intro _ _ _ _ _ _ _ _ _ _ _ _ C
  refine gx_aload_n C dX0_leastZeroPower_0 rfl ?_
  refine gx_aload_n C dX0_leastZeroPower_1 rfl ?_
  refine gx_getR C 0 _ 3 rfl (gd_13 hL) rfl (by decide) nX0_leastZeroPower_0 (gx_hts C _ fX0_leastZeroPower_30) dX0_leastZeroPower_2 ?_
  refine gx_statVN C (c_X7_copy ha (gd_29 hL)) (⟨va_cnB 2 (gx_hts C) gX0_leastZeroPower_X7_copy_n110 rfl rfl rfl ((gx_hN C).2 ("PeirceDesk$Algebra", 110, yX7_copy, "PeirceDesk") (by decide +kernel)) ((gx_hts C) (.initialized RX7) (by decide +kernel)) (by decide +kernel) ⟨Nat.le_of_ble_eq_true rfl, Nat.le_of_ble_eq_true rfl⟩, (gx_hts C) (.static yX7_copy) (by decide +kernel), trivial⟩) rfl rfl (Nat.le_of_ble_eq_true rfl) ⟨Nat.le_refl _, Nat.le_refl _⟩ dX0_leastZeroPower_5 (fun P1 h1 => ?_)
  have e29 : mx_of (P1 29) 0 = mx_of (M a) 0 := by rw [h1]; exact mx_of_cp
  refine gx_iconst C dX0_leastZeroPower_8 ?_
  refine gx_istore_n C dX0_leastZeroPower_9 (by decide) rfl ?_
  refine gx_for 10 (fun k (_ : gx_M) => [gx_R 13, gx_R a, gx_I ((k : Int) + 1)]) (fun Q => Q) (fun k Q => mx_of (Q 29) 0 = mc_po m U (mx_of (M a) 0) (mx_of (M a) 0) k ∧ (∀ j, j < k → ¬ mc_po m U (mx_of (M a) 0) (mx_of (M a) 0) j = fun _ => 0) ∧ ∀ c, c ≠ 29 → c ≠ 31 → c ≠ 32 → Q c = M c) 0 P1 (by omega) ⟨e29, fun j hj => absurd hj (Nat.not_lt_zero j), fun c c1 _ _ => by rw [h1, gx_blk_nc c1]⟩ (fun k Q hk hI ih => ?_) (fun Q hI => ?_)
  · obtain ⟨i1, i2, i3⟩ := hI
    have hAQ : ga_A n m U V Q := ga_Af hA (fun c hc => i3 c (by omega) (by omega) (by omega))
    obtain ⟨a0, a1, a2, a3, a4, a5, a6, a7⟩ := hAQ
    have o1 := mc_po_ok a5.1 (u := U) (a := mx_of (M a) 0) oa k
    have eQ : mx_of (Q a) 0 = mx_of (M a) 0 := by rw [i3 a (by omega) (by omega) (by omega)]
    refine gx_iload_n C dX0_leastZeroPower_10 rfl ?_
    refine gx_bipush C dX0_leastZeroPower_11 rfl ?_
    refine gx_icmp_gt C dX0_leastZeroPower_13 rfl (by unfold gx_3; omega) (by unfold gx_3; omega) (fun hb13 => absurd hb13 (by omega)) (fun hb13 => ?_)
    refine gx_aload_n C dX0_leastZeroPower_16 rfl ?_
    refine gx_getR C 0 _ 3 rfl (gd_13 hL) rfl (by decide) nX0_leastZeroPower_0 (gx_hts C _ fX0_leastZeroPower_30) dX0_leastZeroPower_17 ?_
    refine gx_statIN C (c_X7_isZero (m := m) a5.2 (gd_29 hL) (by rw [i1]; exact o1)) (⟨va_cnB 1 (gx_hts C) gX0_leastZeroPower_X7_isZero_n123 rfl rfl rfl ((gx_hN C).2 ("PeirceDesk$Algebra", 123, yX7_isZero, "PeirceDesk") (by decide +kernel)) ((gx_hts C) (.initialized RX7) (by decide +kernel)) (by decide +kernel) ⟨Nat.le_of_ble_eq_true rfl, Nat.le_of_ble_eq_true rfl⟩, (gx_hts C) (.static yX7_isZero) (by decide +kernel), trivial⟩) rfl rfl (Nat.le_of_ble_eq_true rfl) ⟨Nat.le_refl _, Nat.le_refl _⟩ dX0_leastZeroPower_20 (fun z Q2 h3 => ?_)
    obtain ⟨rfl, h4, h5⟩ := h3
    rw [i1] at h5
    refine gx_if_eq C dX0_leastZeroPower_23 rfl (by unfold gx_3; omega) (fun hb23 => ?_) (fun hb23 => ?_)
    · refine gx_aload_n C dX0_leastZeroPower_28 rfl ?_
      refine gx_aload_n C dX0_leastZeroPower_29 rfl ?_
      refine gx_getR C 0 _ 3 rfl (gd_13 hL) rfl (by decide) nX0_leastZeroPower_0 (gx_hts C _ fX0_leastZeroPower_30) dX0_leastZeroPower_30 ?_
      refine gx_aload_n C dX0_leastZeroPower_33 rfl ?_
      refine gx_aload_n C dX0_leastZeroPower_34 rfl ?_
      refine gx_getR C 0 _ 3 rfl (gd_13 hL) rfl (by decide) nX0_leastZeroPower_0 (gx_hts C _ fX0_leastZeroPower_30) dX0_leastZeroPower_35 ?_
      refine gx_callV C 0 rfl (gd_13 hL) (c_X0_product hL a5 a1 (gd_29 hL) ha (gd_29 hL) (by decide) (by omega) (by decide) (by rw [i1]; exact o1) (by rw [eQ]; exact oa) (by rw [a2]; exact a6)) (cwV 3 (gx_hts C) gX0_leastZeroPower_X0_product rfl rfl rfl (by decide +kernel) ⟨Nat.le_of_ble_eq_true rfl, Nat.le_of_ble_eq_true rfl⟩) rfl rfl (Nat.le_of_ble_eq_true rfl) ⟨Nat.le_refl _, Nat.le_refl _⟩ dX0_leastZeroPower_38 (fun P3 h6 => ?_)
      obtain ⟨p1, p2⟩ := h6
      rw [a2, i1, eQ] at p1
      refine gx_iinc C dX0_leastZeroPower_41 (by decide) rfl rfl ?_
      refine gx_goto C dX0_leastZeroPower_44 rfl ?_
      refine gx_weak (L' := [gx_R 13, gx_R a, gx_I (((k + 1 : Nat) : Int) + 1)]) ⟨Or.inr rfl, Or.inr rfl, Or.inr (by rw [Int.natCast_add]; rfl), trivial⟩ (ih P3 ⟨p1, fun j hj => ?_, fun c c1 c2 c3 => by rw [p2 c c2 c3 c1]; exact i3 c c1 c2 c3⟩)
      rcases (show j < k ∨ j = k by omega) with g | g
      · exact i2 j g
      · rw [g]
        exact fun e => absurd (h5.mpr e) (by omega)
    · refine gx_iload_n C dX0_leastZeroPower_26 rfl ?_
      exact gx_iret C dX0_leastZeroPower_27 ⟨Or.inl ⟨k, hk, h5.mp (by omega), i2, rfl⟩, i3⟩
  · refine gx_iload_n C dX0_leastZeroPower_10 rfl ?_
    refine gx_bipush C dX0_leastZeroPower_11 rfl ?_
    refine gx_icmp_gt C dX0_leastZeroPower_13 rfl (by unfold gx_3; omega) (by unfold gx_3; omega) (fun hb13 => ?_) (fun hb13 => absurd (by omega) hb13)
    refine gx_bipush C dX0_leastZeroPower_47 rfl ?_
    exact gx_iret C dX0_leastZeroPower_49 ⟨Or.inr ⟨hI.2.1, rfl⟩, hI.2.2⟩
