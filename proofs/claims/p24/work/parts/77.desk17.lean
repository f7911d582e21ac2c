/-! a frame -/
theorem gd_F1 {La : List gx_K} {c : Nat} (h : gd_F La c) : gd_9 La (c + 1) := h.2 0 (by decide)
theorem gd_F2 {La : List gx_K} {c : Nat} (h : gd_F La c) : gd_9 La (c + 2) := h.2 1 (by decide)
theorem gd_F3 {La : List gx_K} {c : Nat} (h : gd_F La c) : gd_9 La (c + 3) := h.2 2 (by decide)
abbrev fr_S : Type := ((Nat → Int) × (Nat → Int) × (Nat → Int)) × (Nat × Int × Int × Int × Int)
/-- sum, first, second; arguments, kind, place, sign, times -/
def fr_R (f : fr_S) (c : Nat) (M : gx_M) : Prop := mx_of (M (c + 1)) 0 = f.1.1 ∧ mx_of (M (c + 2)) 0 = f.1.2.1 ∧ mx_of (M (c + 3)) 0 = f.1.2.2 ∧ M c 3 = (f.2.1 : Int) ∧ M c 4 = f.2.2.1 ∧ M c 5 = f.2.2.2.1 ∧ M c 6 = f.2.2.2.2.1 ∧ M c 7 = f.2.2.2.2.2
def fr_O (c : Nat) (M M' : gx_M) : Prop := ∀ c', (c' < c ∨ c + 4 ≤ c') → M' c' = M c'
def fr_st (f : fr_S) : fr_S := ((fun _ => 0, f.1.2.1, f.1.2.2), (f.2.1, f.2.2.1, f.2.2.2.1, 1, 1))
set_option maxRecDepth 100000 in
set_option maxHeartbeats 4000000 in
theorem c_X1_startSum {La : List gx_K} {c : Nat} (hF : gd_F La c) {M : gx_M} {f : fr_S} (hR : fr_R f c M) : gx_Cv La yX1_startSum wsX1_startSum 0 [gx_R c] M (fun M' => fr_R (fr_st f) c M' ∧ fr_O c M M') := by
  obtain ⟨r1, r2, r3, r4, r5, r6, r7, r8⟩ := hR
  refine gx_start_v (L := [gx_R c, gx_U]) (by decide) rfl rfl (Nat.le_of_ble_eq_true rfl) rfl ?_
  intro _ _ _ _ _ _ _ _ _ _ _ _ C
  refine gx_iconst C dX1_startSum_0 ?_
  refine gx_istore_n C dX1_startSum_1 (by decide) rfl ?_
  refine gx_for 9 (fun k (_ : gx_M) => [gx_R c, gx_I (k : Int)]) (fun P => P) (fun k P => P = gx_blk M (c + 1) 0 k (fun _ => 0)) 0 M (by omega) gx_blk_0.symm (fun k P hk hI ih => ?_) (fun P hI => ?_)
  · refine gx_iload_n C dX1_startSum_2 rfl ?_
    refine gx_bipush C dX1_startSum_3 rfl ?_
    refine gx_icmp_ge C dX1_startSum_5 rfl (by unfold gx_3; omega) (by unfold gx_3; omega) (fun hb5 => absurd hb5 (by omega)) (fun hb5 => ?_)
    refine gx_aload_n C dX1_startSum_8 rfl ?_
    refine gx_getR C 1 _ 0 rfl hF.1 rfl (by decide) nX1_startSum_1 (gx_hts C _ fX1_startSum_9) dX1_startSum_9 ?_
    refine gx_iload_n C dX1_startSum_12 rfl ?_
    refine gx_iconst C dX1_startSum_13 ?_
    refine gx_iastore C (gd_F1 hF) (by omega) dX1_startSum_14 (show _ = 0 + k by omega) ?_
    refine gx_iinc C dX1_startSum_15 (by decide) rfl rfl ?_
    refine gx_goto C dX1_startSum_18 rfl ?_
    exact ih _ (by rw [hI]; exact gx_blk_s rfl)
  · refine gx_iload_n C dX1_startSum_2 rfl ?_
    refine gx_bipush C dX1_startSum_3 rfl ?_
    refine gx_icmp_ge C dX1_startSum_5 rfl (by unfold gx_3; omega) (by unfold gx_3; omega) (fun hb5 => ?_) (fun hb5 => absurd (by omega) hb5)
    refine gx_aload_n C dX1_startSum_21 rfl ?_
    refine gx_iconst C dX1_startSum_22 ?_
    refine gx_putI C 1 _ 6 rfl hF.1 rfl (by decide) nX1_startSum_1 tyX1 tyX1_ok nmX1 (gx_hts C _ fX1_startSum_35) rfl rfl dX1_startSum_23 ?_
    refine gx_aload_n C dX1_startSum_26 rfl ?_
    refine gx_iconst C dX1_startSum_27 ?_
    refine gx_putI C 1 _ 7 rfl hF.1 rfl (by decide) nX1_startSum_1 tyX1 tyX1_ok nmX1 (gx_hts C _ fX1_startSum_38) rfl rfl dX1_startSum_28 ?_
    have f0 : ∀ c', c' ≠ c → c' ≠ c + 1 → gx_u (gx_u P c 6 1) c 7 1 c' = M c' := fun c' a b => by rw [gx_u_nc a, gx_u_nc a, hI, gx_blk_nc b]
    have f1 : ∀ j, j ≠ 6 → j ≠ 7 → gx_u (gx_u P c 6 1) c 7 1 c j = M c j := fun j a b => by rw [gx_u_ne (by omega), gx_u_ne (by omega), hI, gx_blk_nc (by omega)]
    have fin : fr_R (fr_st f) c (gx_u (gx_u P c 6 1) c 7 1) ∧ fr_O c M (gx_u (gx_u P c 6 1) c 7 1) := ⟨⟨by rw [gx_u_nc (by omega), gx_u_nc (by omega), hI, mx_of_blk]; exact mx_cut (fun _ _ => rfl), by rw [f0 _ (by omega) (by omega)]; exact r2, by rw [f0 _ (by omega) (by omega)]; exact r3, by rw [f1 3 (by decide) (by decide)]; exact r4, by rw [f1 4 (by decide) (by decide)]; exact r5, by rw [f1 5 (by decide) (by decide)]; exact r6, by rw [gx_u_ne (by omega), gx_u_eq]; rfl, by rw [gx_u_eq]; rfl⟩, fun c' h => f0 c' (by omega) (by omega)⟩
    exact gx_vret C dX1_startSum_31 fin
set_option maxRecDepth 100000 in
set_option maxHeartbeats 4000000 in
theorem c_X1_open {La : List gx_K} {c : Nat} (hF : gd_F La c) {M : gx_M} {k p : Int} (hk : 0 ≤ k ∧ k < 65536) : gx_Cv La yX1_open wsX1_open 1 [gx_R c, gx_I k, gx_I p] M (fun M' => (∃ a b, fr_R ((fun _ => 0, a, b), (0, k, p, 1, 1)) c M') ∧ fr_O c M M') := by
  refine gx_start_v (L := [gx_R c, gx_I k, gx_I p]) (by decide) rfl rfl (Nat.le_of_ble_eq_true rfl) rfl ?_
  intro _ _ _ _ _ _ _ _ _ _ _ _ C
  refine gx_aload_n C dX1_open_0 rfl ?_
  refine gx_iload_n C dX1_open_1 rfl ?_
  refine gx_putC C 1 _ 4 rfl hF.1 rfl (by decide) nX1_open_1 tyX1 tyX1_ok nmX1 (gx_hts C _ fX1_open_21) rfl rfl (by omega) dX1_open_2 ?_
  refine gx_aload_n C dX1_open_5 rfl ?_
  refine gx_iload_n C dX1_open_6 rfl ?_
  refine gx_putI C 1 _ 5 rfl hF.1 rfl (by decide) nX1_open_1 tyX1 tyX1_ok nmX1 (gx_hts C _ fX1_open_25) rfl rfl dX1_open_7 ?_
  refine gx_aload_n C dX1_open_10 rfl ?_
  refine gx_iconst C dX1_open_11 ?_
  refine gx_putI C 1 _ 3 rfl hF.1 rfl (by decide) nX1_open_1 tyX1 tyX1_ok nmX1 (gx_hts C _ fX1_open_29) rfl rfl dX1_open_12 ?_
  refine gx_aload_n C dX1_open_15 rfl ?_
  have h1 : ∀ P : gx_M, P = gx_u (gx_u (gx_u M c 4 k) c 5 p) c 3 0 → fr_R ((mx_of (P (c + 1)) 0, mx_of (P (c + 2)) 0, mx_of (P (c + 3)) 0), (0, k, p, P c 6, P c 7)) c P ∧ fr_O c M P := fun P e => ⟨⟨rfl, rfl, rfl, by rw [e, gx_u_eq]; rfl, by rw [e, gx_u_ne (by omega), gx_u_ne (by omega), gx_u_eq], by rw [e, gx_u_ne (by omega), gx_u_eq], rfl, rfl⟩, fun c' h => by rw [e, gx_u_nc (by omega), gx_u_nc (by omega), gx_u_nc (by omega)]⟩
  have h2 := h1 _ rfl
  generalize gx_u (gx_u (gx_u M c 4 k) c 5 p) c 3 0 = P at h2 ⊢
  refine gx_callV C 1 rfl hF.1 (c_X1_startSum hF h2.1) (cwV 0 (gx_hts C) gX1_open_X1_startSum rfl rfl rfl (by decide +kernel) ⟨Nat.le_of_ble_eq_true rfl, Nat.le_of_ble_eq_true rfl⟩) rfl rfl (Nat.le_of_ble_eq_true rfl) ⟨Nat.le_refl _, Nat.le_refl _⟩ dX1_open_16 (fun P2 h3 => ?_)
  exact gx_vret C dX1_open_19 ⟨⟨_, _, h3.1⟩, fun c' h => (h3.2 c' h).trans (h2.2 c' h)⟩
def fr_ad (m : Int) (f : fr_S) (e : Nat → Int) : fr_S := ((fun k => if k < 9 then (f.1.1 k + f.2.2.2.2.1 * f.2.2.2.2.2 * e k) % m else 0, f.1.2.1, f.1.2.2), (f.2.1, f.2.2.1, f.2.2.2.1, f.2.2.2.2.1, 1))
set_option maxRecDepth 100000 in
set_option maxHeartbeats 4000000 in
theorem c_X1_add {La : List gx_K} {c : Nat} (hF : gd_F La c) {M : gx_M} {f : fr_S} (hR : fr_R f c M) {m : Int} (hm : 3 ≤ m ∧ m ≤ 11) (os : mx_ok m f.1.1) (hs : f.2.2.2.2.1 = 1 ∨ f.2.2.2.2.1 = -1) (ht : 0 ≤ f.2.2.2.2.2 ∧ f.2.2.2.2.2 ≤ 9) {e : Nat} (he : gd_9 La e) (ne : e ≠ c + 1) {A : Nat → Int} (eA : mx_of (M e) 0 = A) (oA : mx_ok m A) : gx_Cv La yX1_add wsX1_add 1 [gx_R c, gx_R e, gx_I m] M (fun M' => fr_R (fr_ad m f A) c M' ∧ fr_O c M M') := by
  obtain ⟨r1, r2, r3, r4, r5, r6, r7, r8⟩ := hR
  obtain ⟨⟨S, F1, F2⟩, ar, kd, pl, sg, tm⟩ := f
  simp only at r1 r2 r3 r4 r5 r6 r7 r8 os hs ht
  have nc : e ≠ c := Ne.symm (gd_ne hF.1 he)
  refine gx_start_v (L := [gx_R c, gx_R e, gx_I m, gx_U]) (by decide) rfl rfl (Nat.le_of_ble_eq_true rfl) rfl ?_
  intro _ _ _ _ _ _ _ _ _ _ _ _ C
  refine gx_iconst C dX1_add_0 ?_
  refine gx_istore_n C dX1_add_1 (by decide) rfl ?_
  refine gx_for 9 (fun k (_ : gx_M) => [gx_R c, gx_R e, gx_I m, gx_I (k : Int)]) (fun P => P) (fun k P => P = gx_blk M (c + 1) 0 k (fun k => if k < 9 then (S k + sg * tm * A k) % m else 0)) 0 M (by omega) gx_blk_0.symm (fun k P hk hI ih => ?_) (fun P hI => ?_)
  · have e1 : P (c + 1) (((k : Int)).toNat) = S k := by
      rw [hI]
      show gx_blk M (c + 1) 0 k _ (c + 1) k = S k
      rw [gx_blk_out (by omega)]
      have := congrFun r1 k
      rw [mx_of_at hk, Nat.zero_add] at this
      exact this
    have e2 : P e (((k : Int)).toNat) = A k := mx_at0 (by rw [hI, gx_blk_nc ne]; exact eA) hk
    have e3 : P c 6 = sg := by rw [hI, gx_blk_nc (by omega)]; exact r7
    have e4 : P c 7 = tm := by rw [hI, gx_blk_nc (by omega)]; exact r8
    have b1 := os k hk
    have b2 := oA k hk
    have b3 : -9 ≤ sg * tm ∧ sg * tm ≤ 9 := by rcases hs with h | h <;> rw [h] <;> omega
    have b4 : -99 ≤ sg * tm * A k ∧ sg * tm * A k ≤ 99 := by
      have g1 : sg * tm * A k ≤ 9 * A k := Int.mul_le_mul_of_nonneg_right b3.2 b2.1
      have g2 : (-9) * A k ≤ sg * tm * A k := Int.mul_le_mul_of_nonneg_right b3.1 b2.1
      omega
    refine gx_iload_n C dX1_add_2 rfl ?_
    refine gx_bipush C dX1_add_3 rfl ?_
    refine gx_icmp_ge C dX1_add_5 rfl (by unfold gx_3; omega) (by unfold gx_3; omega) (fun hb5 => absurd hb5 (by omega)) (fun hb5 => ?_)
    refine gx_aload_n C dX1_add_8 rfl ?_
    refine gx_getR C 1 _ 0 rfl hF.1 rfl (by decide) nX1_add_1 (gx_hts C _ fX1_add_9) dX1_add_9 ?_
    refine gx_iload_n C dX1_add_12 rfl ?_
    refine gx_aload_n C dX1_add_13 rfl ?_
    refine gx_getR C 1 _ 0 rfl hF.1 rfl (by decide) nX1_add_1 (gx_hts C _ fX1_add_9) dX1_add_14 ?_
    refine gx_iload_n C dX1_add_17 rfl ?_
    refine gx_iaload C (gd_F1 hF) (by omega) dX1_add_18 e1 ?_
    refine gx_aload_n C dX1_add_19 rfl ?_
    refine gx_getI C 1 _ 6 rfl hF.1 rfl (by decide) nX1_add_1 (gx_hts C _ fX1_add_35) dX1_add_20 e3 ?_
    refine gx_aload_n C dX1_add_23 rfl ?_
    refine gx_getI C 1 _ 7 rfl hF.1 rfl (by decide) nX1_add_1 (gx_hts C _ fX1_add_38) dX1_add_24 e4 ?_
    refine gx_imul C dX1_add_27 ?_
    refine gx_aload_n C dX1_add_28 rfl ?_
    refine gx_iload_n C dX1_add_29 rfl ?_
    refine gx_iaload C he (by omega) dX1_add_30 e2 ?_
    refine gx_imul C dX1_add_31 ?_
    refine gx_iadd C dX1_add_32 ?_
    refine gx_iload_n C dX1_add_33 rfl ?_
    refine gx_statIN C (c_X7_reduced (x := S k + sg * tm * A k) (m := m) (by omega) (by omega)) (⟨va_cnB 2 (gx_hts C) gX1_add_X7_reduced_n41 rfl rfl rfl ((gx_hN C).2 ("PeirceDesk$Frame", 41, yX7_reduced, "PeirceDesk") (by decide +kernel)) ((gx_hts C) (.initialized RX7) (by decide +kernel)) (by decide +kernel) ⟨Nat.le_of_ble_eq_true rfl, Nat.le_of_ble_eq_true rfl⟩, (gx_hts C) (.static yX7_reduced) (by decide +kernel), trivial⟩) rfl rfl (Nat.le_of_ble_eq_true rfl) ⟨Nat.le_refl _, Nat.le_refl _⟩ dX1_add_34 (fun z P3 hz => ?_)
    obtain ⟨rfl, rfl⟩ := hz
    refine gx_iastore C (gd_F1 hF) (by omega) dX1_add_37 (show _ = 0 + k by omega) ?_
    refine gx_iinc C dX1_add_38 (by decide) rfl rfl ?_
    refine gx_goto C dX1_add_41 rfl ?_
    exact ih _ (by rw [hI]; exact gx_blk_s (by show _ = if k < 9 then _ else _; rw [if_pos hk]))
  · refine gx_iload_n C dX1_add_2 rfl ?_
    refine gx_bipush C dX1_add_3 rfl ?_
    refine gx_icmp_ge C dX1_add_5 rfl (by unfold gx_3; omega) (by unfold gx_3; omega) (fun hb5 => ?_) (fun hb5 => absurd (by omega) hb5)
    refine gx_aload_n C dX1_add_44 rfl ?_
    refine gx_iconst C dX1_add_45 ?_
    refine gx_putI C 1 _ 7 rfl hF.1 rfl (by decide) nX1_add_1 tyX1 tyX1_ok nmX1 (gx_hts C _ fX1_add_38) rfl rfl dX1_add_46 ?_
    have f0 : ∀ c', c' ≠ c → c' ≠ c + 1 → gx_u P c 7 1 c' = M c' := fun c' a b => by rw [gx_u_nc a, hI, gx_blk_nc b]
    have f1 : ∀ j, j ≠ 7 → gx_u P c 7 1 c j = M c j := fun j a => by rw [gx_u_ne (by omega), hI, gx_blk_nc (by omega)]
    have fin : fr_R (fr_ad m ((S, F1, F2), (ar, kd, pl, sg, tm)) A) c (gx_u P c 7 1) ∧ fr_O c M (gx_u P c 7 1) := ⟨⟨by rw [gx_u_nc (by omega), hI, mx_of_blk]; exact mx_cut (fun k hk => if_neg (by omega)), by rw [f0 _ (by omega) (by omega)]; exact r2, by rw [f0 _ (by omega) (by omega)]; exact r3, by rw [f1 3 (by decide)]; exact r4, by rw [f1 4 (by decide)]; exact r5, by rw [f1 5 (by decide)]; exact r6, by rw [f1 6 (by decide)]; exact r7, by rw [gx_u_eq]; rfl⟩, fun c' h => f0 c' (by omega) (by omega)⟩
    exact gx_vret C dX1_add_49 fin
def fr_kp (f : fr_S) : fr_S := ((fun _ => 0, if f.2.1 = 0 then f.1.1 else f.1.2.1, if f.2.1 = 0 then f.1.2.2 else f.1.1), (f.2.1 + 1, f.2.2.1, f.2.2.2.1, 1, 1))
set_option maxRecDepth 100000 in
set_option maxHeartbeats 4000000 in
theorem c_X1_keepArgument {La : List gx_K} {c : Nat} (hF : gd_F La c) {M : gx_M} {f : fr_S} (hR : fr_R f c M) (ha : f.2.1 ≤ 100) : gx_Cv La yX1_keepArgument wsX1_keepArgument 2 [gx_R c] M (fun M' => fr_R (fr_kp f) c M' ∧ fr_O c M M') := by
  obtain ⟨r1, r2, r3, r4, r5, r6, r7, r8⟩ := hR
  obtain ⟨⟨S, F1, F2⟩, ar, kd, pl, sg, tm⟩ := f
  simp only at r1 r2 r3 r4 r5 r6 r7 r8 ha
  refine gx_start_v (L := [gx_R c]) (by decide) rfl rfl (Nat.le_of_ble_eq_true rfl) rfl ?_
  intro _ _ _ _ _ _ _ _ _ _ _ _ C
  refine gx_aload_n C dX1_keepArgument_0 rfl ?_
  refine gx_getR C 1 _ 0 rfl hF.1 rfl (by decide) nX1_keepArgument_1 (gx_hts C _ fX1_keepArgument_9) dX1_keepArgument_1 ?_
  refine gx_aload_n C dX1_keepArgument_4 rfl ?_
  refine gx_getI C 1 _ 3 rfl hF.1 rfl (by decide) nX1_keepArgument_1 (gx_hts C _ fX1_keepArgument_29) dX1_keepArgument_5 r4 ?_
  refine gx_cut 22 (fun (d : Nat) => [gx_R c]) (fun d => [gx_R d, gx_R (c + 1)]) (fun _ => M) (fun d => d = if ar = 0 then c + 2 else c + 3) (fun d hd => ?_) (fun fin => ?_)
  · have hd9 : gd_9 La d := by
      rw [hd]
      split
      · exact gd_F2 hF
      · exact gd_F3 hF
    have hdc : d = c + 2 ∨ d = c + 3 := by rw [hd]; split <;> omega
    refine gx_statVN C (c_X7_copy (gd_F1 hF) hd9) (⟨va_cnB 2 (gx_hts C) gX1_keepArgument_X7_copy_n45 rfl rfl rfl ((gx_hN C).2 ("PeirceDesk$Frame", 45, yX7_copy, "PeirceDesk") (by decide +kernel)) ((gx_hts C) (.initialized RX7) (by decide +kernel)) (by decide +kernel) ⟨Nat.le_of_ble_eq_true rfl, Nat.le_of_ble_eq_true rfl⟩, (gx_hts C) (.static yX7_copy) (by decide +kernel), trivial⟩) rfl rfl (Nat.le_of_ble_eq_true rfl) ⟨Nat.le_refl _, Nat.le_refl _⟩ dX1_keepArgument_22 (fun P hP => ?_)
    rw [r1] at hP
    have e1 : P c 3 = ar := by rw [hP, gx_blk_nc (by omega)]; exact r4
    have eS : ∀ k, 9 ≤ k → S k = 0 := fun k hk => by rw [← r1]; exact if_neg (by omega)
    refine gx_aload_n C dX1_keepArgument_25 rfl ?_
    refine gx_dup C dX1_keepArgument_26 rfl ?_
    refine gx_getI C 1 _ 3 rfl hF.1 rfl (by decide) nX1_keepArgument_1 (gx_hts C _ fX1_keepArgument_29) dX1_keepArgument_27 e1 ?_
    refine gx_iconst C dX1_keepArgument_30 ?_
    refine gx_iadd C dX1_keepArgument_31 ?_
    refine gx_putI C 1 _ 3 rfl hF.1 rfl (by decide) nX1_keepArgument_1 tyX1 tyX1_ok nmX1 (gx_hts C _ fX1_keepArgument_29) rfl rfl dX1_keepArgument_32 ?_
    refine gx_aload_n C dX1_keepArgument_35 rfl ?_
    have h1 : fr_R ((S, if ar = 0 then S else F1, if ar = 0 then F2 else S), (ar + 1, kd, pl, sg, tm)) c (gx_u P c 3 ((ar : Int) + 1)) ∧ fr_O c M (gx_u P c 3 ((ar : Int) + 1)) := by
      have f1 : ∀ j, j ≠ 3 → gx_u P c 3 ((ar : Int) + 1) c j = M c j := fun j a => by rw [gx_u_ne (by omega), hP, gx_blk_nc (by omega)]
      refine ⟨⟨by rw [gx_u_nc (by omega), hP, gx_blk_nc (by omega)]; exact r1, ?_, ?_, by rw [gx_u_eq]; show (ar : Int) + 1 = ((ar + 1 : Nat) : Int); omega, by rw [f1 4 (by decide)]; exact r5, by rw [f1 5 (by decide)]; exact r6, by rw [f1 6 (by decide)]; exact r7, by rw [f1 7 (by decide)]; exact r8⟩, fun c' h => by rw [gx_u_nc (by omega), hP, gx_blk_nc (by omega)]⟩
      · show _ = if ar = 0 then S else F1
        rw [gx_u_nc (by omega), hP]
        by_cases e : ar = 0
        · rw [if_pos e] at hd ⊢
          rw [hd, mx_of_blk, mx_cut eS]
        · rw [if_neg e] at hd ⊢
          rw [gx_blk_nc (by omega)]
          exact r2
      · show _ = if ar = 0 then F2 else S
        rw [gx_u_nc (by omega), hP]
        by_cases e : ar = 0
        · rw [if_pos e] at hd ⊢
          rw [gx_blk_nc (by omega)]
          exact r3
        · rw [if_neg e] at hd ⊢
          rw [hd, mx_of_blk, mx_cut eS]
    refine gx_callV C 1 rfl hF.1 (c_X1_startSum hF h1.1) (cwV 0 (gx_hts C) gX1_keepArgument_X1_startSum rfl rfl rfl (by decide +kernel) ⟨Nat.le_of_ble_eq_true rfl, Nat.le_of_ble_eq_true rfl⟩) rfl rfl (Nat.le_of_ble_eq_true rfl) ⟨Nat.le_refl _, Nat.le_refl _⟩ dX1_keepArgument_36 (fun P2 h3 => ?_)
    exact gx_vret C dX1_keepArgument_39 ⟨h3.1, fun c' h => (h3.2 c' h).trans (h1.2 c' h)⟩
  · refine gx_if_ne C dX1_keepArgument_8 rfl (by unfold gx_3; omega) (fun hb8 => ?_) (fun hb8 => ?_)
    · refine gx_aload_n C dX1_keepArgument_18 rfl ?_
      refine gx_getR C 1 _ 2 rfl hF.1 rfl (by decide) nX1_keepArgument_1 (gx_hts C _ fX1_keepArgument_18) dX1_keepArgument_19 ?_
      exact fin (c + 3) (by rw [if_neg (by omega)])
    · refine gx_aload_n C dX1_keepArgument_11 rfl ?_
      refine gx_getR C 1 _ 1 rfl hF.1 rfl (by decide) nX1_keepArgument_1 (gx_hts C _ fX1_keepArgument_15) dX1_keepArgument_12 ?_
      refine gx_goto C dX1_keepArgument_15 rfl ?_
      exact fin (c + 2) (by rw [if_pos (by omega)])
