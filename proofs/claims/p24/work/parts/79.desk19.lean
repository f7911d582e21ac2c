def fr_rd (m : Int) (El : Nat → Nat → Int) (V : Nat → Int) (f : fr_S) (c : Int) : fr_S := if 65 ≤ c ∧ c ≤ 72 then fr_ad m f (El (c - 65).toNat) else if c = 105 then fr_ad m f V else if 48 ≤ c ∧ c ≤ 57 then (f.1, (f.2.1, f.2.2.1, f.2.2.2.1, f.2.2.2.2.1, c - 48)) else if c = 43 ∨ c = 45 then (f.1, (f.2.1, f.2.2.1, f.2.2.2.1, if c = 43 then 1 else -1, f.2.2.2.2.2)) else if c = 44 then fr_kp f else if c = 61 then fr_st f else f
theorem fr_Rf {f : fr_S} {c : Nat} {M M' : gx_M} (h : fr_R f c M) (e : ∀ c', c ≤ c' → c' < c + 4 → M' c' = M c') : fr_R f c M' := by
  unfold fr_R
  rw [e c (by omega) (by omega), e (c + 1) (by omega) (by omega), e (c + 2) (by omega) (by omega), e (c + 3) (by omega) (by omega)]
  exact h
set_option maxRecDepth 100000 in
set_option maxHeartbeats 4000000 in
theorem c_X4_read {La : List gx_K} (hL : gd_H La) {fc : Nat} (hF : gd_F La fc) (hfc : 154 ≤ fc) {M : gx_M} {f : fr_S} (hR : fr_R f fc M) {m : Int} (hm : 3 ≤ m ∧ m ≤ 11) (h1 : M 46 1 = m) (os : mx_ok m f.1.1) (hs : f.2.2.2.2.1 = 1 ∨ f.2.2.2.2.1 = -1) (ht : 0 ≤ f.2.2.2.2.2 ∧ f.2.2.2.2.2 ≤ 9) (ha : f.2.1 ≤ 100) {El : Nat → Nat → Int} (eE : ∀ r, r < 8 → mx_of (M (46 + 2 + r)) 0 = El r) (oE : ∀ r, r < 8 → mx_ok m (El r)) {V : Nat → Int} (eV : mx_of (M 57) 0 = V) (oV : mx_ok m V) {c : Int} (hc : 0 ≤ c ∧ c < 65536) : gx_Cv La yX4_read wsX4_read 3 [gx_R 15, gx_I c, gx_R fc, gx_R 46] M (fun M' => fr_R (fr_rd m El V f c) fc M' ∧ mx_of (M' 44) 0 = (if c = 61 then f.1.1 else mx_of (M 44) 0) ∧ ∀ c', c' ≠ 44 → (c' < fc ∨ fc + 4 ≤ c') → M' c' = M c') := by
  have hc3 : gx_3 c := by unfold gx_3; omega
  have he : (65 ≤ c ∧ c ≤ 72) → gd_9 La (46 + 2 + (c - 65).toNat) := fun h => (gd_now hL).2.2 _ (by omega)
  by_cases hreg : 65 ≤ c ∧ c ≤ 72
  · have he := he hreg
    refine gx_start_v (L := [gx_R 15, gx_I c, gx_R fc, gx_R 46, gx_U]) (by decide) rfl rfl (Nat.le_of_ble_eq_true rfl) rfl ?_
    intro _ _ _ _ _ _ _ _ _ _ _ _ C
    refine gx_iload_n C dX4_read_0 rfl ?_
    refine gx_statIN C (c_X7_registerOf hc3) (⟨va_cnB 1 (gx_hts C) gX4_read_X7_registerOf_n78 rfl rfl rfl ((gx_hN C).2 ("PeirceDesk$Reckoner", 78, yX7_registerOf, "PeirceDesk") (by decide +kernel)) ((gx_hts C) (.initialized RX7) (by decide +kernel)) (by decide +kernel) ⟨Nat.le_of_ble_eq_true rfl, Nat.le_of_ble_eq_true rfl⟩, (gx_hts C) (.static yX7_registerOf) (by decide +kernel), trivial⟩) rfl rfl (Nat.le_of_ble_eq_true rfl) ⟨Nat.le_refl _, Nat.le_refl _⟩ dX4_read_1 (fun z P hz => ?_)
    obtain ⟨rfl, hz⟩ := hz
    rw [if_pos hreg] at hz
    subst hz
    refine gx_istore C dX4_read_4 (by decide) rfl ?_
    refine gx_iload C dX4_read_6 rfl ?_
    refine gx_bipush C dX4_read_8 rfl ?_
    refine gx_icmp_eq C dX4_read_10 rfl (by unfold gx_3; omega) (by unfold gx_3; omega) (fun hb10 => absurd hb10 (by omega)) (fun hb10 => ?_)
    refine gx_aload_n C dX4_read_13 rfl ?_
    refine gx_aload_n C dX4_read_14 rfl ?_
    refine gx_getRN C 6 _ 2 rfl (gd_now hL).1 rfl (by decide) nX4_read_6 ((gx_hN C).1 ("PeirceDesk$Reckoner", 82, "PeirceDesk$State", "elements", "[[I", "PeirceDesk") (by decide +kernel) |> va_Nw.use rfl) dX4_read_15 ?_
    refine gx_iload C dX4_read_18 rfl ?_
    refine gx_aaload C (gd_now hL).2.1 (by decide) (by omega) dX4_read_20 (show _ = 46 + 2 + (c - 65).toNat by omega) ?_
    refine gx_aload_n C dX4_read_21 rfl ?_
    refine gx_getIN C 6 _ 1 rfl (gd_now hL).1 rfl (by decide) nX4_read_6 ((gx_hN C).1 ("PeirceDesk$Reckoner", 61, "PeirceDesk$State", "modulus", "I", "PeirceDesk") (by decide +kernel) |> va_Nw.use rfl) dX4_read_22 h1 ?_
    refine gx_callVN C 1 rfl hF.1 (c_X1_add hF hR hm os hs ht he (by omega) (eE _ (by omega)) (oE _ (by omega))) (⟨va_cnB 2 (gx_hts C) gX4_read_X1_add_n74 rfl rfl rfl ((gx_hN C).2 ("PeirceDesk$Reckoner", 74, yX1_add, "PeirceDesk") (by decide +kernel)) ((gx_hts C) (.initialized RX1) (by decide +kernel)) (by decide +kernel) ⟨Nat.le_of_ble_eq_true rfl, Nat.le_of_ble_eq_true rfl⟩, (gx_hts C) (.instanceMethod yX1_add) (by decide +kernel), (gx_hts C) (.selects RX1 yX1_add yX1_add) (by decide +kernel)⟩) rfl rfl (Nat.le_of_ble_eq_true rfl) ⟨Nat.le_refl _, Nat.le_refl _⟩ dX4_read_25 (fun P2 h => ?_)
    refine gx_goto C dX4_read_28 rfl ?_
    exact gx_vret C dX4_read_142 ⟨by unfold fr_rd; rw [if_pos hreg]; exact h.1, by rw [if_neg (by omega), h.2 44 (by omega)], fun c' _ c2 => h.2 c' c2⟩
  · have hrg := hreg
    refine gx_start_v (L := [gx_R 15, gx_I c, gx_R fc, gx_R 46, gx_U]) (by decide) rfl rfl (Nat.le_of_ble_eq_true rfl) rfl ?_
    intro _ _ _ _ _ _ _ _ _ _ _ _ C
    refine gx_iload_n C dX4_read_0 rfl ?_
    refine gx_statIN C (c_X7_registerOf hc3) (⟨va_cnB 1 (gx_hts C) gX4_read_X7_registerOf_n78 rfl rfl rfl ((gx_hN C).2 ("PeirceDesk$Reckoner", 78, yX7_registerOf, "PeirceDesk") (by decide +kernel)) ((gx_hts C) (.initialized RX7) (by decide +kernel)) (by decide +kernel) ⟨Nat.le_of_ble_eq_true rfl, Nat.le_of_ble_eq_true rfl⟩, (gx_hts C) (.static yX7_registerOf) (by decide +kernel), trivial⟩) rfl rfl (Nat.le_of_ble_eq_true rfl) ⟨Nat.le_refl _, Nat.le_refl _⟩ dX4_read_1 (fun z P hz => ?_)
    obtain ⟨rfl, hz⟩ := hz
    rw [if_neg hreg] at hz
    subst hz
    refine gx_istore C dX4_read_4 (by decide) rfl ?_
    refine gx_iload C dX4_read_6 rfl ?_
    refine gx_bipush C dX4_read_8 rfl ?_
    refine gx_icmp_eq C dX4_read_10 rfl (by unfold gx_3; omega) (by unfold gx_3; omega) (fun hb10 => ?_) (fun hb10 => absurd (by omega) hb10)
    refine gx_iload_n C dX4_read_31 rfl ?_
    refine gx_bipush C dX4_read_32 rfl ?_
    have fin0 : ∀ P2 : gx_M, fr_O fc P P2 → ∀ g, fr_R g fc P2 → c ≠ 61 → fr_rd m El V f c = g → fr_R (fr_rd m El V f c) fc P2 ∧ mx_of (P2 44) 0 = (if c = 61 then f.1.1 else mx_of (P 44) 0) ∧ ∀ c', c' ≠ 44 → (c' < fc ∨ fc + 4 ≤ c') → P2 c' = P c' := fun P2 h g hg hc61 e => ⟨by rw [e]; exact hg, by rw [if_neg hc61, h 44 (by omega)], fun c' _ c2 => h c' c2⟩
    refine gx_icmp_ne C dX4_read_34 rfl hc3 (by unfold gx_3; omega) (fun hb34 => ?_) (fun hb34 => ?_)
    · refine gx_iload_n C dX4_read_55 rfl ?_
      refine gx_bipush C dX4_read_56 rfl ?_
      refine gx_cut 78 (fun (_ : Int) => [gx_R 15, gx_I c, gx_R fc, gx_R 46, gx_U]) (fun _ => []) (fun _ => P) (fun _ => ¬ (48 ≤ c ∧ c ≤ 57)) (fun v hdig => ?_) (fun at78 => ?_)
      · refine gx_cut 90 (fun (_ : Int) => [gx_R 15, gx_I c, gx_R fc, gx_R 46, gx_U]) (fun _ => []) (fun _ => P) (fun _ => c = 43 ∨ c = 45) (fun v hsg => ?_) (fun at90 => ?_)
        · refine gx_aload_n C dX4_read_90 rfl ?_
          refine gx_iload_n C dX4_read_91 rfl ?_
          refine gx_bipush C dX4_read_92 rfl ?_
          refine gx_cut 102 (fun (_ : Int) => [gx_R 15, gx_I c, gx_R fc, gx_R 46, gx_U]) (fun v => [gx_I v, gx_R fc]) (fun _ => P) (fun v => v = if c = 43 then 1 else -1) (fun v hv => ?_) (fun fin => ?_)
          · refine gx_putIN C 1 _ 6 rfl hF.1 rfl (by decide) nX4_read_1 tyX1 tyX1_ok nmX1 ((gx_hN C).1 ("PeirceDesk$Reckoner", 89, "PeirceDesk$Frame", "sign", "I", "PeirceDesk") (by decide +kernel) |> va_Nw.use rfl) rfl rfl dX4_read_102 ?_
            refine gx_goto C dX4_read_105 rfl ?_
            have hO : fr_O fc P (gx_u P fc 6 v) := fun c' h => gx_u_nc (by omega)
            obtain ⟨r1, r2, r3, r4, r5, r6, r7, r8⟩ := hR
            have hg : fr_R (f.1, (f.2.1, f.2.2.1, f.2.2.2.1, if c = 43 then 1 else -1, f.2.2.2.2.2)) fc (gx_u P fc 6 v) := ⟨by rw [gx_u_nc (by omega)]; exact r1, by rw [gx_u_nc (by omega)]; exact r2, by rw [gx_u_nc (by omega)]; exact r3, by rw [gx_u_ne (by omega)]; exact r4, by rw [gx_u_ne (by omega)]; exact r5, by rw [gx_u_ne (by omega)]; exact r6, by rw [gx_u_eq]; exact hv, by rw [gx_u_ne (by omega)]; exact r8⟩
            exact gx_vret C dX4_read_142 (fin0 _ hO _ hg (by omega) (by unfold fr_rd; rw [if_neg hreg, if_neg hb34, if_neg hdig, if_pos hsg]))
          · refine gx_icmp_ne C dX4_read_94 rfl hc3 (by unfold gx_3; omega) (fun hb94 => ?_) (fun hb94 => ?_)
            · refine gx_iconst C dX4_read_101 ?_
              exact fin (-1) (by rw [if_neg (by omega)])
            · refine gx_iconst C dX4_read_97 ?_
              refine gx_goto C dX4_read_98 rfl ?_
              exact fin 1 (by rw [if_pos (by omega)])
        · refine gx_iload_n C dX4_read_78 rfl ?_
          refine gx_bipush C dX4_read_79 rfl ?_
          refine gx_icmp_eq C dX4_read_81 rfl hc3 (by unfold gx_3; omega) (fun hb81 => ?_) (fun hb81 => ?_)
          · exact gx_weak (L' := [gx_R 15, gx_I c, gx_R fc, gx_R 46, gx_U]) ⟨Or.inr rfl, Or.inr rfl, Or.inr rfl, Or.inr rfl, Or.inl rfl, trivial⟩ (at90 0 (by omega))
          · refine gx_iload_n C dX4_read_84 rfl ?_
            refine gx_bipush C dX4_read_85 rfl ?_
            refine gx_icmp_ne C dX4_read_87 rfl hc3 (by unfold gx_3; omega) (fun hb87 => ?_) (fun hb87 => ?_)
            · refine gx_iload_n C dX4_read_108 rfl ?_
              refine gx_bipush C dX4_read_109 rfl ?_
              refine gx_icmp_ne C dX4_read_111 rfl hc3 (by unfold gx_3; omega) (fun hb111 => ?_) (fun hb111 => ?_)
              · refine gx_iload_n C dX4_read_121 rfl ?_
                refine gx_bipush C dX4_read_122 rfl ?_
                refine gx_icmp_ne C dX4_read_124 rfl hc3 (by unfold gx_3; omega) (fun hb124 => ?_) (fun hb124 => ?_)
                · exact gx_vret C dX4_read_142 (fin0 P (fun _ _ => rfl) f hR hb124 (by unfold fr_rd; rw [if_neg hreg, if_neg hb34, if_neg hdig, if_neg (by omega), if_neg hb111, if_neg hb124]))
                · refine gx_aload_n C dX4_read_127 rfl ?_
                  refine gx_getRN C 1 _ 0 rfl hF.1 rfl (by decide) nX4_read_1 ((gx_hN C).1 ("PeirceDesk$Reckoner", 22, "PeirceDesk$Frame", "sum", "[I", "PeirceDesk") (by decide +kernel) |> va_Nw.use rfl) dX4_read_128 ?_
                  refine gx_aload_n C dX4_read_131 rfl ?_
                  refine gx_getR C 4 _ 2 rfl (gd_15 hL) rfl (by decide) nX4_read_4 (gx_hts C _ fX4_read_18) dX4_read_132 ?_
                  refine gx_statVN C (c_X7_copy (gd_F1 hF) (gd_44 hL)) (⟨va_cnB 2 (gx_hts C) gX4_read_X7_copy_n95 rfl rfl rfl ((gx_hN C).2 ("PeirceDesk$Reckoner", 95, yX7_copy, "PeirceDesk") (by decide +kernel)) ((gx_hts C) (.initialized RX7) (by decide +kernel)) (by decide +kernel) ⟨Nat.le_of_ble_eq_true rfl, Nat.le_of_ble_eq_true rfl⟩, (gx_hts C) (.static yX7_copy) (by decide +kernel), trivial⟩) rfl rfl (Nat.le_of_ble_eq_true rfl) ⟨Nat.le_refl _, Nat.le_refl _⟩ dX4_read_135 (fun P2 h2 => ?_)
                  rw [hR.1] at h2
                  have e44 : mx_of (P2 44) 0 = f.1.1 := by rw [h2, ← hR.1]; exact mx_of_cp
                  have hR2 : fr_R f fc P2 := fr_Rf hR (fun c' a b => by rw [h2, gx_blk_nc (by omega)])
                  refine gx_aload_n C dX4_read_138 rfl ?_
                  refine gx_callVN C 1 rfl hF.1 (c_X1_startSum hF hR2) (⟨va_cnB 0 (gx_hts C) gX4_read_X1_startSum_n99 rfl rfl rfl ((gx_hN C).2 ("PeirceDesk$Reckoner", 99, yX1_startSum, "PeirceDesk") (by decide +kernel)) ((gx_hts C) (.initialized RX1) (by decide +kernel)) (by decide +kernel) ⟨Nat.le_of_ble_eq_true rfl, Nat.le_of_ble_eq_true rfl⟩, (gx_hts C) (.instanceMethod yX1_startSum) (by decide +kernel), (gx_hts C) (.selects RX1 yX1_startSum yX1_startSum) (by decide +kernel)⟩) rfl rfl (Nat.le_of_ble_eq_true rfl) ⟨Nat.le_refl _, Nat.le_refl _⟩ dX4_read_139 (fun P3 h3 => ?_)
                  exact gx_vret C dX4_read_142 ⟨by unfold fr_rd; rw [if_neg hreg, if_neg hb34, if_neg hdig, if_neg (by omega), if_neg hb111, if_pos (by omega)]; exact h3.1, by rw [if_pos (by omega), h3.2 44 (by omega)]; exact e44, fun c' c1 c2 => by rw [h3.2 c' c2, h2, gx_blk_nc c1]⟩
              · refine gx_aload_n C dX4_read_114 rfl ?_
                refine gx_callVN C 1 rfl hF.1 (c_X1_keepArgument hF hR ha) (⟨va_cnB 0 (gx_hts C) gX4_read_X1_keepArgument_n92 rfl rfl rfl ((gx_hN C).2 ("PeirceDesk$Reckoner", 92, yX1_keepArgument, "PeirceDesk") (by decide +kernel)) ((gx_hts C) (.initialized RX1) (by decide +kernel)) (by decide +kernel) ⟨Nat.le_of_ble_eq_true rfl, Nat.le_of_ble_eq_true rfl⟩, (gx_hts C) (.instanceMethod yX1_keepArgument) (by decide +kernel), (gx_hts C) (.selects RX1 yX1_keepArgument yX1_keepArgument) (by decide +kernel)⟩) rfl rfl (Nat.le_of_ble_eq_true rfl) ⟨Nat.le_refl _, Nat.le_refl _⟩ dX4_read_115 (fun P2 h2 => ?_)
                refine gx_goto C dX4_read_118 rfl ?_
                exact gx_vret C dX4_read_142 (fin0 P2 h2.2 _ h2.1 (by omega) (by unfold fr_rd; rw [if_neg hreg, if_neg hb34, if_neg hdig, if_neg (by omega), if_pos (by omega)]))
            · exact gx_weak (L' := [gx_R 15, gx_I c, gx_R fc, gx_R 46, gx_U]) ⟨Or.inr rfl, Or.inr rfl, Or.inr rfl, Or.inr rfl, Or.inl rfl, trivial⟩ (at90 0 (by omega))
      · have wk : ∀ {G : List gx_V → Prop}, G [gx_R 15, gx_I c, gx_R fc, gx_R 46, gx_U] → True := fun _ => trivial
        refine gx_icmp_lt C dX4_read_58 rfl hc3 (by unfold gx_3; omega) (fun hb58 => ?_) (fun hb58 => ?_)
        · exact gx_weak (L' := [gx_R 15, gx_I c, gx_R fc, gx_R 46, gx_U]) ⟨Or.inr rfl, Or.inr rfl, Or.inr rfl, Or.inr rfl, Or.inl rfl, trivial⟩ (at78 0 (by omega))
        · refine gx_iload_n C dX4_read_61 rfl ?_
          refine gx_bipush C dX4_read_62 rfl ?_
          refine gx_icmp_gt C dX4_read_64 rfl hc3 (by unfold gx_3; omega) (fun hb64 => ?_) (fun hb64 => ?_)
          · exact gx_weak (L' := [gx_R 15, gx_I c, gx_R fc, gx_R 46, gx_U]) ⟨Or.inr rfl, Or.inr rfl, Or.inr rfl, Or.inr rfl, Or.inl rfl, trivial⟩ (at78 0 (by omega))
          · refine gx_aload_n C dX4_read_67 rfl ?_
            refine gx_iload_n C dX4_read_68 rfl ?_
            refine gx_bipush C dX4_read_69 rfl ?_
            refine gx_isub C dX4_read_71 ?_
            refine gx_putIN C 1 _ 7 rfl hF.1 rfl (by decide) nX4_read_1 tyX1 tyX1_ok nmX1 ((gx_hN C).1 ("PeirceDesk$Reckoner", 86, "PeirceDesk$Frame", "times", "I", "PeirceDesk") (by decide +kernel) |> va_Nw.use rfl) rfl rfl dX4_read_72 ?_
            refine gx_goto C dX4_read_75 rfl ?_
            have hO : fr_O fc P (gx_u P fc 7 (c - 48)) := fun c' h => gx_u_nc (by omega)
            obtain ⟨r1, r2, r3, r4, r5, r6, r7, r8⟩ := hR
            have hg : fr_R (f.1, (f.2.1, f.2.2.1, f.2.2.2.1, f.2.2.2.2.1, c - 48)) fc (gx_u P fc 7 (c - 48)) := ⟨by rw [gx_u_nc (by omega)]; exact r1, by rw [gx_u_nc (by omega)]; exact r2, by rw [gx_u_nc (by omega)]; exact r3, by rw [gx_u_ne (by omega)]; exact r4, by rw [gx_u_ne (by omega)]; exact r5, by rw [gx_u_ne (by omega)]; exact r6, by rw [gx_u_ne (by omega)]; exact r7, gx_u_eq _ _ _ _⟩
            exact gx_vret C dX4_read_142 (fin0 _ hO _ hg (by omega) (by unfold fr_rd; rw [if_neg hreg, if_neg hb34, if_pos (by omega)]))
    · refine gx_aload_n C dX4_read_37 rfl ?_
      refine gx_aload_n C dX4_read_38 rfl ?_
      refine gx_getRN C 6 _ 2 rfl (gd_now hL).1 rfl (by decide) nX4_read_6 ((gx_hN C).1 ("PeirceDesk$Reckoner", 82, "PeirceDesk$State", "elements", "[[I", "PeirceDesk") (by decide +kernel) |> va_Nw.use rfl) dX4_read_39 ?_
      refine gx_bipush C dX4_read_42 rfl ?_
      refine gx_aaload C (gd_now hL).2.1 (by decide) (by omega) dX4_read_44 (show _ = 57 from rfl) ?_
      refine gx_aload_n C dX4_read_45 rfl ?_
      refine gx_getIN C 6 _ 1 rfl (gd_now hL).1 rfl (by decide) nX4_read_6 ((gx_hN C).1 ("PeirceDesk$Reckoner", 61, "PeirceDesk$State", "modulus", "I", "PeirceDesk") (by decide +kernel) |> va_Nw.use rfl) dX4_read_46 h1 ?_
      refine gx_callVN C 1 rfl hF.1 (c_X1_add hF hR hm os hs ht (gd_57 hL) (by omega) eV oV) (⟨va_cnB 2 (gx_hts C) gX4_read_X1_add_n74 rfl rfl rfl ((gx_hN C).2 ("PeirceDesk$Reckoner", 74, yX1_add, "PeirceDesk") (by decide +kernel)) ((gx_hts C) (.initialized RX1) (by decide +kernel)) (by decide +kernel) ⟨Nat.le_of_ble_eq_true rfl, Nat.le_of_ble_eq_true rfl⟩, (gx_hts C) (.instanceMethod yX1_add) (by decide +kernel), (gx_hts C) (.selects RX1 yX1_add yX1_add) (by decide +kernel)⟩) rfl rfl (Nat.le_of_ble_eq_true rfl) ⟨Nat.le_refl _, Nat.le_refl _⟩ dX4_read_49 (fun P2 h => ?_)
      refine gx_goto C dX4_read_52 rfl ?_
      exact gx_vret C dX4_read_142 (fin0 P2 h.2 _ h.1 (by omega) (by unfold fr_rd; rw [if_neg hreg, if_pos (by omega)]))
