/-- the candidates, in the class's order -/
def mc_vec (q k : Nat) : Nat → Int := fun i => if i = 0 then ((k / q / q : Nat) : Int) else if i = 1 ∨ i = 3 then ((k / q % q : Nat) : Int) else if i = 4 then ((k % q : Nat) : Int) else 0
set_option maxRecDepth 100000 in
set_option maxHeartbeats 4000000 in
theorem c_X0_countKind {La : List gx_K} (hL : gd_H La) {M : gx_M} {n m : Int} {U V : Nat → Int} (hA : ga_A n m U V M) {q : Nat} (hq : m = (q : Int)) (h35 : ∀ k, k < 9 → k ≠ 0 → k ≠ 1 → k ≠ 3 → k ≠ 4 → M 35 k = 0) {w : Int} (hw : 0 ≤ w ∧ w ≤ 3) : gx_Ci La yX0_countKind wsX0_countKind 5 [gx_R 13, gx_I w] M (fun z M' => mx_cnt (fun k => mc_kd m n U V w (mc_vec q k)) (q * q * q) z ∧ (∀ k, k < 9 → k ≠ 0 → k ≠ 1 → k ≠ 3 → k ≠ 4 → M' 35 k = 0) ∧ ∀ c, (c < 19 ∨ 25 ≤ c) → c ≠ 31 → c ≠ 32 → c ≠ 33 → c ≠ 35 → M' c = M c) := by
  obtain ⟨b0, b1, b2, b3, b4, b5, b6, b7⟩ := id hA
  generalize hP : (fun k => mc_kd m n U V w (mc_vec q k)) = P
  have hF : ∃ F : gx_M → Prop, F = fun Q => (∀ k, k < 9 → k ≠ 0 → k ≠ 1 → k ≠ 3 → k ≠ 4 → Q 35 k = 0) ∧ ∀ c, (c < 19 ∨ 25 ≤ c) → c ≠ 31 → c ≠ 32 → c ≠ 33 → c ≠ 35 → Q c = M c := ⟨_, rfl⟩
  obtain ⟨F, hF⟩ := hF
  have F0 : F M := by rw [hF]; exact ⟨h35, fun _ _ _ _ _ _ => rfl⟩
  have FA : ∀ Q, F Q → ga_A n m U V Q := fun Q h => by
    rw [hF] at h
    exact ga_Af hA (fun c hc => h.2 c (by omega) (by omega) (by omega) (by omega) (by omega))
  have Fu : ∀ Q k v, F Q → (k = 0 ∨ k = 1 ∨ k = 3 ∨ k = 4) → F (gx_u Q 35 k v) := fun Q k v h hk => by
    rw [hF] at h ⊢
    refine ⟨fun j hj j0 j1 j3 j4 => by rw [gx_u_ne (by omega)]; exact h.1 j hj j0 j1 j3 j4, fun c c1 c2 c3 c4 c5 => by rw [gx_u_nc c5]; exact h.2 c c1 c2 c3 c4 c5⟩
  have q11 : q ≤ 11 := by omega
  refine gx_start_i (L := [gx_R 13, gx_I w, gx_U, gx_U, gx_U, gx_U, gx_U]) (by decide) rfl rfl (Nat.le_of_ble_eq_true rfl) rfl ?_
  intro _ _ _ _ _ _ _ _ _ _ _ _ C
  refine gx_iconst C dX0_countKind_0 ?_
  refine gx_istore_n C dX0_countKind_1 (by decide) rfl ?_
  refine gx_aload_n C dX0_countKind_2 rfl ?_
  refine gx_getR C 0 _ 0 rfl (gd_13 hL) rfl (by decide) nX0_countKind_0 (gx_hts C _ fX0_countKind_12) dX0_countKind_3 ?_
  refine gx_getIN C 6 _ 1 rfl (gd_now hL).1 rfl (by decide) nX0_countKind_6 ((gx_hN C).1 ("PeirceDesk$Algebra", 58, "PeirceDesk$State", "modulus", "I", "PeirceDesk") (by decide +kernel) |> va_Nw.use rfl) dX0_countKind_6 b1 ?_
  refine gx_istore_n C dX0_countKind_9 (by decide) rfl ?_
  refine gx_iconst C dX0_countKind_10 ?_
  refine gx_istore C dX0_countKind_11 (by decide) rfl ?_
  refine gx_for q (fun c (p : gx_M × Int) => [gx_R 13, gx_I w, gx_I p.2, gx_I m, gx_I (c : Int), gx_U, gx_U]) (fun p => p.1) (fun c p => mx_cnt P (c * q * q) p.2 ∧ F p.1) 0 (M, 0) (by omega) ⟨by rw [Nat.zero_mul, Nat.zero_mul]; rfl, F0⟩ (fun c p hc hI ih => ?_) (fun p hI => ?_)
  · obtain ⟨Q, z0⟩ := p
    simp only at hI ⊢
    refine gx_iload C dX0_countKind_13 rfl ?_
    refine gx_iload_n C dX0_countKind_15 rfl ?_
    refine gx_icmp_ge C dX0_countKind_16 rfl (by unfold gx_3; omega) (by unfold gx_3; omega) (fun hb16 => absurd hb16 (by omega)) (fun hb16 => ?_)
    refine gx_iconst C dX0_countKind_19 ?_
    refine gx_istore C dX0_countKind_20 (by decide) rfl ?_
    refine gx_for q (fun s (p : gx_M × Int) => [gx_R 13, gx_I w, gx_I p.2, gx_I m, gx_I (c : Int), gx_I (s : Int), gx_U]) (fun p => p.1) (fun s p => mx_cnt P ((c * q + s) * q) p.2 ∧ F p.1) 0 (Q, z0) (by omega) hI (fun s p hs hI2 ih2 => ?_) (fun p hI2 => ?_)
    · obtain ⟨Q2, z2⟩ := p
      simp only at hI2 ⊢
      refine gx_iload C dX0_countKind_22 rfl ?_
      refine gx_iload_n C dX0_countKind_24 rfl ?_
      refine gx_icmp_ge C dX0_countKind_25 rfl (by unfold gx_3; omega) (by unfold gx_3; omega) (fun hb25 => absurd hb25 (by omega)) (fun hb25 => ?_)
      refine gx_iconst C dX0_countKind_28 ?_
      refine gx_istore C dX0_countKind_29 (by decide) rfl ?_
      refine gx_for q (fun o (p : gx_M × Int) => [gx_R 13, gx_I w, gx_I p.2, gx_I m, gx_I (c : Int), gx_I (s : Int), gx_I (o : Int)]) (fun p => p.1) (fun o p => mx_cnt P ((c * q + s) * q + o) p.2 ∧ F p.1) 0 (Q2, z2) (by omega) hI2 (fun o p ho hI3 ih3 => ?_) (fun p hI3 => ?_)
      · obtain ⟨Q3, z3⟩ := p
        obtain ⟨i1, i2⟩ := hI3
        simp only at i1 i2 ⊢
        refine gx_iload C dX0_countKind_31 rfl ?_
        refine gx_iload_n C dX0_countKind_33 rfl ?_
        refine gx_icmp_ge C dX0_countKind_34 rfl (by unfold gx_3; omega) (by unfold gx_3; omega) (fun hb34 => absurd hb34 (by omega)) (fun hb34 => ?_)
        refine gx_aload_n C dX0_countKind_37 rfl ?_
        refine gx_getR C 0 _ 9 rfl (gd_13 hL) rfl (by decide) nX0_countKind_0 (gx_hts C _ fX0_countKind_49) dX0_countKind_38 ?_
        refine gx_iconst C dX0_countKind_41 ?_
        refine gx_iload C dX0_countKind_42 rfl ?_
        refine gx_iastore C (gd_35 hL) (by omega) dX0_countKind_44 (show _ = 0 from rfl) ?_
        refine gx_aload_n C dX0_countKind_45 rfl ?_
        refine gx_getR C 0 _ 9 rfl (gd_13 hL) rfl (by decide) nX0_countKind_0 (gx_hts C _ fX0_countKind_49) dX0_countKind_46 ?_
        refine gx_iconst C dX0_countKind_49 ?_
        refine gx_iload C dX0_countKind_50 rfl ?_
        refine gx_iastore C (gd_35 hL) (by omega) dX0_countKind_52 (show _ = 1 from rfl) ?_
        refine gx_aload_n C dX0_countKind_53 rfl ?_
        refine gx_getR C 0 _ 9 rfl (gd_13 hL) rfl (by decide) nX0_countKind_0 (gx_hts C _ fX0_countKind_49) dX0_countKind_54 ?_
        refine gx_iconst C dX0_countKind_57 ?_
        refine gx_iload C dX0_countKind_58 rfl ?_
        refine gx_iastore C (gd_35 hL) (by omega) dX0_countKind_60 (show _ = 3 from rfl) ?_
        refine gx_aload_n C dX0_countKind_61 rfl ?_
        refine gx_getR C 0 _ 9 rfl (gd_13 hL) rfl (by decide) nX0_countKind_0 (gx_hts C _ fX0_countKind_49) dX0_countKind_62 ?_
        refine gx_iconst C dX0_countKind_65 ?_
        refine gx_iload C dX0_countKind_66 rfl ?_
        refine gx_iastore C (gd_35 hL) (by omega) dX0_countKind_68 (show _ = 4 from rfl) ?_
        refine gx_iload_n C dX0_countKind_69 rfl ?_
        refine gx_aload_n C dX0_countKind_70 rfl ?_
        refine gx_iload_n C dX0_countKind_71 rfl ?_
        have F4 := Fu _ 4 (o : Int) (Fu _ 3 (s : Int) (Fu _ 1 (s : Int) (Fu _ 0 (c : Int) i2 (by omega)) (by omega)) (by omega)) (by omega)
        have hv : mx_of (gx_u (gx_u (gx_u (gx_u Q3 35 0 (c : Int)) 35 1 (s : Int)) 35 3 (s : Int)) 35 4 (o : Int) 35) 0 = mc_vec q ((c * q + s) * q + o) := by
          have e1 : ((c * q + s) * q + o) / q = c * q + s := by rw [Nat.mul_comm, Nat.mul_add_div (by omega), Nat.div_eq_of_lt ho, Nat.add_zero]
          have e2 : ((c * q + s) * q + o) % q = o := by rw [Nat.mul_comm, Nat.mul_add_mod, Nat.mod_eq_of_lt ho]
          have e3 : (c * q + s) / q = c := by rw [Nat.mul_comm, Nat.mul_add_div (by omega), Nat.div_eq_of_lt hs, Nat.add_zero]
          have e4 : (c * q + s) % q = s := by rw [Nat.mul_comm, Nat.mul_add_mod, Nat.mod_eq_of_lt hs]
          rw [hF] at i2
          funext k
          unfold mc_vec
          rw [e1, e2, e3, e4]
          by_cases k9 : k < 9
          · rw [mx_of_at k9, Nat.zero_add]
            by_cases k4 : k = 4
            · rw [k4, gx_u_eq]
              rfl
            · rw [gx_u_ne (by omega)]
              by_cases k3 : k = 3
              · rw [k3, gx_u_eq]
                rfl
              · rw [gx_u_ne (by omega)]
                by_cases k1 : k = 1
                · rw [k1, gx_u_eq]
                  rfl
                · rw [gx_u_ne (by omega)]
                  by_cases k0 : k = 0
                  · rw [k0, gx_u_eq]
                    rfl
                  · rw [gx_u_ne (by omega), i2.1 k k9 k0 k1 k3 k4, if_neg k0, if_neg (by omega), if_neg k4]
          · rw [if_neg (by omega), if_neg (by omega), if_neg (by omega)]
            exact if_neg k9
        generalize gx_u (gx_u (gx_u (gx_u Q3 35 0 (c : Int)) 35 1 (s : Int)) 35 3 (s : Int)) 35 4 (o : Int) = Q4 at F4 hv ⊢
        have ov : mx_ok m (mc_vec q ((c * q + s) * q + o)) := by
          have e1 : ((c * q + s) * q + o) / q = c * q + s := by rw [Nat.mul_comm, Nat.mul_add_div (by omega), Nat.div_eq_of_lt ho, Nat.add_zero]
          have e2 : ((c * q + s) * q + o) % q = o := by rw [Nat.mul_comm, Nat.mul_add_mod, Nat.mod_eq_of_lt ho]
          have e3 : (c * q + s) / q = c := by rw [Nat.mul_comm, Nat.mul_add_div (by omega), Nat.div_eq_of_lt hs, Nat.add_zero]
          have e4 : (c * q + s) % q = s := by rw [Nat.mul_comm, Nat.mul_add_mod, Nat.mod_eq_of_lt hs]
          intro k hk
          unfold mc_vec
          rw [e1, e2, e3, e4]
          split
          · omega
          · split
            · omega
            · split <;> omega
        refine gx_callI C 0 rfl (gd_13 hL) (c_X0_isOfKind hL (FA Q4 F4) hv ov hw) (cwV 1 (gx_hts C) gX0_countKind_X0_isOfKind rfl rfl rfl (by decide +kernel) ⟨Nat.le_of_ble_eq_true rfl, Nat.le_of_ble_eq_true rfl⟩) rfl rfl (Nat.le_of_ble_eq_true rfl) ⟨Nat.le_refl _, Nat.le_refl _⟩ dX0_countKind_72 (fun t Q5 h5 => ?_)
        obtain ⟨h6, h7, h8⟩ := h5
        have F5 : F Q5 := by
          rw [hF] at F4 ⊢
          exact ⟨fun k hk k0 k1 k3 k4 => by rw [h8 35 (by decide) (by decide) (by decide) (by decide)]; exact F4.1 k hk k0 k1 k3 k4, fun c c1 c2 c3 c4 c5 => by rw [h8 c c1 c2 c3 c4]; exact F4.2 c c1 c2 c3 c4 c5⟩
        have h7' : t = 1 ↔ P ((c * q + s) * q + o) := by rw [h7, ← hP]
        refine gx_cut 83 (fun (_ : Int) => [gx_R 13, gx_I w, gx_I z3, gx_I m, gx_I (c : Int), gx_I (s : Int), gx_I (o : Int)]) (fun v => [gx_I v, gx_I z3]) (fun _ => Q5) (fun v => (P ((c * q + s) * q + o) ∧ v = 1) ∨ (¬ P ((c * q + s) * q + o) ∧ v = 0)) (fun v hv2 => ?_) (fun fin => ?_)
        · refine gx_iadd C dX0_countKind_83 ?_
          refine gx_istore_n C dX0_countKind_84 (by decide) rfl ?_
          refine gx_iinc C dX0_countKind_85 (by decide) rfl rfl ?_
          refine gx_goto C dX0_countKind_88 rfl ?_
          refine ih3 (Q5, z3 + v) ⟨⟨z3, i1, ?_⟩, F5⟩
          rcases hv2 with ⟨x, rfl⟩ | ⟨x, rfl⟩
          · exact Or.inl ⟨x, rfl⟩
          · exact Or.inr ⟨x, Int.add_zero _⟩
        · refine gx_if_eq C dX0_countKind_75 rfl (by unfold gx_3; omega) (fun hb75 => ?_) (fun hb75 => ?_)
          · refine gx_iconst C dX0_countKind_82 ?_
            exact fin 0 (Or.inr ⟨fun h => absurd (h7'.mpr h) (by omega), rfl⟩)
          · refine gx_iconst C dX0_countKind_78 ?_
            refine gx_goto C dX0_countKind_79 rfl ?_
            exact fin 1 (Or.inl ⟨h7'.mp (by omega), rfl⟩)
      · obtain ⟨Q3, z3⟩ := p
        simp only at hI3 ⊢
        refine gx_iload C dX0_countKind_31 rfl ?_
        refine gx_iload_n C dX0_countKind_33 rfl ?_
        refine gx_icmp_ge C dX0_countKind_34 rfl (by unfold gx_3; omega) (by unfold gx_3; omega) (fun hb34 => ?_) (fun hb34 => absurd (by omega) hb34)
        refine gx_iinc C dX0_countKind_91 (by decide) rfl rfl ?_
        refine gx_goto C dX0_countKind_94 rfl ?_
        exact gx_weak (L' := [gx_R 13, gx_I w, gx_I z3, gx_I m, gx_I (c : Int), gx_I ((s + 1 : Nat) : Int), gx_U]) ⟨Or.inr rfl, Or.inr rfl, Or.inr rfl, Or.inr rfl, Or.inr rfl, Or.inr rfl, Or.inl rfl, trivial⟩ (ih2 (Q3, z3) (by
          rw [show (c * q + (s + 1)) * q = (c * q + s) * q + q by rw [← Nat.add_assoc, Nat.add_mul (c * q + s) 1 q, Nat.one_mul]]
          exact hI3))
    · obtain ⟨Q2, z2⟩ := p
      simp only at hI2 ⊢
      refine gx_iload C dX0_countKind_22 rfl ?_
      refine gx_iload_n C dX0_countKind_24 rfl ?_
      refine gx_icmp_ge C dX0_countKind_25 rfl (by unfold gx_3; omega) (by unfold gx_3; omega) (fun hb25 => ?_) (fun hb25 => absurd (by omega) hb25)
      refine gx_iinc C dX0_countKind_97 (by decide) rfl rfl ?_
      refine gx_goto C dX0_countKind_100 rfl ?_
      exact gx_weak (L' := [gx_R 13, gx_I w, gx_I z2, gx_I m, gx_I ((c + 1 : Nat) : Int), gx_U, gx_U]) ⟨Or.inr rfl, Or.inr rfl, Or.inr rfl, Or.inr rfl, Or.inr rfl, Or.inl rfl, Or.inl rfl, trivial⟩ (ih (Q2, z2) (by
        rw [show (c + 1) * q * q = (c * q + q) * q by rw [Nat.add_mul c 1 q, Nat.one_mul]]
        exact hI2))
  · obtain ⟨Q, z0⟩ := p
    simp only at hI ⊢
    rw [hF] at hI
    refine gx_iload C dX0_countKind_13 rfl ?_
    refine gx_iload_n C dX0_countKind_15 rfl ?_
    refine gx_icmp_ge C dX0_countKind_16 rfl (by unfold gx_3; omega) (by unfold gx_3; omega) (fun hb16 => ?_) (fun hb16 => absurd (by omega) hb16)
    refine gx_iload_n C dX0_countKind_103 rfl ?_
    exact gx_iret C dX0_countKind_104 ⟨hI.1, hI.2⟩
