/-! HOW MANY: what the law asks of the four counts -/
theorem mn_congr {P Q : Nat → Prop} {n : Nat} (h : ∀ k, k < n → (P k ↔ Q k)) : ls_su (ls_chi P) n = ls_su (ls_chi Q) n := Int.le_antisymm (mn_imp (fun k hk g => (h k hk).mp g)) (mn_imp (fun k hk g => (h k hk).mpr g))
theorem mn_v0 {q : Nat} : mx_vec q 0 = fun _ => 0 := by
  funext i
  unfold mx_vec
  simp
theorem mn_all {s : sp_S} (hs : sp_ok s) (h2 : s.1 81 = 2) {z0 z1 z2 z3 : Int} (g0 : sp_many s 0 z0) (g1 : sp_many s 1 z1) (g2 : sp_many s 2 z2) (g3 : sp_many s 3 z3) : 2 ≤ z0 ∧ z3 = z0 ∧ z1 + z2 ≤ s.1 82 * s.1 82 * s.1 82 ∧ z1 = s.1 82 * s.1 82 * s.1 82 - s.1 82 * s.1 82 ∧ 1 ≤ z2 ∧ z3 ≤ z1 ∧ (0 ≤ z0 ∧ z0 ≤ 1331) ∧ (0 ≤ z1 ∧ z1 ≤ 1331) ∧ (0 ≤ z2 ∧ z2 ≤ 1331) := by
  have hn := sp_nn hs
  have hm := sp_p hs
  have h3 := ls_3 hm
  have hn2 : zs_nn s = 2 := by unfold zs_nn; rw [h2]; rfl
  obtain ⟨q, hq⟩ : ∃ q : Nat, s.1 82 = (q : Int) := ⟨(s.1 82).toNat, by omega⟩
  have hqn : (s.1 82).toNat = q := by omega
  have hqq : mn_q q := by
    rcases hm with e | e | e | e
    · exact Or.inl (by omega)
    · exact Or.inr (Or.inl (by omega))
    · exact Or.inr (Or.inr (Or.inl (by omega)))
    · exact Or.inr (Or.inr (Or.inr (by omega)))
  have hq3 : 3 ≤ q := by omega
  have un : ∀ {w z : Int}, 0 ≤ w ∧ w ≤ 3 → sp_many s w z → z = ls_su (ls_chi (fun k => zs_kind s w (mx_vec q k))) (q * q * q) := fun {w z} hw h => by
    unfold sp_many at h
    rw [if_pos hw, if_neg (by omega), hqn] at h
    exact ls_cnt2 h
  have e0 := un (by decide) g0
  have e1 := un (by decide) g1
  have e2 := un (by decide) g2
  have e3 := un (by decide) g3
  have kV : ∀ k, k < q * q * q → sp_V s (mx_vec q k) := fun k hk => by
    unfold sp_V
    rw [hn2, hq]
    exact ls_vecV hq3 hk
  have k0 : ∀ a, zs_kind s 0 a ↔ zs_prod s a a = a := fun a => by
    unfold zs_kind
    rw [if_pos rfl]
    exact Iff.rfl
  have k1 : ∀ a, zs_kind s 1 a ↔ ¬ mx_det (zs_nn s) (s.1 82) a = 0 := fun a => by
    unfold zs_kind
    rw [if_neg (by decide), if_pos rfl]
  have k2 : ∀ a, zs_kind s 2 a ↔ ∃ k, k < 10 ∧ zs_po s a a k = fun _ => 0 := fun a => by
    unfold zs_kind
    rw [if_neg (by decide), if_neg (by decide), if_pos rfl]
  have k3 : ∀ a, zs_kind s 3 a ↔ zs_prod s a a = zs_el s.1 9 := fun a => by
    unfold zs_kind
    rw [if_neg (by decide), if_neg (by decide), if_neg (by decide)]
  have hv := sp_V9 hs
  have hu := sp_Vel hs (r := 8) (by decide)
  have vu := tq_vu hs
  have uv := tq_uv hs
  have hN : q * q * q ≤ 1331 ∧ 0 < q * q * q := by
    rcases hqq with rfl | rfl | rfl | rfl <;> decide
  have inv_of : ∀ a, sp_V s a → zs_prod s a a = zs_el s.1 9 → ¬ mx_det (zs_nn s) (s.1 82) a = 0 := fun a ha h => by
    have h1 : zs_prod s a a = mx_mul (zs_nn s) (s.1 82) a (mx_mul (zs_nn s) (s.1 82) (zs_el s.1 8) a) := by
      unfold zs_prod mx_prod
      rw [al_half hm (al_r_mul h3), al_A hn]
    rw [h1] at h
    have h4 := congrArg (fun x => mx_mul (zs_nn s) (s.1 82) x (zs_el s.1 8)) h
    have h4 : mx_mul (zs_nn s) (s.1 82) (mx_mul (zs_nn s) (s.1 82) a (mx_mul (zs_nn s) (s.1 82) (zs_el s.1 8) a)) (zs_el s.1 8) = mx_mul (zs_nn s) (s.1 82) (zs_el s.1 9) (zs_el s.1 8) := h4
    rw [vu, al_A hn] at h4
    exact ls_nsing hn hm ha (Y := mx_mul (zs_nn s) (s.1 82) (mx_mul (zs_nn s) (s.1 82) (zs_el s.1 8) a) (zs_el s.1 8)) (by rw [mx_mul3 hn ha.2.1 mx_mul_z]; exact h4)
  have c1 : z1 = s.1 82 * s.1 82 * s.1 82 - s.1 82 * s.1 82 := by
    rw [e1, mn_dcs (q := q) (q * q * q) (fun k hk => by rw [k1, hn2, hq]; exact mn_det hqq), hq]
    rcases hqq with rfl | rfl | rfl | rfl
    · rw [mn_d3]; decide
    · rw [mn_d5]; decide
    · rw [mn_d7]; decide
    · rw [mn_d11]; decide
  have c2 : z3 = z0 := by
    rw [e3, e0, mn_congr (fun k _ => k3 (mx_vec q k)), mn_congr (fun k _ => k0 (mx_vec q k))]
    unfold zs_prod
    unfold sp_V at hv
    rw [hn2, hq] at hv vu uv ⊢
    exact mn_un hqq hv vu uv
  have c3 : z1 + z2 ≤ ((q * q * q : Nat) : Int) := by
    rw [e1, e2]
    refine mn_dis (fun k hk g1 g2 => ?_)
    obtain ⟨j, -, hj⟩ := (k2 _).mp g2
    rw [sp_po_sh hs (kV k hk)] at hj
    exact dg_inv hs (kV k hk) ((k1 _).mp g1) _ hj
  have c4 : 1 ≤ z2 := by
    rw [e2]
    refine mn_ge hN.2 ((k2 _).mpr ⟨0, by decide, ?_⟩)
    rw [mn_v0]
    rfl
  have c5 : z3 ≤ z1 := by
    rw [e3, e1]
    exact mn_imp (fun k hk g => (k1 _).mpr (inv_of _ (kV k hk) ((k3 _).mp g)))
  have c6 : 2 ≤ z0 := by
    rw [e0]
    have hv2 : mx_V 2 (q : Int) (zs_el s.1 9) := by
      have := hv
      unfold sp_V at this
      rwa [hn2, hq] at this
    obtain ⟨t4, t1, t0, ⟨a4, a1, a0⟩, hve⟩ := mn_ofV hqq hv2
    have hvk := mn_vec hqq a4 a1 a0
    rw [← hve] at hvk
    have hlt : (t4 * q + t1) * q + t0 < q * q * q := by
      have b1 : t4 * q + t1 < q * q := by
        have : (t4 + 1) * q ≤ q * q := Nat.mul_le_mul_right q a4
        rw [Nat.add_mul, Nat.one_mul] at this
        omega
      have b2 : (t4 * q + t1 + 1) * q ≤ q * q * q := Nat.mul_le_mul_right q b1
      rw [Nat.add_mul (t4 * q + t1), Nat.one_mul] at b2
      omega
    refine mn_ge2 hN.2 hlt (fun e => ?_) ((k0 _).mpr ?_) ((k0 _).mpr ?_)
    · rw [← e, mn_v0] at hvk
      exact dg_v0 hs hvk.symm
    · rw [mn_v0]
      unfold zs_prod mx_prod
      rw [al_half hm (al_r_mul h3), al_0R hn]
    · rw [hvk]
      exact al_2 hn hm hv vu uv
  have c7 : z0 ≤ ((q * q * q : Nat) : Int) := by
    rw [e0, ← mn_1]
    exact mn_le _ (fun i _ => by rcases mn_chi (P := fun k => zs_kind s 0 (mx_vec q k)) i with e | e <;> omega)
  have c8 : 0 ≤ z1 := by omega
  have hc : s.1 82 * s.1 82 * s.1 82 = ((q * q * q : Nat) : Int) := by
    rw [hq]
    simp
  rw [hc] at c1
  rw [hc]
  exact ⟨c6, c2, c3, c1, c4, c5, by omega, by omega, by omega⟩
theorem mn_3 {s : sp_S} (h2 : s.1 81 = 3) {z0 : Int} (g0 : sp_many s 0 z0) : z0 = -5 := by
  unfold sp_many at g0
  rw [if_pos (by decide), if_pos h2] at g0
  exact g0
