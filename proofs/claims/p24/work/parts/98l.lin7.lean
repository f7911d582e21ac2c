/-! counting in another order -/
noncomputable def ls_chi (P : Nat → Prop) (k : Nat) : Int := @ite _ (P k) (Classical.propDecidable _) 1 0
theorem ls_chi1 {P : Nat → Prop} {k : Nat} (h : P k) : ls_chi P k = 1 := if_pos h
theorem ls_chi0 {P : Nat → Prop} {k : Nat} (h : ¬ P k) : ls_chi P k = 0 := if_neg h
theorem ls_cnt1 {P : Nat → Prop} : ∀ k, mx_cnt P k (ls_su (ls_chi P) k)
  | 0 => rfl
  | k + 1 => by
    refine ⟨ls_su (ls_chi P) k, ls_cnt1 k, ?_⟩
    by_cases h : P k
    · exact Or.inl ⟨h, by show ls_su (ls_chi P) k + ls_chi P k = _; rw [ls_chi1 h]⟩
    · exact Or.inr ⟨h, by show ls_su (ls_chi P) k + ls_chi P k = _; rw [ls_chi0 h, Int.add_zero]⟩
theorem ls_cnt2 {P : Nat → Prop} {k : Nat} {z : Int} (h : mx_cnt P k z) : z = ls_su (ls_chi P) k := mx_cnt_u k _ _ h (ls_cnt1 k)
theorem ls_su_app (f : Nat → Int) (a : Nat) : ∀ b, ls_su f (a + b) = ls_su f a + ls_su (fun j => f (a + j)) b
  | 0 => by show ls_su f a = ls_su f a + 0; omega
  | b + 1 => by
    show ls_su f (a + b) + f (a + b) = ls_su f a + (ls_su (fun j => f (a + j)) b + f (a + b))
    rw [ls_su_app f a b]
    omega
theorem ls_su_blk (f : Nat → Int) (b : Nat) : ∀ a, ls_su f (a * b) = ls_su (fun i => ls_su (fun j => f (i * b + j)) b) a
  | 0 => by rw [Nat.zero_mul]; rfl
  | a + 1 => by
    rw [Nat.succ_mul, ls_su_app, ls_su_blk f b a]
    rfl
theorem ls_su_3 (f : Nat → Int) (q : Nat) : ls_su f (q * q * q) = ls_su (fun i => ls_su (fun j => ls_su (fun l => f ((i * q + j) * q + l)) q) q) q := by
  rw [ls_su_blk, ls_su_blk]
theorem ls_vec {q i j l : Nat} (hj : j < q) (hl : l < q) (hi : i < q) : mx_vec q ((i * q + j) * q + l) = mc_vec q ((l * q + j) * q + i) := by
  have e1 : ∀ {x y : Nat}, y < q → (x * q + y) % q = y := fun {x y} h => by
    rw [Nat.add_comm, Nat.add_mul_mod_self_right, Nat.mod_eq_of_lt h]
  have e2 : ∀ {x y : Nat}, y < q → (x * q + y) / q = x := fun {x y} h => by
    rw [Nat.add_comm, Nat.add_mul_div_right _ _ (by omega), Nat.div_eq_of_lt h, Nat.zero_add]
  funext k
  unfold mx_vec mc_vec
  rw [e1 hl, e1 hi, e2 hl, e2 hi, e1 hj, e1 hj, e2 hj, e2 hj]
theorem ls_many {q : Nat} {Q Q' : (Nat → Int) → Prop} {z : Int} (h : mx_cnt (fun k => Q (mc_vec q k)) (q * q * q) z) (hQ : ∀ k, k < q * q * q → (Q' (mx_vec q k) ↔ Q (mx_vec q k))) : mx_cnt (fun k => Q' (mx_vec q k)) (q * q * q) z := by
  have h1 := ls_cnt2 h
  have h2 : ls_su (ls_chi (fun k => Q' (mx_vec q k))) (q * q * q) = ls_su (ls_chi (fun k => Q (mx_vec q k))) (q * q * q) := ls_su_c _ (fun k hk => by
    by_cases e : Q (mx_vec q k)
    · rw [ls_chi1 (P := fun k => Q (mx_vec q k)) e, ls_chi1 (P := fun k => Q' (mx_vec q k)) ((hQ k hk).mpr e)]
    · rw [ls_chi0 (P := fun k => Q (mx_vec q k)) e, ls_chi0 (P := fun k => Q' (mx_vec q k)) (fun g => e ((hQ k hk).mp g))])
  have h3 : ls_su (ls_chi (fun k => Q (mx_vec q k))) (q * q * q) = ls_su (ls_chi (fun k => Q (mc_vec q k))) (q * q * q) := by
    rw [ls_su_3, ls_su_3]
    have e1 : ls_su (fun i => ls_su (fun j => ls_su (fun l => ls_chi (fun k => Q (mx_vec q k)) ((i * q + j) * q + l)) q) q) q = ls_su (fun i => ls_su (fun j => ls_su (fun l => ls_chi (fun k => Q (mc_vec q k)) ((l * q + j) * q + i)) q) q) q := ls_su_c _ (fun i hi => ls_su_c _ (fun j hj => ls_su_c _ (fun l hl => by
      have e := ls_vec hj hl hi
      by_cases g : Q (mc_vec q ((l * q + j) * q + i))
      · rw [ls_chi1 (P := fun k => Q (mc_vec q k)) g, ls_chi1 (P := fun k => Q (mx_vec q k)) (by rw [e]; exact g)]
      · rw [ls_chi0 (P := fun k => Q (mc_vec q k)) g, ls_chi0 (P := fun k => Q (mx_vec q k)) (by rw [e]; exact g)])))
    rw [e1]
    generalize ls_chi (fun k => Q (mc_vec q k)) = g
    have e2 : ∀ i, ls_su (fun j => ls_su (fun l => g ((l * q + j) * q + i)) q) q = ls_su (fun l => ls_su (fun j => g ((l * q + j) * q + i)) q) q := fun i => ls_su_sw _ _ _
    rw [ls_su_c (g := fun i => ls_su (fun l => ls_su (fun j => g ((l * q + j) * q + i)) q) q) q (fun i _ => e2 i), ls_su_sw]
    refine ls_su_c _ (fun l _ => ?_)
    rw [ls_su_sw]
  rw [h1, ← h3, ← h2]
  exact ls_cnt1 _
/-! the kinds -/
theorem ls_ch2u {m : Int} {W : Nat → Int} (zW : mx_z 2 W) : ∃ t d : Int, ∀ v, mx_z 2 v → ∀ k, k < 9 → m ∣ mx_pw m W v 2 k - (t * mx_pw m W v 1 k + d * mx_pw m W v 0 k) := by
  refine ⟨W 0 + W 4, -(W 0 * W 4 - W 1 * W 3), fun v zv k hk => ?_⟩
  have hr : k / 3 < 3 := by omega
  have hc : k % 3 < 3 := by omega
  rw [show k = 3 * (k / 3) + k % 3 by omega]
  generalize k / 3 = r at hr ⊢
  generalize k % 3 = c at hc ⊢
  have d0 : ∀ i, i < 3 → m ∣ mx_pw m W v 0 (3 * i + c) - (fun i => v (3 * i + c)) i := fun i _ => ⟨0, by show v (3 * i + c) - v (3 * i + c) = _; omega⟩
  have d1 : ∀ i, i < 3 → m ∣ mx_pw m W v 1 (3 * i + c) - ls_mv W (fun i => v (3 * i + c)) i := ls_pw_d hc d0
  have d2 : ∀ i, i < 3 → m ∣ mx_pw m W v 2 (3 * i + c) - ls_mv W (ls_mv W (fun i => v (3 * i + c))) i := ls_pw_d hc d1
  have e := ls_ch2 W (fun i => v (3 * i + c)) (zW.1 2 0 (by decide) (by decide) (by decide)).2 (zW.1 2 1 (by decide) (by decide) (by decide)).2 (zW.1 2 0 (by decide) (by decide) (by decide)).1 (zW.1 2 1 (by decide) (by decide) (by decide)).1 (zW.1 2 2 (by decide) (by decide) (by decide)).1 (zv.1 2 c (by decide) hc (by decide)).1 hr
  obtain ⟨p1, q1⟩ := d1 r hr
  obtain ⟨p2, q2⟩ := d2 r hr
  have f0 : mx_pw m W v 0 (3 * r + c) = v (3 * r + c) := rfl
  have q1 : mx_pw m W v 1 (3 * r + c) = ls_mv W (fun i => v (3 * i + c)) r + m * p1 := by omega
  have q2 : mx_pw m W v 2 (3 * r + c) = ls_mv W (ls_mv W (fun i => v (3 * i + c))) r + m * p2 := by omega
  rw [f0, q1, q2, e]
  clear e q1 q2 d0 d1 d2 f0
  generalize ls_mv W (fun i => v (3 * i + c)) r = x1
  exact ⟨p2 - (W 0 + W 4) * p1, by grind⟩
theorem ls_pw_sh {m : Int} {W v : Nat → Int} (i : Nat) : ∀ j, mx_pw m W v (i + j) = mx_pw m W (mx_pw m W v i) j
  | 0 => rfl
  | j + 1 => by
    show mx_mul 3 m W (mx_pw m W v (i + j)) = mx_mul 3 m W (mx_pw m W (mx_pw m W v i) j)
    rw [ls_pw_sh i j]
theorem ls_mul_0 {m : Int} {W : Nat → Int} : mx_mul 3 m W (fun _ => 0) = fun _ => 0 := by
  funext k
  by_cases h : k < 9
  · have e := @mx_mul3_at m W (fun _ => 0) (k / 3) (k % 3) (by omega) (by omega)
    rw [show 3 * (k / 3) + k % 3 = k by omega] at e
    rw [e, mx_ps3]
    simp
  · exact mx_mul_9 k (by omega)
/-- at the size 2 the second power is 0, if one is -/
theorem ls_nil {m : Int} (hm : ls_p m) {W v : Nat → Int} (zW : mx_z 2 W) (hp : ∀ k, mx_ok m (mx_pw m W v k) ∧ mx_z 2 (mx_pw m W v k)) : ∀ j, 1 ≤ j → mx_pw m W v j = (fun _ => 0) → mx_pw m W v 2 = fun _ => 0 := by
  obtain ⟨t, d, htd⟩ := ls_ch2u (m := m) zW
  intro j
  induction j using Nat.strongRecOn with
  | ind j ih =>
    intro h1 h0
    by_cases e1 : j = 1
    · subst e1
      show mx_mul 3 m W (mx_pw m W v 1) = _
      rw [h0, ls_mul_0]
    by_cases e2 : j = 2
    · rw [← e2]; exact h0
    by_cases e3 : mx_pw m W v (j - 1) = fun _ => 0
    · exact ih (j - 1) (by omega) (by omega) e3
    · obtain ⟨k, hk⟩ : ∃ k, mx_pw m W v (j - 1) k ≠ 0 := Classical.byContradiction fun h => e3 (funext fun k => Classical.byContradiction fun g => h ⟨k, g⟩)
      have hk9 : k < 9 := by
        rcases Nat.lt_or_ge k 9 with h | h
        · exact h
        · exact absurd ((hp (j - 1)).2.2 k h) hk
      have hnd : ¬ m ∣ mx_pw m W v (j - 1) k := fun q => hk (ls_r0 ((hp (j - 1)).1 k hk9) q)
      have hj1 : mx_pw m W v (j + 1) = fun _ => 0 := by
        show mx_mul 3 m W (mx_pw m W v j) = _
        rw [h0, ls_mul_0]
      have sh : ∀ i, ∀ k, k < 9 → m ∣ mx_pw m W v (i + 2) k - (t * mx_pw m W v (i + 1) k + d * mx_pw m W v i k) := fun i k hk => by
        rw [ls_pw_sh i 2, ls_pw_sh i 1]
        exact htd _ (hp i).2 k hk
      have a1 := sh (j - 1) k hk9
      rw [show j - 1 + 2 = j + 1 by omega, show j - 1 + 1 = j by omega, hj1, h0] at a1
      have hd : m ∣ d := by
        obtain ⟨p, a1⟩ := a1
        refine ls_can hm hnd ⟨-p, ?_⟩
        rw [Int.mul_comm, Int.mul_neg]
        dsimp only at a1
        omega
      have a2 := sh (j - 2) k hk9
      rw [show j - 2 + 2 = j by omega, show j - 2 + 1 = j - 1 by omega, h0] at a2
      have ht : m ∣ t := by
        obtain ⟨p, a2⟩ := a2
        obtain ⟨w, hd⟩ := hd
        refine ls_can hm hnd ⟨-p - w * mx_pw m W v (j - 2) k, ?_⟩
        dsimp only at a2
        rw [hd] at a2
        grind
      funext i
      by_cases hi : i < 9
      · have a3 := sh 0 i hi
        refine ls_r0 ((hp 2).1 i hi) ?_
        have := Int.dvd_add a3 (Int.dvd_add (Int.dvd_mul_of_dvd_left (b := t) (c := mx_pw m W v (0 + 1) i) ht) (Int.dvd_mul_of_dvd_left (b := d) (c := mx_pw m W v 0 i) hd))
        rwa [show mx_pw m W v (0 + 2) i - (t * mx_pw m W v (0 + 1) i + d * mx_pw m W v 0 i) + (t * mx_pw m W v (0 + 1) i + d * mx_pw m W v 0 i) = mx_pw m W v 2 i by show mx_pw m W v 2 i - _ + _ = _; omega] at this
      · exact (hp 2).2.2 i (by omega)
theorem ls_vecV {q : Nat} (hq : 3 ≤ q) {k : Nat} (hk : k < q * q * q) : mx_V 2 (q : Int) (mx_vec q k) := by
  have h1 : k % q < q := Nat.mod_lt _ (by omega)
  have h2 : k / q % q < q := Nat.mod_lt _ (by omega)
  have h3 : k / q / q < q := Nat.div_lt_of_lt_mul (Nat.div_lt_of_lt_mul (by rw [Nat.mul_comm]; exact hk))
  refine ⟨fun i hi => ?_, ⟨fun i j hi hj h => ?_, fun i hi => ?_⟩, fun i j hi hj => ?_⟩
  · unfold mx_vec
    generalize k / q / q = x3 at h3 ⊢
    generalize k / q % q = x2 at h2 ⊢
    split
    · omega
    · split
      · omega
      · split <;> omega
  · have : i = 2 := by omega
    subst this
    unfold mx_vec
    refine ⟨?_, ?_⟩ <;> rw [if_neg (by omega), if_neg (by omega), if_neg (by omega)]
  · unfold mx_vec
    rw [if_neg (by omega), if_neg (by omega), if_neg (by omega)]
  · unfold mx_vec
    rcases (show i = 0 ∨ i = 1 ∨ i = 2 by omega) with rfl | rfl | rfl <;> rcases (show j = 0 ∨ j = 1 ∨ j = 2 by omega) with rfl | rfl | rfl <;> rfl
theorem sp_kd {s : sp_S} (hs : sp_ok s) (h2 : s.1 81 = 2) {w : Int} (hw : 0 ≤ w ∧ w ≤ 3) {c : Nat → Int} (hc : sp_V s c) : zs_kind s w c ↔ mc_kd (s.1 82) (s.1 81) (zs_el s.1 8) (zs_el s.1 9) w c := by
  have hn : zs_nn s = 2 := by unfold zs_nn; omega
  have hni : s.1 81 = ((zs_nn s : Nat) : Int) := by omega
  have hp := sp_pe hs hc hc
  unfold zs_kind mc_kd
  rcases (show w = 0 ∨ w = 1 ∨ w = 2 ∨ w = 3 by omega) with rfl | rfl | rfl | rfl
  · rw [if_pos rfl, if_neg (by decide), if_neg (by decide), if_pos rfl, hp]
    exact Iff.rfl
  · rw [if_neg (by decide), if_pos rfl, if_pos rfl, hni]
    constructor
    · intro h
      obtain ⟨q, hq⟩ := ls_runx (sp_p hs) (rr_ld_ok (ls_3 (sp_p hs)) (n := ((zs_nn s : Nat) : Int)) hc.1) (pv := 1) 3 (by decide)
      exact ⟨q, hq, by rw [(ls_gj (sp_nn hs) (sp_p hs) hc hq).2.1]; exact h⟩
    · rintro ⟨q, hq, h⟩
      rw [(ls_gj (sp_nn hs) (sp_p hs) hc hq).2.1] at h
      exact h
  · rw [if_neg (by decide), if_neg (by decide), if_pos rfl, if_neg (by decide), if_pos rfl, hp]
    constructor
    · rintro ⟨k, hk, h⟩
      have h1 : zs_po s c (zs_el s.1 9) = _ := sp_po_pw hs hc
      have h3 : zs_prod s c c = zs_po s c (zs_el s.1 9) 2 := sp_po_sh hs hc 1
      rw [sp_po_sh hs hc k, h1] at h
      rw [h3, h1]
      have zW := sp_W_z hs hc
      rw [hn] at zW
      refine ls_nil (sp_p hs) zW (fun k => ?_) (k + 1) (by omega) h
      have := (sp_poV hs hc (sp_V9 hs) k).2
      rw [h1] at this
      unfold sp_V at this
      rw [hn] at this
      exact ⟨this.1, this.2.1⟩
    · intro h
      exact ⟨1, by decide, h⟩
  · rw [if_neg (by decide), if_neg (by decide), if_neg (by decide), if_neg (by decide), if_neg (by decide), if_neg (by decide), hp]
theorem sp_manyof {s : sp_S} (hs : sp_ok s) (h2 : s.1 81 = 2) {w : Int} (hw : 0 ≤ w ∧ w ≤ 3) {q : Nat} (hq : s.1 82 = (q : Int)) {z : Int} (h : mx_cnt (fun k => mc_kd (s.1 82) (s.1 81) (zs_el s.1 8) (zs_el s.1 9) w (mc_vec q k)) (q * q * q) z) : sp_many s w z := by
  have hm := hs.1.2.1
  unfold sp_many
  rw [if_pos hw, if_neg (by omega), show (s.1 82).toNat = q by omega]
  refine ls_many (Q := mc_kd (s.1 82) (s.1 81) (zs_el s.1 8) (zs_el s.1 9) w) (Q' := zs_kind s w) h (fun k hk => sp_kd hs h2 hw ?_)
  have := ls_vecV (q := q) (by omega) hk
  unfold sp_V
  rw [show zs_nn s = 2 by unfold zs_nn; omega, hq]
  exact this
