/-! each relation has one answer -/
theorem mx_01_u {P : Prop} {z w : Int} (h : (z = 0 ∨ z = 1) ∧ (z = 1 ↔ P)) (g : (w = 0 ∨ w = 1) ∧ (w = 1 ↔ P)) : z = w := by
  obtain ⟨h1, h2⟩ := h
  obtain ⟨g1, g2⟩ := g
  by_cases q : P
  · rw [h2.mpr q, g2.mpr q]
  · have a : z ≠ 1 := fun e => q (h2.mp e)
    have b : w ≠ 1 := fun e => q (g2.mp e)
    omega
theorem mx_00_u {P : Prop} {z w : Int} (h : (z = 0 ∨ z = 1) ∧ (z = 0 ↔ P)) (g : (w = 0 ∨ w = 1) ∧ (w = 0 ↔ P)) : z = w := by
  obtain ⟨h1, h2⟩ := h
  obtain ⟨g1, g2⟩ := g
  by_cases q : P
  · rw [h2.mpr q, g2.mpr q]
  · have a : z ≠ 0 := fun e => q (h2.mp e)
    have b : w ≠ 0 := fun e => q (g2.mp e)
    omega
theorem mx_nz_u {f : Nat → Int} {x y : Int} (h : mx_nz f x) (g : mx_nz f y) : x = y := by
  rcases h with ⟨a, h⟩ | ⟨a, h⟩ <;> rcases g with ⟨b, g⟩ | ⟨b, g⟩
  · rw [h, g]
  · exact absurd a b
  · exact absurd b a
  · rw [h, g]
theorem zs_cn_u {s : sp_S} {e b : Nat → Int} : ∀ k z w, zs_cn s e b k z → zs_cn s e b k w → z = w
  | 0, z, w, h, g => by
    have h : z = 0 := h
    have g : w = 0 := g
    rw [h, g]
  | k + 1, z, w, h, g => by
    obtain ⟨y, q, h1, h2, h3⟩ := h
    obtain ⟨x, r, g1, g2, g3⟩ := g
    rw [h3, g3, zs_cn_u k y x h1 g1, mx_nz_u h2 g2]
theorem sp_undo_u {s s1 s2 : sp_S} {z w : Int} (h : sp_undo s z s1) (g : sp_undo s w s2) : z = w ∧ s1 = s2 := by
  unfold sp_undo at h g
  split at h
  · next q => rw [if_pos q] at g; exact ⟨h.1.trans g.1.symm, h.2.trans g.2.symm⟩
  · next q => rw [if_neg q] at g; exact ⟨h.1.trans g.1.symm, h.2.trans g.2.symm⟩
theorem sp_save_u {s s1 s2 : sp_S} {j z w : Int} (h : sp_save s j z s1) (g : sp_save s j w s2) : z = w ∧ s1 = s2 := by
  unfold sp_save at h g
  split at h
  · next q => rw [if_pos q] at g; exact ⟨h.1.trans g.1.symm, h.2.trans g.2.symm⟩
  · next q => rw [if_neg q] at g; exact ⟨h.1.trans g.1.symm, h.2.trans g.2.symm⟩
theorem sp_restore_u {s s1 s2 : sp_S} {j z w : Int} (h : sp_restore s j z s1) (g : sp_restore s j w s2) : z = w ∧ s1 = s2 := by
  unfold sp_restore at h g
  split at h
  · next q =>
    rw [if_pos q] at g
    split at h
    · next q => rw [if_pos q] at g; exact ⟨h.1.trans g.1.symm, h.2.trans g.2.symm⟩
    · next q => rw [if_neg q] at g; exact ⟨h.1.trans g.1.symm, h.2.trans g.2.symm⟩
  · next q => rw [if_neg q] at g; exact ⟨h.1.trans g.1.symm, h.2.trans g.2.symm⟩
theorem sp_begin_u {s s1 s2 : sp_S} {a b z w : Int} (h : sp_begin s a b z s1) (g : sp_begin s a b w s2) : z = w ∧ s1 = s2 := by
  unfold sp_begin at h g
  split at h
  · next q => rw [if_pos q] at g; exact ⟨h.1.trans g.1.symm, h.2.trans g.2.symm⟩
  · next q => rw [if_neg q] at g; exact ⟨h.1.trans g.1.symm, h.2.trans g.2.symm⟩
theorem sp_set_u {s s1 s2 : sp_S} {r i j v z w : Int} (h : sp_set s r i j v z s1) (g : sp_set s r i j v w s2) : z = w ∧ s1 = s2 := by
  unfold sp_set at h g
  split at h
  · next q =>
    rw [if_pos q] at g
    split at h
    · next q => rw [if_pos q] at g; exact ⟨h.1.trans g.1.symm, h.2.trans g.2.symm⟩
    · next q => rw [if_neg q] at g; exact ⟨h.1.trans g.1.symm, h.2.trans g.2.symm⟩
  · next q => rw [if_neg q] at g; exact ⟨h.1.trans g.1.symm, h.2.trans g.2.symm⟩
theorem sp_base_u {s s1 s2 : sp_S} {r z w : Int} (h : sp_base s r z s1) (g : sp_base s r w s2) : z = w ∧ s1 = s2 := by
  unfold sp_base at h g
  split at h
  · next q =>
    rw [if_pos q] at g
    split at h
    · next q => rw [if_pos q] at g; exact ⟨h.1.trans g.1.symm, h.2.trans g.2.symm⟩
    · next q => rw [if_neg q] at g; exact ⟨h.1.trans g.1.symm, h.2.trans g.2.symm⟩
  · next q => rw [if_neg q] at g; exact ⟨h.1.trans g.1.symm, h.2.trans g.2.symm⟩
theorem sp_split_u {s s1 s2 : sp_S} {a b t z w : Int} (h : sp_split s a b t z s1) (g : sp_split s a b t w s2) : z = w ∧ s1 = s2 := by
  unfold sp_split at h g
  split at h
  · next q =>
    rw [if_pos q] at g
    by_cases e : zs_sq s (zs_el s.1 a.toNat)
    · exact ⟨zs_cn_u 3 z w (h.1 e).1 (g.1 e).1, (h.1 e).2.trans (g.1 e).2.symm⟩
    · exact ⟨(h.2 e).1.trans (g.2 e).1.symm, (h.2 e).2.trans (g.2 e).2.symm⟩
  · next q => rw [if_neg q] at g; exact ⟨h.1.trans g.1.symm, h.2.trans g.2.symm⟩
theorem pm_fin_u {s : sp_S} {t u : pm_S} (h : pm_fin s t) (g : pm_fin s u) : t = u := Option.some.inj (h.1.symm.trans g.1)
theorem sp_run_u {s s1 s2 : sp_S} {z w : Int} (h : sp_run s z s1) (g : sp_run s w s2) : z = w ∧ s1 = s2 := by
  rcases h with ⟨h0, h1, h2⟩ | ⟨t, h1, h2⟩ <;> rcases g with ⟨g0, g1, g2⟩ | ⟨u, g1, g2⟩
  · exact ⟨h1.trans g1.symm, h2.trans g2.symm⟩
  · exact absurd (pm_flt_f g1) h0
  · exact absurd (pm_flt_f h1) g0
  · have := pm_fin_u h1 g1
    subst this
    split at h2
    · next q => rw [if_pos q] at g2; exact ⟨h2.1.trans g2.1.symm, h2.2.trans g2.2.symm⟩
    · next q => rw [if_neg q] at g2; exact ⟨h2.1.trans g2.1.symm, h2.2.trans g2.2.symm⟩
theorem sp_holds_u {s : sp_S} {z w : Int} (h : sp_holds s z) (g : sp_holds s w) : z = w := by
  rcases h with ⟨h0, h1⟩ | ⟨t, h1, h2⟩ <;> rcases g with ⟨g0, g1⟩ | ⟨u, g1, g2⟩
  · exact h1.trans g1.symm
  · exact absurd (pm_flt_f g1) h0
  · exact absurd (pm_flt_f h1) g0
  · have := pm_fin_u h1 g1
    subst this
    split at h2
    · next q => rw [if_pos q] at g2; exact h2.trans g2.symm
    · next q => rw [if_neg q] at g2; exact mx_01_u h2 g2
theorem sp_stops_u {s : sp_S} {z w : Int} (h : sp_stops s z) (g : sp_stops s w) : z = w := by
  rcases h with ⟨h0, h1⟩ | ⟨t, h1, h2⟩ <;> rcases g with ⟨g0, g1⟩ | ⟨u, g1, g2⟩
  · exact h1.trans g1.symm
  · exact absurd (pm_flt_f g1) h0
  · exact absurd (pm_flt_f h1) g0
  · have := pm_fin_u h1 g1
    subst this
    exact h2.trans g2.symm
theorem sp_entry_u {s : sp_S} {r i j z w : Int} (h : sp_entry s r i j z) (g : sp_entry s r i j w) : z = w := by
  unfold sp_entry at h g
  split at h
  · next q => rw [if_pos q] at g; exact h.trans g.symm
  · next q => rw [if_neg q] at g; exact h.trans g.symm
theorem sp_same_u {s : sp_S} {r q z w : Int} (h : sp_same s r q z) (g : sp_same s r q w) : z = w := by
  unfold sp_same at h g
  split at h
  · next q => rw [if_pos q] at g; exact mx_01_u h g
  · next q => rw [if_neg q] at g; exact h.trans g.symm
theorem sp_power_u {s : sp_S} {r k i j z w : Int} (h : sp_power s r k i j z) (g : sp_power s r k i j w) : z = w := by
  unfold sp_power at h g
  split at h
  · next q =>
    rw [if_pos q] at g
    split at h
    · next q => rw [if_pos q] at g; exact h.trans g.symm
    · next q => rw [if_neg q] at g; exact h.trans g.symm
  · next q => rw [if_neg q] at g; exact h.trans g.symm
theorem sp_rule_u {s : sp_S} {a b c w z y : Int} (h : sp_rule s a b c w z) (g : sp_rule s a b c w y) : z = y := by
  unfold sp_rule at h g
  split at h
  · next q =>
    rw [if_pos q] at g
    split at h
    · next q =>
      rw [if_pos q] at g
      split at h
      · next q => rw [if_pos q] at g; exact h.trans g.symm
      · next q => rw [if_neg q] at g; exact mx_01_u h g
    · next q => rw [if_neg q] at g; exact h.trans g.symm
  · next q => rw [if_neg q] at g; exact h.trans g.symm
theorem sp_count_u {s : sp_S} {w z y : Int} (h : sp_count s w z) (g : sp_count s w y) : z = y := by
  unfold sp_count at h g
  split at h
  · next q => rw [if_pos q] at g; exact h.trans g.symm
  · next q =>
    rw [if_neg q] at g
    split at h
    · next q => rw [if_pos q] at g; exact h.trans g.symm
    · next q =>
      rw [if_neg q] at g
      split at h
      · next q => rw [if_pos q] at g; exact mx_bit_u 8 z y h g
      · next q =>
        rw [if_neg q] at g
        split at h
        · next q => rw [if_pos q] at g; exact mx_bit_u 8 z y h g
        · next q =>
          rw [if_neg q] at g
          split at h
          · next q => rw [if_pos q] at g; exact h.trans g.symm
          · next q =>
            rw [if_neg q] at g
            split at h
            · next q => rw [if_pos q] at g; exact h.trans g.symm
            · next q => rw [if_neg q] at g; exact h.trans g.symm
theorem sp_deg_u {s : sp_S} {a : Nat → Int} {K L : Nat} (h : sp_deg s a K) (g : sp_deg s a L) : K = L := by
  obtain ⟨h1, h2, h3⟩ := h
  obtain ⟨g1, g2, g3⟩ := g
  rcases Nat.lt_trichotomy K L with q | q | q
  · have := g2 (K + 1) (by omega)
    omega
  · exact q
  · have := h2 (L + 1) (by omega)
    omega
theorem sp_of_u {s : sp_S} {r w z y : Int} (h : sp_of s r w z) (g : sp_of s r w y) : z = y := by
  unfold sp_of at h g
  split at h
  · next q =>
    rw [if_pos q] at g
    split at h
    · next q => rw [if_pos q] at g; exact h.trans g.symm
    · next q =>
      rw [if_neg q] at g
      split at h
      · next q => rw [if_pos q] at g; exact h.trans g.symm
      · next q =>
        rw [if_neg q] at g
        split at h
        · next q => rw [if_pos q] at g; exact h.trans g.symm
        · next q =>
          rw [if_neg q] at g
          split at h
          · next q => rw [if_pos q] at g; exact mx_01_u h g
          · next q =>
            rw [if_neg q] at g
            split at h
            · next q => rw [if_pos q] at g; exact mx_00_u h g
            · next q =>
              rw [if_neg q] at g
              split at h
              · next q => rw [if_pos q] at g; exact mx_fst_u h g
              · next q =>
                rw [if_neg q] at g
                split at h
                · next q =>
                  rw [if_pos q] at g
                  obtain ⟨K, k1, k2⟩ := h
                  obtain ⟨L, l1, l2⟩ := g
                  rw [k2, l2, sp_deg_u k1 l1]
                · next q =>
                  rw [if_neg q] at g
                  split at h
                  · next q => rw [if_pos q] at g; exact mx_fst_u h g
                  · next q => rw [if_neg q] at g; exact h.trans g.symm
  · next q => rw [if_neg q] at g; exact h.trans g.symm
theorem sp_psize_u {s : sp_S} {r w z y : Int} (h : sp_psize s r w z) (g : sp_psize s r w y) : z = y := by
  unfold sp_psize at h g
  split at h
  · next q =>
    rw [if_pos q] at g
    split at h
    · next q =>
      rw [if_pos q] at g
      by_cases e : zs_sq s (zs_el s.1 r.toNat)
      · exact (h.1 e).trans (g.1 e).symm
      · exact (h.2 e).trans (g.2 e).symm
    · next q => rw [if_neg q] at g; exact h.trans g.symm
  · next q => rw [if_neg q] at g; exact h.trans g.symm
theorem sp_many_u {s : sp_S} {w z y : Int} (h : sp_many s w z) (g : sp_many s w y) : z = y := by
  unfold sp_many at h g
  split at h
  · next q =>
    rw [if_pos q] at g
    split at h
    · next q => rw [if_pos q] at g; exact h.trans g.symm
    · next q => rw [if_neg q] at g; exact mx_cnt_u _ _ _ h g
  · next q => rw [if_neg q] at g; exact h.trans g.symm
theorem sp_put_u {s s1 s2 : sp_S} {N : Nat} {z w : Int} (h : sp_put s N z s1) (g : sp_put s N w s2) : z = w ∧ s1 = s2 := by
  rcases h with ⟨n, h0, h1⟩ | ⟨h0, h1, h2⟩ <;> rcases g with ⟨k, g0, g1⟩ | ⟨g0, g1, g2⟩
  · have := pt_ok_u h0 g0
    subst this
    split at h1
    · next q => rw [if_pos q] at g1; exact ⟨h1.1.trans g1.1.symm, h1.2.trans g1.2.symm⟩
    · next q => rw [if_neg q] at g1; exact ⟨h1.1.trans g1.1.symm, h1.2.trans g1.2.symm⟩
  · exact absurd ⟨n, h0⟩ g0
  · exact absurd ⟨k, g0⟩ h0
  · exact ⟨h1.trans g1.symm, h2.trans g2.symm⟩
theorem sp_wipe_u {s s1 s2 : sp_S} {z w : Int} (h : sp_wipe s z s1) (g : sp_wipe s w s2) : z = w ∧ s1 = s2 := ⟨h.1.trans g.1.symm, h.2.trans g.2.symm⟩
/-! a valid desk stays one -/
theorem mx_det_id {n : Nat} (hn : n = 2 ∨ n = 3) {m : Int} (hm : ls_p m) : mx_det n m (mx_id (n : Int)) = 1 := by
  rcases hn with rfl | rfl <;> rcases hm with rfl | rfl | rfl | rfl <;> decide
theorem mx_id_V {n : Nat} (hn : n = 2 ∨ n = 3) {m : Int} (hm : ls_p m) : mx_V n m (mx_id (n : Int)) := by
  have h3 := ls_3 hm
  refine ⟨fun k hk => ?_, ⟨fun i j hi hj h => ?_, mx_id_9 (by omega)⟩, mx_id_s⟩
  · rw [mx_id_at]
    split <;> omega
  · rw [mx_id_at, mx_id_at, if_neg (by omega), if_neg (by omega)]
    exact ⟨rfl, rfl⟩
theorem zs_ok_of {Z : Nat → Int} (h1 : Z 81 = 2 ∨ Z 81 = 3) (h2 : Z 82 = 3 ∨ Z 82 = 5 ∨ Z 82 = 7 ∨ Z 82 = 11) (h3 : ∀ r, r < 9 → mx_V (Z 81).toNat (Z 82) (mx_of Z (9 * r))) (h4 : mx_det (Z 81).toNat (Z 82) (mx_of Z 72) ≠ 0) : zs_ok Z :=
  ⟨h1, h2, fun r hr => ⟨(h3 r hr).1, (h3 r hr).2.2, fun i j hi hj hn => ((h3 r hr).2.1.1 i j hi hj hn).1⟩, h4⟩
theorem zs_V' {Z : Nat → Int} (h : zs_ok Z) {r : Nat} (hr : r < 9) : mx_V (Z 81).toNat (Z 82) (mx_of Z (9 * r)) := by
  have := zs_V h hr
  unfold zs_el at this
  rwa [if_pos hr] at this
theorem zs_put_of {Z f : Nat → Int} {r q : Nat} (h9 : ∀ k, 9 ≤ k → f k = 0) : mx_of (zs_put Z (9 * r) f) (9 * q) = if q = r then f else mx_of Z (9 * q) := by
  by_cases e : q = r
  · rw [if_pos e, e]
    funext k
    unfold mx_of
    by_cases k9 : k < 9
    · rw [if_pos k9]
      unfold zs_put
      rw [if_pos (by omega), show 9 * r + k - 9 * r = k by omega]
    · rw [if_neg k9, h9 k (by omega)]
  · rw [if_neg e]
    exact mx_of_ext (fun k hk => by
      unfold zs_put
      rw [if_neg (by omega)])
theorem zs_put_ok {Z f : Nat → Int} (h : zs_ok Z) {r : Nat} (hr : r < 9) (hf : mx_V (Z 81).toNat (Z 82) f) (hd : r = 8 → mx_det (Z 81).toNat (Z 82) f ≠ 0) : zs_ok (zs_put Z (9 * r) f) := by
  have z81 : zs_put Z (9 * r) f 81 = Z 81 := by
    unfold zs_put
    rw [if_neg (by omega)]
  have z82 : zs_put Z (9 * r) f 82 = Z 82 := by
    unfold zs_put
    rw [if_neg (by omega)]
  have ho := fun q => zs_put_of (Z := Z) (r := r) (q := q) hf.2.1.2
  refine zs_ok_of (by rw [z81]; exact h.1) (by rw [z82]; exact h.2.1) (fun q hq => ?_) ?_
  · rw [z81, z82, ho q]
    by_cases e : q = r
    · rw [if_pos e]; exact hf
    · rw [if_neg e]; exact zs_V' h hq
  · rw [z81, z82]
    have := ho 8
    rw [show 9 * 8 = 72 from rfl] at this
    rw [this]
    by_cases e : 8 = r
    · rw [if_pos e]; exact hd e.symm
    · rw [if_neg e]; exact h.2.2.2
theorem sp_ok_push {s : sp_S} (hs : sp_ok s) {Z : Nat → Int} (hZ : zs_ok Z) : sp_ok (sp_push s Z) := by
  obtain ⟨h1, h2, h3, h4⟩ := hs
  have hh : sp_h s + 1 ≤ 6 := by unfold sp_h; split <;> omega
  refine ⟨hZ, hh, fun i hi => ?_, h4⟩
  have hi : i < sp_h s + 1 := hi
  show zs_ok (if i = sp_h s then s.1 else if s.2.1.1 = 6 then s.2.1.2 (i + 1) else s.2.1.2 i)
  by_cases e : i = sp_h s
  · rw [if_pos e]; exact h1
  · rw [if_neg e]
    by_cases e6 : s.2.1.1 = 6
    · rw [if_pos e6]
      have : sp_h s = 5 := if_pos e6
      exact h3 (i + 1) (by omega)
    · rw [if_neg e6]
      have : sp_h s = s.2.1.1 := if_neg e6
      exact h3 i (by omega)
theorem zs_new_ok {n m : Int} (hn : n = 2 ∨ n = 3) (hm : m = 3 ∨ m = 5 ∨ m = 7 ∨ m = 11) : zs_ok (zs_new n m) := by
  have z81 : zs_new n m 81 = n := if_pos rfl
  have z82 : zs_new n m 82 = m := by unfold zs_new; rw [if_neg (by decide), if_pos rfl]
  have hnn : n.toNat = 2 ∨ n.toNat = 3 := by omega
  have hni : ((n.toNat : Nat) : Int) = n := by omega
  have hel : ∀ r, r < 9 → mx_of (zs_new n m) (9 * r) = if r = 8 then mx_id n else fun _ => 0 := fun r hr => by
    have := zs_new_el (m := m) hn hr
    unfold zs_el at this
    rwa [if_pos hr] at this
  have hp : ls_p m := hm
  have h3 := ls_3 hp
  refine zs_ok_of (by rw [z81]; exact hn) (by rw [z82]; exact hm) (fun r hr => ?_) ?_
  · rw [z81, z82, hel r hr]
    by_cases e : r = 8
    · rw [if_pos e]
      have := mx_id_V hnn hp
      rwa [hni] at this
    · rw [if_neg e]
      exact ⟨fun k _ => by dsimp only; omega, ⟨fun _ _ _ _ _ => ⟨rfl, rfl⟩, fun _ _ => rfl⟩, fun _ _ _ _ => rfl⟩
  · rw [z81, z82]
    have := hel 8 (by decide)
    rw [show 9 * 8 = 72 from rfl, if_pos rfl] at this
    rw [this]
    have := mx_det_id hnn hp
    rw [hni] at this
    rw [this]
    decide
theorem sp_begin_ok {s s' : sp_S} (hs : sp_ok s) {a b z : Int} (h : sp_begin s a b z s') : sp_ok s' := by
  unfold sp_begin at h
  split at h
  · next q => rw [h.2]; exact sp_ok_push hs (zs_new_ok q.1 q.2)
  · rw [h.2]; exact hs
theorem sp_set_ok {s s' : sp_S} (hs : sp_ok s) {r i j v z : Int} (h : sp_set s r i j v z s') : sp_ok s' := by
  unfold sp_set at h
  split at h
  · next q =>
    split at h
    · next q2 =>
      rw [h.2]
      refine sp_ok_push hs ?_
      have hZ := hs.1
      have z81 : zs_set s.1 r.toNat i.toNat j.toNat v 81 = s.1 81 := by
        have := hZ.1
        unfold zs_set
        rw [if_neg (by omega), if_neg (by omega)]
      have z82 : zs_set s.1 r.toNat i.toNat j.toNat v 82 = s.1 82 := by
        have := hZ.1
        unfold zs_set
        rw [if_neg (by omega), if_neg (by omega)]
      have h3 := hZ.1
      have hel : ∀ q, q < 9 → mx_of (zs_set s.1 r.toNat i.toNat j.toNat v) (9 * q) = if q = r.toNat then (fun k => if k < 9 then (if k = 3 * j.toNat + i.toNat then v else if k = 3 * i.toNat + j.toNat then v else zs_el s.1 r.toNat k) else 0) else zs_el s.1 q := fun q hq => by
        have := zs_set_el (Z := s.1) (r := r.toNat) (i := i.toNat) (j := j.toNat) (v := v) (by omega) (by omega) (by omega) (q := q) (by omega)
        rw [← this]
        unfold zs_el
        rw [if_pos hq]
      refine zs_ok_of (by rw [z81]; exact hZ.1) (by rw [z82]; exact hZ.2.1) (fun q hq => ?_) ?_
      · rw [z81, z82, hel q hq]
        by_cases e : q = r.toNat
        · rw [if_pos e]
          have hV := zs_V hZ (r := r.toNat) (by omega)
          refine ⟨fun k hk => ?_, ⟨fun x y hx hy hn => ?_, fun k hk => if_neg (by omega)⟩, fun x y hx hy => ?_⟩
          · dsimp only
            rw [if_pos hk]
            split
            · exact q2
            · split
              · exact q2
              · exact hV.1 k hk
          · have hb := hV.2.1.1 x y hx hy hn
            dsimp only
            rw [if_pos (show 3 * x + y < 9 by omega), if_pos (show 3 * y + x < 9 by omega), if_neg (show ¬ 3 * x + y = 3 * j.toNat + i.toNat by omega), if_neg (show ¬ 3 * x + y = 3 * i.toNat + j.toNat by omega), if_neg (show ¬ 3 * y + x = 3 * j.toNat + i.toNat by omega), if_neg (show ¬ 3 * y + x = 3 * i.toNat + j.toNat by omega)]
            exact hb
          · have hb := hV.2.2 x y hx hy
            dsimp only
            rw [if_pos (show 3 * x + y < 9 by omega), if_pos (show 3 * y + x < 9 by omega)]
            by_cases c1 : 3 * x + y = 3 * j.toNat + i.toNat
            · rw [if_pos c1]
              by_cases c2 : 3 * y + x = 3 * j.toNat + i.toNat
              · rw [if_pos c2]
              · rw [if_neg c2, if_pos (by omega)]
            · rw [if_neg c1]
              by_cases c2 : 3 * x + y = 3 * i.toNat + j.toNat
              · rw [if_pos c2, if_pos (by omega)]
              · rw [if_neg c2, if_neg (by omega), if_neg (by omega)]
                exact hb
        · rw [if_neg e]
          exact zs_V hZ hq
      · rw [z81, z82]
        have := hel 8 (by decide)
        rw [show 9 * 8 = 72 from rfl, if_neg (by omega)] at this
        rw [this]
        have hd := hZ.2.2.2
        unfold zs_el
        rw [if_pos (by decide)]
        exact hd
    · rw [h.2]; exact hs
  · rw [h.2]; exact hs
theorem sp_base_ok {s s' : sp_S} (hs : sp_ok s) {r z : Int} (h : sp_base s r z s') : sp_ok s' := by
  unfold sp_base at h
  split at h
  · next q =>
    split at h
    · rw [h.2]; exact hs
    · next q2 =>
      rw [h.2]
      refine sp_ok_push hs ?_
      have := zs_put_ok hs.1 (r := 8) (by decide) (f := sp_bel s r) ?_ (fun _ => q2)
      · exact this
      · unfold sp_bel
        by_cases e : r = -6
        · rw [if_pos e]
          have := mx_id_V (sp_nn hs) (sp_p hs)
          have h1 := hs.1.1
          have hni : ((zs_nn s : Nat) : Int) = s.1 81 := by unfold zs_nn; omega
          rw [hni] at this
          exact this
        · rw [if_neg e]
          exact zs_V' hs.1 (by omega)
  · rw [h.2]; exact hs
theorem sp_part_V {s : sp_S} (hs : sp_ok s) {e b : Nat → Int} (he : sp_V s e) (hb : sp_V s b) (w : Int) : sp_V s (zs_part s e b w) := by
  have h3 := ls_3 (sp_p hs)
  have hf : sp_V s (mx_lin (s.1 82) (zs_el s.1 9) 1 e (-1)) := mx_lin_V h3 (sp_V9 hs) he
  have vop : ∀ {a b : Nat → Int}, sp_V s a → sp_V s b → sp_V s (zs_oper s a b) := fun {a b} ha hb => by
    rw [← sp_oe hs ha hb]
    exact sp_Vt hs ha hb ha
  unfold zs_part mx_part
  split
  · exact vop hf hb
  · split
    · exact mx_lin_V h3 hb (mx_lin_V h3 (vop he hb) (vop hf hb))
    · exact vop he hb
theorem sp_split_ok {s s' : sp_S} (hs : sp_ok s) {a b t z : Int} (h : sp_split s a b t z s') : sp_ok s' := by
  unfold sp_split at h
  split at h
  · next q =>
    by_cases e : zs_sq s (zs_el s.1 a.toNat)
    · rw [(h.1 e).2]
      refine sp_ok_push hs ?_
      have va := sp_Vel hs (r := a.toNat) (by omega)
      have vb := sp_Vel hs (r := b.toNat) (by omega)
      have put : ∀ {Z : Nat → Int} {r : Nat} {w : Int}, zs_ok Z → Z 81 = s.1 81 → Z 82 = s.1 82 → r < 8 → zs_ok (zs_put Z (9 * r) (zs_part s (zs_el s.1 a.toNat) (zs_el s.1 b.toNat) w)) ∧ zs_put Z (9 * r) (zs_part s (zs_el s.1 a.toNat) (zs_el s.1 b.toNat) w) 81 = s.1 81 ∧ zs_put Z (9 * r) (zs_part s (zs_el s.1 a.toNat) (zs_el s.1 b.toNat) w) 82 = s.1 82 := fun {Z r w} hZ h1 h2 hr => by
        refine ⟨zs_put_ok hZ (by omega) ?_ (fun h => by omega), ?_, ?_⟩
        · rw [h1, h2]
          exact sp_part_V hs va vb w
        · unfold zs_put
          rw [if_neg (by omega)]
          exact h1
        · unfold zs_put
          rw [if_neg (by omega)]
          exact h2
      obtain ⟨a1, a2, a3⟩ := put (r := t.toNat + 0) (w := 2 - ((0 : Nat) : Int)) hs.1 rfl rfl (by omega)
      obtain ⟨b1, b2, b3⟩ := put (r := t.toNat + 1) (w := 2 - ((1 : Nat) : Int)) a1 a2 a3 (by omega)
      exact (put (r := t.toNat + 2) (w := 2 - ((2 : Nat) : Int)) b1 b2 b3 (by omega)).1
    · rw [(h.2 e).2]; exact hs
  · rw [h.2]; exact hs
theorem sp_undo_ok {s s' : sp_S} (hs : sp_ok s) {z : Int} (h : sp_undo s z s') : sp_ok s' := by
  unfold sp_undo at h
  split at h
  · rw [h.2]; exact hs
  · next q =>
    rw [h.2]
    obtain ⟨h1, h2, h3, h4⟩ := hs
    exact ⟨h3 _ (by omega), show s.2.1.1 - 1 ≤ 6 by omega, fun i hi => h3 i (by have hi : i < s.2.1.1 - 1 := hi; omega), h4⟩
theorem sp_save_ok {s s' : sp_S} (hs : sp_ok s) {j z : Int} (h : sp_save s j z s') : sp_ok s' := by
  unfold sp_save at h
  split at h
  · rw [h.2]
    obtain ⟨h1, h2, h3, h4, h5, h6⟩ := hs
    refine ⟨h1, h2, h3, fun i hi => ?_, fun i hi => ?_, h6⟩
    · show (if (i : Int) = j then (1 : Int) else s.2.2.1.1 i) = 0 ∨ (if (i : Int) = j then (1 : Int) else s.2.2.1.1 i) = 1
      split
      · exact Or.inr rfl
      · exact h4 i hi
    · show (if (i : Int) = j then (1 : Int) else s.2.2.1.1 i) = 1 → zs_ok (if (i : Int) = j then s.1 else s.2.2.1.2 i)
      split
      · exact fun _ => h1
      · exact h5 i hi
  · rw [h.2]; exact hs
theorem sp_restore_ok {s s' : sp_S} (hs : sp_ok s) {j z : Int} (h : sp_restore s j z s') : sp_ok s' := by
  unfold sp_restore at h
  split at h
  · next q =>
    split at h
    · next q2 =>
      rw [h.2]
      exact sp_ok_push hs (hs.2.2.2.2.1 j.toNat (by omega) q2)
    · rw [h.2]; exact hs
  · rw [h.2]; exact hs
theorem sp_emp_ok {s : sp_S} (hs : sp_ok s) : sp_ok (sp_emp s) := ⟨hs.1, hs.2.1, hs.2.2.1, hs.2.2.2.1, hs.2.2.2.2.1, Nat.zero_le _, fun i hi => absurd (show i < 0 from hi) (by omega)⟩
theorem sp_wipe_ok {s s' : sp_S} (hs : sp_ok s) {z : Int} (h : sp_wipe s z s') : sp_ok s' := by
  rw [h.2]
  exact sp_emp_ok hs
theorem sp_put_ok {s s' : sp_S} (hs : sp_ok s) {N : Nat} {z : Int} (h : sp_put s N z s') : sp_ok s' := by
  rcases h with ⟨n, h0, h1⟩ | ⟨h0, h1, h2⟩
  · split at h1
    · rw [h1.2]; exact hs
    · next q =>
      rw [h1.2]
      obtain ⟨a1, a2, a3, a4, a5, a6, a7⟩ := hs
      refine ⟨a1, a2, a3, a4, a5, show s.2.2.2.1 + n ≤ 60 by omega, fun i hi => ?_⟩
      have hi : i < s.2.2.2.1 + n := hi
      show 33 ≤ (if i < s.2.2.2.1 then s.2.2.2.2 i else ((pt_b N (n - 1 - (i - s.2.2.2.1)) : Nat) : Int)) ∧ (if i < s.2.2.2.1 then s.2.2.2.2 i else ((pt_b N (n - 1 - (i - s.2.2.2.1)) : Nat) : Int)) ≤ 126
      by_cases e : i < s.2.2.2.1
      · rw [if_pos e]; exact a7 i e
      · rw [if_neg e]
        have := h0.2.2.2 (n - 1 - (i - s.2.2.2.1)) (by omega)
        omega
  · rw [h2]; exact hs
theorem sp_run_ok {s s' : sp_S} (hs : sp_ok s) {z : Int} (hV : ∀ t, pm_fin s t → pm_stop t = -6 → sp_V s (pm_P t 0 0)) (h : sp_run s z s') : sp_ok s' := by
  rcases h with ⟨h0, h1, h2⟩ | ⟨t, h1, h2⟩
  · rw [h2]; exact hs
  · split at h2
    · next q =>
      rw [h2.2]
      have ht := (pm_tg h1).1 q.1
      exact sp_emp_ok (sp_ok_push hs (zs_put_ok hs.1 (by omega) (hV t h1 q.2) (fun e => by omega)))
    · rw [h2.2]; exact hs
