theorem sp_vu {s : sp_S} (hs : sp_ok s) : mx_mul 3 (s.1 82) (zs_el s.1 9) (zs_el s.1 8) = mx_id ((zs_nn s : Nat) : Int) := by
  have h8 := sp_Vel hs (r := 8) (by decide)
  have h := mx_inv_mul (sp_nn hs) hs.1.2.1 h8.2.1 (by
    unfold zs_el
    rw [if_pos (by decide)]
    exact hs.1.2.2.2)
  have e9 : zs_el s.1 9 = mx_inv (zs_nn s) (s.1 82) (zs_el s.1 8) := by
    unfold zs_el
    rw [if_neg (by decide), if_pos (by decide)]
    rfl
  rw [e9]
  exact h
theorem sp_poV {s : sp_S} (hs : sp_ok s) {a b : Nat → Int} (ha : sp_V s a) (hb : sp_V s b) : ∀ k, mc_po (s.1 82) (zs_el s.1 8) a b k = zs_po s a b k ∧ sp_V s (zs_po s a b k)
  | 0 => ⟨rfl, hb⟩
  | k + 1 => by
    obtain ⟨h1, h2⟩ := sp_poV hs ha hb k
    have h3 : mc_po (s.1 82) (zs_el s.1 8) a b (k + 1) = mc_prod (s.1 82) (zs_el s.1 8) (zs_po s a b k) a := by
      show mc_prod _ _ (mc_po (s.1 82) (zs_el s.1 8) a b k) a = _
      rw [h1]
    have h4 : zs_po s a b (k + 1) = zs_prod s (zs_po s a b k) a := rfl
    refine ⟨by rw [h3, sp_pe hs h2 ha, h4], ?_⟩
    rw [h4, ← sp_pe hs h2 ha]
    exact sp_Vp hs h2 ha
/-- what raise reaches -/
theorem sp_rs {s : sp_S} (hs : sp_ok s) {a : Nat → Int} (ha : sp_V s a) {N : Nat} (hN : N ≤ 2000) : (mc_rs (s.1 82) (zs_el s.1 8) (zs_el s.1 9) a N 11).1 = zs_po s a (zs_el s.1 9) N := by
  have h8 := sp_Vel hs (r := 8) (by decide)
  have h9 := sp_V9 hs
  rw [mc_rs_pw (sp_nn hs) hs.1.2.1 ha h8.2.2 h8.2.1 h9 (sp_vu hs) 11, Nat.mod_eq_of_lt (show N < 2 ^ 11 by omega), ← (sp_poV hs ha h9 N).1, mc_po_pw (sp_nn hs) hs.1.2.1 ha h8.2.2 h8.2.1 h9 (sp_vu hs) N]
