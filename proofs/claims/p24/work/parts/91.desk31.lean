/-! the three parts are the reference's -/
theorem mc_sub_eq {m : Int} {v e : Nat → Int} : mc_sub m v e = mx_lin m v 1 e (-1) := by
  funext k
  unfold mc_sub mx_lin
  by_cases h : k < 9
  · rw [if_pos h, if_pos h, show v k * 1 + e k * (-1) = v k - e k by omega]
  · rw [if_neg h, if_neg h]
theorem mc_sb2_eq {m : Int} {b p q : Nat → Int} : mc_sb2 m b p q = mx_lin m b 1 (mx_lin m p 1 q 1) (-1) := by
  funext k
  unfold mc_sb2 mx_lin
  by_cases h : k < 9
  · rw [if_pos h, if_pos h, if_pos h, show p k * 1 + q k * 1 = p k + q k by omega, Int.emod_def (p k + q k), show b k * 1 + (p k + q k - m * ((p k + q k) / m)) * (-1) = b k - p k - q k + m * ((p k + q k) / m) by omega, Int.add_mul_emod_self_left]
  · rw [if_neg h, if_neg h]
theorem mx_lin_V {n : Nat} {m : Int} (hm : 3 ≤ m) {a b : Nat → Int} (ha : mx_V n m a) (hb : mx_V n m b) {x y : Int} : mx_V n m (mx_lin m a x b y) := by
  refine ⟨mx_lin_ok hm a b x y, ⟨fun i j hi hj h => ?_, mx_lin_9⟩, fun i j hi hj => ?_⟩
  · obtain ⟨a1, a2⟩ := ha.2.1.1 i j hi hj h
    obtain ⟨b1, b2⟩ := hb.2.1.1 i j hi hj h
    unfold mx_lin
    rw [if_pos (by omega), if_pos (by omega), a1, a2, b1, b2]
    simp
  · unfold mx_lin
    rw [if_pos (by omega), if_pos (by omega), ha.2.2 i j hi hj, hb.2.2 i j hi hj]
theorem sp_parts {s : sp_S} (hs : sp_ok s) {e b : Nat → Int} (he : sp_V s e) (hb : sp_V s b) : mc_oper (s.1 82) (zs_el s.1 8) e b = zs_part s e b 2 ∧ mc_oper (s.1 82) (zs_el s.1 8) (mc_sub (s.1 82) (zs_el s.1 9) e) b = zs_part s e b 0 ∧ mc_sb2 (s.1 82) b (mc_oper (s.1 82) (zs_el s.1 8) e b) (mc_oper (s.1 82) (zs_el s.1 8) (mc_sub (s.1 82) (zs_el s.1 9) e) b) = zs_part s e b 1 := by
  have hm := hs.1.2.1
  have hd : sp_V s (mc_sub (s.1 82) (zs_el s.1 9) e) := by
    rw [mc_sub_eq]
    exact mx_lin_V (by omega) (sp_V9 hs) he
  have e1 : mc_oper (s.1 82) (zs_el s.1 8) e b = zs_oper s e b := sp_oe hs he hb
  have e2 : mc_oper (s.1 82) (zs_el s.1 8) (mc_sub (s.1 82) (zs_el s.1 9) e) b = zs_oper s (mc_sub (s.1 82) (zs_el s.1 9) e) b := sp_oe hs hd hb
  unfold zs_part mx_part
  rw [if_neg (by decide), if_neg (by decide), if_pos rfl, if_neg (by decide), if_pos rfl, mc_sb2_eq, e1, e2, mc_sub_eq]
  exact ⟨rfl, rfl, rfl⟩
