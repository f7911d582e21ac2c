theorem zs_put_el {Z : Nat → Int} {r : Nat} {f : Nat → Int} (hr : r < 8) (h9 : ∀ k, 9 ≤ k → f k = 0) {q : Nat} (hq : q < 10) : zs_el (zs_put Z (9 * r) f) q = if q = r then f else zs_el Z q := by
  have e72 : mx_of (zs_put Z (9 * r) f) 72 = mx_of Z 72 := mx_of_ext (fun k hk => by
    unfold zs_put
    rw [if_neg (by omega)])
  have e81 : zs_put Z (9 * r) f 81 = Z 81 := by
    unfold zs_put
    rw [if_neg (by omega)]
  have e82 : zs_put Z (9 * r) f 82 = Z 82 := by
    unfold zs_put
    rw [if_neg (by omega)]
  by_cases h : q < 9
  · unfold zs_el
    rw [if_pos h, if_pos h]
    by_cases e : q = r
    · rw [if_pos e, e]
      funext k
      unfold mx_of
      by_cases k9 : k < 9
      · rw [if_pos k9]
        unfold zs_put
        rw [if_pos (by omega), show 9 * r + k - 9 * r = k by omega]
      · rw [if_neg k9, h9 k (by omega)]
    · rw [if_neg e]
      exact mx_of_ext (fun k hk => by
        unfold zs_put
        rw [if_neg (by omega)])
  · rw [if_neg (by omega)]
    unfold zs_el
    rw [if_neg h, if_neg h, e72, e81, e82]
/-- the parts put, in the spec's order -/
theorem zs_sp_el {s : sp_S} {e b : Nat → Int} {t : Nat} (ht : t ≤ 5) (h9 : ∀ w k, 9 ≤ k → zs_part s e b w k = 0) {q : Nat} (hq : q < 10) : zs_el (zs_sp s e b t 3) q = if q = t + 2 then zs_part s e b 0 else if q = t + 1 then zs_part s e b 1 else if q = t then zs_part s e b 2 else zs_el s.1 q := by
  show zs_el (zs_put (zs_put (zs_put s.1 (9 * (t + 0)) (zs_part s e b (2 - ((0 : Nat) : Int)))) (9 * (t + 1)) (zs_part s e b (2 - ((1 : Nat) : Int)))) (9 * (t + 2)) (zs_part s e b (2 - ((2 : Nat) : Int)))) q = _
  rw [zs_put_el (by omega) (h9 _) hq, zs_put_el (by omega) (h9 _) hq, zs_put_el (by omega) (h9 _) hq]
  rfl
theorem zs_sp_8 {s : sp_S} {e b : Nat → Int} {t : Nat} (ht : t ≤ 5) {k : Nat} (hk : 72 ≤ k) : zs_sp s e b t 3 k = s.1 k := by
  show zs_put (zs_put (zs_put s.1 (9 * (t + 0)) _) (9 * (t + 1)) _) (9 * (t + 2)) _ k = _
  unfold zs_put
  rw [if_neg (by omega), if_neg (by omega), if_neg (by omega)]
theorem zs_part9 {s : sp_S} (hs : sp_ok s) {e b : Nat → Int} (he : sp_V s e) (hb : sp_V s b) {w : Int} : ∀ k, 9 ≤ k → zs_part s e b w k = 0 := fun k hk => by
  obtain ⟨h2, h0, h1⟩ := sp_parts hs he hb
  by_cases e0 : w = 0
  · rw [e0, ← h0]
    exact mx_sym_9 k hk
  · by_cases e1 : w = 1
    · rw [e1, ← h1]
      exact mc_sb2_9 k hk
    · have h : zs_part s e b w = zs_part s e b 2 := by
        unfold zs_part mx_part
        rw [if_neg e0, if_neg e1, if_neg (by decide), if_neg (by decide)]
      rw [h, ← h2]
      exact mx_sym_9 k hk
theorem zs_partok {s : sp_S} (hs : sp_ok s) {e b : Nat → Int} {w : Int} : mx_ok (s.1 82) (zs_part s e b w) := mx_part_ok (by have := hs.1.2.1; omega)
/-- how many of the first parts aren't 0 -/
def zs_c3 (s : sp_S) (e b : Nat → Int) : Nat → Int → Prop
  | 0, y => y = 0
  | k + 1, y => ∃ x q, zs_c3 s e b k x ∧ mx_nz (zs_part s e b (k : Int)) q ∧ y = x + q
theorem zs_c3_cn {s : sp_S} {e b : Nat → Int} {y : Int} (h : zs_c3 s e b 3 y) : zs_cn s e b 3 y := by
  obtain ⟨x2, q2, ⟨x1, q1, ⟨x0, q0, h0, h1, rfl⟩, h2, rfl⟩, h3, rfl⟩ := h
  have h0 : x0 = 0 := h0
  subst h0
  exact ⟨0 + q2 + q1, q0, ⟨0 + q2, q1, ⟨0, q2, rfl, h3, rfl⟩, h2, rfl⟩, h1, by omega⟩
