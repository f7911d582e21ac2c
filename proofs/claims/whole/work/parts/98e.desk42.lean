theorem zs_put_el {Z : Nat → Int} {r : Nat} {f : Nat → Int} (hr : r < 8) (h9 : ∀ k, 9 ≤ k → f k = 0) {q : Nat} (hq : q < 10) : zs_el (zs_put Z (9 * r) f) q = if q = r then f else zs_el Z q := by
  have e72 : mx_of (zs_put Z (9 * r) f) 72 = mx_of Z 72 := mx_of_ext (fun k hk => by
    unfold zs_put
    rw [if_neg (by omega)])
  have e81 : zs_put Z (9 * r) f 81 = Z 81 := by
    unfold zs_put
    rw [if_neg (by omega)]
  have e82 : zs_put Z (9 * r) f 82 = Z 82 := by
    unfold zs_put
    rw [if_neg (by omega)]
  by_cases h : q < 9
  · unfold zs_el
    rw [if_pos h, if_pos h]
    by_cases e : q = r
    · rw [if_pos e, e]
      funext k
      unfold mx_of
      by_cases k9 : k < 9
      · rw [if_pos k9]
        unfold zs_put
        rw [if_pos (by omega), show 9 * r + k - 9 * r = k by omega]
      · rw [if_neg k9, h9 k (by omega)]
    · rw [if_neg e]
      exact mx_of_ext (fun k hk => by
        unfold zs_put
        rw [if_neg (by omega)])
  · rw [if_neg (by omega)]
    unfold zs_el
    rw [if_neg h, if_neg h, e72, e81, e82]
/-- the parts put, in the spec's order -/
theorem zs_sp_el {s : sp_S} {e b : Nat → Int} {t : Nat} (ht : t ≤ 5) (h9 : ∀ w k, 9 ≤ k → zs_part s e b w k = 0) {q : Nat} (hq : q < 10) : zs_el (zs_sp s e b t 3) q = if q = t + 2 then zs_part s e b 0 else if q = t + 1 then zs_part s e b 1 else if q = t then zs_part s e b 2 else zs_el s.1 q := by
  show zs_el (zs_put (zs_put (zs_put s.1 (9 * (t + 0)) (zs_part s e b (2 - ((0 : Nat) : Int)))) (9 * (t + 1)) (zs_part s e b (2 - ((1 : Nat) : Int)))) (9 * (t + 2)) (zs_part s e b (2 - ((2 : Nat) : Int)))) q = _
  rw [zs_put_el (by omega) (h9 _) hq, zs_put_el (by omega) (h9 _) hq, zs_put_el (by omega) (h9 _) hq]
  rfl
theorem zs_sp_8 {s : sp_S} {e b : Nat → Int} {t : Nat} (ht : t ≤ 5) {k : Nat} (hk : 72 ≤ k) : zs_sp s e b t 3 k = s.1 k := by
  show zs_put (zs_put (zs_put s.1 (9 * (t + 0)) _) (9 * (t + 1)) _) (9 * (t + 2)) _ k = _
  unfold zs_put
  rw [if_neg (by omega), if_neg (by omega), if_neg (by omega)]
