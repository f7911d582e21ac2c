theorem sd_Yr (M : gx_M) : sd_Y M M := ⟨fun _ _ => rfl, rfl, fun _ _ _ _ _ _ => rfl⟩
/-- a number of a register and the one across, changed -/
theorem zs_set_el {Z : Nat → Int} {r i j : Nat} {v : Int} (hr : r < 8) (hi : i < 3) (hj : j < 3) {q : Nat} (hq : q < 10) : zs_el (zs_set Z r i j v) q = if q = r then (fun k => if k < 9 then (if k = 3 * j + i then v else if k = 3 * i + j then v else zs_el Z r k) else 0) else zs_el Z q := by
  have e72 : mx_of (zs_set Z r i j v) 72 = mx_of Z 72 := mx_of_ext (fun k hk => by
    unfold zs_set
    rw [if_neg (by omega), if_neg (by omega)])
  have e81 : zs_set Z r i j v 81 = Z 81 := by
    unfold zs_set
    rw [if_neg (by omega), if_neg (by omega)]
  have e82 : zs_set Z r i j v 82 = Z 82 := by
    unfold zs_set
    rw [if_neg (by omega), if_neg (by omega)]
  by_cases h9 : q < 9
  · by_cases e : q = r
    · rw [if_pos e, e]
      unfold zs_el
      rw [if_pos (by omega), if_pos (by omega)]
      funext k
      unfold mx_of
      by_cases k9 : k < 9
      · rw [if_pos k9, if_pos k9, if_pos k9]
        unfold zs_set
        by_cases c1 : k = 3 * j + i
        · rw [if_pos c1, if_pos (by omega)]
        · rw [if_neg c1, if_neg (by omega)]
          by_cases c2 : k = 3 * i + j
          · rw [if_pos c2, if_pos (by omega)]
          · rw [if_neg c2, if_neg (by omega)]
      · rw [if_neg k9, if_neg k9]
    · rw [if_neg e]
      unfold zs_el
      rw [if_pos h9, if_pos h9]
      exact mx_of_ext (fun k hk => by
        unfold zs_set
        rw [if_neg (by omega), if_neg (by omega)])
  · rw [if_neg (by omega)]
    unfold zs_el
    rw [if_neg h9, if_neg h9, e72, e81, e82]
