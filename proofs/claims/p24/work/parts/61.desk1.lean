/-! THE CLASS: its small static methods -/
theorem gd_h {La : List gx_K} (h : gd_H La) (i : Nat) (hi : i < 6) : gd_S La (82 + 12 * i) := by
  have := gd_s h (3 + i) (by omega)
  rwa [show 46 + 12 * (3 + i) = 82 + 12 * i by omega] at this
theorem gd_sl {La : List gx_K} (h : gd_H La) (i : Nat) (hi : i < 2) : gd_S La (58 + 12 * i) := by
  have := gd_s h (1 + i) (by omega)
  rwa [show 46 + 12 * (1 + i) = 58 + 12 * i by omega] at this
/-- an array of nine ints -/
abbrev gd_9 (La : List gx_K) (b : Nat) : Prop := La[b]? = some (.inr (0, 9, 0, 0))
theorem gd_ne {La : List gx_K} {a b : Nat} {x : Nat × List (Option Nat)} (h : La[a]? = some (.inl x)) (g : gd_9 La b) : a ≠ b := fun e => by
  subst e
  cases h.symm.trans g
theorem mx_rem {x m : Int} (hm : 0 < m) : (if x.tmod m < 0 then x.tmod m + m else x.tmod m) = x % m := by
  have h1 := Int.lt_tmod_of_pos x hm
  have h2 := Int.tmod_lt_of_pos x hm
  have h3 : (x.tmod m) % m = x % m := by rw [Int.tmod_def, Int.sub_mul_emod_self_left]
  split
  · rw [← h3, ← Int.add_emod_right, Int.emod_eq_of_lt (by omega) (by omega)]
  · rw [← h3, Int.emod_eq_of_lt (by omega) h2]
set_option maxRecDepth 100000 in
set_option maxHeartbeats 4000000 in
theorem c_X7_reduced {La : List gx_K} {M : gx_M} {x m : Int} (hx : -1000000000 ≤ x ∧ x ≤ 1000000000) (hm : 1 ≤ m ∧ m ≤ 100) : gx_Ci La yX7_reduced wsX7_reduced 0 [gx_I x, gx_I m] M (fun z M' => M' = M ∧ z = x % m) := by
  have h1 := Int.lt_tmod_of_pos x (show 0 < m by omega)
  have h2 := Int.tmod_lt_of_pos x (show 0 < m by omega)
  have h3 := mx_rem (x := x) (m := m) (by omega)
  refine gx_start_i (L := [gx_I x, gx_I m, gx_U]) (by decide) rfl rfl (Nat.le_of_ble_eq_true rfl) rfl ?_
  intro _ _ _ _ _ _ _ _ _ _ _ _ C
  refine gx_iload_n C dX7_reduced_0 rfl ?_
  refine gx_iconst C dX7_reduced_1 ?_
  refine gx_icmp_ge C dX7_reduced_2 rfl (by unfold gx_3; omega) (by unfold gx_3; omega) (fun hb2 => ?_) (fun hb2 => absurd (by omega) hb2)
  refine gx_iload_n C dX7_reduced_7 rfl ?_
  refine gx_iload_n C dX7_reduced_8 rfl ?_
  refine gx_irem C dX7_reduced_9 (by unfold gx_3; omega) (by unfold gx_3; omega) (by omega) rfl ?_
  refine gx_istore_n C dX7_reduced_10 (by decide) rfl ?_
  refine gx_iload_n C dX7_reduced_11 rfl ?_
  refine gx_if_ge C dX7_reduced_12 rfl (by unfold gx_3; omega) (fun hb12 => ?_) (fun hb12 => ?_)
  · rw [if_neg (by omega)] at h3
    refine gx_iload_n C dX7_reduced_21 rfl ?_
    exact gx_iret C dX7_reduced_22 ⟨rfl, h3⟩
  · rw [if_pos (by omega)] at h3
    refine gx_iload_n C dX7_reduced_15 rfl ?_
    refine gx_iload_n C dX7_reduced_16 rfl ?_
    refine gx_iadd C dX7_reduced_17 ?_
    refine gx_goto C dX7_reduced_18 rfl ?_
    exact gx_iret C dX7_reduced_22 ⟨rfl, h3⟩
set_option maxRecDepth 100000 in
set_option maxHeartbeats 4000000 in
theorem c_X7_copy {La : List gx_K} {M : gx_M} {a b : Nat} (ha : gd_9 La a) (hb : gd_9 La b) : gx_Cv La yX7_copy wsX7_copy 1 [gx_R a, gx_R b] M (fun M' => M' = gx_blk M b 0 9 (mx_of (M a) 0)) := by
  refine gx_start_v (L := [gx_R a, gx_R b]) (by decide) rfl rfl (Nat.le_of_ble_eq_true rfl) rfl ?_
  intro _ _ _ _ _ _ _ _ _ _ _ _ C
  refine gx_aload_n C dX7_copy_0 rfl ?_
  refine gx_iconst C dX7_copy_1 ?_
  refine gx_aload_n C dX7_copy_2 rfl ?_
  refine gx_iconst C dX7_copy_3 ?_
  refine gx_bipush C dX7_copy_4 rfl ?_
  refine gx_acopy C ha hb (by decide +kernel) (by decide +kernel) (by decide +kernel) (by decide +kernel) (Nat.le_of_ble_eq_true rfl) ⟨Nat.le_of_ble_eq_true rfl, by decide +kernel⟩ dX7_copy_6 ?_
  exact gx_vret C dX7_copy_9 rfl
theorem mx_of_0 {M : gx_M} {b k : Nat} (hk : k < 9) : M b (((k : Int)).toNat) = mx_of (M b) 0 k := by
  rw [mx_of_at hk, Nat.zero_add]
  rfl
set_option maxRecDepth 100000 in
set_option maxHeartbeats 4000000 in
theorem c_X7_same {La : List gx_K} {M : gx_M} {a b : Nat} {m : Int} (hm : m ≤ 11) (ha : gd_9 La a) (hb : gd_9 La b) (oa : mx_ok m (mx_of (M a) 0)) (ob : mx_ok m (mx_of (M b) 0)) : gx_Ci La yX7_same wsX7_same 0 [gx_R a, gx_R b] M (fun z M' => M' = M ∧ (z = 0 ∨ z = 1) ∧ (z = 1 ↔ mx_of (M a) 0 = mx_of (M b) 0)) := by
  refine gx_start_i (L := [gx_R a, gx_R b, gx_U]) (by decide) rfl rfl (Nat.le_of_ble_eq_true rfl) rfl ?_
  intro _ _ _ _ _ _ _ _ _ _ _ _ C
  refine gx_iconst C dX7_same_0 ?_
  refine gx_istore_n C dX7_same_1 (by decide) rfl ?_
  refine gx_for 9 (fun k (_ : Unit) => [gx_R a, gx_R b, gx_I (k : Int)]) (fun _ => M) (fun k _ => ∀ j, j < k → mx_of (M a) 0 j = mx_of (M b) 0 j) 0 () (by omega) (fun j hj => absurd hj (Nat.not_lt_zero j)) (fun k _ hk hI ih => ?_) (fun _ hI => ?_)
  · have h1 := oa k hk
    have h2 := ob k hk
    refine gx_iload_n C dX7_same_2 rfl ?_
    refine gx_bipush C dX7_same_3 rfl ?_
    refine gx_icmp_ge C dX7_same_5 rfl (by unfold gx_3; omega) (by unfold gx_3; omega) (fun hb5 => absurd hb5 (by omega)) (fun hb5 => ?_)
    refine gx_aload_n C dX7_same_8 rfl ?_
    refine gx_iload_n C dX7_same_9 rfl ?_
    refine gx_iaload C ha (by omega) dX7_same_10 (mx_of_0 hk) ?_
    refine gx_aload_n C dX7_same_11 rfl ?_
    refine gx_iload_n C dX7_same_12 rfl ?_
    refine gx_iaload C hb (by omega) dX7_same_13 (mx_of_0 hk) ?_
    refine gx_icmp_eq C dX7_same_14 rfl (by unfold gx_3; omega) (by unfold gx_3; omega) (fun hb14 => ?_) (fun hb14 => ?_)
    · refine gx_iinc C dX7_same_19 (by decide) rfl rfl ?_
      refine gx_goto C dX7_same_22 rfl ?_
      exact ih () (mx_all.mpr ⟨hI, hb14⟩)
    · refine gx_iconst C dX7_same_17 ?_
      exact gx_zret C (by omega) dX7_same_18 ⟨rfl, Or.inl rfl, ⟨fun h => absurd h (by decide), fun h => absurd (by rw [h]) hb14⟩⟩
  · refine gx_iload_n C dX7_same_2 rfl ?_
    refine gx_bipush C dX7_same_3 rfl ?_
    refine gx_icmp_ge C dX7_same_5 rfl (by unfold gx_3; omega) (by unfold gx_3; omega) (fun hb5 => ?_) (fun hb5 => absurd (by omega) hb5)
    refine gx_iconst C dX7_same_25 ?_
    exact gx_zret C (by omega) dX7_same_26 ⟨rfl, Or.inr rfl, ⟨fun _ => mx_9 hI, fun _ => rfl⟩⟩
set_option maxRecDepth 100000 in
set_option maxHeartbeats 4000000 in
theorem c_X7_isZero {La : List gx_K} {M : gx_M} {a : Nat} {m : Int} (hm : m ≤ 11) (ha : gd_9 La a) (oa : mx_ok m (mx_of (M a) 0)) : gx_Ci La yX7_isZero wsX7_isZero 0 [gx_R a] M (fun z M' => M' = M ∧ (z = 0 ∨ z = 1) ∧ (z = 1 ↔ mx_of (M a) 0 = fun _ => 0)) := by
  refine gx_start_i (L := [gx_R a, gx_U]) (by decide) rfl rfl (Nat.le_of_ble_eq_true rfl) rfl ?_
  intro _ _ _ _ _ _ _ _ _ _ _ _ C
  refine gx_iconst C dX7_isZero_0 ?_
  refine gx_istore_n C dX7_isZero_1 (by decide) rfl ?_
  refine gx_for 9 (fun k (_ : Unit) => [gx_R a, gx_I (k : Int)]) (fun _ => M) (fun k _ => ∀ j, j < k → mx_of (M a) 0 j = 0) 0 () (by omega) (fun j hj => absurd hj (Nat.not_lt_zero j)) (fun k _ hk hI ih => ?_) (fun _ hI => ?_)
  · have h1 := oa k hk
    refine gx_iload_n C dX7_isZero_2 rfl ?_
    refine gx_bipush C dX7_isZero_3 rfl ?_
    refine gx_icmp_ge C dX7_isZero_5 rfl (by unfold gx_3; omega) (by unfold gx_3; omega) (fun hb5 => absurd hb5 (by omega)) (fun hb5 => ?_)
    refine gx_aload_n C dX7_isZero_8 rfl ?_
    refine gx_iload_n C dX7_isZero_9 rfl ?_
    refine gx_iaload C ha (by omega) dX7_isZero_10 (mx_of_0 hk) ?_
    refine gx_if_eq C dX7_isZero_11 rfl (by unfold gx_3; omega) (fun hb11 => ?_) (fun hb11 => ?_)
    · refine gx_iinc C dX7_isZero_16 (by decide) rfl rfl ?_
      refine gx_goto C dX7_isZero_19 rfl ?_
      exact ih () (mx_all.mpr ⟨hI, hb11⟩)
    · refine gx_iconst C dX7_isZero_14 ?_
      exact gx_zret C (by omega) dX7_isZero_15 ⟨rfl, Or.inl rfl, ⟨fun h => absurd h (by decide), fun h => absurd (congrFun h k) hb11⟩⟩
  · refine gx_iload_n C dX7_isZero_2 rfl ?_
    refine gx_bipush C dX7_isZero_3 rfl ?_
    refine gx_icmp_ge C dX7_isZero_5 rfl (by unfold gx_3; omega) (by unfold gx_3; omega) (fun hb5 => ?_) (fun hb5 => absurd (by omega) hb5)
    refine gx_iconst C dX7_isZero_22 ?_
    exact gx_zret C (by omega) dX7_isZero_23 ⟨rfl, Or.inr rfl, ⟨fun _ => mx_90 hI, fun _ => rfl⟩⟩
set_option maxRecDepth 100000 in
set_option maxHeartbeats 4000000 in
theorem c_X7_registerOf {La : List gx_K} {M : gx_M} {c : Int} (hc : gx_3 c) : gx_Ci La yX7_registerOf wsX7_registerOf 0 [gx_I c] M (fun z M' => M' = M ∧ z = if 65 ≤ c ∧ c ≤ 72 then c - 65 else -6) := by
  refine gx_start_i (L := [gx_I c]) (by decide) rfl rfl (Nat.le_of_ble_eq_true rfl) rfl ?_
  intro _ _ _ _ _ _ _ _ _ _ _ _ C
  refine gx_iload_n C dX7_registerOf_0 rfl ?_
  refine gx_bipush C dX7_registerOf_1 rfl ?_
  refine gx_icmp_lt C dX7_registerOf_3 rfl hc (by unfold gx_3; omega) (fun hb3 => ?_) (fun hb3 => ?_)
  · refine gx_bipush C dX7_registerOf_19 rfl ?_
    exact gx_iret C dX7_registerOf_21 ⟨rfl, by rw [if_neg (by omega)]⟩
  · refine gx_iload_n C dX7_registerOf_6 rfl ?_
    refine gx_bipush C dX7_registerOf_7 rfl ?_
    refine gx_icmp_ge C dX7_registerOf_9 rfl hc (by unfold gx_3; omega) (fun hb9 => ?_) (fun hb9 => ?_)
    · refine gx_bipush C dX7_registerOf_19 rfl ?_
      exact gx_iret C dX7_registerOf_21 ⟨rfl, by rw [if_neg (by omega)]⟩
    · refine gx_iload_n C dX7_registerOf_12 rfl ?_
      refine gx_bipush C dX7_registerOf_13 rfl ?_
      refine gx_isub C dX7_registerOf_15 ?_
      refine gx_goto C dX7_registerOf_16 rfl ?_
      exact gx_iret C dX7_registerOf_21 ⟨rfl, by rw [if_pos (by omega)]⟩
set_option maxRecDepth 100000 in
set_option maxHeartbeats 4000000 in
theorem c_X7_isRegister {La : List gx_K} {M : gx_M} {c : Int} (hc : gx_3 c) : gx_Ci La yX7_isRegister wsX7_isRegister 0 [gx_I c] M (fun z M' => M' = M ∧ z = if 0 ≤ c ∧ c ≤ 7 then 1 else 0) := by
  refine gx_start_i (L := [gx_I c]) (by decide) rfl rfl (Nat.le_of_ble_eq_true rfl) rfl ?_
  intro _ _ _ _ _ _ _ _ _ _ _ _ C
  refine gx_iload_n C dX7_isRegister_0 rfl ?_
  refine gx_if_lt C dX7_isRegister_1 rfl hc (fun hb1 => ?_) (fun hb1 => ?_)
  · refine gx_iconst C dX7_isRegister_14 ?_
    exact gx_zret C (by omega) dX7_isRegister_15 ⟨rfl, by rw [if_neg (by omega)]⟩
  · refine gx_iload_n C dX7_isRegister_4 rfl ?_
    refine gx_bipush C dX7_isRegister_5 rfl ?_
    refine gx_icmp_ge C dX7_isRegister_7 rfl hc (by unfold gx_3; omega) (fun hb7 => ?_) (fun hb7 => ?_)
    · refine gx_iconst C dX7_isRegister_14 ?_
      exact gx_zret C (by omega) dX7_isRegister_15 ⟨rfl, by rw [if_neg (by omega)]⟩
    · refine gx_iconst C dX7_isRegister_10 ?_
      refine gx_goto C dX7_isRegister_11 rfl ?_
      exact gx_zret C (by omega) dX7_isRegister_15 ⟨rfl, by rw [if_pos (by omega)]⟩
set_option maxRecDepth 100000 in
set_option maxHeartbeats 4000000 in
theorem c_X7_isElement {La : List gx_K} {M : gx_M} {c : Int} (hc : gx_3 c) : gx_Ci La yX7_isElement wsX7_isElement 0 [gx_I c] M (fun z M' => M' = M ∧ z = if 0 ≤ c ∧ c ≤ 9 then 1 else 0) := by
  refine gx_start_i (L := [gx_I c]) (by decide) rfl rfl (Nat.le_of_ble_eq_true rfl) rfl ?_
  intro _ _ _ _ _ _ _ _ _ _ _ _ C
  refine gx_iload_n C dX7_isElement_0 rfl ?_
  refine gx_if_lt C dX7_isElement_1 rfl hc (fun hb1 => ?_) (fun hb1 => ?_)
  · refine gx_iconst C dX7_isElement_14 ?_
    exact gx_zret C (by omega) dX7_isElement_15 ⟨rfl, by rw [if_neg (by omega)]⟩
  · refine gx_iload_n C dX7_isElement_4 rfl ?_
    refine gx_bipush C dX7_isElement_5 rfl ?_
    refine gx_icmp_ge C dX7_isElement_7 rfl hc (by unfold gx_3; omega) (fun hb7 => ?_) (fun hb7 => ?_)
    · refine gx_iconst C dX7_isElement_14 ?_
      exact gx_zret C (by omega) dX7_isElement_15 ⟨rfl, by rw [if_neg (by omega)]⟩
    · refine gx_iconst C dX7_isElement_10 ?_
      refine gx_goto C dX7_isElement_11 rfl ?_
      exact gx_zret C (by omega) dX7_isElement_15 ⟨rfl, by rw [if_pos (by omega)]⟩
set_option maxRecDepth 100000 in
set_option maxHeartbeats 4000000 in
theorem c_X7_isPlace {La : List gx_K} (hL : gd_H La) {M : gx_M} {n : Int} (hn : M 46 0 = n) (hn3 : n = 2 ∨ n = 3) {x y : Int} (hx : gx_3 x) (hy : gx_3 y) : gx_Ci La yX7_isPlace wsX7_isPlace 0 [gx_R 12, gx_I x, gx_I y] M (fun z M' => M' = M ∧ z = if 0 ≤ x ∧ x < n ∧ 0 ≤ y ∧ y < n then 1 else 0) := by
  refine gx_start_i (L := [gx_R 12, gx_I x, gx_I y, gx_U]) (by decide) rfl rfl (Nat.le_of_ble_eq_true rfl) rfl ?_
  intro _ _ _ _ _ _ _ _ _ _ _ _ C
  refine gx_aload_n C dX7_isPlace_0 rfl ?_
  refine gx_getR C 7 _ 0 rfl (gd_12 hL) rfl (by decide) nX7_isPlace_7 (gx_hts C _ fX7_isPlace_12) dX7_isPlace_1 ?_
  refine gx_getRN C 0 _ 0 rfl (gd_13 hL) rfl (by decide) nX7_isPlace_0 ((gx_hN C).1 ("PeirceDesk", 48, "PeirceDesk$Algebra", "now", "LPeirceDesk$State;", "PeirceDesk") (by decide +kernel) |> va_Nw.use rfl) dX7_isPlace_4 ?_
  refine gx_getIN C 6 _ 0 rfl (gd_now hL).1 rfl (by decide) nX7_isPlace_6 ((gx_hN C).1 ("PeirceDesk", 52, "PeirceDesk$State", "size", "I", "PeirceDesk") (by decide +kernel) |> va_Nw.use rfl) dX7_isPlace_7 hn ?_
  refine gx_istore_n C dX7_isPlace_10 (by decide) rfl ?_
  refine gx_iload_n C dX7_isPlace_11 rfl ?_
  refine gx_if_lt C dX7_isPlace_12 rfl hx (fun hb12 => ?_) (fun hb12 => ?_)
  · refine gx_iconst C dX7_isPlace_33 ?_
    exact gx_zret C (by omega) dX7_isPlace_34 ⟨rfl, by rw [if_neg (by omega)]⟩
  · refine gx_iload_n C dX7_isPlace_15 rfl ?_
    refine gx_iload_n C dX7_isPlace_16 rfl ?_
    refine gx_icmp_ge C dX7_isPlace_17 rfl hx (by unfold gx_3; omega) (fun hb17 => ?_) (fun hb17 => ?_)
    · refine gx_iconst C dX7_isPlace_33 ?_
      exact gx_zret C (by omega) dX7_isPlace_34 ⟨rfl, by rw [if_neg (by omega)]⟩
    · refine gx_iload_n C dX7_isPlace_20 rfl ?_
      refine gx_if_lt C dX7_isPlace_21 rfl hy (fun hb21 => ?_) (fun hb21 => ?_)
      · refine gx_iconst C dX7_isPlace_33 ?_
        exact gx_zret C (by omega) dX7_isPlace_34 ⟨rfl, by rw [if_neg (by omega)]⟩
      · refine gx_iload_n C dX7_isPlace_24 rfl ?_
        refine gx_iload_n C dX7_isPlace_25 rfl ?_
        refine gx_icmp_ge C dX7_isPlace_26 rfl hy (by unfold gx_3; omega) (fun hb26 => ?_) (fun hb26 => ?_)
        · refine gx_iconst C dX7_isPlace_33 ?_
          exact gx_zret C (by omega) dX7_isPlace_34 ⟨rfl, by rw [if_neg (by omega)]⟩
        · refine gx_iconst C dX7_isPlace_29 ?_
          refine gx_goto C dX7_isPlace_30 rfl ?_
          exact gx_zret C (by omega) dX7_isPlace_34 ⟨rfl, by rw [if_pos (by omega)]⟩
def mx_pe (w r t : Int) : Int := if w = 1 then r * t else if w = 2 then r * (r + 1) / 2 else t * (t + 1) / 2
set_option maxRecDepth 100000 in
set_option maxHeartbeats 4000000 in
theorem c_X7_partExponent {La : List gx_K} {M : gx_M} {w r t : Int} (hw : gx_3 w) (hr : 0 ≤ r ∧ r ≤ 3) (ht : 0 ≤ t ∧ t ≤ 3) : gx_Ci La yX7_partExponent wsX7_partExponent 0 [gx_I w, gx_I r, gx_I t] M (fun z M' => M' = M ∧ z = mx_pe w r t) := by
  have hb : ∀ x : Int, 0 ≤ x → x ≤ 3 → 0 ≤ x * (x + 1) ∧ x * (x + 1) ≤ 12 := fun x h1 h2 => by
    rcases (show x = 0 ∨ x = 1 ∨ x = 2 ∨ x = 3 by omega) with rfl | rfl | rfl | rfl <;> decide
  have hbr := hb r hr.1 hr.2
  have hbt := hb t ht.1 ht.2
  refine gx_start_i (L := [gx_I w, gx_I r, gx_I t, gx_U]) (by decide) rfl rfl (Nat.le_of_ble_eq_true rfl) rfl ?_
  intro _ _ _ _ _ _ _ _ _ _ _ _ C
  refine gx_iload_n C dX7_partExponent_0 rfl ?_
  refine gx_iconst C dX7_partExponent_1 ?_
  refine gx_icmp_ne C dX7_partExponent_2 rfl hw (by unfold gx_3; omega) (fun hb2 => ?_) (fun hb2 => ?_)
  · refine gx_iload_n C dX7_partExponent_9 rfl ?_
    refine gx_iconst C dX7_partExponent_10 ?_
    refine gx_icmp_ne C dX7_partExponent_11 rfl hw (by unfold gx_3; omega) (fun hb11 => ?_) (fun hb11 => ?_)
    · refine gx_iload_n C dX7_partExponent_18 rfl ?_
      refine gx_istore_n C dX7_partExponent_19 (by decide) rfl ?_
      refine gx_iload_n C dX7_partExponent_20 rfl ?_
      refine gx_iload_n C dX7_partExponent_21 rfl ?_
      refine gx_iconst C dX7_partExponent_22 ?_
      refine gx_iadd C dX7_partExponent_23 ?_
      refine gx_imul C dX7_partExponent_24 ?_
      refine gx_iconst C dX7_partExponent_25 ?_
      refine gx_idiv C dX7_partExponent_26 (by unfold gx_3; omega) (by unfold gx_3; omega) (by omega) (gx_tdiv (by omega)) ?_
      exact gx_iret C dX7_partExponent_27 ⟨rfl, by unfold mx_pe; rw [if_neg hb2, if_neg hb11]⟩
    · refine gx_iload_n C dX7_partExponent_14 rfl ?_
      refine gx_goto C dX7_partExponent_15 rfl ?_
      refine gx_istore_n C dX7_partExponent_19 (by decide) rfl ?_
      refine gx_iload_n C dX7_partExponent_20 rfl ?_
      refine gx_iload_n C dX7_partExponent_21 rfl ?_
      refine gx_iconst C dX7_partExponent_22 ?_
      refine gx_iadd C dX7_partExponent_23 ?_
      refine gx_imul C dX7_partExponent_24 ?_
      refine gx_iconst C dX7_partExponent_25 ?_
      refine gx_idiv C dX7_partExponent_26 (by unfold gx_3; omega) (by unfold gx_3; omega) (by omega) (gx_tdiv (by omega)) ?_
      exact gx_iret C dX7_partExponent_27 ⟨rfl, by unfold mx_pe; rw [if_neg hb2, if_pos (by omega)]⟩
  · refine gx_iload_n C dX7_partExponent_5 rfl ?_
    refine gx_iload_n C dX7_partExponent_6 rfl ?_
    refine gx_imul C dX7_partExponent_7 ?_
    exact gx_iret C dX7_partExponent_8 ⟨rfl, by unfold mx_pe; rw [if_pos (by omega)]⟩
