/-- the rows, their modulus, the product of the pivots -/
def rr_R (m : Int) (q : (Nat → Nat → Int) × Int) (M : gx_M) : Prop := M 19 1 = m ∧ M 19 2 = q.2 ∧ ∀ i, i < 4 → rw_of M i = q.1 i
theorem gx_u_com {M : gx_M} {a b k : Nat} {v : Int} {f : Nat → Int} (h : a ≠ b) : gx_u (gx_blk M b 0 9 f) a k v = gx_blk (gx_u M a k v) b 0 9 f := by
  funext c' j
  by_cases e : c' = b
  · subst e
    rw [gx_u_nc (Ne.symm h)]
    by_cases e2 : j < 9
    · rw [gx_b0 e2, gx_b0 e2]
    · rw [gx_blk_out (by omega), gx_blk_out (by omega), gx_u_nc (Ne.symm h)]
  · rw [gx_blk_nc e]
    by_cases e3 : c' = a
    · subst e3
      rw [gx_u_at, gx_u_at, gx_blk_nc e]
    · rw [gx_u_nc e3, gx_u_nc e3, gx_blk_nc e]
def rr_O (M M' : gx_M) : Prop := ∀ c', (c' < 19 ∨ 25 ≤ c') → M' c' = M c'
def rr_ok (m : Int) (R : Nat → Nat → Int) : Prop := ∀ i, i < 4 → mx_ok m (R i) ∧ ∀ k, 9 ≤ k → R i k = 0
theorem rr_Ot {M M1 M2 : gx_M} (h1 : rr_O M M1) (h2 : rr_O M1 M2) : rr_O M M2 := fun c h => (h2 c h).trans (h1 c h)
/-- the least row from k on that isn't 0 there, 4 if there is none -/
def rr_fd (R : Nat → Nat → Int) (c a f : Nat) : Prop := a ≤ f ∧ f ≤ 4 ∧ (∀ j, a ≤ j → j < f → R j c = 0) ∧ (f < 4 → R f c ≠ 0)
def rr_ex (R : Nat → Nat → Int) (a b : Nat) : Nat → Nat → Int := fun i => if i = a then R b else if i = b then R a else R i
def rr_iv (p m : Int) : Nat → Int
  | 0 => 0
  | k + 1 => if p * ((k + 1 : Nat) : Int) % m = 1 then ((k + 1 : Nat) : Int) else rr_iv p m k
def rr_one (m : Int) (R : Nat → Nat → Int) (r c : Nat) : Nat → Nat → Int := fun i => if i = r then (fun j => if j < 9 then R r j * rr_iv (R r c) m (m.toNat - 1) % m else 0) else R i
def rr_clr (m : Int) (R : Nat → Nat → Int) (r c : Nat) : Nat → Nat → Int := fun i => if i = r then R r else (fun j => if j < 9 then (R i j - R i c * R r j) % m else 0)
theorem rr_ivb {p m : Int} : ∀ k, 0 ≤ rr_iv p m k ∧ rr_iv p m k ≤ k
  | 0 => by simp [rr_iv]
  | k + 1 => by
    have := rr_ivb (p := p) (m := m) k
    unfold rr_iv
    split <;> omega
theorem rr_R1 {m : Int} {q : (Nat → Nat → Int) × Int} {M : gx_M} (h : rr_R m q M) {i : Nat} (hi : i < 4) {f : Nat → Int} (hf : ∀ k, 9 ≤ k → f k = 0) : rr_R m ((fun j => if j = i then f else q.1 j), q.2) (rw_set M i f) := by
  obtain ⟨h1, h2, h3⟩ := h
  refine ⟨by unfold rw_set; rw [gx_blk_nc (by omega)]; exact h1, by unfold rw_set; rw [gx_blk_nc (by omega)]; exact h2, fun j hj => ?_⟩
  show _ = if j = i then f else q.1 j
  by_cases e : j = i
  · rw [if_pos e, e]
    exact rw_set_eq hf
  · rw [if_neg e, rw_set_ne e]
    exact h3 j hj
theorem rr_O1 {M : gx_M} {i : Nat} (hi : i < 4) {f : Nat → Int} : rr_O M (rw_set M i f) := fun c' hc => by
  unfold rw_set
  rw [gx_blk_nc (by omega)]
set_option maxRecDepth 100000 in
set_option maxHeartbeats 4000000 in
theorem c_X5_pivotRow {La : List gx_K} (hL : gd_H La) {M : gx_M} {m : Int} (hm : m ≤ 11) {q : (Nat → Nat → Int) × Int} (hR : rr_R m q M) (ok : rr_ok m q.1) {c a : Nat} (hc : c < 9) (ha : a ≤ 4) : gx_Ci La yX5_pivotRow wsX5_pivotRow 0 [gx_R 19, gx_I c, gx_I a] M (fun z M' => M' = M ∧ ∃ f, rr_fd q.1 c a f ∧ z = if f = 4 then -6 else (f : Int)) := by
  obtain ⟨h1, h2, h3⟩ := hR
  refine gx_start_i (L := [gx_R 19, gx_I c, gx_I a, gx_U]) (by decide) rfl rfl (Nat.le_of_ble_eq_true rfl) rfl ?_
  intro _ _ _ _ _ _ _ _ _ _ _ _ C
  refine gx_iload_n C dX5_pivotRow_0 rfl ?_
  refine gx_istore_n C dX5_pivotRow_1 (by decide) rfl ?_
  refine gx_for 4 (fun k (_ : Unit) => [gx_R 19, gx_I c, gx_I a, gx_I (k : Int)]) (fun _ => M) (fun k _ => a ≤ k ∧ ∀ j, a ≤ j → j < k → q.1 j c = 0) a () ha ⟨Nat.le_refl _, fun j h1 h2 => absurd h2 (by omega)⟩ (fun k _ hk hI ih => ?_) (fun _ hI => ?_)
  · have hrow := gd_r hL hk
    have e1 : M (21 + 1 * k) (((c : Int)).toNat) = q.1 k c := (rw_nat hc).trans (congrFun (h3 k hk) c)
    have b1 := (ok k hk).1 c hc
    refine gx_iload_n C dX5_pivotRow_2 rfl ?_
    refine gx_aload_n C dX5_pivotRow_3 rfl ?_
    refine gx_getR C 5 _ 0 rfl (gd_19 hL) rfl (by decide) nX5_pivotRow_5 (gx_hts C _ fX5_pivotRow_11) dX5_pivotRow_4 ?_
    refine gx_alen C (gd_20 hL) (by decide) dX5_pivotRow_7 ?_
    refine gx_icmp_ge C dX5_pivotRow_8 rfl (by unfold gx_3; omega) (by unfold gx_3; omega) (fun hb8 => absurd hb8 (by omega)) (fun hb8 => ?_)
    refine gx_aload_n C dX5_pivotRow_11 rfl ?_
    refine gx_getR C 5 _ 0 rfl (gd_19 hL) rfl (by decide) nX5_pivotRow_5 (gx_hts C _ fX5_pivotRow_11) dX5_pivotRow_12 ?_
    refine gx_iload_n C dX5_pivotRow_15 rfl ?_
    refine gx_aaload C (gd_20 hL) (by decide) (by omega) dX5_pivotRow_16 (show _ = 21 + 1 * k from rfl) ?_
    refine gx_iload_n C dX5_pivotRow_17 rfl ?_
    refine gx_iaload C hrow (by omega) dX5_pivotRow_18 e1 ?_
    refine gx_if_eq C dX5_pivotRow_19 rfl (by unfold gx_3; omega) (fun hb19 => ?_) (fun hb19 => ?_)
    · refine gx_iinc C dX5_pivotRow_24 (by decide) rfl rfl ?_
      refine gx_goto C dX5_pivotRow_27 rfl ?_
      exact ih () ⟨by omega, fun j g1 g2 => by
        rcases (show j < k ∨ j = k by omega) with g | g
        · exact hI.2 j g1 g
        · rw [g]; exact hb19⟩
    · refine gx_iload_n C dX5_pivotRow_22 rfl ?_
      exact gx_iret C dX5_pivotRow_23 ⟨rfl, k, ⟨hI.1, by omega, hI.2, fun _ => hb19⟩, by rw [if_neg (by omega)]⟩
  · refine gx_iload_n C dX5_pivotRow_2 rfl ?_
    refine gx_aload_n C dX5_pivotRow_3 rfl ?_
    refine gx_getR C 5 _ 0 rfl (gd_19 hL) rfl (by decide) nX5_pivotRow_5 (gx_hts C _ fX5_pivotRow_11) dX5_pivotRow_4 ?_
    refine gx_alen C (gd_20 hL) (by decide) dX5_pivotRow_7 ?_
    refine gx_icmp_ge C dX5_pivotRow_8 rfl (by unfold gx_3; omega) (by unfold gx_3; omega) (fun hb8 => ?_) (fun hb8 => absurd (by omega) hb8)
    refine gx_bipush C dX5_pivotRow_30 rfl ?_
    exact gx_iret C dX5_pivotRow_32 ⟨rfl, 4, ⟨hI.1, Nat.le_refl _, hI.2, fun h => absurd h (by omega)⟩, by rw [if_pos rfl]⟩
set_option maxRecDepth 100000 in
set_option maxHeartbeats 4000000 in
theorem c_X5_exchange {La : List gx_K} (hL : gd_H La) {M : gx_M} {m : Int} {q : (Nat → Nat → Int) × Int} (hR : rr_R m q M) (ok : rr_ok m q.1) {a b : Nat} (ha : a < 4) (hb : b < 4) : gx_Cv La yX5_exchange wsX5_exchange 0 [gx_R 19, gx_I a, gx_I b] M (fun M' => rr_R m (rr_ex q.1 a b, if a = b then q.2 else -q.2) M' ∧ rr_O M M') := by
  obtain ⟨R, pv⟩ := q
  have hrowa := gd_r hL ha
  have hrowb := gd_r hL hb
  refine gx_start_v (L := [gx_R 19, gx_I a, gx_I b, gx_U, gx_U]) (by decide) rfl rfl (Nat.le_of_ble_eq_true rfl) rfl ?_
  intro _ _ _ _ _ _ _ _ _ _ _ _ C
  refine gx_iload_n C dX5_exchange_0 rfl ?_
  refine gx_iload_n C dX5_exchange_1 rfl ?_
  by_cases hab : a = b
  · subst hab
    refine gx_icmp_eq C dX5_exchange_2 rfl (by unfold gx_3; omega) (by unfold gx_3; omega) (fun hb2 => ?_) (fun hb2 => absurd (by omega) hb2)
    have fin : rr_R m (rr_ex R a a, if a = a then pv else -pv) M := by
      refine ⟨hR.1, by rw [if_pos rfl]; exact hR.2.1, fun i hi => ?_⟩
      rw [hR.2.2 i hi]
      show R i = if i = a then R a else if i = a then R a else R i
      by_cases e : i = a
      · rw [if_pos e, e]
      · rw [if_neg e, if_neg e]
    exact gx_vret C dX5_exchange_64 ⟨fin, fun _ _ => rfl⟩
  · refine gx_icmp_eq C dX5_exchange_2 rfl (by unfold gx_3; omega) (by unfold gx_3; omega) (fun hb2 => absurd hb2 (by omega)) (fun hb2 => ?_)
    refine gx_iconst C dX5_exchange_5 ?_
    refine gx_istore_n C dX5_exchange_6 (by decide) rfl ?_
    refine gx_for 9 (fun k (_ : gx_M) => [gx_R 19, gx_I a, gx_I b, gx_I (k : Int), gx_U]) (fun M' => M') (fun k M' => M' = rw_set (rw_set M a (fun j => if j < k then R b j else R a j)) b (fun j => if j < k then R a j else R b j)) 0 M (by omega) ?_ (fun k M' hk hI ih => ?_) (fun M' hI => ?_)
    · have e1 : rw_set M a (fun j => if j < 0 then R b j else R a j) = M := by
        have := gx_blk_self (M := M) (c := 21 + 1 * a)
        rw [show mx_of (M (21 + 1 * a)) 0 = R a from hR.2.2 a ha] at this
        exact this
      rw [e1]
      have := gx_blk_self (M := M) (c := 21 + 1 * b)
      rw [show mx_of (M (21 + 1 * b)) 0 = R b from hR.2.2 b hb] at this
      exact this.symm
    · have ea : M' (21 + 1 * a) (((k : Int)).toNat) = R a k := by
        rw [hI]
        unfold rw_set
        rw [gx_blk_nc (by omega)]
        show gx_blk M (21 + 1 * a) 0 9 _ (21 + 1 * a) k = _
        rw [gx_b0 hk, if_neg (by omega)]
      have eb : M' (21 + 1 * b) (((k : Int)).toNat) = R b k := by
        rw [hI]
        unfold rw_set
        show gx_blk _ (21 + 1 * b) 0 9 _ (21 + 1 * b) k = _
        rw [gx_b0 hk, if_neg (by omega)]
      refine gx_iload_n C dX5_exchange_7 rfl ?_
      refine gx_bipush C dX5_exchange_8 rfl ?_
      refine gx_icmp_ge C dX5_exchange_10 rfl (by unfold gx_3; omega) (by unfold gx_3; omega) (fun hb10 => absurd hb10 (by omega)) (fun hb10 => ?_)
      refine gx_aload_n C dX5_exchange_13 rfl ?_
      refine gx_getR C 5 _ 0 rfl (gd_19 hL) rfl (by decide) nX5_exchange_5 (gx_hts C _ fX5_exchange_11) dX5_exchange_14 ?_
      refine gx_iload_n C dX5_exchange_17 rfl ?_
      refine gx_aaload C (gd_20 hL) (by decide) (by omega) dX5_exchange_18 (show _ = 21 + 1 * a from rfl) ?_
      refine gx_iload_n C dX5_exchange_19 rfl ?_
      refine gx_iaload C hrowa (by omega) dX5_exchange_20 ea ?_
      refine gx_istore C dX5_exchange_21 (by decide) rfl ?_
      refine gx_aload_n C dX5_exchange_23 rfl ?_
      refine gx_getR C 5 _ 0 rfl (gd_19 hL) rfl (by decide) nX5_exchange_5 (gx_hts C _ fX5_exchange_11) dX5_exchange_24 ?_
      refine gx_iload_n C dX5_exchange_27 rfl ?_
      refine gx_aaload C (gd_20 hL) (by decide) (by omega) dX5_exchange_28 (show _ = 21 + 1 * a from rfl) ?_
      refine gx_iload_n C dX5_exchange_29 rfl ?_
      refine gx_aload_n C dX5_exchange_30 rfl ?_
      refine gx_getR C 5 _ 0 rfl (gd_19 hL) rfl (by decide) nX5_exchange_5 (gx_hts C _ fX5_exchange_11) dX5_exchange_31 ?_
      refine gx_iload_n C dX5_exchange_34 rfl ?_
      refine gx_aaload C (gd_20 hL) (by decide) (by omega) dX5_exchange_35 (show _ = 21 + 1 * b from rfl) ?_
      refine gx_iload_n C dX5_exchange_36 rfl ?_
      refine gx_iaload C hrowb (by omega) dX5_exchange_37 eb ?_
      refine gx_iastore C hrowa (by omega) dX5_exchange_38 (show _ = k by omega) ?_
      refine gx_aload_n C dX5_exchange_39 rfl ?_
      refine gx_getR C 5 _ 0 rfl (gd_19 hL) rfl (by decide) nX5_exchange_5 (gx_hts C _ fX5_exchange_11) dX5_exchange_40 ?_
      refine gx_iload_n C dX5_exchange_43 rfl ?_
      refine gx_aaload C (gd_20 hL) (by decide) (by omega) dX5_exchange_44 (show _ = 21 + 1 * b from rfl) ?_
      refine gx_iload_n C dX5_exchange_45 rfl ?_
      refine gx_iload C dX5_exchange_46 rfl ?_
      refine gx_iastore C hrowb (by omega) dX5_exchange_48 (show _ = k by omega) ?_
      refine gx_iinc C dX5_exchange_49 (by decide) rfl rfl ?_
      refine gx_goto C dX5_exchange_52 rfl ?_
      refine gx_weak (L' := [gx_R 19, gx_I a, gx_I b, gx_I ((k + 1 : Nat) : Int), gx_U]) ⟨Or.inr rfl, Or.inr rfl, Or.inr rfl, Or.inr rfl, Or.inl rfl, trivial⟩ (ih _ ?_)
      rw [hI]
      unfold rw_set
      rw [gx_u_com (show 21 + 1 * a ≠ 21 + 1 * b by omega), gx_u_blk hk, gx_u_blk hk]
      have g1 : ∀ (x y : Nat → Int) j, j < 9 → (if j = k then x k else if j < k then x j else y j) = (if j < k + 1 then x j else y j) := fun x y j _ => by
        by_cases e : j = k
        · rw [if_pos e, if_pos (by omega), e]
        · rw [if_neg e]
          by_cases e2 : j < k
          · rw [if_pos e2, if_pos (by omega)]
          · rw [if_neg e2, if_neg (by omega)]
      rw [gx_blk_f (fun j hj => g1 (R b) (R a) j hj)]
      exact gx_blk_f (fun j hj => g1 (R a) (R b) j hj)
    · have hI' : M' = rw_set (rw_set M a (R b)) b (R a) := by
        rw [hI]
        have e1 : rw_set M a (fun j => if j < 9 then R b j else R a j) = rw_set M a (R b) := gx_blk_f (fun j hj => if_pos hj)
        rw [e1]
        exact gx_blk_f (fun j hj => if_pos hj)
      have hq := rr_R1 (rr_R1 hR ha (f := R b) (ok b hb).2) hb (f := R a) (ok a ha).2
      rw [← hI'] at hq
      have e2 : M' 19 2 = pv := hq.2.1
      refine gx_iload_n C dX5_exchange_7 rfl ?_
      refine gx_bipush C dX5_exchange_8 rfl ?_
      refine gx_icmp_ge C dX5_exchange_10 rfl (by unfold gx_3; omega) (by unfold gx_3; omega) (fun hb10 => ?_) (fun hb10 => absurd (by omega) hb10)
      refine gx_aload_n C dX5_exchange_55 rfl ?_
      refine gx_aload_n C dX5_exchange_56 rfl ?_
      refine gx_getI C 5 _ 2 rfl (gd_19 hL) rfl (by decide) nX5_exchange_5 (gx_hts C _ fX5_exchange_34) dX5_exchange_57 e2 ?_
      refine gx_ineg C dX5_exchange_60 ?_
      refine gx_putI C 5 _ 2 rfl (gd_19 hL) rfl (by decide) nX5_exchange_5 tyX5 tyX5_ok nmX5 (gx_hts C _ fX5_exchange_34) rfl rfl dX5_exchange_61 ?_
      have fin : rr_R m (rr_ex R a b, if a = b then pv else -pv) (gx_u M' 19 2 (-pv)) ∧ rr_O M (gx_u M' 19 2 (-pv)) := by
        refine ⟨⟨by rw [gx_u_ne (by decide)]; exact hq.1, by rw [gx_u_eq, if_neg hab], fun i hi => ?_⟩, fun c' hc => by rw [gx_u_nc (by omega), hI']; unfold rw_set; rw [gx_blk_nc (by omega), gx_blk_nc (by omega)]⟩
        have : rw_of (gx_u M' 19 2 (-pv)) i = rw_of M' i := by unfold rw_of; rw [gx_u_nc (by omega)]
        rw [this, hq.2.2 i hi]
        show (if i = b then R a else if i = a then R b else R i) = if i = a then R b else if i = b then R a else R i
        by_cases e : i = b
        · rw [if_pos e, if_neg (by omega), if_pos e]
        · rw [if_neg e, if_neg e]
      exact gx_vret C dX5_exchange_64 fin
set_option maxRecDepth 100000 in
set_option maxHeartbeats 4000000 in
theorem c_X5_makePivotOne {La : List gx_K} (hL : gd_H La) {M : gx_M} {m : Int} (hm : 3 ≤ m ∧ m ≤ 11) {q : (Nat → Nat → Int) × Int} (hR : rr_R m q M) (ok : rr_ok m q.1) (hpv : -11 ≤ q.2 ∧ q.2 ≤ 11) {r c : Nat} (hr : r < 4) (hc : c < 9) : gx_Cv La yX5_makePivotOne wsX5_makePivotOne 1 [gx_R 19, gx_I r, gx_I c] M (fun M' => rr_R m (rr_one m q.1 r c, q.2 * q.1 r c % m) M' ∧ rr_O M M') := by
  obtain ⟨R, pv⟩ := q
  simp only at ok hpv
  have hrow := gd_r hL hr
  obtain ⟨o1, o2⟩ := ok r hr
  have hp := o1 c hc
  have e0 : M (21 + 1 * r) (((c : Int)).toNat) = R r c := (rw_nat hc).trans (congrFun (hR.2.2 r hr) c)
  have hb : -1000 ≤ pv * R r c ∧ pv * R r c ≤ 1000 := by
    have g1 : pv * R r c ≤ 11 * R r c := Int.mul_le_mul_of_nonneg_right hpv.2 hp.1
    have g2 : (-11) * R r c ≤ pv * R r c := Int.mul_le_mul_of_nonneg_right hpv.1 hp.1
    omega
  refine gx_start_v (L := [gx_R 19, gx_I r, gx_I c, gx_U, gx_U, gx_U]) (by decide) rfl rfl (Nat.le_of_ble_eq_true rfl) rfl ?_
  intro _ _ _ _ _ _ _ _ _ _ _ _ C
  refine gx_aload_n C dX5_makePivotOne_0 rfl ?_
  refine gx_getR C 5 _ 0 rfl (gd_19 hL) rfl (by decide) nX5_makePivotOne_5 (gx_hts C _ fX5_makePivotOne_11) dX5_makePivotOne_1 ?_
  refine gx_iload_n C dX5_makePivotOne_4 rfl ?_
  refine gx_aaload C (gd_20 hL) (by decide) (by omega) dX5_makePivotOne_5 (show _ = 21 + 1 * r from rfl) ?_
  refine gx_iload_n C dX5_makePivotOne_6 rfl ?_
  refine gx_iaload C hrow (by omega) dX5_makePivotOne_7 e0 ?_
  refine gx_istore_n C dX5_makePivotOne_8 (by decide) rfl ?_
  refine gx_aload_n C dX5_makePivotOne_9 rfl ?_
  refine gx_aload_n C dX5_makePivotOne_10 rfl ?_
  refine gx_getI C 5 _ 2 rfl (gd_19 hL) rfl (by decide) nX5_makePivotOne_5 (gx_hts C _ fX5_makePivotOne_34) dX5_makePivotOne_11 hR.2.1 ?_
  refine gx_iload_n C dX5_makePivotOne_14 rfl ?_
  refine gx_imul C dX5_makePivotOne_15 ?_
  refine gx_aload_n C dX5_makePivotOne_16 rfl ?_
  refine gx_getI C 5 _ 1 rfl (gd_19 hL) rfl (by decide) nX5_makePivotOne_5 (gx_hts C _ fX5_makePivotOne_22) dX5_makePivotOne_17 hR.1 ?_
  refine gx_statIN C (c_X7_reduced (x := pv * R r c) (m := m) (by omega) (by omega)) (⟨va_cnB 2 (gx_hts C) gX5_makePivotOne_X7_reduced_n51 rfl rfl rfl ((gx_hN C).2 ("PeirceDesk$Rows", 51, yX7_reduced, "PeirceDesk") (by decide +kernel)) ((gx_hts C) (.initialized RX7) (by decide +kernel)) (by decide +kernel) ⟨Nat.le_of_ble_eq_true rfl, Nat.le_of_ble_eq_true rfl⟩, (gx_hts C) (.static yX7_reduced) (by decide +kernel), trivial⟩) rfl rfl (Nat.le_of_ble_eq_true rfl) ⟨Nat.le_refl _, Nat.le_refl _⟩ dX5_makePivotOne_20 (fun z P hz => ?_)
  obtain ⟨rfl, rfl⟩ := hz
  refine gx_putI C 5 _ 2 rfl (gd_19 hL) rfl (by decide) nX5_makePivotOne_5 tyX5 tyX5_ok nmX5 (gx_hts C _ fX5_makePivotOne_34) rfl rfl dX5_makePivotOne_23 ?_
  refine gx_iconst C dX5_makePivotOne_26 ?_
  refine gx_istore C dX5_makePivotOne_27 (by decide) rfl ?_
  refine gx_iconst C dX5_makePivotOne_29 ?_
  refine gx_istore C dX5_makePivotOne_30 (by decide) rfl ?_
  have hR1 : rr_R m (R, pv * R r c % m) (gx_u P 19 2 (pv * R r c % m)) := ⟨by rw [gx_u_ne (by decide)]; exact hR.1, gx_u_eq _ _ _ _, fun i hi => by
    have : rw_of (gx_u P 19 2 (pv * R r c % m)) i = rw_of P i := by unfold rw_of; rw [gx_u_nc (by omega)]
    rw [this]
    exact hR.2.2 i hi⟩
  have hO1 : rr_O P (gx_u P 19 2 (pv * R r c % m)) := fun c' hc => gx_u_nc (by omega)
  generalize gx_u P 19 2 (pv * R r c % m) = P1 at hR1 hO1 ⊢
  have hm1 : P1 19 1 = m := hR1.1
  refine gx_for (m.toNat - 1) (fun k (iv : Int) => [gx_R 19, gx_I r, gx_I c, gx_I (R r c), gx_I iv, gx_I ((k + 1 : Nat) : Int)]) (fun _ => P1) (fun k iv => iv = rr_iv (R r c) m k) 0 0 (by omega) rfl (fun k iv hk hI ih => ?_) (fun iv hI => ?_)
  · have hpr := mx_pr (m := 11) (x := R r c) (y := ((k + 1 : Nat) : Int)) (by omega) (by omega) (by omega)
    refine gx_iload C dX5_makePivotOne_32 rfl ?_
    refine gx_aload_n C dX5_makePivotOne_34 rfl ?_
    refine gx_getI C 5 _ 1 rfl (gd_19 hL) rfl (by decide) nX5_makePivotOne_5 (gx_hts C _ fX5_makePivotOne_22) dX5_makePivotOne_35 hm1 ?_
    refine gx_icmp_ge C dX5_makePivotOne_38 rfl (by unfold gx_3; omega) (by unfold gx_3; omega) (fun hb38 => absurd hb38 (by omega)) (fun hb38 => ?_)
    refine gx_iload_n C dX5_makePivotOne_41 rfl ?_
    refine gx_iload C dX5_makePivotOne_42 rfl ?_
    refine gx_imul C dX5_makePivotOne_44 ?_
    refine gx_aload_n C dX5_makePivotOne_45 rfl ?_
    refine gx_getI C 5 _ 1 rfl (gd_19 hL) rfl (by decide) nX5_makePivotOne_5 (gx_hts C _ fX5_makePivotOne_22) dX5_makePivotOne_46 hm1 ?_
    refine gx_statIN C (c_X7_reduced (x := R r c * ((k + 1 : Nat) : Int)) (m := m) (by omega) (by omega)) (⟨va_cnB 2 (gx_hts C) gX5_makePivotOne_X7_reduced_n51 rfl rfl rfl ((gx_hN C).2 ("PeirceDesk$Rows", 51, yX7_reduced, "PeirceDesk") (by decide +kernel)) ((gx_hts C) (.initialized RX7) (by decide +kernel)) (by decide +kernel) ⟨Nat.le_of_ble_eq_true rfl, Nat.le_of_ble_eq_true rfl⟩, (gx_hts C) (.static yX7_reduced) (by decide +kernel), trivial⟩) rfl rfl (Nat.le_of_ble_eq_true rfl) ⟨Nat.le_refl _, Nat.le_refl _⟩ dX5_makePivotOne_49 (fun z P2 hz => ?_)
    obtain ⟨rfl, rfl⟩ := hz
    have hmd := mx_md (m := m) (by omega) (R r c * ((k + 1 : Nat) : Int))
    refine gx_iconst C dX5_makePivotOne_52 ?_
    refine gx_icmp_ne C dX5_makePivotOne_53 rfl (by unfold gx_3; omega) (by unfold gx_3; omega) (fun hb53 => ?_) (fun hb53 => ?_)
    · refine gx_iinc C dX5_makePivotOne_60 (by decide) rfl rfl ?_
      refine gx_goto C dX5_makePivotOne_63 rfl ?_
      exact ih _ (by rw [hI]; exact (if_neg hb53).symm)
    · refine gx_iload C dX5_makePivotOne_56 rfl ?_
      refine gx_istore C dX5_makePivotOne_58 (by decide) rfl ?_
      refine gx_iinc C dX5_makePivotOne_60 (by decide) rfl rfl ?_
      refine gx_goto C dX5_makePivotOne_63 rfl ?_
      exact ih _ ((if_pos (by omega)).symm)
  · have hib := rr_ivb (p := R r c) (m := m) (m.toNat - 1)
    refine gx_iload C dX5_makePivotOne_32 rfl ?_
    refine gx_aload_n C dX5_makePivotOne_34 rfl ?_
    refine gx_getI C 5 _ 1 rfl (gd_19 hL) rfl (by decide) nX5_makePivotOne_5 (gx_hts C _ fX5_makePivotOne_22) dX5_makePivotOne_35 hm1 ?_
    refine gx_icmp_ge C dX5_makePivotOne_38 rfl (by unfold gx_3; omega) (by unfold gx_3; omega) (fun hb38 => ?_) (fun hb38 => absurd (by omega) hb38)
    subst hI
    refine gx_iconst C dX5_makePivotOne_66 ?_
    refine gx_istore C dX5_makePivotOne_67 (by decide) rfl ?_
    refine gx_for 9 (fun k (_ : gx_M) => [gx_R 19, gx_I r, gx_I c, gx_I (R r c), gx_I (rr_iv (R r c) m (m.toNat - 1)), gx_I (k : Int)]) (fun P2 => P2) (fun k P2 => P2 = rw_set P1 r (fun j => if j < k then R r j * rr_iv (R r c) m (m.toNat - 1) % m else R r j)) 0 P1 (by omega) ?_ (fun k P2 hk hI ih => ?_) (fun P2 hI => ?_)
    · have := gx_blk_self (M := P1) (c := 21 + 1 * r)
      rw [show mx_of (P1 (21 + 1 * r)) 0 = R r from hR1.2.2 r hr] at this
      exact this.symm
    · have e1 : P2 (21 + 1 * r) (((k : Int)).toNat) = R r k := by
        rw [hI]
        unfold rw_set
        show gx_blk _ (21 + 1 * r) 0 9 _ (21 + 1 * r) k = _
        rw [gx_b0 hk, if_neg (by omega)]
      have e2 : P2 19 1 = m := by
        rw [hI]
        unfold rw_set
        rw [gx_blk_nc (by omega)]
        exact hm1
      have hk1 := o1 k hk
      have hpr := mx_pr (m := 11) (x := R r k) (y := rr_iv (R r c) m (m.toNat - 1)) (by omega) (by omega) (by omega)
      refine gx_iload C dX5_makePivotOne_69 rfl ?_
      refine gx_bipush C dX5_makePivotOne_71 rfl ?_
      refine gx_icmp_ge C dX5_makePivotOne_73 rfl (by unfold gx_3; omega) (by unfold gx_3; omega) (fun hb73 => absurd hb73 (by omega)) (fun hb73 => ?_)
      refine gx_aload_n C dX5_makePivotOne_76 rfl ?_
      refine gx_getR C 5 _ 0 rfl (gd_19 hL) rfl (by decide) nX5_makePivotOne_5 (gx_hts C _ fX5_makePivotOne_11) dX5_makePivotOne_77 ?_
      refine gx_iload_n C dX5_makePivotOne_80 rfl ?_
      refine gx_aaload C (gd_20 hL) (by decide) (by omega) dX5_makePivotOne_81 (show _ = 21 + 1 * r from rfl) ?_
      refine gx_iload C dX5_makePivotOne_82 rfl ?_
      refine gx_aload_n C dX5_makePivotOne_84 rfl ?_
      refine gx_getR C 5 _ 0 rfl (gd_19 hL) rfl (by decide) nX5_makePivotOne_5 (gx_hts C _ fX5_makePivotOne_11) dX5_makePivotOne_85 ?_
      refine gx_iload_n C dX5_makePivotOne_88 rfl ?_
      refine gx_aaload C (gd_20 hL) (by decide) (by omega) dX5_makePivotOne_89 (show _ = 21 + 1 * r from rfl) ?_
      refine gx_iload C dX5_makePivotOne_90 rfl ?_
      refine gx_iaload C hrow (by omega) dX5_makePivotOne_92 e1 ?_
      refine gx_iload C dX5_makePivotOne_93 rfl ?_
      refine gx_imul C dX5_makePivotOne_95 ?_
      refine gx_aload_n C dX5_makePivotOne_96 rfl ?_
      refine gx_getI C 5 _ 1 rfl (gd_19 hL) rfl (by decide) nX5_makePivotOne_5 (gx_hts C _ fX5_makePivotOne_22) dX5_makePivotOne_97 e2 ?_
      refine gx_statIN C (c_X7_reduced (x := R r k * rr_iv (R r c) m (m.toNat - 1)) (m := m) (by omega) (by omega)) (⟨va_cnB 2 (gx_hts C) gX5_makePivotOne_X7_reduced_n51 rfl rfl rfl ((gx_hN C).2 ("PeirceDesk$Rows", 51, yX7_reduced, "PeirceDesk") (by decide +kernel)) ((gx_hts C) (.initialized RX7) (by decide +kernel)) (by decide +kernel) ⟨Nat.le_of_ble_eq_true rfl, Nat.le_of_ble_eq_true rfl⟩, (gx_hts C) (.static yX7_reduced) (by decide +kernel), trivial⟩) rfl rfl (Nat.le_of_ble_eq_true rfl) ⟨Nat.le_refl _, Nat.le_refl _⟩ dX5_makePivotOne_100 (fun z P3 hz => ?_)
      obtain ⟨rfl, rfl⟩ := hz
      refine gx_iastore C hrow (by omega) dX5_makePivotOne_103 (show _ = k by omega) ?_
      refine gx_iinc C dX5_makePivotOne_104 (by decide) rfl rfl ?_
      refine gx_goto C dX5_makePivotOne_107 rfl ?_
      refine ih _ ?_
      rw [hI]
      unfold rw_set
      rw [gx_u_blk hk]
      refine gx_blk_f (fun j hj => ?_)
      by_cases e : j = k
      · rw [if_pos e, if_pos (by omega), e]
      · rw [if_neg e]
        by_cases e3 : j < k
        · rw [if_pos e3, if_pos (by omega)]
        · rw [if_neg e3, if_neg (by omega)]
    · have hI' : P2 = rw_set P1 r (fun j => if j < 9 then R r j * rr_iv (R r c) m (m.toNat - 1) % m else 0) := by
        rw [hI]
        exact gx_blk_f (fun j hj => by rw [if_pos hj, if_pos hj])
      have hq := rr_R1 hR1 hr (f := fun j => if j < 9 then R r j * rr_iv (R r c) m (m.toNat - 1) % m else 0) (fun k hk => if_neg (by omega))
      rw [← hI'] at hq
      refine gx_iload C dX5_makePivotOne_69 rfl ?_
      refine gx_bipush C dX5_makePivotOne_71 rfl ?_
      refine gx_icmp_ge C dX5_makePivotOne_73 rfl (by unfold gx_3; omega) (by unfold gx_3; omega) (fun hb73 => ?_) (fun hb73 => absurd (by omega) hb73)
      exact gx_vret C dX5_makePivotOne_110 ⟨hq, by rw [hI']; exact rr_Ot hO1 (rr_O1 hr)⟩
set_option maxRecDepth 100000 in
set_option maxHeartbeats 4000000 in
theorem c_X5_clearColumn {La : List gx_K} (hL : gd_H La) {M : gx_M} {m : Int} (hm : 3 ≤ m ∧ m ≤ 11) {q : (Nat → Nat → Int) × Int} (hR : rr_R m q M) (ok : rr_ok m q.1) {r c : Nat} (hr : r < 4) (hc : c < 9) : gx_Cv La yX5_clearColumn wsX5_clearColumn 1 [gx_R 19, gx_I r, gx_I c] M (fun M' => rr_R m (rr_clr m q.1 r c, q.2) M' ∧ rr_O M M') := by
  obtain ⟨R, pv⟩ := q
  simp only at ok
  have hrowr := gd_r hL hr
  refine gx_start_v (L := [gx_R 19, gx_I r, gx_I c, gx_U, gx_U, gx_U]) (by decide) rfl rfl (Nat.le_of_ble_eq_true rfl) rfl ?_
  intro _ _ _ _ _ _ _ _ _ _ _ _ C
  refine gx_iconst C dX5_clearColumn_0 ?_
  refine gx_istore_n C dX5_clearColumn_1 (by decide) rfl ?_
  refine gx_for 4 (fun i (_ : gx_M) => [gx_R 19, gx_I r, gx_I c, gx_I (i : Int), gx_U, gx_U]) (fun P => P) (fun i P => rr_R m ((fun j => if j < i then rr_clr m R r c j else R j), pv) P ∧ rr_O M P) 0 M (by omega) ⟨⟨hR.1, hR.2.1, fun j hj => hR.2.2 j hj⟩, fun _ _ => rfl⟩ (fun i P hi hI ih => ?_) (fun P hI => ?_)
  · obtain ⟨hP, hO⟩ := hI
    have hrow := gd_r hL hi
    obtain ⟨o1, o2⟩ := ok i hi
    obtain ⟨p1, p2⟩ := ok r hr
    have hPi : rw_of P i = R i := by
      have := hP.2.2 i hi
      rw [this]
      exact if_neg (by omega)
    have hPr : rw_of P r = R r := by
      rw [hP.2.2 r hr]
      show (if r < i then rr_clr m R r c r else R r) = R r
      split
      · exact if_pos rfl
      · rfl
    have hstep : ∀ P2 : gx_M, P2 = rw_set P i (rr_clr m R r c i) → (rr_R m ((fun j => if j < i + 1 then rr_clr m R r c j else R j), pv) P2 ∧ rr_O M P2) := fun P2 h2 => by
      have h9 : ∀ k, 9 ≤ k → rr_clr m R r c i k = 0 := fun k hk => by
        unfold rr_clr
        split
        · exact p2 k hk
        · exact if_neg (by omega)
      have hq := rr_R1 hP hi (f := rr_clr m R r c i) h9
      rw [← h2] at hq
      refine ⟨⟨hq.1, hq.2.1, fun j hj => ?_⟩, by rw [h2]; exact rr_Ot hO (rr_O1 hi)⟩
      rw [hq.2.2 j hj]
      show (if j = i then rr_clr m R r c i else if j < i then rr_clr m R r c j else R j) = if j < i + 1 then rr_clr m R r c j else R j
      by_cases e : j = i
      · rw [if_pos e, if_pos (by omega), e]
      · rw [if_neg e]
        by_cases e2 : j < i
        · rw [if_pos e2, if_pos (by omega)]
        · rw [if_neg e2, if_neg (by omega)]
    have hself : rw_set P i (R i) = P := by
      have := gx_blk_self (M := P) (c := 21 + 1 * i)
      rw [show mx_of (P (21 + 1 * i)) 0 = R i from hPi] at this
      exact this
    have hm1 : P 19 1 = m := hP.1
    refine gx_iload_n C dX5_clearColumn_2 rfl ?_
    refine gx_aload_n C dX5_clearColumn_3 rfl ?_
    refine gx_getR C 5 _ 0 rfl (gd_19 hL) rfl (by decide) nX5_clearColumn_5 (gx_hts C _ fX5_clearColumn_11) dX5_clearColumn_4 ?_
    refine gx_alen C (gd_20 hL) (by decide) dX5_clearColumn_7 ?_
    refine gx_icmp_ge C dX5_clearColumn_8 rfl (by unfold gx_3; omega) (by unfold gx_3; omega) (fun hb8 => absurd hb8 (by omega)) (fun hb8 => ?_)
    refine gx_cut 28 (fun (t : Int) => [gx_R 19, gx_I r, gx_I c, gx_I (i : Int), gx_U, gx_U]) (fun t => [gx_I t]) (fun _ => P) (fun t => t = if i = r then 0 else R i c) (fun t ht => ?_) (fun fin => ?_)
    · have htb : 0 ≤ t ∧ t < m := by
        rw [ht]
        split
        · omega
        · exact o1 c hc
      refine gx_istore C dX5_clearColumn_28 (by decide) rfl ?_
      refine gx_iconst C dX5_clearColumn_30 ?_
      refine gx_istore C dX5_clearColumn_31 (by decide) rfl ?_
      by_cases ht0 : t = 0
      · -- nothing to do
        have hcl : rr_clr m R r c i = R i := by
          unfold rr_clr
          by_cases e : i = r
          · rw [if_pos e, e]
          · rw [if_neg e] at ht ⊢
            funext j
            by_cases e9 : j < 9
            · rw [if_pos e9, ← ht, ht0, Int.zero_mul, Int.sub_zero, Int.emod_eq_of_lt (o1 j e9).1 (o1 j e9).2]
            · rw [if_neg e9, o2 j (by omega)]
        refine gx_iload C dX5_clearColumn_33 rfl ?_
        refine gx_bipush C dX5_clearColumn_35 rfl ?_
        refine gx_icmp_ge C dX5_clearColumn_37 rfl (by unfold gx_3; omega) (by unfold gx_3; omega) (fun hb37 => absurd hb37 (by omega)) (fun hb37 => ?_)
        refine gx_iload C dX5_clearColumn_40 rfl ?_
        refine gx_if_eq C dX5_clearColumn_42 rfl (by unfold gx_3; omega) (fun hb42 => ?_) (fun hb42 => absurd (by omega) hb42)
        refine gx_iinc C dX5_clearColumn_89 (by decide) rfl rfl ?_
        refine gx_goto C dX5_clearColumn_92 rfl ?_
        exact gx_weak (L' := [gx_R 19, gx_I r, gx_I c, gx_I ((i + 1 : Nat) : Int), gx_U, gx_U]) ⟨Or.inr rfl, Or.inr rfl, Or.inr rfl, Or.inr rfl, Or.inl rfl, Or.inl rfl, trivial⟩ (ih _ (hstep P (by rw [hcl]; exact hself.symm)))
      · have hir : i ≠ r := fun e => ht0 (by rw [ht, if_pos e])
        have htR : t = R i c := by rw [ht, if_neg hir]
        refine gx_for 9 (fun k (_ : gx_M) => [gx_R 19, gx_I r, gx_I c, gx_I (i : Int), gx_I t, gx_I (k : Int)]) (fun P2 => P2) (fun k P2 => P2 = rw_set P i (fun j => if j < k then (R i j - R i c * R r j) % m else R i j)) 0 P (by omega) (by exact hself.symm) (fun k P2 hk hI ih2 => ?_) (fun P2 hI => ?_)
        · have e1 : P2 (21 + 1 * i) (((k : Int)).toNat) = R i k := by
            rw [hI]
            unfold rw_set
            show gx_blk _ (21 + 1 * i) 0 9 _ (21 + 1 * i) k = _
            rw [gx_b0 hk, if_neg (by omega)]
          have e2 : P2 19 1 = m := by
            rw [hI]
            unfold rw_set
            rw [gx_blk_nc (by omega)]
            exact hm1
          have e3 : P2 (21 + 1 * r) (((k : Int)).toNat) = R r k := by
            rw [hI]
            unfold rw_set
            rw [gx_blk_nc (by omega)]
            rw [← hPr]
            exact rw_nat hk
          have b1 := o1 k hk
          have b2 := p1 k hk
          have b3 := mx_pr (m := 11) (x := t) (y := R r k) (by omega) (by omega) (by omega)
          refine gx_iload C dX5_clearColumn_33 rfl ?_
          refine gx_bipush C dX5_clearColumn_35 rfl ?_
          refine gx_icmp_ge C dX5_clearColumn_37 rfl (by unfold gx_3; omega) (by unfold gx_3; omega) (fun hb37 => absurd hb37 (by omega)) (fun hb37 => ?_)
          refine gx_iload C dX5_clearColumn_40 rfl ?_
          refine gx_if_eq C dX5_clearColumn_42 rfl (by unfold gx_3; omega) (fun hb42 => absurd hb42 (by omega)) (fun hb42 => ?_)
          refine gx_aload_n C dX5_clearColumn_45 rfl ?_
          refine gx_getR C 5 _ 0 rfl (gd_19 hL) rfl (by decide) nX5_clearColumn_5 (gx_hts C _ fX5_clearColumn_11) dX5_clearColumn_46 ?_
          refine gx_iload_n C dX5_clearColumn_49 rfl ?_
          refine gx_aaload C (gd_20 hL) (by decide) (by omega) dX5_clearColumn_50 (show _ = 21 + 1 * i from rfl) ?_
          refine gx_iload C dX5_clearColumn_51 rfl ?_
          refine gx_aload_n C dX5_clearColumn_53 rfl ?_
          refine gx_getR C 5 _ 0 rfl (gd_19 hL) rfl (by decide) nX5_clearColumn_5 (gx_hts C _ fX5_clearColumn_11) dX5_clearColumn_54 ?_
          refine gx_iload_n C dX5_clearColumn_57 rfl ?_
          refine gx_aaload C (gd_20 hL) (by decide) (by omega) dX5_clearColumn_58 (show _ = 21 + 1 * i from rfl) ?_
          refine gx_iload C dX5_clearColumn_59 rfl ?_
          refine gx_iaload C hrow (by omega) dX5_clearColumn_61 e1 ?_
          refine gx_iload C dX5_clearColumn_62 rfl ?_
          refine gx_aload_n C dX5_clearColumn_64 rfl ?_
          refine gx_getR C 5 _ 0 rfl (gd_19 hL) rfl (by decide) nX5_clearColumn_5 (gx_hts C _ fX5_clearColumn_11) dX5_clearColumn_65 ?_
          refine gx_iload_n C dX5_clearColumn_68 rfl ?_
          refine gx_aaload C (gd_20 hL) (by decide) (by omega) dX5_clearColumn_69 (show _ = 21 + 1 * r from rfl) ?_
          refine gx_iload C dX5_clearColumn_70 rfl ?_
          refine gx_iaload C hrowr (by omega) dX5_clearColumn_72 e3 ?_
          refine gx_imul C dX5_clearColumn_73 ?_
          refine gx_isub C dX5_clearColumn_74 ?_
          refine gx_aload_n C dX5_clearColumn_75 rfl ?_
          refine gx_getI C 5 _ 1 rfl (gd_19 hL) rfl (by decide) nX5_clearColumn_5 (gx_hts C _ fX5_clearColumn_22) dX5_clearColumn_76 e2 ?_
          refine gx_statIN C (c_X7_reduced (x := R i k - t * R r k) (m := m) (by omega) (by omega)) (⟨va_cnB 2 (gx_hts C) gX5_clearColumn_X7_reduced_n51 rfl rfl rfl ((gx_hN C).2 ("PeirceDesk$Rows", 51, yX7_reduced, "PeirceDesk") (by decide +kernel)) ((gx_hts C) (.initialized RX7) (by decide +kernel)) (by decide +kernel) ⟨Nat.le_of_ble_eq_true rfl, Nat.le_of_ble_eq_true rfl⟩, (gx_hts C) (.static yX7_reduced) (by decide +kernel), trivial⟩) rfl rfl (Nat.le_of_ble_eq_true rfl) ⟨Nat.le_refl _, Nat.le_refl _⟩ dX5_clearColumn_79 (fun z P3 hz => ?_)
          obtain ⟨rfl, rfl⟩ := hz
          refine gx_iastore C hrow (by omega) dX5_clearColumn_82 (show _ = k by omega) ?_
          refine gx_iinc C dX5_clearColumn_83 (by decide) rfl rfl ?_
          refine gx_goto C dX5_clearColumn_86 rfl ?_
          refine ih2 _ ?_
          rw [hI]
          unfold rw_set
          rw [gx_u_blk hk]
          refine gx_blk_f (fun j hj => ?_)
          by_cases e : j = k
          · rw [if_pos e, if_pos (by omega), e, htR]
          · rw [if_neg e]
            by_cases e4 : j < k
            · rw [if_pos e4, if_pos (by omega)]
            · rw [if_neg e4, if_neg (by omega)]
        · have hI' : P2 = rw_set P i (rr_clr m R r c i) := by
            rw [hI]
            refine gx_blk_f (fun j hj => ?_)
            unfold rr_clr
            rw [if_pos hj, if_neg hir, if_pos hj]
          refine gx_iload C dX5_clearColumn_33 rfl ?_
          refine gx_bipush C dX5_clearColumn_35 rfl ?_
          refine gx_icmp_ge C dX5_clearColumn_37 rfl (by unfold gx_3; omega) (by unfold gx_3; omega) (fun hb37 => ?_) (fun hb37 => absurd (by omega) hb37)
          refine gx_iinc C dX5_clearColumn_89 (by decide) rfl rfl ?_
          refine gx_goto C dX5_clearColumn_92 rfl ?_
          exact gx_weak (L' := [gx_R 19, gx_I r, gx_I c, gx_I ((i + 1 : Nat) : Int), gx_U, gx_U]) ⟨Or.inr rfl, Or.inr rfl, Or.inr rfl, Or.inr rfl, Or.inl rfl, Or.inl rfl, trivial⟩ (ih _ (hstep P2 hI'))
    · refine gx_iload_n C dX5_clearColumn_11 rfl ?_
      refine gx_iload_n C dX5_clearColumn_12 rfl ?_
      have e1 : P (21 + 1 * i) (((c : Int)).toNat) = R i c := (rw_nat hc).trans (congrFun hPi c)
      refine gx_icmp_ne C dX5_clearColumn_13 rfl (by unfold gx_3; omega) (by unfold gx_3; omega) (fun hb13 => ?_) (fun hb13 => ?_)
      · refine gx_aload_n C dX5_clearColumn_20 rfl ?_
        refine gx_getR C 5 _ 0 rfl (gd_19 hL) rfl (by decide) nX5_clearColumn_5 (gx_hts C _ fX5_clearColumn_11) dX5_clearColumn_21 ?_
        refine gx_iload_n C dX5_clearColumn_24 rfl ?_
        refine gx_aaload C (gd_20 hL) (by decide) (by omega) dX5_clearColumn_25 (show _ = 21 + 1 * i from rfl) ?_
        refine gx_iload_n C dX5_clearColumn_26 rfl ?_
        refine gx_iaload C hrow (by omega) dX5_clearColumn_27 e1 ?_
        exact fin _ (by rw [if_neg (by omega)])
      · refine gx_iconst C dX5_clearColumn_16 ?_
        refine gx_goto C dX5_clearColumn_17 rfl ?_
        exact fin _ (by rw [if_pos (by omega)])
  · obtain ⟨hP, hO⟩ := hI
    refine gx_iload_n C dX5_clearColumn_2 rfl ?_
    refine gx_aload_n C dX5_clearColumn_3 rfl ?_
    refine gx_getR C 5 _ 0 rfl (gd_19 hL) rfl (by decide) nX5_clearColumn_5 (gx_hts C _ fX5_clearColumn_11) dX5_clearColumn_4 ?_
    refine gx_alen C (gd_20 hL) (by decide) dX5_clearColumn_7 ?_
    refine gx_icmp_ge C dX5_clearColumn_8 rfl (by unfold gx_3; omega) (by unfold gx_3; omega) (fun hb8 => ?_) (fun hb8 => absurd (by omega) hb8)
    exact gx_vret C dX5_clearColumn_95 ⟨⟨hP.1, hP.2.1, fun j hj => by rw [hP.2.2 j hj]; exact if_pos hj⟩, hO⟩
