/-! FACTS: an element with one number, bits, parts -/
def mx_one (k : Nat) (x : Int) : Nat → Int := fun j => if j = 4 * k then x else 0
theorem on_at {k r c : Nat} {x : Int} (hk : k < 3) (hr : r < 3) (hc : c < 3) : mx_one k x (3 * r + c) = if r = k ∧ c = k then x else 0 := by
  unfold mx_one
  by_cases h : r = k ∧ c = k
  · rw [if_pos h, if_pos (by omega)]
  · rw [if_neg h, if_neg (by omega)]
theorem on_L {m : Int} {k r c : Nat} {x : Int} {b : Nat → Int} (hk : k < 3) (hr : r < 3) (hc : c < 3) : mx_mul 3 m (mx_one k x) b (3 * r + c) = if r = k then x * b (3 * k + c) % m else 0 := by
  rw [mx_mul3_at hr hc, mx_ps3]
  have a0 := on_at (x := x) hk hr (show 0 < 3 by decide)
  have a1 := on_at (x := x) hk hr (show 1 < 3 by decide)
  have a2 := on_at (x := x) hk hr (show 2 < 3 by decide)
  rw [Nat.add_zero] at a0
  rw [a0, a1, a2]
  by_cases h : r = k
  · subst h
    rcases (show r = 0 ∨ r = 1 ∨ r = 2 by omega) with rfl | rfl | rfl <;> simp
  · rw [if_neg h, if_neg (by omega), if_neg (by omega), if_neg (by omega)]
    simp
theorem on_R {m : Int} {k r c : Nat} {x : Int} {b : Nat → Int} (hk : k < 3) (hr : r < 3) (hc : c < 3) : mx_mul 3 m b (mx_one k x) (3 * r + c) = if c = k then b (3 * r + k) * x % m else 0 := by
  rw [mx_mul3_at hr hc, mx_ps3]
  have a0 := on_at (x := x) hk (show 0 < 3 by decide) hc
  have a1 := on_at (x := x) hk (show 1 < 3 by decide) hc
  have a2 := on_at (x := x) hk (show 2 < 3 by decide) hc
  rw [show 3 * 0 + c = c by omega] at a0
  rw [show 3 * 1 + c = 3 + c by omega] at a1
  rw [show 3 * 2 + c = 6 + c by omega] at a2
  rw [a0, a1, a2]
  by_cases h : c = k
  · subst h
    rcases (show c = 0 ∨ c = 1 ∨ c = 2 by omega) with rfl | rfl | rfl <;> simp
  · rw [if_neg h, if_neg (by omega), if_neg (by omega), if_neg (by omega)]
    simp
theorem on_V {n : Nat} {m : Int} {k : Nat} {x : Int} (hn : n = 2 ∨ n = 3) (hk : k < n) (hx : 0 ≤ x ∧ x < m) : mx_V n m (mx_one k x) := by
  refine ⟨fun j _ => ?_, ⟨fun i j hi hj h => ?_, fun j hj => if_neg (by omega)⟩, fun i j hi hj => ?_⟩
  · unfold mx_one
    split <;> omega
  · rw [on_at (by omega) hi hj, on_at (by omega) hj hi, if_neg (by omega), if_neg (by omega)]
    exact ⟨rfl, rfl⟩
  · rw [on_at (by omega) hi hj, on_at (by omega) hj hi]
    by_cases h : i = k ∧ j = k
    · rw [if_pos h, if_pos ⟨h.2, h.1⟩]
    · rw [if_neg h, if_neg (fun g => h ⟨g.2, g.1⟩)]
/-- a number in one place is its own square, if it is the inverse of the base's number there, or 0 -/
theorem on_sq {s : sp_S} (hs : sp_ok s) {k : Nat} {x : Int} (hk : k < zs_nn s) (hx : 0 ≤ x ∧ x < s.1 82) (h : x = 0 ∨ x * zs_el s.1 8 (3 * k + k) % s.1 82 = 1) : zs_sq s (mx_one k x) := by
  have hn := sp_nn hs
  have h8 := sp_Vel hs (r := 8) (by decide)
  have hV := on_V hn hk hx
  rw [tq_sq hs, ← mx_mul3 hn h8.2.1 hV.2.1, ← mx_mul3 hn hV.2.1 (by rw [mx_mul3 hn h8.2.1 hV.2.1]; exact mx_mul_z)]
  funext j
  by_cases hj : j < 9
  · obtain ⟨r, c, hr, hc, rfl⟩ : ∃ r c, r < 3 ∧ c < 3 ∧ j = 3 * r + c := ⟨j / 3, j % 3, by omega, by omega, by omega⟩
    rw [on_L (by omega) hr hc, on_R (by omega) (by omega) hc, on_at (by omega) hr hc]
    by_cases hrk : r = k
    · rw [if_pos hrk]
      by_cases hck : c = k
      · rw [if_pos hck, if_pos ⟨hrk, hck⟩]
        rcases h with h | h
        · rw [h]
          simp
        · rw [Int.mul_comm (zs_el s.1 8 _), h, Int.mul_one]
          exact al_md hx
      · rw [if_neg hck, if_neg (fun g => hck g.2)]
        simp
    · rw [if_neg hrk, if_neg (fun g => hrk g.1)]
  · rw [mx_mul_9 j (by omega), hV.2.1.2 j (by omega)]
theorem on_0 {k : Nat} : mx_one k 0 = fun _ => 0 := by
  funext j
  unfold mx_one
  split <;> rfl
/-- its rank -/
theorem on_rk {n : Nat} {m : Int} (hn : n = 2 ∨ n = 3) (hm : ls_p m) {k : Nat} {x : Int} (hk : k < n) (hx : 0 ≤ x ∧ x < m) : mx_rank n m (mx_one k x) = if x = 0 then 0 else 1 := by
  have hV := on_V hn hk hx
  have ok : ∀ i, mx_ok m (mx_rws n (mx_one k x) i) := fun i j _ => by
    have h3 := ls_3 hm
    unfold mx_rws mx_one
    split
    · split <;> omega
    · omega
  have hrow : ∀ i, i < n → mx_rws n (mx_one k x) i = if i = k then (fun c => if c = k then x else 0) else fun _ => 0 := fun i hi => by
    funext c
    unfold mx_rws
    by_cases hc : c < n
    · rw [if_pos hc, on_at (by omega) (by omega) (by omega)]
      by_cases h : i = k
      · rw [if_pos h]
        by_cases g : c = k
        · rw [if_pos ⟨h, g⟩, if_pos g]
        · rw [if_neg (fun q => g q.2), if_neg g]
      · rw [if_neg h, if_neg (fun q => h q.1)]
    · rw [if_neg hc]
      by_cases h : i = k
      · rw [if_pos h, if_neg (by omega)]
      · rw [if_neg h]
  unfold mx_rank
  rw [ls_rst]
  by_cases h0 : x = 0
  · rw [if_pos h0]
    have := ls_sq_le hm ok (k := n) (d := 0) (R := fun _ _ => 0) (fun i hi => by
      rw [hrow i hi]
      refine ls_lc_0 ls_Sp_lc (fun j hj => ?_)
      by_cases h : i = k
      · rw [if_pos h, h0]
        simp
      · rw [if_neg h]
        exact Int.dvd_zero m)
    omega
  · rw [if_neg h0]
    refine ls_sq_n hm ok (k := n) (d := 1) (R := fun _ c => if c = k then x else 0) (fun c hc i hi => ?_) (fun i hi => ?_) (fun i hi => ?_)
    · have h1 := hc k (by omega)
      have e : ls_su (fun i => c i * (if k = k then x else 0)) 1 = c 0 * x := by
        show 0 + c 0 * (if k = k then x else 0) = c 0 * x
        rw [if_pos rfl, Int.zero_add]
      rw [e, Int.mul_comm] at h1
      rw [show i = 0 by omega]
      exact ls_can hm (fun q => h0 (ls_r0 hx q)) h1
    · have := ls_Sp_i (m := m) (R := mx_rws n (mx_one k x)) hk
      rw [hrow k hk, if_pos rfl] at this
      exact this
    · rw [hrow i hi]
      by_cases h : i = k
      · rw [if_pos h]
        exact ls_Sp_i (R := fun _ c => if c = k then x else 0) (show 0 < 1 by decide)
      · rw [if_neg h]
        exact ls_lc_0 ls_Sp_lc (fun j hj => Int.dvd_zero m)
/-- the size of a part, by the rank -/
theorem on_ps {s : sp_S} (hs : sp_ok s) {r w z : Int} (hr : 0 ≤ r ∧ r ≤ 7) (hw : 0 ≤ w ∧ w ≤ 2) (hq : zs_sq s (zs_el s.1 r.toNat)) (h : sp_psize s r w z) : z = mx_pe w ((mx_rank (zs_nn s) (s.1 82) (zs_el s.1 r.toNat) : Nat) : Int) (s.1 81 - ((mx_rank (zs_nn s) (s.1 82) (zs_el s.1 r.toNat) : Nat) : Int)) := by
  have ha := sp_Vel hs (r := r.toNat) (by omega)
  unfold sp_psize at h
  rw [if_pos hr, if_pos hw] at h
  have h1 := h.1 hq
  have hni := sp_n hs
  obtain ⟨q, hrun⟩ := ls_runx (sp_p hs) (R0 := rr_ld (s.1 81) (zs_el s.1 r.toNat)) (rr_ld_ok (ls_3 (sp_p hs)) ha.1) (pv := 1) 3 (by decide)
  have h2 := (sp_psz hs ha hq hrun hw).1
  have hrun' := hrun
  rw [hni] at hrun'
  obtain ⟨c1, -⟩ := ls_gj (sp_nn hs) (sp_p hs) ha hrun'
  rw [h1, c1]
  exact h2.symm
/-! bits of a set -/
theorem bt_su {P : Nat → Prop} : ∀ k z, mx_bit P k z → z = ls_su (fun i => ls_chi P i * ((2 ^ i : Nat) : Int)) k
  | 0, _, h => h
  | k + 1, z, ⟨y, h1, h2⟩ => by
    have ih := bt_su k y h1
    show z = ls_su (fun i => ls_chi P i * ((2 ^ i : Nat) : Int)) k + ls_chi P k * ((2 ^ k : Nat) : Int)
    rw [← ih]
    rcases h2 with ⟨h, e⟩ | ⟨h, e⟩
    · rw [ls_chi1 h, e, Int.one_mul]
    · rw [ls_chi0 h, e, Int.zero_mul, Int.add_zero]
theorem bt_8 {P : Nat → Prop} {z : Int} (h : mx_bit P 8 z) : ∃ b : Nat → Int, (∀ i, b i = 0 ∨ b i = 1) ∧ (∀ i, b i = 1 ↔ P i) ∧ z = b 0 + 2 * b 1 + 4 * b 2 + 8 * b 3 + 16 * b 4 + 32 * b 5 + 64 * b 6 + 128 * b 7 := by
  refine ⟨ls_chi P, fun i => mn_chi i, fun i => ⟨fun h => ?_, fun h => ls_chi1 h⟩, ?_⟩
  · by_cases q : P i
    · exact q
    · rw [ls_chi0 q] at h
      exact absurd h (by decide)
  · rw [bt_su 8 z h]
    simp [ls_su]
    omega
theorem bt_sh (k : Fin 4) {z : Int} (hz : 0 ≤ z ∧ z < 256) : gx_i z >>> (gx_i ((4 + k.val : Nat) : Int) &&& 31) = gx_i (z / ((2 ^ (4 + k.val) : Nat) : Int)) := by
  have h : ∀ q : Fin 1024, gx_i ((q.val / 4 : Nat) : Int) >>> (gx_i ((4 + q.val % 4 : Nat) : Int) &&& 31) = gx_i (((q.val / 4 : Nat) : Int) / ((2 ^ (4 + q.val % 4) : Nat) : Int)) := by decide +kernel
  have h1 := h ⟨4 * z.toNat + k.val, by omega⟩
  simp only [show (4 * z.toNat + k.val) / 4 = z.toNat by omega, show (4 * z.toNat + k.val) % 4 = k.val by omega, show ((z.toNat : Nat) : Int) = z by omega] at h1
  exact h1
theorem bt_4 {z : Int} (hz : 0 ≤ z ∧ z < 256) : gx_i z >>> (gx_i 4 &&& 31) = gx_i (z / 16) := bt_sh 0 hz
theorem bt_5 {z : Int} (hz : 0 ≤ z ∧ z < 256) : gx_i z >>> (gx_i 5 &&& 31) = gx_i (z / 32) := bt_sh 1 hz
theorem bt_6 {z : Int} (hz : 0 ≤ z ∧ z < 256) : gx_i z >>> (gx_i 6 &&& 31) = gx_i (z / 64) := bt_sh 2 hz
theorem bt_7 {z : Int} (hz : 0 ≤ z ∧ z < 256) : gx_i z >>> (gx_i 7 &&& 31) = gx_i (z / 128) := bt_sh 3 hz
theorem bt_1 {z : Int} (hz : 0 ≤ z ∧ z < 256) : gx_i z &&& gx_i 1 = gx_i (z % 2) := by
  have h : ∀ q : Fin 256, gx_i ((q.val : Nat) : Int) &&& gx_i 1 = gx_i (((q.val : Nat) : Int) % 2) := by decide +kernel
  have h1 := h ⟨z.toNat, by omega⟩
  simp only [show ((z.toNat : Nat) : Int) = z by omega] at h1
  exact h1
/-! states that have size, modulus and base in common -/
def sp_sim (s s' : sp_S) : Prop := s'.1 81 = s.1 81 ∧ s'.1 82 = s.1 82 ∧ zs_el s'.1 8 = zs_el s.1 8 ∧ zs_el s'.1 9 = zs_el s.1 9
theorem sm_prod {s s' : sp_S} (h : sp_sim s s') : zs_prod s' = zs_prod s := by
  obtain ⟨h1, h2, h3, -⟩ := h
  funext a b
  unfold zs_prod zs_nn
  rw [h1, h2, h3]
theorem sm_part {s s' : sp_S} (h : sp_sim s s') : zs_part s' = zs_part s := by
  obtain ⟨h1, h2, h3, h4⟩ := h
  funext a b w
  unfold zs_part zs_nn
  rw [h1, h2, h3, h4]
theorem sm_sq {s s' : sp_S} (h : sp_sim s s') {a : Nat → Int} : zs_sq s' a ↔ zs_sq s a := by
  unfold zs_sq
  rw [sm_prod h]
/-- what a split leaves -/
theorem spl_e {s s' : sp_S} (hs : sp_ok s) {z : Int} (hq : zs_sq s (zs_el s.1 4)) (h : sp_split s 4 1 5 z s') : sp_sim s s' ∧ tq_P s' ∧ zs_el s'.1 4 = zs_el s.1 4 ∧ s'.2.1.1 = (if s.2.1.1 = 6 then 6 else s.2.1.1 + 1) ∧ s'.2.1.2 (s'.2.1.1 - 1) = s.1 ∧ s'.2.2.2 = s.2.2.2 ∧ ∃ q0 q1 q2 : Int, mx_nz (zs_el s'.1 5) q0 ∧ mx_nz (zs_el s'.1 6) q1 ∧ mx_nz (zs_el s'.1 7) q2 ∧ z = q0 + q1 + q2 := by
  have h4 := sp_Vel hs (r := 4) (by decide)
  have h1 := sp_Vel hs (r := 1) (by decide)
  unfold sp_split at h
  rw [if_pos (by omega)] at h
  have h2 : zs_cn s (zs_el s.1 4) (zs_el s.1 1) 3 z ∧ s' = sp_push s (zs_sp s (zs_el s.1 4) (zs_el s.1 1) 5 3) := h.1 hq
  obtain ⟨hc, rfl⟩ := h2
  have h9 : ∀ w k, 9 ≤ k → zs_part s (zs_el s.1 4) (zs_el s.1 1) w k = 0 := fun w => zs_part9 hs h4 h1
  have el : ∀ q, q < 10 → zs_el (zs_sp s (zs_el s.1 4) (zs_el s.1 1) 5 3) q = if q = 5 + 2 then zs_part s (zs_el s.1 4) (zs_el s.1 1) 0 else if q = 5 + 1 then zs_part s (zs_el s.1 4) (zs_el s.1 1) 1 else if q = 5 then zs_part s (zs_el s.1 4) (zs_el s.1 1) 2 else zs_el s.1 q := fun q hq => zs_sp_el (by decide) h9 hq
  have sim : sp_sim s (sp_push s (zs_sp s (zs_el s.1 4) (zs_el s.1 1) 5 3)) := ⟨(zs_sp_8 (s := s) (e := zs_el s.1 4) (b := zs_el s.1 1) (t := 5) (by decide) (k := 81) (by decide) : zs_sp s (zs_el s.1 4) (zs_el s.1 1) 5 3 81 = s.1 81), (zs_sp_8 (s := s) (e := zs_el s.1 4) (b := zs_el s.1 1) (t := 5) (by decide) (k := 82) (by decide) : zs_sp s (zs_el s.1 4) (zs_el s.1 1) 5 3 82 = s.1 82), el 8 (by decide), el 9 (by decide)⟩
  have e4 : zs_el (zs_sp s (zs_el s.1 4) (zs_el s.1 1) 5 3) 4 = zs_el s.1 4 := el 4 (by decide)
  have e1 : zs_el (zs_sp s (zs_el s.1 4) (zs_el s.1 1) 5 3) 1 = zs_el s.1 1 := el 1 (by decide)
  have e5 : zs_el (zs_sp s (zs_el s.1 4) (zs_el s.1 1) 5 3) 5 = zs_part s (zs_el s.1 4) (zs_el s.1 1) 2 := el 5 (by decide)
  have e6 : zs_el (zs_sp s (zs_el s.1 4) (zs_el s.1 1) 5 3) 6 = zs_part s (zs_el s.1 4) (zs_el s.1 1) 1 := el 6 (by decide)
  have e7 : zs_el (zs_sp s (zs_el s.1 4) (zs_el s.1 1) 5 3) 7 = zs_part s (zs_el s.1 4) (zs_el s.1 1) 0 := el 7 (by decide)
  refine ⟨sim, ⟨?_, ?_, ?_, ?_⟩, e4, ?_, ?_, rfl, ?_⟩
  · rw [sm_sq sim]
    show zs_sq s (zs_el (zs_sp s (zs_el s.1 4) (zs_el s.1 1) 5 3) 4)
    rw [e4]
    exact hq
  · rw [sm_part sim]
    show zs_el (zs_sp s (zs_el s.1 4) (zs_el s.1 1) 5 3) 5 = zs_part s (zs_el (zs_sp s (zs_el s.1 4) (zs_el s.1 1) 5 3) 4) (zs_el (zs_sp s (zs_el s.1 4) (zs_el s.1 1) 5 3) 1) 2
    rw [e4, e1, e5]
  · rw [sm_part sim]
    show zs_el (zs_sp s (zs_el s.1 4) (zs_el s.1 1) 5 3) 6 = zs_part s (zs_el (zs_sp s (zs_el s.1 4) (zs_el s.1 1) 5 3) 4) (zs_el (zs_sp s (zs_el s.1 4) (zs_el s.1 1) 5 3) 1) 1
    rw [e4, e1, e6]
  · rw [sm_part sim]
    show zs_el (zs_sp s (zs_el s.1 4) (zs_el s.1 1) 5 3) 7 = zs_part s (zs_el (zs_sp s (zs_el s.1 4) (zs_el s.1 1) 5 3) 4) (zs_el (zs_sp s (zs_el s.1 4) (zs_el s.1 1) 5 3) 1) 0
    rw [e4, e1, e7]
  · show sp_h s + 1 = _
    unfold sp_h
    split <;> rfl
  · show (if sp_h s + 1 - 1 = sp_h s then s.1 else _) = s.1
    rw [if_pos (by omega)]
  · obtain ⟨y2, q2, ⟨y1, q1, ⟨y0, q0, hy0, n0, rfl⟩, n1, rfl⟩, n2, rfl⟩ := hc
    have hy0 : y0 = 0 := hy0
    subst hy0
    refine ⟨q0, q1, q2, ?_, ?_, ?_, by omega⟩
    · show mx_nz (zs_el (zs_sp s (zs_el s.1 4) (zs_el s.1 1) 5 3) 5) q0
      rw [e5]
      exact n0
    · show mx_nz (zs_el (zs_sp s (zs_el s.1 4) (zs_el s.1 1) 5 3) 6) q1
      rw [e6]
      exact n1
    · show mx_nz (zs_el (zs_sp s (zs_el s.1 4) (zs_el s.1 1) 5 3) 7) q2
      rw [e7]
      exact n2
/-- a number set -/
theorem set_e {s s' : sp_S} {r i j v z : Int} (hr : 0 ≤ r ∧ r ≤ 7) (hi : 0 ≤ i ∧ i < s.1 81) (hj : 0 ≤ j ∧ j < s.1 81) (hv : 0 ≤ v ∧ v < s.1 82) (hn : s.1 81 ≤ 3) (h : sp_set s r i j v z s') : z = zs_el s.1 r.toNat (3 * i.toNat + j.toNat) ∧ sp_sim s s' ∧ (∀ q, q < 9 → q ≠ r.toNat → zs_el s'.1 q = zs_el s.1 q) ∧ (zs_el s'.1 r.toNat = fun k => if k < 9 then (if k = 3 * j.toNat + i.toNat then v else if k = 3 * i.toNat + j.toNat then v else zs_el s.1 r.toNat k) else 0) ∧ s'.2.2 = s.2.2 := by
  unfold sp_set at h
  rw [if_pos ⟨hr, hi.1, hi.2, hj.1, hj.2⟩, if_pos hv] at h
  obtain ⟨rfl, rfl⟩ := h
  have el : ∀ q, q < 10 → zs_el (zs_set s.1 r.toNat i.toNat j.toNat v) q = if q = r.toNat then (fun k => if k < 9 then (if k = 3 * j.toNat + i.toNat then v else if k = 3 * i.toNat + j.toNat then v else zs_el s.1 r.toNat k) else 0) else zs_el s.1 q := fun q hq => zs_set_el (by omega) (by omega) (by omega) hq
  have e81 : zs_set s.1 r.toNat i.toNat j.toNat v 81 = s.1 81 := by
    unfold zs_set
    rw [if_neg (by omega), if_neg (by omega)]
  have e82 : zs_set s.1 r.toNat i.toNat j.toNat v 82 = s.1 82 := by
    unfold zs_set
    rw [if_neg (by omega), if_neg (by omega)]
  refine ⟨?_, ⟨e81, e82, (el 8 (by decide)).trans (if_neg (by omega)), (el 9 (by decide)).trans (if_neg (by omega))⟩, fun q hq hne => (el q (by omega)).trans (if_neg hne), (el r.toNat (by omega)).trans (if_pos rfl), rfl⟩
  unfold zs_el
  rw [if_pos (by omega)]
