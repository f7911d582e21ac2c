/-! the class's rows: independent, of the same span -/
theorem ls_iv {m p : Int} (hm : ls_p m) (hp : 0 < p ∧ p < m) : p * rr_iv p m (m.toNat - 1) % m = 1 := by
  have k3 : ∀ j : Fin 3, 0 < j.val → (j.val : Int) * rr_iv (j.val : Int) 3 ((3 : Int).toNat - 1) % 3 = 1 := by decide +kernel
  have k5 : ∀ j : Fin 5, 0 < j.val → (j.val : Int) * rr_iv (j.val : Int) 5 ((5 : Int).toNat - 1) % 5 = 1 := by decide +kernel
  have k7 : ∀ j : Fin 7, 0 < j.val → (j.val : Int) * rr_iv (j.val : Int) 7 ((7 : Int).toNat - 1) % 7 = 1 := by decide +kernel
  have k11 : ∀ j : Fin 11, 0 < j.val → (j.val : Int) * rr_iv (j.val : Int) 11 ((11 : Int).toNat - 1) % 11 = 1 := by decide +kernel
  have e : ((p.toNat : Nat) : Int) = p := by omega
  rcases hm with rfl | rfl | rfl | rfl
  · have := k3 ⟨p.toNat, by omega⟩ (by show 0 < p.toNat; omega)
    simp only [e] at this
    exact this
  · have := k5 ⟨p.toNat, by omega⟩ (by show 0 < p.toNat; omega)
    simp only [e] at this
    exact this
  · have := k7 ⟨p.toNat, by omega⟩ (by show 0 < p.toNat; omega)
    simp only [e] at this
    exact this
  · have := k11 ⟨p.toNat, by omega⟩ (by show 0 < p.toNat; omega)
    simp only [e] at this
    exact this
/-- so far: pivots in the columns that are done -/
def ls_pv (R : Nat → Nat → Int) (d c : Nat) (pc : Nat → Nat) : Prop := (∀ i, i < d → pc i < c ∧ R i (pc i) = 1 ∧ ∀ p, p < 4 → p ≠ i → R p (pc i) = 0) ∧ (∀ i p, i < p → p < d → pc i < pc p) ∧ ∀ i j, d ≤ i → i < 4 → j < c → R i j = 0
theorem ls_clr_0 {m : Int} {R : Nat → Nat → Int} {r c p j : Nat} (hr : R r j = 0) (h : R p j = 0) : rr_clr m R r c p j = 0 := by
  unfold rr_clr
  by_cases e : p = r
  · rw [if_pos e]; exact hr
  · rw [if_neg e]
    by_cases q : j < 9
    · skip
      rw [if_pos q, hr, h]
      simp
    · skip
      rw [if_neg q]
/-- what a step with a pivot makes -/
theorem ls_pv_s {m : Int} (hm : ls_p m) {R : Nat → Nat → Int} (ok : rr_ok m R) {d c f : Nat} (hc : c < 9) (hf : rr_fd R c d f) (hf4 : f < 4) {pc : Nat → Nat} (h : ls_pv R d c pc) : ls_pv (rr_clr m (rr_one m (rr_ex R f d) d c) d c) (d + 1) (c + 1) (fun i => if i = d then c else pc i) := by
  obtain ⟨h1, h2, h3⟩ := h
  obtain ⟨f1, f2, f3, f4⟩ := hf
  have hd4 : d < 4 := by omega
  have hE := rr_ex_ok ok hf4 hd4
  have hex : ∀ j, rr_ex R f d d j = R f j := fun j => by
    unfold rr_ex
    by_cases e : d = f
    · rw [if_pos e, e]
    · rw [if_neg e, if_pos rfl]
  have hex0 : ∀ j, R f j = 0 → R d j = 0 → ∀ p, R p j = 0 → rr_ex R f d p j = 0 := fun j a b p hp => by
    unfold rr_ex
    by_cases e : p = f
    · rw [if_pos e]; exact b
    · rw [if_neg e]
      by_cases e2 : p = d
      · rw [if_pos e2]; exact a
      · rw [if_neg e2]; exact hp
  have hlow : ∀ p, p < d → ∀ j, rr_ex R f d p j = R p j := fun p hp j => by
    unfold rr_ex
    rw [if_neg (by omega), if_neg (by omega)]
  have hOk := rr_one_ok (ls_3 hm) hE (r := d) (c := c)
  have hone0 : ∀ p j, rr_ex R f d p j = 0 → rr_one m (rr_ex R f d) d c p j = 0 := fun p j hp => by
    unfold rr_one
    by_cases e : p = d
    · rw [if_pos e]
      by_cases q : j < 9
      · skip
        rw [if_pos q, show rr_ex R f d d j = 0 by rw [← hp, e]]
        simp
      · skip
        rw [if_neg q]
    · rw [if_neg e]; exact hp
  have hone1 : ∀ p, p ≠ d → ∀ j, rr_one m (rr_ex R f d) d c p j = rr_ex R f d p j := fun p hp j => by
    unfold rr_one
    rw [if_neg hp]
  have hpiv : rr_one m (rr_ex R f d) d c d c = 1 := by
    unfold rr_one
    rw [if_pos rfl, if_pos hc, hex c]
    have b := (ok f hf4).1 c hc
    have := f4 hf4
    exact ls_iv hm (by omega)
  generalize rr_one m (rr_ex R f d) d c = S at hOk hone0 hone1 hpiv ⊢
  have cd : ∀ j, rr_clr m S d c d j = S d j := fun j => by
    unfold rr_clr
    rw [if_pos rfl]
  have cc : ∀ p, p ≠ d → p < 4 → rr_clr m S d c p c = 0 := fun p hp _ => by
    unfold rr_clr
    rw [if_neg hp, if_pos hc, hpiv, Int.mul_one, Int.sub_self]
    rfl
  have keep : ∀ p j, p < 4 → j < 9 → S d j = 0 → rr_clr m S d c p j = S p j := fun p j hp hj h0 => by
    unfold rr_clr
    by_cases e : p = d
    · rw [if_pos e, e]
    · rw [if_neg e, if_pos hj, h0, Int.mul_zero, Int.sub_zero]
      have b := (hOk p hp).1 j hj
      exact Int.emod_eq_of_lt b.1 b.2
  have hdz : ∀ j, j < c → S d j = 0 := fun j hj => hone0 d j (by rw [hex]; exact h3 f j f1 hf4 hj)
  refine ⟨fun i hi => ?_, fun i p hip hp => ?_, fun i j hi hi4 hj => ?_⟩
  · by_cases e : i = d
    · dsimp only
      rw [if_pos e, e]
      exact ⟨by omega, by rw [cd]; exact hpiv, fun p hp hpd => cc p hpd hp⟩
    · dsimp only
      rw [if_neg e]
      obtain ⟨g1, g2, g3⟩ := h1 i (by omega)
      refine ⟨by omega, ?_, fun p hp hpi => ?_⟩
      · rw [keep i (pc i) (by omega) (by omega) (hdz _ g1), hone1 i e, hlow i (by omega)]
        exact g2
      · rw [keep p (pc i) hp (by omega) (hdz _ g1)]
        exact hone0 p _ (hex0 _ (g3 f hf4 (by omega)) (g3 d hd4 (by omega)) p (g3 p hp hpi))
  · dsimp only
    by_cases e : p = d
    · rw [if_pos e, if_neg (by omega)]
      exact (h1 i (by omega)).1
    · rw [if_neg e, if_neg (by omega)]
      exact h2 i p hip (by omega)
  · by_cases e : j = c
    · rw [e]
      exact cc i (by omega) hi4
    · rw [keep i j hi4 (by omega) (hdz j (by omega)), hone1 i (by omega)]
      exact hex0 j (h3 f j f1 hf4 (by omega)) (h3 d j (Nat.le_refl d) hd4 (by omega)) i (h3 i j (by omega) hi4 (by omega))
theorem ls_pv_n {R : Nat → Nat → Int} {d c : Nat} (hf : rr_fd R c d 4) {pc : Nat → Nat} (h : ls_pv R d c pc) : ls_pv R d (c + 1) pc := by
  obtain ⟨h1, h2, h3⟩ := h
  refine ⟨fun i hi => ⟨by have := (h1 i hi).1; omega, (h1 i hi).2⟩, h2, fun i j hi hi4 hj => ?_⟩
  by_cases e : j = c
  · rw [e]
    exact hf.2.2.1 i hi hi4
  · exact h3 i j hi hi4 (by omega)
theorem ls_clr_P {m : Int} {P : (Nat → Int) → Prop} (h : ls_lc m P) {S : Nat → Nat → Int} {d c : Nat} (hd : d < 4) : (∀ i, i < 4 → P (S i)) ↔ ∀ i, i < 4 → P (rr_clr m S d c i) := by
  have cd : rr_clr m S d c d = S d := by
    unfold rr_clr
    rw [if_pos rfl]
  have ce : ∀ i, i ≠ d → ∀ j, j < 9 → rr_clr m S d c i j = (S i j - S i c * S d j) % m := fun i hi j hj => by
    unfold rr_clr
    rw [if_neg hi, if_pos hj]
  constructor
  · intro g i hi
    by_cases e : i = d
    · rw [e, cd]; exact g d hd
    · refine h.2 _ _ _ 1 (-S i c) (g i hi) (g d hd) (fun j hj => ?_)
      rw [ce i e j hj]
      obtain ⟨p, hp⟩ := @ls_em m (S i j - S i c * S d j)
      exact ⟨p, by grind⟩
  · intro g i hi
    have gd := g d hd
    rw [cd] at gd
    by_cases e : i = d
    · rw [e]; exact gd
    · refine h.2 _ _ _ 1 (S i c) (g i hi) gd (fun j hj => ?_)
      rw [ce i e j hj]
      obtain ⟨p, hp⟩ := @ls_em m (S i j - S i c * S d j)
      exact ⟨-p, by grind⟩
theorem ls_one_P {m : Int} (hm : ls_p m) {P : (Nat → Int) → Prop} (h : ls_lc m P) {S : Nat → Nat → Int} {d c : Nat} (hd : d < 4) (hp : 0 < S d c ∧ S d c < m) : (∀ i, i < 4 → P (S i)) ↔ ∀ i, i < 4 → P (rr_one m S d c i) := by
  have ne : ∀ i, i ≠ d → rr_one m S d c i = S i := fun i hi => by
    unfold rr_one
    rw [if_neg hi]
  have de : ∀ j, j < 9 → rr_one m S d c d j = S d j * rr_iv (S d c) m (m.toNat - 1) % m := fun j hj => by
    unfold rr_one
    rw [if_pos rfl, if_pos hj]
  have hw := ls_iv hm hp
  generalize rr_iv (S d c) m (m.toNat - 1) = w at hw de
  constructor
  · intro g i hi
    by_cases e : i = d
    · rw [e]
      refine h.2 _ _ _ w 0 (g d hd) (g d hd) (fun j hj => ?_)
      rw [de j hj]
      obtain ⟨p, hp⟩ := @ls_em m (S d j * w)
      exact ⟨p, by grind⟩
    · rw [ne i e]; exact g i hi
  · intro g i hi
    by_cases e : i = d
    · rw [e]
      refine h.2 _ _ _ (S d c) 0 (g d hd) (g d hd) (fun j hj => ?_)
      rw [de j hj]
      obtain ⟨p, hp⟩ := @ls_em m (S d j * w)
      obtain ⟨q, hq⟩ := @ls_em' m (S d c * w)
      rw [hw] at hq
      exact ⟨- (S d j * q) - S d c * p, by grind⟩
    · have := g i hi
      rwa [ne i e] at this
theorem ls_ex_P {P : (Nat → Int) → Prop} {R : Nat → Nat → Int} {a b : Nat} (ha : a < 4) (hb : b < 4) : (∀ i, i < 4 → P (R i)) ↔ ∀ i, i < 4 → P (rr_ex R a b i) := by
  constructor
  · intro g i hi
    unfold rr_ex
    by_cases e : i = a
    · rw [if_pos e]; exact g b hb
    · rw [if_neg e]
      by_cases e2 : i = b
      · rw [if_pos e2]; exact g a ha
      · rw [if_neg e2]; exact g i hi
  · intro g i hi
    by_cases e : i = b
    · have := g a ha
      unfold rr_ex at this
      rw [if_pos rfl] at this
      rw [e]; exact this
    · by_cases e2 : i = a
      · have := g b hb
        unfold rr_ex at this
        by_cases q : b = a
        · rw [if_pos q] at this
          rw [e2, ← q]; exact this
        · rw [if_neg q, if_pos rfl] at this
          rw [e2]; exact this
      · have := g i hi
        unfold rr_ex at this
        rw [if_neg e2, if_neg e] at this
        exact this
/-- all of it, at each column -/
theorem ls_run {m : Int} (hm : ls_p m) {R0 : Nat → Nat → Int} (ok : rr_ok m R0) {pv : Int} : ∀ c, c ≤ 9 → ∀ q, rr_run m (R0, pv, 0) c q → q.2.2 ≤ 4 ∧ q.2.2 ≤ c ∧ rr_ok m q.1 ∧ (∃ pc, ls_pv q.1 q.2.2 c pc) ∧ ∀ P : (Nat → Int) → Prop, ls_lc m P → ((∀ i, i < 4 → P (R0 i)) ↔ ∀ i, i < 4 → P (q.1 i))
  | 0, _, q, hq => by
    have hq : q = (R0, pv, 0) := hq
    subst hq
    exact ⟨Nat.zero_le _, Nat.zero_le _, ok, ⟨fun _ => 0, fun i hi => absurd hi (by simp), fun i p _ hp => absurd hp (by simp), fun i j _ _ hj => absurd hj (by omega)⟩, fun P _ => Iff.rfl⟩
  | c + 1, hc, q, hq => by
    obtain ⟨p, h1, f, hf, h2⟩ := hq
    obtain ⟨a1, a2, a3, ⟨pc, a4⟩, a5⟩ := ls_run hm ok c (by omega) p h1
    rcases h2 with ⟨h3, h4⟩ | ⟨h3, h4⟩
    · subst h4
      subst h3
      exact ⟨a1, by omega, a3, ⟨pc, ls_pv_n hf a4⟩, a5⟩
    · subst h4
      have hd4 : p.2.2 < 4 := by have := hf.1; omega
      have hE := rr_ex_ok a3 h3 hd4
      have hO := rr_one_ok (ls_3 hm) hE (r := p.2.2) (c := c)
      have hC := rr_clr_ok (ls_3 hm) hO (r := p.2.2) (c := c) hd4
      refine ⟨hd4, by show p.2.2 + 1 ≤ c + 1; omega, hC, ⟨_, ls_pv_s hm a3 (by omega) hf h3 a4⟩, fun P hP => ?_⟩
      have hp : 0 < rr_ex p.1 f p.2.2 p.2.2 c ∧ rr_ex p.1 f p.2.2 p.2.2 c < m := by
        have b := (hE p.2.2 hd4).1 c (by omega)
        have e : rr_ex p.1 f p.2.2 p.2.2 c = p.1 f c := by
          unfold rr_ex
          by_cases e : p.2.2 = f
          · rw [if_pos e, e]
          · rw [if_neg e, if_pos rfl]
        have := hf.2.2.2 h3
        rw [e] at b ⊢
        omega
      exact (a5 P hP).trans ((ls_ex_P h3 hd4).trans ((ls_one_P hm hP hd4 hp).trans (ls_clr_P hP hd4)))
/-- the first N places alone -/
def ls_tr (N : Nat) (x : Nat → Int) : Nat → Int := fun j => if j < N then x j else 0
theorem ls_tr_lc {m : Int} {P : (Nat → Int) → Prop} (h : ls_lc m P) (N : Nat) : ls_lc m (fun x => P (ls_tr N x)) := by
  refine ⟨ls_lc_0 h (fun j _ => ?_), fun x y z s t hx hy hz => h.2 _ _ _ s t hx hy (fun j hj => ?_)⟩
  · unfold ls_tr
    rw [ite_self]
    exact Int.dvd_zero m
  · unfold ls_tr
    by_cases e : j < N
    · rw [if_pos e, if_pos e, if_pos e]
      exact hz j hj
    · rw [if_neg e, if_neg e, if_neg e]
      exact ⟨0, by grind⟩
theorem ls_pv_in {m : Int} {R : Nat → Nat → Int} {d N : Nat} (hN : N ≤ 9) (hd : d ≤ 4) {pc : Nat → Nat} (h : ls_pv R d N pc) : ls_in m (fun i => ls_tr N (R i)) d := by
  intro c hc i hi
  obtain ⟨g1, g2, g3⟩ := h.1 i hi
  have h1 := hc (pc i) (by omega)
  rw [ls_su_one (j := i) d hi (fun p hp hpi => by
    show c p * (if pc i < N then R p (pc i) else 0) = 0
    rw [if_pos g1, g3 p (by omega) hpi, Int.mul_zero])] at h1
  have h1 : m ∣ c i * (if pc i < N then R i (pc i) else 0) := h1
  rw [if_pos g1, g2, Int.mul_one] at h1
  exact h1
/-- the class's rank is the reference's count -/
theorem ls_rank {m : Int} (hm : ls_p m) {R0 : Nat → Nat → Int} (ok : rr_ok m R0) {pv : Int} {N : Nat} (hN : N ≤ 9) {q : rr_S} (hq : rr_run m (R0, pv, 0) N q) {x : Nat → Nat → Int} (ox : ∀ i, mx_ok m (x i)) {k : Nat} (hx : ∀ i, i < k → i < 4 ∧ ∀ j, j < 9 → x i j = ls_tr N (R0 i) j) (hz : ∀ i, k ≤ i → i < 4 → ∀ j, j < N → R0 i j = 0) : (ls_sq m x k).1 = q.2.2 := by
  obtain ⟨a1, a2, a3, ⟨pc, a4⟩, a5⟩ := ls_run hm ok N hN q hq
  refine ls_sq_n hm ox (R := fun i => ls_tr N (q.1 i)) (ls_pv_in hN a1 a4) (fun i hi => ?_) (fun i hi => ?_)
  · refine (a5 _ (ls_tr_lc ls_Sp_lc N)).mp (fun p hp => ?_) i (by omega)
    by_cases e : p < k
    · exact ls_lc_e ls_Sp_lc (ls_Sp_i e) (fun j hj => by
        rw [(hx p e).2 j hj, Int.sub_self]
        exact Int.dvd_zero m)
    · exact ls_lc_0 ls_Sp_lc (fun j hj => by
        unfold ls_tr
        by_cases q : j < N
        · rw [if_pos q, hz p (by omega) hp j q]
          exact Int.dvd_zero m
        · rw [if_neg q]
          exact Int.dvd_zero m)
  · have g : ∀ p, p < 4 → ls_Sp m (fun i => ls_tr N (q.1 i)) q.2.2 (ls_tr N (R0 p)) := (a5 _ (ls_tr_lc ls_Sp_lc N)).mpr (fun p hp => by
      by_cases e : p < q.2.2
      · exact ls_Sp_i (R := fun i => ls_tr N (q.1 i)) e
      · exact ls_lc_0 ls_Sp_lc (fun j hj => by
          unfold ls_tr
          by_cases w : j < N
          · rw [if_pos w, a4.2.2 p j (by omega) hp w]
            exact Int.dvd_zero m
          · rw [if_neg w]
            exact Int.dvd_zero m))
    exact ls_lc_e ls_Sp_lc (g i (hx i hi).1) (fun j hj => by
      rw [(hx i hi).2 j hj, Int.sub_self]
      exact Int.dvd_zero m)
