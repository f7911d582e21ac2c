theorem ls_lin_e {m : Int} {a b : Nat → Int} {x y : Int} {k : Nat} (hk : k < 9) : m ∣ mx_lin m a x b y k - (a k * x + b k * y) := by
  unfold mx_lin
  rw [if_pos hk]
  exact ls_em
theorem ls_row_un {n : Nat} (hn : n ≤ 3) {m : Int} {a : Nat → Int} (za : mx_z n a) {i : Nat} (hi : i < 3) : ls_Sp m (fun i j => if j = i then 1 else 0) n (ls_row a i) := by
  refine ⟨fun k => a (3 * i + k), fun j hj => ?_⟩
  by_cases e : j < n
  · rw [ls_su_one (j := j) n e (fun p _ hp => by
      show a (3 * i + p) * (if j = p then 1 else 0) = 0
      rw [if_neg (fun h => hp h.symm), Int.mul_zero])]
    show m ∣ (if j < 3 then a (3 * i + j) else 0) - a (3 * i + j) * (if j = j then 1 else 0)
    rw [if_pos (by omega), if_pos rfl, Int.mul_one, Int.sub_self]
    exact Int.dvd_zero m
  · rw [ls_su_c (g := fun _ => 0) n (fun p hp => by
      show a (3 * i + p) * (if j = p then 1 else 0) = 0
      rw [if_neg (by omega), Int.mul_zero]), ls_su_0]
    unfold ls_row
    by_cases q : j < 3
    · rw [if_pos q, (za.1 j i q hi (by omega)).2]
      exact Int.dvd_zero m
    · rw [if_neg q]
      exact Int.dvd_zero m
theorem ls_sq_in {m : Int} {x : Nat → Nat → Int} {k i : Nat} (hi : i < k) : ls_Sp m (ls_sq m x k).2 (ls_sq m x k).1 (x i) := (ls_sq_P ls_Sp_lc k).mpr (fun i hi => ls_Sp_i hi) i hi
/-- e its own square by u, v its unit, f what is left: the sizes of the three parts -/
theorem ls_psize {n : Nat} (hn : n = 2 ∨ n = 3) {m : Int} (hm : ls_p m) {u v e f : Nat → Int} (hu : mx_V n m u) (hv : mx_V n m v) (he : mx_V n m e) (hf : mx_V n m f) (hfe : f = mx_lin m v 1 e (-1)) (hvu : mx_mul 3 m v u = mx_id (n : Int)) (heue : mx_mul 3 m (mx_mul 3 m e u) e = e) {x2 x1 x0 : Nat → Nat → Int} (o2 : ∀ i, mx_V n m (x2 i)) (o1 : ∀ i, mx_V n m (x1 i)) (o0 : ∀ i, mx_V n m (x0 i)) (h2 : ∀ i, x2 i = mx_mul 3 m (mx_mul 3 m (mx_mul 3 m (mx_mul 3 m e u) (ls_bs n i)) u) e) (h0 : ∀ i, x0 i = mx_mul 3 m (mx_mul 3 m (mx_mul 3 m (mx_mul 3 m f u) (ls_bs n i)) u) f) (h1 : ∀ i k, k < 9 → m ∣ x1 i k - (ls_bs n i k - (x2 i k + x0 i k))) : (ls_sq m x2 (n * (n + 1) / 2)).1 = mx_rank n m e * (mx_rank n m e + 1) / 2 ∧ (ls_sq m x1 (n * (n + 1) / 2)).1 = mx_rank n m e * (n - mx_rank n m e) ∧ (ls_sq m x0 (n * (n + 1) / 2)).1 = (n - mx_rank n m e) * (n - mx_rank n m e + 1) / 2 ∧ mx_rank n m e ≤ n := by
  have h3 := ls_3 hm
  obtain ⟨R, r1, r2, r3, r4⟩ := ls_base hn hm he
  obtain ⟨R', s1, s2, s3, s4⟩ := ls_base hn hm hf
  generalize mx_rank n m e = r at *
  generalize mx_rank n m f = r' at *
  have hfk : ∀ k, k < 9 → m ∣ f k - (v k - e k) := fun k hk => by
    obtain ⟨p, hp⟩ := @ls_lin_e m v e 1 (-1) k hk
    rw [hfe]
    exact ⟨p, by omega⟩
  have heG : mx_mul 3 m e (mx_mul 3 m u e) = e := by rw [← mx_mul_a]; exact heue
  have hvG : mx_mul 3 m v (mx_mul 3 m u e) = e := by rw [← mx_mul_a, hvu, mx_id_mul hn he.1 he.2.1]
  have rowz : ∀ (a : Nat → Int) i j, 3 ≤ j → m ∣ ls_row a i j := fun a i j hj => by
    unfold ls_row
    rw [if_neg (by omega)]
    exact Int.dvd_zero m
  have hrr : r + r' ≤ n := by
    have k1 := r3 _ (ls_lcG (m := m) (G := mx_mul 3 m u e) (t0 := 1)) (fun i hi => ⟨fun j hj => by
      obtain ⟨p, hp⟩ := @ls_mm m e (mx_mul 3 m u e) i j hi hj
      rw [heG] at hp
      show m ∣ e (3 * i + 0) * _ + e (3 * i + 1) * _ + e (3 * i + 2) * _ - 1 * (if j < 3 then e (3 * i + j) else 0)
      rw [if_pos hj]
      exact ⟨-p, by rw [Int.mul_neg, ← hp]; simp only [Nat.add_zero]; omega⟩, fun j hj _ => rowz e i j hj⟩)
    have k2 := s3 _ (ls_lcG (m := m) (G := mx_mul 3 m u e) (t0 := 0)) (fun i hi => ⟨fun j hj => by
      obtain ⟨p, hp⟩ := @ls_mm m e (mx_mul 3 m u e) i j hi hj
      obtain ⟨q, hq⟩ := @ls_mm m v (mx_mul 3 m u e) i j hi hj
      rw [heG] at hp
      rw [hvG] at hq
      obtain ⟨w0, g0⟩ := hfk (3 * i) (by omega)
      obtain ⟨w1, g1⟩ := hfk (3 * i + 1) (by omega)
      obtain ⟨w2, g2⟩ := hfk (3 * i + 2) (by omega)
      have g0 : f (3 * i) = v (3 * i) - e (3 * i) + m * w0 := by omega
      have g1 : f (3 * i + 1) = v (3 * i + 1) - e (3 * i + 1) + m * w1 := by omega
      have g2 : f (3 * i + 2) = v (3 * i + 2) - e (3 * i + 2) + m * w2 := by omega
      show m ∣ f (3 * i + 0) * _ + f (3 * i + 1) * _ + f (3 * i + 2) * _ - 0 * _
      rw [Nat.add_zero, g0, g1, g2]
      generalize mx_mul 3 m u e = G at hp hq ⊢
      refine ⟨p - q + w0 * G j + w1 * G (3 + j) + w2 * G (6 + j), ?_⟩
      have hp : m * p = e (3 * i + j) - (e (3 * i) * G j + e (3 * i + 1) * G (3 + j) + e (3 * i + 2) * G (6 + j)) := hp.symm
      have hq : m * q = e (3 * i + j) - (v (3 * i) * G j + v (3 * i + 1) * G (3 + j) + v (3 * i + 2) * G (6 + j)) := hq.symm
      rw [Int.mul_add, Int.mul_add, Int.mul_add, Int.mul_sub, hp, hq]
      clear hp hq g0 g1 g2 hfk
      grind, fun j hj _ => rowz f i j hj⟩)
    have k3 := ls_two r1 s1 k1 k2
    refine ls_st hm k3 (S := fun i j => if j = i then 1 else 0) (fun i hi => ?_)
    by_cases q : i < r
    · try dsimp only
      rw [if_pos q]
      exact r3 _ ls_Sp_lc (fun i hi => ls_row_un (by omega) he.2.1 hi) i q
    · try dsimp only
      rw [if_neg q]
      exact s3 _ ls_Sp_lc (fun i hi => ls_row_un (by omega) hf.2.1 hi) (i - r) (by omega)
  have hb := fun i => ls_bs_V hn h3 i
  have huv : mx_mul 3 m u v = mx_id (n : Int) := by rw [mx_mul_sw hv.2.2 hu.2.2 (by rw [hvu]; exact mx_id_s), hvu]
  have hQs : ∀ i, mx_s (mx_mul 3 m (mx_mul 3 m u (ls_bs n i)) u) := fun i p q hp hq => by
    have := mx_mul_t3 (m := m) hu.2.2 (hb i).2.2 hu.2.2 (k := 3 * p + q) (by omega)
    rw [mx_t_at hq] at this
    exact this.symm
  have g2 : ∀ i, x2 i = mx_mul 3 m (mx_mul 3 m e (mx_mul 3 m (mx_mul 3 m u (ls_bs n i)) u)) e := fun i => by
    rw [h2 i, mx_mul_a (a := e), mx_mul_a (a := e) (b := mx_mul 3 m u (ls_bs n i))]
  have g0 : ∀ i, x0 i = mx_mul 3 m (mx_mul 3 m f (mx_mul 3 m (mx_mul 3 m u (ls_bs n i)) u)) f := fun i => by
    rw [h0 i, mx_mul_a (a := f), mx_mul_a (a := f) (b := mx_mul 3 m u (ls_bs n i))]
  have gb : ∀ i, ls_bs n i = mx_mul 3 m (mx_mul 3 m v (mx_mul 3 m (mx_mul 3 m u (ls_bs n i)) u)) v := fun i => by
    rw [← mx_mul_a (a := v), ← mx_mul_a (a := v), hvu, mx_id_mul hn (hb i).1 (hb i).2.1, mx_mul_a, huv, mx_mul_id hn (hb i)]
  have half : ∀ {a : Nat → Int} {P : (Nat → Int) → Prop} {x : Nat → Nat → Int} (i : Nat), ls_lc m P → mx_V n m (x i) → x i = mx_mul 3 m (mx_mul 3 m a (mx_mul 3 m (mx_mul 3 m u (ls_bs n i)) u)) a → P (fun k => ls_T a (mx_mul 3 m (mx_mul 3 m u (ls_bs n i)) u) a (k / 3) (k % 3) + ls_T a (mx_mul 3 m (mx_mul 3 m u (ls_bs n i)) u) a (k % 3) (k / 3)) → P (x i) := fun {a P x} i hP hV hx hp => by
    refine ls_lc_2 hm hP hp (fun k hk => ?_)
    obtain ⟨p, hp⟩ := @ls_T_m m a (mx_mul 3 m (mx_mul 3 m u (ls_bs n i)) u) a (k / 3) (k % 3) (by omega) (by omega)
    obtain ⟨q, hq⟩ := @ls_T_m m a (mx_mul 3 m (mx_mul 3 m u (ls_bs n i)) u) a (k % 3) (k / 3) (by omega) (by omega)
    rw [← hx] at hp hq
    have hs := hV.2.2 (k / 3) (k % 3) (by omega) (by omega)
    rw [show 3 * (k / 3) + k % 3 = k by omega] at hp hs
    rw [← hs] at hq
    exact ⟨p + q, by rw [Int.mul_add]; omega⟩
  have d2 : (ls_sq m x2 (n * (n + 1) / 2)).1 ≤ r * (r + 1) / 2 := ls_sq_le hm (fun i => (o2 i).1) (fun i _ => half i ls_Sp_lc (o2 i) (g2 i) (ls_bil ls_Sp_lc (fun k l hk hl => ls_tri r4 hk hl) he.2.2 r2 r2))
  have d0 : (ls_sq m x0 (n * (n + 1) / 2)).1 ≤ r' * (r' + 1) / 2 := ls_sq_le hm (fun i => (o0 i).1) (fun i _ => half i ls_Sp_lc (o0 i) (g0 i) (ls_bil ls_Sp_lc (fun k l hk hl => ls_tri s4 hk hl) hf.2.2 s2 s2))
  have d1 : (ls_sq m x1 (n * (n + 1) / 2)).1 ≤ r * r' := ls_sq_le hm (fun i => (o1 i).1) (fun i _ => ls_lc_e ls_Sp_lc (ls_bil ls_Sp_lc (fun k l hk hl => ls_rec (R := R) (R' := R') hk hl) (Q := mx_mul 3 m (mx_mul 3 m u (ls_bs n i)) u) he.2.2 r2 s2) (fun k hk => by
    have hi : k / 3 < 3 := by omega
    have hj : k % 3 < 3 := by omega
    have hk3 : 3 * (k / 3) + k % 3 = k := by omega
    obtain ⟨p, hp⟩ := h1 i k hk
    obtain ⟨a, ha⟩ := @ls_T_m m e (mx_mul 3 m (mx_mul 3 m u (ls_bs n i)) u) e (k / 3) (k % 3) hi hj
    obtain ⟨b, hb⟩ := @ls_T_m m f (mx_mul 3 m (mx_mul 3 m u (ls_bs n i)) u) f (k / 3) (k % 3) hi hj
    obtain ⟨c, hc⟩ := @ls_T_m m v (mx_mul 3 m (mx_mul 3 m u (ls_bs n i)) u) v (k / 3) (k % 3) hi hj
    obtain ⟨d, hd⟩ := ls_T_add (m := m) (v := v) (e := e) (f := f) (Q := mx_mul 3 m (mx_mul 3 m u (ls_bs n i)) u) (fun k hk => by
      obtain ⟨p, hp⟩ := hfk k hk
      exact ⟨-p, by rw [Int.mul_neg]; omega⟩) hi hj
    have ht := ls_T_t (a := e) (c := f) he.2.2 (hQs i) hf.2.2 hi hj
    rw [← g2 i, hk3] at ha
    rw [← g0 i, hk3] at hb
    rw [← gb i, hk3] at hc
    refine ⟨p + c + d - a - b, ?_⟩
    rw [Int.mul_sub, Int.mul_sub, Int.mul_add, Int.mul_add]
    omega))
  have d3 : n * (n + 1) / 2 ≤ (ls_sq m x2 (n * (n + 1) / 2)).1 + (ls_sq m x1 (n * (n + 1) / 2)).1 + (ls_sq m x0 (n * (n + 1) / 2)).1 := ls_st hm (ls_bs_in hn) (fun i hi => ls_join (ls_sq_in hi) (ls_sq_in hi) (ls_sq_in hi) (fun j hj => by
    obtain ⟨p, hp⟩ := h1 i j hj
    exact ⟨-p, by rw [Int.mul_neg]; omega⟩))
  generalize (ls_sq m x2 (n * (n + 1) / 2)).1 = y2 at *
  generalize (ls_sq m x1 (n * (n + 1) / 2)).1 = y1 at *
  generalize (ls_sq m x0 (n * (n + 1) / 2)).1 = y0 at *
  clear g2 g0 gb half h1 h2 h0 o0 o1 o2 hQs hb hfk
  rcases hn with rfl | rfl
  · rcases (show r = 0 ∨ r = 1 ∨ r = 2 by omega) with rfl | rfl | rfl <;> rcases (show r' = 0 ∨ r' = 1 ∨ r' = 2 by omega) with rfl | rfl | rfl <;> simp at * <;> omega
  · rcases (show r = 0 ∨ r = 1 ∨ r = 2 ∨ r = 3 by omega) with rfl | rfl | rfl | rfl <;> rcases (show r' = 0 ∨ r' = 1 ∨ r' = 2 ∨ r' = 3 by omega) with rfl | rfl | rfl | rfl <;> simp at * <;> omega
theorem sp_psz {s : sp_S} (hs : sp_ok s) {e : Nat → Int} (he : sp_V s e) (hq : zs_sq s e) {q : rr_S} (hrun : rr_run (s.1 82) (rr_ld (s.1 81) e, 1, 0) 3 q) {w : Int} (hw : 0 ≤ w ∧ w ≤ 2) : mx_pe w (q.2.2 : Int) (s.1 81 - (q.2.2 : Int)) = ((mx_pou (zs_nn s) (s.1 82) (fun b => zs_part s e b w) (zs_nn s)).1 : Int) ∧ (q.2.2 : Int) ≤ s.1 81 := by
  have hn := sp_nn hs
  have hni : s.1 81 = ((zs_nn s : Nat) : Int) := by have := hs.1.1; unfold zs_nn; omega
  have hm := sp_p hs
  have h3 := ls_3 hm
  have hu := sp_Vel hs (r := 8) (by decide)
  have hv := sp_V9 hs
  have hf : sp_V s (mx_lin (s.1 82) (zs_el s.1 9) 1 e (-1)) := mx_lin_V h3 hv he
  have heue : mx_mul 3 (s.1 82) (mx_mul 3 (s.1 82) e (zs_el s.1 8)) e = e := by
    have h1 : mc_prod (s.1 82) (zs_el s.1 8) e e = e := by rw [sp_pe hs he he]; exact hq
    unfold mc_prod at h1
    rw [mx_sym_self hm (mx_mul_ok h3 _ _) mx_mul_9 (fun k hk => mx_mul_t3 he.2.2 hu.2.2 he.2.2 hk)] at h1
    exact h1
  have oper : ∀ {a b : Nat → Int}, sp_V s a → sp_V s b → zs_oper s a b = mx_mul 3 (s.1 82) (mx_mul 3 (s.1 82) (mx_mul 3 (s.1 82) (mx_mul 3 (s.1 82) a (zs_el s.1 8)) b) (zs_el s.1 8)) a := fun {a b} ha hb => by
    unfold zs_oper mx_oper
    rw [mx_mul3 hn ha.2.1 hu.2.1, mx_mul3 hn mx_mul_z hb.2.1, mx_mul3 hn mx_mul_z hu.2.1, mx_mul3 hn mx_mul_z ha.2.1]
  have hb := fun i => ls_bs_V hn h3 (m := s.1 82) i
  have vop : ∀ {a b : Nat → Int}, sp_V s a → sp_V s b → sp_V s (zs_oper s a b) := fun {a b} ha hb => by
    rw [← sp_oe hs ha hb]
    exact sp_Vt hs ha hb ha
  have p2 : ∀ i, zs_part s e (ls_bs (zs_nn s) i) 2 = zs_oper s e (ls_bs (zs_nn s) i) := fun i => by
    unfold zs_part mx_part
    rw [if_neg (by decide), if_neg (by decide)]
    rfl
  have p0 : ∀ i, zs_part s e (ls_bs (zs_nn s) i) 0 = zs_oper s (mx_lin (s.1 82) (zs_el s.1 9) 1 e (-1)) (ls_bs (zs_nn s) i) := fun i => by
    unfold zs_part mx_part
    rw [if_pos rfl]
    rfl
  have p1 : ∀ i, zs_part s e (ls_bs (zs_nn s) i) 1 = mx_lin (s.1 82) (ls_bs (zs_nn s) i) 1 (mx_lin (s.1 82) (zs_part s e (ls_bs (zs_nn s) i) 2) 1 (zs_part s e (ls_bs (zs_nn s) i) 0) 1) (-1) := fun i => by
    rw [p2, p0]
    unfold zs_part mx_part
    rw [if_neg (by decide), if_pos rfl]
    rfl
  have v2 : ∀ i, sp_V s (zs_part s e (ls_bs (zs_nn s) i) 2) := fun i => by rw [p2]; exact vop he (hb i)
  have v0 : ∀ i, sp_V s (zs_part s e (ls_bs (zs_nn s) i) 0) := fun i => by rw [p0]; exact vop hf (hb i)
  have v1 : ∀ i, sp_V s (zs_part s e (ls_bs (zs_nn s) i) 1) := fun i => by rw [p1]; exact mx_lin_V h3 (hb i) (mx_lin_V h3 (v2 i) (v0 i))
  obtain ⟨k2, k1, k0, kr⟩ := ls_psize hn hm hu hv he hf rfl (sp_vu hs) heue v2 v1 v0 (fun i => by rw [p2, oper he (hb i)]) (fun i => by rw [p0, oper hf (hb i)]) (fun i k hk => by
    rw [p1]
    obtain ⟨a, ha⟩ := @ls_lin_e (s.1 82) (ls_bs (zs_nn s) i) (mx_lin (s.1 82) (zs_part s e (ls_bs (zs_nn s) i) 2) 1 (zs_part s e (ls_bs (zs_nn s) i) 0) 1) 1 (-1) k hk
    obtain ⟨b, hb⟩ := @ls_lin_e (s.1 82) (zs_part s e (ls_bs (zs_nn s) i) 2) (zs_part s e (ls_bs (zs_nn s) i) 0) 1 1 k hk
    exact ⟨a - b, by rw [Int.mul_sub]; omega⟩)
  rw [hni] at hrun
  obtain ⟨c1, c2, c3, c4, c5⟩ := ls_gj hn hm he hrun
  rw [c1] at k2 k1 k0 kr
  have hpu := ls_pou hn (m := s.1 82) (f := fun b => zs_part s e b w)
  rw [hpu]
  refine ⟨?_, by omega⟩
  generalize q.2.2 = r at *
  unfold mx_pe
  rw [hni]
  rcases (show w = 0 ∨ w = 1 ∨ w = 2 by omega) with rfl | rfl | rfl
  · rw [if_neg (by decide), if_neg (by decide), k0]
    rcases hn with hn | hn <;> rw [hn] at kr ⊢ <;> rcases (show r = 0 ∨ r = 1 ∨ r = 2 ∨ r = 3 by omega) with rfl | rfl | rfl | rfl <;> first | rfl | omega
  · rw [if_pos rfl, k1]
    rcases hn with hn | hn <;> rw [hn] at kr ⊢ <;> rcases (show r = 0 ∨ r = 1 ∨ r = 2 ∨ r = 3 by omega) with rfl | rfl | rfl | rfl <;> first | rfl | omega
  · rw [if_neg (by decide), if_pos rfl, k2]
    rcases (show r = 0 ∨ r = 1 ∨ r = 2 ∨ r = 3 by omega) with rfl | rfl | rfl | rfl <;> rfl
