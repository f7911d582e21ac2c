/-! WHAT A TEXT GIVES -/
theorem tx_fin {s : sp_S} {tx : List Int} {t : pm_S} (h : pm_run (st_tx s tx) tx.length = some t) (g : pm_w t = 4 ∧ pm_d t = 0 ∧ pm_f t = 0 ∧ pm_e t = 1) : pm_fin (st_tx s tx) t := ⟨h, g.1, g.2.1, Or.inr g.2.2.2⟩
theorem tx_flt {s : sp_S} {tx : List Int} {X Y : Nat → Int} (h : tx_is s tx X Y) : pm_flt (st_tx s tx) (-6) := by
  obtain ⟨t, h1, h2, -⟩ := h
  exact pm_flt_f (tx_fin h1 h2)
theorem tx_flts {s : sp_S} {tx : List Int} {z : Int} (h : tx_st s tx z) : pm_flt (st_tx s tx) (-6) := by
  obtain ⟨t, h1, h2, -⟩ := h
  exact pm_flt_f (tx_fin h1 h2)
theorem tx_holds {s : sp_S} {tx : List Int} {X Y : Nat → Int} (h : tx_is s tx X Y) (e : X = Y) {z : Int} (hz : sp_holds (st_tx s tx) z) : z = 1 := by
  obtain ⟨t, h1, h2, h3, h4, h5⟩ := h
  have hf := tx_fin h1 h2
  rcases hz with ⟨h0, -⟩ | ⟨t', g1, g2⟩
  · exact absurd (pm_flt_f hf) h0
  · have := pm_fin_u hf g1
    subst this
    rw [if_neg (by rw [h2.2.2.1, h3]; simp)] at g2
    exact g2.2.mpr (by rw [h4, h5, e])
theorem tx_stops {s : sp_S} {tx : List Int} {X Y : Nat → Int} (h : tx_is s tx X Y) {z : Int} (hz : sp_stops (st_tx s tx) z) : z = -6 := by
  obtain ⟨t, h1, h2, h3, h4, h5⟩ := h
  have hf := tx_fin h1 h2
  rcases hz with ⟨h0, -⟩ | ⟨t', g1, g2⟩
  · exact absurd (pm_flt_f hf) h0
  · have := pm_fin_u hf g1
    subst this
    rw [g2, h3]
theorem tx_run5 {s : sp_S} {tx : List Int} {X Y : Nat → Int} (h : tx_is s tx X Y) {z : Int} {s' : sp_S} (hz : sp_run (st_tx s tx) z s') : z = -5 ∧ s' = st_tx s tx := by
  obtain ⟨t, h1, h2, h3, h4, h5⟩ := h
  have hf := tx_fin h1 h2
  rcases hz with ⟨h0, -⟩ | ⟨t', g1, g2⟩
  · exact absurd (pm_flt_f hf) h0
  · have := pm_fin_u hf g1
    subst this
    rw [if_neg (by rw [h2.2.2.1]; simp)] at g2
    exact g2
theorem tx_holds5 {s : sp_S} {tx : List Int} {y : Int} (h : tx_st s tx y) (hy : y ≠ -6) {z : Int} (hz : sp_holds (st_tx s tx) z) : z = -5 := by
  obtain ⟨t, h1, h2, h3⟩ := h
  have hf := tx_fin h1 h2
  rcases hz with ⟨h0, -⟩ | ⟨t', g1, g2⟩
  · exact absurd (pm_flt_f hf) h0
  · have := pm_fin_u hf g1
    subst this
    rw [if_pos (Or.inr (by rw [h3]; exact hy))] at g2
    exact g2
theorem tx_stops5 {s : sp_S} {tx : List Int} {y : Int} (h : tx_st s tx y) {z : Int} (hz : sp_stops (st_tx s tx) z) : z = y := by
  obtain ⟨t, h1, h2, h3⟩ := h
  have hf := tx_fin h1 h2
  rcases hz with ⟨h0, -⟩ | ⟨t', g1, g2⟩
  · exact absurd (pm_flt_f hf) h0
  · have := pm_fin_u hf g1
    subst this
    rw [g2, h3]
theorem tx_is_e {s : sp_S} {tx : List Int} {X Y : Nat → Int} (h : tx_is s tx X Y) (e : X = Y) : tx_is s tx X X := by
  obtain ⟨t, h1, h2, h3, h4, h5⟩ := h
  exact ⟨t, h1, h2, h3, h4, by rw [h5, e]⟩
/-! THE EQUATIONS, for a desk as it should be -/
section EQS
variable {s : sp_S}
theorem tq_vu (hs : sp_ok s) : mx_mul (zs_nn s) (s.1 82) (zs_el s.1 9) (zs_el s.1 8) = mx_id ((zs_nn s : Nat) : Int) := by
  rw [← mx_mul3 (sp_nn hs) (sp_V9 hs).2.1 (sp_Vel hs (r := 8) (by decide)).2.1]
  exact sp_vu hs
theorem tq_uv (hs : sp_ok s) : mx_mul (zs_nn s) (s.1 82) (zs_el s.1 8) (zs_el s.1 9) = mx_id ((zs_nn s : Nat) : Int) := by
  have h8 := sp_Vel hs (r := 8) (by decide)
  have h9 := sp_V9 hs
  rw [← mx_mul3 (sp_nn hs) h8.2.1 h9.2.1, mx_mul_sw h9.2.2 h8.2.2 (by rw [sp_vu hs]; exact mx_id_s), sp_vu hs]
theorem tq_r (hs : sp_ok s) {r : Nat} (hr : r < 9) : al_r (s.1 82) (zs_el s.1 r) := al_rV (sp_Vel hs hr)
theorem tq_r9 (hs : sp_ok s) : al_r (s.1 82) (zs_el s.1 9) := al_rV (sp_V9 hs)
theorem tq_p (hs : sp_ok s) {a b : Nat → Int} : al_r (s.1 82) (zs_prod s a b) := al_prod_r (ls_3 (sp_p hs))
theorem tq_o (hs : sp_ok s) {a b : Nat → Int} : al_r (s.1 82) (zs_oper s a b) := al_oper_r (ls_3 (sp_p hs))
theorem tq_t (hs : sp_ok s) {a b c : Nat → Int} : al_r (s.1 82) (mx_trip (zs_nn s) (s.1 82) (zs_el s.1 8) a b c) := al_trip_r (ls_3 (sp_p hs))
theorem tq_m (hs : sp_ok s) {a b : Nat → Int} : al_r (s.1 82) (mx_mul (zs_nn s) (s.1 82) a b) := al_r_mul (ls_3 (sp_p hs))
theorem tq_1 (hs : sp_ok s) : ∃ X, tx_is s tx_1 X X := by
  have h := tx_1_is (s := s)
  simp only [al_l0 (tq_r hs (r := 0) (by decide)), al_l0 (tq_r hs (r := 1) (by decide)), al_l0 (tq_r hs (r := 2) (by decide)), al_l0 (tq_r9 hs), al_l0 (tq_p hs), al_l0 (tq_o hs), al_l0 (tq_t hs), al_l0 (tq_m hs)] at h
  refine ⟨_, tx_is_e h ?_⟩
  exact al_1 (sp_nn hs) (sp_p hs)
theorem tq_2 (hs : sp_ok s) : ∃ X, tx_is s tx_2 X X := by
  have h := tx_2_is (s := s)
  simp only [al_l0 (tq_r hs (r := 0) (by decide)), al_l0 (tq_r hs (r := 1) (by decide)), al_l0 (tq_r hs (r := 2) (by decide)), al_l0 (tq_r9 hs), al_l0 (tq_p hs), al_l0 (tq_o hs), al_l0 (tq_t hs), al_l0 (tq_m hs)] at h
  refine ⟨_, tx_is_e h ?_⟩
  exact al_2 (sp_nn hs) (sp_p hs) (sp_Vel hs (r := 0) (by decide)) (tq_vu hs) (tq_uv hs)
theorem tq_3 (hs : sp_ok s) : ∃ X, tx_is s tx_3 X X := by
  have h := tx_3_is (s := s)
  simp only [al_l0 (tq_r hs (r := 0) (by decide)), al_l0 (tq_r hs (r := 1) (by decide)), al_l0 (tq_r hs (r := 2) (by decide)), al_l0 (tq_r9 hs), al_l0 (tq_p hs), al_l0 (tq_o hs), al_l0 (tq_t hs), al_l0 (tq_m hs)] at h
  refine ⟨_, tx_is_e h ?_⟩
  exact al_3 (sp_nn hs) (sp_p hs)
theorem tq_4 (hs : sp_ok s) : ∃ X, tx_is s tx_4 X X := by
  have h := tx_4_is (s := s)
  simp only [al_l0 (tq_r hs (r := 0) (by decide)), al_l0 (tq_r hs (r := 1) (by decide)), al_l0 (tq_r hs (r := 2) (by decide)), al_l0 (tq_r9 hs), al_l0 (tq_p hs), al_l0 (tq_o hs), al_l0 (tq_t hs), al_l0 (tq_m hs)] at h
  refine ⟨_, tx_is_e h ?_⟩
  exact al_4 (sp_nn hs) (sp_p hs)
theorem tq_5 (hs : sp_ok s) : ∃ X, tx_is s tx_5 X X := by
  have h := tx_5_is (s := s)
  simp only [al_l0 (tq_r hs (r := 0) (by decide)), al_l0 (tq_r hs (r := 1) (by decide)), al_l0 (tq_r hs (r := 2) (by decide)), al_l0 (tq_r9 hs), al_l0 (tq_p hs), al_l0 (tq_o hs), al_l0 (tq_t hs), al_l0 (tq_m hs)] at h
  refine ⟨_, tx_is_e h ?_⟩
  exact al_5 (sp_nn hs)
theorem tq_6 (hs : sp_ok s) : ∃ X, tx_is s tx_6 X X := by
  have h := tx_6_is (s := s)
  simp only [al_l0 (tq_r hs (r := 0) (by decide)), al_l0 (tq_r hs (r := 1) (by decide)), al_l0 (tq_r hs (r := 2) (by decide)), al_l0 (tq_r9 hs), al_l0 (tq_p hs), al_l0 (tq_o hs), al_l0 (tq_t hs), al_l0 (tq_m hs)] at h
  refine ⟨_, tx_is_e h ?_⟩
  exact al_6 (sp_nn hs) (sp_p hs)
theorem tq_7 (hs : sp_ok s) : ∃ X, tx_is s tx_7 X X := by
  have h := tx_7_is (s := s)
  simp only [al_l0 (tq_r hs (r := 0) (by decide)), al_l0 (tq_r hs (r := 1) (by decide)), al_l0 (tq_r hs (r := 2) (by decide)), al_l0 (tq_r9 hs), al_l0 (tq_p hs), al_l0 (tq_o hs), al_l0 (tq_t hs), al_l0 (tq_m hs)] at h
  refine ⟨_, tx_is_e h ?_⟩
  exact al_7 (sp_nn hs) (sp_p hs)
theorem tq_w (hs : sp_ok s) {A : Nat → Int} (hA : sp_V s A) (hd : ¬ mx_det (zs_nn s) (s.1 82) A = 0) : sp_V s (mx_inv (zs_nn s) (s.1 82) A) ∧ mx_mul (zs_nn s) (s.1 82) (mx_inv (zs_nn s) (s.1 82) A) A = mx_id ((zs_nn s : Nat) : Int) ∧ mx_mul (zs_nn s) (s.1 82) A (mx_inv (zs_nn s) (s.1 82) A) = mx_id ((zs_nn s : Nat) : Int) := by
  have hw : sp_V s (mx_inv (zs_nn s) (s.1 82) A) := mx_inv_V (sp_nn hs) (ls_3 (sp_p hs)) hA.2.2
  have h1 := mx_inv_mul (sp_nn hs) (sp_p hs) hA.2.1 hd
  refine ⟨hw, ?_, ?_⟩
  · rw [← mx_mul3 (sp_nn hs) hw.2.1 hA.2.1]
    exact h1
  · rw [← mx_mul3 (sp_nn hs) hA.2.1 hw.2.1, mx_mul_sw hw.2.2 hA.2.2 (by rw [h1]; exact mx_id_s), h1]
theorem tq_8 (hs : sp_ok s) (hd : ¬ mx_det (zs_nn s) (s.1 82) (zs_el s.1 0) = 0) : ∃ X, tx_is s tx_8 X X := by
  have hA := sp_Vel hs (r := 0) (by decide)
  obtain ⟨w0, w1, w2⟩ := tq_w hs hA hd
  have h := tx_8_is (s := s) (by rw [al_l0 (tq_r hs (r := 0) (by decide))]; exact hd)
  simp only [al_l0 (tq_r hs (r := 0) (by decide)), al_l0 (tq_r hs (r := 1) (by decide)), al_l0 (tq_r hs (r := 2) (by decide)), al_l0 (tq_r9 hs), al_l0 (tq_p hs), al_l0 (tq_o hs), al_l0 (tq_t hs), al_l0 (tq_m hs)] at h
  refine ⟨_, tx_is_e h ?_⟩
  exact al_8 (sp_nn hs) (sp_p hs) hA (sp_V9 hs) (tq_vu hs) (tq_uv hs) w1
theorem tq_9 (hs : sp_ok s) (hd : ¬ mx_det (zs_nn s) (s.1 82) (zs_el s.1 0) = 0) : ∃ X, tx_is s tx_9 X X := by
  have hA := sp_Vel hs (r := 0) (by decide)
  obtain ⟨w0, w1, w2⟩ := tq_w hs hA hd
  have h := tx_9_is (s := s) (by rw [al_l0 (tq_r hs (r := 0) (by decide))]; exact hd)
  simp only [al_l0 (tq_r hs (r := 0) (by decide)), al_l0 (tq_r hs (r := 1) (by decide)), al_l0 (tq_r hs (r := 2) (by decide)), al_l0 (tq_r9 hs), al_l0 (tq_p hs), al_l0 (tq_o hs), al_l0 (tq_t hs), al_l0 (tq_m hs)] at h
  refine ⟨_, tx_is_e h ?_⟩
  exact al_p9 (sp_nn hs) (sp_p hs) hA (sp_V9 hs) (tq_vu hs) (tq_uv hs) w1 w2
theorem tq_10 (hs : sp_ok s) (hd : ¬ mx_det (zs_nn s) (s.1 82) (zs_el s.1 0) = 0) : ∃ X, tx_is s tx_10 X X := by
  have hA := sp_Vel hs (r := 0) (by decide)
  obtain ⟨w0, w1, w2⟩ := tq_w hs hA hd
  obtain ⟨d1, d2⟩ := al_10 (sp_nn hs) (sp_p hs) hA (sp_Vel hs (r := 8) (by decide)) (sp_V9 hs) w0 (tq_vu hs) (tq_uv hs) w1
  have h := tx_10_is (s := s) (by rw [al_l0 (tq_r hs (r := 0) (by decide))]; exact hd) (by simp only [al_l0 (tq_r hs (r := 0) (by decide)), al_l0 (tq_r hs (r := 1) (by decide)), al_l0 (tq_r hs (r := 2) (by decide)), al_l0 (tq_r9 hs), al_l0 (tq_p hs), al_l0 (tq_o hs), al_l0 (tq_t hs), al_l0 (tq_m hs)]; exact d1)
  simp only [al_l0 (tq_r hs (r := 0) (by decide)), al_l0 (tq_r hs (r := 1) (by decide)), al_l0 (tq_r hs (r := 2) (by decide)), al_l0 (tq_r9 hs), al_l0 (tq_p hs), al_l0 (tq_o hs), al_l0 (tq_t hs), al_l0 (tq_m hs)] at h
  exact ⟨_, tx_is_e h d2⟩
theorem tq_8s (hs : sp_ok s) (hd : mx_det (zs_nn s) (s.1 82) (zs_el s.1 0) = 0) : tx_st s tx_8 4 := tx_8_st (by rw [al_l0 (tq_r hs (r := 0) (by decide))]; exact hd)
theorem tq_9s (hs : sp_ok s) (hd : mx_det (zs_nn s) (s.1 82) (zs_el s.1 0) = 0) : tx_st s tx_9 4 := tx_9_st (by rw [al_l0 (tq_r hs (r := 0) (by decide))]; exact hd)
theorem tq_10s (hs : sp_ok s) (hd : mx_det (zs_nn s) (s.1 82) (zs_el s.1 0) = 0) : tx_st s tx_10 2 := tx_10_st (by rw [al_l0 (tq_r hs (r := 0) (by decide))]; exact hd)
/-- its own square, by the base -/
theorem tq_sq (hs : sp_ok s) {e : Nat → Int} : zs_sq s e ↔ mx_mul (zs_nn s) (s.1 82) e (mx_mul (zs_nn s) (s.1 82) (zs_el s.1 8) e) = e := by
  have h : zs_prod s e e = mx_mul (zs_nn s) (s.1 82) e (mx_mul (zs_nn s) (s.1 82) (zs_el s.1 8) e) := by
    unfold zs_prod mx_prod
    rw [al_half (sp_p hs) (al_r_mul (ls_3 (sp_p hs))), al_A (sp_nn hs)]
  unfold zs_sq
  rw [h]
theorem tq_11 (hs : sp_ok s) (hq : zs_sq s (zs_el s.1 4)) : ∃ X, tx_is s tx_11 X X := by
  have h := tx_11_is (s := s)
  simp only [al_l0 (tq_r hs (r := 0) (by decide)), al_l0 (tq_r hs (r := 1) (by decide)), al_l0 (tq_r hs (r := 4) (by decide)), al_l0 (tq_r hs (r := 5) (by decide)), al_l0 (tq_r hs (r := 6) (by decide)), al_l0 (tq_r hs (r := 7) (by decide)), al_l0 (tq_r9 hs), al_l0 (tq_p hs), al_l0 (tq_o hs), al_l0 (tq_t hs), al_l0 (tq_m hs)] at h
  exact ⟨_, tx_is_e h hq⟩
/-- register 4 has split register 1 into 5, 6, 7 -/
def tq_P (s : sp_S) : Prop := zs_sq s (zs_el s.1 4) ∧ zs_el s.1 5 = zs_part s (zs_el s.1 4) (zs_el s.1 1) 2 ∧ zs_el s.1 6 = zs_part s (zs_el s.1 4) (zs_el s.1 1) 1 ∧ zs_el s.1 7 = zs_part s (zs_el s.1 4) (zs_el s.1 1) 0
theorem tq_p2 {e b : Nat → Int} : zs_part s e b 2 = zs_oper s e b := by
  unfold zs_part mx_part
  rw [if_neg (by decide), if_neg (by decide)]
  rfl
theorem tq_p0 {e b : Nat → Int} : zs_part s e b 0 = zs_oper s (mx_lin (s.1 82) (zs_el s.1 9) 1 e (-1)) b := by
  unfold zs_part mx_part
  rw [if_pos rfl]
  rfl
theorem tq_p1 {e b : Nat → Int} : zs_part s e b 1 = mx_lin (s.1 82) b 1 (mx_lin (s.1 82) (zs_oper s e b) 1 (zs_oper s (mx_lin (s.1 82) (zs_el s.1 9) 1 e (-1)) b) 1) (-1) := by
  unfold zs_part mx_part
  rw [if_neg (by decide), if_pos rfl]
  rfl
theorem tq_12 (hs : sp_ok s) (hP : tq_P s) : ∃ X, tx_is s tx_12 X X := by
  obtain ⟨hq, h5, h6, h7⟩ := hP
  have h := tx_12_is (s := s)
  simp only [al_l0 (tq_r hs (r := 0) (by decide)), al_l0 (tq_r hs (r := 1) (by decide)), al_l0 (tq_r hs (r := 4) (by decide)), al_l0 (tq_r hs (r := 5) (by decide)), al_l0 (tq_r hs (r := 6) (by decide)), al_l0 (tq_r hs (r := 7) (by decide)), al_l0 (tq_r9 hs), al_l0 (tq_p hs), al_l0 (tq_o hs), al_l0 (tq_t hs), al_l0 (tq_m hs)] at h
  refine ⟨_, tx_is_e h ?_⟩
  rw [h5, h6, h7, tq_p2, tq_p1, tq_p0]
  exact al_12 (sp_p hs) (tq_r hs (r := 1) (by decide))
theorem tq_13 (hs : sp_ok s) (hP : tq_P s) : ∃ X, tx_is s tx_13 X X := by
  obtain ⟨hq, h5, h6, h7⟩ := hP
  have he := (tq_sq hs).mp hq
  have h := tx_13_is (s := s)
  simp only [al_l0 (tq_r hs (r := 0) (by decide)), al_l0 (tq_r hs (r := 1) (by decide)), al_l0 (tq_r hs (r := 4) (by decide)), al_l0 (tq_r hs (r := 5) (by decide)), al_l0 (tq_r hs (r := 6) (by decide)), al_l0 (tq_r hs (r := 7) (by decide)), al_l0 (tq_r9 hs), al_l0 (tq_p hs), al_l0 (tq_o hs), al_l0 (tq_t hs), al_l0 (tq_m hs)] at h
  refine ⟨_, tx_is_e h ?_⟩
  rw [h5, tq_p2]
  exact al_13 (sp_nn hs) (sp_p hs) he
theorem tq_14 (hs : sp_ok s) (hP : tq_P s) : ∃ X, tx_is s tx_14 X X := by
  obtain ⟨hq, h5, h6, h7⟩ := hP
  have he := (tq_sq hs).mp hq
  have h := tx_14_is (s := s)
  simp only [al_l0 (tq_r hs (r := 0) (by decide)), al_l0 (tq_r hs (r := 1) (by decide)), al_l0 (tq_r hs (r := 4) (by decide)), al_l0 (tq_r hs (r := 5) (by decide)), al_l0 (tq_r hs (r := 6) (by decide)), al_l0 (tq_r hs (r := 7) (by decide)), al_l0 (tq_r9 hs), al_l0 (tq_p hs), al_l0 (tq_o hs), al_l0 (tq_t hs), al_l0 (tq_m hs)] at h
  refine ⟨_, tx_is_e h ?_⟩
  rw [h6, tq_p1]
  exact al_14 (sp_nn hs) (sp_p hs) (sp_Vel hs (r := 1) (by decide)) (tq_vu hs) (tq_uv hs) he
theorem tq_15 (hs : sp_ok s) (hP : tq_P s) : ∃ X, tx_is s tx_15 X X := by
  obtain ⟨hq, h5, h6, h7⟩ := hP
  have he := (tq_sq hs).mp hq
  have h := tx_15_is (s := s)
  simp only [al_l0 (tq_r hs (r := 0) (by decide)), al_l0 (tq_r hs (r := 1) (by decide)), al_l0 (tq_r hs (r := 4) (by decide)), al_l0 (tq_r hs (r := 5) (by decide)), al_l0 (tq_r hs (r := 6) (by decide)), al_l0 (tq_r hs (r := 7) (by decide)), al_l0 (tq_r9 hs), al_l0 (tq_p hs), al_l0 (tq_o hs), al_l0 (tq_t hs), al_l0 (tq_m hs)] at h
  refine ⟨_, tx_is_e h ?_⟩
  rw [h7, tq_p0]
  exact al_15 (sp_nn hs) (sp_p hs) (sp_Vel hs (r := 1) (by decide)) (tq_vu hs) (tq_uv hs) he
theorem tq_16 (hs : sp_ok s) (hP : tq_P s) : ∃ X, tx_is s tx_16 X X := by
  obtain ⟨hq, h5, h6, h7⟩ := hP
  have h := tx_16_is (s := s)
  simp only [al_l0 (tq_r hs (r := 0) (by decide)), al_l0 (tq_r hs (r := 1) (by decide)), al_l0 (tq_r hs (r := 4) (by decide)), al_l0 (tq_r hs (r := 5) (by decide)), al_l0 (tq_r hs (r := 6) (by decide)), al_l0 (tq_r hs (r := 7) (by decide)), al_l0 (tq_r9 hs), al_l0 (tq_p hs), al_l0 (tq_o hs), al_l0 (tq_t hs), al_l0 (tq_m hs)] at h
  refine ⟨_, tx_is_e h ?_⟩
  rw [h5, tq_p2]
theorem tq_17 (hs : sp_ok s) (hP : tq_P s) : ∃ X, tx_is s tx_17 X X := by
  obtain ⟨hq, h5, h6, h7⟩ := hP
  have h := tx_17_is (s := s)
  simp only [al_l0 (tq_r hs (r := 0) (by decide)), al_l0 (tq_r hs (r := 1) (by decide)), al_l0 (tq_r hs (r := 4) (by decide)), al_l0 (tq_r hs (r := 5) (by decide)), al_l0 (tq_r hs (r := 6) (by decide)), al_l0 (tq_r hs (r := 7) (by decide)), al_l0 (tq_r9 hs), al_l0 (tq_p hs), al_l0 (tq_o hs), al_l0 (tq_t hs), al_l0 (tq_m hs)] at h
  refine ⟨_, tx_is_e h ?_⟩
  rw [h7, tq_p0]
end EQS
