/-! THE LAW: what its start gives -/
section LAW1
variable {s : State} {args : Array Value}
theorem wl_n7 : ∀ w ∈ wsX70, w ∈ wsL_law := fun w h => List.mem_append_left _ (List.mem_append_left _ (List.mem_append_left _ (List.mem_append_left _ (List.mem_append_left _ (List.mem_append_left _ (List.mem_append_left _ (List.mem_append_left _ (List.mem_append_right _ h))))))))
theorem wl_n0 : ∀ w ∈ wsX00, w ∈ wsL_law := fun w h => List.mem_append_left _ (List.mem_append_left _ (List.mem_append_left _ (List.mem_append_left _ (List.mem_append_left _ (List.mem_append_left _ (List.mem_append_left _ (List.mem_append_right _ h)))))))
theorem wl_n3 : ∀ w ∈ wsX30, w ∈ wsL_law := fun w h => List.mem_append_left _ (List.mem_append_left _ (List.mem_append_left _ (List.mem_append_left _ (List.mem_append_left _ (List.mem_append_left _ (List.mem_append_right _ h))))))
theorem wl_n4 : ∀ w ∈ wsX40, w ∈ wsL_law := fun w h => List.mem_append_left _ (List.mem_append_left _ (List.mem_append_left _ (List.mem_append_left _ (List.mem_append_left _ (List.mem_append_right _ h)))))
theorem wl_n2 : ∀ w ∈ wsX20, w ∈ wsL_law := fun w h => List.mem_append_left _ (List.mem_append_left _ (List.mem_append_left _ (List.mem_append_left _ (List.mem_append_right _ h))))
theorem wl_n6 : ∀ w ∈ wsX60, w ∈ wsL_law := fun w h => List.mem_append_left _ (List.mem_append_left _ (List.mem_append_left _ (List.mem_append_right _ h)))
theorem wl_n5 : ∀ w ∈ wsX50, w ∈ wsL_law := fun w h => List.mem_append_left _ (List.mem_append_left _ (List.mem_append_right _ h))
theorem wl_n1 : ∀ w ∈ wsX10, w ∈ wsL_law := fun w h => List.mem_append_left _ (List.mem_append_right _ h)
theorem wl_a0 {ty : FieldType} (hn : ∀ cA, (s.vm.findClass ("[" ++ ty.toString) = some cA) → va_RA s cA ty) (h : (Cond.arrayClass ty).before args s = true) : ∃ cA, ArrOfT s cA ty ∧ va_RA s cA ty := by
  obtain ⟨cB, kB, comp, h1, h2, h3⟩ := Cond.arrayClass_spec h
  exact ⟨cB, fun n z => ⟨fun k h => (by cases h), kB, h2, comp, h3⟩, hn cB h1⟩
theorem wl_aO {C : String} (h : (Cond.arrayOver (.object C)).before args s = true) : ∃ cA, ArrOfT s cA (.object C) ∧ va_RA s cA (.object C) := by
  obtain ⟨comp, c, k, h1, h2, h3, h4, h5⟩ := Cond.arrayOver_spec h
  exact ⟨c, fun n z => ⟨fun k h => (by cases h), k, h3, comp, h4⟩, k, comp, h3, h4, h1, h5⟩
theorem wl_aA (h : (Cond.arrayOver (.array .int)).before args s = true) : ∃ cA, ArrOfT s cA (.array .int) ∧ va_RA s cA (.array .int) := by
  obtain ⟨comp, c, k, h1, h2, h3, h4, h5⟩ := arrayOverA_spec h
  exact ⟨c, fun n z => ⟨fun k h => (by cases h), k, h3, comp, h4⟩, h5⟩
theorem wl_tc (h0 : (Cond.arrayClass .int).before args s = true) (h1 : (Cond.arrayClass .char).before args s = true) (h2 : (Cond.arrayClass .boolean).before args s = true) (h3 : (Cond.arrayOver (.array .int)).before args s = true) (h4 : (Cond.arrayOver (.object "PeirceDesk$State")).before args s = true) (h5 : (Cond.arrayOver (.object "PeirceDesk$Frame")).before args s = true) : ∃ tc : Nat → ClassId, ∀ (k : Nat) (q : ClassId × FieldType), (gx_tys tc)[k]? = some q → ArrOfT s q.1 q.2 ∧ va_RA s q.1 q.2 := by
  obtain ⟨c0, g0⟩ := wl_a0 (s := s) (ty := .int) (fun _ h => h) h0
  obtain ⟨c1, g1⟩ := wl_a0 (s := s) (ty := .char) (fun _ h => h) h1
  obtain ⟨c2, g2⟩ := wl_a0 (s := s) (ty := .boolean) (fun _ h => h) h2
  obtain ⟨c3, g3⟩ := wl_aA h3
  obtain ⟨c4, g4⟩ := wl_aO h4
  obtain ⟨c5, g5⟩ := wl_aO h5
  refine ⟨fun k => match k with | 0 => c0 | 1 => c1 | 2 => c2 | 3 => c3 | 4 => c4 | _ => c5, fun k q hq => ?_⟩
  have hk : k < 6 := (List.getElem?_eq_some_iff.mp hq).1
  rcases (show k = 0 ∨ k = 1 ∨ k = 2 ∨ k = 3 ∨ k = 4 ∨ k = 5 by omega) with rfl | rfl | rfl | rfl | rfl | rfl
  · cases hq; exact g0
  · cases hq; exact g1
  · cases hq; exact g2
  · cases hq; exact g3
  · cases hq; exact g4
  · cases hq; exact g5
end LAW1
theorem sm_Rf {s : sp_S} {M M' : gx_M} (e : ∀ c, c < 12 → M' c = M c) (h : sm_R s M) : sm_R s M' := by
  obtain ⟨a1, a2, a3, a4, a5, a6, a7⟩ := h
  exact ⟨by rw [e 1 (by decide)]; exact a1, by rw [e 0 (by decide)]; exact a2, by rw [e 2 (by decide)]; exact a3, by rw [e 4 (by decide)]; exact a4, by rw [e 3 (by decide)]; exact a5, by rw [e 0 (by decide)]; exact a6, by rw [e 5 (by decide)]; exact a7⟩
theorem sd_Rf {s : sp_S} {M M' : gx_M} (e : ∀ c, 12 ≤ c → M' c = M c) (h : sd_R s M) : sd_R s M' := by
  obtain ⟨g1, ⟨g2, nx, g3, g4, g5⟩, g6, g7, ⟨g8, g9⟩, g10⟩ := h
  refine ⟨sd_stf g1 (fun c h _ => e c (by omega)), ⟨by rw [e 16 (by decide)]; exact g2, nx, g3, by rw [e 16 (by decide)]; exact g4, fun i hi => sd_stf (g5 i hi) (fun c h _ => e c (by omega))⟩, by rw [e 18 (by decide)]; exact g6, fun j hj h1 => sd_stf (g7 j hj h1) (fun c h _ => e c (by omega)), ⟨by rw [e 14 (by decide)]; exact g8, by rw [e 41 (by decide)]; exact g9⟩, by rw [e 35 (by decide)]; exact g10⟩
/-- the desk as it is first -/
def sp_0 : sp_S := (zs_new 2 5, (0, fun _ _ => 0), (fun _ => 0, fun _ _ => 0), (0, fun _ => 0))
theorem sp_0ok : sp_ok sp_0 := ⟨zs_new_ok (Or.inl rfl) (Or.inr (Or.inl rfl)), Nat.zero_le _, fun i hi => absurd hi (Nat.not_lt_zero i), fun j _ => Or.inl rfl, fun j _ h => absurd (show (0 : Int) = 1 from h) (by decide), Nat.zero_le _, fun i hi => absurd hi (Nat.not_lt_zero i)⟩
theorem sm_0 : sm_R sp_0 gn_M0 := by
  refine ⟨fun k hk => ?_, ?_, fun i k hi => absurd hi (Nat.not_lt_zero i), fun j _ => ?_, fun j k _ h => absurd (show (0 : Int) = 1 from h) (by decide), ?_, fun i hi => absurd hi (Nat.not_lt_zero i)⟩
  · unfold gn_M0
    rw [if_pos rfl, if_pos hk]
    rfl
  · rw [gn_M0z (Or.inl rfl)]
    rfl
  · rw [gn_M0z (Or.inr (Or.inl (by decide)))]
    rfl
  · rw [gn_M0z (Or.inl rfl)]
    rfl
theorem sd_0 : sd_R sp_0 gn_M0 := by
  refine ⟨⟨?_, ?_, fun r hr => ?_⟩, ⟨?_, 0, by decide, ?_, fun i hi => absurd hi (Nat.not_lt_zero i)⟩, fun j _ => ?_, fun j _ h => absurd (show (0 : Int) = 1 from h) (by decide), ⟨?_, fun i hi => absurd hi (Nat.not_lt_zero i)⟩, fun k _ _ _ _ _ => ?_⟩
  · rfl
  · rfl
  · have hM : ∀ q, q < 9 → gn_M0 (46 + 2 + r) q = if 8 ≤ r then mx_id 2 q else 0 := fun q hq => by
      unfold gn_M0
      rw [if_neg (by omega), if_pos (by omega), if_neg (by omega)]
      by_cases h8 : 8 ≤ r
      · rw [if_pos (by omega), if_pos h8]
      · rw [if_neg (by omega), if_neg h8]
    have hof : mx_of (gn_M0 (46 + 2 + r)) 0 = if 8 ≤ r then mx_id 2 else fun _ => 0 := by
      funext q
      unfold mx_of
      by_cases hq : q < 9
      · rw [if_pos hq, Nat.zero_add, hM q hq]
        by_cases h8 : 8 ≤ r
        · rw [if_pos h8, if_pos h8]
        · rw [if_neg h8, if_neg h8]
      · rw [if_neg hq]
        by_cases h8 : 8 ≤ r
        · rw [if_pos h8, mx_id_9 (by decide) q (by omega)]
        · rw [if_neg h8]
    rw [hof]
    show _ = zs_el (zs_new 2 5) r
    have hbase : mx_of (zs_new 2 5) 72 = mx_id 2 := by
      have := zs_new_el (n := 2) (m := 5) (Or.inl rfl) (r := 8) (by decide)
      unfold zs_el at this
      rw [if_pos (by decide), if_pos rfl] at this
      exact this
    by_cases e9 : r = 9
    · rw [if_pos (by omega), e9]
      unfold zs_el
      rw [if_neg (by decide), show zs_new 2 5 81 = 2 from rfl, show zs_new 2 5 82 = 5 from rfl, hbase, mx_inv_id (Or.inl rfl) (Or.inr (Or.inl rfl))]
    · rw [zs_new_el (Or.inl rfl) (by omega)]
      by_cases e8 : r = 8
      · rw [if_pos (by omega), if_pos e8]
      · rw [if_neg (by omega), if_neg e8]
  · rw [gn_M0z (Or.inr (Or.inl (by decide)))]
    rfl
  · rw [gn_M0z (Or.inr (Or.inl (by decide)))]
    rfl
  · rw [gn_M0z (Or.inr (Or.inl (by decide)))]
    rfl
  · rw [gn_M0z (Or.inr (Or.inl (by decide)))]
    rfl
  · rw [gn_M0z (Or.inr (Or.inl (by decide)))]
