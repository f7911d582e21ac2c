theorem gx_met_w {l : Launch} {y : MethodName} {ws : List Cond} {rm : Room} {Pc : Array Value → State → Prop} {Qc Qc' : Array Value → State → Outcome → State → Prop} {mc ms : Nat} {free : Addr → Prop} (h : Met l y ws rm Pc Qc mc ms free) (hq : ∀ a s o t, Qc a s o t → Qc' a s o t) : Met l y ws rm Pc Qc' mc ms free := by
  intro p e ha hc hk s m args below hf happ hP hK
  obtain ⟨n, o, h1, h2, h3, h4, h5⟩ := h p e ha hc hk s m args below hf happ hP hK
  exact ⟨n, o, h1, h2, h3, hq _ _ _ _ h4, h5⟩
theorem gx_wk_v {La : List gx_K} {y : MethodName} {ws : List Cond} {d : Nat} {av : List gx_V} {M : gx_M} {post post' : gx_M → Prop} (h : gx_Cv La y ws d av M post) (hq : ∀ M', post M' → post' M') : gx_Cv La y ws d av M post' :=
  fun l D tc ad sz => gx_met_w (h l D tc ad sz) (fun a s o t hx => by
    obtain ⟨⟨u, h1, h2, h3⟩, h4⟩ := hx
    exact ⟨⟨u, h1, hq u h2, h3⟩, h4⟩)
theorem gx_wk_i {La : List gx_K} {y : MethodName} {ws : List Cond} {d : Nat} {av : List gx_V} {M : gx_M} {post post' : Int → gx_M → Prop} (h : gx_Ci La y ws d av M post) (hq : ∀ z M', post z M' → post' z M') : gx_Ci La y ws d av M post' :=
  fun l D tc ad sz => gx_met_w (h l D tc ad sz) (fun a s o t hx => by
    obtain ⟨⟨r, u, h1, ⟨z, h5, h6⟩, h3⟩, h4⟩ := hx
    exact ⟨⟨r, u, h1, ⟨z, h5, hq z u h6⟩, h3⟩, h4⟩)
theorem mx_id_at (n : Int) (k : Nat) : mx_id n k = if k % 4 = 0 ∧ ((k / 4 : Nat) : Int) < n then 1 else 0 := rfl
theorem sp_bel_ok {s : sp_S} (hs : sp_ok s) {r : Int} (hr : r = -6 ∨ (0 ≤ r ∧ r ≤ 7)) : mx_ok (s.1 82) (sp_bel s r) := by
  have hm := hs.1.2.1
  intro k hk
  unfold sp_bel
  split
  · rw [mx_id_at]
    split <;> omega
  · exact (hs.1.2.2.1 r.toNat (by omega)).1 k hk
theorem mx_det_c {n : Nat} {m : Int} {a b : Nat → Int} (h : ∀ k, k < 9 → a k = b k) : mx_det n m a = mx_det n m b := by
  unfold mx_det
  simp only [mx_d3s, mx_at, h 0 (by omega), h 1 (by omega), h 2 (by omega), h 3 (by omega), h 4 (by omega), h 5 (by omega), h 6 (by omega), h 7 (by omega), h 8 (by omega), Nat.reduceMod, Nat.reduceMul, Nat.reduceAdd]
