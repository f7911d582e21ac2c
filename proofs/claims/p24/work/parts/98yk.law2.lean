/-! THE LAW: its walk -/
section LAW2
variable {p : Program} {l : Launch} {e : Env} {R : Room} {s : State} {m : MethodId} {args : Array Value} {below : List Frame} {meth : Method} {c : Code} {cells slots : Nat} {Q : State → Prop}
variable {cc : ByteArray} {own : String} {nL : Nat} {Ts : List Cond} {ret : Option FieldType} {D : va_G} {tc : Nat → ClassId} {ad : Nat → Nat} {La : List gx_K} {A : Nat → Prop} {H0 : Heap}
variable {pc : Nat} {L st : List gx_V}
variable {P : Heap → List Loc → Prop} {M : gx_M}
theorem gp_astore_n (C : gx_C p R s m args meth c cc own nL Ts ret D tc ad La A H0) {i : Fin 4} {z : Nat} (d : decode cc pc = .ok (.astore_n i, 1)) (hn : (i : Nat) < nL) (hok : gx_ok L (i : Nat) = true) (k : gp_G p l e R s m args below meth c cells slots Q nL ad P (pc + 1) (L.set (i : Nat) (gx_R z)) st) : gp_G p l e R s m args below meth c cells slots Q nL ad P pc L (gx_R z :: st) :=
  fun H locs ls hP hl => lv_astore_n (x := ad z) (gx_hx C) (gx_hb C) d rfl hl hn rfl (fun ls' hl' => k H locs ls' hP (gx_lset (v := gx_R z) hok hl'))
theorem gx_eqT (C : gx_C p R s m args meth c cc own nL Ts ret D tc ad La A H0) {x off : Int} {tgt : Nat} (d : decode cc pc = .ok (.if_icmp .eq off, 3)) (ht : (pc : Int) + off = (tgt : Int)) (kt : gx_G p l e R s m args below meth c cells slots Q nL D tc ad La A H0 tgt L st M) : gx_G p l e R s m args below meth c cells slots Q nL D tc ad La A H0 pc L (gx_I x :: gx_I x :: st) M :=
  fun H locs ls hP hS hl => lv_icmp_eq (gx_hx C) (gx_hb C) d ht (fun _ => kt H locs ls hP hS hl) (fun h => absurd rfl h)
theorem gx_i2l (C : gx_C p R s m args meth c cc own nL Ts ret D tc ad La A H0) {x : Int} (d : decode cc pc = .ok (.i2l, 1)) (kk : gx_G p l e R s m args below meth c cells slots Q nL D tc ad La A H0 (pc + 1) L (gx_J (gx_i x).toInt64 :: st) M) : gx_G p l e R s m args below meth c cells slots Q nL D tc ad La A H0 pc L (gx_I x :: st) M :=
  fun H locs ls hP hS hl => lv_i2l (gx_hx C) (gx_hb C) d rfl (kk H locs ls hP hS hl)
theorem gx_lshl (C : gx_C p R s m args meth c cc own nL Ts ret D tc ad La A H0) {x : Int64} {y : Int} (d : decode cc pc = .ok (.lshl, 1)) (kk : gx_G p l e R s m args below meth c cells slots Q nL D tc ad La A H0 (pc + 1) L (gx_J (x <<< ((gx_i y).toInt64 &&& 63)) :: st) M) : gx_G p l e R s m args below meth c cells slots Q nL D tc ad La A H0 pc L (gx_I y :: gx_J x :: st) M :=
  fun H locs ls hP hS hl => lv_lshl (gx_hx C) (gx_hb C) d rfl (kk H locs ls hP hS hl)
theorem gx_lor (C : gx_C p R s m args meth c cc own nL Ts ret D tc ad La A H0) {x y : Int64} (d : decode cc pc = .ok (.lor, 1)) (kk : gx_G p l e R s m args below meth c cells slots Q nL D tc ad La A H0 (pc + 1) L (gx_J (x ||| y) :: st) M) : gx_G p l e R s m args below meth c cells slots Q nL D tc ad La A H0 pc L (gx_J y :: gx_J x :: st) M :=
  fun H locs ls hP hS hl => lv_lor (gx_hx C) (gx_hb C) d (kk H locs ls hP hS hl)
theorem wl_it (y : Int32) : gx_i y.toInt = y := Int32.ofInt_toInt y
theorem wl_3 (y : Int32) : gx_3 y.toInt := ⟨Int32.le_toInt y, Int32.toInt_lt y⟩
/-- the script's length, a number of it -/
theorem gl_len (C : gx_C p R s m args meth c cc own nL Ts ret D tc ad La A H0) {b n : Nat} {xs : Nat → Int32} (hX : va_X b n xs s H0) (hbl : b < H0.size) (hbA : ¬ A b) (had : ad 1000 = b) (d : decode cc pc = .ok (.arraylength, 1)) (kk : gx_G p l e R s m args below meth c cells slots Q nL D tc ad La A H0 (pc + 1) L (gx_I (n : Int) :: st) M) : gx_G p l e R s m args below meth c cells slots Q nL D tc ad La A H0 pc L (gx_R 1000 :: st) M := by
  subst had
  exact fun H locs ls hP hS hl => va_slen (gx_hx C) (gx_hb C) hX hbl hbA hS d (kk H locs ls hP hS hl)
theorem gl_ld (C : gx_C p R s m args meth c cc own nL Ts ret D tc ad La A H0) {b n : Nat} {xs : Nat → Int32} (hX : va_X b n xs s H0) (hbl : b < H0.size) (hbA : ¬ A b) (had : ad 1000 = b) {i : Int} (hi : 0 ≤ i ∧ i < n ∧ n < 10000) (d : decode cc pc = .ok (.iaload, 1)) (kk : gx_G p l e R s m args below meth c cells slots Q nL D tc ad La A H0 (pc + 1) L (gx_I (xs i.toNat).toInt :: st) M) : gx_G p l e R s m args below meth c cells slots Q nL D tc ad La A H0 pc L (gx_I i :: gx_R 1000 :: st) M := by
  subst had
  have h3 : gx_3 i := ⟨by omega, by omega⟩
  refine fun H locs ls hP hS hl => va_sld (gx_hx C) (gx_hb C) hX hbl hbA hS (i := gx_i i) (gx_in h3 hi.1 hi.2.1) d ?_
  have := kk H locs ls hP hS hl
  rw [gx_nat h3]
  have e1 : gx_T ad (gx_I (xs i.toNat).toInt) = .int (xs i.toNat) := congrArg Value.int (wl_it _)
  rw [List.map_cons, e1] at this
  exact this
end LAW2
theorem gn_Hcg {D : va_G} {ad ad' : Nat → Nat} {w : gn_W} {H : Heap} (h : ∀ c, c < 274 → ad' c = ad c) (hw : gn_H D ad w H) : gn_H D ad' w H := fun c e he => by
  obtain ⟨h1, h2⟩ := hw c e he
  rw [h c h1]
  exact ⟨h1, h2⟩
section LAW3
variable {p : Program} {l : Launch} {e : Env} {R : Room} {s : State} {m : MethodId} {args : Array Value} {below : List Frame} {meth : Method} {c : Code} {cells slots : Nat} {Q : State → Prop}
variable {cc : ByteArray} {own : String} {nL : Nat} {Ts : List Cond} {ret : Option FieldType} {D : va_G} {tc : Nat → ClassId} {ad : Nat → Nat} {A : Nat → Prop} {H0 : Heap}
variable {pc : Nat} {L st : List gx_V}
variable {w w' : gn_W} {z0 : Nat}
theorem gn_callX (C : gn_C p R s m args meth c cc own nL Ts ret D tc ad A z0) {ad' : Nat → Nat} (hcg : ∀ c, c < 274 → ad' c = ad c) {index maxL dd mc ms : Nat} {y : MethodName} {bytes : ByteArray} {ws : List Cond} {b : Nat} {rest : List gx_V} (hb : b < 274) (K : gn_I y ws dd mc ms b ad' tc w w' (z0 + cells)) (cw : CallB R s args own index y bytes maxL none ws (gn_rm dd mc ms) mc ms 0 ∧ y.name = "<init>" ∧ (Cond.instanceMethod y).before args s = true) (ht : gn_t ad w cells (z0 + cells)) (hW : (rest.map gx_c2).sum ≤ 8) (hR : cells + mc ≤ R.cells ∧ slots + ms ≤ R.slots) (d : decode cc pc = .ok (.invokespecial index, 3)) (kk : gp_G p l e R s m args below meth c (cells + mc) (slots + ms) Q nL ad (gn_P D ad A s.heap w') (pc + 3) L rest) : gp_G p l e R s m args below meth c cells slots Q nL ad (gn_P D ad A s.heap w) pc L (gx_R b :: rest) := by
  intro H locs ls hP hl
  refine gn_szW C hP ht (fun hsz => ?_)
  refine va_callv (va_runI (b := ad' b) (As := []) (rest := rest.map (gx_T ad)) ⟨gx_hx C.1, gx_hb C.1, gx_hml C.1, gx_hown C.1, gx_hts C.1⟩ (K l D A) cw ⟨gn_blind _ D tc ad' A w (z0 + cells), fun U hU hW => ⟨rfl, by rw [hU]; exact hsz, by rw [hU]; exact gn_Hcg hcg hP.1, va_K.moved hW.alike (gx_hK C.1), gx_NW.warm hW (gx_hN C.1), gn_O.moved hW.alike C.2.2.1, ⟨fun i j hi hj he => C.2.1.1 i j hi hj (by rw [← hcg i hi, ← hcg j hj]; exact he), fun c hc => by rw [hcg c hc]; exact C.2.1.2 c hc⟩, fun q hq => gn_hA C (by omega)⟩⟩ rfl rfl hl.1 (by rw [hcg b hb]; rfl) (lv_room (gx_cs hW)) d hR) hP.2 (fun q _ h => h) (fun q h => h) (fun u t H1 locs1 ht hvm hw hB hz1 hk1 hS1 => ?_)
  have hB : gn_H D ad' w' t.heap := hB
  rw [ht] at hB
  exact kk H1 locs1 ls ⟨gn_Hcg (fun c hc => (hcg c hc).symm) hB, hS1⟩ hl
end LAW3
/-- which cells a cell speaks of -/
def wl_rng (K : gx_K) : Bool := match K with
  | .inl (_, fs) => fs.all (fun x => match x with | none => true | some r => decide (r < 274))
  | .inr (k, n, b, st) => decide (k < 3) || (List.range n).all (fun j => decide (b + st * j < 274))
theorem wl_rngs : gn_La.all wl_rng = true := by decide +kernel
theorem wl_ext {D : va_G} {tc : Nat → ClassId} {ad ad' : Nat → Nat} {a : Nat} {f : Nat → Int} {K : gx_K} {H : Heap} (h : ∀ c, c < 274 → ad' c = ad c) (hK : wl_rng K = true) (hv : va_at D vwCl (a, gx_E tc ad' f K) H) : va_at D vwCl (a, gx_E tc ad f K) H := by
  match K, hK, hv with
  | .inl (ci, fs), hK, hv =>
    have e : gx_E tc ad' f (.inl (ci, fs)) = gx_E tc ad f (.inl (ci, fs)) := by
      show (Sum.inr (ci, fs.mapIdx (gx_F ad' f)) : va_E) = Sum.inr (ci, fs.mapIdx (gx_F ad f))
      congr 2
      refine List.ext_getElem? (fun i => ?_)
      rw [List.getElem?_mapIdx, List.getElem?_mapIdx]
      cases hx : fs[i]? with
      | none => rfl
      | some x =>
        cases x with
        | none => rfl
        | some r =>
          have hr : r < 274 := by
            have h1 := List.all_eq_true.mp hK (some r) (List.mem_of_getElem? hx)
            simpa using h1
          show some (Value.ref (ad' r)) = some (Value.ref (ad r))
          rw [h r hr]
    rw [← e]
    exact hv
  | .inr (k, n, b, st), hK, hv =>
    by_cases hk : k < 3
    · have e : gx_E tc ad' f (.inr (k, n, b, st)) = gx_E tc ad f (.inr (k, n, b, st)) := by simp only [gx_E, gx_a, if_pos hk]
      rw [← e]
      exact hv
    · have e : gx_E tc ad' f (.inr (k, n, b, st)) = .inl (tc k, n, .inr (.inr (.inr (.inr (fun i => some (ad' (b + st * i))))))) := by simp only [gx_E, gx_a, if_neg hk]
      rw [e] at hv
      refine gn_vq hk (fun j hj => ?_) hv
      have h1 : (List.range n).all (fun j => decide (b + st * j < 274)) = true := by
        have h2 : (decide (k < 3) || (List.range n).all (fun j => decide (b + st * j < 274))) = true := hK
        rw [show decide (k < 3) = false by simpa using hk, Bool.false_or] at h2
        exact h2
      have h3 := List.all_eq_true.mp h1 j (List.mem_range.mpr hj)
      rw [h _ (by simpa using h3)]
theorem gn_fs7 : ∀ j, j < 6 → defaultValue (tyX7 j) = vp_V [.null, .null, .null, .null, .null, .null] j := fun j hj => by
  rcases (show j = 0 ∨ j = 1 ∨ j = 2 ∨ j = 3 ∨ j = 4 ∨ j = 5 by omega) with rfl | rfl | rfl | rfl | rfl | rfl <;> rfl
