theorem gx_mi {ad : Nat → Nat} {f : Nat → Int} {fs : List (Option Nat)} {k : Nat} {x : Option Nat} (h : fs[k]? = some x) : (fs.mapIdx (gx_F ad f))[k]? = some (gx_F ad f k x) := by simp [List.getElem?_mapIdx, h]
theorem gx_ms {ad : Nat → Nat} {f : Nat → Int} {fs : List (Option Nat)} {k : Nat} {v : Int} (h : fs[k]? = some none) : (fs.mapIdx (gx_F ad f)).set k (.int (gx_i v)) = fs.mapIdx (gx_F ad (fun j => if j = k then v else f j)) := by
  have hk : k < fs.length := (List.getElem?_eq_some_iff.mp h).1
  refine List.ext_getElem? (fun i => ?_)
  by_cases e : k = i
  · subst e
    rw [List.getElem?_set_self (by simpa using hk), gx_mi h]
    simp [gx_F]
  · rw [List.getElem?_set_ne e, List.getElem?_mapIdx, List.getElem?_mapIdx]
    cases fs[i]? with
    | none => rfl
    | some x =>
      cases x with
      | none => simp [gx_F, show ¬ i = k from fun q => e q.symm]
      | some r => rfl
theorem gx_us {f : Nat → Int} {i v : Int} (h : gx_3 i) : upd (fun j => gx_i (f j)) (gx_i i).toNatClampNeg (gx_i v) = fun j => gx_i (if j = i.toNat then v else f j) := by
  funext j
  unfold upd
  rw [gx_nat h]
  by_cases e : j = i.toNat <;> simp [e]
theorem gx_narC {v : Int} (h : 0 ≤ v ∧ v < 65536) : vp_nar .char (gx_i v) = gx_i v := by
  rw [vp_nar_char]
  obtain ⟨n, rfl⟩ : ∃ n : Nat, v = n := ⟨v.toNat, by omega⟩
  have hn : n < 65536 := by omega
  unfold gx_i
  apply Int32.toBitVec_inj.mp
  show BitVec.setWidth 32 (BitVec.setWidth 16 (BitVec.ofInt 32 (n : Int))) = BitVec.ofInt 32 (n : Int)
  apply BitVec.eq_of_toNat_eq
  rw [BitVec.toNat_setWidth, BitVec.toNat_setWidth, BitVec.toNat_ofInt]
  have h2 : ((n : Int) % ((2 ^ 32 : Nat) : Int)).toNat = n := by omega
  rw [h2]
  omega
theorem gx_narZ {v : Int} (h : v = 0 ∨ v = 1) : vp_nar .boolean (gx_i v) = gx_i v := by
  rcases h with rfl | rfl <;> decide
theorem gx_nZ {v : Int} (h : v = 0 ∨ v = 1) : narrow .boolean (.int (gx_i v)) = .int (gx_i v) := by
  rcases h with rfl | rfl <;> rfl
theorem gx_fZ {v : Int} (h : v = 0 ∨ v = 1) : fits .boolean (.int (gx_i v)) = true := by
  rcases h with rfl | rfl <;> rfl
theorem gx_ht {D : va_G} {w : va_W} {t : State} {H : Heap} (ht : t.heap = H) (hP : va_P D vwCl w H) : va_P D vwCl w t.heap := by rw [ht]; exact hP
/-- words on the stack -/
def gx_c2 : gx_V → Nat
  | .inr (.inr (.inl _)) => 2
  | _ => 1
theorem gx_c2s {ad : Nat → Nat} (v : gx_V) : (gx_T ad v).category = gx_c2 v := by
  match v with
  | .inl z => rfl
  | .inr (.inl z) => rfl
  | .inr (.inr (.inl z)) => rfl
  | .inr (.inr (.inr ())) => rfl
theorem gx_cs {ad : Nat → Nat} {rest : List gx_V} (h : (rest.map gx_c2).sum ≤ 8) : ((rest.map (gx_T ad)).map fun v => v.category).sum ≤ 8 := by
  rw [List.map_map, show ((fun v : Value => v.category) ∘ gx_T ad) = gx_c2 from funext fun v => gx_c2s v]
  exact h
theorem gx_fC {v : Int} (h : 0 ≤ v ∧ v < 65536) : fits .char (.int (gx_i v)) = true := by
  have hn : narrow .char (.int (gx_i v)) = .int (gx_i v) := congrArg Value.int (gx_narC h)
  have h3 : gx_3 v := ⟨by omega, by omega⟩
  have a1 : 0 ≤ gx_i v := (gx_le gx_30 h3).mpr h.1
  have a2 : gx_i v ≤ 65535 := (gx_le (y := 65535) h3 ⟨by decide, by decide⟩).mpr (by omega)
  simp [fits, a1, a2]
section GXD
variable {p : Program} {l : Launch} {e : Env} {R : Room} {s : State} {m : MethodId} {args : Array Value} {below : List Frame} {meth : Method} {c : Code} {cells slots : Nat} {Q : State → Prop}
variable {cc : ByteArray} {own : String} {nL : Nat} {Ts : List Cond} {ret : Option FieldType} {D : va_G} {tc : Nat → ClassId} {ad : Nat → Nat} {La : List gx_K} {A : Nat → Prop} {H0 : Heap}
variable {pc : Nat} {L st : List gx_V} {M : gx_M}
theorem gx_putM {a k : Nat} {ci : Nat} {fs : List (Option Nat)} {v : Int} (hLa : La[a]? = some (.inl (ci, fs))) (hf : fs[k]? = some none) : (gx_w La tc ad M).set (a - gx_k0 La) (ad a, .inr (ci, (fs.mapIdx (gx_F ad (M a))).set k (.int (gx_i v)))) = gx_w La tc ad (gx_u M a k v) := by
  rw [gx_ms hf]
  exact gx_set (f := fun j => if j = k then v else M a j) hLa rfl
theorem gx_putA {a : Nat} {k n b sr : Nat} {i v : Int} (hLa : La[a]? = some (.inr (k, n, b, sr))) (hk : k < 3) (hi : gx_3 i) : (gx_w La tc ad M).set (a - gx_k0 La) (ad a, .inl (tc k, n, .inl (upd (fun j => gx_i (M a j)) (gx_i i).toNatClampNeg (gx_i v)))) = gx_w La tc ad (gx_u M a i.toNat v) := by
  rw [gx_us hi]
  have := gx_set (tc := tc) (ad := ad) (M := M) (f := fun j => if j = i.toNat then v else M a j) hLa (gx_ndk (by omega))
  simp only [gx_E, gx_a, if_pos hk] at this
  exact this
theorem gx_getI (C : gx_C p R s m args meth c cc own nL Ts ret D tc ad La A H0) {Cn : String} {T : u_T} {N index : Nat} {fs : List (Option Nat)} (ci a k : Nat) (hc : vwCl[ci]? = some (Cn, T, N)) (hLa : La[a]? = some (.inl (ci, fs))) {v : Int} (hf : fs[k]? = some none) (hk : k < N) (hin : ∀ w ∈ u_ws Cn T N, w ∈ Ts) (hlink : (Cond.fieldLink own index (T k).1 (T k).2.1 (T k).2.2.1).before args s = true) (d : decode cc pc = .ok (.getfield index, 3)) (hv : M a k = v) (kk : gx_G p l e R s m args below meth c cells slots Q nL D tc ad La A H0 (pc + 3) L (gx_I v :: st) M) : gx_G p l e R s m args below meth c cells slots Q nL D tc ad La A H0 pc L (gx_R a :: st) M := by
  subst hv
  exact fun H locs ls hP hS hl => va_get (v := .int (gx_i (M a k))) (gx_hx C) (gx_hb C) (gx_hts C) hin (gx_hown C) (gx_hK C) hP _ (gx_at hLa rfl) hc k hk hlink (fun _ h => h) (gx_mi hf) d (kk H locs ls hP hS hl)
theorem gx_getR (C : gx_C p R s m args meth c cc own nL Ts ret D tc ad La A H0) {Cn : String} {T : u_T} {N index : Nat} {fs : List (Option Nat)} (ci a k : Nat) (hc : vwCl[ci]? = some (Cn, T, N)) (hLa : La[a]? = some (.inl (ci, fs))) {r : Nat} (hf : fs[k]? = some (some r)) (hk : k < N) (hin : ∀ w ∈ u_ws Cn T N, w ∈ Ts) (hlink : (Cond.fieldLink own index (T k).1 (T k).2.1 (T k).2.2.1).before args s = true) (d : decode cc pc = .ok (.getfield index, 3)) (kk : gx_G p l e R s m args below meth c cells slots Q nL D tc ad La A H0 (pc + 3) L (gx_R r :: st) M) : gx_G p l e R s m args below meth c cells slots Q nL D tc ad La A H0 pc L (gx_R a :: st) M :=
  fun H locs ls hP hS hl => va_get (v := .ref (ad r)) (gx_hx C) (gx_hb C) (gx_hts C) hin (gx_hown C) (gx_hK C) hP _ (gx_at hLa rfl) hc k hk hlink (fun _ h => h) (gx_mi hf) d (kk H locs ls hP hS hl)
theorem gx_putI (C : gx_C p R s m args meth c cc own nL Ts ret D tc ad La A H0) {Cn : String} {T : u_T} {N index : Nat} {fs : List (Option Nat)} (ci a k : Nat) (hc : vwCl[ci]? = some (Cn, T, N)) (hLa : La[a]? = some (.inl (ci, fs))) {v : Int} (hf : fs[k]? = some none) (hk : k < N) (hin : ∀ w ∈ u_ws Cn T N, w ∈ Ts) (ty0 : Nat → FieldType) (hty : ∀ k, k < N → parseFieldDescriptor (T k).2.2.1 = some (ty0 k)) (hnm : ∀ a, a < N → ∀ b, b < N → a ≠ b → (T a).2.1 ≠ (T b).2.1) (hlink : (Cond.fieldLink own index (T k).1 (T k).2.1 (T k).2.2.1).before args s = true) (hfin : (T k).2.2.2 = false) (hd : ty0 k = .int) (d : decode cc pc = .ok (.putfield index, 3)) (kk : gx_G p l e R s m args below meth c cells slots Q nL D tc ad La A H0 (pc + 3) L st (gx_u M a k v)) : gx_G p l e R s m args below meth c cells slots Q nL D tc ad La A H0 pc L (gx_I v :: gx_R a :: st) M := by
  intro H locs ls hP hS hl
  refine va_put (v := .int (gx_i v)) (ty := .int) (gx_hx C) (gx_hb C) (gx_hts C) hin ty0 hty hnm (gx_hown C) (gx_hK C) hP (gx_Dw C M) hS _ (gx_at hLa rfl) hc k hk hlink (fun _ h => h) hfin (by rw [hty k hk, hd]) rfl rfl (by simpa using (List.getElem?_eq_some_iff.mp hf).1) d (fun H1 locs1 hP1 _ hS1 => ?_)
  rw [gx_putM hLa hf] at hP1
  exact kk H1 locs1 ls hP1 hS1 hl
theorem gx_putZ (C : gx_C p R s m args meth c cc own nL Ts ret D tc ad La A H0) {Cn : String} {T : u_T} {N index : Nat} {fs : List (Option Nat)} (ci a k : Nat) (hc : vwCl[ci]? = some (Cn, T, N)) (hLa : La[a]? = some (.inl (ci, fs))) {v : Int} (hf : fs[k]? = some none) (hk : k < N) (hin : ∀ w ∈ u_ws Cn T N, w ∈ Ts) (ty0 : Nat → FieldType) (hty : ∀ k, k < N → parseFieldDescriptor (T k).2.2.1 = some (ty0 k)) (hnm : ∀ a, a < N → ∀ b, b < N → a ≠ b → (T a).2.1 ≠ (T b).2.1) (hlink : (Cond.fieldLink own index (T k).1 (T k).2.1 (T k).2.2.1).before args s = true) (hfin : (T k).2.2.2 = false) (hd : ty0 k = .boolean) (hz : v = 0 ∨ v = 1) (d : decode cc pc = .ok (.putfield index, 3)) (kk : gx_G p l e R s m args below meth c cells slots Q nL D tc ad La A H0 (pc + 3) L st (gx_u M a k v)) : gx_G p l e R s m args below meth c cells slots Q nL D tc ad La A H0 pc L (gx_I v :: gx_R a :: st) M := by
  intro H locs ls hP hS hl
  refine va_put (v := .int (gx_i v)) (ty := .boolean) (gx_hx C) (gx_hb C) (gx_hts C) hin ty0 hty hnm (gx_hown C) (gx_hK C) hP (gx_Dw C M) hS _ (gx_at hLa rfl) hc k hk hlink (fun _ h => h) hfin (by rw [hty k hk, hd]) (gx_nZ hz) (gx_fZ hz) (by simpa using (List.getElem?_eq_some_iff.mp hf).1) d (fun H1 locs1 hP1 _ hS1 => ?_)
  rw [gx_putM hLa hf] at hP1
  exact kk H1 locs1 ls hP1 hS1 hl
theorem gx_getIN (C : gx_C p R s m args meth c cc own nL Ts ret D tc ad La A H0) {Cn : String} {T : u_T} {N index : Nat} {host : String} {fs : List (Option Nat)} (ci a k : Nat) (hc : vwCl[ci]? = some (Cn, T, N)) (hLa : La[a]? = some (.inl (ci, fs))) {v : Int} (hf : fs[k]? = some none) (hk : k < N) (hin : ∀ w ∈ u_ws Cn T N, w ∈ Ts) (hlink : (Cond.fieldLinkNest own index (T k).1 (T k).2.1 (T k).2.2.1 host).before args s = true) (d : decode cc pc = .ok (.getfield index, 3)) (hv : M a k = v) (kk : gx_G p l e R s m args below meth c cells slots Q nL D tc ad La A H0 (pc + 3) L (gx_I v :: st) M) : gx_G p l e R s m args below meth c cells slots Q nL D tc ad La A H0 pc L (gx_R a :: st) M := by
  subst hv
  exact fun H locs ls hP hS hl => va_getN (v := .int (gx_i (M a k))) (gx_hx C) (gx_hb C) (gx_hts C) hin (gx_hown C) (gx_hK C) hP _ (gx_at hLa rfl) hc k hk hlink (fun _ h => h) (gx_mi hf) d (kk H locs ls hP hS hl)
theorem gx_getRN (C : gx_C p R s m args meth c cc own nL Ts ret D tc ad La A H0) {Cn : String} {T : u_T} {N index : Nat} {host : String} {fs : List (Option Nat)} (ci a k : Nat) (hc : vwCl[ci]? = some (Cn, T, N)) (hLa : La[a]? = some (.inl (ci, fs))) {r : Nat} (hf : fs[k]? = some (some r)) (hk : k < N) (hin : ∀ w ∈ u_ws Cn T N, w ∈ Ts) (hlink : (Cond.fieldLinkNest own index (T k).1 (T k).2.1 (T k).2.2.1 host).before args s = true) (d : decode cc pc = .ok (.getfield index, 3)) (kk : gx_G p l e R s m args below meth c cells slots Q nL D tc ad La A H0 (pc + 3) L (gx_R r :: st) M) : gx_G p l e R s m args below meth c cells slots Q nL D tc ad La A H0 pc L (gx_R a :: st) M :=
  fun H locs ls hP hS hl => va_getN (v := .ref (ad r)) (gx_hx C) (gx_hb C) (gx_hts C) hin (gx_hown C) (gx_hK C) hP _ (gx_at hLa rfl) hc k hk hlink (fun _ h => h) (gx_mi hf) d (kk H locs ls hP hS hl)
theorem gx_putIN (C : gx_C p R s m args meth c cc own nL Ts ret D tc ad La A H0) {Cn : String} {T : u_T} {N index : Nat} {host : String} {fs : List (Option Nat)} (ci a k : Nat) (hc : vwCl[ci]? = some (Cn, T, N)) (hLa : La[a]? = some (.inl (ci, fs))) {v : Int} (hf : fs[k]? = some none) (hk : k < N) (hin : ∀ w ∈ u_ws Cn T N, w ∈ Ts) (ty0 : Nat → FieldType) (hty : ∀ k, k < N → parseFieldDescriptor (T k).2.2.1 = some (ty0 k)) (hnm : ∀ a, a < N → ∀ b, b < N → a ≠ b → (T a).2.1 ≠ (T b).2.1) (hlink : (Cond.fieldLinkNest own index (T k).1 (T k).2.1 (T k).2.2.1 host).before args s = true) (hfin : (T k).2.2.2 = false) (hd : ty0 k = .int) (d : decode cc pc = .ok (.putfield index, 3)) (kk : gx_G p l e R s m args below meth c cells slots Q nL D tc ad La A H0 (pc + 3) L st (gx_u M a k v)) : gx_G p l e R s m args below meth c cells slots Q nL D tc ad La A H0 pc L (gx_I v :: gx_R a :: st) M := by
  intro H locs ls hP hS hl
  refine va_putN (v := .int (gx_i v)) (ty := .int) (gx_hx C) (gx_hb C) (gx_hts C) hin ty0 hty hnm (gx_hown C) (gx_hK C) hP (gx_Dw C M) hS _ (gx_at hLa rfl) hc k hk hlink (fun _ h => h) hfin (by rw [hty k hk, hd]) rfl rfl (by simpa using (List.getElem?_eq_some_iff.mp hf).1) d (fun H1 locs1 hP1 _ hS1 => ?_)
  rw [gx_putM hLa hf] at hP1
  exact kk H1 locs1 ls hP1 hS1 hl
theorem gx_putZN (C : gx_C p R s m args meth c cc own nL Ts ret D tc ad La A H0) {Cn : String} {T : u_T} {N index : Nat} {host : String} {fs : List (Option Nat)} (ci a k : Nat) (hc : vwCl[ci]? = some (Cn, T, N)) (hLa : La[a]? = some (.inl (ci, fs))) {v : Int} (hf : fs[k]? = some none) (hk : k < N) (hin : ∀ w ∈ u_ws Cn T N, w ∈ Ts) (ty0 : Nat → FieldType) (hty : ∀ k, k < N → parseFieldDescriptor (T k).2.2.1 = some (ty0 k)) (hnm : ∀ a, a < N → ∀ b, b < N → a ≠ b → (T a).2.1 ≠ (T b).2.1) (hlink : (Cond.fieldLinkNest own index (T k).1 (T k).2.1 (T k).2.2.1 host).before args s = true) (hfin : (T k).2.2.2 = false) (hd : ty0 k = .boolean) (hz : v = 0 ∨ v = 1) (d : decode cc pc = .ok (.putfield index, 3)) (kk : gx_G p l e R s m args below meth c cells slots Q nL D tc ad La A H0 (pc + 3) L st (gx_u M a k v)) : gx_G p l e R s m args below meth c cells slots Q nL D tc ad La A H0 pc L (gx_I v :: gx_R a :: st) M := by
  intro H locs ls hP hS hl
  refine va_putN (v := .int (gx_i v)) (ty := .boolean) (gx_hx C) (gx_hb C) (gx_hts C) hin ty0 hty hnm (gx_hown C) (gx_hK C) hP (gx_Dw C M) hS _ (gx_at hLa rfl) hc k hk hlink (fun _ h => h) hfin (by rw [hty k hk, hd]) (gx_nZ hz) (gx_fZ hz) (by simpa using (List.getElem?_eq_some_iff.mp hf).1) d (fun H1 locs1 hP1 _ hS1 => ?_)
  rw [gx_putM hLa hf] at hP1
  exact kk H1 locs1 ls hP1 hS1 hl
theorem gx_putC (C : gx_C p R s m args meth c cc own nL Ts ret D tc ad La A H0) {Cn : String} {T : u_T} {N index : Nat} {fs : List (Option Nat)} (ci a k : Nat) (hc : vwCl[ci]? = some (Cn, T, N)) (hLa : La[a]? = some (.inl (ci, fs))) {v : Int} (hf : fs[k]? = some none) (hk : k < N) (hin : ∀ w ∈ u_ws Cn T N, w ∈ Ts) (ty0 : Nat → FieldType) (hty : ∀ k, k < N → parseFieldDescriptor (T k).2.2.1 = some (ty0 k)) (hnm : ∀ a, a < N → ∀ b, b < N → a ≠ b → (T a).2.1 ≠ (T b).2.1) (hlink : (Cond.fieldLink own index (T k).1 (T k).2.1 (T k).2.2.1).before args s = true) (hfin : (T k).2.2.2 = false) (hd : ty0 k = .char) (hz : 0 ≤ v ∧ v < 65536) (d : decode cc pc = .ok (.putfield index, 3)) (kk : gx_G p l e R s m args below meth c cells slots Q nL D tc ad La A H0 (pc + 3) L st (gx_u M a k v)) : gx_G p l e R s m args below meth c cells slots Q nL D tc ad La A H0 pc L (gx_I v :: gx_R a :: st) M := by
  intro H locs ls hP hS hl
  have hn : narrow .char (.int (gx_i v)) = .int (gx_i v) := congrArg Value.int (gx_narC hz)
  refine va_put (v := .int (gx_i v)) (ty := .char) (gx_hx C) (gx_hb C) (gx_hts C) hin ty0 hty hnm (gx_hown C) (gx_hK C) hP (gx_Dw C M) hS _ (gx_at hLa rfl) hc k hk hlink (fun _ h => h) hfin (by rw [hty k hk, hd]) hn (gx_fC hz) (by simpa using (List.getElem?_eq_some_iff.mp hf).1) d (fun H1 locs1 hP1 _ hS1 => ?_)
  rw [gx_putM hLa hf] at hP1
  exact kk H1 locs1 ls hP1 hS1 hl
theorem gx_putCN (C : gx_C p R s m args meth c cc own nL Ts ret D tc ad La A H0) {Cn : String} {T : u_T} {N index : Nat} {host : String} {fs : List (Option Nat)} (ci a k : Nat) (hc : vwCl[ci]? = some (Cn, T, N)) (hLa : La[a]? = some (.inl (ci, fs))) {v : Int} (hf : fs[k]? = some none) (hk : k < N) (hin : ∀ w ∈ u_ws Cn T N, w ∈ Ts) (ty0 : Nat → FieldType) (hty : ∀ k, k < N → parseFieldDescriptor (T k).2.2.1 = some (ty0 k)) (hnm : ∀ a, a < N → ∀ b, b < N → a ≠ b → (T a).2.1 ≠ (T b).2.1) (hlink : (Cond.fieldLinkNest own index (T k).1 (T k).2.1 (T k).2.2.1 host).before args s = true) (hfin : (T k).2.2.2 = false) (hd : ty0 k = .char) (hz : 0 ≤ v ∧ v < 65536) (d : decode cc pc = .ok (.putfield index, 3)) (kk : gx_G p l e R s m args below meth c cells slots Q nL D tc ad La A H0 (pc + 3) L st (gx_u M a k v)) : gx_G p l e R s m args below meth c cells slots Q nL D tc ad La A H0 pc L (gx_I v :: gx_R a :: st) M := by
  intro H locs ls hP hS hl
  have hn : narrow .char (.int (gx_i v)) = .int (gx_i v) := congrArg Value.int (gx_narC hz)
  refine va_putN (v := .int (gx_i v)) (ty := .char) (gx_hx C) (gx_hb C) (gx_hts C) hin ty0 hty hnm (gx_hown C) (gx_hK C) hP (gx_Dw C M) hS _ (gx_at hLa rfl) hc k hk hlink (fun _ h => h) hfin (by rw [hty k hk, hd]) hn (gx_fC hz) (by simpa using (List.getElem?_eq_some_iff.mp hf).1) d (fun H1 locs1 hP1 _ hS1 => ?_)
  rw [gx_putM hLa hf] at hP1
  exact kk H1 locs1 ls hP1 hS1 hl
theorem gx_iaload (C : gx_C p R s m args meth c cc own nL Ts ret D tc ad La A H0) {a n b sr : Nat} {i v : Int} (hLa : La[a]? = some (.inr (0, n, b, sr))) (hi : 0 ≤ i ∧ i < n ∧ n < 2147483648) (d : decode cc pc = .ok (.iaload, 1)) (hv : M a i.toNat = v) (kk : gx_G p l e R s m args below meth c cells slots Q nL D tc ad La A H0 (pc + 1) L (gx_I v :: st) M) : gx_G p l e R s m args below meth c cells slots Q nL D tc ad La A H0 pc L (gx_I i :: gx_R a :: st) M := by
  have h3 : gx_3 i := ⟨by omega, by omega⟩
  subst hv
  intro H locs ls hP hS hl
  refine va_iald (f := fun j => gx_i (M a j)) (gx_hx C) (gx_hb C) (gx_hK C) hP _ 0 (gx_at hLa rfl) rfl (gx_in h3 hi.1 hi.2.1) d ?_
  rw [gx_nat h3]
  exact kk H locs ls hP hS hl
theorem gx_caload (C : gx_C p R s m args meth c cc own nL Ts ret D tc ad La A H0) {a n b sr : Nat} {i v : Int} (hLa : La[a]? = some (.inr (1, n, b, sr))) (hi : 0 ≤ i ∧ i < n ∧ n < 2147483648) (d : decode cc pc = .ok (.caload, 1)) (hv : M a i.toNat = v) (kk : gx_G p l e R s m args below meth c cells slots Q nL D tc ad La A H0 (pc + 1) L (gx_I v :: st) M) : gx_G p l e R s m args below meth c cells slots Q nL D tc ad La A H0 pc L (gx_I i :: gx_R a :: st) M := by
  have h3 : gx_3 i := ⟨by omega, by omega⟩
  subst hv
  intro H locs ls hP hS hl
  refine va_cald (f := fun j => gx_i (M a j)) (gx_hx C) (gx_hb C) (gx_hK C) hP _ 1 (gx_at hLa rfl) rfl (gx_in h3 hi.1 hi.2.1) d ?_
  rw [gx_nat h3]
  exact kk H locs ls hP hS hl
theorem gx_baload (C : gx_C p R s m args meth c cc own nL Ts ret D tc ad La A H0) {a n b sr : Nat} {i v : Int} (hLa : La[a]? = some (.inr (2, n, b, sr))) (hi : 0 ≤ i ∧ i < n ∧ n < 2147483648) (d : decode cc pc = .ok (.baload, 1)) (hv : M a i.toNat = v) (kk : gx_G p l e R s m args below meth c cells slots Q nL D tc ad La A H0 (pc + 1) L (gx_I v :: st) M) : gx_G p l e R s m args below meth c cells slots Q nL D tc ad La A H0 pc L (gx_I i :: gx_R a :: st) M := by
  have h3 : gx_3 i := ⟨by omega, by omega⟩
  subst hv
  intro H locs ls hP hS hl
  refine va_zald (f := fun j => gx_i (M a j)) (gx_hx C) (gx_hb C) (gx_hK C) hP _ 2 (gx_at hLa rfl) rfl (gx_in h3 hi.1 hi.2.1) d ?_
  rw [gx_nat h3]
  exact kk H locs ls hP hS hl
theorem gx_iastore (C : gx_C p R s m args meth c cc own nL Ts ret D tc ad La A H0) {a n b sr j : Nat} {i v : Int} (hLa : La[a]? = some (.inr (0, n, b, sr))) (hi : 0 ≤ i ∧ i < n ∧ n < 2147483648) (d : decode cc pc = .ok (.iastore, 1)) (hj : i.toNat = j) (kk : gx_G p l e R s m args below meth c cells slots Q nL D tc ad La A H0 (pc + 1) L st (gx_u M a j v)) : gx_G p l e R s m args below meth c cells slots Q nL D tc ad La A H0 pc L (gx_I v :: gx_I i :: gx_R a :: st) M := by
  have h3 : gx_3 i := ⟨by omega, by omega⟩
  subst hj
  intro H locs ls hP hS hl
  refine va_iast (f := fun j => gx_i (M a j)) (x := gx_i v) (gx_hx C) (gx_hb C) (gx_hK C) hP (gx_Dw C M) hS _ 0 (gx_at hLa rfl) rfl (gx_in h3 hi.1 hi.2.1) d (fun H1 locs1 hP1 _ hS1 => ?_)
  rw [gx_putA hLa (by decide) h3] at hP1
  exact kk H1 locs1 ls hP1 hS1 hl
theorem gx_castore (C : gx_C p R s m args meth c cc own nL Ts ret D tc ad La A H0) {a n b sr j : Nat} {i v : Int} (hLa : La[a]? = some (.inr (1, n, b, sr))) (hi : 0 ≤ i ∧ i < n ∧ n < 2147483648) (hz : 0 ≤ v ∧ v < 65536) (d : decode cc pc = .ok (.castore, 1)) (hj : i.toNat = j) (kk : gx_G p l e R s m args below meth c cells slots Q nL D tc ad La A H0 (pc + 1) L st (gx_u M a j v)) : gx_G p l e R s m args below meth c cells slots Q nL D tc ad La A H0 pc L (gx_I v :: gx_I i :: gx_R a :: st) M := by
  have h3 : gx_3 i := ⟨by omega, by omega⟩
  subst hj
  intro H locs ls hP hS hl
  refine va_cast (f := fun j => gx_i (M a j)) (x := gx_i v) (gx_hx C) (gx_hb C) (gx_hK C) hP (gx_Dw C M) hS _ 1 (gx_at hLa rfl) rfl (gx_in h3 hi.1 hi.2.1) d (fun H1 locs1 hP1 _ hS1 => ?_)
  rw [gx_narC hz] at hP1
  rw [gx_putA hLa (by decide) h3] at hP1
  exact kk H1 locs1 ls hP1 hS1 hl
theorem gx_bastore (C : gx_C p R s m args meth c cc own nL Ts ret D tc ad La A H0) {a n b sr j : Nat} {i v : Int} (hLa : La[a]? = some (.inr (2, n, b, sr))) (hi : 0 ≤ i ∧ i < n ∧ n < 2147483648) (hz : v = 0 ∨ v = 1) (d : decode cc pc = .ok (.bastore, 1)) (hj : i.toNat = j) (kk : gx_G p l e R s m args below meth c cells slots Q nL D tc ad La A H0 (pc + 1) L st (gx_u M a j v)) : gx_G p l e R s m args below meth c cells slots Q nL D tc ad La A H0 pc L (gx_I v :: gx_I i :: gx_R a :: st) M := by
  have h3 : gx_3 i := ⟨by omega, by omega⟩
  subst hj
  intro H locs ls hP hS hl
  refine va_zast (f := fun j => gx_i (M a j)) (x := gx_i v) (gx_hx C) (gx_hb C) (gx_hK C) hP (gx_Dw C M) hS _ 2 (gx_at hLa rfl) rfl (gx_in h3 hi.1 hi.2.1) d (fun H1 locs1 hP1 _ hS1 => ?_)
  rw [gx_narZ hz] at hP1
  rw [gx_putA hLa (by decide) h3] at hP1
  exact kk H1 locs1 ls hP1 hS1 hl
theorem gx_aaload (C : gx_C p R s m args meth c cc own nL Ts ret D tc ad La A H0) {a k n b sr r : Nat} {i : Int} (hLa : La[a]? = some (.inr (k, n, b, sr))) (hk : k = 3 ∨ k = 4 ∨ k = 5) (hi : 0 ≤ i ∧ i < n ∧ n < 2147483648) (d : decode cc pc = .ok (.aaload, 1)) (hr : b + sr * i.toNat = r) (kk : gx_G p l e R s m args below meth c cells slots Q nL D tc ad La A H0 (pc + 1) L (gx_R r :: st) M) : gx_G p l e R s m args below meth c cells slots Q nL D tc ad La A H0 pc L (gx_I i :: gx_R a :: st) M := by
  have h3 : gx_3 i := ⟨by omega, by omega⟩
  subst hr
  intro H locs ls hP hS hl
  obtain ⟨ty, ht, hty⟩ : ∃ ty, (gx_tys tc)[k]? = some (tc k, ty) ∧ ty.isReference = true := by
    rcases hk with rfl | rfl | rfl <;> exact ⟨_, rfl, rfl⟩
  have hcell := hP _ _ (gx_at hLa (gx_ndk (by omega)))
  have e : gx_a ad (M a) k b sr = .inr (.inr (.inr (.inr (fun i => some (ad (b + sr * i)))))) := by
    unfold gx_a
    rw [if_neg (by omega)]
  have hcell : H[ad a]? = some (arrV (tc k) n (fun j => va_rf (some (ad (b + sr * j))))) := by
    have h2 : H[ad a]? = some (vp_cell (tc k) (n, gx_a ad (M a) k b sr)) := hcell
    rw [e] at h2
    exact h2
  refine W.aald (v := .ref (ad (b + sr * i.toNat))) (ty := ty) (gx_hx C) (gx_hb C) hcell (((gx_hK C).2 k _ ht).1 n (fun j => va_rf (some (ad (b + sr * j))))) hty (fun q => by cases q) (by rw [arrV_size]; exact gx_in h3 hi.1 hi.2.1) (by rw [gx_nat h3, arrV_read _ _ (by omega)]; rfl) rfl rfl d ?_
  exact kk H locs ls hP hS hl
theorem gx_alen (C : gx_C p R s m args meth c cc own nL Ts ret D tc ad La A H0) {a k n b sr : Nat} (hLa : La[a]? = some (.inr (k, n, b, sr))) (hk : k < 6) (d : decode cc pc = .ok (.arraylength, 1)) (kk : gx_G p l e R s m args below meth c cells slots Q nL D tc ad La A H0 (pc + 1) L (gx_I n :: st) M) : gx_G p l e R s m args below meth c cells slots Q nL D tc ad La A H0 pc L (gx_R a :: st) M := by
  intro H locs ls hP hS hl
  obtain ⟨ty, ht⟩ : ∃ ty, (gx_tys tc)[k]? = some (tc k, ty) := by
    rcases (show k = 0 ∨ k = 1 ∨ k = 2 ∨ k = 3 ∨ k = 4 ∨ k = 5 by omega) with rfl | rfl | rfl | rfl | rfl | rfl <;> exact ⟨_, rfl⟩
  exact va_alen (v := gx_i n) (gx_hx C) (gx_hb C) (gx_hK C) hP _ k (gx_at hLa (gx_ndk (by omega))) ht rfl d (kk H locs ls hP hS hl)
theorem gx_own (C : gx_C p R s m args meth c cc own nL Ts ret D tc ad La A H0) {H : Heap} {locs : List Loc} (hS : va_S A H0 H locs) {q : Nat} (h : gx_A ad La.length H.size q) : A q := by
  rcases h with ⟨i, hi, rfl⟩ | h
  · exact gx_hA C i hi
  · exact gx_hA0 C q (Nat.le_trans hS.1 h)
theorem gx_callI (C : gx_C p R s m args meth c cc own nL Ts ret D tc ad La A H0) {Cn : String} {index maxL n dd : Nat} {y : MethodName} {bytes : ByteArray} {rt : Option FieldType} {ws : List Cond} {b : Nat} {as rest : List gx_V} {post : Int → gx_M → Prop} {fs : List (Option Nat)} {T : u_T} {N : Nat} (ci : Nat) (hc : vwCl[ci]? = some (Cn, T, N)) (hLa : La[b]? = some (.inl (ci, fs))) (K : gx_Ci La y ws dd (gx_R b :: as) M post) (cw : CallW R s args own Cn index y bytes maxL rt ws (gx_rm dd) 0 0 n) (hn : as.length = n) (hst : st = as.reverse ++ gx_R b :: rest) (hW : (rest.map gx_c2).sum ≤ 8) (hR : cells ≤ R.cells ∧ slots ≤ R.slots) (d : decode cc pc = .ok (.invokevirtual index, 3)) (kk : ∀ z M', post z M' → gx_G p l e R s m args below meth c cells slots Q nL D tc ad La A H0 (pc + 3) L (gx_I z :: rest) M') : gx_G p l e R s m args below meth c cells slots Q nL D tc ad La A H0 pc L st M := by
  intro H locs ls hP hS hl
  subst hst
  refine va_calli (va_runV (b := ad b) (As := as.map (gx_T ad)) (rest := rest.map (gx_T ad)) ⟨gx_hx C, gx_hb C, gx_hml C, gx_hown C, gx_hts C⟩ (K l D tc ad H.size) cw ⟨gx_blind _ D tc ad La H.size M, va_recv (gx_hK C) hP hc (gx_at hLa rfl), fun U hU hW => ⟨rfl, by rw [hU], by rw [hU]; exact hP, va_K.moved hW.alike (gx_hK C), gx_NW.warm hW (gx_hN C), gx_inj C⟩⟩ rfl (by simpa using hn) hl.1 (by show List.map _ _ = _; simp only [List.map_append, List.map_reverse, List.map_cons] <;> rfl) (lv_room (gx_cs hW)) d hR) hS (fun q _ h => gx_own C hS h) (fun q h => gx_own C hS h) (fun r u t H1 locs1 ht hvm hw hB hz1 hk1 hS1 => ?_)
  obtain ⟨z, rfl, hz⟩ := hw
  have hB : va_P D vwCl (gx_w La tc ad u) t.heap := hB
  rw [ht] at hB
  have := kk z u hz H1 locs1 ls hB hS1 hl
  exact this
theorem gx_statI (C : gx_C p R s m args meth c cc own nL Ts ret D tc ad La A H0) {index maxL n dd : Nat} {y : MethodName} {bytes : ByteArray} {rt : Option FieldType} {ws : List Cond} {as rest : List gx_V} {post : Int → gx_M → Prop} (K : gx_Ci La y ws dd as M post) (cw : CallB R s args own index y bytes maxL rt ws (gx_rm dd) 0 0 n ∧ (Cond.static y).before args s = true) (hn : as.length = n) (hst : st = as.reverse ++ rest) (hW : (rest.map gx_c2).sum ≤ 8) (hR : cells ≤ R.cells ∧ slots ≤ R.slots) (d : decode cc pc = .ok (.invokestatic index, 3)) (kk : ∀ z M', post z M' → gx_G p l e R s m args below meth c cells slots Q nL D tc ad La A H0 (pc + 3) L (gx_I z :: rest) M') : gx_G p l e R s m args below meth c cells slots Q nL D tc ad La A H0 pc L st M := by
  intro H locs ls hP hS hl
  subst hst
  refine va_calli (va_runS (As := as.map (gx_T ad)) (rest := rest.map (gx_T ad)) ⟨gx_hx C, gx_hb C, gx_hml C, gx_hown C, gx_hts C⟩ (K l D tc ad H.size) cw ⟨gx_blind _ D tc ad La H.size M, fun U hU hW => ⟨rfl, by rw [hU], by rw [hU]; exact hP, va_K.moved hW.alike (gx_hK C), gx_NW.warm hW (gx_hN C), gx_inj C⟩⟩ rfl (by simpa using hn) hl.1 (by show List.map _ _ = _; simp only [List.map_append, List.map_reverse, List.map_cons] <;> rfl) (lv_room (gx_cs hW)) d hR) hS (fun q _ h => gx_own C hS h) (fun q h => gx_own C hS h) (fun r u t H1 locs1 ht hvm hw hB hz1 hk1 hS1 => ?_)
  obtain ⟨z, rfl, hz⟩ := hw
  have hB : va_P D vwCl (gx_w La tc ad u) t.heap := hB
  rw [ht] at hB
  have := kk z u hz H1 locs1 ls hB hS1 hl
  exact this
theorem gx_callIN (C : gx_C p R s m args meth c cc own nL Ts ret D tc ad La A H0) {Cn : String} {host : String} {index maxL n dd : Nat} {y : MethodName} {bytes : ByteArray} {rt : Option FieldType} {ws : List Cond} {b : Nat} {as rest : List gx_V} {post : Int → gx_M → Prop} {fs : List (Option Nat)} {T : u_T} {N : Nat} (ci : Nat) (hc : vwCl[ci]? = some (Cn, T, N)) (hLa : La[b]? = some (.inl (ci, fs))) (K : gx_Ci La y ws dd (gx_R b :: as) M post) (cw : va_CN R s args own index y host bytes maxL rt ws (gx_rm dd) 0 0 n ∧ (Cond.instanceMethod y).before args s = true ∧ (Cond.selects Cn y y).before args s = true) (hn : as.length = n) (hst : st = as.reverse ++ gx_R b :: rest) (hW : (rest.map gx_c2).sum ≤ 8) (hR : cells ≤ R.cells ∧ slots ≤ R.slots) (d : decode cc pc = .ok (.invokevirtual index, 3)) (kk : ∀ z M', post z M' → gx_G p l e R s m args below meth c cells slots Q nL D tc ad La A H0 (pc + 3) L (gx_I z :: rest) M') : gx_G p l e R s m args below meth c cells slots Q nL D tc ad La A H0 pc L st M := by
  intro H locs ls hP hS hl
  subst hst
  refine va_calli (va_runVN (b := ad b) (As := as.map (gx_T ad)) (rest := rest.map (gx_T ad)) ⟨gx_hx C, gx_hb C, gx_hml C, gx_hown C, gx_hts C⟩ (K l D tc ad H.size) cw ⟨gx_blind _ D tc ad La H.size M, va_recv (gx_hK C) hP hc (gx_at hLa rfl), fun U hU hW => ⟨rfl, by rw [hU], by rw [hU]; exact hP, va_K.moved hW.alike (gx_hK C), gx_NW.warm hW (gx_hN C), gx_inj C⟩⟩ rfl (by simpa using hn) hl.1 (by show List.map _ _ = _; simp only [List.map_append, List.map_reverse, List.map_cons] <;> rfl) (lv_room (gx_cs hW)) d hR) hS (fun q _ h => gx_own C hS h) (fun q h => gx_own C hS h) (fun r u t H1 locs1 ht hvm hw hB hz1 hk1 hS1 => ?_)
  obtain ⟨z, rfl, hz⟩ := hw
  have hB : va_P D vwCl (gx_w La tc ad u) t.heap := hB
  rw [ht] at hB
  have := kk z u hz H1 locs1 ls hB hS1 hl
  exact this
theorem gx_statIN (C : gx_C p R s m args meth c cc own nL Ts ret D tc ad La A H0) {host : String} {index maxL n dd : Nat} {y : MethodName} {bytes : ByteArray} {rt : Option FieldType} {ws : List Cond} {as rest : List gx_V} {post : Int → gx_M → Prop} (K : gx_Ci La y ws dd as M post) (cw : va_CN R s args own index y host bytes maxL rt ws (gx_rm dd) 0 0 n ∧ (Cond.static y).before args s = true ∧ True) (hn : as.length = n) (hst : st = as.reverse ++ rest) (hW : (rest.map gx_c2).sum ≤ 8) (hR : cells ≤ R.cells ∧ slots ≤ R.slots) (d : decode cc pc = .ok (.invokestatic index, 3)) (kk : ∀ z M', post z M' → gx_G p l e R s m args below meth c cells slots Q nL D tc ad La A H0 (pc + 3) L (gx_I z :: rest) M') : gx_G p l e R s m args below meth c cells slots Q nL D tc ad La A H0 pc L st M := by
  intro H locs ls hP hS hl
  subst hst
  refine va_calli (va_runSN (As := as.map (gx_T ad)) (rest := rest.map (gx_T ad)) ⟨gx_hx C, gx_hb C, gx_hml C, gx_hown C, gx_hts C⟩ (K l D tc ad H.size) cw ⟨gx_blind _ D tc ad La H.size M, fun U hU hW => ⟨rfl, by rw [hU], by rw [hU]; exact hP, va_K.moved hW.alike (gx_hK C), gx_NW.warm hW (gx_hN C), gx_inj C⟩⟩ rfl (by simpa using hn) hl.1 (by show List.map _ _ = _; simp only [List.map_append, List.map_reverse, List.map_cons] <;> rfl) (lv_room (gx_cs hW)) d hR) hS (fun q _ h => gx_own C hS h) (fun q h => gx_own C hS h) (fun r u t H1 locs1 ht hvm hw hB hz1 hk1 hS1 => ?_)
  obtain ⟨z, rfl, hz⟩ := hw
  have hB : va_P D vwCl (gx_w La tc ad u) t.heap := hB
  rw [ht] at hB
  have := kk z u hz H1 locs1 ls hB hS1 hl
  exact this
theorem gx_callV (C : gx_C p R s m args meth c cc own nL Ts ret D tc ad La A H0) {Cn : String} {index maxL n dd : Nat} {y : MethodName} {bytes : ByteArray} {rt : Option FieldType} {ws : List Cond} {b : Nat} {as rest : List gx_V} {post : gx_M → Prop} {fs : List (Option Nat)} {T : u_T} {N : Nat} (ci : Nat) (hc : vwCl[ci]? = some (Cn, T, N)) (hLa : La[b]? = some (.inl (ci, fs))) (K : gx_Cv La y ws dd (gx_R b :: as) M post) (cw : CallW R s args own Cn index y bytes maxL rt ws (gx_rm dd) 0 0 n) (hn : as.length = n) (hst : st = as.reverse ++ gx_R b :: rest) (hW : (rest.map gx_c2).sum ≤ 8) (hR : cells ≤ R.cells ∧ slots ≤ R.slots) (d : decode cc pc = .ok (.invokevirtual index, 3)) (kk : ∀ M', post M' → gx_G p l e R s m args below meth c cells slots Q nL D tc ad La A H0 (pc + 3) L rest M') : gx_G p l e R s m args below meth c cells slots Q nL D tc ad La A H0 pc L st M := by
  intro H locs ls hP hS hl
  subst hst
  refine va_callv (va_runV (b := ad b) (As := as.map (gx_T ad)) (rest := rest.map (gx_T ad)) ⟨gx_hx C, gx_hb C, gx_hml C, gx_hown C, gx_hts C⟩ (K l D tc ad H.size) cw ⟨gx_blind _ D tc ad La H.size M, va_recv (gx_hK C) hP hc (gx_at hLa rfl), fun U hU hW => ⟨rfl, by rw [hU], by rw [hU]; exact hP, va_K.moved hW.alike (gx_hK C), gx_NW.warm hW (gx_hN C), gx_inj C⟩⟩ rfl (by simpa using hn) hl.1 (by show List.map _ _ = _; simp only [List.map_append, List.map_reverse, List.map_cons] <;> rfl) (lv_room (gx_cs hW)) d hR) hS (fun q _ h => gx_own C hS h) (fun q h => gx_own C hS h) (fun u t H1 locs1 ht hvm hw hB hz1 hk1 hS1 => ?_)
  have hB : va_P D vwCl (gx_w La tc ad u) t.heap := hB
  rw [ht] at hB
  exact kk u hw H1 locs1 ls hB hS1 hl
theorem gx_statV (C : gx_C p R s m args meth c cc own nL Ts ret D tc ad La A H0) {index maxL n dd : Nat} {y : MethodName} {bytes : ByteArray} {rt : Option FieldType} {ws : List Cond} {as rest : List gx_V} {post : gx_M → Prop} (K : gx_Cv La y ws dd as M post) (cw : CallB R s args own index y bytes maxL rt ws (gx_rm dd) 0 0 n ∧ (Cond.static y).before args s = true) (hn : as.length = n) (hst : st = as.reverse ++ rest) (hW : (rest.map gx_c2).sum ≤ 8) (hR : cells ≤ R.cells ∧ slots ≤ R.slots) (d : decode cc pc = .ok (.invokestatic index, 3)) (kk : ∀ M', post M' → gx_G p l e R s m args below meth c cells slots Q nL D tc ad La A H0 (pc + 3) L rest M') : gx_G p l e R s m args below meth c cells slots Q nL D tc ad La A H0 pc L st M := by
  intro H locs ls hP hS hl
  subst hst
  refine va_callv (va_runS (As := as.map (gx_T ad)) (rest := rest.map (gx_T ad)) ⟨gx_hx C, gx_hb C, gx_hml C, gx_hown C, gx_hts C⟩ (K l D tc ad H.size) cw ⟨gx_blind _ D tc ad La H.size M, fun U hU hW => ⟨rfl, by rw [hU], by rw [hU]; exact hP, va_K.moved hW.alike (gx_hK C), gx_NW.warm hW (gx_hN C), gx_inj C⟩⟩ rfl (by simpa using hn) hl.1 (by show List.map _ _ = _; simp only [List.map_append, List.map_reverse, List.map_cons] <;> rfl) (lv_room (gx_cs hW)) d hR) hS (fun q _ h => gx_own C hS h) (fun q h => gx_own C hS h) (fun u t H1 locs1 ht hvm hw hB hz1 hk1 hS1 => ?_)
  have hB : va_P D vwCl (gx_w La tc ad u) t.heap := hB
  rw [ht] at hB
  exact kk u hw H1 locs1 ls hB hS1 hl
theorem gx_callVN (C : gx_C p R s m args meth c cc own nL Ts ret D tc ad La A H0) {Cn : String} {host : String} {index maxL n dd : Nat} {y : MethodName} {bytes : ByteArray} {rt : Option FieldType} {ws : List Cond} {b : Nat} {as rest : List gx_V} {post : gx_M → Prop} {fs : List (Option Nat)} {T : u_T} {N : Nat} (ci : Nat) (hc : vwCl[ci]? = some (Cn, T, N)) (hLa : La[b]? = some (.inl (ci, fs))) (K : gx_Cv La y ws dd (gx_R b :: as) M post) (cw : va_CN R s args own index y host bytes maxL rt ws (gx_rm dd) 0 0 n ∧ (Cond.instanceMethod y).before args s = true ∧ (Cond.selects Cn y y).before args s = true) (hn : as.length = n) (hst : st = as.reverse ++ gx_R b :: rest) (hW : (rest.map gx_c2).sum ≤ 8) (hR : cells ≤ R.cells ∧ slots ≤ R.slots) (d : decode cc pc = .ok (.invokevirtual index, 3)) (kk : ∀ M', post M' → gx_G p l e R s m args below meth c cells slots Q nL D tc ad La A H0 (pc + 3) L rest M') : gx_G p l e R s m args below meth c cells slots Q nL D tc ad La A H0 pc L st M := by
  intro H locs ls hP hS hl
  subst hst
  refine va_callv (va_runVN (b := ad b) (As := as.map (gx_T ad)) (rest := rest.map (gx_T ad)) ⟨gx_hx C, gx_hb C, gx_hml C, gx_hown C, gx_hts C⟩ (K l D tc ad H.size) cw ⟨gx_blind _ D tc ad La H.size M, va_recv (gx_hK C) hP hc (gx_at hLa rfl), fun U hU hW => ⟨rfl, by rw [hU], by rw [hU]; exact hP, va_K.moved hW.alike (gx_hK C), gx_NW.warm hW (gx_hN C), gx_inj C⟩⟩ rfl (by simpa using hn) hl.1 (by show List.map _ _ = _; simp only [List.map_append, List.map_reverse, List.map_cons] <;> rfl) (lv_room (gx_cs hW)) d hR) hS (fun q _ h => gx_own C hS h) (fun q h => gx_own C hS h) (fun u t H1 locs1 ht hvm hw hB hz1 hk1 hS1 => ?_)
  have hB : va_P D vwCl (gx_w La tc ad u) t.heap := hB
  rw [ht] at hB
  exact kk u hw H1 locs1 ls hB hS1 hl
theorem gx_statVN (C : gx_C p R s m args meth c cc own nL Ts ret D tc ad La A H0) {host : String} {index maxL n dd : Nat} {y : MethodName} {bytes : ByteArray} {rt : Option FieldType} {ws : List Cond} {as rest : List gx_V} {post : gx_M → Prop} (K : gx_Cv La y ws dd as M post) (cw : va_CN R s args own index y host bytes maxL rt ws (gx_rm dd) 0 0 n ∧ (Cond.static y).before args s = true ∧ True) (hn : as.length = n) (hst : st = as.reverse ++ rest) (hW : (rest.map gx_c2).sum ≤ 8) (hR : cells ≤ R.cells ∧ slots ≤ R.slots) (d : decode cc pc = .ok (.invokestatic index, 3)) (kk : ∀ M', post M' → gx_G p l e R s m args below meth c cells slots Q nL D tc ad La A H0 (pc + 3) L rest M') : gx_G p l e R s m args below meth c cells slots Q nL D tc ad La A H0 pc L st M := by
  intro H locs ls hP hS hl
  subst hst
  refine va_callv (va_runSN (As := as.map (gx_T ad)) (rest := rest.map (gx_T ad)) ⟨gx_hx C, gx_hb C, gx_hml C, gx_hown C, gx_hts C⟩ (K l D tc ad H.size) cw ⟨gx_blind _ D tc ad La H.size M, fun U hU hW => ⟨rfl, by rw [hU], by rw [hU]; exact hP, va_K.moved hW.alike (gx_hK C), gx_NW.warm hW (gx_hN C), gx_inj C⟩⟩ rfl (by simpa using hn) hl.1 (by show List.map _ _ = _; simp only [List.map_append, List.map_reverse, List.map_cons] <;> rfl) (lv_room (gx_cs hW)) d hR) hS (fun q _ h => gx_own C hS h) (fun q h => gx_own C hS h) (fun u t H1 locs1 ht hvm hw hB hz1 hk1 hS1 => ?_)
  have hB : va_P D vwCl (gx_w La tc ad u) t.heap := hB
  rw [ht] at hB
  exact kk u hw H1 locs1 ls hB hS1 hl
theorem gx_callR (C : gx_C p R s m args meth c cc own nL Ts ret D tc ad La A H0) {Cn : String} {index maxL n dd : Nat} {y : MethodName} {bytes : ByteArray} {rt : Option FieldType} {ws : List Cond} {b : Nat} {as rest : List gx_V} {post : Nat → gx_M → Prop} {fs : List (Option Nat)} {T : u_T} {N : Nat} (ci : Nat) (hc : vwCl[ci]? = some (Cn, T, N)) (hLa : La[b]? = some (.inl (ci, fs))) (K : gx_Cr La y ws dd (gx_R b :: as) M post) (cw : CallW R s args own Cn index y bytes maxL rt ws (gx_rm dd) 0 0 n) (hn : as.length = n) (hst : st = as.reverse ++ gx_R b :: rest) (hW : (rest.map gx_c2).sum ≤ 8) (hR : cells ≤ R.cells ∧ slots ≤ R.slots) (d : decode cc pc = .ok (.invokevirtual index, 3)) (kk : ∀ b M', post b M' → gx_G p l e R s m args below meth c cells slots Q nL D tc ad La A H0 (pc + 3) L (gx_R b :: rest) M') : gx_G p l e R s m args below meth c cells slots Q nL D tc ad La A H0 pc L st M := by
  intro H locs ls hP hS hl
  subst hst
  refine va_callr (va_runV (b := ad b) (As := as.map (gx_T ad)) (rest := rest.map (gx_T ad)) ⟨gx_hx C, gx_hb C, gx_hml C, gx_hown C, gx_hts C⟩ (K l D tc ad H.size) cw ⟨gx_blind _ D tc ad La H.size M, va_recv (gx_hK C) hP hc (gx_at hLa rfl), fun U hU hW => ⟨rfl, by rw [hU], by rw [hU]; exact hP, va_K.moved hW.alike (gx_hK C), gx_NW.warm hW (gx_hN C), gx_inj C⟩⟩ rfl (by simpa using hn) hl.1 (by show List.map _ _ = _; simp only [List.map_append, List.map_reverse, List.map_cons] <;> rfl) (lv_room (gx_cs hW)) d hR) hS (fun q _ h => gx_own C hS h) (fun q h => gx_own C hS h) (fun u ra t H1 locs1 ht hvm hw hB hz1 hk1 hS1 => ?_)
  obtain ⟨rfl, hB⟩ := hB
  rw [ht] at hB
  exact kk u.1 u.2 hw H1 locs1 ls hB hS1 hl
theorem gx_callRN (C : gx_C p R s m args meth c cc own nL Ts ret D tc ad La A H0) {Cn : String} {host : String} {index maxL n dd : Nat} {y : MethodName} {bytes : ByteArray} {rt : Option FieldType} {ws : List Cond} {b : Nat} {as rest : List gx_V} {post : Nat → gx_M → Prop} {fs : List (Option Nat)} {T : u_T} {N : Nat} (ci : Nat) (hc : vwCl[ci]? = some (Cn, T, N)) (hLa : La[b]? = some (.inl (ci, fs))) (K : gx_Cr La y ws dd (gx_R b :: as) M post) (cw : va_CN R s args own index y host bytes maxL rt ws (gx_rm dd) 0 0 n ∧ (Cond.instanceMethod y).before args s = true ∧ (Cond.selects Cn y y).before args s = true) (hn : as.length = n) (hst : st = as.reverse ++ gx_R b :: rest) (hW : (rest.map gx_c2).sum ≤ 8) (hR : cells ≤ R.cells ∧ slots ≤ R.slots) (d : decode cc pc = .ok (.invokevirtual index, 3)) (kk : ∀ b M', post b M' → gx_G p l e R s m args below meth c cells slots Q nL D tc ad La A H0 (pc + 3) L (gx_R b :: rest) M') : gx_G p l e R s m args below meth c cells slots Q nL D tc ad La A H0 pc L st M := by
  intro H locs ls hP hS hl
  subst hst
  refine va_callr (va_runVN (b := ad b) (As := as.map (gx_T ad)) (rest := rest.map (gx_T ad)) ⟨gx_hx C, gx_hb C, gx_hml C, gx_hown C, gx_hts C⟩ (K l D tc ad H.size) cw ⟨gx_blind _ D tc ad La H.size M, va_recv (gx_hK C) hP hc (gx_at hLa rfl), fun U hU hW => ⟨rfl, by rw [hU], by rw [hU]; exact hP, va_K.moved hW.alike (gx_hK C), gx_NW.warm hW (gx_hN C), gx_inj C⟩⟩ rfl (by simpa using hn) hl.1 (by show List.map _ _ = _; simp only [List.map_append, List.map_reverse, List.map_cons] <;> rfl) (lv_room (gx_cs hW)) d hR) hS (fun q _ h => gx_own C hS h) (fun q h => gx_own C hS h) (fun u ra t H1 locs1 ht hvm hw hB hz1 hk1 hS1 => ?_)
  obtain ⟨rfl, hB⟩ := hB
  rw [ht] at hB
  exact kk u.1 u.2 hw H1 locs1 ls hB hS1 hl
theorem gx_iret (C : gx_C p R s m args meth c cc own nL Ts (some .int) D tc ad La A s.heap) {post : Int → gx_M → Prop} {z : Int} (d : decode cc pc = .ok (.ireturn, 1)) (h : post z M) : gx_G p l e R s m args below meth c 0 0 (MQ below (va_Qi (fun r (M' : gx_M) => ∃ z, r = gx_i z ∧ post z M') (fun M' t => va_P D vwCl (gx_w La tc ad M') t.heap) A) args s 0 0 A) nL D tc ad La A s.heap pc L [gx_I z] M :=
  fun H locs ls hP hS hl => W.iret (v := gx_i z) (gx_hx C) (gx_hb C) (gx_hret C) (fun t ht hW => ⟨⟨gx_i z, M, rfl, ⟨z, rfl, h⟩, gx_ht ht hP⟩, hS.F ht⟩) hS.2.2 d (gx_hlk C)
theorem gx_zret (C : gx_C p R s m args meth c cc own nL Ts (some .boolean) D tc ad La A s.heap) {post : Int → gx_M → Prop} {z : Int} (hz : z = 0 ∨ z = 1) (d : decode cc pc = .ok (.ireturn, 1)) (h : post z M) : gx_G p l e R s m args below meth c 0 0 (MQ below (va_Qi (fun r (M' : gx_M) => ∃ z, r = gx_i z ∧ post z M') (fun M' t => va_P D vwCl (gx_w La tc ad M') t.heap) A) args s 0 0 A) nL D tc ad La A s.heap pc L [gx_I z] M :=
  fun H locs ls hP hS hl => W.zret (v := gx_i z) (ty := .boolean) (gx_hx C) (gx_hb C) (gx_hret C) (gx_nZ hz) (fun t ht hW => ⟨⟨gx_i z, M, rfl, ⟨z, rfl, h⟩, gx_ht ht hP⟩, hS.F ht⟩) hS.2.2 d (gx_hlk C)
theorem gx_vret (C : gx_C p R s m args meth c cc own nL Ts none D tc ad La A s.heap) {post : gx_M → Prop} (d : decode cc pc = .ok (.return_, 1)) (h : post M) : gx_G p l e R s m args below meth c 0 0 (MQ below (va_Qv (fun (M' : gx_M) => post M') (fun M' t => va_P D vwCl (gx_w La tc ad M') t.heap) A) args s 0 0 A) nL D tc ad La A s.heap pc L [] M :=
  fun H locs ls hP hS hl => W.vret (gx_hx C) (gx_hb C) (gx_hret C) (fun t ht hW => ⟨⟨M, rfl, h, gx_ht ht hP⟩, hS.F ht⟩) hS.2.2 d (gx_hlk C)
theorem gx_aret {rt : FieldType} (C : gx_C p R s m args meth c cc own nL Ts (some (.array rt)) D tc ad La A s.heap) {post : Nat → gx_M → Prop} {r : Nat} (d : decode cc pc = .ok (.areturn, 1)) (h : post r M) : gx_G p l e R s m args below meth c 0 0 (MQ below (va_Qr (fun (u : Nat × gx_M) => post u.1 u.2) (fun u q t => q = ad u.1 ∧ va_P D vwCl (gx_w La tc ad u.2) t.heap) A) args s 0 0 A) nL D tc ad La A s.heap pc L [gx_R r] M :=
  fun H locs ls hP hS hl => W.aret (v := .ref (ad r)) (rt := .array rt) (gx_hx C) (gx_hb C) (gx_hret C) (Or.inr ⟨rt, rfl⟩) (Or.inr ⟨ad r, rfl⟩) (fun t ht hW => ⟨⟨(r, M), ad r, rfl, h, rfl, gx_ht ht hP⟩, hS.F ht⟩) hS.2.2 d (gx_hlk C)
end GXD
/-- the locals at a method's entry -/
def gx_x : List gx_V → List gx_V
  | [] => []
  | v :: vs => match v with
    | .inr (.inr (.inl x)) => gx_J x :: gx_U :: gx_x vs
    | v => v :: gx_x vs
def gx_pad (av : List gx_V) (n : Nat) : List gx_V := gx_x av ++ List.replicate (n - (gx_x av).length) gx_U
theorem gx_x_in {ad : Nat → Nat} : ∀ (av : List gx_V) (i k : Nat) (v : gx_V), (gx_x av)[k]? = some v → v ≠ gx_U → (i + k, gx_T ad v) ∈ lv_args i (av.map (gx_T ad))
  | [], _, _, _, h, _ => by simp [gx_x] at h
  | v0 :: vs, i, k, v, h, hv => by
    have one : ∀ (h1 : gx_x (v0 :: vs) = v0 :: gx_x vs) (h2 : ¬ (gx_T ad v0).category = 2), (i + k, gx_T ad v) ∈ lv_args i ((v0 :: vs).map (gx_T ad)) := fun h1 h2 => by
      rw [h1] at h
      show _ ∈ (i, gx_T ad v0) :: lv_args (if (gx_T ad v0).category = 2 then i + 2 else i + 1) (vs.map (gx_T ad))
      rw [if_neg h2]
      match k, h with
      | 0, h =>
        simp at h
        rw [h]
        exact List.mem_cons_self
      | k + 1, h =>
        have := gx_x_in (ad := ad) vs (i + 1) k v (by simpa using h) hv
        rw [show i + 1 + k = i + (k + 1) by omega] at this
        exact List.mem_cons_of_mem _ this
    match v0, one with
    | .inl z, one => exact one rfl (by simp [gx_T, Value.category])
    | .inr (.inl z), one => exact one rfl (by simp [gx_T, Value.category])
    | .inr (.inr (.inr ())), one => exact one rfl (by simp [gx_T, Value.category])
    | .inr (.inr (.inl z)), _ =>
      show _ ∈ (i, Value.long z) :: lv_args (i + 2) (vs.map (gx_T ad))
      match k, h with
      | 0, h =>
        simp [gx_x] at h
        rw [← h]
        exact List.mem_cons_self
      | 1, h =>
        simp [gx_x] at h
        exact absurd h.symm hv
      | k + 2, h =>
        have := gx_x_in (ad := ad) vs (i + 2) k v (by simpa [gx_x] using h) hv
        rw [show i + 2 + k = i + (k + 2) by omega] at this
        exact List.mem_cons_of_mem _ this
theorem gx_x_len {ad : Nat → Nat} : ∀ av : List gx_V, (lg_sl (av.map (gx_T ad))).length = (gx_x av).length
  | [] => rfl
  | v0 :: vs => by
    have ih := gx_x_len (ad := ad) vs
    have hc : lg_sl ((v0 :: vs).map (gx_T ad)) = lg_sl [gx_T ad v0] ++ lg_sl (vs.map (gx_T ad)) := by simp [lg_sl]
    rw [hc, List.length_append, ih]
    match v0 with
    | .inl z => simp [lg_sl, gx_T, gx_x, Value.category]; omega
    | .inr (.inl z) => simp [lg_sl, gx_T, gx_x, Value.category]; omega
    | .inr (.inr (.inr ())) => simp [lg_sl, gx_T, gx_x, Value.category]; omega
    | .inr (.inr (.inl z)) => simp [lg_sl, gx_T, gx_x, Value.category]; omega
theorem gx_begin {ad : Nat → Nat} {av : List gx_V} {n : Nat} (h : (gx_x av).length ≤ n) : lv_has ((lg_sl (av.map (gx_T ad)) ++ List.replicate (n - (lg_sl (av.map (gx_T ad))).length) Slot.unset).toArray) n (gx_l ad 0 (gx_pad av n)) := by
  refine gx_lmono (lv_entry (av.map (gx_T ad)) (n := n) (by rw [gx_x_len]; exact h)) (fun k v hk hv => ?_)
  unfold gx_pad at hk
  by_cases hlt : k < (gx_x av).length
  · rw [List.getElem?_append_left hlt] at hk
    simpa using gx_x_in (ad := ad) av 0 k v hk hv
  · rw [List.getElem?_append_right (by omega), List.getElem?_replicate] at hk
    split at hk
    · exact absurd (Option.some.inj hk).symm hv
    · cases hk
theorem gx_start_i {La : List gx_K} {y : MethodName} {ws ws' : List Cond} {cc : ByteArray} {maxL d : Nat} {av L : List gx_V} {M : gx_M} {post : Int → gx_M → Prop} {own : String} {ret : Option FieldType} (hy : plainName y.cls = true) (hown : y.cls = own) (hw : ws = Cond.code y cc maxL ret :: ws') (hlen : (gx_x av).length ≤ maxL) (hL : gx_pad av maxL = L) (body : ∀ (l : Launch) (D : va_G) (tc : Nat → ClassId) (ad : Nat → Nat) (p : Program) (e : Env) (s : State) (m : MethodId) (args : Array Value) (below : List Frame) (meth : Method) (c : Code), gx_C p (gx_rm d) s m args meth c cc own maxL ws ret D tc ad La (gx_A ad La.length s.heap.size) s.heap → gx_G p l e (gx_rm d) s m args below meth c 0 0 (MQ below (va_Qi (fun r (M' : gx_M) => ∃ z, r = gx_i z ∧ post z M') (fun M' t => va_P D vwCl (gx_w La tc ad M') t.heap) (gx_A ad La.length s.heap.size)) args s 0 0 (gx_A ad La.length s.heap.size)) maxL D tc ad La (gx_A ad La.length s.heap.size) s.heap 0 L [] M) : gx_Ci La y ws d av M post := by
  intro l D tc ad sz
  refine Met.ofW (cc := cc) (maxL := maxL) (ret := ret) hy hw ?_
  intro p e s m args below meth c s₁ B hml hv
  obtain ⟨rfl, rfl, hP, hK, hN, hI⟩ := hv
  subst hL hown
  have hts := atoms_spec (ws := ws) B.pre
  rw [lg_entry_eq]
  exact body l D tc ad p e s m _ below meth c ⟨B.exec, B.bytes, hml, findClass_of_methodNamed B.named, hts, hK, hN, B.notSynchronized, B.returns, hI, fun i hi => Or.inl ⟨i, hi, rfl⟩, fun q h => Or.inr h⟩ s.heap [] _ hP va_S.rf (gx_begin hlen)
theorem gx_start_v {La : List gx_K} {y : MethodName} {ws ws' : List Cond} {cc : ByteArray} {maxL d : Nat} {av L : List gx_V} {M : gx_M} {post : gx_M → Prop} {own : String} {ret : Option FieldType} (hy : plainName y.cls = true) (hown : y.cls = own) (hw : ws = Cond.code y cc maxL ret :: ws') (hlen : (gx_x av).length ≤ maxL) (hL : gx_pad av maxL = L) (body : ∀ (l : Launch) (D : va_G) (tc : Nat → ClassId) (ad : Nat → Nat) (p : Program) (e : Env) (s : State) (m : MethodId) (args : Array Value) (below : List Frame) (meth : Method) (c : Code), gx_C p (gx_rm d) s m args meth c cc own maxL ws ret D tc ad La (gx_A ad La.length s.heap.size) s.heap → gx_G p l e (gx_rm d) s m args below meth c 0 0 (MQ below (va_Qv (fun (M' : gx_M) => post M') (fun M' t => va_P D vwCl (gx_w La tc ad M') t.heap) (gx_A ad La.length s.heap.size)) args s 0 0 (gx_A ad La.length s.heap.size)) maxL D tc ad La (gx_A ad La.length s.heap.size) s.heap 0 L [] M) : gx_Cv La y ws d av M post := by
  intro l D tc ad sz
  refine Met.ofW (cc := cc) (maxL := maxL) (ret := ret) hy hw ?_
  intro p e s m args below meth c s₁ B hml hv
  obtain ⟨rfl, rfl, hP, hK, hN, hI⟩ := hv
  subst hL hown
  have hts := atoms_spec (ws := ws) B.pre
  rw [lg_entry_eq]
  exact body l D tc ad p e s m _ below meth c ⟨B.exec, B.bytes, hml, findClass_of_methodNamed B.named, hts, hK, hN, B.notSynchronized, B.returns, hI, fun i hi => Or.inl ⟨i, hi, rfl⟩, fun q h => Or.inr h⟩ s.heap [] _ hP va_S.rf (gx_begin hlen)
theorem gx_start_r {La : List gx_K} {y : MethodName} {ws ws' : List Cond} {cc : ByteArray} {maxL d : Nat} {av L : List gx_V} {M : gx_M} {post : Nat → gx_M → Prop} {own : String} {ret : Option FieldType} (hy : plainName y.cls = true) (hown : y.cls = own) (hw : ws = Cond.code y cc maxL ret :: ws') (hlen : (gx_x av).length ≤ maxL) (hL : gx_pad av maxL = L) (body : ∀ (l : Launch) (D : va_G) (tc : Nat → ClassId) (ad : Nat → Nat) (p : Program) (e : Env) (s : State) (m : MethodId) (args : Array Value) (below : List Frame) (meth : Method) (c : Code), gx_C p (gx_rm d) s m args meth c cc own maxL ws ret D tc ad La (gx_A ad La.length s.heap.size) s.heap → gx_G p l e (gx_rm d) s m args below meth c 0 0 (MQ below (va_Qr (fun (u : Nat × gx_M) => post u.1 u.2) (fun u q t => q = ad u.1 ∧ va_P D vwCl (gx_w La tc ad u.2) t.heap) (gx_A ad La.length s.heap.size)) args s 0 0 (gx_A ad La.length s.heap.size)) maxL D tc ad La (gx_A ad La.length s.heap.size) s.heap 0 L [] M) : gx_Cr La y ws d av M post := by
  intro l D tc ad sz
  refine Met.ofW (cc := cc) (maxL := maxL) (ret := ret) hy hw ?_
  intro p e s m args below meth c s₁ B hml hv
  obtain ⟨rfl, rfl, hP, hK, hN, hI⟩ := hv
  subst hL hown
  have hts := atoms_spec (ws := ws) B.pre
  rw [lg_entry_eq]
  exact body l D tc ad p e s m _ below meth c ⟨B.exec, B.bytes, hml, findClass_of_methodNamed B.named, hts, hK, hN, B.notSynchronized, B.returns, hI, fun i hi => Or.inl ⟨i, hi, rfl⟩, fun q h => Or.inr h⟩ s.heap [] _ hP va_S.rf (gx_begin hlen)
section GXL
variable {p : Program} {l : Launch} {e : Env} {R : Room} {s : State} {m : MethodId} {args : Array Value} {below : List Frame} {meth : Method} {c : Code} {cells slots : Nat} {Q : State → Prop}
variable {nL : Nat} {D : va_G} {tc : Nat → ClassId} {ad : Nat → Nat} {La : List gx_K} {A : Nat → Prop} {H0 : Heap}
/-- a loop that counts to n -/
theorem gx_for {α : Type} {head : Nat} (n : Nat) (Lf : Nat → α → List gx_V) (Mf : α → gx_M) (Inv : Nat → α → Prop) (k0 : Nat) (a0 : α) (hk : k0 ≤ n) (h0 : Inv k0 a0)
    (step : ∀ k a, k < n → Inv k a → (∀ a', Inv (k + 1) a' → gx_G p l e R s m args below meth c cells slots Q nL D tc ad La A H0 head (Lf (k + 1) a') [] (Mf a')) → gx_G p l e R s m args below meth c cells slots Q nL D tc ad La A H0 head (Lf k a) [] (Mf a))
    (done : ∀ a, Inv n a → gx_G p l e R s m args below meth c cells slots Q nL D tc ad La A H0 head (Lf n a) [] (Mf a)) : gx_G p l e R s m args below meth c cells slots Q nL D tc ad La A H0 head (Lf k0 a0) [] (Mf a0) := by
  have key : ∀ j k a, k + j = n → Inv k a → gx_G p l e R s m args below meth c cells slots Q nL D tc ad La A H0 head (Lf k a) [] (Mf a) := by
    intro j
    induction j with
    | zero =>
      intro k a hj hI
      have : k = n := by omega
      subst this
      exact done a hI
    | succ j ih =>
      intro k a hj hI
      exact step k a (by omega) hI (fun a' hI' => ih (k + 1) a' (by omega) hI')
  exact key (n - k0) k0 a0 (by omega) h0
end GXL
