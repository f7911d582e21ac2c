/-! LITTLE ROWS; methods of the law that are given the script -/
section GYR
variable {p : Program} {l : Launch} {e : Env} {R : Room} {s : State} {m : MethodId} {args : Array Value} {below : List Frame} {meth : Method} {c : Code} {cells slots : Nat} {Q : State → Prop}
variable {cc : ByteArray} {own : String} {nL : Nat} {Ts : List Cond} {ret : Option FieldType} {D : va_G} {tc : Nat → ClassId} {ad : Nat → Nat} {La : List gx_K} {A : Nat → Prop} {H0 : Heap}
variable {pc : Nat} {L st : List gx_V} {M : gx_M}
theorem gx_ldc (C : gx_C p R s m args meth c cc own nL Ts ret D tc ad La A H0) {index : Nat} {v : Int32} {n : Int} (hw : Cond.constant own index v ∈ Ts) (hn : v = gx_i n) (d : decode cc pc = .ok (.ldc index, 2)) (kk : gx_G p l e R s m args below meth c cells slots Q nL D tc ad La A H0 (pc + 2) L (gx_I n :: st) M) : gx_G p l e R s m args below meth c cells slots Q nL D tc ad La A H0 pc L st M := by
  subst hn
  exact fun H locs ls hP hS hl => lv_ldc (gx_hx C) (gx_hb C) (gx_hown C) (gx_hts C _ hw) d (kk H locs ls hP hS hl)
theorem gx_lconst_0 (C : gx_C p R s m args meth c cc own nL Ts ret D tc ad La A H0) (d : decode cc pc = .ok (.lconst 0, 1)) (kk : gx_G p l e R s m args below meth c cells slots Q nL D tc ad La A H0 (pc + 1) L (gx_J (gl_l 0) :: st) M) : gx_G p l e R s m args below meth c cells slots Q nL D tc ad La A H0 pc L st M := by
  refine gx_lconst C d ?_
  have e : Int64.ofNat ((0 : Fin 2) : Nat) = gl_l 0 := by decide
  rw [e]
  exact kk
end GYR
theorem gy_and (x : Int) : ∃ w : Int, gx_i x &&& gx_i 2147483647 = gx_i w ∧ 0 ≤ w ∧ w < 2147483648 := by
  refine ⟨(gx_i x &&& gx_i 2147483647).toInt, (wl_it _).symm, ?_, (wl_3 _).2⟩
  have h : (gx_i x &&& gx_i 2147483647).toBitVec.msb = false := by
    rw [Int32.toBitVec_and, BitVec.msb_and]
    have h1 : (gx_i 2147483647).toBitVec.msb = false := by decide
    rw [h1, Bool.and_false]
  show 0 ≤ (gx_i x &&& gx_i 2147483647).toBitVec.toInt
  rw [BitVec.toInt_eq_toNat_of_msb h]
  omega
/-- what a method that is given the script finds -/
def gy_B (D : va_G) (tc : Nat → ClassId) (ad : Nat → Nat) (La : List gx_K) (sz : Nat) (M : gx_M) (b n : Nat) (xs : Nat → Int32) (U : State) : Prop := gx_B D tc ad La sz M U ∧ va_X b n xs U U.heap ∧ b < sz ∧ ∀ i, i < La.length → ad i ≠ b
theorem gy_blind (av : List Value) (D : va_G) (tc : Nat → ClassId) (ad : Nat → Nat) (La : List gx_K) (sz : Nat) (M : gx_M) (b n : Nat) (xs : Nat → Int32) : FrameBlind (va_Pc av (gy_B D tc ad La sz M b n xs)) := by
  intro a U g mk h
  obtain ⟨h0, h1, h2, h3⟩ := h
  obtain ⟨k0, k1⟩ := gx_blind av D tc ad La sz M a U g mk ⟨h0, h1⟩
  exact ⟨k0, k1, va_X.moved (u := U) (U := U.calling g mk a) (Vm.Alike.refl U.vm) h2, h3⟩
def gy_Ci (La : List gx_K) (y : MethodName) (ws : List Cond) (d : Nat) (b n : Nat) (xs : Nat → Int32) (av : List gx_V) (M : gx_M) (post : Int → gx_M → Prop) : Prop :=
  ∀ (l : Launch) (D : va_G) (tc : Nat → ClassId) (ad : Nat → Nat) (sz : Nat), ad 1000 = b → Met l y ws (gx_rm d) (va_Pc (av.map (gx_T ad)) (gy_B D tc ad La sz M b n xs)) (va_Qi (fun r (M' : gx_M) => ∃ z, r = gx_i z ∧ post z M') (fun M' t => va_P D vwCl (gx_w La tc ad M') t.heap) (gx_A ad La.length sz)) 0 0 (gx_A ad La.length sz)
theorem gy_start {La : List gx_K} {y : MethodName} {ws ws' : List Cond} {cc : ByteArray} {maxL d b n : Nat} {xs : Nat → Int32} {av L : List gx_V} {M : gx_M} {post : Int → gx_M → Prop} {own : String} {ret : Option FieldType} (hy : plainName y.cls = true) (hown : y.cls = own) (hw : ws = Cond.code y cc maxL ret :: ws') (hlen : (gx_x av).length ≤ maxL) (hL : gx_pad av maxL = L) (body : ∀ (l : Launch) (D : va_G) (tc : Nat → ClassId) (ad : Nat → Nat) (p : Program) (e : Env) (s : State) (m : MethodId) (args : Array Value) (below : List Frame) (meth : Method) (c : Code), gx_C p (gx_rm d) s m args meth c cc own maxL ws ret D tc ad La (gx_A ad La.length s.heap.size) s.heap → va_X b n xs s s.heap → b < s.heap.size → ¬ gx_A ad La.length s.heap.size b → ad 1000 = b → gx_G p l e (gx_rm d) s m args below meth c 0 0 (MQ below (va_Qi (fun r (M' : gx_M) => ∃ z, r = gx_i z ∧ post z M') (fun M' t => va_P D vwCl (gx_w La tc ad M') t.heap) (gx_A ad La.length s.heap.size)) args s 0 0 (gx_A ad La.length s.heap.size)) maxL D tc ad La (gx_A ad La.length s.heap.size) s.heap 0 L [] M) : gy_Ci La y ws d b n xs av M post := by
  intro l D tc ad sz had
  refine Met.ofW (cc := cc) (maxL := maxL) (ret := ret) hy hw ?_
  intro p e s m args below meth c s₁ B hml hv
  obtain ⟨rfl, ⟨rfl, hP, hK, hN, hI⟩, hX, hb, hne⟩ := hv
  subst hL hown
  have hts := atoms_spec (ws := ws) B.pre
  rw [lg_entry_eq]
  refine body l D tc ad p e s m _ below meth c ⟨B.exec, B.bytes, hml, findClass_of_methodNamed B.named, hts, hK, hN, B.notSynchronized, B.returns, hI, fun i hi => Or.inl ⟨i, hi, rfl⟩, fun q h => Or.inr h⟩ hX hb ?_ had s.heap [] _ hP va_S.rf (gx_begin hlen)
  rintro (⟨i, hi, h⟩ | h)
  · exact hne i hi h.symm
  · omega
section GYC
variable {p : Program} {l : Launch} {e : Env} {R : Room} {s : State} {m : MethodId} {args : Array Value} {below : List Frame} {meth : Method} {c : Code} {cells slots : Nat} {Q : State → Prop}
variable {cc : ByteArray} {own : String} {nL : Nat} {Ts : List Cond} {ret : Option FieldType} {D : va_G} {tc : Nat → ClassId} {ad : Nat → Nat} {La : List gx_K} {A : Nat → Prop} {H0 : Heap}
variable {pc : Nat} {L st : List gx_V} {M : gx_M}
/-- a method that is given the script is called -/
theorem gy_statI (C : gx_C p R s m args meth c cc own nL Ts ret D tc ad La A H0) {b n' : Nat} {xs : Nat → Int32} (hX : va_X b n' xs s H0) (hbl : b < H0.size) (hbA : ¬ A b) (had : ad 1000 = b) {index maxL n dd : Nat} {y : MethodName} {bytes : ByteArray} {rt : Option FieldType} {ws : List Cond} {as rest : List gx_V} {post : Int → gx_M → Prop} (K : gy_Ci La y ws dd b n' xs as M post) (cw : CallB R s args own index y bytes maxL rt ws (gx_rm dd) 0 0 n ∧ (Cond.static y).before args s = true) (hn : as.length = n) (hst : st = as.reverse ++ rest) (hW : (rest.map gx_c2).sum ≤ 8) (hR : cells ≤ R.cells ∧ slots ≤ R.slots) (d : decode cc pc = .ok (.invokestatic index, 3)) (kk : ∀ z M', post z M' → gx_G p l e R s m args below meth c cells slots Q nL D tc ad La A H0 (pc + 3) L (gx_I z :: rest) M') : gx_G p l e R s m args below meth c cells slots Q nL D tc ad La A H0 pc L st M := by
  intro H locs ls hP hS hl
  subst hst
  refine va_calli (va_runS (As := as.map (gx_T ad)) (rest := rest.map (gx_T ad)) ⟨gx_hx C, gx_hb C, gx_hml C, gx_hown C, gx_hts C⟩ (K l D tc ad H.size had) cw ⟨gy_blind _ D tc ad La H.size M b n' xs, fun U hU hW => ⟨rfl, ⟨by rw [hU], by rw [hU]; exact hP, va_K.moved hW.alike (gx_hK C), gx_NW.warm hW (gx_hN C), gx_inj C⟩, ?_, ?_, ?_⟩⟩ rfl (by simpa using hn) hl.1 (by show List.map _ _ = _; simp only [List.map_append, List.map_reverse, List.map_cons] <;> rfl) (lv_room (gx_cs hW)) d hR) hS (fun q _ h => gx_own C hS h) (fun q h => gx_own C hS h) (fun r u t H1 locs1 ht hvm hw hB hz1 hk1 hS1 => ?_)
  · rw [hU]
    exact va_X.moved hW.alike (hX.kept (hS.2.1 b hbl hbA))
  · exact Nat.lt_of_lt_of_le hbl hS.1
  · intro i hi h
    exact hbA (h ▸ gx_hA C i hi)
  · obtain ⟨z, rfl, hz⟩ := hw
    have hB : va_P D vwCl (gx_w La tc ad u) t.heap := hB
    rw [ht] at hB
    have := kk z u hz H1 locs1 ls hB hS1 hl
    exact this
end GYC
