/-! calls while objects are being made -/
def gn_B (D : va_G) (tc : Nat → ClassId) (ad : Nat → Nat) (A : Nat → Prop) (w : gn_W) (z0 : Nat) (U : State) : Prop :=
  U.heap.size = z0 ∧ gn_H D ad w U.heap ∧ va_K D vwCl (gx_tys tc) U ∧ gx_NW U ∧ gn_O U ∧ gn_a A ad ∧ ∀ q, z0 ≤ q → A q
theorem gn_blind (av : List Value) (D : va_G) (tc : Nat → ClassId) (ad : Nat → Nat) (A : Nat → Prop) (w : gn_W) (z0 : Nat) : FrameBlind (va_Pc av (gn_B D tc ad A w z0)) := by
  intro a U g mk h
  obtain ⟨h0, h1, h2, h3, h4, h5, h6, h7⟩ := h
  exact ⟨h0, h1, h2, va_K.moved (u := U) (U := U.calling g mk a) (Vm.Alike.refl U.vm) h3, gx_NW.same (u := U) rfl h4, gn_O.moved (u := U) (U := U.calling g mk a) (Vm.Alike.refl U.vm) h5, h6, h7⟩
def gn_rm (d mc ms : Nat) : Room := { frames := d, cells := mc, slots := ms, locals := 37 * d }
/-- a constructor: what it finds, what it leaves -/
def gn_I (y : MethodName) (ws : List Cond) (d mc ms this : Nat) (ad : Nat → Nat) (tc : Nat → ClassId) (w w' : gn_W) (z0 : Nat) : Prop :=
  ∀ (l : Launch) (D : va_G) (A : Nat → Prop), Met l y ws (gn_rm d mc ms) (va_Pc [.ref (ad this)] (gn_B D tc ad A w z0)) (va_Qv (fun (_ : Unit) => True) (fun _ t => gn_H D ad w' t.heap) A) mc ms A
theorem gn_start {y : MethodName} {ws ws' : List Cond} {cc : ByteArray} {maxL d mc ms this : Nat} {ad : Nat → Nat} {tc : Nat → ClassId} {w w' : gn_W} {z0 : Nat} {own : String} {L : List gx_V} (hy : plainName y.cls = true) (hown : y.cls = own) (hini : y.name = "<init>") (hw : ws = Cond.code y cc maxL none :: ws') (hlen : 1 ≤ maxL) (hL : gx_pad [gx_R this] maxL = L)
    (body : ∀ (l : Launch) (D : va_G) (A : Nat → Prop) (p : Program) (e : Env) (s : State) (m : MethodId) (args : Array Value) (below : List Frame) (meth : Method) (c : Code), meth.name = "<init>" → gn_C p (gn_rm d mc ms) s m args meth c cc own maxL ws none D tc ad A z0 → gp_G p l e (gn_rm d mc ms) s m args below meth c 0 0 (MQ below (va_Qv (fun (_ : Unit) => True) (fun _ t => gn_H D ad w' t.heap) A) args s mc ms A) maxL ad (gn_P D ad A s.heap w) 0 L []) : gn_I y ws d mc ms this ad tc w w' z0 := by
  intro l D A
  refine Met.ofW (cc := cc) (maxL := maxL) (ret := none) hy hw ?_
  intro p e s m args below meth c s₁ B hml hv
  obtain ⟨rfl, hz, hP, hK, hN, hO, ha, hA⟩ := hv
  subst hL hown
  have hts := atoms_spec (ws := ws) B.pre
  have hname : meth.name = "<init>" := (name_of_methodNamed B.named B.method).1.trans hini
  rw [lg_entry_eq]
  exact body l D A p e s m _ below meth c hname ⟨⟨B.exec, B.bytes, hml, findClass_of_methodNamed B.named, hts, hK, hN, B.notSynchronized, B.returns, fun i _ hi => absurd hi (Nat.not_lt_zero i), fun i hi => absurd hi (Nat.not_lt_zero i), fun q hq => hA q (by rw [← hz]; exact hq)⟩, ha, hO, hz⟩ s.heap [] _ ⟨hP, va_S.rf⟩ (gx_begin (av := [gx_R this]) hlen)
section GPB
variable {p : Program} {l : Launch} {e : Env} {R : Room} {s : State} {m : MethodId} {args : Array Value} {below : List Frame} {meth : Method} {c : Code} {cells slots : Nat} {Q : State → Prop}
variable {cc : ByteArray} {own : String} {nL : Nat} {Ts : List Cond} {ret : Option FieldType} {D : va_G} {tc : Nat → ClassId} {ad : Nat → Nat} {A : Nat → Prop}
variable {pc : Nat} {L st : List gx_V} {w w' : gn_W} {z0 : Nat}
theorem gn_hA (C : gn_C p R s m args meth c cc own nL Ts ret D tc ad A z0) {q : Nat} (h : z0 ≤ q) : A q := gx_hA0 C.1 q (by rw [C.2.2.2]; exact h)
theorem gn_vret (C : gn_C p R s m args meth c cc own nL Ts none D tc ad A z0) (d : decode cc pc = .ok (.return_, 1)) (h : ∀ H, gn_H D ad w H → gn_H D ad w' H) : gp_G p l e R s m args below meth c cells slots (MQ below (va_Qv (fun (_ : Unit) => True) (fun _ t => gn_H D ad w' t.heap) A) args s cells slots A) nL ad (gn_P D ad A s.heap w) pc L [] :=
  fun H locs ls hP hl => W.vret (gx_hx C.1) (gx_hb C.1) (gx_hret C.1) (fun t ht hW => ⟨⟨(), rfl, trivial, by show gn_H D ad w' t.heap; rw [ht]; exact h _ hP.1⟩, hP.2.F ht⟩) hP.2.2.2 d (gx_hlk C.1)
/-- a constructor called -/
theorem gn_call (C : gn_C p R s m args meth c cc own nL Ts ret D tc ad A z0) {index maxL dd mc ms : Nat} {y : MethodName} {bytes : ByteArray} {ws : List Cond} {b : Nat} {rest : List gx_V} (K : gn_I y ws dd mc ms b ad tc w w' (z0 + cells)) (cw : CallB R s args own index y bytes maxL none ws (gn_rm dd mc ms) mc ms 0 ∧ y.name = "<init>" ∧ (Cond.instanceMethod y).before args s = true) (ht : gn_t ad w cells (z0 + cells)) (hW : (rest.map gx_c2).sum ≤ 8) (hR : cells + mc ≤ R.cells ∧ slots + ms ≤ R.slots) (d : decode cc pc = .ok (.invokespecial index, 3)) (kk : gp_G p l e R s m args below meth c (cells + mc) (slots + ms) Q nL ad (gn_P D ad A s.heap w') (pc + 3) L rest) : gp_G p l e R s m args below meth c cells slots Q nL ad (gn_P D ad A s.heap w) pc L (gx_R b :: rest) := by
  intro H locs ls hP hl
  refine gn_szW C hP ht (fun hsz => ?_)
  refine va_callv (va_runI (b := ad b) (As := []) (rest := rest.map (gx_T ad)) ⟨gx_hx C.1, gx_hb C.1, gx_hml C.1, gx_hown C.1, gx_hts C.1⟩ (K l D A) cw ⟨gn_blind _ D tc ad A w (z0 + cells), fun U hU hW => ⟨rfl, by rw [hU]; exact hsz, by rw [hU]; exact hP.1, va_K.moved hW.alike (gx_hK C.1), gx_NW.warm hW (gx_hN C.1), gn_O.moved hW.alike C.2.2.1, C.2.1, fun q hq => gn_hA C (by omega)⟩⟩ rfl rfl hl.1 rfl (lv_room (gx_cs hW)) d hR) hP.2 (fun q _ h => h) (fun q h => h) (fun u t H1 locs1 ht hvm hw hB hz1 hk1 hS1 => ?_)
  have hB : gn_H D ad w' t.heap := hB
  rw [ht] at hB
  exact kk H1 locs1 ls ⟨hB, hS1⟩ hl
/-- a part of the world, laid anew -/
def gn_b (tc : Nat → ClassId) (ad : Nat → Nat) (w : gn_W) (c0 : Nat) (La' : List gx_K) (M' : gx_M) : gn_W := fun c => if c0 ≤ c ∧ c < c0 + La'.length then some (gx_E tc (fun i => ad (c0 + i)) (M' (c - c0)) (La'.getD (c - c0) (.inl (0, [])))) else w c
/-- a method of a finished object called -/
theorem gn_callF (C : gn_C p R s m args meth c cc own nL Ts ret D tc ad A z0) {Cn : String} {T : u_T} {N ci : Nat} {fs : List (Option Nat)} {index maxL dd c0 : Nat} {y : MethodName} {bytes : ByteArray} {ws : List Cond} {rest : List gx_V} {La' : List gx_K} {M : gx_M} {post : gx_M → Prop} {n1 n2 : Int} (hc : vwCl[ci]? = some (Cn, T, N)) (hLa : La'[0]? = some (.inl (ci, fs))) (hnd : La'.all gx_nd = true) (hN : c0 + La'.length ≤ 274)
    (K : gx_Cv La' y ws dd [gx_R 0, gx_I n1, gx_I n2] M post) (hwd : ∀ i k, La'[i]? = some k → w (c0 + i) = some (gx_E tc (fun i => ad (c0 + i)) (M i) k))
    (cw : CallW R s args own Cn index y bytes maxL none ws (gx_rm dd) 0 0 2) (hW : (rest.map gx_c2).sum ≤ 8) (hR : cells ≤ R.cells ∧ slots ≤ R.slots) (d : decode cc pc = .ok (.invokevirtual index, 3)) (kk : ∀ M', post M' → gp_G p l e R s m args below meth c cells slots Q nL ad (gn_P D ad A s.heap (gn_b tc ad w c0 La' M')) (pc + 3) L rest) : gp_G p l e R s m args below meth c cells slots Q nL ad (gn_P D ad A s.heap w) pc L (gx_I n2 :: gx_I n1 :: gx_R c0 :: rest) := by
  intro H locs ls hP hl
  have hz0 := gx_k0_all hnd
  have hP' : va_P D vwCl (gx_w La' tc (fun i => ad (c0 + i)) M) H := fun k q hq => by
    have hk := (gx_of hq).1
    rw [hz0, Nat.zero_add] at hk
    have h2 : La'[k]? = some La'[k] := List.getElem?_eq_getElem hk
    have h9 := gx_at (tc := tc) (ad := fun i => ad (c0 + i)) (M := M) h2 (List.all_eq_true.mp hnd _ (List.getElem_mem _))
    rw [hz0, Nat.sub_zero] at h9
    rw [h9] at hq
    cases hq
    exact (hP.1 _ _ (hwd k _ h2)).2
  have hinj : ∀ i j, i < La'.length → j < La'.length → ad (c0 + i) = ad (c0 + j) → i = j := fun i j hi hj he => by
    have := C.2.1.1 (c0 + i) (c0 + j) (by omega) (by omega) he
    omega
  have hsub : ∀ q, gx_A (fun i => ad (c0 + i)) La'.length H.size q → A q := fun q hq => by
    rcases hq with ⟨i, hi, rfl⟩ | hq
    · exact C.2.1.2 _ (by omega)
    · exact gn_hA C (by have := hP.2.1; rw [C.2.2.2] at this; omega)
  refine va_callv (va_runV (b := ad c0) (As := [.int (gx_i n1), .int (gx_i n2)]) (rest := rest.map (gx_T ad)) ⟨gx_hx C.1, gx_hb C.1, gx_hml C.1, gx_hown C.1, gx_hts C.1⟩ (K l D tc (fun i => ad (c0 + i)) H.size) cw ⟨gx_blind _ D tc (fun i => ad (c0 + i)) La' H.size M, va_recv (gx_hK C.1) hP' hc (gx_at hLa rfl), fun U hU hW => ⟨rfl, by rw [hU], by rw [hU]; exact hP', va_K.moved hW.alike (gx_hK C.1), gx_NW.warm hW (gx_hN C.1), hinj⟩⟩ rfl rfl hl.1 rfl (lv_room (gx_cs hW)) d hR) hP.2 (fun q _ h => hsub q h) (fun q h => hsub q h) (fun u t H1 locs1 ht hvm hw hB hz1 hk1 hS1 => ?_)
  have hB : va_P D vwCl (gx_w La' tc (fun i => ad (c0 + i)) u) t.heap := hB
  rw [ht] at hB
  refine kk u hw H1 locs1 ls ⟨fun c' e' h' => ?_, hS1⟩ hl
  unfold gn_b at h'
  by_cases q : c0 ≤ c' ∧ c' < c0 + La'.length
  · rw [if_pos q] at h'
    cases h'
    have h2 : La'[c' - c0]? = some La'[c' - c0] := List.getElem?_eq_getElem (by omega)
    have h9 := gx_at (tc := tc) (ad := fun i => ad (c0 + i)) (M := u) h2 (List.all_eq_true.mp hnd _ (List.getElem_mem _))
    rw [hz0, Nat.sub_zero] at h9
    have h3 := hB (c' - c0) _ h9
    rw [show c0 + (c' - c0) = c' by omega] at h3
    refine ⟨by omega, ?_⟩
    rw [List.getD_eq_getElem?_getD, h2]
    exact h3
  · rw [if_neg q] at h'
    obtain ⟨a1, a2⟩ := hP.1 c' e' h'
    have hlt : ad c' < H.size := a2.lt
    refine ⟨a1, a2.kept (hk1 _ hlt ?_)⟩
    rintro (⟨i, hi, h⟩ | h)
    · exact q (by have := C.2.1.1 c' (c0 + i) a1 (by omega) h; omega)
    · omega
end GPB
