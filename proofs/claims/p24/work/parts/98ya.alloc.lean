/-! ALLOCATION: while objects are being made, the world is a function from cells to what they hold -/
abbrev gn_W : Type := Nat → Option va_E
theorem gn_Nx : ∃ n : Nat, n = 274 := ⟨274, rfl⟩
noncomputable def gn_N : Nat := Classical.choose gn_Nx
theorem gn_Ne : gn_N = 274 := Classical.choose_spec gn_Nx
def gn_u (w : gn_W) (c : Nat) (e : va_E) : gn_W := fun c' => if c' = c then some e else w c'
set_option maxHeartbeats 300000 in
theorem gn_u_eq (w : gn_W) (c : Nat) (e : va_E) : gn_u w c e c = some e := if_pos rfl
set_option maxHeartbeats 300000 in
theorem gn_u_ne {w : gn_W} {c c' : Nat} {e : va_E} (h : c' ≠ c) : gn_u w c e c' = w c' := if_neg h
def gn_H (D : va_G) (ad : Nat → Nat) (w : gn_W) (H : Heap) : Prop := ∀ c e, w c = some e → c < 274 ∧ va_at D vwCl (ad c, e) H
def gn_P (D : va_G) (ad : Nat → Nat) (A : Nat → Prop) (H0 : Heap) (w : gn_W) : Heap → List Loc → Prop := fun H locs => gn_H D ad w H ∧ va_S A H0 H locs
def gn_a (A : Nat → Prop) (ad : Nat → Nat) : Prop := (∀ i j, i < 274 → j < 274 → ad i = ad j → i = j) ∧ ∀ c, c < 274 → A (ad c)
def gn_O (U : State) : Prop := va_AO "PeirceDesk$State" U ∧ va_AO "PeirceDesk$Frame" U ∧ (Cond.arrayOver (.array .int)).before #[] U = true
set_option maxHeartbeats 300000 in
theorem gn_O3 {u U : State} (hvm : u.vm.Alike U.vm) (h : (Cond.arrayOver (.array .int)).before #[] u = true) : (Cond.arrayOver (.array .int)).before #[] U = true := by
  obtain ⟨comp, c, k, h1, h2, h3, h4, h5⟩ := arrayOverA_spec h
  obtain ⟨k', hk', he⟩ := hvm.2.2 _ _ h3
  have hi : (U.vm.classes.findIdx? fun (x : Class) => match x.kind with | .array component _ => component == comp | _ => false) = some c := by
    have e1 := va_idx_bare U.vm comp
    have e2 := va_idx_bare u.vm comp
    first
      | (rw [hvm.bare_eq] at e1; exact e1.symm.trans (e2.trans h2))
      | (rw [← hvm.bare_eq] at e1; exact e1.symm.trans (e2.trans h2))
  have hkind : k'.kind = .array comp (.array .int) := by rw [he]; exact h4
  have f1 : U.vm.findClass (FieldType.array .int).toString = some comp := by rw [hvm.findClass]; exact h1
  have f2 : U.vm.findClass ("[" ++ (FieldType.array .int).toString) = some c := by rw [hvm.findClass]; exact h5
  unfold Cond.before Cond.holds
  simp only [Cond.value]
  rw [f1, Option.bind_some]
  refine (congrArg (fun o : Option Nat => (o.bind (fun c => (U.vm.classes[c]?).map fun (k : Class) => match k.kind with | .array _ ty => decide (ty = FieldType.array .int) && decide (U.vm.findClass ("[" ++ (FieldType.array .int).toString) = some c) | _ => false) == some true)) hi).trans ?_
  simp [hk', hkind, f2]
set_option maxHeartbeats 300000 in
theorem gn_O.moved {u U : State} (hvm : u.vm.Alike U.vm) (h : gn_O u) : gn_O U := ⟨h.1.moved hvm, h.2.1.moved hvm, gn_O3 hvm h.2.2⟩
/-- the world as a list -/
noncomputable def gn_l (ad : Nat → Nat) (w : gn_W) : va_W := (List.range gn_N).filterMap (fun c => (w c).map (fun e => (ad c, e)))
set_option maxHeartbeats 300000 in
theorem gn_l_mem {ad : Nat → Nat} {w : gn_W} {q : Nat × va_E} : q ∈ gn_l ad w ↔ ∃ c e, c < 274 ∧ w c = some e ∧ q = (ad c, e) := by
  unfold gn_l
  rw [List.mem_filterMap]
  constructor
  · rintro ⟨c, hc, h⟩
    rw [Option.map_eq_some_iff] at h
    obtain ⟨e, h1, h2⟩ := h
    exact ⟨c, e, by have := List.mem_range.mp hc; rwa [gn_Ne] at this, h1, h2.symm⟩
  · rintro ⟨c, e, hc, h1, h2⟩
    exact ⟨c, List.mem_range.mpr (by rw [gn_Ne]; exact hc), by rw [Option.map_eq_some_iff]; exact ⟨e, h1, h2.symm⟩⟩
set_option maxHeartbeats 300000 in
theorem gn_l_at {ad : Nat → Nat} {w : gn_W} {c : Nat} {e : va_E} (hc : c < 274) (h : w c = some e) : ∃ k : Nat, (gn_l ad w)[k]? = some (ad c, e) := List.getElem?_of_mem (gn_l_mem.mpr ⟨c, e, hc, h, rfl⟩)
set_option maxHeartbeats 300000 in
theorem gn_lP {D : va_G} {ad : Nat → Nat} {w : gn_W} {H : Heap} (h : gn_H D ad w H) : va_P D vwCl (gn_l ad w) H := fun k q hq => by
  obtain ⟨c, e, hc, h1, rfl⟩ := gn_l_mem.mp (List.mem_of_getElem? hq)
  exact (h c e h1).2
set_option maxHeartbeats 300000 in
theorem gn_lD {A : Nat → Prop} {ad : Nat → Nat} {w : gn_W} (h : gn_a A ad) : va_D A (gn_l ad w) := by
  have hp : (gn_l ad w).Pairwise (fun x y => x.1 ≠ y.1) := by
    unfold gn_l
    rw [List.pairwise_filterMap]
    refine List.Pairwise.imp_of_mem ?_ (List.pairwise_lt_range (n := gn_N))
    intro i j hi hj hij x hx y hy he
    rw [Option.map_eq_some_iff] at hx hy
    obtain ⟨e1, -, rfl⟩ := hx
    obtain ⟨e2, -, rfl⟩ := hy
    have hi := List.mem_range.mp hi
    have hj := List.mem_range.mp hj
    rw [gn_Ne] at hi hj
    have := h.1 i j hi hj he
    omega
  refine ⟨fun i j x y hi hj he => ?_, fun k q hq => ?_⟩
  · rw [List.pairwise_iff_getElem] at hp
    obtain ⟨hi', e1⟩ := List.getElem?_eq_some_iff.mp hi
    obtain ⟨hj', e2⟩ := List.getElem?_eq_some_iff.mp hj
    rcases Nat.lt_trichotomy i j with hlt | rfl | hlt
    · exact absurd (by rw [e1, e2]; exact he) (hp i j hi' hj' hlt)
    · rfl
    · exact absurd (by rw [e1, e2]; exact he.symm) (hp j i hj' hi' hlt)
  · obtain ⟨c, e, hc, -, rfl⟩ := gn_l_mem.mp (List.mem_of_getElem? hq)
    exact h.2 c hc
set_option maxHeartbeats 300000 in
theorem gn_lset {A : Nat → Prop} {D : va_G} {ad : Nat → Nat} {w : gn_W} {H H1 : Heap} {q0 c : Nat} {e0 e1 : va_E} (ha : gn_a A ad) (hP : gn_H D ad w H) (hc : w c = some e0) (hq : (gn_l ad w)[q0]? = some (ad c, e0)) (h : va_P D vwCl ((gn_l ad w).set q0 (ad c, e1)) H1) : gn_H D ad (gn_u w c e1) H1 := by
  have hc3 := (hP c e0 hc).1
  intro c' e h'
  by_cases q : c' = c
  · subst q
    rw [gn_u_eq] at h'
    cases h'
    exact ⟨hc3, h q0 _ (List.getElem?_set_self (List.getElem?_eq_some_iff.mp hq).1)⟩
  · rw [gn_u_ne q] at h'
    have hc' := (hP c' e h').1
    obtain ⟨k, hk⟩ := gn_l_at (ad := ad) hc' h'
    refine ⟨hc', h k _ ?_⟩
    rw [List.getElem?_set_ne ?_]
    · exact hk
    · intro e9
      subst e9
      rw [hq] at hk
      have : ad c = ad c' := (Prod.mk.inj (Option.some.inj hk)).1
      exact q (ha.1 c' c hc' hc3 this.symm)
/-- what stands throughout -/
def gn_C (p : Program) (R : Room) (s : State) (m : MethodId) (args : Array Value) (meth : Method) (c : Code) (cc : ByteArray) (own : String) (nL : Nat) (Ts : List Cond) (ret : Option FieldType) (D : va_G) (tc : Nat → ClassId) (ad : Nat → Nat) (A : Nat → Prop) (z0 : Nat) : Prop :=
  gx_C p R s m args meth c cc own nL Ts ret D tc ad [] A s.heap ∧ gn_a A ad ∧ gn_O s ∧ s.heap.size = z0
def gp_G (p : Program) (l : Launch) (e : Env) (R : Room) (s : State) (m : MethodId) (args : Array Value) (below : List Frame) (meth : Method) (c : Code) (cells slots : Nat) (Q : State → Prop) (nL : Nat) (ad : Nat → Nat) (P : Heap → List Loc → Prop) (pc : Nat) (L st : List gx_V) : Prop :=
  ∀ (H : Heap) (locs : List Loc) (ls : Array Slot), P H locs → lv_has ls nL (gx_l ad 0 L) → W p l e R s m args below meth c H locs cells slots Q (F0 m pc ls (st.map (gx_T ad)))
section GPA
variable {p : Program} {l : Launch} {e : Env} {R : Room} {s : State} {m : MethodId} {args : Array Value} {below : List Frame} {meth : Method} {c : Code} {cells slots : Nat} {Q : State → Prop}
variable {cc : ByteArray} {own : String} {nL : Nat} {Ts : List Cond} {ret : Option FieldType} {D : va_G} {tc : Nat → ClassId} {ad : Nat → Nat} {La : List gx_K} {A : Nat → Prop} {H0 : Heap}
variable {pc : Nat} {L st : List gx_V} {P : Heap → List Loc → Prop}
set_option maxHeartbeats 300000 in
theorem gp_iconst (C : gx_C p R s m args meth c cc own nL Ts ret D tc ad La A H0) {n : Int} (d : decode cc pc = .ok (.iconst n, 1)) (k : gp_G p l e R s m args below meth c cells slots Q nL ad P (pc + 1) L (gx_I n :: st)) : gp_G p l e R s m args below meth c cells slots Q nL ad P pc L st :=
  fun H locs ls hP hl => lv_iconst (v := gx_i n) (gx_hx C) (gx_hb C) d rfl (k H locs ls hP hl)
set_option maxHeartbeats 300000 in
theorem gp_bipush (C : gx_C p R s m args meth c cc own nL Ts ret D tc ad La A H0) {n : Int} (d : decode cc pc = .ok (.bipush n, 2)) (hn : (Int8.ofInt n).toInt32 = gx_i n) (k : gp_G p l e R s m args below meth c cells slots Q nL ad P (pc + 2) L (gx_I n :: st)) : gp_G p l e R s m args below meth c cells slots Q nL ad P pc L st :=
  fun H locs ls hP hl => lv_bipush (v := gx_i n) (gx_hx C) (gx_hb C) d hn (k H locs ls hP hl)
set_option maxHeartbeats 300000 in
theorem gp_sipush (C : gx_C p R s m args meth c cc own nL Ts ret D tc ad La A H0) {n : Int} (d : decode cc pc = .ok (.sipush n, 3)) (hn : (Int16.ofInt n).toInt32 = gx_i n) (k : gp_G p l e R s m args below meth c cells slots Q nL ad P (pc + 3) L (gx_I n :: st)) : gp_G p l e R s m args below meth c cells slots Q nL ad P pc L st :=
  fun H locs ls hP hl => lv_sipush (v := gx_i n) (gx_hx C) (gx_hb C) d hn (k H locs ls hP hl)
set_option maxHeartbeats 300000 in
theorem gp_iload_n (C : gx_C p R s m args meth c cc own nL Ts ret D tc ad La A H0) {i : Fin 4} {z : Int} (d : decode cc pc = .ok (.iload_n i, 1)) (h : L[(i : Nat)]? = some (gx_I z)) (k : gp_G p l e R s m args below meth c cells slots Q nL ad P (pc + 1) L (gx_I z :: st)) : gp_G p l e R s m args below meth c cells slots Q nL ad P pc L st :=
  fun H locs ls hP hl => lv_iload_n (x := gx_i z) (gx_hx C) (gx_hb C) d rfl (gx_lat hl h (by simp)) (k H locs ls hP hl)
set_option maxHeartbeats 300000 in
theorem gp_aload_n (C : gx_C p R s m args meth c cc own nL Ts ret D tc ad La A H0) {i : Fin 4} {z : Nat} (d : decode cc pc = .ok (.aload_n i, 1)) (h : L[(i : Nat)]? = some (gx_R z)) (k : gp_G p l e R s m args below meth c cells slots Q nL ad P (pc + 1) L (gx_R z :: st)) : gp_G p l e R s m args below meth c cells slots Q nL ad P pc L st :=
  fun H locs ls hP hl => lv_aload_n (x := ad z) (gx_hx C) (gx_hb C) d rfl (gx_lat hl h (by simp)) (k H locs ls hP hl)
set_option maxHeartbeats 300000 in
theorem gp_istore_n (C : gx_C p R s m args meth c cc own nL Ts ret D tc ad La A H0) {i : Fin 4} {z : Int} (d : decode cc pc = .ok (.istore_n i, 1)) (hn : (i : Nat) < nL) (hok : gx_ok L (i : Nat) = true) (k : gp_G p l e R s m args below meth c cells slots Q nL ad P (pc + 1) (L.set (i : Nat) (gx_I z)) st) : gp_G p l e R s m args below meth c cells slots Q nL ad P pc L (gx_I z :: st) :=
  fun H locs ls hP hl => lv_istore_n (x := gx_i z) (gx_hx C) (gx_hb C) d rfl hl hn rfl (fun ls' hl' => k H locs ls' hP (gx_lset (v := gx_I z) hok hl'))
set_option maxHeartbeats 300000 in
theorem gp_iinc (C : gx_C p R s m args meth c cc own nL Ts ret D tc ad La A H0) {i : Nat} {n z : Int} (d : decode cc pc = .ok (.iinc i n, 3)) (hn : i < nL) (hok : gx_ok L i = true) (h : L[i]? = some (gx_I z)) (k : gp_G p l e R s m args below meth c cells slots Q nL ad P (pc + 3) (L.set i (gx_I (z + n))) st) : gp_G p l e R s m args below meth c cells slots Q nL ad P pc L st := by
  intro H locs ls hP hl
  obtain ⟨k9, hk9⟩ := List.getElem?_of_mem (gx_l_in (ad := ad) L 0 i _ h (by simp))
  rw [Nat.zero_add] at hk9
  exact lv_iinc (x := gx_i z) (v := gx_i (z + n)) (gx_hx C) (gx_hb C) d hl hk9 (gx_add z n) hn rfl (fun ls' hl' => k H locs ls' hP (gx_lset (v := gx_I (z + n)) hok hl'))
set_option maxHeartbeats 300000 in
theorem gp_goto (C : gx_C p R s m args meth c cc own nL Ts ret D tc ad La A H0) {off : Int} {tgt : Nat} (d : decode cc pc = .ok (.goto off, 3)) (ht : (pc : Int) + off = (tgt : Int)) (k : gp_G p l e R s m args below meth c cells slots Q nL ad P tgt L st) : gp_G p l e R s m args below meth c cells slots Q nL ad P pc L st :=
  fun H locs ls hP hl => lv_goto (gx_hx C) (gx_hb C) d ht (k H locs ls hP hl)
set_option maxHeartbeats 300000 in
theorem gp_dup (C : gx_C p R s m args meth c cc own nL Ts ret D tc ad La A H0) {v : gx_V} (d : decode cc pc = .ok (.dup, 1)) (hv : gx_ok [v] 1 = true) (k : gp_G p l e R s m args below meth c cells slots Q nL ad P (pc + 1) L (v :: v :: st)) : gp_G p l e R s m args below meth c cells slots Q nL ad P pc L (v :: st) :=
  fun H locs ls hP hl => lv_dup (va := gx_T ad v) (gx_hx C) (gx_hb C) d (by match v, hv with | .inl z, _ => rfl | .inr (.inl z), _ => rfl | .inr (.inr (.inr z)), _ => rfl) (k H locs ls hP hl)
set_option maxHeartbeats 300000 in
theorem gp_icmp_ge (C : gx_C p R s m args meth c cc own nL Ts ret D tc ad La A H0) {x y off : Int} {tgt : Nat} (d : decode cc pc = .ok (.if_icmp .ge off, 3)) (ht : (pc : Int) + off = (tgt : Int)) (hx : gx_3 x) (hy : gx_3 y) (kt : y ≤ x → gp_G p l e R s m args below meth c cells slots Q nL ad P tgt L st) (kf : ¬ (y ≤ x) → gp_G p l e R s m args below meth c cells slots Q nL ad P (pc + 3) L st) : gp_G p l e R s m args below meth c cells slots Q nL ad P pc L (gx_I y :: gx_I x :: st) := by
  intro H locs ls hP hl
  refine lv_icmp_ge (gx_hx C) (gx_hb C) d ht (fun h => kt ?_ H locs ls hP hl) (fun h => kf ?_ H locs ls hP hl)
  · first | exact (gx_le hy hx).mp h | exact (gx_le hy hx).mp (by simpa using h)
  · first | exact fun q => h ((gx_le hy hx).mpr q) | exact fun q => h (by simpa using (gx_le hy hx).mpr q)
set_option maxHeartbeats 300000 in
theorem gp_weak {L' : List gx_V} (hs : gx_sub' L' L) (k : gp_G p l e R s m args below meth c cells slots Q nL ad P pc L' st) : gp_G p l e R s m args below meth c cells slots Q nL ad P pc L st := fun H locs ls hP hl => k H locs ls hP (gx_lsub hs hl)
variable {w : gn_W} {z0 : Nat}
/-- how large the heap is -/
def gn_t (ad : Nat → Nat) (w : gn_W) (cells z : Nat) : Prop := cells = 0 ∨ ∃ k e, w k = some e ∧ ad k + 1 = z
set_option maxHeartbeats 300000 in
theorem gn_sz (C : gn_C p R s m args meth c cc own nL Ts ret D tc ad A z0) {H : Heap} {locs : List Loc} {T : State} (hP : gn_P D ad A s.heap w H locs) (hT : T.heap = H) (X : Stand p l e R s m args below meth c T locs cells slots) (ht : gn_t ad w cells (z0 + cells)) : H.size = z0 + cells := by
  have h1 := X.heapSize
  rw [hT, C.2.2.2] at h1
  rcases ht with h | ⟨k, e, h, hk⟩
  · have := hP.2.1
    rw [C.2.2.2] at this
    omega
  · have := ((hP.1 k e h).2).lt
    have : ad k < H.size := this
    omega
theorem gn_szW (C : gn_C p R s m args meth c cc own nL Ts ret D tc ad A z0) {H : Heap} {locs : List Loc} {g : JFrame} (hP : gn_P D ad A s.heap w H locs) (ht : gn_t ad w cells (z0 + cells)) (k : H.size = z0 + cells → W p l e R s m args below meth c H locs cells slots Q g) : W p l e R s m args below meth c H locs cells slots Q g := fun T hT X => k (gn_sz C hP hT X ht) T hT X
set_option maxHeartbeats 300000 in
theorem gn_get (C : gn_C p R s m args meth c cc own nL Ts ret D tc ad A z0) {Cn : String} {T : u_T} {N index : Nat} {fs : List Value} (ci a k : Nat) (hc : vwCl[ci]? = some (Cn, T, N)) (hw : w a = some (.inr (ci, fs))) {v : gx_V} (hf : fs[k]? = some (gx_T ad v)) (hk : k < N) (hin : ∀ w ∈ u_ws Cn T N, w ∈ Ts) (hlink : (Cond.fieldLink own index (T k).1 (T k).2.1 (T k).2.2.1).before args s = true) (d : decode cc pc = .ok (.getfield index, 3)) (kk : gp_G p l e R s m args below meth c cells slots Q nL ad (gn_P D ad A s.heap w) (pc + 3) L (v :: st)) : gp_G p l e R s m args below meth c cells slots Q nL ad (gn_P D ad A s.heap w) pc L (gx_R a :: st) := by
  intro H locs ls hP hl
  obtain ⟨q0, he⟩ := gn_l_at (ad := ad) (hP.1 a _ hw).1 hw
  exact va_get (v := gx_T ad v) (gx_hx C.1) (gx_hb C.1) (gx_hts C.1) hin (gx_hown C.1) (gx_hK C.1) (gn_lP hP.1) q0 he hc k hk hlink (fun _ h => h) hf d (kk H locs ls hP hl)
set_option maxHeartbeats 300000 in
theorem gn_putF (C : gn_C p R s m args meth c cc own nL Ts ret D tc ad A z0) {T : u_T} {N index : Nat} {fs : List Value} (ci a k r : Nat) (hc : vwCl[ci]? = some (own, T, N)) (hw : w a = some (.inr (ci, fs))) (hk : k < N) (hl : k < fs.length) (hin : ∀ w ∈ u_ws own T N, w ∈ Ts) (ty0 : Nat → FieldType) (hty : ∀ k, k < N → parseFieldDescriptor (T k).2.2.1 = some (ty0 k)) (hnm : ∀ a, a < N → ∀ b, b < N → a ≠ b → (T a).2.1 ≠ (T b).2.1) (hlink : (Cond.fieldLink own index own (T k).2.1 (T k).2.2.1).before args s = true) (hfin : (T k).2.2.2 = true) (hdecl : (T k).1 = own) (hini : meth.name = "<init>") (hfit : ∀ x, narrow (ty0 k) (.ref x) = .ref x ∧ fits (ty0 k) (.ref x) = true) (d : decode cc pc = .ok (.putfield index, 3)) (kk : gp_G p l e R s m args below meth c cells slots Q nL ad (gn_P D ad A s.heap (gn_u w a (.inr (ci, fs.set k (.ref (ad r)))))) (pc + 3) L st) : gp_G p l e R s m args below meth c cells slots Q nL ad (gn_P D ad A s.heap w) pc L (gx_R r :: gx_R a :: st) := by
  intro H locs ls hP hls
  obtain ⟨q0, he⟩ := gn_l_at (ad := ad) (hP.1 a _ hw).1 hw
  refine va_putF (v := .ref (ad r)) (gx_hx C.1) (gx_hb C.1) (gx_hts C.1) hin ty0 hty hnm (gx_hown C.1) (gx_hK C.1) (gn_lP hP.1) (gn_lD C.2.1) hP.2 q0 he hc k hk hlink (fun x hx => by rw [hdecl] at hx; exact hx) hfin hini hdecl (hty k hk) (hfit _).1 (hfit _).2 hl d (fun H1 locs1 h1 _ h3 => ?_)
  exact kk H1 locs1 ls ⟨gn_lset C.2.1 hP.1 hw he h1, h3⟩ hls
set_option maxHeartbeats 300000 in
theorem gn_new (C : gn_C p R s m args meth c cc own nL Ts ret D tc ad A z0) {Cn : String} {T : u_T} {N index k : Nat} (ci : Nat) (ty : Nat → FieldType) (hc : vwCl[ci]? = some (Cn, T, N)) (hin : ∀ x ∈ u_ws Cn T N, x ∈ Ts) (hty : ∀ j, j < N → parseFieldDescriptor (T j).2.2.1 = some (ty j)) (hcl : Cond.classLink own index Cn ∈ Ts) (hi : Cond.instantiable Cn N ∈ Ts) (hini : Cond.initialized Cn ∈ Ts) {fs : List Value} (hfs : ∀ j, j < N → defaultValue (ty j) = vp_V fs j) (hk : k < 274) (hz : ad k = z0 + cells) (ht : gn_t ad w cells (z0 + cells)) (hR : cells + 1 ≤ R.cells ∧ slots + N ≤ R.slots) (d : decode cc pc = .ok (.new index, 3)) (kk : gp_G p l e R s m args below meth c (cells + 1) (slots + N) Q nL ad (gn_P D ad A s.heap (gn_u w k (.inr (ci, fs)))) (pc + 3) L (gx_R k :: st)) : gp_G p l e R s m args below meth c cells slots Q nL ad (gn_P D ad A s.heap w) pc L st := by
  intro H locs ls hP hl
  refine gn_szW C hP ht (fun hsz => ?_)
  rw [← hz] at hsz
  have hKn := (gx_hK C.1).1 ci _ hc
  refine W.newcK (gx_hx C.1) (gx_hb C.1) (gx_hown C.1) (gx_hts C.1 _ hcl) (gx_hts C.1 _ hi) (gx_hts C.1 _ hini) rfl d hR.1 hR.2 hKn.2.1 hsz (fun H1 kC hkC e1 z1 o1 => ?_)
  refine kk H1 locs ls ⟨fun c' e' h' => ?_, ⟨Nat.le_trans hP.2.1 (by omega), fun x h1 h2 => (o1 x (by have := hP.2.1; omega)).trans (hP.2.2.1 x h1 h2), hP.2.2.2⟩⟩ hl
  by_cases q : c' = k
  · subst q
    rw [gn_u_eq] at h'
    cases h'
    exact ⟨hk, _, hc, (u_born ty (gx_hts C.1) hin hKn hkC e1 hty).to hfs⟩
  · rw [gn_u_ne q] at h'
    obtain ⟨a1, a2⟩ := hP.1 c' e' h'
    exact ⟨a1, a2.kept (o1 _ (by have : ad c' < H.size := a2.lt; show ad c' < ad k; omega))⟩
set_option maxHeartbeats 300000 in
theorem gn_born {A : Nat → Prop} {H H1 : Heap} {locs : List Loc} {k : Nat} {e1 : va_E} (hP : gn_P D ad A s.heap w H locs) (hk : k < 274) (hsz : H.size = ad k) (h1 : va_at D vwCl (ad k, e1) H1) (z1 : H1.size = ad k + 1) (o1 : ∀ q, q < ad k → H1[q]? = H[q]?) : gn_P D ad A s.heap (gn_u w k e1) H1 locs := by
  refine ⟨fun c' e' h' => ?_, ⟨Nat.le_trans hP.2.1 (by omega), fun x h1 h2 => (o1 x (by have := hP.2.1; omega)).trans (hP.2.2.1 x h1 h2), hP.2.2.2⟩⟩
  by_cases q : c' = k
  · subst q
    rw [gn_u_eq] at h'
    cases h'
    exact ⟨hk, h1⟩
  · rw [gn_u_ne q] at h'
    obtain ⟨a1, a2⟩ := hP.1 c' e' h'
    exact ⟨a1, a2.kept (o1 _ (by have : ad c' < H.size := a2.lt; show ad c' < ad k; omega))⟩
set_option maxHeartbeats 300000 in
/-- an array of numbers -/
theorem gn_newa (C : gn_C p R s m args meth c cc own nL Ts ret D tc ad A z0) {atype : ArrayType} {k : Nat} (ka : Nat) (harr : Cond.arrayClass (newarray.typeOf atype) ∈ Ts) (htc : (gx_tys tc)[ka]? = some (tc ka, newarray.typeOf atype)) (hdv : defaultValue (newarray.typeOf atype) = .int (gx_i 0)) {n : Int} {N : Nat} (hn : n = N) (hN : N ≤ 10000) (hb : componentBytes (newarray.typeOf atype) ≤ 8) (hk : k < 274) (hz : ad k = z0 + cells) (ht : gn_t ad w cells (z0 + cells)) (hR : cells + 1 ≤ R.cells ∧ slots + N ≤ R.slots) (d : decode cc pc = .ok (.newarray atype, 2)) (kk : gp_G p l e R s m args below meth c (cells + 1) (slots + N) Q nL ad (gn_P D ad A s.heap (gn_u w k (.inl (tc ka, N, .inl (fun _ => gx_i 0))))) (pc + 2) L (gx_R k :: st)) : gp_G p l e R s m args below meth c cells slots Q nL ad (gn_P D ad A s.heap w) pc L (gx_I n :: st) := by
  subst hn
  intro H locs ls hP hl
  refine gn_szW C hP ht (fun hsz => ?_)
  rw [← hz] at hsz
  have h3 : gx_3 (N : Int) := ⟨by omega, by omega⟩
  refine va_newaK (gx_hx C.1) (gx_hb C.1) (gx_hts C.1 _ harr) rfl d rfl (fun q => absurd ((gx_lt (y := 0) h3 gx_30).mp q) (by omega)) (N := N) (by rw [gx_nat h3]; omega) (by have : N * componentBytes (newarray.typeOf atype) ≤ 10000 * 8 := Nat.mul_le_mul hN hb; omega) hR.1 hR.2 hsz (fun H1 cA e1 z1 o1 hAr hNm => ?_)
  have hcA : cA = tc ka := by
    have h2 := ((gx_hK C.1).2 ka _ htc).2
    have h2' : s.vm.findClass ("[" ++ (newarray.typeOf atype).toString) = some (tc ka) := by cases atype <;> exact h2
    exact Option.some.inj (hNm.symm.trans h2')
  subst hcA
  refine kk H1 locs ls (gn_born hP hk hsz ?_ z1 o1) hl
  show H1[ad k]? = some (vp_cell (tc ka) (N, .inl (fun _ => gx_i 0)))
  rw [vp_cell_i, e1, hdv]
set_option maxHeartbeats 300000 in
/-- an array of objects -/
theorem gn_anew (C : gn_C p R s m args meth c cc own nL Ts ret D tc ad A z0) {Cn : String} {index k : Nat} (ka : Nat) (hcl : Cond.classLink own index Cn ∈ Ts) (hO : va_AO Cn s) (htc : (gx_tys tc)[ka]? = some (tc ka, .object Cn)) {n : Int} {N : Nat} (hn : n = N) (hN : N ≤ 10000) (hk : k < 274) (hz : ad k = z0 + cells) (ht : gn_t ad w cells (z0 + cells)) (hR : cells + 1 ≤ R.cells ∧ slots + N ≤ R.slots) (d : decode cc pc = .ok (.anewarray index, 3)) (kk : gp_G p l e R s m args below meth c (cells + 1) (slots + N) Q nL ad (gn_P D ad A s.heap (gn_u w k (.inl (tc ka, N, .inr (.inr (.inr (.inr (fun _ => none)))))))) (pc + 3) L (gx_R k :: st)) : gp_G p l e R s m args below meth c cells slots Q nL ad (gn_P D ad A s.heap w) pc L (gx_I n :: st) := by
  subst hn
  intro H locs ls hP hl
  refine gn_szW C hP ht (fun hsz => ?_)
  rw [← hz] at hsz
  have h3 : gx_3 (N : Int) := ⟨by omega, by omega⟩
  have hNn : (gx_i (N : Int)).toNatClampNeg = N := by rw [gx_nat h3]; omega
  refine W.anew (n := gx_i (N : Int)) (gx_hx C.1) (gx_hb C.1) (gx_hown C.1) (gx_hts C.1 _ hcl) (va_AO.use hO) rfl d rfl (fun q => absurd ((gx_lt (y := 0) h3 gx_30).mp q) (by omega)) (by rw [hNn]; omega) hR.1 (by rw [hNn]; exact hR.2) (fun cA kA comp f1 f2 f3 f4 => ?_)
  have hcA : cA = tc ka := by
    obtain ⟨_, _, _, _, _, h2⟩ := ((gx_hK C.1).2 ka _ htc).2
    exact Option.some.inj (f1.symm.trans h2)
  subst hcA
  rw [hNn, arrV_new]
  have hlt : H.size < (H.push (arrV (tc ka) N (fun _ => .null))).size := by simp
  have e1 : (H.push (arrV (tc ka) N (fun _ => .null)))[ad k]? = some (arrV (tc ka) N (fun _ => .null)) := by rw [← hsz]; simp
  have := kk _ locs ls (gn_born hP hk hsz (e1 := .inl (tc ka, N, .inr (.inr (.inr (.inr (fun _ => none)))))) (by
    show (H.push (arrV (tc ka) N (fun _ => .null)))[ad k]? = some (vp_cell (tc ka) (N, .inr (.inr (.inr (.inr (fun _ => none))))))
    rw [vp_cell_q, e1]
    rfl) (by simp [hsz]) (fun q hq => by rw [Array.getElem?_push, if_neg (by omega)])) hl
  rw [hsz]
  exact this
set_option maxHeartbeats 300000 in
/-- an object put into an array -/
theorem gn_aast (C : gn_C p R s m args meth c cc own nL Ts ret D tc ad A z0) {a r : Nat} {rc : vw_C} {n : Nat} {vs : List Value} {f : Nat → Option Nat} (ka ci : Nat) (htc : (gx_tys tc)[ka]? = some (tc ka, .object rc.1)) (hw : w a = some (.inl (tc ka, n, .inr (.inr (.inr (.inr f)))))) (hr : w r = some (.inr (ci, vs))) (hc : vwCl[ci]? = some rc) {i : Int} (hi : 0 ≤ i ∧ i < n ∧ n ≤ 10000) (d : decode cc pc = .ok (.aastore, 1)) (kk : gp_G p l e R s m args below meth c cells slots Q nL ad (gn_P D ad A s.heap (gn_u w a (.inl (tc ka, n, .inr (.inr (.inr (.inr (va_up f i.toNat (some (ad r))))))))) ) (pc + 1) L st) : gp_G p l e R s m args below meth c cells slots Q nL ad (gn_P D ad A s.heap w) pc L (gx_R r :: gx_I i :: gx_R a :: st) := by
  intro H locs ls hP hl
  obtain ⟨q0, he⟩ := gn_l_at (ad := ad) (hP.1 a _ hw).1 hw
  obtain ⟨qk, hek⟩ := gn_l_at (ad := ad) (hP.1 r _ hr).1 hr
  have h3 : gx_3 i := ⟨by omega, by omega⟩
  refine va_astq (gx_hx C.1) (gx_hb C.1) (gx_hK C.1) (gn_lP hP.1) (gn_lD C.2.1) hP.2 q0 ka qk ci he htc hek hc (i := gx_i i) (gx_in h3 hi.1 hi.2.1) d (fun H1 locs1 h1 _ hS1 => ?_)
  rw [gx_nat h3] at h1
  exact kk H1 locs1 ls ⟨gn_lset C.2.1 hP.1 hw he h1, hS1⟩ hl
set_option maxHeartbeats 300000 in
/-- Object's constructor -/
theorem gn_obj (C : gn_C p R s m args meth c cc own nL Ts ret D tc ad A z0) {idx a : Nat} (hlink : Cond.methodLink own idx Lib.objectInit ∈ Ts) (hinst : Cond.instanceMethod Lib.objectInit ∈ Ts) (hcode : Cond.code Lib.objectInit ⟨#[0xb1]⟩ 1 none ∈ Ts) (hW : (st.map gx_c2).sum ≤ 8) (hf : 1 ≤ R.frames) (hlo : 20 ≤ R.locals) (d : decode cc pc = .ok (.invokespecial idx, 3)) (kk : gp_G p l e R s m args below meth c cells slots Q nL ad P (pc + 3) L st) : gp_G p l e R s m args below meth c cells slots Q nL ad P pc L (gx_R a :: st) := by
  intro H locs ls hP hl
  refine W.objInit (a := ad a) (gx_hx C.1) (gx_hb C.1) (gx_hown C.1) (gx_hts C.1 _ hlink) (gx_hts C.1 _ hinst) (gx_hts C.1 _ hcode) (g := F0 m pc ls (gx_T ad (gx_R a) :: st.map (gx_T ad))) rfl (hl.1.trans (gx_hml C.1).symm) rfl d hf ?_ (kk H locs ls hP hl)
  have h8 := lv_room (m := m) (pc := pc) (ls := ls) (rest := gx_T ad (gx_R a) :: st.map (gx_T ad)) (st := st.map (gx_T ad)) (gx_cs (ad := ad) (rest := st) hW)
  omega
end GPA
