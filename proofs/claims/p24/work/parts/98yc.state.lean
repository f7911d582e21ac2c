/-! the cells as they are first, and the desk's states -/
/-- twelve cells that are not there: the class's cells are counted from 12 on -/
def gm_L : List gx_K := List.replicate 12 (.inr (9, 0, 0, 0))
def gn_La : List gx_K := gm_L ++ gd_L
theorem gn_k0 : gx_k0 gn_La = 12 := by decide +kernel
theorem gn_Hd : gd_H gn_La := fun c hc => by
  have h12 : gm_L.length = 12 := rfl
  unfold gn_La
  rw [List.getElem?_append_right (by omega), show 12 + c - gm_L.length = c by omega]
def gn_M0 : gx_M := fun c j => if c = 1 then (if j < 83 then zs_new 2 5 j else 0) else if 46 ≤ c ∧ c < 154 then (if (c - 46) % 12 = 0 then (if j = 0 then 2 else if j = 1 then 5 else 0) else if 10 ≤ (c - 46) % 12 then mx_id 2 j else 0) else 0
def gn_e (tc : Nat → ClassId) (ad : Nat → Nat) (c : Nat) : va_E := gx_E tc ad (gn_M0 c) (gn_La.getD c (.inl (0, [])))
theorem gn_e_at {tc : Nat → ClassId} {ad : Nat → Nat} {c : Nat} {k : gx_K} (h : gn_La[c]? = some k) : gn_e tc ad c = gx_E tc ad (gn_M0 c) k := by
  unfold gn_e
  rw [List.getD_eq_getElem?_getD, h]
  rfl
/-- the cells from a to b are made -/
def gn_f (tc : Nat → ClassId) (ad : Nat → Nat) (a b : Nat) (w : gn_W) : gn_W := fun c => if a ≤ c ∧ c < b then some (gn_e tc ad c) else w c
theorem gn_f_in {tc : Nat → ClassId} {ad : Nat → Nat} {a b c : Nat} {w : gn_W} (h : a ≤ c ∧ c < b) : gn_f tc ad a b w c = some (gn_e tc ad c) := if_pos h
theorem gn_f_ne {tc : Nat → ClassId} {ad : Nat → Nat} {a b c : Nat} {w : gn_W} (h : ¬ (a ≤ c ∧ c < b)) : gn_f tc ad a b w c = w c := if_neg h
theorem gn_arr {cI : ClassId} {N : Nat} {f g : Nat → Value} (h : ∀ j, j < N → f j = g j) : arrV cI N f = arrV cI N g := by
  unfold arrV
  congr 1
  congr 1
  funext j
  exact h _ j.isLt
theorem gn_vi {D : va_G} {tc : Nat → ClassId} {ad : Nat → Nat} {a ka n b st : Nat} {f g : Nat → Int} {H : Heap} (hk : ka < 3) (h : ∀ j, j < n → f j = g j) (hv : va_at D vwCl (a, gx_E tc ad f (.inr (ka, n, b, st))) H) : va_at D vwCl (a, gx_E tc ad g (.inr (ka, n, b, st))) H := by
  have e : ∀ q : Nat → Int, gx_E tc ad q (.inr (ka, n, b, st)) = .inl (tc ka, n, .inl (fun i => gx_i (q i))) := fun q => by simp only [gx_E, gx_a, if_pos hk]
  rw [e] at hv ⊢
  have hv : H[a]? = some (vp_cell (tc ka) (n, .inl (fun i => gx_i (f i)))) := hv
  show H[a]? = some (vp_cell (tc ka) (n, .inl (fun i => gx_i (g i))))
  rw [hv, vp_cell_i, vp_cell_i]
  exact congrArg some (gn_arr (fun j hj => by rw [h j hj]))
theorem gn_vq {D : va_G} {tc : Nat → ClassId} {ad : Nat → Nat} {a ka n b st : Nat} {f : Nat → Int} {g : Nat → Option Nat} {H : Heap} (hk : ¬ ka < 3) (h : ∀ j, j < n → g j = some (ad (b + st * j))) (hv : va_at D vwCl (a, .inl (tc ka, n, .inr (.inr (.inr (.inr g))))) H) : va_at D vwCl (a, gx_E tc ad f (.inr (ka, n, b, st))) H := by
  have e : gx_E tc ad f (.inr (ka, n, b, st)) = .inl (tc ka, n, .inr (.inr (.inr (.inr (fun i => some (ad (b + st * i))))))) := by simp only [gx_E, gx_a, if_neg hk]
  rw [e]
  have hv : H[a]? = some (vp_cell (tc ka) (n, .inr (.inr (.inr (.inr g))))) := hv
  show H[a]? = some (vp_cell (tc ka) (n, .inr (.inr (.inr (.inr (fun i => some (ad (b + st * i))))))))
  rw [hv, vp_cell_q, vp_cell_q]
  exact congrArg some (gn_arr (fun j hj => by rw [h j hj]))
/-- an array of arrays of numbers -/
def gn_MNA : Prop := ∀ (p : Program) (l : Launch) (e : Env) (R : Room) (s : State) (m : MethodId) (args : Array Value) (below : List Frame) (meth : Method) (c : Code) (cells slots : Nat) (Q : State → Prop) (cc : ByteArray) (own : String) (index n k pc : Nat) (ls : Array Slot) (rest : List Value) (H : Heap) (locs : List Loc),
  p.tables.exec = Jvm.exec → c.code = cc → s.vm.findClass own = some m.cls → (Cond.classLink own index ("[" ++ (FieldType.array .int).toString)).before args s = true → (Cond.arrayOver (.array .int)).before args s = true → (Cond.arrayClass .int).before args s = true → n ≤ 100 → k ≤ 100 → cells + (1 + n) ≤ R.cells → slots + (n + n * k) ≤ R.slots → decode cc pc = .ok (.multianewarray index 2, 4) →
  (∀ (H1 : Heap) (cA cI : ClassId), s.vm.findClass ("[" ++ (FieldType.array .int).toString) = some cA → s.vm.findClass (FieldType.array .int).toString = some cI → H1.size = H.size + 1 + n → (∀ q, q < H.size → H1[q]? = H[q]?) → H1[H.size]? = some (vp_cell cA (n, .inr (.inr (.inr (.inr (fun i => if i < n then some (H.size + 1 + i) else none)))))) → (∀ j, j < n → H1[H.size + 1 + j]? = some (vp_cell cI (k, .inl (fun _ => gx_i 0)))) →
    W p l e R s m args below meth c H1 locs (cells + 1 + n) (slots + n + n * k) Q (F0 m (pc + 4) ls (.ref H.size :: rest))) →
  W p l e R s m args below meth c H locs cells slots Q (F0 m pc ls (.int (gx_i k) :: .int (gx_i n) :: rest))
def gn_m (tc : Nat → ClassId) (ad : Nat → Nat) (w : gn_W) (k0 n k : Nat) : gn_W := fun c => if c = k0 then some (gx_E tc ad (fun _ => 0) (.inr (3, n, k0 + 1, 1))) else if k0 < c ∧ c ≤ k0 + n then some (gx_E tc ad (fun _ => 0) (.inr (0, k, 0, 0))) else w c
section GPC
variable {p : Program} {l : Launch} {e : Env} {R : Room} {s : State} {m : MethodId} {args : Array Value} {below : List Frame} {meth : Method} {c : Code} {cells slots : Nat} {Q : State → Prop}
variable {cc : ByteArray} {own : String} {nL : Nat} {Ts : List Cond} {ret : Option FieldType} {D : va_G} {tc : Nat → ClassId} {ad : Nat → Nat} {A : Nat → Prop}
variable {pc : Nat} {L st : List gx_V} {w w' : gn_W} {z0 : Nat}
theorem gn_mna (MNA : gn_MNA) (C : gn_C p R s m args meth c cc own nL Ts ret D tc ad A z0) {index : Nat} (k0 n k : Nat) {n' k' : Int} (hn' : n' = n) (hk' : k' = k) (hcl : Cond.classLink own index "[[I" ∈ Ts) (harr : Cond.arrayClass .int ∈ Ts) (hn : n ≤ 100) (hk : k ≤ 100) (h0 : k0 + n < 274) (hz : ad k0 = z0 + cells) (had : ∀ i, i ≤ n → ad (k0 + i) = ad k0 + i) (ht : gn_t ad w cells (z0 + cells)) (hR : cells + (1 + n) ≤ R.cells ∧ slots + (n + n * k) ≤ R.slots) (d : decode cc pc = .ok (.multianewarray index 2, 4)) (kk : gp_G p l e R s m args below meth c (cells + 1 + n) (slots + n + n * k) Q nL ad (gn_P D ad A s.heap (gn_m tc ad w k0 n k)) (pc + 4) L (gx_R k0 :: st)) : gp_G p l e R s m args below meth c cells slots Q nL ad (gn_P D ad A s.heap w) pc L (gx_I k' :: gx_I n' :: st) := by
  subst hn' hk'
  intro H locs ls hP hl
  refine gn_szW C hP ht (fun hsz => ?_)
  rw [← hz] at hsz
  refine MNA p l e R s m args below meth c cells slots Q cc own index n k pc ls (st.map (gx_T ad)) H locs (gx_hx C.1) (gx_hb C.1) (gx_hown C.1) (gx_hts C.1 _ hcl) C.2.2.1.2.2 (gx_hts C.1 _ harr) hn hk hR.1 hR.2 d (fun H1 cA cI f1 f2 z1 o1 e1 e2 => ?_)
  have t3 := ((gx_hK C.1).2 3 _ rfl).2
  have t0 := ((gx_hK C.1).2 0 _ rfl).2
  have hA3 : cA = tc 3 := Option.some.inj (f1.symm.trans t3)
  have hA0 : cI = tc 0 := Option.some.inj (f2.symm.trans t0)
  subst hA3 hA0
  rw [hsz] at e1 e2 z1 o1 ⊢
  refine kk H1 locs ls ⟨fun c' e' h' => ?_, ⟨Nat.le_trans hP.2.1 (by omega), fun x h1 h2 => (o1 x (by have := hP.2.1; omega)).trans (hP.2.2.1 x h1 h2), hP.2.2.2⟩⟩ hl
  unfold gn_m at h'
  by_cases q : c' = k0
  · rw [if_pos q] at h'
    cases h'
    subst q
    exact ⟨by omega, gn_vq (by decide) (fun j hj => by rw [if_pos hj, Nat.one_mul, show c' + 1 + j = c' + (1 + j) by omega, had (1 + j) (by omega)]; congr 1; omega) e1⟩
  · rw [if_neg q] at h'
    by_cases q2 : k0 < c' ∧ c' ≤ k0 + n
    · rw [if_pos q2] at h'
      cases h'
      have h3 := e2 (c' - k0 - 1) (by omega)
      have h4 := had (c' - k0) (by omega)
      rw [show k0 + (c' - k0) = c' by omega] at h4
      rw [show ad k0 + 1 + (c' - k0 - 1) = ad c' by omega] at h3
      exact ⟨by omega, h3⟩
    · rw [if_neg q2] at h'
      obtain ⟨a1, a2⟩ := hP.1 c' e' h'
      exact ⟨a1, a2.kept (o1 _ (by have : ad c' < H.size := a2.lt; show ad c' < ad k0; omega))⟩
end GPC
def gn_S12 : List gx_K := [.inl (6, [none, none, some 1]), .inr (3, 10, 2, 1), .inr (0, 9, 0, 0), .inr (0, 9, 0, 0), .inr (0, 9, 0, 0), .inr (0, 9, 0, 0), .inr (0, 9, 0, 0), .inr (0, 9, 0, 0), .inr (0, 9, 0, 0), .inr (0, 9, 0, 0), .inr (0, 9, 0, 0), .inr (0, 9, 0, 0)]
theorem gn_S12r (i : Nat) (h : 2 ≤ i ∧ i < 12) : gn_S12[i]? = some (.inr (0, 9, 0, 0)) := by
  have h1 : ∀ k : Fin 10, gn_S12[2 + k.val]? = some (.inr (0, 9, 0, 0)) := by decide +kernel
  have := h1 ⟨i - 2, by omega⟩
  rwa [show 2 + (i - 2) = i by omega] at this
theorem gn_S12S : gd_S gn_S12 0 := ⟨rfl, rfl, fun j hj => gn_S12r (0 + 2 + j) (by omega)⟩
