section GXB
variable {p : Program} {l : Launch} {e : Env} {R : Room} {s : State} {m : MethodId} {args : Array Value} {below : List Frame} {meth : Method} {c : Code} {cells slots : Nat} {Q : State → Prop}
variable {cc : ByteArray} {own : String} {nL : Nat} {Ts : List Cond} {ret : Option FieldType} {D : va_G} {tc : Nat → ClassId} {ad : Nat → Nat} {La : List gx_K} {A : Nat → Prop} {H0 : Heap}
variable {pc : Nat} {L st : List gx_V} {M : gx_M}
theorem gx_ishl (C : gx_C p R s m args meth c cc own nL Ts ret D tc ad La A H0) {x y v : Int} (d : decode cc pc = .ok (.ishl, 1)) (hv : gx_i x <<< (gx_i y &&& 31) = gx_i v) (k : gx_G p l e R s m args below meth c cells slots Q nL D tc ad La A H0 (pc + 1) L (gx_I v :: st) M) : gx_G p l e R s m args below meth c cells slots Q nL D tc ad La A H0 pc L (gx_I y :: gx_I x :: st) M :=
  fun H locs ls hP hS hl => lv_ishl (gx_hx C) (gx_hb C) d (by rw [hv]; exact k H locs ls hP hS hl)
theorem gx_ior (C : gx_C p R s m args meth c cc own nL Ts ret D tc ad La A H0) {x y v : Int} (d : decode cc pc = .ok (.ior, 1)) (hv : gx_i x ||| gx_i y = gx_i v) (k : gx_G p l e R s m args below meth c cells slots Q nL D tc ad La A H0 (pc + 1) L (gx_I v :: st) M) : gx_G p l e R s m args below meth c cells slots Q nL D tc ad La A H0 pc L (gx_I y :: gx_I x :: st) M :=
  fun H locs ls hP hS hl => lv_ior (gx_hx C) (gx_hb C) d (by rw [hv]; exact k H locs ls hP hS hl)
theorem gx_tabIn (C : gx_C p R s m args meth c cc own nL Ts ret D tc ad La A H0) {x dflt lo hi off : Int} {offs : Array Int} {len tgt : Nat} (d : decode cc pc = .ok (.tableswitch dflt lo hi offs, len)) (hx : gx_3 x) (h1 : lo ≤ x) (h2 : x ≤ hi) (ho : offs[(x - lo).toNat]? = some off) (ht : (pc : Int) + off = (tgt : Int)) (k : gx_G p l e R s m args below meth c cells slots Q nL D tc ad La A H0 tgt L st M) : gx_G p l e R s m args below meth c cells slots Q nL D tc ad La A H0 pc L (gx_I x :: st) M :=
  fun H locs ls hP hS hl => lv_tableIn (gx_hx C) (gx_hb C) d (by rw [gx_toInt hx]; omega) (by rw [gx_toInt hx]; omega) (by rw [gx_toInt hx]; exact ho) ht (k H locs ls hP hS hl)
theorem gx_tabOut (C : gx_C p R s m args meth c cc own nL Ts ret D tc ad La A H0) {x dflt lo hi : Int} {offs : Array Int} {len tgt : Nat} (d : decode cc pc = .ok (.tableswitch dflt lo hi offs, len)) (hx : gx_3 x) (h : x < lo ∨ hi < x) (ht : (pc : Int) + dflt = (tgt : Int)) (k : gx_G p l e R s m args below meth c cells slots Q nL D tc ad La A H0 tgt L st M) : gx_G p l e R s m args below meth c cells slots Q nL D tc ad La A H0 pc L (gx_I x :: st) M :=
  fun H locs ls hP hS hl => lv_tableOut (gx_hx C) (gx_hb C) d (by rw [gx_toInt hx]; exact h) ht (k H locs ls hP hS hl)
end GXB
theorem gx_sh1 : ∀ r : Fin 8, gx_i 1 <<< (gx_i (r.val : Int) &&& 31) = gx_i ((2 ^ r.val : Nat) : Int) := by decide +kernel
set_option maxRecDepth 100000 in
theorem gx_or1 : ∀ r : Fin 8, ∀ x : Fin 256, x.val < 2 ^ r.val → gx_i (x.val : Int) ||| gx_i ((2 ^ r.val : Nat) : Int) = gx_i (((x.val + 2 ^ r.val : Nat) : Int)) := by decide +kernel
set_option maxRecDepth 100000 in
theorem gx_or0 : ∀ x : Fin 256, gx_i (x.val : Int) ||| gx_i 0 = gx_i (x.val : Int) := by decide +kernel
/-- the set of the numbers below N with P, as a number -/
def mx_bit (P : Nat → Prop) : Nat → Int → Prop
  | 0, z => z = 0
  | k + 1, z => ∃ y, mx_bit P k y ∧ ((P k ∧ z = y + ((2 ^ k : Nat) : Int)) ∨ (¬ P k ∧ z = y))
theorem mx_bit_b {P : Nat → Prop} : ∀ k z, mx_bit P k z → 0 ≤ z ∧ z < ((2 ^ k : Nat) : Int)
  | 0, z, h => by
    have : z = 0 := h
    subst this
    decide
  | k + 1, z, h => by
    obtain ⟨y, h1, h2⟩ := h
    have h3 := mx_bit_b k y h1
    have : ((2 ^ (k + 1) : Nat) : Int) = ((2 ^ k : Nat) : Int) + ((2 ^ k : Nat) : Int) := by rw [Nat.pow_succ]; omega
    rcases h2 with ⟨-, h2⟩ | ⟨-, h2⟩ <;> omega
theorem mx_bit_u {P : Nat → Prop} : ∀ k z w, mx_bit P k z → mx_bit P k w → z = w
  | 0, z, w, h, g => by
    have h1 : z = 0 := h
    have g1 : w = 0 := g
    rw [h1, g1]
  | k + 1, z, w, h, g => by
    obtain ⟨y, h1, h2⟩ := h
    obtain ⟨x, g1, g2⟩ := g
    have e := mx_bit_u k y x h1 g1
    subst e
    rcases h2 with ⟨a, h2⟩ | ⟨a, h2⟩ <;> rcases g2 with ⟨b, g2⟩ | ⟨b, g2⟩
    · rw [h2, g2]
    · exact absurd a b
    · exact absurd b a
    · rw [h2, g2]
/-- its own square -/
def zs_sq (s : sp_S) (a : Nat → Int) : Prop := zs_prod s a a = a
def sp_count (s : sp_S) (w : Int) (z : Int) : Prop :=
  if w = 0 then z = s.1 81 else if w = 1 then z = s.1 82 else if w = 2 then mx_bit (fun r => ¬ zs_el s.1 r = fun _ => 0) 8 z else if w = 3 then mx_bit (fun r => zs_sq s (zs_el s.1 r)) 8 z else if w = 4 then z = s.2.2.2.1 else if w = 5 then z = s.2.1.1 else z = -2
