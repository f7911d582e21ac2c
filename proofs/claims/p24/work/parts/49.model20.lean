/-- a long by its 64 bits -/
def gl_l (N : Nat) : Int64 := (UInt64.ofNat N).toInt64
theorem gl_of (x : Int64) : ∃ N, N < 18446744073709551616 ∧ x = gl_l N := ⟨x.toUInt64.toNat, x.toUInt64.toNat_lt, by
  unfold gl_l
  rw [UInt64.ofNat_toNat]
  rfl⟩
theorem gl_sh0 : ∀ k : Fin 64, (gx_i (k.val : Int)).toInt64.toUInt64 &&& Int64.toUInt64 63 = UInt64.ofNat k.val := by decide +kernel
theorem gl_sh {N k : Nat} (hN : N < 18446744073709551616) (hk : k < 64) : ((gl_l N).toUInt64 >>> ((gx_i (k : Int)).toInt64.toUInt64 &&& Int64.toUInt64 63)).toInt64 = gl_l (N / 2 ^ k) := by
  rw [gl_sh0 ⟨k, hk⟩]
  unfold gl_l
  congr 1
  apply UInt64.toNat_inj.mp
  rw [UInt64.toNat_shiftRight, UInt64.toUInt64_toInt64, UInt64.toNat_ofNat', UInt64.toNat_ofNat', UInt64.toNat_ofNat']
  have h1 : N / 2 ^ k ≤ N := Nat.div_le_self _ _
  show (N % 18446744073709551616) >>> (k % 18446744073709551616 % 64) = N / 2 ^ k % 18446744073709551616
  rw [Nat.mod_eq_of_lt hN, Nat.mod_eq_of_lt (show k < 18446744073709551616 by omega), Nat.mod_eq_of_lt hk, Nat.mod_eq_of_lt (show N / 2 ^ k < 18446744073709551616 by omega), Nat.shiftRight_eq_div_pow]
theorem gl_and {N : Nat} (hN : N < 18446744073709551616) : gl_l N &&& 255 = gl_l (N % 256) := by
  apply Int64.toBitVec_inj.mp
  show (BitVec.ofNat 64 N &&& 255#64) = BitVec.ofNat 64 (N % 256)
  apply BitVec.eq_of_toNat_eq
  rw [BitVec.toNat_and, BitVec.toNat_ofNat, BitVec.toNat_ofNat]
  have h1 : N % 256 < 18446744073709551616 := by omega
  show N % 18446744073709551616 &&& 255 = N % 256 % 18446744073709551616
  rw [Nat.mod_eq_of_lt hN, Nat.mod_eq_of_lt h1]
  exact Nat.and_two_pow_sub_one_eq_mod N 8
theorem gl_i0 : ∀ b : Fin 256, (gl_l b.val).toInt32 = gx_i (b.val : Int) := by decide +kernel
theorem gl_c0 : ∀ b : Fin 256, ((gx_i (b.val : Int)).toUInt32 % 65536).toInt32 = gx_i (b.val : Int) := by decide +kernel
theorem gl_cmp {N : Nat} (hN : N < 18446744073709551616) : ∃ z : Int, lg_cmp (gl_l N) (Int64.ofNat 0) = gx_i z ∧ -1 ≤ z ∧ z ≤ 1 ∧ (z = 0 ↔ N = 0) := by
  have h0 : gl_l N = Int64.ofNat 0 ↔ N = 0 := by
    constructor
    · intro h
      have h1 : (UInt64.ofNat N) = UInt64.ofNat 0 := congrArg Int64.toUInt64 h
      have h2 := congrArg UInt64.toNat h1
      rw [UInt64.toNat_ofNat', UInt64.toNat_ofNat'] at h2
      have h2 : N % 18446744073709551616 = 0 := h2
      omega
    · rintro rfl
      rfl
  unfold lg_cmp
  by_cases h1 : gl_l N > Int64.ofNat 0
  · rw [if_pos h1]
    refine ⟨1, rfl, by decide, by decide, ⟨fun h => absurd h (by decide), fun h => ?_⟩⟩
    rw [h0.mpr h] at h1
    exact absurd h1 (by decide)
  · rw [if_neg h1]
    by_cases h2 : gl_l N = Int64.ofNat 0
    · rw [if_pos h2]
      exact ⟨0, rfl, by decide, by decide, ⟨fun _ => h0.mp h2, fun _ => rfl⟩⟩
    · rw [if_neg h2]
      exact ⟨-1, rfl, by decide, by decide, ⟨fun h => absurd h (by decide), fun h => absurd (h0.mpr h) h2⟩⟩
section GXE
variable {p : Program} {l : Launch} {e : Env} {R : Room} {s : State} {m : MethodId} {args : Array Value} {below : List Frame} {meth : Method} {c : Code} {cells slots : Nat} {Q : State → Prop}
variable {cc : ByteArray} {own : String} {nL : Nat} {Ts : List Cond} {ret : Option FieldType} {D : va_G} {tc : Nat → ClassId} {ad : Nat → Nat} {La : List gx_K} {A : Nat → Prop} {H0 : Heap}
variable {pc : Nat} {L st : List gx_V} {M : gx_M}
theorem gx_lushr (C : gx_C p R s m args meth c cc own nL Ts ret D tc ad La A H0) {N k : Nat} {y : Int} (d : decode cc pc = .ok (.lushr, 1)) (hN : N < 18446744073709551616) (hy : y = k) (hk : k < 64) (kk : gx_G p l e R s m args below meth c cells slots Q nL D tc ad La A H0 (pc + 1) L (gx_J (gl_l (N / 2 ^ k)) :: st) M) : gx_G p l e R s m args below meth c cells slots Q nL D tc ad La A H0 pc L (gx_I y :: gx_J (gl_l N) :: st) M := by
  subst hy
  exact fun H locs ls hP hS hl => lv_lushr (v := gl_l (N / 2 ^ k)) (gx_hx C) (gx_hb C) d (gl_sh hN hk) (kk H locs ls hP hS hl)
theorem gx_land (C : gx_C p R s m args meth c cc own nL Ts ret D tc ad La A H0) {x y v : Int64} (d : decode cc pc = .ok (.land, 1)) (hv : x &&& y = v) (kk : gx_G p l e R s m args below meth c cells slots Q nL D tc ad La A H0 (pc + 1) L (gx_J v :: st) M) : gx_G p l e R s m args below meth c cells slots Q nL D tc ad La A H0 pc L (gx_J y :: gx_J x :: st) M := by
  subst hv
  exact fun H locs ls hP hS hl => lv_land (gx_hx C) (gx_hb C) d (kk H locs ls hP hS hl)
theorem gx_l2i (C : gx_C p R s m args meth c cc own nL Ts ret D tc ad La A H0) {x : Int64} {v : Int} (d : decode cc pc = .ok (.l2i, 1)) (hv : x.toInt32 = gx_i v) (kk : gx_G p l e R s m args below meth c cells slots Q nL D tc ad La A H0 (pc + 1) L (gx_I v :: st) M) : gx_G p l e R s m args below meth c cells slots Q nL D tc ad La A H0 pc L (gx_J x :: st) M :=
  fun H locs ls hP hS hl => lv_l2i (v := gx_i v) (gx_hx C) (gx_hb C) d hv (kk H locs ls hP hS hl)
theorem gx_i2c (C : gx_C p R s m args meth c cc own nL Ts ret D tc ad La A H0) {x : Int} (d : decode cc pc = .ok (.i2c, 1)) (hx : 0 ≤ x ∧ x < 256) (kk : gx_G p l e R s m args below meth c cells slots Q nL D tc ad La A H0 (pc + 1) L (gx_I x :: st) M) : gx_G p l e R s m args below meth c cells slots Q nL D tc ad La A H0 pc L (gx_I x :: st) M :=
  fun H locs ls hP hS hl => lv_i2c (v := gx_i x) (gx_hx C) (gx_hb C) d (by
    have := gl_c0 ⟨x.toNat, by omega⟩
    have e : ((x.toNat : Nat) : Int) = x := by omega
    simp only [e] at this
    exact this) (kk H locs ls hP hS hl)
theorem gx_lconst (C : gx_C p R s m args meth c cc own nL Ts ret D tc ad La A H0) {n : Fin 2} (d : decode cc pc = .ok (.lconst n, 1)) (kk : gx_G p l e R s m args below meth c cells slots Q nL D tc ad La A H0 (pc + 1) L (gx_J (Int64.ofNat n.val) :: st) M) : gx_G p l e R s m args below meth c cells slots Q nL D tc ad La A H0 pc L st M :=
  fun H locs ls hP hS hl => lv_lconst (gx_hx C) (gx_hb C) d rfl (kk H locs ls hP hS hl)
theorem gx_ldc2 (C : gx_C p R s m args meth c cc own nL Ts ret D tc ad La A H0) {index : Nat} {v : Int64} (hw : Cond.constantLong own index v ∈ Ts) (d : decode cc pc = .ok (.ldc2_w index, 3)) (kk : gx_G p l e R s m args below meth c cells slots Q nL D tc ad La A H0 (pc + 3) L (gx_J v :: st) M) : gx_G p l e R s m args below meth c cells slots Q nL D tc ad La A H0 pc L st M :=
  fun H locs ls hP hS hl => lv_ldc2 (gx_hx C) (gx_hb C) (gx_hown C) (gx_hts C _ hw) d (kk H locs ls hP hS hl)
theorem gx_lcmp (C : gx_C p R s m args meth c cc own nL Ts ret D tc ad La A H0) {x y : Int64} {v : Int} (d : decode cc pc = .ok (.lcmp, 1)) (hv : lg_cmp x y = gx_i v) (kk : gx_G p l e R s m args below meth c cells slots Q nL D tc ad La A H0 (pc + 1) L (gx_I v :: st) M) : gx_G p l e R s m args below meth c cells slots Q nL D tc ad La A H0 pc L (gx_J y :: gx_J x :: st) M :=
  fun H locs ls hP hS hl => W.lcmp (gx_hx C) (gx_hb C) d (by rw [hv]; exact kk H locs ls hP hS hl)
end GXE
/-- the sign at the place j from the right -/
def pt_b (N j : Nat) : Nat := N / 256 ^ j % 256
/-- a number of n signs -/
def pt_ok (N n : Nat) : Prop := 1 ≤ n ∧ n ≤ 8 ∧ N / 256 ^ n = 0 ∧ ∀ j, j < n → 33 ≤ pt_b N j ∧ pt_b N j ≤ 126
theorem pt_ok_u {N n k : Nat} (h : pt_ok N n) (g : pt_ok N k) : n = k := by
  have key : ∀ {n k : Nat}, pt_ok N n → pt_ok N k → n ≤ k := fun {n k} h g => by
    rcases Nat.lt_or_ge k n with q | q
    · exfalso
      have h1 := (h.2.2.2 k q).1
      unfold pt_b at h1
      rw [g.2.2.1] at h1
      omega
    · exact q
  exact Nat.le_antisymm (key h g) (key g h)
def sp_put (s : sp_S) (N : Nat) (z : Int) (s' : sp_S) : Prop :=
  (∃ n, pt_ok N n ∧ (if 60 < s.2.2.2.1 + n then z = -4 ∧ s' = s else z = ((s.2.2.2.1 + n : Nat) : Int) ∧ s' = (s.1, s.2.1, s.2.2.1, (s.2.2.2.1 + n, fun i => if i < s.2.2.2.1 then s.2.2.2.2 i else ((pt_b N (n - 1 - (i - s.2.2.2.1)) : Nat) : Int))))) ∨ ((¬ ∃ n, pt_ok N n) ∧ z = -2 ∧ s' = s)
theorem pt_div {N k : Nat} : N / 256 ^ k / 256 = N / 256 ^ (k + 1) := by rw [Nat.div_div_eq_div_mul, Nat.pow_succ]
theorem pt_2 (k : Nat) : (2 : Nat) ^ (8 * k) = 256 ^ k := by rw [Nat.pow_mul]
theorem pt_no {N j : Nat} (h : N / 256 ^ j ≠ 0) (hb : ¬(33 ≤ pt_b N j ∧ pt_b N j ≤ 126)) : ¬ ∃ n, pt_ok N n := fun ⟨n, g⟩ => by
  rcases Nat.lt_or_ge j n with q | q
  · exact hb (g.2.2.2 j q)
  · have h1 : N / 256 ^ j ≤ N / 256 ^ n := Nat.div_le_div_left (Nat.pow_le_pow_right (by decide) q) (Nat.pow_pos (by decide))
    rw [g.2.2.1] at h1
    exact h (Nat.le_zero.mp h1)
