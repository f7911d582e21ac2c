/-- a long by its 64 bits -/
def gl_l (N : Nat) : Int64 := (UInt64.ofNat N).toInt64
theorem gl_of (x : Int64) : ∃ N, N < 18446744073709551616 ∧ x = gl_l N := ⟨x.toUInt64.toNat, x.toUInt64.toNat_lt, by
  unfold gl_l
  rw [UInt64.ofNat_toNat]
  rfl⟩
theorem gl_sh0 : ∀ k : Fin 64, (gx_i (k.val : Int)).toInt64.toUInt64 &&& Int64.toUInt64 63 = UInt64.ofNat k.val := by decide +kernel
theorem gl_sh {N k : Nat} (hN : N < 18446744073709551616) (hk : k < 64) : ((gl_l N).toUInt64 >>> ((gx_i (k : Int)).toInt64.toUInt64 &&& Int64.toUInt64 63)).toInt64 = gl_l (N / 2 ^ k) := by
  rw [gl_sh0 ⟨k, hk⟩]
  unfold gl_l
  congr 1
  apply UInt64.toNat_inj.mp
  rw [UInt64.toNat_shiftRight, UInt64.toUInt64_toInt64, UInt64.toNat_ofNat', UInt64.toNat_ofNat', UInt64.toNat_ofNat']
  have h1 : N / 2 ^ k ≤ N := Nat.div_le_self _ _
  show (N % 18446744073709551616) >>> (k % 18446744073709551616 % 64) = N / 2 ^ k % 18446744073709551616
  rw [Nat.mod_eq_of_lt hN, Nat.mod_eq_of_lt (show k < 18446744073709551616 by omega), Nat.mod_eq_of_lt hk, Nat.mod_eq_of_lt (show N / 2 ^ k < 18446744073709551616 by omega), Nat.shiftRight_eq_div_pow]
theorem gl_and {N : Nat} (hN : N < 18446744073709551616) : gl_l N &&& 255 = gl_l (N % 256) := by
  apply Int64.toBitVec_inj.mp
  show (BitVec.ofNat 64 N &&& 255#64) = BitVec.ofNat 64 (N % 256)
  apply BitVec.eq_of_toNat_eq
  rw [BitVec.toNat_and, BitVec.toNat_ofNat, BitVec.toNat_ofNat]
  have h1 : N % 256 < 18446744073709551616 := by omega
  show N % 18446744073709551616 &&& 255 = N % 256 % 18446744073709551616
  rw [Nat.mod_eq_of_lt hN, Nat.mod_eq_of_lt h1]
  exact Nat.and_two_pow_sub_one_eq_mod N 8
theorem gl_i0 : ∀ b : Fin 256, (gl_l b.val).toInt32 = gx_i (b.val : Int) := by decide +kernel
theorem gl_c0 : ∀ b : Fin 256, ((gx_i (b.val : Int)).toUInt32 % 65536).toInt32 = gx_i (b.val : Int) := by decide +kernel
theorem gl_cmp {N : Nat} (hN : N < 18446744073709551616) : ∃ z : Int, lg_cmp (gl_l N) (Int64.ofNat 0) = gx_i z ∧ -1 ≤ z ∧ z ≤ 1 ∧ (z = 0 ↔ N = 0) := by
  have h0 : gl_l N = Int64.ofNat 0 ↔ N = 0 := by
    constructor
    · intro h
      have h1 : (UInt64.ofNat N) = UInt64.ofNat 0 := congrArg Int64.toUInt64 h
      have h2 := congrArg UInt64.toNat h1
      rw [UInt64.toNat_ofNat', UInt64.toNat_ofNat'] at h2
      have h2 : N % 18446744073709551616 = 0 := h2
      omega
    · rintro rfl
      rfl
  unfold lg_cmp
  by_cases h1 : gl_l N > Int64.ofNat 0
  · rw [if_pos h1]
    refine ⟨1, rfl, by decide, by decide, ⟨fun h => absurd h (by decide), fun h => ?_⟩⟩
    rw [h0.mpr h] at h1
    exact absurd h1 (by decide)
  · rw [if_neg h1]
    by_cases h2 : gl_l N = Int64.ofNat 0
    · rw [if_pos h2]
      exact ⟨0, rfl, by decide, by decide, ⟨fun _ => h0.mp h2, fun _ => rfl⟩⟩
    · rw [if_neg h2]
      exact ⟨-1, rfl, by decide, by decide, ⟨fun h => absurd h (by decide), fun h => absurd (h0.mpr h) h2⟩⟩
section GXE
variable {p : Program} {l : Launch} {e : Env} {R : Room} {s : State} {m : MethodId} {args : Array Value} {below : List Frame} {meth : Method} {c : Code} {cells slots : Nat} {Q : State → Prop}
variable {cc : ByteArray} {own : String} {nL : Nat} {Ts : List Cond} {ret : Option FieldType} {D : va_G} {tc : Nat → ClassId} {ad : Nat → Nat} {La : List gx_K} {A : Nat → Prop} {H0 : Heap}
variable {pc : Nat} {L st : List gx_V} {M : gx_M}
theorem gx_lushr (C : gx_C p R s m args meth c cc own nL Ts ret D tc ad La A H0) {N k : Nat} {y : Int} (d : decode cc pc = .ok (.lushr, 1)) (hN : N < 18446744073709551616) (hy : y = k) (hk : k < 64) (kk : gx_G p l e R s m args below meth c cells slots Q nL D tc ad La A H0 (pc + 1) L (gx_J (gl_l (N / 2 ^ k)) :: st) M) : gx_G p l e R s m args below meth c cells slots Q nL D tc ad La A H0 pc L (gx_I y :: gx_J (gl_l N) :: st) M := by
  subst hy
  exact fun H locs ls hP hS hl => lv_lushr (v := gl_l (N / 2 ^ k)) (gx_hx C) (gx_hb C) d (gl_sh hN hk) (kk H locs ls hP hS hl)
theorem gx_land (C : gx_C p R s m args meth c cc own nL Ts ret D tc ad La A H0) {x y v : Int64} (d : decode cc pc = .ok (.land, 1)) (hv : x &&& y = v) (kk : gx_G p l e R s m args below meth c cells slots Q nL D tc ad La A H0 (pc + 1) L (gx_J v :: st) M) : gx_G p l e R s m args below meth c cells slots Q nL D tc ad La A H0 pc L (gx_J y :: gx_J x :: st) M := by
  subst hv
  exact fun H locs ls hP hS hl => lv_land (gx_hx C) (gx_hb C) d (kk H locs ls hP hS hl)
theorem gx_l2i (C : gx_C p R s m args meth c cc own nL Ts ret D tc ad La A H0) {x : Int64} {v : Int} (d : decode cc pc = .ok (.l2i, 1)) (hv : x.toInt32 = gx_i v) (kk : gx_G p l e R s m args below meth c cells slots Q nL D tc ad La A H0 (pc + 1) L (gx_I v :: st) M) : gx_G p l e R s m args below meth c cells slots Q nL D tc ad La A H0 pc L (gx_J x :: st) M :=
  fun H locs ls hP hS hl => lv_l2i (v := gx_i v) (gx_hx C) (gx_hb C) d hv (kk H locs ls hP hS hl)
theorem gx_i2c (C : gx_C p R s m args meth c cc own nL Ts ret D tc ad La A H0) {x : Int} (d : decode cc pc = .ok (.i2c, 1)) (hx : 0 ≤ x ∧ x < 256) (kk : gx_G p l e R s m args below meth c cells slots Q nL D tc ad La A H0 (pc + 1) L (gx_I x :: st) M) : gx_G p l e R s m args below meth c cells slots Q nL D tc ad La A H0 pc L (gx_I x :: st) M :=
  fun H locs ls hP hS hl => lv_i2c (v := gx_i x) (gx_hx C) (gx_hb C) d (by
    have := gl_c0 ⟨x.toNat, by omega⟩
    have e : ((x.toNat : Nat) : Int) = x := by omega
    simp only [e] at this
    exact this) (kk H locs ls hP hS hl)
theorem gx_lconst (C : gx_C p R s m args meth c cc own nL Ts ret D tc ad La A H0) {n : Fin 2} (d : decode cc pc = .ok (.lconst n, 1)) (kk : gx_G p l e R s m args below meth c cells slots Q nL D tc ad La A H0 (pc + 1) L (gx_J (Int64.ofNat n.val) :: st) M) : gx_G p l e R s m args below meth c cells slots Q nL D tc ad La A H0 pc L st M :=
  fun H locs ls hP hS hl => lv_lconst (gx_hx C) (gx_hb C) d rfl (kk H locs ls hP hS hl)
theorem gx_ldc2 (C : gx_C p R s m args meth c cc own nL Ts ret D tc ad La A H0) {index : Nat} {v : Int64} (hw : Cond.constantLong own index v ∈ Ts) (d : decode cc pc = .ok (.ldc2_w index, 3)) (kk : gx_G p l e R s m args below meth c cells slots Q nL D tc ad La A H0 (pc + 3) L (gx_J v :: st) M) : gx_G p l e R s m args below meth c cells slots Q nL D tc ad La A H0 pc L st M :=
  fun H locs ls hP hS hl => lv_ldc2 (gx_hx C) (gx_hb C) (gx_hown C) (gx_hts C _ hw) d (kk H locs ls hP hS hl)
theorem gx_lcmp (C : gx_C p R s m args meth c cc own nL Ts ret D tc ad La A H0) {x y : Int64} {v : Int} (d : decode cc pc = .ok (.lcmp, 1)) (hv : lg_cmp x y = gx_i v) (kk : gx_G p l e R s m args below meth c cells slots Q nL D tc ad La A H0 (pc + 1) L (gx_I v :: st) M) : gx_G p l e R s m args below meth c cells slots Q nL D tc ad La A H0 pc L (gx_J y :: gx_J x :: st) M :=
  fun H locs ls hP hS hl => W.lcmp (gx_hx C) (gx_hb C) d (by rw [hv]; exact kk H locs ls hP hS hl)
end GXE
/-- the sign at the place j from the right -/
def pt_b (N j : Nat) : Nat := N / 256 ^ j % 256
/-- a number of n signs -/
def pt_ok (N n : Nat) : Prop := 1 ≤ n ∧ n ≤ 8 ∧ N / 256 ^ n = 0 ∧ ∀ j, j < n → 33 ≤ pt_b N j ∧ pt_b N j ≤ 126
theorem pt_ok_u {N n k : Nat} (h : pt_ok N n) (g : pt_ok N k) : n = k := by
  have key : ∀ {n k : Nat}, pt_ok N n → pt_ok N k → n ≤ k := fun {n k} h g => by
    rcases Nat.lt_or_ge k n with q | q
    · exfalso
      have h1 := (h.2.2.2 k q).1
      unfold pt_b at h1
      rw [g.2.2.1] at h1
      omega
    · exact q
  exact Nat.le_antisymm (key h g) (key g h)
def sp_put (s : sp_S) (N : Nat) (z : Int) (s' : sp_S) : Prop :=
  (∃ n, pt_ok N n ∧ (if 60 < s.2.2.2.1 + n then z = -4 ∧ s' = s else z = ((s.2.2.2.1 + n : Nat) : Int) ∧ s' = (s.1, s.2.1, s.2.2.1, (s.2.2.2.1 + n, fun i => if i < s.2.2.2.1 then s.2.2.2.2 i else ((pt_b N (n - 1 - (i - s.2.2.2.1)) : Nat) : Int))))) ∨ ((¬ ∃ n, pt_ok N n) ∧ z = -2 ∧ s' = s)
theorem pt_div {N k : Nat} : N / 256 ^ k / 256 = N / 256 ^ (k + 1) := by rw [Nat.div_div_eq_div_mul, Nat.pow_succ]
theorem pt_2 (k : Nat) : (2 : Nat) ^ (8 * k) = 256 ^ k := by rw [Nat.pow_mul]
theorem pt_no {N j : Nat} (h : N / 256 ^ j ≠ 0) (hb : ¬(33 ≤ pt_b N j ∧ pt_b N j ≤ 126)) : ¬ ∃ n, pt_ok N n := fun ⟨n, g⟩ => by
  rcases Nat.lt_or_ge j n with q | q
  · exact hb (g.2.2.2 j q)
  · have h1 : N / 256 ^ j ≤ N / 256 ^ n := Nat.div_le_div_left (Nat.pow_le_pow_right (by decide) q) (Nat.pow_pos (by decide))
    rw [g.2.2.1] at h1
    exact h (Nat.le_zero.mp h1)
set_option maxRecDepth 100000 in
set_option maxHeartbeats 4000000 in
theorem c_X8_put {La : List gx_K} (hM : gm_H La) {M : gx_M} {s : sp_S} (hs : sp_ok s) (hR : sm_R s M) {N : Nat} (hN : N < 18446744073709551616) : gx_Ci La yX8_put wsX8_put 1 [gx_R 0, gx_J (gl_l N)] M (fun z M' => ∃ s', sp_put s N z s' ∧ sm_Q s' M M') := by
  have htn := hs.2.2.2.2.2.1
  have h0 := hR
  obtain ⟨h1, h2, h3, h4, h5, h6, h7⟩ := hR
  have hw255 : Cond.constantLong RX8 165 255 ∈ wsX8_put := by decide +kernel
  have hlt : ∀ k, N / 256 ^ k < 18446744073709551616 := fun k => Nat.lt_of_le_of_lt (Nat.div_le_self _ _) hN
  refine gx_start_i (L := [gx_R 0, gx_J (gl_l N), gx_U, gx_U, gx_U, gx_U, gx_U, gx_U]) (by decide) rfl rfl (Nat.le_of_ble_eq_true rfl) rfl ?_
  intro _ _ _ _ _ _ _ _ _ _ _ _ C
  refine gx_iconst C dX8_put_0 ?_
  refine gx_istore_n C dX8_put_1 (by decide) rfl ?_
  refine gx_lload_n C dX8_put_2 rfl ?_
  refine gx_lstore C dX8_put_3 (by decide) rfl ?_
  refine gx_iconst C dX8_put_5 ?_
  refine gx_istore C dX8_put_6 (by decide) rfl ?_
  refine gx_cut 49 (fun (q : Nat × Int) => [gx_R 0, gx_J (gl_l N), gx_U, gx_I (q.1 : Int), gx_J (gl_l (N / 256 ^ q.1)), gx_U, gx_I q.2, gx_U]) (fun _ => []) (fun _ => M) (fun q => q.1 ≤ 8 ∧ ((q.2 = 1 ∧ N / 256 ^ q.1 = 0 ∧ ∀ j, j < q.1 → 33 ≤ pt_b N j ∧ pt_b N j ≤ 126) ∨ (q.2 = 0 ∧ ¬ ∃ n, pt_ok N n))) (fun q hq => ?_) (fun at49 => ?_)
  · obtain ⟨n, g⟩ := q
    obtain ⟨hn8, hq⟩ := hq
    simp only at hn8 hq
    dsimp only
    have bad : (¬ ∃ n, pt_ok N n) → ∃ s', sp_put s N (-2) s' ∧ sm_Q s' M M := fun h => ⟨s, Or.inr ⟨h, rfl, rfl⟩, sm_XQ h0 (gm_Xr M)⟩
    rcases hq with ⟨rfl, hq0, hqb⟩ | ⟨rfl, hq⟩
    · refine gx_iload_n C dX8_put_49 rfl ?_
      by_cases hn0 : n = 0
      · subst hn0
        have hN0 : N = 0 := by simpa using hq0
        refine gx_if_eq C dX8_put_50 rfl (by unfold gx_3; omega) (fun hb50 => ?_) (fun hb50 => absurd (by omega) hb50)
        refine gx_bipush C dX8_put_58 rfl ?_
        exact gx_iret C dX8_put_60 (bad (fun ⟨k, g⟩ => by have h := (g.2.2.2 0 (by have := g.1; omega)).1; unfold pt_b at h; rw [hN0] at h; simp at h))
      · have hok : pt_ok N n := ⟨by omega, hn8, hq0, hqb⟩
        refine gx_if_eq C dX8_put_50 rfl (by unfold gx_3; omega) (fun hb50 => absurd hb50 (by omega)) (fun hb50 => ?_)
        refine gx_iload C dX8_put_53 rfl ?_
        refine gx_if_ne C dX8_put_55 rfl (by unfold gx_3; omega) (fun hb55 => ?_) (fun hb55 => absurd (by omega) hb55)
        refine gx_aload_n C dX8_put_61 rfl ?_
        refine gx_getI C 8 _ 6 rfl (gm_0 hM) rfl (by decide) nX8_put_8 (gx_hts C _ fX8_put_159) dX8_put_62 h6 ?_
        refine gx_iload_n C dX8_put_65 rfl ?_
        refine gx_iadd C dX8_put_66 ?_
        refine gx_bipush C dX8_put_67 rfl ?_
        refine gx_icmp_le C dX8_put_69 rfl (by unfold gx_3; omega) (by unfold gx_3; omega) (fun hb69 => ?_) (fun hb69 => ?_)
        · refine gx_iload_n C dX8_put_75 rfl ?_
          refine gx_iconst C dX8_put_76 ?_
          refine gx_isub C dX8_put_77 ?_
          refine gx_istore C dX8_put_78 (by decide) rfl ?_
          refine gx_lcast (L' := [gx_R 0, gx_J (gl_l N), gx_U, gx_I (n : Int), gx_J (gl_l (N / 256 ^ n)), gx_U, gx_I 1, gx_I ((n : Int) - 1 - ((0 : Nat) : Int))]) (by rw [show (n : Int) - 1 - ((0 : Nat) : Int) = (n : Int) - 1 by omega]; rfl) ?_
          refine gx_for n (fun i (_ : gx_M) => [gx_R 0, gx_J (gl_l N), gx_U, gx_I (n : Int), gx_J (gl_l (N / 256 ^ n)), gx_U, gx_I 1, gx_I ((n : Int) - 1 - (i : Int))]) (fun M' => M') (fun i M' => (∀ c, c ≠ 0 → c ≠ 5 → M' c = M c) ∧ (∀ j, j ≠ 6 → M' 0 j = M 0 j) ∧ M' 0 6 = ((s.2.2.2.1 + i : Nat) : Int) ∧ ∀ j, M' 5 j = if s.2.2.2.1 ≤ j ∧ j < s.2.2.2.1 + i then ((pt_b N (n - 1 - (j - s.2.2.2.1)) : Nat) : Int) else M 5 j) 0 M (by omega) ⟨fun _ _ _ => rfl, fun _ _ => rfl, h6, fun j => by rw [if_neg (by omega)]⟩ (fun i M' hi hI ih => ?_) (fun M' hI => ?_)
          · obtain ⟨i1, i2, i3, i4⟩ := hI
            have hb256 : pt_b N (n - 1 - i) < 256 := Nat.mod_lt _ (by decide)
            have eand : gl_l (N / 2 ^ (8 * (n - 1 - i))) &&& 255 = gl_l (pt_b N (n - 1 - i)) := by
              rw [pt_2, gl_and (hlt _)]
              rfl
            refine gx_iload C dX8_put_80 rfl ?_
            refine gx_if_lt C dX8_put_82 rfl (by unfold gx_3; omega) (fun hb82 => absurd hb82 (by omega)) (fun hb82 => ?_)
            refine gx_aload_n C dX8_put_85 rfl ?_
            refine gx_getR C 8 _ 5 rfl (gm_0 hM) rfl (by decide) nX8_put_8 (gx_hts C _ fX8_put_23) dX8_put_86 ?_
            refine gx_aload_n C dX8_put_89 rfl ?_
            refine gx_getI C 8 _ 6 rfl (gm_0 hM) rfl (by decide) nX8_put_8 (gx_hts C _ fX8_put_159) dX8_put_90 i3 ?_
            refine gx_lload_n C dX8_put_93 rfl ?_
            refine gx_bipush C dX8_put_94 rfl ?_
            refine gx_iload C dX8_put_96 rfl ?_
            refine gx_imul C dX8_put_98 ?_
            refine gx_lushr C dX8_put_99 hN (k := 8 * (n - 1 - i)) (by omega) (by omega) ?_
            refine gx_ldc2 C hw255 dX8_put_100 ?_
            refine gx_land C dX8_put_103 eand ?_
            refine gx_l2i C dX8_put_104 (gl_i0 ⟨pt_b N (n - 1 - i), hb256⟩) ?_
            refine gx_i2c C dX8_put_105 (by show 0 ≤ ((pt_b N (n - 1 - i) : Nat) : Int) ∧ ((pt_b N (n - 1 - i) : Nat) : Int) < 256; omega) ?_
            refine gx_castore C (gm_5 hM) (by omega) (by show 0 ≤ ((pt_b N (n - 1 - i) : Nat) : Int) ∧ ((pt_b N (n - 1 - i) : Nat) : Int) < 65536; omega) dX8_put_106 (show _ = s.2.2.2.1 + i by omega) ?_
            refine gx_aload_n C dX8_put_107 rfl ?_
            refine gx_dup C dX8_put_108 rfl ?_
            refine gx_getI C 8 _ 6 rfl (gm_0 hM) rfl (by decide) nX8_put_8 (gx_hts C _ fX8_put_159) dX8_put_109 (show gx_u M' 5 (s.2.2.2.1 + i) ((pt_b N (n - 1 - i) : Nat) : Int) 0 6 = ((s.2.2.2.1 + i : Nat) : Int) from i3) ?_
            refine gx_iconst C dX8_put_112 ?_
            refine gx_iadd C dX8_put_113 ?_
            refine gx_putI C 8 _ 6 rfl (gm_0 hM) rfl (by decide) nX8_put_8 tyX8 tyX8_ok nmX8 (gx_hts C _ fX8_put_159) rfl rfl dX8_put_114 ?_
            refine gx_iinc C dX8_put_117 (by decide) rfl rfl ?_
            refine gx_goto C dX8_put_120 rfl ?_
            refine gx_lcast (L' := [gx_R 0, gx_J (gl_l N), gx_U, gx_I (n : Int), gx_J (gl_l (N / 256 ^ n)), gx_U, gx_I 1, gx_I ((n : Int) - 1 - ((i + 1 : Nat) : Int))]) (by
              rw [show (n : Int) - 1 - ((i + 1 : Nat) : Int) = (n : Int) - 1 - (i : Int) + -1 by omega]; rfl) (ih _ ⟨fun c a b => by rw [gx_u_nc a, gx_u_nc b]; exact i1 c a b, fun j hj => by rw [gx_u_ne (by omega), gx_u_nc (by decide)]; exact i2 j hj, by rw [gx_u_eq]; omega, fun j => ?_⟩)
            rw [gx_u_nc (by decide), gx_u_at]
            by_cases e : j = s.2.2.2.1 + i
            · rw [if_pos ⟨rfl, e⟩, if_pos (by omega), e, show s.2.2.2.1 + i - s.2.2.2.1 = i by omega]
            · rw [if_neg (fun q => e q.2), i4]
              by_cases e2 : s.2.2.2.1 ≤ j ∧ j < s.2.2.2.1 + i
              · rw [if_pos e2, if_pos (by omega)]
              · rw [if_neg e2, if_neg (by omega)]
          · obtain ⟨i1, i2, i3, i4⟩ := hI
            have fin : sm_Q (s.1, s.2.1, s.2.2.1, (s.2.2.2.1 + n, fun i => if i < s.2.2.2.1 then s.2.2.2.2 i else ((pt_b N (n - 1 - (i - s.2.2.2.1)) : Nat) : Int))) M M' := by
              refine ⟨⟨fun k hk => by rw [i1 1 (by decide) (by decide)]; exact h1 k hk, by rw [i2 4 (by decide)]; exact h2, fun i k hi hk => by rw [i1 2 (by decide) (by decide)]; exact h3 i k hi hk, fun j hj => by rw [i1 4 (by decide) (by decide)]; exact h4 j hj, fun j k hj hsv hk => by rw [i1 3 (by decide) (by decide)]; exact h5 j k hj hsv hk, i3, fun i hi => ?_⟩, fun c hc => i1 c (by omega) (by omega)⟩
              have hi : i < s.2.2.2.1 + n := hi
              show _ = if i < s.2.2.2.1 then s.2.2.2.2 i else ((pt_b N (n - 1 - (i - s.2.2.2.1)) : Nat) : Int)
              rw [i4]
              by_cases e : i < s.2.2.2.1
              · rw [if_neg (by omega), if_pos e]
                exact h7 i e
              · rw [if_pos (by omega), if_neg e]
            refine gx_iload C dX8_put_80 rfl ?_
            refine gx_if_lt C dX8_put_82 rfl (by unfold gx_3; omega) (fun hb82 => ?_) (fun hb82 => absurd (by omega) hb82)
            refine gx_aload_n C dX8_put_123 rfl ?_
            refine gx_getI C 8 _ 6 rfl (gm_0 hM) rfl (by decide) nX8_put_8 (gx_hts C _ fX8_put_159) dX8_put_124 i3 ?_
            exact gx_iret C dX8_put_127 ⟨_, Or.inl ⟨n, hok, by rw [if_neg (by omega)]; exact ⟨rfl, rfl⟩⟩, fin⟩
        · refine gx_bipush C dX8_put_72 rfl ?_
          exact gx_iret C dX8_put_74 ⟨s, Or.inl ⟨n, hok, by rw [if_pos (by omega)]; exact ⟨rfl, rfl⟩⟩, sm_XQ h0 (gm_Xr M)⟩
    · refine gx_iload_n C dX8_put_49 rfl ?_
      refine gx_cut 58 (fun (_ : Unit) => [gx_R 0, gx_J (gl_l N), gx_U, gx_I (n : Int), gx_J (gl_l (N / 256 ^ n)), gx_U, gx_I 0, gx_U]) (fun _ => []) (fun _ => M) (fun _ => True) (fun _ _ => ?_) (fun at58 => ?_)
      · refine gx_bipush C dX8_put_58 rfl ?_
        exact gx_iret C dX8_put_60 (bad hq)
      · refine gx_if_eq C dX8_put_50 rfl (by unfold gx_3; omega) (fun hb50 => ?_) (fun hb50 => ?_)
        · exact at58 () trivial
        · refine gx_iload C dX8_put_53 rfl ?_
          refine gx_if_ne C dX8_put_55 rfl (by unfold gx_3; omega) (fun hb55 => absurd hb55 (by omega)) (fun hb55 => ?_)
          exact at58 () trivial
  · have start : gx_i 1 = gx_i 1 := rfl
    refine gx_lcast (L' := [gx_R 0, gx_J (gl_l N), gx_U, gx_I ((0 : Nat) : Int), gx_J (gl_l (N / 256 ^ 0)), gx_U, gx_I 1, gx_U]) (by rw [Nat.pow_zero, Nat.div_one]; rfl) ?_
    refine gx_for 8 (fun k (g : Int) => [gx_R 0, gx_J (gl_l N), gx_U, gx_I (k : Int), gx_J (gl_l (N / 256 ^ k)), gx_U, gx_I g, gx_U]) (fun _ => M) (fun k g => (g = 1 ∧ ∀ j, j < k → 33 ≤ pt_b N j ∧ pt_b N j ≤ 126) ∨ (g = 0 ∧ ¬ ∃ n, pt_ok N n)) 0 1 (by omega) (Or.inl ⟨rfl, fun j hj => absurd hj (Nat.not_lt_zero j)⟩) (fun k g hk hI ih => ?_) (fun g hI => ?_)
    · obtain ⟨z, hz1, hz2, hz3, hz4⟩ := gl_cmp (hlt k)
      refine gx_lload C dX8_put_8 rfl ?_
      refine gx_lconst C dX8_put_10 ?_
      refine gx_lcmp C dX8_put_11 hz1 ?_
      refine gx_if_eq C dX8_put_12 rfl (by unfold gx_3; omega) (fun hb12 => ?_) (fun hb12 => ?_)
      · exact at49 (k, g) ⟨by omega, by
          rcases hI with ⟨a, b⟩ | ⟨a, b⟩
          · exact Or.inl ⟨a, hz4.mp hb12, b⟩
          · exact Or.inr ⟨a, b⟩⟩
      · have hk0 : N / 256 ^ k ≠ 0 := fun h => hb12 (hz4.mpr h)
        rcases hI with ⟨rfl, hI⟩ | ⟨rfl, hI⟩
        · have hb256 : pt_b N k < 256 := Nat.mod_lt _ (by decide)
          have eand : gl_l (N / 256 ^ k) &&& 255 = gl_l (pt_b N k) := gl_and (hlt k)
          refine gx_iload C dX8_put_15 rfl ?_
          refine gx_if_eq C dX8_put_17 rfl (by unfold gx_3; omega) (fun hb17 => absurd hb17 (by omega)) (fun hb17 => ?_)
          refine gx_lload C dX8_put_20 rfl ?_
          refine gx_ldc2 C hw255 dX8_put_22 ?_
          refine gx_land C dX8_put_25 eand ?_
          refine gx_l2i C dX8_put_26 (gl_i0 ⟨pt_b N k, hb256⟩) ?_
          refine gx_bipush C dX8_put_27 rfl ?_
          refine gx_bipush C dX8_put_29 rfl ?_
          refine gx_statI C (c_X8_in (v := ((pt_b N k : Nat) : Int)) (by unfold gx_3; omega) (by unfold gx_3; omega) (by unfold gx_3; omega)) (cwS 3 (gx_hts C) gX8_put_X8_in rfl rfl rfl (by decide +kernel) ⟨Nat.le_of_ble_eq_true rfl, Nat.le_of_ble_eq_true rfl⟩) rfl rfl (Nat.le_of_ble_eq_true rfl) ⟨Nat.le_refl _, Nat.le_refl _⟩ dX8_put_31 (fun g2 M1 hg => ?_)
          obtain ⟨rfl, hg⟩ := hg
          refine gx_istore C dX8_put_34 (by decide) rfl ?_
          refine gx_lload C dX8_put_36 rfl ?_
          refine gx_bipush C dX8_put_38 rfl ?_
          refine gx_lushr C dX8_put_40 (hlt k) (k := 8) rfl (by decide) ?_
          refine gx_lstore C dX8_put_41 (by decide) rfl ?_
          refine gx_iinc C dX8_put_43 (by decide) rfl rfl ?_
          refine gx_goto C dX8_put_46 rfl ?_
          refine gx_lcast (L' := [gx_R 0, gx_J (gl_l N), gx_U, gx_I ((k + 1 : Nat) : Int), gx_J (gl_l (N / 256 ^ (k + 1))), gx_U, gx_I g2, gx_U]) (by rw [← pt_div]; rfl) (ih g2 ?_)
          by_cases hgood : 33 ≤ pt_b N k ∧ pt_b N k ≤ 126
          · rw [if_pos (by omega)] at hg
            exact Or.inl ⟨hg, mx_all.mpr ⟨hI, hgood⟩⟩
          · rw [if_neg (by omega)] at hg
            exact Or.inr ⟨hg, pt_no hk0 hgood⟩
        · refine gx_iload C dX8_put_15 rfl ?_
          refine gx_if_eq C dX8_put_17 rfl (by unfold gx_3; omega) (fun hb17 => ?_) (fun hb17 => absurd (by omega) hb17)
          exact at49 (k, 0) ⟨by omega, Or.inr ⟨rfl, hI⟩⟩
    · have h80 : N / 256 ^ 8 = 0 := Nat.div_eq_of_lt hN
      obtain ⟨z, hz1, hz2, hz3, hz4⟩ := gl_cmp (hlt 8)
      refine gx_lload C dX8_put_8 rfl ?_
      refine gx_lconst C dX8_put_10 ?_
      refine gx_lcmp C dX8_put_11 hz1 ?_
      have hz0 := hz4.mpr h80
      refine gx_if_eq C dX8_put_12 rfl (by unfold gx_3; omega) (fun hb12 => ?_) (fun hb12 => absurd (by omega) hb12)
      exact at49 (8, g) ⟨Nat.le_refl _, by
        rcases hI with ⟨a, b⟩ | ⟨a, b⟩
        · exact Or.inl ⟨a, h80, b⟩
        · exact Or.inr ⟨a, b⟩⟩
