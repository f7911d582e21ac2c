/-- hidden from arithmetic -/
def gx_hid (P : Prop) : Prop := P
theorem gx_3b {z : Int} (h : z = 0 ∨ z = 1) : gx_3 z := by
  unfold gx_3
  omega
/-- one step of the reading: a sign c at the place k; p0 is the first sign of the text -/
def pm_fac (s : sp_S) (t : pm_S) (c : Int) (k : Nat) : Option pm_S :=
  if pm_one c then some (pm_cnt (s.1 82) t (zs_el s.1 (if c = 105 then 9 else (c - 65).toNat))) else if c = 40 ∨ pm_ltr c then some (pm_opn t c k (if c = 40 then 0 else 3)) else none
def pm_sgn (t : pm_S) (c : Int) : pm_S := ((pm_d t, 0, pm_f t, pm_e t), t.2.1, (pm_let t, pm_sm t, fn_up (pm_of t) (pm_d t) (if c = 43 then 1 else -1), pm_pl t), t.2.2.2)
def pm_com (t : pm_S) : pm_S := ((pm_d t, 0, pm_f t, pm_e t), t.2.1, (pm_let t, fn_up (pm_sm t) (pm_d t) (pm_sm t (pm_d t) + 1), fn_up (pm_of t) (pm_d t) 1, pm_pl t), (fn_up (pm_P t) (pm_d t) (fn_up (pm_P t (pm_d t)) (pm_sm t (pm_d t) + 1) (fun _ => 0)), pm_L t))
def pm_hd (t : pm_S) (f e : Int) : pm_S := ((pm_d t, 0, f, e), t.2.1, (pm_let t, pm_sm t, fn_up (pm_of t) 0 1, pm_pl t), (fn_up (pm_P t) 0 (fn_up (pm_P t 0) 0 (fun _ => 0)), pm_P t 0 0))
def pm_beh (s : sp_S) (t : pm_S) (p0 c : Int) (k : Nat) : Option pm_S :=
  if c = 43 ∨ c = 45 then some (pm_sgn t c)
  else if c = 44 ∧ pm_d t ≠ 0 ∧ pm_sm t (pm_d t) + 1 ≠ pm_arg (pm_let t (pm_d t)) then some (pm_com t)
  else if c = 41 ∧ pm_d t ≠ 0 ∧ pm_sm t (pm_d t) + 1 = pm_arg (pm_let t (pm_d t)) then some (pm_cls s t)
  else if c = 58 ∧ k = 1 ∧ p0 ≠ 105 ∧ pm_one p0 then some (pm_hd t 1 0)
  else if c = 61 ∧ pm_d t = 0 ∧ pm_f t = 0 ∧ pm_e t = 0 then some (pm_hd t 0 1) else none
def pm_dig (t : pm_S) (c : Int) : pm_S := ((pm_d t, 1, pm_f t, pm_e t), t.2.1, (pm_let t, pm_sm t, fn_up (pm_of t) (pm_d t) (pm_of t (pm_d t) * (c - 48)), pm_pl t), t.2.2.2)
def pm_ww (t : pm_S) (w : Nat) : pm_S := ((pm_d t, w, pm_f t, pm_e t), t.2)
def pm_step (s : sp_S) (t : pm_S) (p0 c : Int) (k : Nat) : Option pm_S :=
  if pm_w t = 0 then (if 48 ≤ c ∧ c ≤ 57 then some (pm_dig t c) else pm_fac s t c k)
  else if pm_w t = 1 then (if c = 42 then some (pm_ww t 2) else none)
  else if pm_w t = 2 then pm_fac s t c k
  else if pm_w t = 3 then (if c = 40 then some (pm_ww t 0) else none)
  else pm_beh s t p0 c k
