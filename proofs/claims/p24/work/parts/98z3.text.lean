/-! THE TEXTS -/
def tx_go (s : sp_S) (p0 : Int) : List Int → Nat → Option pm_S → Option pm_S
  | [], _, o => o
  | _ :: _, _, none => none
  | c :: cs, k, some t => tx_go s p0 cs (k + 1) (pm_step s t p0 c k)
/-- a desk with this text on its pad -/
def st_tx (s : sp_S) (tx : List Int) : sp_S := (s.1, s.2.1, s.2.2.1, (tx.length, fun i => tx.getD i 0))
theorem tx_none {s : sp_S} {p0 : Int} : ∀ (l : List Int) (k : Nat), tx_go s p0 l k none = none
  | [], _ => rfl
  | _ :: _, _ => rfl
theorem tx_run {s : sp_S} {tx : List Int} : ∀ (l pre : List Int), tx = pre ++ l → tx_go s (tx.getD 0 0) l pre.length (pm_run (st_tx s tx) pre.length) = pm_run (st_tx s tx) tx.length
  | [], pre, h => by
    rw [h, List.append_nil]
    rfl
  | c :: cs, pre, h => by
    have h1 := tx_run (s := s) (tx := tx) cs (pre ++ [c]) (by rw [h, List.append_assoc]; rfl)
    have hc : tx.getD pre.length 0 = c := by
      rw [h, List.getD_eq_getElem?_getD, List.getElem?_append_right (Nat.le_refl _), Nat.sub_self]
      rfl
    rw [List.length_append] at h1
    have h2 : pm_run (st_tx s tx) (pre.length + 1) = (pm_run (st_tx s tx) pre.length).bind (fun t => pm_step (st_tx s tx) t (tx.getD 0 0) (tx.getD pre.length 0) pre.length) := rfl
    rw [show ([c] : List Int).length = 1 from rfl, h2, hc] at h1
    rw [← h1]
    cases pm_run (st_tx s tx) pre.length with
    | none => exact (tx_none _ _).symm
    | some t => rfl
theorem fn_up_at {α : Type} (f : Nat → α) (i : Nat) (v : α) (j : Nat) : fn_up f i v j = if j = i then v else f j := rfl
theorem fn_up_up {α : Type} (f : Nat → α) (i : Nat) (v w : α) : fn_up (fn_up f i v) i w = fn_up f i w := by
  funext j
  simp only [fn_up]
  split <;> rfl
/-- a text that has no fault, is an equation and does not stop: its two sides -/
def tx_is (s : sp_S) (tx : List Int) (X Y : Nat → Int) : Prop := ∃ t, pm_run (st_tx s tx) tx.length = some t ∧ (pm_w t = 4 ∧ pm_d t = 0 ∧ pm_f t = 0 ∧ pm_e t = 1) ∧ pm_stop t = -6 ∧ pm_L t = X ∧ pm_P t 0 0 = Y
/-- a text that has no fault, is an equation and stops at z -/
def tx_st (s : sp_S) (tx : List Int) (z : Int) : Prop := ∃ t, pm_run (st_tx s tx) tx.length = some t ∧ (pm_w t = 4 ∧ pm_d t = 0 ∧ pm_f t = 0 ∧ pm_e t = 1) ∧ pm_stop t = z
theorem tx_is_of {s : sp_S} {tx : List Int} {X Y : Nat → Int} (h : ∃ t, tx_go s (tx.getD 0 0) tx 0 (some pm_t0) = some t ∧ (pm_w t = 4 ∧ pm_d t = 0 ∧ pm_f t = 0 ∧ pm_e t = 1) ∧ pm_stop t = -6 ∧ pm_L t = X ∧ pm_P t 0 0 = Y) : tx_is s tx X Y := by
  obtain ⟨t, h1, h2⟩ := h
  exact ⟨t, (tx_run tx [] rfl).symm.trans h1, h2⟩
theorem tx_st_of {s : sp_S} {tx : List Int} {z : Int} (h : ∃ t, tx_go s (tx.getD 0 0) tx 0 (some pm_t0) = some t ∧ (pm_w t = 4 ∧ pm_d t = 0 ∧ pm_f t = 0 ∧ pm_e t = 1) ∧ pm_stop t = z) : tx_st s tx z := by
  obtain ⟨t, h1, h2⟩ := h
  exact ⟨t, (tx_run tx [] rfl).symm.trans h1, h2⟩
/-- p(A,B)=p(B,A) -/
def tx_1 : List Int := [112, 40, 65, 44, 66, 41, 61, 112, 40, 66, 44, 65, 41]
set_option maxRecDepth 100000 in
set_option maxHeartbeats 4000000 in
theorem tx_1_is {s : sp_S} : tx_is s tx_1 (mx_lin (s.1 82) (fun _ => 0) 1 (zs_prod s (mx_lin (s.1 82) (fun _ => 0) 1 (zs_el s.1 0) 1) (mx_lin (s.1 82) (fun _ => 0) 1 (zs_el s.1 1) 1)) 1) (mx_lin (s.1 82) (fun _ => 0) 1 (zs_prod s (mx_lin (s.1 82) (fun _ => 0) 1 (zs_el s.1 1) 1) (mx_lin (s.1 82) (fun _ => 0) 1 (zs_el s.1 0) 1)) 1) := by
  refine tx_is_of ?_
  unfold tx_1
  simp [tx_go, pm_step, pm_fac, pm_beh, pm_cnt, pm_opn, pm_val, pm_cls, pm_sgn, pm_com, pm_hd, pm_dig, pm_ww, pm_arg, pm_t0, fn_up_at, fn_up_up, pm_one, pm_ltr, pm_d, pm_w, pm_f, pm_e, pm_stop, pm_on, pm_let, pm_sm, pm_of, pm_pl, pm_P, pm_L, -Prod.exists]
/-- p(i,A)=A -/
def tx_2 : List Int := [112, 40, 105, 44, 65, 41, 61, 65]
set_option maxRecDepth 100000 in
set_option maxHeartbeats 4000000 in
theorem tx_2_is {s : sp_S} : tx_is s tx_2 (mx_lin (s.1 82) (fun _ => 0) 1 (zs_prod s (mx_lin (s.1 82) (fun _ => 0) 1 (zs_el s.1 9) 1) (mx_lin (s.1 82) (fun _ => 0) 1 (zs_el s.1 0) 1)) 1) (mx_lin (s.1 82) (fun _ => 0) 1 (zs_el s.1 0) 1) := by
  refine tx_is_of ?_
  unfold tx_2
  simp [tx_go, pm_step, pm_fac, pm_beh, pm_cnt, pm_opn, pm_val, pm_cls, pm_sgn, pm_com, pm_hd, pm_dig, pm_ww, pm_arg, pm_t0, fn_up_at, fn_up_up, pm_one, pm_ltr, pm_d, pm_w, pm_f, pm_e, pm_stop, pm_on, pm_let, pm_sm, pm_of, pm_pl, pm_P, pm_L, -Prod.exists]
/-- u(A,B)=2*p(A,p(A,B))-p(p(A,A),B) -/
def tx_3 : List Int := [117, 40, 65, 44, 66, 41, 61, 50, 42, 112, 40, 65, 44, 112, 40, 65, 44, 66, 41, 41, 45, 112, 40, 112, 40, 65, 44, 65, 41, 44, 66, 41]
set_option maxRecDepth 100000 in
set_option maxHeartbeats 4000000 in
theorem tx_3_is {s : sp_S} : tx_is s tx_3 (mx_lin (s.1 82) (fun _ => 0) 1 (zs_oper s (mx_lin (s.1 82) (fun _ => 0) 1 (zs_el s.1 0) 1) (mx_lin (s.1 82) (fun _ => 0) 1 (zs_el s.1 1) 1)) 1) (mx_lin (s.1 82) (mx_lin (s.1 82) (fun _ => 0) 1 (zs_prod s (mx_lin (s.1 82) (fun _ => 0) 1 (zs_el s.1 0) 1) (mx_lin (s.1 82) (fun _ => 0) 1 (zs_prod s (mx_lin (s.1 82) (fun _ => 0) 1 (zs_el s.1 0) 1) (mx_lin (s.1 82) (fun _ => 0) 1 (zs_el s.1 1) 1)) 1)) 2) 1 (zs_prod s (mx_lin (s.1 82) (fun _ => 0) 1 (zs_prod s (mx_lin (s.1 82) (fun _ => 0) 1 (zs_el s.1 0) 1) (mx_lin (s.1 82) (fun _ => 0) 1 (zs_el s.1 0) 1)) 1) (mx_lin (s.1 82) (fun _ => 0) 1 (zs_el s.1 1) 1)) (-1)) := by
  refine tx_is_of ?_
  unfold tx_3
  simp [tx_go, pm_step, pm_fac, pm_beh, pm_cnt, pm_opn, pm_val, pm_cls, pm_sgn, pm_com, pm_hd, pm_dig, pm_ww, pm_arg, pm_t0, fn_up_at, fn_up_up, pm_one, pm_ltr, pm_d, pm_w, pm_f, pm_e, pm_stop, pm_on, pm_let, pm_sm, pm_of, pm_pl, pm_P, pm_L, -Prod.exists]
/-- t(A,B,A)=u(A,B) -/
def tx_4 : List Int := [116, 40, 65, 44, 66, 44, 65, 41, 61, 117, 40, 65, 44, 66, 41]
set_option maxRecDepth 100000 in
set_option maxHeartbeats 4000000 in
theorem tx_4_is {s : sp_S} : tx_is s tx_4 (mx_lin (s.1 82) (fun _ => 0) 1 (mx_trip (zs_nn s) (s.1 82) (zs_el s.1 8) (mx_lin (s.1 82) (fun _ => 0) 1 (zs_el s.1 0) 1) (mx_lin (s.1 82) (fun _ => 0) 1 (zs_el s.1 1) 1) (mx_lin (s.1 82) (fun _ => 0) 1 (zs_el s.1 0) 1)) 1) (mx_lin (s.1 82) (fun _ => 0) 1 (zs_oper s (mx_lin (s.1 82) (fun _ => 0) 1 (zs_el s.1 0) 1) (mx_lin (s.1 82) (fun _ => 0) 1 (zs_el s.1 1) 1)) 1) := by
  refine tx_is_of ?_
  unfold tx_4
  simp [tx_go, pm_step, pm_fac, pm_beh, pm_cnt, pm_opn, pm_val, pm_cls, pm_sgn, pm_com, pm_hd, pm_dig, pm_ww, pm_arg, pm_t0, fn_up_at, fn_up_up, pm_one, pm_ltr, pm_d, pm_w, pm_f, pm_e, pm_stop, pm_on, pm_let, pm_sm, pm_of, pm_pl, pm_P, pm_L, -Prod.exists]
/-- u(u(A,B),C)=u(A,u(B,u(A,C))) -/
def tx_5 : List Int := [117, 40, 117, 40, 65, 44, 66, 41, 44, 67, 41, 61, 117, 40, 65, 44, 117, 40, 66, 44, 117, 40, 65, 44, 67, 41, 41, 41]
set_option maxRecDepth 100000 in
set_option maxHeartbeats 4000000 in
theorem tx_5_is {s : sp_S} : tx_is s tx_5 (mx_lin (s.1 82) (fun _ => 0) 1 (zs_oper s (mx_lin (s.1 82) (fun _ => 0) 1 (zs_oper s (mx_lin (s.1 82) (fun _ => 0) 1 (zs_el s.1 0) 1) (mx_lin (s.1 82) (fun _ => 0) 1 (zs_el s.1 1) 1)) 1) (mx_lin (s.1 82) (fun _ => 0) 1 (zs_el s.1 2) 1)) 1) (mx_lin (s.1 82) (fun _ => 0) 1 (zs_oper s (mx_lin (s.1 82) (fun _ => 0) 1 (zs_el s.1 0) 1) (mx_lin (s.1 82) (fun _ => 0) 1 (zs_oper s (mx_lin (s.1 82) (fun _ => 0) 1 (zs_el s.1 1) 1) (mx_lin (s.1 82) (fun _ => 0) 1 (zs_oper s (mx_lin (s.1 82) (fun _ => 0) 1 (zs_el s.1 0) 1) (mx_lin (s.1 82) (fun _ => 0) 1 (zs_el s.1 2) 1)) 1)) 1)) 1) := by
  refine tx_is_of ?_
  unfold tx_5
  simp [tx_go, pm_step, pm_fac, pm_beh, pm_cnt, pm_opn, pm_val, pm_cls, pm_sgn, pm_com, pm_hd, pm_dig, pm_ww, pm_arg, pm_t0, fn_up_at, fn_up_up, pm_one, pm_ltr, pm_d, pm_w, pm_f, pm_e, pm_stop, pm_on, pm_let, pm_sm, pm_of, pm_pl, pm_P, pm_L, -Prod.exists]
/-- u(A+B,C)=u(A,C)+u(B,C)+2*t(A,C,B) -/
def tx_6 : List Int := [117, 40, 65, 43, 66, 44, 67, 41, 61, 117, 40, 65, 44, 67, 41, 43, 117, 40, 66, 44, 67, 41, 43, 50, 42, 116, 40, 65, 44, 67, 44, 66, 41]
set_option maxRecDepth 100000 in
set_option maxHeartbeats 4000000 in
theorem tx_6_is {s : sp_S} : tx_is s tx_6 (mx_lin (s.1 82) (fun _ => 0) 1 (zs_oper s (mx_lin (s.1 82) (mx_lin (s.1 82) (fun _ => 0) 1 (zs_el s.1 0) 1) 1 (zs_el s.1 1) 1) (mx_lin (s.1 82) (fun _ => 0) 1 (zs_el s.1 2) 1)) 1) (mx_lin (s.1 82) (mx_lin (s.1 82) (mx_lin (s.1 82) (fun _ => 0) 1 (zs_oper s (mx_lin (s.1 82) (fun _ => 0) 1 (zs_el s.1 0) 1) (mx_lin (s.1 82) (fun _ => 0) 1 (zs_el s.1 2) 1)) 1) 1 (zs_oper s (mx_lin (s.1 82) (fun _ => 0) 1 (zs_el s.1 1) 1) (mx_lin (s.1 82) (fun _ => 0) 1 (zs_el s.1 2) 1)) 1) 1 (mx_trip (zs_nn s) (s.1 82) (zs_el s.1 8) (mx_lin (s.1 82) (fun _ => 0) 1 (zs_el s.1 0) 1) (mx_lin (s.1 82) (fun _ => 0) 1 (zs_el s.1 2) 1) (mx_lin (s.1 82) (fun _ => 0) 1 (zs_el s.1 1) 1)) 2) := by
  refine tx_is_of ?_
  unfold tx_6
  simp [tx_go, pm_step, pm_fac, pm_beh, pm_cnt, pm_opn, pm_val, pm_cls, pm_sgn, pm_com, pm_hd, pm_dig, pm_ww, pm_arg, pm_t0, fn_up_at, fn_up_up, pm_one, pm_ltr, pm_d, pm_w, pm_f, pm_e, pm_stop, pm_on, pm_let, pm_sm, pm_of, pm_pl, pm_P, pm_L, -Prod.exists]
/-- p(p(A,A),p(A,B))=p(A,p(p(A,A),B)) -/
def tx_7 : List Int := [112, 40, 112, 40, 65, 44, 65, 41, 44, 112, 40, 65, 44, 66, 41, 41, 61, 112, 40, 65, 44, 112, 40, 112, 40, 65, 44, 65, 41, 44, 66, 41, 41]
set_option maxRecDepth 100000 in
set_option maxHeartbeats 4000000 in
theorem tx_7_is {s : sp_S} : tx_is s tx_7 (mx_lin (s.1 82) (fun _ => 0) 1 (zs_prod s (mx_lin (s.1 82) (fun _ => 0) 1 (zs_prod s (mx_lin (s.1 82) (fun _ => 0) 1 (zs_el s.1 0) 1) (mx_lin (s.1 82) (fun _ => 0) 1 (zs_el s.1 0) 1)) 1) (mx_lin (s.1 82) (fun _ => 0) 1 (zs_prod s (mx_lin (s.1 82) (fun _ => 0) 1 (zs_el s.1 0) 1) (mx_lin (s.1 82) (fun _ => 0) 1 (zs_el s.1 1) 1)) 1)) 1) (mx_lin (s.1 82) (fun _ => 0) 1 (zs_prod s (mx_lin (s.1 82) (fun _ => 0) 1 (zs_el s.1 0) 1) (mx_lin (s.1 82) (fun _ => 0) 1 (zs_prod s (mx_lin (s.1 82) (fun _ => 0) 1 (zs_prod s (mx_lin (s.1 82) (fun _ => 0) 1 (zs_el s.1 0) 1) (mx_lin (s.1 82) (fun _ => 0) 1 (zs_el s.1 0) 1)) 1) (mx_lin (s.1 82) (fun _ => 0) 1 (zs_el s.1 1) 1)) 1)) 1) := by
  refine tx_is_of ?_
  unfold tx_7
  simp [tx_go, pm_step, pm_fac, pm_beh, pm_cnt, pm_opn, pm_val, pm_cls, pm_sgn, pm_com, pm_hd, pm_dig, pm_ww, pm_arg, pm_t0, fn_up_at, fn_up_up, pm_one, pm_ltr, pm_d, pm_w, pm_f, pm_e, pm_stop, pm_on, pm_let, pm_sm, pm_of, pm_pl, pm_P, pm_L, -Prod.exists]
/-- u(A,v(A))=A -/
def tx_8 : List Int := [117, 40, 65, 44, 118, 40, 65, 41, 41, 61, 65]
set_option maxRecDepth 100000 in
set_option maxHeartbeats 4000000 in
theorem tx_8_is {s : sp_S} (hd : ¬ mx_det (zs_nn s) (s.1 82) (mx_lin (s.1 82) (fun _ => 0) 1 (zs_el s.1 0) 1) = 0) : tx_is s tx_8 (mx_lin (s.1 82) (fun _ => 0) 1 (zs_oper s (mx_lin (s.1 82) (fun _ => 0) 1 (zs_el s.1 0) 1) (mx_lin (s.1 82) (fun _ => 0) 1 (mx_mul (zs_nn s) (s.1 82) (mx_mul (zs_nn s) (s.1 82) (zs_el s.1 9) (mx_inv (zs_nn s) (s.1 82) (mx_lin (s.1 82) (fun _ => 0) 1 (zs_el s.1 0) 1))) (zs_el s.1 9)) 1)) 1) (mx_lin (s.1 82) (fun _ => 0) 1 (zs_el s.1 0) 1) := by
  refine tx_is_of ?_
  unfold tx_8
  simp [tx_go, pm_step, pm_fac, pm_beh, pm_cnt, pm_opn, pm_val, pm_cls, pm_sgn, pm_com, pm_hd, pm_dig, pm_ww, pm_arg, pm_t0, fn_up_at, fn_up_up, pm_one, pm_ltr, pm_d, pm_w, pm_f, pm_e, pm_stop, pm_on, pm_let, pm_sm, pm_of, pm_pl, pm_P, pm_L, -Prod.exists, hd]
set_option maxRecDepth 100000 in
set_option maxHeartbeats 4000000 in
theorem tx_8_st {s : sp_S} (hd : mx_det (zs_nn s) (s.1 82) (mx_lin (s.1 82) (fun _ => 0) 1 (zs_el s.1 0) 1) = 0) : tx_st s tx_8 4 := by
  refine tx_st_of ?_
  unfold tx_8
  simp [tx_go, pm_step, pm_fac, pm_beh, pm_cnt, pm_opn, pm_val, pm_cls, pm_sgn, pm_com, pm_hd, pm_dig, pm_ww, pm_arg, pm_t0, fn_up_at, fn_up_up, pm_one, pm_ltr, pm_d, pm_w, pm_f, pm_e, pm_stop, pm_on, pm_let, pm_sm, pm_of, pm_pl, pm_P, pm_L, -Prod.exists, hd]
/-- p(A,v(A))=i -/
def tx_9 : List Int := [112, 40, 65, 44, 118, 40, 65, 41, 41, 61, 105]
set_option maxRecDepth 100000 in
set_option maxHeartbeats 4000000 in
theorem tx_9_is {s : sp_S} (hd : ¬ mx_det (zs_nn s) (s.1 82) (mx_lin (s.1 82) (fun _ => 0) 1 (zs_el s.1 0) 1) = 0) : tx_is s tx_9 (mx_lin (s.1 82) (fun _ => 0) 1 (zs_prod s (mx_lin (s.1 82) (fun _ => 0) 1 (zs_el s.1 0) 1) (mx_lin (s.1 82) (fun _ => 0) 1 (mx_mul (zs_nn s) (s.1 82) (mx_mul (zs_nn s) (s.1 82) (zs_el s.1 9) (mx_inv (zs_nn s) (s.1 82) (mx_lin (s.1 82) (fun _ => 0) 1 (zs_el s.1 0) 1))) (zs_el s.1 9)) 1)) 1) (mx_lin (s.1 82) (fun _ => 0) 1 (zs_el s.1 9) 1) := by
  refine tx_is_of ?_
  unfold tx_9
  simp [tx_go, pm_step, pm_fac, pm_beh, pm_cnt, pm_opn, pm_val, pm_cls, pm_sgn, pm_com, pm_hd, pm_dig, pm_ww, pm_arg, pm_t0, fn_up_at, fn_up_up, pm_one, pm_ltr, pm_d, pm_w, pm_f, pm_e, pm_stop, pm_on, pm_let, pm_sm, pm_of, pm_pl, pm_P, pm_L, -Prod.exists, hd]
set_option maxRecDepth 100000 in
set_option maxHeartbeats 4000000 in
theorem tx_9_st {s : sp_S} (hd : mx_det (zs_nn s) (s.1 82) (mx_lin (s.1 82) (fun _ => 0) 1 (zs_el s.1 0) 1) = 0) : tx_st s tx_9 4 := by
  refine tx_st_of ?_
  unfold tx_9
  simp [tx_go, pm_step, pm_fac, pm_beh, pm_cnt, pm_opn, pm_val, pm_cls, pm_sgn, pm_com, pm_hd, pm_dig, pm_ww, pm_arg, pm_t0, fn_up_at, fn_up_up, pm_one, pm_ltr, pm_d, pm_w, pm_f, pm_e, pm_stop, pm_on, pm_let, pm_sm, pm_of, pm_pl, pm_P, pm_L, -Prod.exists, hd]
/-- v(v(A))=A -/
def tx_10 : List Int := [118, 40, 118, 40, 65, 41, 41, 61, 65]
set_option maxRecDepth 100000 in
set_option maxHeartbeats 4000000 in
theorem tx_10_is {s : sp_S} (hd : ¬ mx_det (zs_nn s) (s.1 82) (mx_lin (s.1 82) (fun _ => 0) 1 (zs_el s.1 0) 1) = 0) (hd2 : ¬ mx_det (zs_nn s) (s.1 82) (mx_lin (s.1 82) (fun _ => 0) 1 (mx_mul (zs_nn s) (s.1 82) (mx_mul (zs_nn s) (s.1 82) (zs_el s.1 9) (mx_inv (zs_nn s) (s.1 82) (mx_lin (s.1 82) (fun _ => 0) 1 (zs_el s.1 0) 1))) (zs_el s.1 9)) 1) = 0) : tx_is s tx_10 (mx_lin (s.1 82) (fun _ => 0) 1 (mx_mul (zs_nn s) (s.1 82) (mx_mul (zs_nn s) (s.1 82) (zs_el s.1 9) (mx_inv (zs_nn s) (s.1 82) (mx_lin (s.1 82) (fun _ => 0) 1 (mx_mul (zs_nn s) (s.1 82) (mx_mul (zs_nn s) (s.1 82) (zs_el s.1 9) (mx_inv (zs_nn s) (s.1 82) (mx_lin (s.1 82) (fun _ => 0) 1 (zs_el s.1 0) 1))) (zs_el s.1 9)) 1))) (zs_el s.1 9)) 1) (mx_lin (s.1 82) (fun _ => 0) 1 (zs_el s.1 0) 1) := by
  refine tx_is_of ?_
  unfold tx_10
  simp [tx_go, pm_step, pm_fac, pm_beh, pm_cnt, pm_opn, pm_val, pm_cls, pm_sgn, pm_com, pm_hd, pm_dig, pm_ww, pm_arg, pm_t0, fn_up_at, fn_up_up, pm_one, pm_ltr, pm_d, pm_w, pm_f, pm_e, pm_stop, pm_on, pm_let, pm_sm, pm_of, pm_pl, pm_P, pm_L, -Prod.exists, hd, hd2]
set_option maxRecDepth 100000 in
set_option maxHeartbeats 4000000 in
theorem tx_10_st {s : sp_S} (hd : mx_det (zs_nn s) (s.1 82) (mx_lin (s.1 82) (fun _ => 0) 1 (zs_el s.1 0) 1) = 0) : tx_st s tx_10 2 := by
  refine tx_st_of ?_
  unfold tx_10
  simp [tx_go, pm_step, pm_fac, pm_beh, pm_cnt, pm_opn, pm_val, pm_cls, pm_sgn, pm_com, pm_hd, pm_dig, pm_ww, pm_arg, pm_t0, fn_up_at, fn_up_up, pm_one, pm_ltr, pm_d, pm_w, pm_f, pm_e, pm_stop, pm_on, pm_let, pm_sm, pm_of, pm_pl, pm_P, pm_L, -Prod.exists, hd]
/-- p(E,E)=E -/
def tx_11 : List Int := [112, 40, 69, 44, 69, 41, 61, 69]
set_option maxRecDepth 100000 in
set_option maxHeartbeats 4000000 in
theorem tx_11_is {s : sp_S} : tx_is s tx_11 (mx_lin (s.1 82) (fun _ => 0) 1 (zs_prod s (mx_lin (s.1 82) (fun _ => 0) 1 (zs_el s.1 4) 1) (mx_lin (s.1 82) (fun _ => 0) 1 (zs_el s.1 4) 1)) 1) (mx_lin (s.1 82) (fun _ => 0) 1 (zs_el s.1 4) 1) := by
  refine tx_is_of ?_
  unfold tx_11
  simp [tx_go, pm_step, pm_fac, pm_beh, pm_cnt, pm_opn, pm_val, pm_cls, pm_sgn, pm_com, pm_hd, pm_dig, pm_ww, pm_arg, pm_t0, fn_up_at, fn_up_up, pm_one, pm_ltr, pm_d, pm_w, pm_f, pm_e, pm_stop, pm_on, pm_let, pm_sm, pm_of, pm_pl, pm_P, pm_L, -Prod.exists]
/-- F+G+H=B -/
def tx_12 : List Int := [70, 43, 71, 43, 72, 61, 66]
set_option maxRecDepth 100000 in
set_option maxHeartbeats 4000000 in
theorem tx_12_is {s : sp_S} : tx_is s tx_12 (mx_lin (s.1 82) (mx_lin (s.1 82) (mx_lin (s.1 82) (fun _ => 0) 1 (zs_el s.1 5) 1) 1 (zs_el s.1 6) 1) 1 (zs_el s.1 7) 1) (mx_lin (s.1 82) (fun _ => 0) 1 (zs_el s.1 1) 1) := by
  refine tx_is_of ?_
  unfold tx_12
  simp [tx_go, pm_step, pm_fac, pm_beh, pm_cnt, pm_opn, pm_val, pm_cls, pm_sgn, pm_com, pm_hd, pm_dig, pm_ww, pm_arg, pm_t0, fn_up_at, fn_up_up, pm_one, pm_ltr, pm_d, pm_w, pm_f, pm_e, pm_stop, pm_on, pm_let, pm_sm, pm_of, pm_pl, pm_P, pm_L, -Prod.exists]
/-- p(E,F)=F -/
def tx_13 : List Int := [112, 40, 69, 44, 70, 41, 61, 70]
set_option maxRecDepth 100000 in
set_option maxHeartbeats 4000000 in
theorem tx_13_is {s : sp_S} : tx_is s tx_13 (mx_lin (s.1 82) (fun _ => 0) 1 (zs_prod s (mx_lin (s.1 82) (fun _ => 0) 1 (zs_el s.1 4) 1) (mx_lin (s.1 82) (fun _ => 0) 1 (zs_el s.1 5) 1)) 1) (mx_lin (s.1 82) (fun _ => 0) 1 (zs_el s.1 5) 1) := by
  refine tx_is_of ?_
  unfold tx_13
  simp [tx_go, pm_step, pm_fac, pm_beh, pm_cnt, pm_opn, pm_val, pm_cls, pm_sgn, pm_com, pm_hd, pm_dig, pm_ww, pm_arg, pm_t0, fn_up_at, fn_up_up, pm_one, pm_ltr, pm_d, pm_w, pm_f, pm_e, pm_stop, pm_on, pm_let, pm_sm, pm_of, pm_pl, pm_P, pm_L, -Prod.exists]
/-- 2*p(E,G)=G -/
def tx_14 : List Int := [50, 42, 112, 40, 69, 44, 71, 41, 61, 71]
set_option maxRecDepth 100000 in
set_option maxHeartbeats 4000000 in
theorem tx_14_is {s : sp_S} : tx_is s tx_14 (mx_lin (s.1 82) (fun _ => 0) 1 (zs_prod s (mx_lin (s.1 82) (fun _ => 0) 1 (zs_el s.1 4) 1) (mx_lin (s.1 82) (fun _ => 0) 1 (zs_el s.1 6) 1)) 2) (mx_lin (s.1 82) (fun _ => 0) 1 (zs_el s.1 6) 1) := by
  refine tx_is_of ?_
  unfold tx_14
  simp [tx_go, pm_step, pm_fac, pm_beh, pm_cnt, pm_opn, pm_val, pm_cls, pm_sgn, pm_com, pm_hd, pm_dig, pm_ww, pm_arg, pm_t0, fn_up_at, fn_up_up, pm_one, pm_ltr, pm_d, pm_w, pm_f, pm_e, pm_stop, pm_on, pm_let, pm_sm, pm_of, pm_pl, pm_P, pm_L, -Prod.exists]
/-- p(E,H)=A-A -/
def tx_15 : List Int := [112, 40, 69, 44, 72, 41, 61, 65, 45, 65]
set_option maxRecDepth 100000 in
set_option maxHeartbeats 4000000 in
theorem tx_15_is {s : sp_S} : tx_is s tx_15 (mx_lin (s.1 82) (fun _ => 0) 1 (zs_prod s (mx_lin (s.1 82) (fun _ => 0) 1 (zs_el s.1 4) 1) (mx_lin (s.1 82) (fun _ => 0) 1 (zs_el s.1 7) 1)) 1) (mx_lin (s.1 82) (mx_lin (s.1 82) (fun _ => 0) 1 (zs_el s.1 0) 1) 1 (zs_el s.1 0) (-1)) := by
  refine tx_is_of ?_
  unfold tx_15
  simp [tx_go, pm_step, pm_fac, pm_beh, pm_cnt, pm_opn, pm_val, pm_cls, pm_sgn, pm_com, pm_hd, pm_dig, pm_ww, pm_arg, pm_t0, fn_up_at, fn_up_up, pm_one, pm_ltr, pm_d, pm_w, pm_f, pm_e, pm_stop, pm_on, pm_let, pm_sm, pm_of, pm_pl, pm_P, pm_L, -Prod.exists]
/-- u(E,B)=F -/
def tx_16 : List Int := [117, 40, 69, 44, 66, 41, 61, 70]
set_option maxRecDepth 100000 in
set_option maxHeartbeats 4000000 in
theorem tx_16_is {s : sp_S} : tx_is s tx_16 (mx_lin (s.1 82) (fun _ => 0) 1 (zs_oper s (mx_lin (s.1 82) (fun _ => 0) 1 (zs_el s.1 4) 1) (mx_lin (s.1 82) (fun _ => 0) 1 (zs_el s.1 1) 1)) 1) (mx_lin (s.1 82) (fun _ => 0) 1 (zs_el s.1 5) 1) := by
  refine tx_is_of ?_
  unfold tx_16
  simp [tx_go, pm_step, pm_fac, pm_beh, pm_cnt, pm_opn, pm_val, pm_cls, pm_sgn, pm_com, pm_hd, pm_dig, pm_ww, pm_arg, pm_t0, fn_up_at, fn_up_up, pm_one, pm_ltr, pm_d, pm_w, pm_f, pm_e, pm_stop, pm_on, pm_let, pm_sm, pm_of, pm_pl, pm_P, pm_L, -Prod.exists]
/-- u(i-E,B)=H -/
def tx_17 : List Int := [117, 40, 105, 45, 69, 44, 66, 41, 61, 72]
set_option maxRecDepth 100000 in
set_option maxHeartbeats 4000000 in
theorem tx_17_is {s : sp_S} : tx_is s tx_17 (mx_lin (s.1 82) (fun _ => 0) 1 (zs_oper s (mx_lin (s.1 82) (mx_lin (s.1 82) (fun _ => 0) 1 (zs_el s.1 9) 1) 1 (zs_el s.1 4) (-1)) (mx_lin (s.1 82) (fun _ => 0) 1 (zs_el s.1 1) 1)) 1) (mx_lin (s.1 82) (fun _ => 0) 1 (zs_el s.1 7) 1) := by
  refine tx_is_of ?_
  unfold tx_17
  simp [tx_go, pm_step, pm_fac, pm_beh, pm_cnt, pm_opn, pm_val, pm_cls, pm_sgn, pm_com, pm_hd, pm_dig, pm_ww, pm_arg, pm_t0, fn_up_at, fn_up_up, pm_one, pm_ltr, pm_d, pm_w, pm_f, pm_e, pm_stop, pm_on, pm_let, pm_sm, pm_of, pm_pl, pm_P, pm_L, -Prod.exists]
