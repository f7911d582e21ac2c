def sp_deg (s : sp_S) (a : Nat → Int) (K : Nat) : Prop := K ≤ 8 ∧ (∀ k, k ≤ K → (mx_dst (zs_nn s) (s.1 82) (zs_el s.1 8) a (zs_el s.1 9) k).1 = k) ∧ (mx_dst (zs_nn s) (s.1 82) (zs_el s.1 8) a (zs_el s.1 9) (K + 1)).1 = K
def sp_of (s : sp_S) (r w : Int) (z : Int) : Prop :=
  if 0 ≤ r ∧ r ≤ 9 then
    (if w = 0 then z = mx_tr (s.1 82) (zs_el s.1 r.toNat) else if w = 1 then z = mx_det (zs_nn s) (s.1 82) (zs_el s.1 r.toNat)
     else if w = 2 then z = mx_rank (zs_nn s) (s.1 82) (zs_el s.1 r.toNat) else if w = 3 then (z = 0 ∨ z = 1) ∧ (z = 1 ↔ zs_sq s (zs_el s.1 r.toNat))
     else if w = 4 then (z = 0 ∨ z = 1) ∧ (z = 0 ↔ mx_det (zs_nn s) (s.1 82) (zs_el s.1 r.toNat) = 0)
     else if w = 5 then mx_fst (fun k => zs_po s (zs_el s.1 r.toNat) (zs_el s.1 r.toNat) k = zs_el s.1 9) 2000 z
     else if w = 6 then ∃ K : Nat, sp_deg s (zs_el s.1 r.toNat) K ∧ z = K
     else if w = 7 then mx_fst (fun k => zs_po s (zs_el s.1 r.toNat) (zs_el s.1 r.toNat) k = fun _ => 0) 10 z else z = -2) else z = -1
