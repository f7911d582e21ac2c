/-- a place where roads meet -/
theorem gx_cut {p : Program} {l : Launch} {e : Env} {R : Room} {s : State} {m : MethodId} {args : Array Value} {below : List Frame} {meth : Method} {c : Code} {cells slots : Nat} {Q : State → Prop} {nL : Nat} {D : va_G} {tc : Nat → ClassId} {ad : Nat → Nat} {La : List gx_K} {A : Nat → Prop} {H0 : Heap} {pc : Nat} {L st : List gx_V} {M : gx_M} {α : Type} (at_ : Nat) (Lf sf : α → List gx_V) (Mf : α → gx_M) (P : α → Prop)
    (J : ∀ a, P a → gx_G p l e R s m args below meth c cells slots Q nL D tc ad La A H0 at_ (Lf a) (sf a) (Mf a))
    (k : (∀ a, P a → gx_G p l e R s m args below meth c cells slots Q nL D tc ad La A H0 at_ (Lf a) (sf a) (Mf a)) → gx_G p l e R s m args below meth c cells slots Q nL D tc ad La A H0 pc L st M) : gx_G p l e R s m args below meth c cells slots Q nL D tc ad La A H0 pc L st M := k J
def pr_U (s : sp_S) (M : gx_M) : Prop := mx_of (M 6) 27 = zs_el s.1 8 ∧ mx_of (M 6) 36 = zs_el s.1 9
theorem pr_U6 {s : sp_S} {M M' : gx_M} (h : pr_U s M) (h6 : M' 6 = M 6) : pr_U s M' := by
  unfold pr_U
  rw [h6]
  exact h
theorem pm_val_ok {s : sp_S} (hs : sp_ok s) {t : pm_S} (h : ∀ k, k ≤ pm_sm t (pm_d t) → mx_ok (s.1 82) (pm_P t (pm_d t) k)) : mx_ok (s.1 82) (pm_val s t) := by
  have hm := zs_m hs.1
  unfold pm_val
  split
  · exact mx_lin_ok hm.1 _ _ _ _
  · split
    · exact mx_mul_ok hm.1 _ _
    · split
      · exact mx_lin_ok hm.1 _ _ _ _
      · split
        · exact mx_mul_ok hm.1 _ _
        · exact h _ (Nat.le_refl _)
