theorem mx_ok_of {m : Int} {f g : Nat → Int} (h : mx_ok m f) (e : g = f) : mx_ok m g := by rw [e]; exact h
theorem gx_blk_v {M : gx_M} {c o : Nat} {f g : Nat → Int} (h : ∀ k, k < 9 → f k = g k) : gx_blk M c o 9 f = gx_blk M c o 9 g := gx_blk_f h
