theorem bk_start {u : Sg} {M : Nat → Int32} (h : u.1 11 = M) : sI u 13 M = sL (sI (sI u 13 M) 11 M) 4 (u.2 4) := by
  rw [sI_id ((sI_ne _ _ (by decide)).trans h)]
  exact (sL_self (sI u 13 M) 4).symm
theorem sI_sL (u : Sg) (c d : Nat) (f g : Nat → Int32) (E : Nat → Int64) : sI (sL (sI u c f) d E) c g = sL (sI u c g) d E := congrArg (fun z => sL z d E) (sI_sI u c f g)
theorem bk_end {u : Sg} {M : Nat → Int32} {E : Nat → Int64} (h : u.1 11 = M) : sL (sI (sI u 13 M) 11 M) 4 E = sL (sI u 13 M) 4 E := by
  rw [sI_id ((sI_ne _ _ (by decide)).trans h)]
