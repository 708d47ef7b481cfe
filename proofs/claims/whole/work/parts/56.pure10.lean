theorem f_copy_v (s a t b n : Int32) (B : Nat → Nat → Int32) : f_copy s a t b n B = 0 ∨ f_copy s a t b n B = -1000000001 ∨ f_copy s a t b n B = -1000000006 ∨ f_copy s a t b n B = -1000000003 := by
  unfold f_copy
  (repeat' split) <;> simp
theorem f_copy_ok {s a t b n : Int32} {B : Nat → Nat → Int32} (h : f_copy s a t b n B = 0) : inI s 0 3 = true ∧ inI t 0 3 = true ∧ hasR (B s.toNatClampNeg 1) a n = true ∧ hasR (B t.toNatClampNeg 1) b n = true := by
  unfold f_copy at h
  cases h1 : inI s 0 3
  · rw [h1, if_pos rfl] at h; exact absurd h (by decide)
  · rw [h1, if_neg (by decide)] at h
    cases h2 : inI t 0 3
    · rw [h2, if_pos rfl] at h; exact absurd h (by decide)
    · rw [h2, if_neg (by decide)] at h
      split at h
      · exact absurd h (by decide)
      · split at h
        · exact absurd h (by decide)
        · split at h
          · exact absurd h (by decide)
          · cases h3 : hasR (B s.toNatClampNeg 1) a n
            · rw [h3, if_pos rfl] at h; exact absurd h (by decide)
            · rw [h3, if_neg (by decide)] at h
              cases h4 : hasR (B t.toNatClampNeg 1) b n
              · rw [h4, if_pos rfl] at h; exact absurd h (by decide)
              · exact ⟨rfl, rfl, rfl, rfl⟩
