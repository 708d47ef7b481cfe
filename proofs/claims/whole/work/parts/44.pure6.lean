def cpN (A B : Nat → Int32) (k : Nat) : Nat → Int32 := fun j => if j < k then A j else B j
theorem cpN_0 (A B : Nat → Int32) : cpN A B 0 = B := funext fun j => by simp [cpN]
theorem cpN_s (A B : Nat → Int32) (k : Nat) : upd (cpN A B k) k (A k) = cpN A B (k + 1) := funext fun j => by
  simp only [cpN, upd]
  by_cases h : j = k
  · subst h; rw [if_pos rfl, if_pos (by omega)]
  · rw [if_neg h]
    by_cases h2 : j < k
    · rw [if_pos h2, if_pos (by omega)]
    · rw [if_neg h2, if_neg (by omega)]
theorem cpN_all {A B : Nat → Int32} (hA : ∀ j : Nat, 53 ≤ j → A j = 0) (hB : ∀ j : Nat, 53 ≤ j → B j = 0) : cpN A B 53 = A := funext fun j => by
  simp only [cpN]
  by_cases h : j < 53
  · rw [if_pos h]
  · rw [if_neg h, hA j (by omega), hB j (by omega)]
/-- the order in which the reference lays one more down -/
def adM (M : Nat → Int32) (n : Nat) (k f ld b : Int32) : Nat → Int32 := upd (upd (upd (upd (upd (upd (upd M 4 (nI (n + 1))) (5 + 6 * n + 0) k) (5 + 6 * n + 1) b) (5 + 6 * n + 2) ld) (5 + 6 * n + 3) f) (5 + 6 * n + 4) 0) (5 + 6 * n + 5) 0
theorem adM_C (M : Nat → Int32) (n : Nat) (k f : Int32) : adM M n k f 0 1 = adC M n k f := by
  unfold adM adC
  rw [up_comm M (show 4 ≠ 5 + 6 * n + 0 by omega), up_comm _ (show 4 ≠ 5 + 6 * n + 1 by omega), up_comm _ (show 4 ≠ 5 + 6 * n + 2 by omega), up_comm _ (show 4 ≠ 5 + 6 * n + 3 by omega), up_comm _ (show 4 ≠ 5 + 6 * n + 4 by omega), up_comm _ (show 4 ≠ 5 + 6 * n + 5 by omega)]
theorem loC_bit {M : Nat → Int32} {k : Nat} (h : loS M (nP M) = nI k) : bitC (nI k) = loC M := by
  rw [loC, h]
/-- a search that holds what it found -/
def SI9 (P : Nat → Bool) (N c : Nat) (b : Int32) : Prop := (b = -1 ∧ fst1 P (N - c) c = fst1 P N 0) ∨ (0 ≤ b ∧ b = fst1 P N 0)
theorem SI9_0 (P : Nat → Bool) (N : Nat) : SI9 P N 0 (-1) := Or.inl ⟨rfl, rfl⟩
theorem SI9_end {P : Nat → Bool} {N c : Nat} {b : Int32} (h : SI9 P N c b) (h2 : N ≤ c ∨ 0 ≤ b) : b = fst1 P N 0 := by
  rcases h with ⟨h3, h4⟩ | ⟨h3, h4⟩
  · rcases h2 with h2 | h2
    · rw [← h4, show N - c = 0 by omega, fst1]; exact h3
    · rw [h3] at h2; exact absurd h2 (by decide)
  · exact h4
theorem SI9_hit {P : Nat → Bool} {N c : Nat} {b : Int32} (h : SI9 P N c b) (hb : ¬ 0 ≤ b) (hc : c < N) (hN : N < 2147483648) (hp : P c = true) : SI9 P N (c + 1) (nI c) := by
  rcases h with ⟨h3, h4⟩ | ⟨h3, h4⟩
  · refine Or.inr ⟨nI_pos' (by omega), ?_⟩
    rw [← h4, fst1_s (by omega), if_pos hp]
  · exact absurd h3 hb
theorem SI9_miss {P : Nat → Bool} {N c : Nat} {b : Int32} (h : SI9 P N c b) (hb : ¬ 0 ≤ b) (hc : c < N) (hp : ¬ P c = true) : SI9 P N (c + 1) (-1) := by
  rcases h with ⟨h3, h4⟩ | ⟨h3, h4⟩
  · refine Or.inl ⟨rfl, ?_⟩
    rw [← h4, fst1_s (d := N - c) (by omega), if_neg hp]; rfl
  · exact absurd h3 hb
def SD9 (P : Nat → Bool) (k : Nat) (b : Int32) : Prop := (b = -1 ∧ dnF P k = dnF P 200) ∨ (0 ≤ b ∧ b = dnF P 200)
theorem SD9_end {P : Nat → Bool} {k : Nat} {b : Int32} (h : SD9 P k b) (h2 : k = 0 ∨ 0 ≤ b) : b = dnF P 200 := by
  rcases h with ⟨h3, h4⟩ | ⟨h3, h4⟩
  · rcases h2 with h2 | h2
    · rw [← h4, h2, dnF]; exact h3
    · rw [h3] at h2; exact absurd h2 (by decide)
  · exact h4
theorem SD9_hit {P : Nat → Bool} {k : Nat} {b : Int32} (h : SD9 P k b) (hb : ¬ 0 ≤ b) (hk : 0 < k) (hk2 : k ≤ 200) (hp : P (k - 1) = true) : SD9 P (k - 1) (nI (k - 1)) := by
  rcases h with ⟨h3, h4⟩ | ⟨h3, h4⟩
  · refine Or.inr ⟨nI_pos' (by omega), ?_⟩
    rw [← h4, dnF_s hk, if_pos hp]
  · exact absurd h3 hb
theorem SD9_miss {P : Nat → Bool} {k : Nat} {b : Int32} (h : SD9 P k b) (hb : ¬ 0 ≤ b) (hk : 0 < k) (hp : ¬ P (k - 1) = true) : SD9 P (k - 1) (-1) := by
  rcases h with ⟨h3, h4⟩ | ⟨h3, h4⟩
  · refine Or.inl ⟨rfl, ?_⟩
    rw [← h4, dnF_s hk, if_neg hp]
  · exact absurd h3 hb
theorem nP_go2 (M : Nat → Int32) (j : Nat) (v : Int32) (h : j ≠ 4) (n : Nat) : nP (goN (upd M j v) n) = nP M := by
  rw [nP_goN, nP_up h]
