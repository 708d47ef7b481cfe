def atN (X : Nat → Int32) : Nat := (X 9).toNatClampNeg
theorem runN_ge {T : Nat → Int32} {t : Nat} {a b : Int32} : ∀ f k, k ≤ runN T t a b f k := by
  intro f
  induction f with
  | zero => intro k; exact Nat.le_refl _
  | succ f ih =>
    intro k
    show k ≤ (if _ then _ else _)
    split
    · exact Nat.le_trans (Nat.le_succ k) (ih _)
    · exact Nat.le_refl _
theorem runE_ge (T : Nat → Int32) (t : Nat) (a b : Int32) (k : Nat) : k ≤ runE T t a b k := runN_ge _ _
theorem runE_gt {T : Nat → Int32} {t k : Nat} {a b : Int32} (h : isB T t k a b = true) : k < runE T t a b k := by
  rw [runE_t h]; exact runE_ge T t a b (k + 1)
theorem lexR_gt (T : Nat → Int32) (t a : Nat) : (lexR T t a).1 = 22 ∧ a ≤ (lexR T t a).2.2.1 ∨ a < (lexR T t a).2.2.1 := by
  have hb := runE_ge T t 32 32 a
  unfold lexR
  simp only
  split
  · exact Or.inl ⟨rfl, hb⟩
  · split
    · rename_i h; exact Or.inr (Nat.lt_of_le_of_lt hb (runE_gt h))
    · split
      · rename_i h; exact Or.inr (Nat.lt_of_le_of_lt hb (runE_gt h))
      · exact Or.inr (Nat.lt_succ_of_le hb)
theorem rdF_gt {T X : Nat → Int32} {t : Nat} (ht : t ≤ 120) (h : LX t X) : (rdF T t X 7 = 22 ∧ atN X ≤ atN (rdF T t X)) ∨ atN X < atN (rdF T t X) := by
  obtain ⟨h6, a, ha, h9⟩ := h
  have e1 : atN X = a := by unfold atN; rw [h9, nI_clamp (by omega)]
  have hl := lexR_le (T := T) ha
  have e2 : atN (rdF T t X) = (lexR T t a).2.2.1 := by
    unfold atN rdF
    rw [h9, nI_clamp (show a < 2 ^ 31 by omega)]
    unfold rdX
    rw [up_ne _ _ (by decide), up_ne _ _ (by decide), up_ne _ _ (by decide), up_at, nI_clamp (by omega)]
  have e3 : rdF T t X 7 = nI (lexR T t a).1 := by
    unfold rdF
    rw [h9, nI_clamp (show a < 2 ^ 31 by omega)]
    unfold rdX
    rw [up_at]
  rw [e1, e2, e3]
  rcases lexR_gt T t a with ⟨q, r⟩ | q
  · exact Or.inl ⟨by rw [q]; rfl, r⟩
  · exact Or.inr q
theorem rdF_ge {T X : Nat → Int32} {t : Nat} (ht : t ≤ 120) (h : LX t X) : atN X ≤ atN (rdF T t X) := by
  rcases rdF_gt (T := T) ht h with ⟨_, r⟩ | q
  · exact r
  · exact Nat.le_of_lt q
theorem atN_up {X : Nat → Int32} {k : Nat} {v : Int32} (h : 9 ≠ k) : atN (upd X k v) = atN X := by unfold atN; rw [up_ne _ _ h]
theorem atN_le {X : Nat → Int32} {t : Nat} (ht : t ≤ 120) (h : LX t X) : atN X ≤ t := by
  obtain ⟨h6, a, ha, h9⟩ := h
  unfold atN; rw [h9, nI_clamp (by omega)]; exact ha
theorem ps_ge {T X : Nat → Int32} {t : Nat} {w : Int32} (ht : t ≤ 120) (h : LX t X) : atN X ≤ atN (psX T t X w) := by
  unfold psX
  split
  · exact rdF_ge ht h
  · exact Nat.le_refl _
theorem nu_ge {T X : Nat → Int32} {t : Nat} {a b : Int32} (ht : t ≤ 120) (h : LX t X) : atN X ≤ atN (nuX T t X a b) := by
  unfold nuX
  split
  · rw [atN_up (by decide)]; exact Nat.le_refl _
  · have q := rdF_ge (T := T) ht (LX_up (k := 11) (v := 0) h (by decide) (by decide))
    rw [atN_up (by decide)] at q
    exact q
theorem pf_ge {T X : Nat → Int32} {t : Nat} {w a b : Int32} (ht : t ≤ 120) (h : LX t X) : atN X ≤ atN (pfX T t X w a b) := by
  unfold pfX
  split
  · exact Nat.le_trans (ps_ge (T := T) (w := w) ht h) (nu_ge ht (LX_ps ht h))
  · exact ps_ge ht h
theorem pi_ge {T X : Nat → Int32} {t n : Nat} (ht : t ≤ 120) (h : LX t X) : atN X ≤ atN (piX T t n X) := by
  unfold piX
  have h0 : LX t (upd X 11 0) := LX_up h (by decide) (by decide)
  have h1 : LX t (rdF T t (upd X 11 0)) := LX_rd ht h0
  have h2 : LX t (pi2 T t X) := LX_nu ht h1
  have h3 : LX t (pi3 T t X) := LX_pf ht h2
  split
  · rw [atN_up (by decide)]; exact Nat.le_refl _
  · have q1 := rdF_ge (T := T) ht h0
    rw [atN_up (by decide)] at q1
    have q2 : _ ≤ atN (pi2 T t X) := nu_ge (a := 0) (b := 999) ht h1
    have q3 : _ ≤ atN (pi3 T t X) := pf_ge (w := 6) (a := 0) (b := 9) ht h2
    have q4 : _ ≤ atN (pi4 T t X) := ps_ge (w := 7) ht h3
    omega
theorem it_ge {T X : Nat → Int32} {t n : Nat} (ht : t ≤ 120) (h : LX t X) : atN X ≤ atN (itX T t n X) := by
  have h1 : LX t (psX T t X 8) := LX_ps ht h
  have h2 : LX t (psX T t (psX T t X 8) 9) := LX_ps ht h1
  have q1 := ps_ge (T := T) (w := 8) ht h
  have q2 := ps_ge (T := T) (w := 9) ht h1
  unfold itX
  split
  · exact pi_ge ht h
  · split
    · exact Nat.le_trans q1 (nu_ge ht h1)
    · split
      · exact Nat.le_trans q1 (Nat.le_trans q2 (nu_ge ht h2))
      · rw [atN_up (by decide)]; exact Nat.le_trans q1 q2
/-- how many more items can follow -/
def rkX (t : Nat) (X : Nat → Int32) : Nat := if X 11 = 0 then t - atN X + 1 else 0
theorem it_over {T X : Nat → Int32} {t n : Nat} (h : X 7 = 22) : itX T t n X = upd X 11 1 := by
  have p8 : psB X 8 = false := by unfold psB; rw [h]; split <;> rfl
  have p9 : psB X 9 = false := by unfold psB; rw [h]; split <;> rfl
  have e8 : psX T t X 8 = X := by unfold psX; rw [p8]; rfl
  have e9 : psX T t X 9 = X := by unfold psX; rw [p9]; rfl
  unfold itX
  rw [if_neg (by rw [h]; decide), if_neg (by rw [p8]; decide), e8, if_neg (by rw [p9]; decide), e9]
theorem rk_it {T X : Nat → Int32} {t n : Nat} (ht : t ≤ 120) (h : LX t X) (hp : psB X 21 = true) : rkX t (itX T t n (psX T t X 21)) < rkX t X := by
  have hb : X 11 = 0 := by
    unfold psB at hp
    split at hp
    · assumption
    · exact absurd hp (by decide)
  have e : psX T t X 21 = rdF T t X := by unfold psX; rw [hp]; rfl
  rw [e]
  have hY : LX t (rdF T t X) := LX_rd ht h
  have rX : rkX t X = t - atN X + 1 := by unfold rkX; rw [if_pos hb]
  rw [rX]
  rcases rdF_gt (T := T) ht h with ⟨q, _⟩ | q
  · rw [it_over q]; unfold rkX; rw [up_at, if_neg (by decide)]; omega
  · have q2 := it_ge (T := T) (n := n) ht hY
    have q3 := atN_le ht (LX_it (T := T) (n := n) ht hY)
    unfold rkX
    split <;> omega
