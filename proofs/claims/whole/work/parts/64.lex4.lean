theorem adM_4 (M : Nat → Int32) (n : Nat) (k f ld b : Int32) : adM M n k f ld b 4 = nI (n + 1) := by
  unfold adM
  rw [up_ne _ _ (by omega), up_ne _ _ (by omega), up_ne _ _ (by omega), up_ne _ _ (by omega), up_ne _ _ (by omega), up_ne _ _ (by omega), up_at]
theorem adM_t {M : Nat → Int32} {n : Nat} {k f ld b : Int32} (hn : n < 8) {j : Nat} (hj : 53 ≤ j) : adM M n k f ld b j = M j := by
  unfold adM
  rw [up_ne _ _ (by omega), up_ne _ _ (by omega), up_ne _ _ (by omega), up_ne _ _ (by omega), up_ne _ _ (by omega), up_ne _ _ (by omega), up_ne _ _ (by omega)]
theorem itM_4 {T M X : Nat → Int32} {t n : Nat} (hn : n ≤ 8) (h : M 4 = nI n) : ∃ m, m ≤ 8 ∧ itM T t n M X 4 = nI m := by
  unfold itM piM
  split
  · split
    · exact ⟨n, hn, h⟩
    · split
      · exact ⟨n + 1, by omega, adM_4 _ _ _ _ _ _⟩
      · exact ⟨n, hn, h⟩
  · split
    · exact ⟨n, hn, by rw [up_ne _ _ (by decide)]; exact h⟩
    · split
      · exact ⟨n, hn, by rw [up_ne _ _ (by decide)]; exact h⟩
      · exact ⟨n, hn, h⟩
theorem itM_n {T M X : Nat → Int32} {t n : Nat} (hn : n ≤ 8) (h : M 4 = nI n) : itM T t n M X 4 = nI (nP (itM T t n M X)) ∧ nP (itM T t n M X) ≤ 8 := by
  obtain ⟨m, hm, e⟩ := itM_4 (T := T) (X := X) (t := t) hn h
  have q : nP (itM T t n M X) = m := by unfold nP; rw [e, nI_clamp (by omega)]
  rw [q]; exact ⟨e, hm⟩
theorem itM_t {T M X : Nat → Int32} {t n : Nat} (hn : n ≤ 8) (h : ∀ k : Nat, 53 ≤ k → M k = 0) : ∀ k : Nat, 53 ≤ k → itM T t n M X k = 0 := by
  intro k hk
  unfold itM piM
  split
  · split
    · exact h k hk
    · split
      · rw [adM_t (by omega) hk]; exact h k hk
      · exact h k hk
  · split
    · rw [up_ne _ _ (by omega)]; exact h k hk
    · split
      · rw [up_ne _ _ (by omega)]; exact h k hk
      · exact h k hk
/-- item after item: fields, morning, how many -/
def mrS (T : Nat → Int32) (t : Nat) : Nat → (Nat → Int32) → (Nat → Int32) → Nat → (Nat → Int32) × (Nat → Int32) × Nat
  | 0, X, M, i => (psX T t X 21, M, i)
  | f + 1, X, M, i => if psB X 21 = true then mrS T t f (itX T t (nP M) (psX T t X 21)) (itM T t (nP M) M (psX T t X 21)) (i + 1) else (psX T t X 21, M, i)
theorem mr_stop {T X M : Nat → Int32} {t f i : Nat} (h : psB X 21 = false) : mrS T t f X M i = (psX T t X 21, M, i) := by
  cases f with
  | zero => rfl
  | succ f => show (if _ then _ else _) = _; rw [if_neg (by rw [h]; decide)]
theorem mr_step {T X M : Nat → Int32} {t f i : Nat} (h : psB X 21 = true) (hf : 0 < f) : mrS T t f X M i = mrS T t (f - 1) (itX T t (nP M) (psX T t X 21)) (itM T t (nP M) M (psX T t X 21)) (i + 1) := by
  cases f with
  | zero => exact absurd hf (by decide)
  | succ f => show (if _ then _ else _) = _; rw [if_pos h]; rfl
theorem rk_pos {X : Nat → Int32} {t : Nat} (h : psB X 21 = true) : 0 < rkX t X := by
  unfold psB at h
  split at h
  · rename_i q; unfold rkX; rw [if_pos q]; omega
  · exact absurd h (by decide)
theorem rk_le {X : Nat → Int32} {t : Nat} (ht : t ≤ 120) : rkX t X ≤ 121 := by
  unfold rkX; split <;> omega
/-- the first item read, and all that follow -/
def mX0 (T : Nat → Int32) (t : Nat) (X : Nat → Int32) : Nat → Int32 := rdF T t (upd (upd X 9 0) 11 0)
def mR (T : Nat → Int32) (t : Nat) (M X : Nat → Int32) : (Nat → Int32) × (Nat → Int32) × Nat := mrS T t 121 (itX T t (nP M) (mX0 T t X)) (itM T t (nP M) M (mX0 T t X)) 1
def mBad (X : Nat → Int32) : Bool := if X 11 = 0 then (if X 7 = 22 then false else true) else true
def mAns (R : (Nat → Int32) × (Nat → Int32) × Nat) : Int32 := if mBad R.1 = true then -1 - R.1 8 else nI R.2.2
def mNew (M : Nat → Int32) (R : (Nat → Int32) × (Nat → Int32) × Nat) : Nat → Int32 := if mBad R.1 = true then M else R.2.1
def mFld (R : (Nat → Int32) × (Nat → Int32) × Nat) : Nat → Int32 := upd (upd R.1 11 (bI (mBad R.1))) 6 0
theorem it_st1 (u : Sg) (M Y Z N : Nat → Int32) : sI (sI (sI (sI u 13 M) 14 Y) 14 Z) 11 N = sI (sI (sI u 13 M) 11 N) 14 Z := by
  rw [sI_sI]; exact sI_comm _ _ _ (by decide)
theorem it_st2 (u : Sg) (M N Y Z N2 : Nat → Int32) : sI (sI (sI (sI (sI u 13 M) 11 N) 14 Y) 14 Z) 11 N2 = sI (sI (sI u 13 M) 11 N2) 14 Z := by
  rw [sI_sI, sI_comm _ _ _ (by decide : (14 : Nat) ≠ 11), sI_sI]
theorem mor_ok {u : Sg} {M N Y : Nat → Int32} {R : (Nat → Int32) × (Nat → Int32) × Nat} {i : Nat} (hR : R = (Y, N, i)) (h11 : Y 11 = 0) (h7 : Y 7 = 22) : nI i = mAns R ∧ sI (sI (sI u 13 M) 11 N) 14 (upd (upd Y 11 0) 6 0) = sI (sI (sI u 13 M) 11 (mNew M R)) 14 (mFld R) := by
  have hb : mBad Y = false := by unfold mBad; rw [if_pos h11, if_pos h7]
  subst hR
  unfold mAns mNew mFld
  simp only [hb, bI, Bool.false_eq_true, ↓reduceIte]
  exact ⟨trivial, trivial⟩
theorem mor_bad {u : Sg} {M N Y : Nat → Int32} {R : (Nat → Int32) × (Nat → Int32) × Nat} {i : Nat} (hR : R = (Y, N, i)) (hb : mBad Y = true) : -1 - Y 8 = mAns R ∧ sI (sI (sI u 13 M) 14 (upd (upd Y 11 1) 6 0)) 11 M = sI (sI (sI u 13 M) 11 (mNew M R)) 14 (mFld R) := by
  subst hR
  unfold mAns mNew mFld
  simp only [hb, bI, ↓reduceIte]
  exact ⟨trivial, sI_comm _ _ _ (by decide)⟩
theorem mBad_1 {Y : Nat → Int32} (h : Y 11 ≠ 0) : mBad Y = true := by unfold mBad; rw [if_neg h]
theorem mBad_2 {Y : Nat → Int32} (h : Y 7 ≠ 22) : mBad Y = true := by
  unfold mBad; rw [if_neg h]; split <;> rfl
