/-- whether byte k of a tape of t bytes lies between a and b -/
def isB (T : Nat → Int32) (t k : Nat) (a b : Int32) : Bool := if t ≤ k then false else inI (T k) a b
/-- the first k letters of word w stand on the tape at b -/
def eqN (T : Nat → Int32) (b w : Nat) : Nat → Bool
  | 0 => true
  | k + 1 => eqN T b w k && decide (nmB (8 * w + k) = T (b + k))
def nm0 (w n : Nat) : Bool := if 8 < n then false else if n = 8 then true else decide (nmB (8 * w + n) = 0)
def isN (T : Nat → Int32) (b w n : Nat) : Bool := nm0 w n && eqN T b w n
theorem eqN_f {T : Nat → Int32} {b w k : Nat} (h : eqN T b w k = false) : ∀ n, eqN T b w (k + n) = false := by
  intro n
  induction n with
  | zero => exact h
  | succ n ih => show (eqN T b w (k + n) && _) = false; rw [ih]; rfl
theorem isN_f {T : Nat → Int32} {b w k n : Nat} {i : Bool} (h : i = (nm0 w n && eqN T b w k)) (hk : k ≤ n) (hi : i = false) : i = isN T b w n := by
  obtain ⟨d, rfl⟩ := Nat.exists_eq_add_of_le hk
  subst hi
  unfold isN
  cases h0 : nm0 w (k + d)
  · rfl
  · rw [h0, Bool.true_and] at h
    rw [eqN_f h.symm d]; rfl
theorem isN_s {T : Nat → Int32} {b w k n : Nat} {i : Bool} (h : i = (nm0 w n && eqN T b w k)) (hi : i = true) : decide (nmB (8 * w + k) = T (b + k)) = (nm0 w n && eqN T b w (k + 1)) := by
  subst hi
  show _ = (nm0 w n && (eqN T b w k && _))
  rw [← Bool.and_assoc, ← h, Bool.true_and]
def wdG (T : Nat → Int32) (b n : Nat) : Nat → Nat → Nat
  | 0, _ => 23
  | f + 1, w => if isN T b w n = true then w else wdG T b n f (w + 1)
/-- the number of the word of n letters at b, or 23 -/
def wdH (T : Nat → Int32) (b n : Nat) : Nat := wdG T b n 10 0
theorem wdG_0 {T : Nat → Int32} {b n w : Nat} (h : 10 ≤ w) : wdG T b n (10 - w) w = 23 := by
  rw [show 10 - w = 0 by omega]; rfl
theorem wdG_t {T : Nat → Int32} {b n w : Nat} (h : w < 10) (hi : isN T b w n = true) : wdG T b n (10 - w) w = w := by
  rw [show 10 - w = (9 - w) + 1 by omega]
  show (if _ then _ else _) = _
  rw [if_pos hi]
theorem wdG_f {T : Nat → Int32} {b n w : Nat} (h : w < 10) (hi : isN T b w n = false) : wdG T b n (10 - w) w = wdG T b n (10 - (w + 1)) (w + 1) := by
  rw [show 10 - w = (9 - w) + 1 by omega]
  show (if _ then _ else _) = _
  rw [if_neg (by rw [hi]; decide), show 10 - (w + 1) = 9 - w by omega]
theorem isB_lt {T : Nat → Int32} {t k : Nat} {a b : Int32} (h : isB T t k a b = true) : k < t := by
  unfold isB at h
  split at h
  · exact absurd h (by decide)
  · omega
def runN (T : Nat → Int32) (t : Nat) (a b : Int32) : Nat → Nat → Nat
  | 0, k => k
  | f + 1, k => if isB T t k a b = true then runN T t a b f (k + 1) else k
/-- the first place from k on whose byte is not between a and b -/
def runE (T : Nat → Int32) (t : Nat) (a b : Int32) (k : Nat) : Nat := runN T t a b (t - k) k
theorem runE_f {T : Nat → Int32} {t k : Nat} {a b : Int32} (h : isB T t k a b = false) : runE T t a b k = k := by
  unfold runE
  cases t - k with
  | zero => rfl
  | succ f => show (if _ then _ else _) = _; rw [if_neg (by rw [h]; decide)]
theorem runE_t {T : Nat → Int32} {t k : Nat} {a b : Int32} (h : isB T t k a b = true) : runE T t a b k = runE T t a b (k + 1) := by
  have hk := isB_lt h
  unfold runE
  rw [show t - k = (t - (k + 1)) + 1 by omega]
  show (if _ then _ else _) = _
  rw [if_pos h]
def digV (v c : Int32) : Int32 := if v ≤ 999 then 10 * v + c - 48 else v
def valN (T : Nat → Int32) (t : Nat) : Nat → Nat → Int32 → Int32
  | 0, _, v => v
  | f + 1, k, v => if isB T t k 48 57 = true then valN T t f (k + 1) (digV v (T k)) else v
def valE (T : Nat → Int32) (t k : Nat) (v : Int32) : Int32 := valN T t (t - k) k v
theorem valE_f {T : Nat → Int32} {t k : Nat} {v : Int32} (h : isB T t k 48 57 = false) : valE T t k v = v := by
  unfold valE
  cases t - k with
  | zero => rfl
  | succ f => show (if _ then _ else _) = _; rw [if_neg (by rw [h]; decide)]
theorem valE_t {T : Nat → Int32} {t k : Nat} {v w : Int32} (h : isB T t k 48 57 = true) (hw : digV v (T k) = w) : valE T t k v = valE T t (k + 1) w := by
  have hk := isB_lt h
  subst hw
  unfold valE
  rw [show t - k = (t - (k + 1)) + 1 by omega]
  show (if _ then _ else _) = _
  rw [if_pos h]
/-- the token from place a on: its code, where it begins, where it ends, its number -/
def lexR (T : Nat → Int32) (t a : Nat) : Nat × Nat × Nat × Int32 :=
  let b := runE T t 32 32 a
  if b = t then (22, b, b, 0)
  else if isB T t b 97 122 = true then (wdH T b (runE T t 97 122 b - b), b, runE T t 97 122 b, 0)
  else if isB T t b 48 57 = true then (20, b, runE T t 48 57 b, valE T t b 0)
  else (if isB T t b 59 59 = true then 21 else 23, b, b + 1, 0)
def rdX (X : Nat → Int32) (R : Nat × Nat × Nat × Int32) : Nat → Int32 := upd (upd (upd (upd X 9 (nI R.2.2.1)) 8 (nI R.2.1)) 10 R.2.2.2) 7 (nI R.1)
theorem lex_over {T : Nat → Int32} {t a b : Nat} (h : runE T t 32 32 a = b) (h1 : b = t) : lexR T t a = (22, b, b, 0) := by
  unfold lexR; simp only [h]; rw [if_pos h1]
theorem lex_word {T : Nat → Int32} {t a b e : Nat} (h : runE T t 32 32 a = b) (h1 : b ≠ t) (h2 : isB T t b 97 122 = true) (he : runE T t 97 122 b = e) : lexR T t a = (wdH T b (e - b), b, e, 0) := by
  unfold lexR; simp only [h]; rw [if_neg h1, if_pos h2, he]
theorem lex_num {T : Nat → Int32} {t a b e : Nat} {v : Int32} (h : runE T t 32 32 a = b) (h1 : b ≠ t) (h2 : isB T t b 97 122 = false) (h3 : isB T t b 48 57 = true) (he : runE T t 48 57 b = e) (hv : valE T t b 0 = v) : lexR T t a = (20, b, e, v) := by
  unfold lexR; simp only [h]; rw [if_neg h1, if_neg (by rw [h2]; decide), if_pos h3, he, hv]
theorem lex_semi {T : Nat → Int32} {t a b : Nat} (h : runE T t 32 32 a = b) (h1 : b ≠ t) (h2 : isB T t b 97 122 = false) (h3 : isB T t b 48 57 = false) (h4 : isB T t b 59 59 = true) : lexR T t a = (21, b, b + 1, 0) := by
  unfold lexR; simp only [h]; rw [if_neg h1, if_neg (by rw [h2]; decide), if_neg (by rw [h3]; decide), if_pos h4]
theorem lex_other {T : Nat → Int32} {t a b : Nat} (h : runE T t 32 32 a = b) (h1 : b ≠ t) (h2 : isB T t b 97 122 = false) (h3 : isB T t b 48 57 = false) (h4 : isB T t b 59 59 = false) : lexR T t a = (23, b, b + 1, 0) := by
  unfold lexR; simp only [h]; rw [if_neg h1, if_neg (by rw [h2]; decide), if_neg (by rw [h3]; decide), if_neg (by rw [h4]; decide)]
theorem x9_9 (X : Nat → Int32) (a b v c : Int32) : upd (upd (upd (upd X 9 a) 8 b) 10 v) 9 c = upd (upd (upd X 9 c) 8 b) 10 v := by
  rw [up_comm _ (by decide), up_comm _ (by decide : (8 : Nat) ≠ 9), up_up]
theorem x9_79 (X : Nat → Int32) (a b v k c : Int32) : upd (upd (upd (upd (upd X 9 a) 8 b) 10 v) 7 k) 9 c = upd (upd (upd (upd X 9 c) 8 b) 10 v) 7 k := by
  rw [up_comm _ (by decide : (7 : Nat) ≠ 9), x9_9]
theorem runN_le {T : Nat → Int32} {t : Nat} {a b : Int32} : ∀ f k, k ≤ t → runN T t a b f k ≤ t := by
  intro f
  induction f with
  | zero => intro k hk; exact hk
  | succ f ih =>
    intro k hk
    show (if _ then _ else _) ≤ t
    split
    · rename_i h; exact ih _ (isB_lt h)
    · exact hk
theorem runE_le {T : Nat → Int32} {t k : Nat} {a b : Int32} (hk : k ≤ t) : runE T t a b k ≤ t := runN_le _ _ hk
theorem lexR_le {T : Nat → Int32} {t a : Nat} (ha : a ≤ t) : (lexR T t a).2.2.1 ≤ t := by
  have hb : runE T t 32 32 a ≤ t := runE_le ha
  unfold lexR
  simp only
  split
  · exact hb
  · split
    · exact runE_le hb
    · split
      · exact runE_le hb
      · show runE T t 32 32 a + 1 ≤ t; omega
def LX (t : Nat) (X : Nat → Int32) : Prop := X 6 = nI t ∧ ∃ a, a ≤ t ∧ X 9 = nI a
def rdF (T : Nat → Int32) (t : Nat) (X : Nat → Int32) : Nat → Int32 := rdX X (lexR T t (X 9).toNatClampNeg)
theorem LX_rd {T X : Nat → Int32} {t : Nat} (ht : t ≤ 120) (h : LX t X) : LX t (rdF T t X) := by
  obtain ⟨h6, a, ha, h9⟩ := h
  unfold rdF
  rw [h9, nI_clamp (by omega)]
  exact ⟨by unfold rdX; rw [up_ne _ _ (by decide), up_ne _ _ (by decide), up_ne _ _ (by decide), up_ne _ _ (by decide)]; exact h6, _, lexR_le ha, by unfold rdX; rw [up_ne _ _ (by decide), up_ne _ _ (by decide), up_ne _ _ (by decide), up_at]⟩
theorem LX_up {X : Nat → Int32} {t k : Nat} {v : Int32} (h : LX t X) (h6 : 6 ≠ k) (h9 : 9 ≠ k) : LX t (upd X k v) := by
  obtain ⟨e6, a, ha, e9⟩ := h
  exact ⟨by rw [up_ne _ _ h6]; exact e6, a, ha, by rw [up_ne _ _ h9]; exact e9⟩
/-- whether word w stands here, all well so far; and what follows -/
def psB (X : Nat → Int32) (w : Int32) : Bool := if X 11 = 0 then (if X 7 = w then true else false) else false
def psX (T : Nat → Int32) (t : Nat) (X : Nat → Int32) (w : Int32) : Nat → Int32 := if psB X w = true then rdF T t X else X
theorem LX_ps {T X : Nat → Int32} {t : Nat} {w : Int32} (ht : t ≤ 120) (h : LX t X) : LX t (psX T t X w) := by
  unfold psX
  split
  · exact LX_rd ht h
  · exact h
/-- whether a number from a to b is missing here; and what follows -/
def nuB (X : Nat → Int32) (a b : Int32) : Bool := if X 11 = 0 then (if X 7 = 20 then (if inI (X 10) a b = true then false else true) else true) else true
def nuX (T : Nat → Int32) (t : Nat) (X : Nat → Int32) (a b : Int32) : Nat → Int32 := if nuB X a b = true then upd X 11 1 else rdF T t (upd X 11 0)
theorem LX_nu {T X : Nat → Int32} {t : Nat} {a b : Int32} (ht : t ≤ 120) (h : LX t X) : LX t (nuX T t X a b) := by
  unfold nuX
  split
  · exact LX_up h (by decide) (by decide)
  · exact LX_rd ht (LX_up h (by decide) (by decide))
