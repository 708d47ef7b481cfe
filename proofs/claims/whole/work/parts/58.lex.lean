/-- whether byte k of a tape of t bytes lies between a and b -/
def isB (T : Nat → Int32) (t k : Nat) (a b : Int32) : Bool := if t ≤ k then false else inI (T k) a b
/-- the first k letters of word w stand on the tape at b -/
def eqN (T : Nat → Int32) (b w : Nat) : Nat → Bool
  | 0 => true
  | k + 1 => eqN T b w k && decide (nmB (8 * w + k) = T (b + k))
def nm0 (w n : Nat) : Bool := if 8 < n then false else if n = 8 then true else decide (nmB (8 * w + n) = 0)
def isN (T : Nat → Int32) (b w n : Nat) : Bool := nm0 w n && eqN T b w n
theorem eqN_f {T : Nat → Int32} {b w k : Nat} (h : eqN T b w k = false) : ∀ n, eqN T b w (k + n) = false := by
  intro n
  induction n with
  | zero => exact h
  | succ n ih => show (eqN T b w (k + n) && _) = false; rw [ih]; rfl
theorem isN_f {T : Nat → Int32} {b w k n : Nat} {i : Bool} (h : i = (nm0 w n && eqN T b w k)) (hk : k ≤ n) (hi : i = false) : i = isN T b w n := by
  obtain ⟨d, rfl⟩ := Nat.exists_eq_add_of_le hk
  subst hi
  unfold isN
  cases h0 : nm0 w (k + d)
  · rfl
  · rw [h0, Bool.true_and] at h
    rw [eqN_f h.symm d]; rfl
theorem isN_s {T : Nat → Int32} {b w k n : Nat} {i : Bool} (h : i = (nm0 w n && eqN T b w k)) (hi : i = true) : decide (nmB (8 * w + k) = T (b + k)) = (nm0 w n && eqN T b w (k + 1)) := by
  subst hi
  show _ = (nm0 w n && (eqN T b w k && _))
  rw [← Bool.and_assoc, ← h, Bool.true_and]
def wdG (T : Nat → Int32) (b n : Nat) : Nat → Nat → Nat
  | 0, _ => 23
  | f + 1, w => if isN T b w n = true then w else wdG T b n f (w + 1)
/-- the number of the word of n letters at b, or 23 -/
def wdH (T : Nat → Int32) (b n : Nat) : Nat := wdG T b n 10 0
theorem wdG_0 {T : Nat → Int32} {b n w : Nat} (h : 10 ≤ w) : wdG T b n (10 - w) w = 23 := by
  rw [show 10 - w = 0 by omega]; rfl
theorem wdG_t {T : Nat → Int32} {b n w : Nat} (h : w < 10) (hi : isN T b w n = true) : wdG T b n (10 - w) w = w := by
  rw [show 10 - w = (9 - w) + 1 by omega]
  show (if _ then _ else _) = _
  rw [if_pos hi]
theorem wdG_f {T : Nat → Int32} {b n w : Nat} (h : w < 10) (hi : isN T b w n = false) : wdG T b n (10 - w) w = wdG T b n (10 - (w + 1)) (w + 1) := by
  rw [show 10 - w = (9 - w) + 1 by omega]
  show (if _ then _ else _) = _
  rw [if_neg (by rw [hi]; decide), show 10 - (w + 1) = 9 - w by omega]
