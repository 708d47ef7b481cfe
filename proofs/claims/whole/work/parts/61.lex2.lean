def pfX (T : Nat → Int32) (t : Nat) (X : Nat → Int32) (w a b : Int32) : Nat → Int32 := if psB X w = true then nuX T t (psX T t X w) a b else psX T t X w
def pfV (T : Nat → Int32) (t : Nat) (X : Nat → Int32) (w a b so : Int32) : Int32 := if psB X w = true then psX T t X w 10 else so
theorem LX_pf {T X : Nat → Int32} {t : Nat} {w a b : Int32} (ht : t ≤ 120) (h : LX t X) : LX t (pfX T t X w a b) := by
  unfold pfX
  split
  · exact LX_nu ht (LX_ps ht h)
  · exact LX_ps ht h
/-- a told person: the reader's fields after it, and the morning -/
def pi2 (T : Nat → Int32) (t : Nat) (X : Nat → Int32) : Nat → Int32 := nuX T t (rdF T t (upd X 11 0)) 0 999
def pi3 (T : Nat → Int32) (t : Nat) (X : Nat → Int32) : Nat → Int32 := pfX T t (pi2 T t X) 6 0 9
def pi4 (T : Nat → Int32) (t : Nat) (X : Nat → Int32) : Nat → Int32 := psX T t (pi3 T t X) 7
def piX (T : Nat → Int32) (t n : Nat) (X : Nat → Int32) : Nat → Int32 := if n = 8 then upd X 11 1 else pi4 T t X
def piM (T : Nat → Int32) (t n : Nat) (M X : Nat → Int32) : Nat → Int32 := if n = 8 then M else if pi4 T t X 11 = 0 then adM M n (X 7) (rdF T t (upd X 11 0) 10) (pfV T t (pi2 T t X) 6 0 9 0) (if psB (pi3 T t X) 7 = true then 0 else 1) else M
theorem LX_pi {T X : Nat → Int32} {t n : Nat} (ht : t ≤ 120) (h : LX t X) : LX t (piX T t n X) := by
  unfold piX
  split
  · exact LX_up h (by decide) (by decide)
  · exact LX_ps ht (LX_pf ht (LX_nu ht (LX_rd ht (LX_up h (by decide) (by decide)))))
/-- an item: the reader's fields after it, and the morning -/
def itX (T : Nat → Int32) (t n : Nat) (X : Nat → Int32) : Nat → Int32 := if X 7 ≤ 5 then piX T t n X else if psB X 8 = true then nuX T t (psX T t X 8) 0 99 else if psB (psX T t X 8) 9 = true then nuX T t (psX T t (psX T t X 8) 9) 0 60 else upd (psX T t (psX T t X 8) 9) 11 1
def itM (T : Nat → Int32) (t n : Nat) (M X : Nat → Int32) : Nat → Int32 := if X 7 ≤ 5 then piM T t n M X else if psB X 8 = true then upd M 1 (psX T t X 8 10) else if psB (psX T t X 8) 9 = true then upd M 2 (psX T t (psX T t X 8) 9 10) else M
theorem LX_it {T X : Nat → Int32} {t n : Nat} (ht : t ≤ 120) (h : LX t X) : LX t (itX T t n X) := by
  unfold itX
  split
  · exact LX_pi ht h
  · split
    · exact LX_nu ht (LX_ps ht h)
    · split
      · exact LX_nu ht (LX_ps ht (LX_ps ht h))
      · exact LX_up (LX_ps ht (LX_ps ht h)) (by decide) (by decide)
