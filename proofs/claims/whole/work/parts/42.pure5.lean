theorem stE_a {M : Nat → Int32} (h : Wf M) {p : Nat} {b : Bool} (hb : b = askB M p) (hc : b = true) : stE M p = if M (5 + 6 * p + 1) = 0 then upd (ask1 M p) (5 + 6 * p + 3) 99 else cmI (ask1 M p) p := by
  rw [hc] at hb
  unfold askB at hb
  by_cases c : M 2 ≤ 0
  · rw [if_pos c] at hb; cases hb
  · rw [if_neg c] at hb
    rw [stE, if_neg (by rw [opn, if_neg c]; decide), if_pos hb.symm]
theorem stE_n {M : Nat → Int32} (h : Wf M) {p : Nat} {b : Bool} (hb : b = askB M p) (hc : b = false) : stE M p = if 0 < M 2 ∨ M (5 + 6 * p + 1) = 1 then cmI M p else M := by
  rw [hc] at hb
  unfold askB at hb
  by_cases c : M 2 ≤ 0
  · rw [stE, if_pos (by rw [opn, if_pos c])]
    have c2 : ¬ 0 < M 2 := Int32.not_lt.mpr c
    simp only [c2, false_or]
  · rw [if_neg c] at hb
    rw [stE, if_neg (by rw [opn, if_neg c]; decide), if_neg (by rw [← hb]; decide), if_pos (Or.inl (Int32.not_le.mp c))]
theorem askB_open {M : Nat → Int32} {p : Nat} (h : askB M p = true) (c : M 2 ≤ 0) : False := by
  unfold askB at h
  rw [if_pos c] at h; cases h
theorem nP0 (M : Nat → Int32) (v : Int32) : nP (upd M 0 v) = nP M := nP_up (by decide)
theorem gB0 (M : Nat → Int32) (v : Int32) (p : Nat) (o : Bool) : gB (upd M 0 v) p o = gB M p o := by
  unfold gB
  rw [up_ne _ _ (by omega), up_ne _ _ (by omega)]
theorem wk1_0 (M : Nat → Int32) (v : Int32) (o : Bool) (p : Nat) : wk1 (upd M 0 v) o p = upd (wk1 M o p) 0 v := by
  unfold wk1
  rw [up_ne _ _ (by omega), up_ne _ _ (by omega), gB0]
  split
  · rw [up_comm _ (by omega)]
  · rfl
theorem wkN_0 (M : Nat → Int32) (v : Int32) (o : Bool) : ∀ n : Nat, wkN (upd M 0 v) o n = upd (wkN M o n) 0 v
  | 0 => rfl
  | p + 1 => by rw [wkN, wkN_0 M v o p, wk1_0, wkN]
theorem nrN0 (M : Nat → Int32) (v : Int32) : ∀ n : Nat, nrN (upd M 0 v) n = nrN M n
  | 0 => rfl
  | p + 1 => by rw [nrN, nrN, nrN0 M v p, up_ne _ _ (by omega), up_ne _ _ (by omega)]
theorem hF0 (M : Nat → Int32) (v : Int32) (p q : Nat) : hF (upd M 0 v) p q = hF M p q := by
  unfold hF
  rw [up_ne _ _ (by omega), up_ne _ _ (by omega), up_ne _ _ (by omega), up_ne _ _ (by omega)]
theorem cmO0 (M : Nat → Int32) (v : Int32) (p : Nat) : cmO (upd M 0 v) p = cmO M p := by
  unfold cmO
  rw [nP0, nrN0, hF0]
theorem cm20 (M : Nat → Int32) (v : Int32) (p : Nat) : cm2 (upd M 0 v) p = cm2 M p := by
  unfold cm2
  rw [cmO0, up_ne _ _ (by decide)]
theorem cmI_0 (M : Nat → Int32) (v : Int32) (p : Nat) : cmI (upd M 0 v) p = upd (cmI M p) 0 v := by
  unfold cmI
  rw [up_comm M (show 0 ≠ 5 + 6 * p + 4 by omega), up_comm _ (show 0 ≠ 3 by decide), cm20, up_comm _ (show 0 ≠ 2 by decide)]
theorem ask1_0 (M : Nat → Int32) (v : Int32) (p : Nat) : ask1 (upd M 0 v) p = upd (ask1 M p) 0 v := by
  unfold ask1
  rw [up_ne _ _ (by omega), up_comm _ (by omega)]
theorem opn0 (M : Nat → Int32) (v : Int32) : opn (upd M 0 v) = opn M := by
  unfold opn
  rw [up_ne _ _ (by decide)]
theorem aB0 (M : Nat → Int32) (v : Int32) (p : Nat) : aB (upd M 0 v) p = aB M p := by
  unfold aB aK
  rw [up_ne M v (show 3 ≠ 0 by decide), up_ne M v (show 1 ≠ 0 by decide), up_ne M v (show 5 + 6 * (M 3).toNatClampNeg + 0 ≠ 0 by omega), up_ne M v (show 5 + 6 * p + 2 ≠ 0 by omega)]
theorem stE_up0 (M : Nat → Int32) (v : Int32) (p : Nat) : stE (upd M 0 v) p = upd (stE M p) 0 v := by
  unfold stE
  rw [opn0, aB0, up_ne _ _ (by omega), cmI_0, ask1_0, cmI_0, up_comm _ (show 0 ≠ 5 + 6 * p + 3 by omega)]
  (repeat' split) <;> rfl
theorem st1_up0 (M : Nat → Int32) (v : Int32) (p : Nat) : st1 (upd M 0 v) p = upd (st1 M p) 0 v := by
  unfold st1
  rw [up_ne _ _ (by omega), up_ne _ _ (by omega), stE_up0]
  (repeat' split) <;> rfl
theorem stN_up0 (M : Nat → Int32) (v : Int32) : ∀ n : Nat, stN (upd M 0 v) n = upd (stN M n) 0 v
  | 0 => rfl
  | p + 1 => by rw [stN, stN_up0 M v p, st1_up0, stN]
theorem dn2_up0 (M : Nat → Int32) (v : Int32) : dn2 (upd M 0 v) = upd (dn2 M) 0 v := by
  unfold dn2
  rw [up_ne _ _ (by decide)]
  split
  · rfl
  · rw [up_comm _ (by decide)]
theorem sec1_up0 (M : Nat → Int32) (v : Int32) : sec1 (upd M 0 v) = upd (sec1 M) 0 v := by
  unfold sec1
  rw [opn0, nP0, wkN_0, stN_up0, dn2_up0]
theorem tik_goN (M : Nat → Int32) (k : Nat) : tik (goN M k) = goN M (k + 1) := by
  unfold tik goN
  rw [sec1_up0, up_at, up_up, secN, Int32.add_assoc, nI_1]
theorem goN_0 (M : Nat → Int32) : goN M 0 = M := by
  unfold goN
  rw [secN]
  exact up_same (by rw [nI_0]; simp)
