theorem in01 {w : Int32} (h : inI w 0 1 = true) : w = 0 ∨ w = 1 := by
  obtain ⟨j, -, h2, e⟩ := inI_nat h rfl rfl (na := 0) (nb := 1) (by decide) (by decide)
  rcases (show j = 0 ∨ j = 1 by omega) with rfl | rfl
  · exact Or.inl e
  · exact Or.inr e
theorem in06 {w : Int32} (h : inI w 0 6 = true) : w = 0 ∨ w = 1 ∨ w = 2 ∨ w = 3 ∨ w = 4 ∨ w = 5 ∨ w = 6 := by
  obtain ⟨j, -, h2, rfl⟩ := inI_nat h rfl rfl (na := 0) (nb := 6) (by decide) (by decide)
  rcases (show j = 0 ∨ j = 1 ∨ j = 2 ∨ j = 3 ∨ j = 4 ∨ j = 5 ∨ j = 6 by omega) with rfl | rfl | rfl | rfl | rfl | rfl | rfl <;> decide
theorem in15 {w : Int32} (h : inI w 1 5 = true) : w = 1 ∨ w = 2 ∨ w = 3 ∨ w = 4 ∨ w = 5 := by
  obtain ⟨j, h1, h2, rfl⟩ := inI_nat h rfl rfl (na := 1) (nb := 5) (by decide) (by decide)
  rcases (show j = 1 ∨ j = 2 ∨ j = 3 ∨ j = 4 ∨ j = 5 by omega) with rfl | rfl | rfl | rfl | rfl <;> decide
theorem inP_no {M N : Nat → Int32} {q k : Nat} (hN : N = goN M k) (c : N (5 + 6 * q + 4) = 0) : ¬ inP M q k = true := by
  rw [inP, ← goN_hi (show 5 + 6 * q + 4 ≠ 0 by omega), ← hN, c]; decide
theorem inP_yes {M N : Nat → Int32} (h : Wf M) {q k : Nat} (hq : q < 8) (hN : N = goN M k) (c : ¬ N (5 + 6 * q + 4) = 0) : inP M q k = true := by
  have hw := (Wf_goN h k).w (p := q) (w := 4) hq (by decide)
  rw [← hN] at hw
  have h3 : hiW 4 = 1 := rfl
  have e : (N (5 + 6 * q + 4)).toInt ≠ 0 := fun z => c (ti_eq.mpr z)
  rw [inP, ← goN_hi (show 5 + 6 * q + 4 ≠ 0 by omega), ← hN]
  exact decide_eq_true (ti_eq.mpr (show _ = (1 : Int) by omega))
theorem shP_no {M N : Nat → Int32} {k : Nat} (hN : N = goN M k) (c : ¬ N 2 ≤ 0) : ¬ shP M k = true := by
  rw [shP, ← goN_hi (show 2 ≠ 0 by decide), ← hN]
  intro q
  rw [of_decide_eq_true q] at c
  exact c (by decide)
theorem shP_yes {M N : Nat → Int32} (h : Wf M) {k : Nat} (hN : N = goN M k) (c : N 2 ≤ 0) : shP M k = true := by
  have h2 := (Wf_goN h k).2.2.2.1
  rw [← hN] at h2
  have c2 : (N 2).toInt ≤ 0 := ti_le.mp c
  rw [shP, ← goN_hi (show 2 ≠ 0 by decide), ← hN]
  exact decide_eq_true (ti_eq.mpr (show (N 2).toInt = (0 : Int) by omega))
theorem smN_hi {M : Nat → Int32} {k w : Nat} : ∀ n : Nat, smN (goN M k) w n = smN (secN M k) w n
  | 0 => rfl
  | p + 1 => by rw [smN, smN, smN_hi p, goN_hi (by omega)]
theorem alP_no {M N : Nat → Int32} (h : Wf M) {k : Nat} (hN : N = goN M k) (c : ¬ inS N (nP M) = ((1 : Int32) <<< (nI (nP M) &&& 31)) - 1) : ¬ alP M k = true := by
  rw [alP, ← smN_hi, ← hN]
  intro q
  exact c ((all_iff (hN ▸ Wf_goN h k) h.n8).mp (of_decide_eq_true q))
theorem alP_yes {M N : Nat → Int32} (h : Wf M) {k : Nat} (hN : N = goN M k) (c : inS N (nP M) = ((1 : Int32) <<< (nI (nP M) &&& 31)) - 1) : alP M k = true := by
  rw [alP, ← smN_hi, ← hN]
  exact decide_eq_true ((all_iff (hN ▸ Wf_goN h k) h.n8).mpr c)
/-- the reference's sum over the findings, one of them alone -/
def fS1 (F : Nat → Int32) (j : Nat) : Nat → Int32
  | 0 => 0
  | k + 1 => fS1 F j k + (if k = j then F k else 0)
theorem fS1_lo (F : Nat → Int32) (j : Nat) : ∀ k : Nat, k ≤ j → fS1 F j k = 0
  | 0, _ => rfl
  | k + 1, h => by rw [fS1, fS1_lo F j k (by omega), if_neg (by omega)]; rfl
theorem fS1_hi (F : Nat → Int32) (j : Nat) : ∀ d : Nat, fS1 F j (j + 1 + d) = F j
  | 0 => by rw [Nat.add_zero, fS1, fS1_lo F j j (Nat.le_refl _), if_pos rfl]; simp
  | d + 1 => by rw [show j + 1 + (d + 1) = (j + 1 + d) + 1 from rfl, fS1, fS1_hi F j d, if_neg (by omega)]; simp
theorem fS1_all (F : Nat → Int32) {j : Nat} (h : j < 7) : fS1 F j 7 = F j := by
  have := fS1_hi F j (6 - j)
  rw [show j + 1 + (6 - j) = 7 by omega] at this
  exact this
theorem inm6_f {w : Int32} (h : ¬ w = -1) (h2 : inI w 0 6 = false) : inI w (-1) 6 = false := by
  cases e : inI w (-1) 6
  · rfl
  · exfalso
    obtain ⟨q1, q2⟩ := inI_t e
    rw [show (-1 : Int32).toInt = -1 from rfl] at q1
    rw [show (6 : Int32).toInt = 6 from rfl] at q2
    have h3 : w.toInt ≠ -1 := fun z => h (ti_eq.mpr z)
    rw [inI_of (show (0 : Int32).toInt ≤ w.toInt by show (0 : Int) ≤ _; omega) (show w.toInt ≤ (6 : Int32).toInt from q2)] at h2
    cases h2
