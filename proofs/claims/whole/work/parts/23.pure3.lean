/-! ===== what the calls' walks lean on ===== -/
theorem full_f {M : Nat → Int32} (hM : Wf M) (h : fullB M = false) : nP M < 8 := by
  have h8 := hM.n8
  have hn := hM.n
  unfold fullB at h
  by_cases c : M 4 < 8
  · rw [hn] at c
    have := (nI_ltI (a := nP M) (b := 8) (by omega) (by decide)).mp c
    exact this
  · rw [if_neg c] at h; cases h
theorem full_t {M : Nat → Int32} (hM : Wf M) (h : nP M = 8) : fullB M = true := by
  unfold fullB
  rw [hM.n, h]; rfl
theorem full_n {M : Nat → Int32} (hM : Wf M) (h : nP M < 8) : fullB M = false := by
  unfold fullB
  rw [if_pos (by rw [hM.n]; exact (nI_ltI (a := nP M) (b := 8) (by omega) (by decide)).mpr h)]
theorem wf_kd {M : Nat → Int32} (hM : Wf M) {q : Nat} (h : q < 8) : isKd (M (5 + 6 * q + 0)) = true := by
  have h1 := hM.w (p := q) (w := 0) h (by decide)
  have h3 : hiW 0 = 5 := rfl
  rw [isKd_in]
  exact inI_of (show (0 : Int) ≤ _ by omega) (show _ ≤ (5 : Int) by omega)
theorem pr_get {M : Nat → Int32} (hM : Wf M) {p o : Int32} (h : prB M p o = true) : ∃ q q2 : Nat, q < nP M ∧ q2 < nP M ∧ p = nI q ∧ o = nI q2 := by
  unfold prB at h
  cases h1 : isPe M p
  · simp [h1] at h
  · cases h2 : isPe M o
    · simp [h1, h2] at h
    · obtain ⟨q, hq, e⟩ := pe_get hM h1
      obtain ⟨q2, hq2, e2⟩ := pe_get hM h2
      exact ⟨q, q2, hq, hq2, e, e2⟩
theorem Wf_goN {M : Nat → Int32} (h : Wf M) (n : Nat) : Wf (goN M n) := (Wf_secN h n).put0 _
theorem nP_goN {M : Nat → Int32} (n : Nat) : nP (goN M n) = nP M := by
  unfold goN
  rw [nP_up (by decide), nP_secN]
theorem goN_hi {M : Nat → Int32} {n j : Nat} (h : j ≠ 0) : goN M n j = secN M n j := by
  unfold goN
  rw [up_ne _ _ h]
theorem sec_iff {x : Int32} {k : Nat} (h1 : 0 ≤ x.toInt) (h2 : x.toInt ≤ 999999) (hk : k ≤ 200) : x ≤ 999999 - nI k ↔ ¬ 999999 < x + nI k := by
  have e1 : (999999 - nI k : Int32).toInt = 999999 - (k : Int) := by
    rw [ti_sub] <;> rw [ti_nI (by omega), show (999999 : Int32).toInt = 999999 from rfl] <;> omega
  have e2 : (x + nI k).toInt = x.toInt + (k : Int) := by
    rw [ti_add] <;> rw [ti_nI (by omega)] <;> omega
  rw [ti_le, ti_lt, e1, e2, show (999999 : Int32).toInt = 999999 from rfl]
  omega
theorem orN_eq (a : Int32) (M F : Nat → Int32) : orN a M F = ((orN a F F).1, M, (orN a F F).2.2) := by
  unfold orN
  split <;> rfl
theorem wkN_in {M : Nat → Int32} {o : Bool} {p : Nat} : ∀ n : Nat, wkN M o n (5 + 6 * p + 4) = M (5 + 6 * p + 4)
  | 0 => rfl
  | q + 1 => by
    rw [wkN, wk1]
    split
    · rw [up_ne _ _ (by omega), wkN_in q]
    · exact wkN_in q
theorem cmI_in {M : Nat → Int32} {p q : Nat} (h : M (5 + 6 * p + 4) = 1) : cmI M q (5 + 6 * p + 4) = 1 := by
  unfold cmI
  rw [up_ne _ _ (by omega), up_ne _ _ (by omega)]
  by_cases e : p = q
  · rw [e, up_at]
  · rw [up_ne _ _ (by omega)]; exact h
theorem stE_in {M : Nat → Int32} {p q : Nat} (h : M (5 + 6 * p + 4) = 1) : stE M q (5 + 6 * p + 4) = 1 := by
  have h2 : ask1 M q (5 + 6 * p + 4) = 1 := by unfold ask1; rw [up_ne _ _ (by omega)]; exact h
  unfold stE
  split
  · split
    · exact cmI_in h
    · exact h
  · split
    · split
      · rw [up_ne _ _ (by omega)]; exact h2
      · exact cmI_in h2
    · exact cmI_in h
theorem stN_in {M : Nat → Int32} {p : Nat} (h : M (5 + 6 * p + 4) = 1) : ∀ n : Nat, stN M n (5 + 6 * p + 4) = 1
  | 0 => h
  | q + 1 => by
    rw [stN, st1]
    split
    · split
      · exact stE_in (stN_in h q)
      · exact stN_in h q
    · exact stN_in h q
theorem sec1_in {M : Nat → Int32} {p : Nat} (h : M (5 + 6 * p + 4) = 1) : sec1 M (5 + 6 * p + 4) = 1 := by
  have h1 : stN (wkN M (opn M) (nP M)) (nP M) (5 + 6 * p + 4) = 1 := stN_in (by rw [wkN_in]; exact h) _
  unfold sec1 dn2
  split
  · exact h1
  · rw [up_ne _ _ (by omega)]; exact h1
theorem secN_in {M : Nat → Int32} {p k : Nat} (h : secN M k (5 + 6 * p + 4) = 1) : ∀ d : Nat, secN M (k + d) (5 + 6 * p + 4) = 1
  | 0 => h
  | d + 1 => by
    rw [show k + (d + 1) = (k + d) + 1 from rfl, secN]
    exact sec1_in (secN_in h d)
theorem fst1_lt {P : Nat → Bool} : ∀ (d k : Nat), k + d < 2147483648 → (fst1 P d k < 0 ↔ ∀ j : Nat, k ≤ j → j < k + d → P j = false)
  | 0, k, _ => ⟨fun _ j h1 h2 => by omega, fun _ => by rw [fst1]; decide⟩
  | d + 1, k, hb => by
    rw [fst1]
    by_cases h : P k = true
    · rw [if_pos h]
      exact ⟨fun q => absurd q (nI_pos (by omega)), fun q => by have := q k (Nat.le_refl _) (by omega); rw [h] at this; cases this⟩
    · rw [if_neg h, fst1_lt d (k + 1) (by omega)]
      refine ⟨fun q j h1 h2 => ?_, fun q j h1 h2 => q j (by omega) (by omega)⟩
      by_cases e : j = k
      · rw [e]; cases e2 : P k
        · rfl
        · exact absurd e2 h
      · exact q j (by omega) (by omega)
/-- in within n seconds, or in at the nth: it's the same -/
theorem fst_on {M : Nat → Int32} {p n : Nat} (hn : n ≤ 1000) : fst1 (inP M p) (n + 1) 0 < 0 ↔ onIn M p n = false := by
  rw [fst1_lt _ _ (by omega)]
  constructor
  · intro q
    exact q n (Nat.zero_le _) (by omega)
  · intro q j _ h2
    cases e : inP M p j
    · rfl
    · exfalso
      have h3 : secN M j (5 + 6 * p + 4) = 1 := of_decide_eq_true e
      have h4 := secN_in h3 (n - j)
      rw [show j + (n - j) = n by omega] at h4
      rw [onIn, decide_eq_true h4] at q
      cases q
theorem in02 {w : Int32} (h : inI w 0 2 = true) : w = 0 ∨ w = 1 ∨ w = 2 := by
  obtain ⟨j, -, h2, e⟩ := inI_nat h rfl rfl (na := 0) (nb := 2) (by decide) (by decide)
  rcases (show j = 0 ∨ j = 1 ∨ j = 2 by omega) with rfl | rfl | rfl
  · exact Or.inl e
  · exact Or.inr (Or.inl e)
  · exact Or.inr (Or.inr e)
def fI (k : Nat) : Int32 := nI k - 1
theorem fI_s (k : Nat) : fI (k + 1) = nI k := nI_pred k
theorem fI_m {k : Nat} (h : 0 < k) : fI k = nI (k - 1) := by
  rw [show k = (k - 1) + 1 by omega, fI_s]; rfl
theorem fI_lt {k : Nat} (hk : k ≤ 1000) : fI k < 0 ↔ k = 0 := by
  cases k with
  | zero => exact ⟨fun _ => rfl, fun _ => by decide⟩
  | succ j => rw [fI_s]; exact ⟨fun h => absurd h (nI_pos (by omega)), fun h => by omega⟩
theorem fI_d {k : Nat} (h : 0 < k) : fI k + (-1) = fI (k - 1) := by
  unfold fI
  rw [show nI k = nI ((k - 1) + 1) by rw [show k - 1 + 1 = k by omega], nI_succ]
  apply Int32.toInt_inj.mp
  simp only [Int32.toInt_add, Int32.toInt_sub]
  rw [show (-1 : Int32).toInt = -1 from rfl, show (1 : Int32).toInt = 1 from rfl]
  simp
  congr 1
theorem dnF_s {P : Nat → Bool} {k : Nat} (h : 0 < k) : dnF P k = if P (k - 1) = true then nI (k - 1) else dnF P (k - 1) := by
  cases k with
  | zero => omega
  | succ j => rfl
theorem fst1_s {P : Nat → Bool} {d k : Nat} (h : 0 < d) : fst1 P d k = if P k = true then nI k else fst1 P (d - 1) (k + 1) := by
  cases d with
  | zero => omega
  | succ j => rfl
theorem Wf_swp {M : Nat → Int32} (h : Wf M) {p q : Nat} (hp : p < 8) (hq : q < 8) : Wf (swp M p q) := by
  have h1 := h.w (p := p) (w := 3) hp (by decide)
  have h2 := h.w (p := q) (w := 3) hq (by decide)
  exact (h.put hp (by decide) h2.1 h2.2).put hq (by decide) h1.1 h1.2
theorem nP_swp {M : Nat → Int32} {p q : Nat} : nP (swp M p q) = nP M := by
  unfold swp
  rw [nP_up (by omega), nP_up (by omega)]
theorem on_t {M : Nat → Int32} {p n : Nat} (h : ¬ onIn M p n = false) : onIn M p n = true := by
  cases e : onIn M p n
  · exact absurd e h
  · rfl
theorem on_f {M : Nat → Int32} {p n : Nat} (h : onIn M p n = false) : ¬ onIn M p n = true := by
  rw [h]; decide
theorem nP_take (M : Nat → Int32) (p n : Nat) : nP (goN (upd M (5 + 6 * p + 1) 0) n) = nP M := by
  rw [nP_goN, nP_up (by omega)]
