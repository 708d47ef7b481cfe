/-! ===== the reference: numbers that it counts otherwise ===== -/
def hld (v a b : Int32) : Int32 := if a ≤ v then (if v ≤ b then v else b) else a
theorem hld_g (k load : Int32) (o : Bool) : hld (goesV k load o - 1) 1 (goesV k load o) = goesV k load o - 1 := by
  rcases goesV_v k load o with h | h | h | h | h <;> rw [h] <;> decide
theorem hld_in {v : Int32} {a b : Int32} (h1 : a.toInt ≤ v.toInt) (h2 : v.toInt ≤ b.toInt) : hld v a b = v := by
  unfold hld
  rw [if_pos (ti_le.mpr h1), if_pos (ti_le.mpr h2)]
theorem hld_lo {v : Int32} {a b : Int32} (h1 : v.toInt < a.toInt) : hld v a b = a := by
  unfold hld
  rw [if_neg (fun q => by have := ti_le.mp q; omega)]
theorem hld_hi {v : Int32} {a b : Int32} (h1 : a.toInt ≤ v.toInt) (h2 : b.toInt < v.toInt) : hld v a b = b := by
  unfold hld
  rw [if_pos (ti_le.mpr h1), if_neg (fun q => by have := ti_le.mp q; omega)]
theorem pop_and : ∀ r : Nat, r < 256 → 0 < r → nI r &&& (nI r - 1) = nI (r &&& (r - 1)) ∧ pop (r &&& (r - 1)) + 1 = pop r ∧ r &&& (r - 1) < r := by decide +kernel
theorem bit_or : ∀ p : Nat, p < 8 → ∀ k : Nat, k < 256 → ∀ b : Nat, b < 2 → nI k ||| (nI b <<< (nI p &&& 31)) = nI (k ||| b * 2 ^ p) ∧ (k < 2 ^ p → k ||| b * 2 ^ p < 2 ^ (p + 1) ∧ pop (k ||| b * 2 ^ p) = pop k + b) := by decide +kernel
theorem pop_all : ∀ n : Nat, n ≤ 8 → ∀ k : Nat, k < 2 ^ n → (pop k = n ↔ nI k = ((1 : Int32) <<< (nI n &&& 31)) - 1) := by decide +kernel
theorem pop_8 : ∀ k : Nat, k < 256 → pop k ≤ 8 := by decide +kernel
theorem bit_nat {x : Int32} (h1 : 0 ≤ x.toInt) (h2 : x.toInt ≤ 1) : ∃ b : Nat, b < 2 ∧ x = nI b := by
  have h := clamp_toInt h1
  exact ⟨x.toNatClampNeg, by omega, nI_back h1⟩
theorem pow8 {n : Nat} (h : n ≤ 8) : 2 ^ n ≤ 256 := Nat.le_trans (Nat.pow_le_pow_right (by decide) h) (by decide)
theorem inS_nat {M : Nat → Int32} (h : Wf M) : ∀ n : Nat, n ≤ 8 → ∃ k : Nat, k < 2 ^ n ∧ inS M n = nI k ∧ smN M 4 n = nI (pop k)
  | 0, _ => ⟨0, by decide, rfl, rfl⟩
  | p + 1, hn => by
    obtain ⟨k, h1, h2, h3⟩ := inS_nat h p (by omega)
    have hw := h.w (p := p) (w := 4) (by omega) (by decide)
    obtain ⟨b, hb, e⟩ := bit_nat hw.1 hw.2
    have h256 := pow8 (n := p) (by omega)
    obtain ⟨e1, e2⟩ := bit_or p (by omega) k (by omega) b hb
    obtain ⟨e3, e4⟩ := e2 h1
    refine ⟨k ||| b * 2 ^ p, e3, ?_, ?_⟩
    · rw [inS, h2, e, e1]
    · rw [smN, h3, e, nI_add, e4]
theorem loS_nat {M : Nat → Int32} (h : Wf M) : ∀ n : Nat, n ≤ 8 → ∃ k : Nat, k < 2 ^ n ∧ loS M n = nI k
  | 0, _ => ⟨0, by decide, rfl⟩
  | p + 1, hn => by
    obtain ⟨k, h1, h2⟩ := loS_nat h p (by omega)
    have hw := h.w (p := p) (w := 4) (by omega) (by decide)
    obtain ⟨b, hb, e⟩ := bit_nat hw.1 hw.2
    have h256 := pow8 (n := p) (by omega)
    obtain ⟨e1, e2⟩ := bit_or p (by omega) k (by omega) b hb
    obtain ⟨e3, e4⟩ := e2 h1
    rw [loS]
    split
    · exact ⟨k ||| b * 2 ^ p, e3, by rw [h2, e, e1]⟩
    · exact ⟨k, by rw [Nat.pow_succ]; omega, h2⟩
theorem loS_256 {M : Nat → Int32} (h : Wf M) {n : Nat} (hn : n ≤ 8) : ∃ k : Nat, k < 256 ∧ loS M n = nI k := by
  obtain ⟨k, h1, h2⟩ := loS_nat h n hn
  exact ⟨k, Nat.lt_of_lt_of_le h1 (pow8 hn), h2⟩
theorem inS_256 {M : Nat → Int32} (h : Wf M) {n : Nat} (hn : n ≤ 8) : ∃ k : Nat, k < 256 ∧ inS M n = nI k := by
  obtain ⟨k, h1, h2, -⟩ := inS_nat h n hn
  exact ⟨k, Nat.lt_of_lt_of_le h1 (pow8 hn), h2⟩
theorem smN_bit {M : Nat → Int32} (h : Wf M) {n : Nat} (hn : n ≤ 8) : smN M 4 n = bitC (inS M n) := by
  obtain ⟨k, h1, h2, h3⟩ := inS_nat h n hn
  rw [h2, h3, bitC_pop k (Nat.lt_of_lt_of_le h1 (pow8 hn))]
theorem all_iff {M : Nat → Int32} (h : Wf M) {n : Nat} (hn : n ≤ 8) : smN M 4 n = nI n ↔ inS M n = ((1 : Int32) <<< (nI n &&& 31)) - 1 := by
  obtain ⟨k, h1, h2, h3⟩ := inS_nat h n hn
  rw [h2, h3, ← pop_all n hn k h1]
  have := pop_8 k (Nat.lt_of_lt_of_le h1 (pow8 hn))
  exact nI_eq (by omega) (by omega)
theorem sh0 : ∀ p : Nat, p < 8 → (0 : Int32) <<< (nI p &&& 31) = 0 := by decide +kernel
theorem or0 (x : Int32) : x ||| 0 = x := by simp
theorem lo_step1 {M : Nat → Int32} {p : Nat} (h1 : M (5 + 6 * p + 4) = 1) (h2 : M (5 + 6 * p + 1) = 0) : loS M (p + 1) = loS M p ||| (1 : Int32) <<< (nI p &&& 31) := by
  rw [loS, if_pos h2, h1]
theorem lo_step2 {M : Nat → Int32} {p : Nat} (h2 : ¬ M (5 + 6 * p + 1) = 0) : loS M (p + 1) = loS M p ||| 0 := by
  rw [loS, if_neg h2, or0]
theorem lo_step3 {M : Nat → Int32} (h : Wf M) {p : Nat} (hp : p < 8) (h1 : ¬ M (5 + 6 * p + 4) = 1) : loS M (p + 1) = loS M p ||| 0 := by
  have hw := h.w (p := p) (w := 4) hp (by decide)
  have h3 : hiW 4 = 1 := rfl
  have e : M (5 + 6 * p + 4) = 0 := by
    have : (M (5 + 6 * p + 4)).toInt ≠ 1 := fun q => h1 (ti_eq.mpr q)
    exact ti_eq.mpr (show (M (5 + 6 * p + 4)).toInt = 0 by omega)
  rw [loS, e, sh0 p hp]
  split
  · rfl
  · rw [or0]
theorem nrN_2 (M : Nat → Int32) : ∀ n : Nat, n ≤ 8 → ((nrN M n).1 = -1 ∧ (nrN M n).2 = 1000) ∨ ∃ q : Nat, q < n ∧ (nrN M n).1 = nI q ∧ (nrN M n).2 = M (5 + 6 * q + 3)
  | 0, _ => Or.inl ⟨rfl, rfl⟩
  | p + 1, h => by
    unfold nrN
    split
    · split
      · exact Or.inr ⟨p, by omega, rfl, rfl⟩
      · rcases nrN_2 M p (by omega) with h1 | ⟨q, h1, h2⟩
        · exact Or.inl h1
        · exact Or.inr ⟨q, by omega, h2⟩
    · rcases nrN_2 M p (by omega) with h1 | ⟨q, h1, h2⟩
      · exact Or.inl h1
      · exact Or.inr ⟨q, by omega, h2⟩
theorem nr_m {M : Nat → Int32} {p : Nat} (hp : p ≤ 8) {a : Int32} (ha : a = (nrN M p).1) (c : ¬ a < 0) : ∃ q : Nat, q < p ∧ a = nI q ∧ (nrN M p).2 = M (5 + 6 * q + 3) := by
  rcases nrN_2 M p hp with h1 | ⟨q, h1, h2, h3⟩
  · rw [ha, h1.1] at c; exact absurd (by decide) c
  · exact ⟨q, h1, by rw [ha, h2], h3⟩
theorem nr_lt {M : Nat → Int32} (h : Wf M) {p : Nat} (hp : p < 8) {a : Int32} (ha : a = (nrN M p).1) (c : a < 0) (c0 : M (5 + 6 * p + 4) = 0) : nI p = (nrN M (p + 1)).1 := by
  have hw := h.w (p := p) (w := 3) hp (by decide)
  have h3 : hiW 3 = 999 := rfl
  rw [nrN, if_pos c0]
  rcases nrN_2 M p (by omega) with h1 | ⟨q, h1, h2, h3⟩
  · rw [h1.2, if_pos (ti_lt.mpr (show _ < (1000 : Int) by omega))]
  · rw [ha, h2] at c; exact absurd c (nI_pos (by omega))
theorem wk_held {M : Nat → Int32} (h : Wf M) {p : Nat} (hp : p < 8) (o : Bool) (c : ¬ M (5 + 6 * p + 4) = 1) : upd M (5 + 6 * p + 3) (hld (M (5 + 6 * p + 3) - gB M p o) 0 999) = wk1 M o p := by
  have hw := h.w (p := p) (w := 4) hp (by decide)
  have h3 : hiW 4 = 1 := rfl
  have e : M (5 + 6 * p + 4) = 0 := by
    have : (M (5 + 6 * p + 4)).toInt ≠ 1 := fun q => c (ti_eq.mpr q)
    exact ti_eq.mpr (show (M (5 + 6 * p + 4)).toInt = 0 by omega)
  have ht := wk_ti h hp o
  rw [wk1, if_pos e]
  by_cases c2 : M (5 + 6 * p + 3) - gB M p o < 0
  · rw [if_pos c2, hld_lo (show _ < (0 : Int) from ti_lt.mp c2)]
  · have c3 : ¬ (M (5 + 6 * p + 3) - gB M p o).toInt < 0 := fun q => c2 (ti_lt.mpr q)
    rw [if_neg c2, hld_in (show (0 : Int) ≤ _ by omega) (show _ ≤ (999 : Int) by omega)]
theorem wk_held0 {M : Nat → Int32} (h : Wf M) {p : Nat} (hp : p < 8) (o : Bool) (c : M (5 + 6 * p + 4) = 1) : upd M (5 + 6 * p + 3) (hld (M (5 + 6 * p + 3) - 0) 0 999) = wk1 M o p := by
  have hw := h.w (p := p) (w := 3) hp (by decide)
  have h3 : hiW 3 = 999 := rfl
  rw [wk1, if_neg (by rw [c]; decide)]
  have e : M (5 + 6 * p + 3) - 0 = M (5 + 6 * p + 3) := by simp
  rw [e, hld_in (show (0 : Int) ≤ _ by omega) (show _ ≤ (999 : Int) by omega)]
  exact up_same rfl
theorem dn_held {M : Nat → Int32} (h : Wf M) : upd M 2 (hld (M 2 - 1) 0 60) = dn2 M := by
  have h2 := h.2.2.2.1
  have ha : (M 2 - 1).toInt = (M 2).toInt - 1 := ti_sub (show _ ≤ _ - (1 : Int) by omega) (show _ - (1 : Int) ≤ _ by omega)
  unfold dn2
  by_cases c : M 2 ≤ 0
  · have c2 : (M 2).toInt ≤ 0 := ti_le.mp c
    rw [if_pos c, hld_lo (show _ < (0 : Int) by omega)]
    exact up_same (ti_eq.mpr (show (M 2).toInt = 0 by omega))
  · have c2 : ¬ (M 2).toInt ≤ 0 := fun q => c (ti_le.mpr q)
    rw [if_neg c, hld_in (show (0 : Int) ≤ _ by omega) (show _ ≤ (60 : Int) by omega)]
theorem cm_held {x : Int32} (h1 : 0 ≤ x.toInt) : hld x 0 60 = if 60 < x then 60 else x := by
  by_cases c : 60 < x
  · rw [if_pos c, hld_hi (v := x) (a := 0) (b := 60) h1 (ti_lt.mp c)]
  · have c2 : ¬ (60 : Int) < x.toInt := fun q => c (ti_lt.mpr q)
    rw [if_neg c, hld_in (v := x) (a := 0) (b := 60) h1 (show x.toInt ≤ (60 : Int) by omega)]
theorem as_held {M : Nat → Int32} (h : Wf M) {p : Nat} (hp : p < 8) : upd M (5 + 6 * p + 5) (hld (M (5 + 6 * p + 5) + 1) 0 999) = ask1 M p ∧ upd M (5 + 6 * p + 5) (hld (M (5 + 6 * p + 5) + 0) 0 999) = M := by
  have hw := h.w (p := p) (w := 5) hp (by decide)
  have h3 : hiW 5 = 999 := rfl
  have ha : (M (5 + 6 * p + 5) + 1).toInt = (M (5 + 6 * p + 5)).toInt + 1 := ti_add (show _ ≤ _ + (1 : Int) by omega) (show _ + (1 : Int) ≤ _ by omega)
  constructor
  · unfold ask1
    by_cases c : 999 < M (5 + 6 * p + 5) + 1
    · rw [if_pos c, hld_hi (v := M (5 + 6 * p + 5) + 1) (a := 0) (b := 999) (show (0 : Int) ≤ (M (5 + 6 * p + 5) + 1).toInt by omega) (ti_lt.mp c)]
    · have c2 : ¬ (999 : Int) < (M (5 + 6 * p + 5) + 1).toInt := fun q => c (ti_lt.mpr q)
      rw [if_neg c, hld_in (show (0 : Int) ≤ _ by omega) (show _ ≤ (999 : Int) by omega)]
  · have e : M (5 + 6 * p + 5) + 0 = M (5 + 6 * p + 5) := by simp
    rw [e, hld_in (show (0 : Int) ≤ _ by omega) (show _ ≤ (999 : Int) by omega)]
    exact up_same rfl
/-- whether one is asked -/
def askB (M : Nat → Int32) (p : Nat) : Bool := if M 2 ≤ 0 then false else aB M p
def tik (M : Nat → Int32) : Nat → Int32 := upd (sec1 M) 0 (M 0 + 1)
theorem up_comm (M : Nat → Int32) {j k : Nat} (h : j ≠ k) (v w : Int32) : upd (upd M j v) k w = upd (upd M k w) j v := by
  funext x
  by_cases e : x = j
  · rw [e, up_ne _ _ h, up_at, up_at]
  · rw [up_ne (upd M k w) _ e]
    by_cases e2 : x = k
    · rw [e2, up_at, up_at]
    · rw [up_ne _ _ e2, up_ne _ _ e, up_ne _ _ e2]
