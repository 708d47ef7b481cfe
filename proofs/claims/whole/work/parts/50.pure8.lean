/-- the reference's sheets: bits and size -/
def moB (u : Sg) (j : Nat) : Nat → Int32 := fun i => if i = 0 then u.1 17 j else u.1 18 j
def zrS (f : Nat → Int64) (j k : Nat) : Nat → Int64 := fun i => if 40 * j ≤ i ∧ i < 40 * j + k then 0 else f i
theorem zrS_0 (f : Nat → Int64) (j : Nat) : zrS f j 0 = f := funext fun i => by simp only [zrS]; rw [if_neg (by omega)]
theorem zrS_s (f : Nat → Int64) (j k : Nat) : vp_updL (zrS f j k) (40 * j + k) 0 = zrS f j (k + 1) := funext fun i => by
  simp only [zrS, vp_updL]
  by_cases h : i = 40 * j + k
  · subst h; rw [if_pos rfl, if_pos (by omega)]
  · rw [if_neg h]
    by_cases h2 : 40 * j ≤ i ∧ i < 40 * j + k
    · rw [if_pos h2, if_pos (by omega)]
    · rw [if_neg h2, if_neg (by omega)]
def cpS (f : Nat → Int64) (x y n : Nat) : Nat → Int64 := fun i => if y ≤ i ∧ i < y + n then f (x + (i - y)) else f i
/-- from below -/
theorem cpS_up (f : Nat → Int64) {x y k : Nat} (h : x + k < y ∨ y ≤ x) : vp_updL (cpS f x y k) (y + k) (cpS f x y k (x + k)) = cpS f x y (k + 1) := funext fun i => by
  have e : cpS f x y k (x + k) = f (x + k) := by simp only [cpS]; rw [if_neg (by omega)]
  rw [e]
  simp only [cpS, vp_updL]
  by_cases h : i = y + k
  · subst h; rw [if_pos rfl, if_pos (by omega), show x + (y + k - y) = x + k by omega]
  · rw [if_neg h]
    by_cases h2 : y ≤ i ∧ i < y + k
    · rw [if_pos h2, if_pos (by omega)]
    · rw [if_neg h2, if_neg (by omega)]
/-- from above: the last k of n -/
def cpT (f : Nat → Int64) (x y n k : Nat) : Nat → Int64 := fun i => if y + (n - k) ≤ i ∧ i < y + n then f (x + (i - y)) else f i
theorem cpT_dn (f : Nat → Int64) {x y n k : Nat} (hk : k < n) (h : x ≤ y ∨ y + n ≤ x) : vp_updL (cpT f x y n k) (y + (n - 1 - k)) (cpT f x y n k (x + (n - 1 - k))) = cpT f x y n (k + 1) := funext fun i => by
  have e : cpT f x y n k (x + (n - 1 - k)) = f (x + (n - 1 - k)) := by simp only [cpT]; rw [if_neg (by omega)]
  rw [e]
  simp only [cpT, vp_updL]
  by_cases h : i = y + (n - 1 - k)
  · subst h; rw [if_pos rfl, if_pos (by omega), show x + (y + (n - 1 - k) - y) = x + (n - 1 - k) by omega]
  · rw [if_neg h]
    by_cases h2 : y + (n - k) ≤ i ∧ i < y + n
    · rw [if_pos h2, if_pos (by omega)]
    · rw [if_neg h2, if_neg (by omega)]
theorem cpT_0 (f : Nat → Int64) (x y n : Nat) : cpT f x y n 0 = f := funext fun i => by simp only [cpT]; rw [if_neg (by omega)]
theorem cpT_n (f : Nat → Int64) (x y n : Nat) : cpT f x y n n = cpS f x y n := funext fun i => by simp only [cpT, cpS]; rw [show y + (n - n) = y by omega]
theorem cpS_0 (f : Nat → Int64) (x y : Nat) : cpS f x y 0 = f := funext fun i => by simp only [cpS]; rw [if_neg (by omega)]
def bkS (f : Nat → Int64) (j : Nat) (M : Nat → Int32) (p : Nat) (b : Int32) : Nat → Nat → Int64
  | 0 => f
  | k + 1 => vp_updL (bkS f j M p b k) (40 * j + k) (cutL b (secN M k (5 + 6 * p + 3)).toInt64)
theorem wlN_dn {f : Nat → Int64} {M : Nat → Int32} {p k : Nat} (h : wlN f M p k = false) : ∀ d : Nat, wlN f M p (k + d) = false
  | 0 => h
  | d + 1 => by rw [show k + (d + 1) = (k + d) + 1 from rfl, wlN, wlN_dn h d]; rfl
theorem hasR_t {z a n : Int32} {sz : Nat} (hz : z = nI sz) (h40 : sz ≤ 40) (h1 : ¬ n < 0) (h2 : ¬ a < 0) (h3 : ¬ z - a < n) : hasR z a n = true := by
  have e1 : ¬ n.toInt < 0 := fun q => h1 (ti_lt.mpr q)
  have e2 : ¬ a.toInt < 0 := fun q => h2 (ti_lt.mpr q)
  have ez : z.toInt = (sz : Int) := by rw [hz, ti_nI (by omega)]
  have ea := a.toInt_lt
  have en := n.toInt_lt
  have e3 : ¬ (z - a).toInt < n.toInt := fun q => h3 (ti_lt.mpr q)
  rw [ti_sub (by omega) (by omega)] at e3
  unfold hasR
  rw [if_neg h2, if_neg h1, if_neg (by rw [ti_lt]; omega), if_neg (by rw [ti_lt, ti_sub (by omega) (by omega)]; omega)]
theorem hasR_f {z a n : Int32} {sz : Nat} (hz : z = nI sz) (h40 : sz ≤ 40) (h : n < 0 ∨ a < 0 ∨ z - a < n) : hasR z a n = false := by
  have ez : z.toInt = (sz : Int) := by rw [hz, ti_nI (by omega)]
  unfold hasR
  by_cases h2 : a < 0
  · rw [if_pos h2]
  · rw [if_neg h2]
    by_cases h1 : n < 0
    · rw [if_pos h1]
    · rw [if_neg h1]
      have h3 : z - a < n := by
        rcases h with h | h | h
        · exact absurd h h1
        · exact absurd h h2
        · exact h
      have e1 : ¬ n.toInt < 0 := fun q => h1 (ti_lt.mpr q)
      have e2 : ¬ a.toInt < 0 := fun q => h2 (ti_lt.mpr q)
      have ea := a.toInt_lt
      have en := n.toInt_lt
      have e3 : (z - a).toInt < n.toInt := ti_lt.mp h3
      rw [ti_sub (by omega) (by omega)] at e3
      by_cases h4 : z < n
      · rw [if_pos h4]
      · have e4 : ¬ z.toInt < n.toInt := fun q => h4 (ti_lt.mpr q)
        rw [if_neg h4, if_pos (by rw [ti_lt, ti_sub (by omega) (by omega)]; omega)]
theorem f_there_v (s : Int32) (B : Nat → Nat → Int32) : f_there s B = 0 ∨ f_there s B = -1000000001 ∨ f_there s B = -1000000006 := by
  unfold f_there
  split
  · exact Or.inr (Or.inl rfl)
  · split
    · exact Or.inr (Or.inr rfl)
    · exact Or.inl rfl
theorem f_there_ok {s : Int32} {B : Nat → Nat → Int32} (h : f_there s B = 0) : inI s 0 3 = true ∧ mis (B s.toNatClampNeg) = false := by
  unfold f_there at h
  cases h1 : inI s 0 3
  · rw [h1, if_pos rfl] at h; exact absurd h (by decide)
  · rw [h1, if_neg (by decide)] at h
    cases h2 : mis (B s.toNatClampNeg)
    · exact ⟨rfl, rfl⟩
    · rw [h2, if_pos rfl] at h; exact absurd h (by decide)
theorem f_book_there (s p : Int32) (B : Nat → Nat → Int32) (M : Nat → Int32) : f_book s p B M = if f_there s B = 0 then (if isPe M p = true then 0 else -1000000001) else f_there s B := by
  unfold f_book f_there
  split
  · rfl
  · split
    · rfl
    · rfl
theorem f_write_there (s i : Int32) (B : Nat → Nat → Int32) : f_write s i B = if f_there s B = 0 then (if inI i 0 (B s.toNatClampNeg 1 - 1) = false then -1000000001 else 0) else f_there s B := by
  unfold f_write f_there
  split
  · rfl
  · split
    · rfl
    · rfl
theorem f_write_bad {s i : Int32} {B : Nat → Nat → Int32} {k : Int32} (h : f_there s B = k) (hk : k ≠ 0) : f_write s i B = k := by
  rw [f_write_there, if_neg (by rw [h]; exact hk), h]
theorem f_write_i {u : Sg} {j : Nat} {i : Int32} (h : f_there (nI j) (moB u) = 0) (hi : inI i 0 (u.1 18 j - 1) = false) (hj : j < 4 := by omega) : f_write (nI j) i (moB u) = -1000000001 := by
  rw [f_write_there, if_pos h, nI_clamp (by omega), if_pos (show inI i 0 (moB u j 1 - 1) = false from hi)]
theorem f_write_0 {u : Sg} {j : Nat} {i : Int32} (h : f_there (nI j) (moB u) = 0) (hi : inI i 0 (u.1 18 j - 1) = true) (hj : j < 4 := by omega) : f_write (nI j) i (moB u) = 0 := by
  rw [f_write_there, if_pos h, nI_clamp (by omega), if_neg (by rw [show inI i 0 (moB u j 1 - 1) = true from hi]; decide)]
theorem inL_9 (x : Int64) : inL x 0 999 = (if x < 0 then false else if 999 < x then false else true) := rfl
theorem laN_no {f : Nat → Int64} {M N : Nat → Int32} {a : Int32} {k : Nat} (h : (N, a) = laN f M k) (c : inL (f k) 0 999 = false) : (N, a) = laN f M (k + 1) := by
  rw [inL_9] at c
  rw [laN]
  by_cases c1 : f k < 0
  · rw [if_pos c1]; exact h
  · rw [if_neg c1] at c ⊢
    by_cases c2 : 999 < f k
    · rw [if_pos c2]; exact h
    · rw [if_neg c2] at c; cases c
theorem laN_yes {f : Nat → Int64} {M N : Nat → Int32} {a : Int32} {k : Nat} (h : (N, a) = laN f M k) (c : inL (f k) 0 999 = true) : (upd N (5 + 6 * k + 3) (f k).toInt32, a + 1) = laN f M (k + 1) := by
  rw [inL_9] at c
  rw [laN]
  by_cases c1 : f k < 0
  · rw [if_pos c1] at c; cases c
  · rw [if_neg c1] at c ⊢
    by_cases c2 : 999 < f k
    · rw [if_pos c2] at c; cases c
    · rw [if_neg c2, ← h]
theorem laN_low (f : Nat → Int64) (M : Nat → Int32) {j : Nat} (hj : j < 5) : ∀ k : Nat, (laN f M k).1 j = M j
  | 0 => rfl
  | k + 1 => by
    rw [laN]
    split
    · exact laN_low f M hj k
    · split
      · exact laN_low f M hj k
      · show upd _ _ _ j = _
        rw [up_ne _ _ (by omega), laN_low f M hj k]
theorem laN_4 {f : Nat → Int64} {M N : Nat → Int32} {a : Int32} {k n : Nat} (hn : M 4 = nI n) (h : (N, a) = laN f M k) : N 4 = nI n := by
  rw [show N = (laN f M k).1 from congrArg Prod.fst h, laN_low f M (by decide), hn]
