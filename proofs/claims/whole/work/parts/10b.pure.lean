/-! ===== rest, searches, sums: more of the pure part ===== -/
theorem opn_iff {M : Nat → Int32} (h : Wf M) : opn M = false ↔ M 2 = 0 := by
  have h2 := h.2.2.2.1
  unfold opn
  constructor
  · intro q
    by_cases c : M 2 ≤ 0
    · have : (M 2).toInt ≤ 0 := ti_le.mp c
      exact ti_eq.mpr (show (M 2).toInt = 0 by omega)
    · rw [if_neg c] at q; cases q
  · intro q
    rw [q]; rfl
theorem opn_t {M : Nat → Int32} (h : Wf M) (c : ¬ M 2 = 0) : opn M = true := by
  cases e : opn M
  · exact absurd ((opn_iff h).mp e) c
  · rfl
def okP (M : Nat → Int32) (p : Nat) : Bool := if M (5 + 6 * p + 4) = 0 then (if 0 < M (5 + 6 * p + 3) then false else if M (5 + 6 * p + 1) = 1 then false else true) else true
def rsN (M : Nat → Int32) : Nat → Bool
  | 0 => true
  | p + 1 => rsN M p && okP M p
/-- nothing will change any more -/
def restB (M : Nat → Int32) : Bool := if M 2 ≤ 0 then rsN M (nP M) else false
theorem rsN_f {M : Nat → Int32} {p : Nat} (h : okP M p = false) : ∀ n : Nat, p < n → rsN M n = false
  | 0, h2 => absurd h2 (Nat.not_lt_zero _)
  | n + 1, h2 => by
    rw [rsN]
    by_cases e : p = n
    · rw [← e, h]; simp
    · rw [rsN_f h n (by omega)]; rfl
theorem rsN_t {M : Nat → Int32} : ∀ n : Nat, rsN M n = true → ∀ p : Nat, p < n → okP M p = true
  | 0, _, p, h2 => absurd h2 (Nat.not_lt_zero _)
  | n + 1, h, p, h2 => by
    rw [rsN, Bool.and_eq_true] at h
    by_cases e : p = n
    · rw [e]; exact h.2
    · exact rsN_t n h.1 p (by omega)
theorem rest_wk {M : Nat → Int32} (h : Wf M) (o : Bool) : ∀ n : Nat, n ≤ 8 → (∀ p : Nat, p < n → okP M p = true) → wkN M o n = M
  | 0, _, _ => rfl
  | p + 1, h8, hk => by
    rw [wkN, rest_wk h o p (by omega) (fun q hq => hk q (by omega))]
    unfold wk1
    split
    · next c =>
      have h1 := hk p (by omega)
      have hw := h.w (p := p) (w := 3) (by omega) (by decide)
      have ht := wk_ti h (p := p) (by omega) o
      have hg := goesBy_ti (M (5 + 6 * p + 0)) (M (5 + 6 * p + 2)) o
      unfold okP at h1
      rw [if_pos c] at h1
      by_cases c2 : 0 < M (5 + 6 * p + 3)
      · rw [if_pos c2] at h1; cases h1
      · have c3 : ¬ (0 : Int) < (M (5 + 6 * p + 3)).toInt := fun q => c2 (ti_lt.mpr q)
        rw [if_pos (ti_lt.mpr (show (M (5 + 6 * p + 3) - gB M p o).toInt < 0 by rw [ht.1]; unfold gB; omega))]
        exact up_same (ti_eq.mpr (show (M (5 + 6 * p + 3)).toInt = 0 by omega))
    · rfl
theorem rest_st {M : Nat → Int32} (h : Wf M) (h2 : opn M = false) : ∀ n : Nat, n ≤ 8 → (∀ p : Nat, p < n → okP M p = true) → stN M n = M
  | 0, _, _ => rfl
  | p + 1, h8, hk => by
    rw [stN, rest_st h h2 p (by omega) (fun q hq => hk q (by omega))]
    unfold st1
    split
    · next c =>
      split
      · next c2 =>
        have h1 := hk p (by omega)
        unfold okP at h1
        rw [if_pos c, c2] at h1
        rw [if_neg (by decide)] at h1
        unfold stE
        rw [if_pos h2]
        split
        · next c3 => rw [if_pos c3] at h1; cases h1
        · rfl
      · rfl
    · rfl
theorem rest_sec {M : Nat → Int32} (h : Wf M) (hr : restB M = true) : sec1 M = M := by
  have h8 := h.n8
  unfold restB at hr
  by_cases c : M 2 ≤ 0
  · rw [if_pos c] at hr
    have hk := rsN_t _ hr
    have ho : opn M = false := by unfold opn; rw [if_pos c]
    unfold sec1
    rw [rest_wk h _ _ h8 hk, rest_st h ho _ h8 hk]
    unfold dn2
    rw [if_pos c]
  · rw [if_neg c] at hr; cases hr
theorem rest_secN {M : Nat → Int32} (h : Wf M) {k : Nat} (hr : restB (secN M k) = true) : ∀ d : Nat, secN M (k + d) = secN M k
  | 0 => rfl
  | d + 1 => by
    rw [show k + (d + 1) = (k + d) + 1 from rfl, secN, rest_secN h hr d]
    exact rest_sec (Wf_secN h k) hr
theorem stE_0 {M : Nat → Int32} {p : Nat} : stE M p 0 = M 0 := by
  unfold stE cmI ask1
  (repeat' split) <;> first | rfl | (repeat (rw [up_ne _ _ (by omega)]))
theorem st1_0 {M : Nat → Int32} {p : Nat} : st1 M p 0 = M 0 := by
  unfold st1
  split
  · split
    · exact stE_0
    · rfl
  · rfl
theorem stN_0 {M : Nat → Int32} : ∀ n : Nat, stN M n 0 = M 0
  | 0 => rfl
  | p + 1 => by rw [stN, st1_0, stN_0 p]
theorem sec1_0 {M : Nat → Int32} : sec1 M 0 = M 0 := by
  unfold sec1 dn2
  split
  · rw [stN_0, wkN_low (by decide)]
  · rw [up_ne _ _ (by decide), stN_0, wkN_low (by decide)]
theorem secN_0 {M : Nat → Int32} : ∀ n : Nat, secN M n 0 = M 0
  | 0 => rfl
  | n + 1 => by rw [secN, sec1_0, secN_0 n]
/-- n seconds, with their number -/
def goN (M : Nat → Int32) (n : Nat) : Nat → Int32 := upd (secN M n) 0 (M 0 + nI n)
/-- the first of k, k + 1, .. (d of them), or -1 -/
def fst1 (P : Nat → Bool) : Nat → Nat → Int32
  | 0, _ => -1
  | d + 1, k => if P k = true then nI k else fst1 P d (k + 1)
theorem fst1_none {P : Nat → Bool} : ∀ (d k : Nat), (∀ j : Nat, k ≤ j → P j = false) → fst1 P d k = -1
  | 0, _, _ => rfl
  | d + 1, k, h => by
    rw [fst1, h k (Nat.le_refl _), if_neg (by decide)]
    exact fst1_none d (k + 1) (fun j hj => h j (by omega))
def inP (M : Nat → Int32) (p k : Nat) : Bool := decide (secN M k (5 + 6 * p + 4) = 1)
def shP (M : Nat → Int32) (k : Nat) : Bool := decide (secN M k 2 = 0)
def alP (M : Nat → Int32) (k : Nat) : Bool := decide (smN (secN M k) 4 (nP M) = nI (nP M))
/-- numbers are how far one is, a second after another -/
def wlN (f : Nat → Int64) (M : Nat → Int32) (p : Nat) : Nat → Bool
  | 0 => true
  | k + 1 => wlN f M p k && decide (f k = (secN M k (5 + 6 * p + 3)).toInt64)
theorem wlN_f {f : Nat → Int64} {M : Nat → Int32} {p k : Nat} (h : ¬ f k = (secN M k (5 + 6 * p + 3)).toInt64) : ∀ n : Nat, k < n → wlN f M p n = false
  | 0, h2 => absurd h2 (Nat.not_lt_zero _)
  | n + 1, h2 => by
    rw [wlN]
    by_cases e : k = n
    · rw [← e, decide_eq_false h]; simp
    · rw [wlN_f h n (by omega)]; rfl
theorem wf_cm1 {M : Nat → Int32} (h : Wf M) {p : Nat} (hp : p < nP M) : Wf (upd (upd M (5 + 6 * p + 4) 1) 3 (nI p)) := by
  have h8 := h.n8
  exact (h.put (w := 4) (by omega) (by decide) (by decide) (by decide)).put3 (by rw [nP_up (by omega)]; exact hp)
theorem nr_get {M : Nat → Int32} (h : Wf M) (c : 0 ≤ (nrN M (nP M)).1) : ∃ q : Nat, q < nP M ∧ (nrN M (nP M)).1 = nI q := by
  rcases nrN_1 M (nP M) h.n8 with h1 | h1
  · rw [h1] at c; exact absurd c (by decide)
  · exact h1
theorem by_get {M : Nat → Int32} (h : Wf M) (c : ¬ M 3 < 0) : ∃ b : Nat, b < nP M ∧ M 3 = nI b := by
  have hc : ¬ (M 3).toInt < 0 := fun q => c (ti_lt.mpr q)
  have h1 := clamp_toInt h.2.2.2.2.2.1
  have h2 := clamp_toInt (x := M 3) (by omega)
  refine ⟨(M 3).toNatClampNeg, ?_, nI_back (by omega)⟩
  have h3 := h.2.2.2.2.1
  unfold nP
  omega
