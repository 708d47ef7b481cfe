/-! ===== what the calls answer: (answer, the morning, the findings) ===== -/
abbrev R3 : Type := Int32 × (Nat → Int32) × (Nat → Int32)
def inI (x a b : Int32) : Bool := if x < a then false else if b < x then false else true
def inL (x : Int64) (a b : Int32) : Bool := if x < a.toInt64 then false else if b.toInt64 < x then false else true
theorem w_lt {a b : Int32} : a.toInt64 < b.toInt64 ↔ a < b := by
  rw [Int64.lt_iff_toInt_lt, Int32.lt_iff_toInt_lt, Int32.toInt_toInt64, Int32.toInt_toInt64]
theorem w_eq {a b : Int32} : a.toInt64 = b.toInt64 ↔ a = b := by
  rw [← Int64.toInt_inj, ← Int32.toInt_inj, Int32.toInt_toInt64, Int32.toInt_toInt64]
theorem inL_I (x a b : Int32) : inL x.toInt64 a b = inI x a b := by
  unfold inL inI
  simp only [w_lt]
theorem isKd_in (k : Int32) : isKd k = inI k 0 5 := by
  unfold isKd inI
  have h : 6 ≤ k ↔ 5 < k := by
    rw [ti_le, ti_lt, show (6 : Int32).toInt = 6 from rfl, show (5 : Int32).toInt = 5 from rfl]
    omega
  simp only [h]
theorem inI_t {x a b : Int32} (h : inI x a b = true) : a.toInt ≤ x.toInt ∧ x.toInt ≤ b.toInt := by
  unfold inI at h
  by_cases h1 : x < a
  · rw [if_pos h1] at h; cases h
  · rw [if_neg h1] at h
    by_cases h2 : b < x
    · rw [if_pos h2] at h; cases h
    · rw [ti_lt] at h1 h2
      omega
theorem inI_of {x a b : Int32} (h1 : a.toInt ≤ x.toInt) (h2 : x.toInt ≤ b.toInt) : inI x a b = true := by
  unfold inI
  rw [if_neg (by rw [ti_lt]; omega), if_neg (by rw [ti_lt]; omega)]
theorem inI_nat {x a b : Int32} {na nb : Nat} (h : inI x a b = true) (ha : a = nI na) (hb : b = nI nb) (h1 : na < 2147483648) (h2 : nb < 2147483648) : ∃ j : Nat, na ≤ j ∧ j ≤ nb ∧ x = nI j := by
  obtain ⟨q1, q2⟩ := inI_t h
  rw [ha, ti_nI h1] at q1
  rw [hb, ti_nI h2] at q2
  refine ⟨x.toNatClampNeg, ?_, ?_, nI_back (by omega)⟩
  · have := clamp_toInt (x := x) (by omega); omega
  · have := clamp_toInt (x := x) (by omega); omega
def isPe (M : Nat → Int32) (p : Int32) : Bool := inI p 0 (M 4 - 1)
theorem pe_get {M : Nat → Int32} (hM : Wf M) {p : Int32} (h : isPe M p = true) : ∃ q : Nat, q < nP M ∧ p = nI q := by
  obtain ⟨q1, q2⟩ := inI_t h
  have h4 := hM.2.2.2.2.2
  have hs : (M 4 - 1).toInt = (M 4).toInt - 1 := ti_sub (show _ ≤ _ - (1 : Int) by omega) (show _ - (1 : Int) ≤ _ by omega)
  rw [hs] at q2
  rw [show (0 : Int32).toInt = 0 from rfl] at q1
  have hc := clamp_toInt h4.1
  have hp := clamp_toInt q1
  refine ⟨p.toNatClampNeg, ?_, nI_back q1⟩
  unfold nP
  omega
theorem pe_f {M : Nat → Int32} (hM : Wf M) {q : Nat} (h : q < nP M) : isPe M (nI q) = true := by
  have h4 := hM.2.2.2.2.2
  have h8 := hM.n8
  have hs : (M 4 - 1).toInt = (M 4).toInt - 1 := ti_sub (show _ ≤ _ - (1 : Int) by omega) (show _ - (1 : Int) ≤ _ by omega)
  have hc := clamp_toInt h4.1
  unfold nP at h
  refine inI_of ?_ ?_
  · rw [ti_nI (by omega)]; exact Int.natCast_nonneg q
  · rw [ti_nI (by omega), hs]; omega
def bmp (F : Nat → Int32) (k : Nat) : Nat → Int32 := upd F k (F k + 1)
def bey (M F : Nat → Int32) : R3 := (-1000000001, M, bmp F 0)
def none3 (M F : Nat → Int32) : R3 := (-1000000004, M, bmp F 3)
def orN (a : Int32) (M F : Nat → Int32) : R3 := if a < 0 then none3 M F else (a, M, F)
def X_door (M F : Nat → Int32) (what v : Int32) : R3 := if what = 0 then (if inI v 0 99 = true then (M 1, upd M 1 v, F) else bey M F) else if what = 1 then (if inI v 0 60 = true then (M 2, upd M 2 v, F) else bey M F) else bey M F
def X_now (M F : Nat → Int32) (what : Int32) : R3 := if what = 0 then (M 0, M, F) else if what = 1 then (M 1, M, F) else if what = 2 then (M 2, M, F) else if what = 3 then (M 3, M, F) else if what = 4 then (inS M (nP M), M, F) else if what = 5 then (loS M (nP M), M, F) else if what = 6 then (smN M 5 (nP M), M, F) else bey M F
def X_person (M F : Nat → Int32) (k f : Int32) : R3 := if inI k 0 5 = false then bey M F else if inI f 0 999 = false then bey M F else if fullB M = true then (-1000000002, M, bmp F 1) else (nI (nP M), adC M (nP M) k f, F)
def X_of (M F : Nat → Int32) (p what : Int32) : R3 := if isPe M p = false then bey M F else if what = 0 then (M (5 + 6 * p.toNatClampNeg + 0), M, F) else if what = 1 then (M (5 + 6 * p.toNatClampNeg + 1), M, F) else if what = 2 then (M (5 + 6 * p.toNatClampNeg + 2), M, F) else if what = 3 then (M (5 + 6 * p.toNatClampNeg + 3), M, F) else if what = 4 then (M (5 + 6 * p.toNatClampNeg + 4), M, F) else if what = 5 then (M (5 + 6 * p.toNatClampNeg + 5), M, F) else if what = 6 then (gB M p.toNatClampNeg (opn M), M, F) else bey M F
def mstO (what : Int32) : Int32 := if what = 2 then 9 else if what = 3 then 999 else if what = 5 then 999 else 1
def X_set (M F : Nat → Int32) (p what v : Int32) : R3 := if isPe M p = false then bey M F else
  if what = 1 then (if inI v 0 1 = true then (M (5 + 6 * p.toNatClampNeg + 1), upd M (5 + 6 * p.toNatClampNeg + 1) v, F) else bey M F) else
  if what = 2 then (if inI v 0 9 = true then (M (5 + 6 * p.toNatClampNeg + 2), upd M (5 + 6 * p.toNatClampNeg + 2) v, F) else bey M F) else
  if what = 3 then (if inI v 0 999 = true then (M (5 + 6 * p.toNatClampNeg + 3), upd M (5 + 6 * p.toNatClampNeg + 3) v, F) else bey M F) else
  if what = 4 then (if inI v 0 1 = true then (M (5 + 6 * p.toNatClampNeg + 4), upd M (5 + 6 * p.toNatClampNeg + 4) v, F) else bey M F) else
  if what = 5 then (if inI v 0 999 = true then (M (5 + 6 * p.toNatClampNeg + 5), upd M (5 + 6 * p.toNatClampNeg + 5) v, F) else bey M F) else bey M F
def X_turn (M F : Nat → Int32) (p k : Int32) : R3 := if isPe M p = false then bey M F else if inI k 0 5 = false then bey M F else (M (5 + 6 * p.toNatClampNeg + 0), upd M (5 + 6 * p.toNatClampNeg + 0) k, F)
def X_as (M F : Nat → Int32) (p k : Int32) : R3 := if isPe M p = false then bey M F else if inI k 0 5 = false then bey M F else if asMay (M (5 + 6 * p.toNatClampNeg + 0)) k = false then (-1000000003, M, bmp F 2) else (M (5 + 6 * p.toNatClampNeg + 3), M, F)
def prB (M : Nat → Int32) (p o : Int32) : Bool := if isPe M p = false then false else if isPe M o = false then false else if p = o then false else true
def X_holds (M F : Nat → Int32) (p o : Int32) : R3 := if prB M p o = false then bey M F else (hF M p.toNatClampNeg o.toNatClampNeg, M, F)
def X_asks (M F : Nat → Int32) (p o : Int32) : R3 := if prB M p o = false then bey M F else (bI (aK M p.toNatClampNeg o.toNatClampNeg), M, F)
def X_seconds (M F : Nat → Int32) (n : Int32) : R3 := if inI n 1 200 = false then bey M F else if 999999 < M 0 + n then (-1000000005, M, bmp F 4) else (inS (goN M n.toNatClampNeg) (nP M), goN M n.toNatClampNeg, F)
def X_on (M F : Nat → Int32) (p n what : Int32) : R3 := if isPe M p = false then bey M F else if inI n 0 400 = false then bey M F else if inI what 0 2 = false then bey M F else (goN M n.toNatClampNeg (5 + 6 * p.toNatClampNeg + (3 + what.toNatClampNeg)), M, F)
def X_loose (M F : Nat → Int32) (n : Int32) : R3 := if inI n 0 400 = false then bey M F else (loC (goN M n.toNatClampNeg), M, F)
def X_comes (M F : Nat → Int32) (p : Int32) : R3 := if isPe M p = false then bey M F else orN (fst1 (inP M p.toNatClampNeg) 401 0) M F
def X_shuts (M F : Nat → Int32) : R3 := orN (fst1 (shP M) 401 0) M F
def X_all (M F : Nat → Int32) : R3 := orN (fst1 (alP M) 401 0) M F
def caP (M : Nat → Int32) (n c : Nat) : Bool := decide (loC (goN (upd M 1 (nI c)) n) ≤ loC M)
def X_care (M F : Nat → Int32) (n : Int32) : R3 := if inI n 1 100 = false then bey M F else orN (fst1 (caP M n.toNatClampNeg) 100 0) M F
/-- the best so far: (which, how few) -/
def bst (b : Int32 × Int32) (x v : Int32) : Int32 × Int32 := if v < b.2 then (x, v) else b
def kdN (M : Nat → Int32) (p n : Nat) : Nat → Int32 × Int32
  | 0 => (0, 9)
  | k + 1 => bst (kdN M p n k) (nI k) (loC (goN (upd M (5 + 6 * p + 0) (nI k)) n))
def X_kind (M F : Nat → Int32) (p n : Int32) : R3 := if isPe M p = false then bey M F else if inI n 1 100 = false then bey M F else ((kdN M p.toNatClampNeg n.toNatClampNeg 6).1, M, F)
def dnF (P : Nat → Bool) : Nat → Int32
  | 0 => -1
  | k + 1 => if P k = true then nI k else dnF P k
def onIn (M : Nat → Int32) (p n : Nat) : Bool := decide (secN M n (5 + 6 * p + 4) = 1)
def X_far (M F : Nat → Int32) (p n : Int32) : R3 := if isPe M p = false then bey M F else if inI n 1 100 = false then bey M F else orN (dnF (fun f => onIn (upd M (5 + 6 * p.toNatClampNeg + 3) (nI f)) p.toNatClampNeg n.toNatClampNeg) 200) M F
def X_load (M F : Nat → Int32) (p n : Int32) : R3 := if isPe M p = false then bey M F else if inI n 1 100 = false then bey M F else orN (fst1 (fun f => onIn (upd M (5 + 6 * p.toNatClampNeg + 2) (nI f)) p.toNatClampNeg n.toNatClampNeg) 10 0) M F
/-- the second of a pair from a + 1 on: d of them -/
def orB (M : Nat → Int32) (n a : Nat) (b0 : Int32 × Int32) : Nat → Int32 × Int32
  | 0 => b0
  | d + 1 => bst (orB M n a b0 d) (nI (10 * a + (a + 1 + d))) (loC (goN (swp M a (a + 1 + d)) n))
def orA (M : Nat → Int32) (n : Nat) : Nat → Int32 × Int32
  | 0 => (-1, loC (goN M n))
  | a + 1 => orB M n a (orA M n a) (nP M - (a + 1))
def X_order (M F : Nat → Int32) (n : Int32) : R3 := if inI n 1 100 = false then bey M F else orN (orA M n.toNatClampNeg (nP M)).1 M F
def tkN (M : Nat → Int32) (n : Nat) : Nat → Int32 × Int32
  | 0 => (-1, 9)
  | p + 1 => if M (5 + 6 * p + 1) = 1 then bst (tkN M n p) (nI p) (smN (goN (upd M (5 + 6 * p + 1) 0) n) 4 (nP M)) else tkN M n p
def X_take (M F : Nat → Int32) (n : Int32) : R3 := if inI n 1 100 = false then bey M F else orN (tkN M n.toNatClampNeg (nP M)).1 M F
def X_count (M F : Nat → Int32) (len what : Int32) : R3 := if what = 0 then (M 4, M, F) else if what = 1 then (len, M, F) else if what = 2 then (M 4 - smN M 1 (nP M), M, F) else if what = 3 then (smN M 2 (nP M), M, F) else bey M F
def fS (F : Nat → Int32) : Nat → Int32
  | 0 => 0
  | k + 1 => fS F k + F k
def X_status (M F : Nat → Int32) (w : Int32) : R3 := if w = -1 then (fS F 7, M, F) else if inI w 0 6 = false then bey M F else (F w.toNatClampNeg, M, F)
/-- how a state is told by three of its rows -/
theorem st3 {u v : Sg} {a b c : Nat} {x y z : Nat → Int32} (hx : v.1 a = x) (hy : v.1 b = y) (hz : v.1 c = z) (hab : a ≠ b) (hac : a ≠ c) (hbc : b ≠ c) (hr : ∀ k : Nat, k ≠ a → k ≠ b → k ≠ c → v.1 k = u.1 k) (hL : v.2 = u.2) : v = sI (sI (sI u a x) b y) c z := by
  refine Prod.ext (funext fun k => ?_) hL
  by_cases h1 : k = c
  · subst h1; rw [sI_at]; exact hz
  · rw [sI_ne _ _ h1]
    by_cases h2 : k = b
    · subst h2; rw [sI_at]; exact hy
    · rw [sI_ne _ _ h2]
      by_cases h3 : k = a
      · subst h3; rw [sI_at]; exact hx
      · rw [sI_ne _ _ h3]; exact hr k h3 h2 h1
/-- (answer, morning, findings) are told in the rows a, c; the row b is free -/
def P3 (u : Sg) (a b c : Nat) (X : R3) (r : Int32) (v : Sg) : Prop := r = X.1 ∧ ∃ T, v = sI (sI (sI u a X.2.1) b T) c X.2.2
theorem P3.of {u v : Sg} {a b c : Nat} {X : R3} {r : Int32} {x y z : Nat → Int32} (hX : X = (r, x, z)) (hx : v.1 a = x) (hy : v.1 b = y) (hz : v.1 c = z) (hab : a ≠ b) (hac : a ≠ c) (hbc : b ≠ c) (hr : ∀ k : Nat, k ≠ a → k ≠ b → k ≠ c → v.1 k = u.1 k) (hL : v.2 = u.2) : P3 u a b c X r v := by
  rw [hX]
  exact ⟨rfl, y, st3 hx hy hz hab hac hbc hr hL⟩
def wid (b : Int32) : Bool := if b = 0 then true else if b = 8 then true else if b = 16 then true else if b = 64 then true else false
def mis (B : Nat → Int32) : Bool := if B 0 = 0 then true else false
def hasR (z a n : Int32) : Bool := if a < 0 then false else if n < 0 then false else if z < n then false else if z - n < a then false else true
def cutL (b : Int32) (x : Int64) : Int64 := if b = 8 then x.toInt32.toInt8.toInt32.toInt64 else if b = 16 then x.toInt32.toInt16.toInt32.toInt64 else x
def rnB (B : Nat → Int32) (b n : Int32) : Nat → Int32 := upd (upd B 0 b) 1 (if b = 0 then 0 else n)
def zrN (F : Nat → Int64) (k : Nat) : Nat → Int64 := fun j => if j < k then 0 else F j
theorem zrN_0 (F : Nat → Int64) : zrN F 0 = F := funext fun j => by simp [zrN]
theorem zrN_s (F : Nat → Int64) (k : Nat) : vp_updL (zrN F k) k 0 = zrN F (k + 1) := funext fun j => by
  simp only [zrN, vp_updL]
  by_cases h : j = k
  · subst h; rw [if_pos rfl, if_pos (by omega)]
  · rw [if_neg h]
    by_cases h2 : j < k
    · rw [if_pos h2, if_pos (by omega)]
    · rw [if_neg h2, if_neg (by omega)]
theorem lk_out2 {x : Int32} (h1 : ¬ x = 8) (h2 : ¬ x = 16) : Op.lookupswitch.offset [(8, 28), (16, 41)] 54 x.toInt = 54 := by
  have e1 : x.toInt ≠ 8 := ne_toInt (by decide) (by decide) h1
  have e2 : x.toInt ≠ 16 := ne_toInt (by decide) (by decide) h2
  simp only [Op.lookupswitch.offset]
  simp [e1, e2, Ne.symm e1, Ne.symm e2]
