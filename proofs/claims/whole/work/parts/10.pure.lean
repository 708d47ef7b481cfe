/-! ===== what a second does, as functions on the 53 numbers of a morning ===== -/
theorem ti_lt {a b : Int32} : a < b ↔ a.toInt < b.toInt := Int32.lt_iff_toInt_lt
theorem ti_le {a b : Int32} : a ≤ b ↔ a.toInt ≤ b.toInt := Int32.le_iff_toInt_le
theorem ti_eq {a b : Int32} : a = b ↔ a.toInt = b.toInt := Int32.toInt_inj.symm
theorem ti_add {a b : Int32} (h1 : -2147483648 ≤ a.toInt + b.toInt) (h2 : a.toInt + b.toInt ≤ 2147483647) : (a + b).toInt = a.toInt + b.toInt := by
  rw [Int32.toInt_add]; exact Int.bmod_eq_of_le (by omega) (by omega)
theorem ti_sub {a b : Int32} (h1 : -2147483648 ≤ a.toInt - b.toInt) (h2 : a.toInt - b.toInt ≤ 2147483647) : (a - b).toInt = a.toInt - b.toInt := by
  rw [Int32.toInt_sub]; exact Int.bmod_eq_of_le (by omega) (by omega)
theorem ti_nI {n : Nat} (h : n < 2147483648) : (nI n).toInt = (n : Int) := nI_toInt h
theorem nI_back {x : Int32} (h : 0 ≤ x.toInt) : x = nI x.toNatClampNeg := by
  apply Int32.toInt_inj.mp
  have h2 : x.toInt < 2 ^ 31 := x.toInt_lt
  have h3 : x.toNatClampNeg = x.toInt.toNat := rfl
  rw [ti_nI (by rw [h3]; omega), h3]
  omega
theorem clamp_toInt {x : Int32} (h : 0 ≤ x.toInt) : (x.toNatClampNeg : Int) = x.toInt := by
  have h3 : x.toNatClampNeg = x.toInt.toNat := rfl
  rw [h3]; omega
def stGo (load : Int32) (o : Bool) : Int32 := if o = false then 4 else if load ≤ 0 then 7 else 6
def goesV (k load : Int32) (o : Bool) : Int32 := if k = 2 then 3 else if k = 3 then stGo load o else if k = 4 then stGo load o - 1 else if k = 5 then 3 else 4
def goesBy (k load : Int32) (o : Bool) : Int32 := if load < 5 then goesV k load o else goesV k load o - 1
theorem stGo_v (load : Int32) (o : Bool) : stGo load o = 4 ∨ stGo load o = 6 ∨ stGo load o = 7 := by
  unfold stGo
  split
  · exact Or.inl rfl
  · split
    · exact Or.inr (Or.inr rfl)
    · exact Or.inr (Or.inl rfl)
theorem goesV_v (k load : Int32) (o : Bool) : goesV k load o = 3 ∨ goesV k load o = 4 ∨ goesV k load o = 5 ∨ goesV k load o = 6 ∨ goesV k load o = 7 := by
  unfold goesV
  rcases stGo_v load o with h | h | h <;> rw [h] <;> (repeat' split) <;> decide
theorem goes_max (k load : Int32) (o : Bool) : ¬ goesV k load o < 1 ∧ ¬ goesV k load o - 1 < 1 := by
  rcases goesV_v k load o with h | h | h | h | h <;> rw [h] <;> decide
theorem goesBy_ti (k load : Int32) (o : Bool) : 1 ≤ (goesBy k load o).toInt ∧ (goesBy k load o).toInt ≤ 7 := by
  unfold goesBy
  split
  · rcases goesV_v k load o with h | h | h | h | h <;> rw [h] <;> decide
  · rcases goesV_v k load o with h | h | h | h | h <;> rw [h] <;> decide
def wkr (f : Int32) : Int32 := if f < 12 then f / 4 + 1 else 0
def hlds (k f l b : Int32) : Int32 := if k = 1 then (if l = 0 then 0 else wkr f) else if k = 2 then wkr f + l else if k = 3 then 9 else if k = 4 then 0 else if k = 5 then (if b = 0 then 0 else wkr f + l) else wkr f
def asks (k care l : Int32) : Bool := if k = 1 then (if care < 20 then false else true) else if k = 2 then (if care < 90 then false else true) else if k = 3 then false else if k = 4 then false else if k = 5 then (if care < 10 then false else true) else (if care < 50 then false else if l = 0 then true else false)
def asMay (is kind : Int32) : Bool := decide (kind = 0) || decide (kind = is) || (decide (kind = 3) && decide (is = 4)) || (decide (kind = 2) && decide (is = 5))
def isKd (k : Int32) : Bool := if k < 0 then false else if 6 ≤ k then false else true
def kAb (k : Int32) : Int32 := if k = 1 then 0 else if k = 2 then 0 else if k = 3 then 0 else if k = 4 then 3 else if k = 5 then 2 else -1
def nP (M : Nat → Int32) : Nat := (M 4).toNatClampNeg
def hiW (w : Nat) : Int := if w = 0 then 5 else if w = 1 then 1 else if w = 2 then 9 else if w = 3 then 999 else if w = 4 then 1 else 999
/-- what always holds of a morning -/
def Wf (M : Nat → Int32) : Prop :=
  (∀ j : Nat, 53 ≤ j → M j = 0) ∧ (∀ p w : Nat, p < 8 → w < 6 → 0 ≤ (M (5 + 6 * p + w)).toInt ∧ (M (5 + 6 * p + w)).toInt ≤ hiW w) ∧
  (0 ≤ (M 1).toInt ∧ (M 1).toInt ≤ 99) ∧ (0 ≤ (M 2).toInt ∧ (M 2).toInt ≤ 60) ∧ (-1 ≤ (M 3).toInt ∧ (M 3).toInt < (M 4).toInt ∨ (M 3).toInt = -1) ∧ (0 ≤ (M 4).toInt ∧ (M 4).toInt ≤ 8)
theorem Wf.n {M : Nat → Int32} (h : Wf M) : M 4 = nI (nP M) := nI_back h.2.2.2.2.2.1
theorem Wf.n8 {M : Nat → Int32} (h : Wf M) : nP M ≤ 8 := by
  have h1 := clamp_toInt h.2.2.2.2.2.1
  have h2 := h.2.2.2.2.2.2
  unfold nP
  omega
def opn (M : Nat → Int32) : Bool := if M 2 ≤ 0 then false else true
def gB (M : Nat → Int32) (p : Nat) (o : Bool) : Int32 := goesBy (M (5 + 6 * p + 0)) (M (5 + 6 * p + 2)) o
def hF (M : Nat → Int32) (p q : Nat) : Int32 := hlds (M (5 + 6 * p + 0)) (M (5 + 6 * q + 3)) (M (5 + 6 * q + 2)) (M (5 + 6 * q + 1))
def aK (M : Nat → Int32) (p q : Nat) : Bool := asks (M (5 + 6 * p + 0)) (M 1) (M (5 + 6 * q + 2))
def wk1 (M : Nat → Int32) (o : Bool) (p : Nat) : Nat → Int32 := if M (5 + 6 * p + 4) = 0 then upd M (5 + 6 * p + 3) (if M (5 + 6 * p + 3) - gB M p o < 0 then 0 else M (5 + 6 * p + 3) - gB M p o) else M
def wkN (M : Nat → Int32) (o : Bool) : Nat → Nat → Int32
  | 0 => M
  | p + 1 => wk1 (wkN M o p) o p
def nrN (M : Nat → Int32) : Nat → Int32 × Int32
  | 0 => (-1, 1000)
  | p + 1 => if M (5 + 6 * p + 4) = 0 then (if M (5 + 6 * p + 3) < (nrN M p).2 then (nI p, M (5 + 6 * p + 3)) else nrN M p) else nrN M p
/-- one has come in, and holds for the nearest -/
def cmO (M : Nat → Int32) (p : Nat) : Int32 := if (nrN M (nP M)).1 < 0 then 0 else hF M p (nrN M (nP M)).1.toNatClampNeg
def cm2 (M : Nat → Int32) (p : Nat) : Int32 := if M 2 < cmO M p then cmO M p else M 2
def cmI (M : Nat → Int32) (p : Nat) : Nat → Int32 := upd (upd (upd M (5 + 6 * p + 4) 1) 3 (nI p)) 2 (if 60 < cm2 (upd (upd M (5 + 6 * p + 4) 1) 3 (nI p)) p then 60 else cm2 (upd (upd M (5 + 6 * p + 4) 1) 3 (nI p)) p)
def aB (M : Nat → Int32) (p : Nat) : Bool := if M 3 < 0 then false else aK M (M 3).toNatClampNeg p
def ask1 (M : Nat → Int32) (p : Nat) : Nat → Int32 := upd M (5 + 6 * p + 5) (if 999 < M (5 + 6 * p + 5) + 1 then 999 else M (5 + 6 * p + 5) + 1)
def stE (M : Nat → Int32) (p : Nat) : Nat → Int32 :=
  if opn M = false then (if M (5 + 6 * p + 1) = 1 then cmI M p else M)
  else if aB M p = true then (if M (5 + 6 * p + 1) = 0 then upd (ask1 M p) (5 + 6 * p + 3) 99 else cmI (ask1 M p) p) else cmI M p
def st1 (M : Nat → Int32) (p : Nat) : Nat → Int32 := if M (5 + 6 * p + 4) = 0 then (if M (5 + 6 * p + 3) = 0 then stE M p else M) else M
def stN (M : Nat → Int32) : Nat → Nat → Int32
  | 0 => M
  | p + 1 => st1 (stN M p) p
def dn2 (M : Nat → Int32) : Nat → Int32 := if M 2 ≤ 0 then M else upd M 2 (M 2 - 1)
/-- one second (its number apart) -/
def sec1 (M : Nat → Int32) : Nat → Int32 := dn2 (stN (wkN M (opn M) (nP M)) (nP M))
def secN (M : Nat → Int32) : Nat → Nat → Int32
  | 0 => M
  | n + 1 => sec1 (secN M n)
theorem up_at (M : Nat → Int32) (k : Nat) (v : Int32) : upd M k v k = v := by simp [upd]
theorem up_ne (M : Nat → Int32) {k j : Nat} (v : Int32) (h : j ≠ k) : upd M k v j = M j := by simp [upd, h]
theorem up_same {M : Nat → Int32} {k : Nat} {v : Int32} (h : M k = v) : upd M k v = M := by
  funext j
  by_cases e : j = k
  · rw [e, up_at, h]
  · rw [up_ne _ _ e]
theorem up_up (M : Nat → Int32) (k : Nat) (v w : Int32) : upd (upd M k v) k w = upd M k w := by
  funext j
  by_cases e : j = k
  · rw [e, up_at, up_at]
  · rw [up_ne _ _ e, up_ne _ _ e, up_ne _ _ e]
theorem Wf.w {M : Nat → Int32} (h : Wf M) {p w : Nat} (hp : p < 8) (hw : w < 6) : 0 ≤ (M (5 + 6 * p + w)).toInt ∧ (M (5 + 6 * p + w)).toInt ≤ hiW w := h.2.1 p w hp hw
theorem Wf.put {M : Nat → Int32} (h : Wf M) {p w : Nat} (hp : p < 8) (hw : w < 6) {v : Int32} (h1 : 0 ≤ v.toInt) (h2 : v.toInt ≤ hiW w) : Wf (upd M (5 + 6 * p + w) v) := by
  obtain ⟨a, b, c, d, e, f⟩ := h
  refine ⟨fun j hj => ?_, fun q x hq hx => ?_, ?_, ?_, ?_, ?_⟩
  · rw [up_ne _ _ (by omega)]; exact a j hj
  · by_cases e : 5 + 6 * q + x = 5 + 6 * p + w
    · have hx2 : x = w := by omega
      rw [e, up_at, hx2]
      exact ⟨h1, h2⟩
    · rw [up_ne _ _ e]
      exact b q x hq hx
  · rw [up_ne _ _ (by omega)]; exact c
  · rw [up_ne _ _ (by omega)]; exact d
  · rw [up_ne _ _ (by omega), up_ne _ _ (by omega)]; exact e
  · rw [up_ne _ _ (by omega)]; exact f
theorem Wf.put2 {M : Nat → Int32} (h : Wf M) {v : Int32} (h1 : 0 ≤ v.toInt) (h2 : v.toInt ≤ 60) : Wf (upd M 2 v) := by
  obtain ⟨a, b, c, d, e, f⟩ := h
  refine ⟨fun j hj => ?_, fun q x hq hx => ?_, ?_, ?_, ?_, ?_⟩
  · rw [up_ne _ _ (by omega)]; exact a j hj
  · rw [up_ne _ _ (by omega)]; exact b q x hq hx
  · rw [up_ne _ _ (by omega)]; exact c
  · rw [up_at]; exact ⟨h1, h2⟩
  · rw [up_ne _ _ (by omega), up_ne _ _ (by omega)]; exact e
  · rw [up_ne _ _ (by omega)]; exact f
theorem Wf.put1 {M : Nat → Int32} (h : Wf M) {v : Int32} (h1 : 0 ≤ v.toInt) (h2 : v.toInt ≤ 99) : Wf (upd M 1 v) := by
  obtain ⟨a, b, c, d, e, f⟩ := h
  refine ⟨fun j hj => ?_, fun q x hq hx => ?_, ?_, ?_, ?_, ?_⟩
  · rw [up_ne _ _ (by omega)]; exact a j hj
  · rw [up_ne _ _ (by omega)]; exact b q x hq hx
  · rw [up_at]; exact ⟨h1, h2⟩
  · rw [up_ne _ _ (by omega)]; exact d
  · rw [up_ne _ _ (by omega), up_ne _ _ (by omega)]; exact e
  · rw [up_ne _ _ (by omega)]; exact f
theorem Wf.put3 {M : Nat → Int32} (h : Wf M) {p : Nat} (hp : p < nP M) : Wf (upd M 3 (nI p)) := by
  have h8 := h.n8
  have hc := clamp_toInt h.2.2.2.2.2.1
  obtain ⟨a, b, c, d, e, f⟩ := h
  refine ⟨fun j hj => ?_, fun q x hq hx => ?_, ?_, ?_, ?_, ?_⟩
  · rw [up_ne _ _ (by omega)]; exact a j hj
  · rw [up_ne _ _ (by omega)]; exact b q x hq hx
  · rw [up_ne _ _ (by omega)]; exact c
  · rw [up_ne _ _ (by omega)]; exact d
  · rw [up_at, up_ne _ _ (by omega), ti_nI (by omega)]
    unfold nP at hp
    omega
  · rw [up_ne _ _ (by omega)]; exact f
theorem Wf.put0 {M : Nat → Int32} (h : Wf M) (v : Int32) : Wf (upd M 0 v) := by
  obtain ⟨a, b, c, d, e, f⟩ := h
  refine ⟨fun j hj => ?_, fun q x hq hx => ?_, ?_, ?_, ?_, ?_⟩
  · rw [up_ne _ _ (by omega)]; exact a j hj
  · rw [up_ne _ _ (by omega)]; exact b q x hq hx
  · rw [up_ne _ _ (by omega)]; exact c
  · rw [up_ne _ _ (by omega)]; exact d
  · rw [up_ne _ _ (by omega), up_ne _ _ (by omega)]; exact e
  · rw [up_ne _ _ (by omega)]; exact f
theorem nP_up {M : Nat → Int32} {k : Nat} {v : Int32} (h : k ≠ 4) : nP (upd M k v) = nP M := by
  unfold nP
  rw [up_ne _ _ (Ne.symm h)]
theorem wkr_ti {f : Int32} (h1 : 0 ≤ f.toInt) : 0 ≤ (wkr f).toInt ∧ (wkr f).toInt ≤ 3 := by
  unfold wkr
  split
  · next h =>
    have h2 : f.toInt < 12 := by simpa using ti_lt.mp h
    have hf := nI_back h1
    have hc := clamp_toInt h1
    rw [hf]
    generalize f.toNatClampNeg = k at *
    have hk : k < 12 := by omega
    rcases (show k = 0 ∨ k = 1 ∨ k = 2 ∨ k = 3 ∨ k = 4 ∨ k = 5 ∨ k = 6 ∨ k = 7 ∨ k = 8 ∨ k = 9 ∨ k = 10 ∨ k = 11 by omega) with rfl | rfl | rfl | rfl | rfl | rfl | rfl | rfl | rfl | rfl | rfl | rfl <;> decide
  · decide
theorem hlds_ti {k f l b : Int32} (h1 : 0 ≤ f.toInt) (h2 : 0 ≤ l.toInt) (h3 : l.toInt ≤ 9) : 0 ≤ (hlds k f l b).toInt ∧ (hlds k f l b).toInt ≤ 12 := by
  have hw := wkr_ti h1
  have ha : (wkr f + l).toInt = (wkr f).toInt + l.toInt := ti_add (by omega) (by omega)
  unfold hlds
  (repeat' split) <;> first | omega | decide
theorem nrN_1 (M : Nat → Int32) : ∀ n : Nat, n ≤ 8 → (nrN M n).1 = -1 ∨ ∃ q : Nat, q < n ∧ (nrN M n).1 = nI q
  | 0, _ => Or.inl rfl
  | p + 1, h => by
    unfold nrN
    split
    · split
      · exact Or.inr ⟨p, by omega, rfl⟩
      · rcases nrN_1 M p (by omega) with h1 | ⟨q, h1, h2⟩
        · exact Or.inl h1
        · exact Or.inr ⟨q, by omega, h2⟩
    · rcases nrN_1 M p (by omega) with h1 | ⟨q, h1, h2⟩
      · exact Or.inl h1
      · exact Or.inr ⟨q, by omega, h2⟩
theorem cmO_ti {M : Nat → Int32} (h : Wf M) {p : Nat} : 0 ≤ (cmO M p).toInt ∧ (cmO M p).toInt ≤ 12 := by
  unfold cmO
  have h8 := h.n8
  rcases nrN_1 M (nP M) h8 with h1 | ⟨q, h1, h2⟩
  · rw [h1, if_pos (by decide)]; decide
  · rw [h2, if_neg (nI_pos (by omega)), nI_clamp (by omega)]
    exact hlds_ti (h.w (w := 3) (by omega) (by decide)).1 (h.w (w := 2) (by omega) (by decide)).1 (h.w (w := 2) (by omega) (by decide)).2
theorem cm2_ti {M : Nat → Int32} (h : Wf M) {p : Nat} : 0 ≤ (cm2 M p).toInt ∧ (cm2 M p).toInt ≤ 60 := by
  have h1 := cmO_ti h (p := p)
  have h2 := h.2.2.2.1
  unfold cm2
  split <;> omega
theorem Wf_cmI {M : Nat → Int32} (h : Wf M) {p : Nat} (hp : p < nP M) : Wf (cmI M p) := by
  have h8 := h.n8
  have hA : Wf (upd M (5 + 6 * p + 4) 1) := h.put (by omega) (by decide) (by decide) (by decide)
  have hB : Wf (upd (upd M (5 + 6 * p + 4) 1) 3 (nI p)) := hA.put3 (by rw [nP_up (by omega)]; exact hp)
  have h2 := cm2_ti hB (p := p)
  unfold cmI
  split
  · exact hB.put2 (by decide) (by decide)
  · exact hB.put2 h2.1 h2.2
theorem nP_cmI {M : Nat → Int32} {p : Nat} : nP (cmI M p) = nP M := by
  unfold cmI
  rw [nP_up (by decide), nP_up (by decide), nP_up (by omega)]
theorem Wf_ask1 {M : Nat → Int32} (h : Wf M) {p : Nat} (hp : p < 8) : Wf (ask1 M p) := by
  have h1 := h.w (p := p) (w := 5) hp (by decide)
  have h3 : hiW 5 = 999 := rfl
  have ha : (M (5 + 6 * p + 5) + 1).toInt = (M (5 + 6 * p + 5)).toInt + 1 := ti_add (show _ ≤ _ + (1 : Int) by omega) (show _ + (1 : Int) ≤ _ by omega)
  unfold ask1
  split
  · exact h.put hp (by decide) (by decide) (by decide)
  · next hc =>
    have hc2 : ¬ (999 : Int) < (M (5 + 6 * p + 5) + 1).toInt := fun q => hc (ti_lt.mpr q)
    exact h.put hp (by decide) (by omega) (by omega)
theorem nP_ask1 {M : Nat → Int32} {p : Nat} : nP (ask1 M p) = nP M := by
  unfold ask1
  rw [nP_up (by omega)]
theorem Wf_stE {M : Nat → Int32} (h : Wf M) {p : Nat} (hp : p < nP M) : Wf (stE M p) := by
  have h8 := h.n8
  unfold stE
  split
  · split
    · exact Wf_cmI h hp
    · exact h
  · split
    · split
      · exact (Wf_ask1 h (by omega)).put (by omega) (by decide) (by decide) (by decide)
      · exact Wf_cmI (Wf_ask1 h (by omega)) (by rw [nP_ask1]; exact hp)
    · exact Wf_cmI h hp
theorem nP_stE {M : Nat → Int32} {p : Nat} : nP (stE M p) = nP M := by
  unfold stE
  split
  · split
    · exact nP_cmI
    · rfl
  · split
    · split
      · rw [nP_up (by omega), nP_ask1]
      · rw [nP_cmI, nP_ask1]
    · exact nP_cmI
theorem Wf_st1 {M : Nat → Int32} (h : Wf M) {p : Nat} (hp : p < nP M) : Wf (st1 M p) := by
  unfold st1
  split
  · split
    · exact Wf_stE h hp
    · exact h
  · exact h
theorem nP_st1 {M : Nat → Int32} {p : Nat} : nP (st1 M p) = nP M := by
  unfold st1
  split
  · split
    · exact nP_stE
    · rfl
  · rfl
theorem nP_stN {M : Nat → Int32} : ∀ n : Nat, nP (stN M n) = nP M
  | 0 => rfl
  | p + 1 => by rw [stN, nP_st1, nP_stN p]
theorem Wf_stN {M : Nat → Int32} (h : Wf M) : ∀ n : Nat, n ≤ nP M → Wf (stN M n)
  | 0, _ => h
  | p + 1, hn => by
    rw [stN]
    exact Wf_st1 (Wf_stN h p (by omega)) (by rw [nP_stN]; omega)
theorem wk_ti {M : Nat → Int32} (h : Wf M) {p : Nat} (hp : p < 8) (o : Bool) : (M (5 + 6 * p + 3) - gB M p o).toInt = (M (5 + 6 * p + 3)).toInt - (gB M p o).toInt ∧ (M (5 + 6 * p + 3) - gB M p o).toInt ≤ 999 := by
  have h1 := h.w (p := p) (w := 3) hp (by decide)
  have h3 : hiW 3 = 999 := rfl
  have h2 := goesBy_ti (M (5 + 6 * p + 0)) (M (5 + 6 * p + 2)) o
  have ha : (M (5 + 6 * p + 3) - gB M p o).toInt = (M (5 + 6 * p + 3)).toInt - (gB M p o).toInt := ti_sub (by unfold gB; omega) (by unfold gB; omega)
  refine ⟨ha, ?_⟩
  rw [ha]
  unfold gB
  omega
theorem Wf_wk1 {M : Nat → Int32} (h : Wf M) {p : Nat} (hp : p < 8) (o : Bool) : Wf (wk1 M o p) := by
  have h1 := wk_ti h hp o
  have h3 : hiW 3 = 999 := rfl
  unfold wk1
  split
  · split
    · exact h.put hp (by decide) (by decide) (by decide)
    · next hc =>
      have hc2 : ¬ (M (5 + 6 * p + 3) - gB M p o).toInt < 0 := fun q => hc (ti_lt.mpr q)
      exact h.put hp (by decide) (by omega) (by omega)
  · exact h
theorem wk1_low {M : Nat → Int32} {o : Bool} {p k : Nat} (hk : k < 5) : wk1 M o p k = M k := by
  unfold wk1
  split
  · rw [up_ne _ _ (by omega)]
  · rfl
theorem wkN_low {M : Nat → Int32} {o : Bool} {k : Nat} (hk : k < 5) : ∀ n : Nat, wkN M o n k = M k
  | 0 => rfl
  | p + 1 => by rw [wkN, wk1_low hk, wkN_low hk p]
theorem nP_wkN {M : Nat → Int32} {o : Bool} (n : Nat) : nP (wkN M o n) = nP M := by
  unfold nP
  rw [wkN_low (by decide)]
theorem opn_wkN {M : Nat → Int32} {o : Bool} (n : Nat) : opn (wkN M o n) = opn M := by
  unfold opn
  rw [wkN_low (by decide)]
theorem Wf_wkN {M : Nat → Int32} (h : Wf M) (o : Bool) : ∀ n : Nat, n ≤ 8 → Wf (wkN M o n)
  | 0, _ => h
  | p + 1, hn => by
    rw [wkN]
    exact Wf_wk1 (Wf_wkN h o p (by omega)) (by omega) o
theorem Wf_dn2 {M : Nat → Int32} (h : Wf M) : Wf (dn2 M) := by
  unfold dn2
  split
  · exact h
  · next hc =>
    have h2 := h.2.2.2.1
    have hc2 : ¬ (M 2).toInt ≤ 0 := fun q => hc (ti_le.mpr q)
    have ha : (M 2 - 1).toInt = (M 2).toInt - 1 := ti_sub (show _ ≤ _ - (1 : Int) by omega) (show _ - (1 : Int) ≤ _ by omega)
    exact h.put2 (by omega) (by omega)
theorem nP_dn2 {M : Nat → Int32} : nP (dn2 M) = nP M := by
  unfold dn2
  split
  · rfl
  · rw [nP_up (by decide)]
theorem Wf_sec1 {M : Nat → Int32} (h : Wf M) : Wf (sec1 M) := by
  have h8 := h.n8
  unfold sec1
  exact Wf_dn2 (Wf_stN (Wf_wkN h _ _ h8) _ (by rw [nP_wkN]; exact Nat.le_refl _))
theorem nP_sec1 {M : Nat → Int32} : nP (sec1 M) = nP M := by
  unfold sec1
  rw [nP_dn2, nP_stN, nP_wkN]
theorem Wf_secN {M : Nat → Int32} (h : Wf M) : ∀ n : Nat, Wf (secN M n)
  | 0 => h
  | n + 1 => by rw [secN]; exact Wf_sec1 (Wf_secN h n)
theorem nP_secN {M : Nat → Int32} : ∀ n : Nat, nP (secN M n) = nP M
  | 0 => rfl
  | n + 1 => by rw [secN, nP_sec1, nP_secN n]
def fullB (M : Nat → Int32) : Bool := if M 4 < 8 then false else true
def swp (M : Nat → Int32) (p q : Nat) : Nat → Int32 := upd (upd M (5 + 6 * p + 3) (M (5 + 6 * q + 3))) (5 + 6 * q + 3) (M (5 + 6 * p + 3))
def adC (M : Nat → Int32) (n : Nat) (k f : Int32) : Nat → Int32 := upd (upd (upd (upd (upd (upd (upd M (5 + 6 * n + 0) k) (5 + 6 * n + 1) 1) (5 + 6 * n + 2) 0) (5 + 6 * n + 3) f) (5 + 6 * n + 4) 0) (5 + 6 * n + 5) 0) 4 (nI (n + 1))
def smN (M : Nat → Int32) (w : Nat) : Nat → Int32
  | 0 => 0
  | p + 1 => smN M w p + M (5 + 6 * p + w)
def inS (M : Nat → Int32) : Nat → Int32
  | 0 => 0
  | p + 1 => inS M p ||| M (5 + 6 * p + 4) <<< (nI p &&& 31)
def loS (M : Nat → Int32) : Nat → Int32
  | 0 => 0
  | p + 1 => if M (5 + 6 * p + 1) = 0 then loS M p ||| M (5 + 6 * p + 4) <<< (nI p &&& 31) else loS M p
