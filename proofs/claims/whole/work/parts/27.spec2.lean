/-! ===== the image, the tape, the sheets: what their calls do ===== -/
theorem sI_mid (u : Sg) {c d : Nat} (f g h : Nat → Int32) (hcd : c ≠ d) : sI (sI (sI u c f) d g) c h = sI (sI u d g) c h := by
  rw [sI_comm u f g hcd, sI_sI]
def fiN (f : Int32) : Nat := if f = -1000000001 then 0 else if f = -1000000002 then 1 else if f = -1000000003 then 2 else if f = -1000000004 then 3 else if f = -1000000005 then 4 else if f = -1000000006 then 5 else 6
/-- a call with a fault f (0: none): it tells it, and counts it in row c, or it does its work -/
def PS (u : Sg) (c : Nat) (F : Nat → Int32) (f : Int32) (ok : Int32 → Sg → Prop) (r : Int32) (v : Sg) : Prop := (f = 0 → ok r v) ∧ (f ≠ 0 → r = f ∧ v = sI u c (bmp F (fiN f)))
theorem PS.ok {u : Sg} {c : Nat} {F : Nat → Int32} {f : Int32} {ok : Int32 → Sg → Prop} {r : Int32} {v : Sg} (hf : f = 0) (h : ok r v) : PS u c F f ok r v := ⟨fun _ => h, fun h2 => absurd hf h2⟩
theorem PS.bad {u : Sg} {c : Nat} {F : Nat → Int32} {f : Int32} {ok : Int32 → Sg → Prop} {r : Int32} {v : Sg} (k : Int32) (hf : f = k) (hk : k ≠ 0) (hr : r = k) (hv : v = sI u c (bmp F (fiN k))) : PS u c F f ok r v := by
  subst hf
  exact ⟨fun h => absurd h hk, fun _ => ⟨hr, hv⟩⟩
def PSL (u : Sg) (c : Nat) (F : Nat → Int32) (f : Int32) (ok : Int64 → Sg → Prop) (r : Int64) (v : Sg) : Prop := (f = 0 → ok r v) ∧ (f ≠ 0 → r = f.toInt64 ∧ v = sI u c (bmp F (fiN f)))
theorem PSL.ok {u : Sg} {c : Nat} {F : Nat → Int32} {f : Int32} {ok : Int64 → Sg → Prop} {r : Int64} {v : Sg} (hf : f = 0) (h : ok r v) : PSL u c F f ok r v := ⟨fun _ => h, fun h2 => absurd hf h2⟩
theorem PSL.bad {u : Sg} {c : Nat} {F : Nat → Int32} {f : Int32} {ok : Int64 → Sg → Prop} {r : Int64} {v : Sg} (k : Int32) (hf : f = k) (hk : k ≠ 0) (hr : r = k.toInt64) (hv : v = sI u c (bmp F (fiN k))) : PSL u c F f ok r v := by
  subst hf
  exact ⟨fun h => absurd h hk, fun _ => ⟨hr, hv⟩⟩
/-- bytes of a number behind a tape, the highest first -/
def apG (g : Int32 → Int32) (f : Nat → Int32) (len : Nat) (x : Int32) : Nat → Nat → Int32
  | 0 => f
  | i + 1 => apG g (upd f len (g (x >>> (nI (8 * i) &&& 31)))) (len + 1) x i
def gCl (y : Int32) : Int32 := vp_nar .byte y.toInt8.toInt32
def gMo (y : Int32) : Int32 := y &&& 255
def f_feed (len : Nat) (n : Int32) : Int32 := if inI n 1 4 = false then -1000000001 else if nI 120 < nI len + n then -1000000002 else 0
theorem in14 {w : Int32} (h : inI w 1 4 = true) : w = 1 ∨ w = 2 ∨ w = 3 ∨ w = 4 := by
  obtain ⟨j, h1, h2, e⟩ := inI_nat h rfl rfl (na := 1) (nb := 4) (by decide) (by decide)
  rcases (show j = 1 ∨ j = 2 ∨ j = 3 ∨ j = 4 by omega) with rfl | rfl | rfl | rfl
  · exact Or.inl e
  · exact Or.inr (Or.inl e)
  · exact Or.inr (Or.inr (Or.inl e))
  · exact Or.inr (Or.inr (Or.inr e))
theorem feed_ok {len k : Nat} (h1 : 1 ≤ k) (h4 : k ≤ 4) (hl : len + k ≤ 120) : f_feed len (nI k) = 0 := by
  unfold f_feed
  rw [inI_of (by rw [ti_nI (by omega)]; show (1 : Int) ≤ _; omega) (by rw [ti_nI (by omega)]; show _ ≤ (4 : Int); omega), if_neg (by decide), if_neg]
  rw [nI_add, nI_ltI (by omega) (by omega)]; omega
theorem feed_full {len k : Nat} (h1 : 1 ≤ k) (h4 : k ≤ 4) (hl : 120 < len + k) (hl2 : len ≤ 120) : f_feed len (nI k) = -1000000002 := by
  unfold f_feed
  rw [inI_of (by rw [ti_nI (by omega)]; show (1 : Int) ≤ _; omega) (by rw [ti_nI (by omega)]; show _ ≤ (4 : Int); omega), if_neg (by decide), if_pos]
  rw [nI_add, nI_ltI (by omega) (by omega)]; omega
/-- sheets -/
def f_sheet (s b n : Int32) : Int32 := if inI s 0 3 = false then -1000000001 else if wid b = false then -1000000001 else if n < 0 then -1000000007 else if 40 < n then -1000000001 else 0
def f_there (s : Int32) (B : Nat → Nat → Int32) : Int32 := if inI s 0 3 = false then -1000000001 else if mis (B s.toNatClampNeg) = true then -1000000006 else 0
def f_write (s i : Int32) (B : Nat → Nat → Int32) : Int32 := if inI s 0 3 = false then -1000000001 else if mis (B s.toNatClampNeg) = true then -1000000006 else if inI i 0 (B s.toNatClampNeg 1 - 1) = false then -1000000001 else 0
def f_copy (s a t b n : Int32) (B : Nat → Nat → Int32) : Int32 := if inI s 0 3 = false then -1000000001 else if inI t 0 3 = false then -1000000001 else if mis (B s.toNatClampNeg) = true then -1000000006 else if mis (B t.toNatClampNeg) = true then -1000000006 else if ¬ B s.toNatClampNeg 0 = B t.toNatClampNeg 0 then -1000000003 else if hasR (B s.toNatClampNeg 1) a n = false then -1000000001 else if hasR (B t.toNatClampNeg 1) b n = false then -1000000001 else 0
def f_book (s p : Int32) (B : Nat → Nat → Int32) (M : Nat → Int32) : Int32 := if inI s 0 3 = false then -1000000001 else if mis (B s.toNatClampNeg) = true then -1000000006 else if isPe M p = true then 0 else -1000000001
/-- the class's sheets: bits and size -/
def shB (u : Sg) (j : Nat) : Nat → Int32 := u.1 (7 + j)
/-- numbers laid as feet: what came, and the morning -/
def laN (f : Nat → Int64) (M : Nat → Int32) : Nat → (Nat → Int32) × Int32
  | 0 => (M, 0)
  | k + 1 => if f k < 0 then laN f M k else if 999 < f k then laN f M k else (upd (laN f M k).1 (5 + 6 * k + 3) (f k).toInt32, (laN f M k).2 + 1)
/-- a book: feet, a second after another, cut to bits b -/
def bkN (f : Nat → Int64) (M : Nat → Int32) (p : Nat) (b : Int32) : Nat → Nat → Int64
  | 0 => f
  | k + 1 => vp_updL (bkN f M p b k) k (cutL b (secN M k (5 + 6 * p + 3)).toInt64)
/-- how many of the first n pairs of a kind and a load fit -/
def rdN (f : Nat → Int64) (M : Nat → Int32) (p sz : Nat) : Nat → Nat
  | 0 => 0
  | k + 1 => rdN f M p sz k + (if wlN f (upd (upd M (5 + 6 * p + 0) (nI (k / 10))) (5 + 6 * p + 2) (nI (k % 10))) p sz = true then 1 else 0)
theorem rdN_le {f : Nat → Int64} {M : Nat → Int32} {p sz : Nat} : ∀ n : Nat, rdN f M p sz n ≤ n
  | 0 => Nat.le_refl _
  | k + 1 => by
    rw [rdN]
    have := rdN_le (f := f) (M := M) (p := p) (sz := sz) k
    split <;> omega
