/-! ===== the class's reader ===== -/
theorem isB_in {T : Nat → Int32} {t k : Nat} {a b : Int32} (h : k < t) : isB T t k a b = inI (T k) a b := by unfold isB; rw [if_neg (by omega)]
theorem isB_o {T : Nat → Int32} {t k : Nat} {a b : Int32} (h : t ≤ k) : isB T t k a b = false := by unfold isB; rw [if_pos h]
theorem inI_self (a : Int32) : inI a a a = true := by
  unfold inI; rw [if_neg Int32.lt_irrefl, if_neg Int32.lt_irrefl]
theorem inI_ne {x a : Int32} (h : x ≠ a) : inI x a a = false := by
  unfold inI
  by_cases h1 : x < a
  · rw [if_pos h1]
  · rw [if_neg h1]
    by_cases h2 : a < x
    · rw [if_pos h2]
    · exact absurd (Int32.le_antisymm (Int32.not_lt.mp h2) (Int32.not_lt.mp h1)) h
theorem isB_e {T : Nat → Int32} {t k : Nat} {a : Int32} (h : k < t) (e : T k = a) : isB T t k a a = true := by rw [isB_in h, e]; exact inI_self a
theorem isB_n {T : Nat → Int32} {t k : Nat} {a : Int32} (e : T k ≠ a) : isB T t k a a = false := by
  by_cases h : k < t
  · rw [isB_in h]; exact inI_ne e
  · exact isB_o (by omega)
theorem runE_o {T : Nat → Int32} {t k : Nat} {a b : Int32} (h : t ≤ k) : runE T t a b k = k := runE_f (isB_o h)
def digC (v c : Int32) : Int32 := if 1000 < 10 * v + c - 48 then 1000 else 10 * v + c - 48
def vlcN (T : Nat → Int32) (t : Nat) : Nat → Nat → Int32 → Int32
  | 0, _, v => v
  | f + 1, k, v => if isB T t k 48 57 = true then vlcN T t f (k + 1) (digC v (T k)) else v
def vlcE (T : Nat → Int32) (t k : Nat) (v : Int32) : Int32 := vlcN T t (t - k) k v
theorem vlcE_f {T : Nat → Int32} {t k : Nat} {v : Int32} (h : isB T t k 48 57 = false) : vlcE T t k v = v := by
  unfold vlcE
  cases t - k with
  | zero => rfl
  | succ f => show (if _ then _ else _) = _; rw [if_neg (by rw [h]; decide)]
theorem vlcE_t {T : Nat → Int32} {t k : Nat} {v w : Int32} (h : isB T t k 48 57 = true) (hw : digC v (T k) = w) : vlcE T t k v = vlcE T t (k + 1) w := by
  have hk := isB_lt h
  subst hw
  unfold vlcE
  rw [show t - k = (t - (k + 1)) + 1 by omega]
  show (if _ then _ else _) = _
  rw [if_pos h]
/-- the token from place a on: its sort, where it begins, where it ends, the number held (n0 before) -/
def lexC (T : Nat → Int32) (t a : Nat) (n0 : Int32) : Nat × Nat × Nat × Int32 :=
  let b := runE T t 32 32 a
  if t ≤ b then (0, b, b, n0)
  else if isB T t b 97 122 = true then (1, b, runE T t 97 122 b, n0)
  else if isB T t b 48 57 = true then (2, b, runE T t 48 57 b, vlcE T t b 0)
  else if isB T t b 59 59 = true then (3, b, b + 1, n0) else (4, b, b, n0)
section LXC
variable {T : Nat → Int32} {t a b e : Nat} {n0 v : Int32}
theorem lxc_over (h : runE T t 32 32 a = b) (h1 : t ≤ b) : lexC T t a n0 = (0, b, b, n0) := by
  unfold lexC; simp only [h]; rw [if_pos h1]
theorem lxc_word (h : runE T t 32 32 a = b) (h1 : ¬ t ≤ b) (h2 : isB T t b 97 122 = true) (he : runE T t 97 122 b = e) : lexC T t a n0 = (1, b, e, n0) := by
  unfold lexC; simp only [h]; rw [if_neg h1, if_pos h2, he]
theorem lxc_num (h : runE T t 32 32 a = b) (h1 : ¬ t ≤ b) (h2 : isB T t b 97 122 = false) (h3 : isB T t b 48 57 = true) (he : runE T t 48 57 b = e) (hv : vlcE T t b 0 = v) : lexC T t a n0 = (2, b, e, v) := by
  unfold lexC; simp only [h]; rw [if_neg h1, if_neg (by rw [h2]; decide), if_pos h3, he, hv]
theorem lxc_sign (h : runE T t 32 32 a = b) (h1 : ¬ t ≤ b) (h2 : isB T t b 97 122 = false) (h3 : isB T t b 48 57 = false) (h4 : isB T t b 59 59 = true) : lexC T t a n0 = (3, b, b + 1, n0) := by
  unfold lexC; simp only [h]; rw [if_neg h1, if_neg (by rw [h2]; decide), if_neg (by rw [h3]; decide), if_pos h4]
theorem lxc_other (h : runE T t 32 32 a = b) (h1 : ¬ t ≤ b) (h2 : isB T t b 97 122 = false) (h3 : isB T t b 48 57 = false) (h4 : isB T t b 59 59 = false) : lexC T t a n0 = (4, b, b, n0) := by
  unfold lexC; simp only [h]; rw [if_neg h1, if_neg (by rw [h2]; decide), if_neg (by rw [h3]; decide), if_neg (by rw [h4]; decide)]
end LXC
def ntX (F : Nat → Int32) (R : Nat × Nat × Nat × Int32) : Nat → Int32 := upd (upd (upd (upd F 4 (nI R.2.2.1)) 3 (nI R.2.1)) 2 (nI R.1)) 5 R.2.2.2
def ntF (T : Nat → Int32) (t : Nat) (F : Nat → Int32) : Nat → Int32 := ntX F (lexC T t (F 4).toNatClampNeg (F 5))
theorem nt_5 (F : Nat → Int32) (e s t : Int32) : upd (upd (upd (upd F 4 e) 3 s) 2 t) 5 (F 5) = upd (upd (upd F 4 e) 3 s) 2 t :=
  up_same (by rw [up_ne _ _ (by decide), up_ne _ _ (by decide), up_ne _ _ (by decide)])
theorem nt_4 (F : Nat → Int32) (e s t e2 : Int32) : upd (upd (upd (upd F 4 e) 3 s) 2 t) 4 e2 = upd (upd (upd F 4 e2) 3 s) 2 t := by
  rw [up_comm _ (by decide : (2 : Nat) ≠ 4), up_comm _ (by decide : (3 : Nat) ≠ 4), up_up]
theorem nt_54 (F : Nat → Int32) (e s t v e2 : Int32) : upd (upd (upd (upd (upd F 4 e) 3 s) 2 t) 5 v) 4 e2 = upd (upd (upd (upd F 4 e2) 3 s) 2 t) 5 v := by
  rw [up_comm _ (by decide : (5 : Nat) ≠ 4), nt_4]
theorem x45 (F : Nat → Int32) (v e w : Int32) : upd (upd (upd F 5 v) 4 e) 5 w = upd (upd F 5 w) 4 e := by
  rw [up_comm _ (by decide : (4 : Nat) ≠ 5), up_up]
def TA (t : Nat) (F : Nat → Int32) : Prop := F 1 = nI t ∧ ∃ e, e ≤ t ∧ F 4 = nI e
def TF (t : Nat) (F : Nat → Int32) : Prop := F 1 = nI t ∧ ∃ s e, s ≤ e ∧ e ≤ t ∧ F 3 = nI s ∧ F 4 = nI e
theorem TF.A {t : Nat} {F : Nat → Int32} (h : TF t F) : TA t F := by
  obtain ⟨h1, s, e, _, he, _, h4⟩ := h
  exact ⟨h1, e, he, h4⟩
theorem lexC_le {T : Nat → Int32} {t a : Nat} {n0 : Int32} (ha : a ≤ t) : (lexC T t a n0).2.1 ≤ (lexC T t a n0).2.2.1 ∧ (lexC T t a n0).2.2.1 ≤ t := by
  have hb : runE T t 32 32 a ≤ t := runE_le ha
  unfold lexC
  simp only
  split
  · exact ⟨Nat.le_refl _, hb⟩
  · split
    · exact ⟨runE_ge _ _ _ _ _, runE_le hb⟩
    · split
      · exact ⟨runE_ge _ _ _ _ _, runE_le hb⟩
      · split
        · exact ⟨Nat.le_succ _, by show runE T t 32 32 a + 1 ≤ t; omega⟩
        · exact ⟨Nat.le_refl _, hb⟩
theorem TF_nt {T F : Nat → Int32} {t : Nat} (ht : t ≤ 120) (h : TA t F) : TF t (ntF T t F) := by
  obtain ⟨h1, e, he, h4⟩ := h
  have hq := lexC_le (T := T) (n0 := F 5) he
  unfold ntF
  rw [h4, nI_clamp (by omega)]
  unfold ntX
  refine ⟨?_, _, _, hq.1, hq.2, ?_, ?_⟩
  · rw [up_ne _ _ (by decide), up_ne _ _ (by decide), up_ne _ _ (by decide), up_ne _ _ (by decide)]; exact h1
  · rw [up_ne _ _ (by decide), up_ne _ _ (by decide), up_at]
  · rw [up_ne _ _ (by decide), up_ne _ _ (by decide), up_ne _ _ (by decide), up_at]
theorem sLen_le {i : Nat} (hi : i < 10) : sLen.getD i 0 ≤ 8 := by
  rcases (show i = 0 ∨ i = 1 ∨ i = 2 ∨ i = 3 ∨ i = 4 ∨ i = 5 ∨ i = 6 ∨ i = 7 ∨ i = 8 ∨ i = 9 by omega) with rfl | rfl | rfl | rfl | rfl | rfl | rfl | rfl | rfl | rfl <;> decide
theorem shr0 (x : Int32) : x >>> ((0 : Int32) &&& 31) = x := by
  rw [show ((0 : Int32) &&& 31) = 0 by decide]
  first | exact Int32.shiftRight_zero | (apply Int32.toBitVec_inj.mp; simp)
theorem sb_c {i j : Nat} (hi : i < 10) (hj : j < sLen.getD i 0) : ((((sByt.getD i []).getD j 0) &&& 255).toUInt32 % 65536).toInt32 = (sByt.getD i []).getD j 0 ∧ narrow .char (.int ((sByt.getD i []).getD j 0)) = .int ((sByt.getD i []).getD j 0) := by
  have h8 := sLen_le hi
  have hj8 : j < 8 := by omega
  rcases (show i = 0 ∨ i = 1 ∨ i = 2 ∨ i = 3 ∨ i = 4 ∨ i = 5 ∨ i = 6 ∨ i = 7 ∨ i = 8 ∨ i = 9 by omega) with rfl | rfl | rfl | rfl | rfl | rfl | rfl | rfl | rfl | rfl <;>
  rcases (show j = 0 ∨ j = 1 ∨ j = 2 ∨ j = 3 ∨ j = 4 ∨ j = 5 ∨ j = 6 ∨ j = 7 by omega) with rfl | rfl | rfl | rfl | rfl | rfl | rfl | rfl <;> exact ⟨by decide, rfl⟩
theorem nmB_s {w k : Nat} (hk : k < 8) : nmB (8 * w + k) = (sByt.getD w []).getD k 0 := by
  unfold nmB
  rw [show (8 * w + k) / 8 = w by omega, show (8 * w + k) % 8 = k by omega]
theorem nI_nn {j : Nat} (h : j < 2147483648) : ¬ nI j < 0 := fun q => absurd ((nI_ltI h (by decide : 0 < 2147483648)).mp (show nI j < nI 0 from q)) (by omega)
/-- whether the word before it is word w -/
def isW (T F : Nat → Int32) (w : Nat) : Bool := if F 2 = 1 then (if F 4 - F 3 = nI (sLen.getD w 0) then eqN T (F 3).toNatClampNeg w (sLen.getD w 0) else false) else false
theorem isW_1 {T F : Nat → Int32} {w : Nat} (h : F 2 ≠ 1) : isW T F w = false := by unfold isW; rw [if_neg h]
theorem isW_2 {T F : Nat → Int32} {w s e : Nat} (h3 : F 3 = nI s) (h4 : F 4 = nI e) (hse : s ≤ e) (he : e ≤ 120) (hw : w < 10) (h : e - s ≠ sLen.getD w 0) : isW T F w = false := by
  have h8 := sLen_le hw
  unfold isW
  split
  · rw [h3, h4, pk_sub hse, if_neg (fun q => h ((nI_eq (by omega) (by omega)).mp q))]
  · rfl
theorem isW_3 {T F : Nat → Int32} {w s e : Nat} (h2 : F 2 = 1) (h3 : F 3 = nI s) (h4 : F 4 = nI e) (hse : s ≤ e) (he : e ≤ 120) (h : e - s = sLen.getD w 0) : isW T F w = eqN T s w (sLen.getD w 0) := by
  unfold isW
  rw [if_pos h2, h3, h4, pk_sub hse, if_pos (by rw [h]), nI_clamp (by omega)]
theorem eqN_s {T : Nat → Int32} {b w k : Nat} (hk : k < 8) (h : eqN T b w k = true) (e : T (b + k) = (sByt.getD w []).getD k 0) : eqN T b w (k + 1) = true := by
  show (eqN T b w k && _) = true
  rw [h, nmB_s hk, e, Bool.true_and]; exact decide_eq_true rfl
theorem eqN_x {T : Nat → Int32} {b w k n : Nat} (hk : k < 8) (hn : k < n) (e : ¬ T (b + k) = (sByt.getD w []).getD k 0) : eqN T b w n = false := by
  obtain ⟨d, rfl⟩ := Nat.exists_eq_add_of_le hn
  refine eqN_f ?_ d
  show (eqN T b w k && _) = false
  rw [nmB_s hk, decide_eq_false (fun q => e q.symm), Bool.and_false]
def nnB (F : Nat → Int32) (b : Int32) : Bool := if F 2 = 2 then (if b < F 5 then false else true) else false
def knG (T F : Nat → Int32) : Nat → Nat → Int32
  | 0, _ => -1
  | f + 1, k => if isW T F k = true then nI k else knG T F f (k + 1)
def knV (T F : Nat → Int32) : Int32 := knG T F 6 0
theorem knG_0 {T F : Nat → Int32} {w : Nat} (h : 6 ≤ w) : knG T F (6 - w) w = -1 := by
  rw [show 6 - w = 0 by omega]; rfl
theorem knG_t {T F : Nat → Int32} {w : Nat} (h : w < 6) (hi : isW T F w = true) : knG T F (6 - w) w = nI w := by
  rw [show 6 - w = (5 - w) + 1 by omega]
  show (if _ then _ else _) = _
  rw [if_pos hi]
theorem knG_f {T F : Nat → Int32} {w : Nat} (h : w < 6) (hi : isW T F w = false) : knG T F (6 - w) w = knG T F (6 - (w + 1)) (w + 1) := by
  rw [show 6 - w = (5 - w) + 1 by omega]
  show (if _ then _ else _) = _
  rw [if_neg (by rw [hi]; decide), show 6 - (w + 1) = 5 - w by omega]
abbrev TR : Type := Bool × (Nat → Int32) × (Nat → Int32)
def tpT (T : Nat → Int32) (t : Nat) (F M : Nat → Int32) (n : Nat) : TR := if isW T F 7 = true then (true, ntF T t F, upd M (5 + 6 * n + 1) 0) else (true, F, M)
def tpL (T : Nat → Int32) (t : Nat) (F M : Nat → Int32) (n : Nat) : TR :=
  if isW T F 6 = true then (if nnB (ntF T t F) 9 = true then tpT T t (ntF T t (ntF T t F)) (upd M (5 + 6 * n + 2) (ntF T t F 5)) n else (false, ntF T t F, M)) else tpT T t F M n
def tpR (T : Nat → Int32) (t : Nat) (F M : Nat → Int32) (n : Nat) (k : Int32) : TR :=
  if fullB M = true then (false, F, M)
  else if nnB (ntF T t F) 999 = true then tpL T t (ntF T t (ntF T t F)) (adC M n k (ntF T t F 5)) n else (false, ntF T t F, M)
def tdR (T : Nat → Int32) (t : Nat) (F M : Nat → Int32) : TR :=
  if isW T F 8 = true then (if nnB (ntF T t F) 99 = true then (true, ntF T t (ntF T t F), upd M 1 (ntF T t F 5)) else (false, ntF T t F, M))
  else if isW T F 9 = true then (if nnB (ntF T t F) 60 = true then (true, ntF T t (ntF T t F), upd M 2 (ntF T t F 5)) else (false, ntF T t F, M))
  else (false, F, M)
/-- an item: the word of a kind, or else of the door -/
def tiR (T : Nat → Int32) (t : Nat) (F M : Nat → Int32) (n : Nat) : TR := if knV T F < 0 then tdR T t F M else tpR T t F M n (knV T F)
theorem ti_d {T F M : Nat → Int32} {t n : Nat} (h : knV T F < 0) : tiR T t F M n = tdR T t F M := by unfold tiR; rw [if_pos h]
theorem ti_p {T F M : Nat → Int32} {t n : Nat} (h : ¬ knV T F < 0) : tiR T t F M n = tpR T t F M n (knV T F) := by unfold tiR; rw [if_neg h]
theorem tp_ofi {u v : Sg} {R : TR} {b : Bool} {A B : Nat → Int32} {x : Int32} (hR : R = (b, A, B)) (hx : x = bI b) (hv : v = sI (sI u 4 A) 1 B) : x = bI R.1 ∧ v = sI (sI u 4 R.2.1) 1 R.2.2 := by
  subst hR; exact ⟨hx, hv⟩
theorem full_m {M : Nat → Int32} {n : Nat} (hn : M 4 = nI n) (h : n ≤ 8) (hf : fullB M = false) : n < 8 := by
  rcases Nat.lt_or_ge n 8 with q | q
  · exact q
  · unfold fullB at hf
    rw [hn, show n = 8 by omega, if_neg (by decide)] at hf
    exact absurd hf (by decide)
