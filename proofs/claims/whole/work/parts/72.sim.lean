/-! ===== the class's reader and the reference's, token by token ===== -/
/-- the two tapes: alike, but for bytes above 127 -/
def TpR (t : Nat) (C T : Nat → Int32) : Prop := ∀ k, k < t → C k = T k ∨ ((C k).toInt < 0 ∧ 128 ≤ (T k).toInt)
theorem inI_tp {x y a b : Int32} (h : x = y ∨ (x.toInt < 0 ∧ 128 ≤ y.toInt)) (ha : 0 ≤ a.toInt) (hb : b.toInt ≤ 127) : inI x a b = inI y a b := by
  rcases h with h | ⟨h1, h2⟩
  · rw [h]
  · have e1 : inI x a b = false := by
      unfold inI; rw [if_pos (Int32.lt_iff_toInt_lt.mpr (by omega))]
    have e2 : inI y a b = false := by
      unfold inI
      split
      · rfl
      · rw [if_pos (Int32.lt_iff_toInt_lt.mpr (by omega))]
    rw [e1, e2]
theorem isB_tp {C T : Nat → Int32} {t : Nat} (h : TpR t C T) (k : Nat) {a b : Int32} (ha : 0 ≤ a.toInt) (hb : b.toInt ≤ 127) : isB C t k a b = isB T t k a b := by
  rcases Nat.lt_or_ge k t with q | q
  · rw [isB_in q, isB_in q]; exact inI_tp (h k q) ha hb
  · rw [isB_o q, isB_o q]
theorem runN_tp {C T : Nat → Int32} {t : Nat} (h : TpR t C T) {a b : Int32} (ha : 0 ≤ a.toInt) (hb : b.toInt ≤ 127) : ∀ f k, runN C t a b f k = runN T t a b f k := by
  intro f
  induction f with
  | zero => intro k; rfl
  | succ f ih =>
    intro k
    show (if _ then _ else _) = (if _ then _ else _)
    rw [isB_tp h k ha hb, ih]
theorem runE_tp {C T : Nat → Int32} {t : Nat} (h : TpR t C T) {a b : Int32} (ha : 0 ≤ a.toInt) (hb : b.toInt ≤ 127) (k : Nat) : runE C t a b k = runE T t a b k := runN_tp h ha hb _ _
theorem nmB_r (j : Nat) : 0 ≤ (nmB j).toInt ∧ (nmB j).toInt ≤ 127 := by
  rcases Nat.lt_or_ge j 80 with q | q
  · have h : ∀ i : Fin 80, 0 ≤ (nmB i.val).toInt ∧ (nmB i.val).toInt ≤ 127 := by decide +kernel
    exact h ⟨j, q⟩
  · have e : nmB j = 0 := by
      unfold nmB
      have hl : sByt.getD (j / 8) [] = [] := by
        have h10 : 10 ≤ j / 8 := by omega
        rw [List.getD_eq_getElem?_getD, List.getElem?_eq_none (by simpa [sByt] using h10)]; rfl
      rw [hl]; rfl
    rw [e]; decide
theorem nm_tp {x y : Int32} (j : Nat) (h : x = y ∨ (x.toInt < 0 ∧ 128 ≤ y.toInt)) : decide (nmB j = x) = decide (nmB j = y) := by
  rcases h with h | ⟨h1, h2⟩
  · rw [h]
  · have hr := nmB_r j
    rw [decide_eq_false (fun q => by rw [q] at hr; omega), decide_eq_false (fun q => by rw [q] at hr; omega)]
theorem eqN_tp {C T : Nat → Int32} {t : Nat} (h : TpR t C T) {b w : Nat} : ∀ n, b + n ≤ t → eqN C b w n = eqN T b w n := by
  intro n
  induction n with
  | zero => intro _; rfl
  | succ n ih =>
    intro hn
    show (eqN C b w n && _) = (eqN T b w n && _)
    rw [ih (by omega), nm_tp _ (h (b + n) (by omega))]
/-- numbers -/
def limI (v : Int32) : Int32 := if v ≤ 999 then v else 1000
theorem lim_n {x : Nat} (hx : x ≤ 9999) : limI (nI x) = nI (min x 1000) := by
  unfold limI
  rcases Nat.lt_or_ge 999 x with q | q
  · rw [if_neg (show ¬ nI x ≤ 999 from fun h => absurd ((nI_leI (by omega) (by decide : 999 < 2 ^ 31)).mp h) (by omega)), show min x 1000 = 1000 by omega]; rfl
  · rw [if_pos (show nI x ≤ 999 from (nI_leI (by omega) (by decide : 999 < 2 ^ 31)).mpr q), show min x 1000 = x by omega]
theorem dig_n {x y : Nat} (hy : 48 ≤ y) : 10 * nI x + nI y - 48 = nI (10 * x + y - 48) := by
  rw [show (10 : Int32) = nI 10 from rfl, show (48 : Int32) = nI 48 from rfl, pk_mul, nI_add, pk_sub (by omega)]
theorem dig_sim {x y : Nat} (hx : x ≤ 9999) (h1 : 48 ≤ y) (h2 : y ≤ 57) : digC (limI (nI x)) (nI y) = limI (digV (nI x) (nI y)) ∧ ∃ z, z ≤ 9999 ∧ digV (nI x) (nI y) = nI z := by
  rw [lim_n hx]
  unfold digC digV
  rw [dig_n h1, dig_n h1]
  rcases Nat.lt_or_ge 999 x with q | q
  · rw [if_neg (show ¬ nI x ≤ 999 from fun h => absurd ((nI_leI (by omega) (by decide : 999 < 2 ^ 31)).mp h) (by omega)), lim_n hx, show min x 1000 = 1000 by omega,
      if_pos (show (1000 : Int32) < nI (10 * 1000 + y - 48) from (nI_ltI (by decide : 1000 < 2 ^ 31) (by omega)).mpr (by omega))]
    exact ⟨rfl, x, hx, rfl⟩
  · rw [if_pos (show nI x ≤ 999 from (nI_leI (by omega) (by decide : 999 < 2 ^ 31)).mpr q), show min x 1000 = x by omega, lim_n (by omega)]
    refine ⟨?_, 10 * x + y - 48, by omega, rfl⟩
    rcases Nat.lt_or_ge 1000 (10 * x + y - 48) with r | r
    · rw [if_pos (show (1000 : Int32) < _ from (nI_ltI (by decide : 1000 < 2 ^ 31) (by omega)).mpr r), show min (10 * x + y - 48) 1000 = 1000 by omega]; rfl
    · rw [if_neg (show ¬ (1000 : Int32) < _ from fun h => absurd ((nI_ltI (by decide : 1000 < 2 ^ 31) (by omega)).mp h) (by omega)), show min (10 * x + y - 48) 1000 = 10 * x + y - 48 by omega]
theorem dig_nat {x : Int32} (h : inI x 48 57 = true) : ∃ y, 48 ≤ y ∧ y ≤ 57 ∧ x = nI y := inI_nat h rfl rfl (na := 48) (nb := 57) (by decide) (by decide)
theorem val_sim {C T : Nat → Int32} {t : Nat} (h : TpR t C T) : ∀ f k x, x ≤ 9999 → vlcN C t f k (limI (nI x)) = limI (valN T t f k (nI x)) ∧ ∃ z, z ≤ 9999 ∧ valN T t f k (nI x) = nI z := by
  intro f
  induction f with
  | zero => intro k x hx; exact ⟨rfl, x, hx, rfl⟩
  | succ f ih =>
    intro k x hx
    have e : isB C t k 48 57 = isB T t k 48 57 := isB_tp h k (by decide) (by decide)
    have e1 : vlcN C t (f + 1) k (limI (nI x)) = if isB C t k 48 57 = true then vlcN C t f (k + 1) (digC (limI (nI x)) (C k)) else limI (nI x) := rfl
    have e2 : valN T t (f + 1) k (nI x) = if isB T t k 48 57 = true then valN T t f (k + 1) (digV (nI x) (T k)) else nI x := rfl
    rw [e1, e2, e]
    cases hb : isB T t k 48 57 with
    | false => rw [if_neg (by decide), if_neg (by decide)]; exact ⟨rfl, x, hx, rfl⟩
    | true =>
      have hk := isB_lt hb
      rw [isB_in hk] at hb
      obtain ⟨y, h1, h2, hy⟩ := dig_nat hb
      have hc : C k = T k := by
        rcases h k hk with q | ⟨_, q⟩
        · exact q
        · rw [hy, nI_toInt (by omega)] at q; omega
      rw [if_pos rfl, if_pos rfl, hc, hy]
      obtain ⟨e1, z, hz, e2⟩ := dig_sim hx h1 h2
      rw [e1, e2]
      exact ih (k + 1) z hz
/-- words -/
theorem eqN_at {T : Nat → Int32} {b w n k : Nat} (h : eqN T b w n = true) (hk : k < n) : nmB (8 * w + k) = T (b + k) := by
  induction n with
  | zero => exact absurd hk (Nat.not_lt_zero _)
  | succ n ih =>
    have h' : (eqN T b w n && decide (nmB (8 * w + n) = T (b + n))) = true := h
    rw [Bool.and_eq_true] at h'
    rcases Nat.lt_or_ge k n with q | q
    · exact ih h'.1 q
    · rw [show k = n by omega]; exact of_decide_eq_true h'.2
theorem nm0_t {w n : Nat} (hw : w < 10) (h : nm0 w n = true) : sLen.getD w 0 ≤ n := by
  have h8 := sLen_le hw
  unfold nm0 at h
  split at h
  · exact absurd h (by decide)
  · split at h
    · omega
    · have hk : ∀ (i : Fin 10) (j : Fin 8), nmB (8 * i.val + j.val) = 0 → sLen.getD i.val 0 ≤ j.val := by decide +kernel
      exact hk ⟨w, hw⟩ ⟨n, by omega⟩ (of_decide_eq_true h)
theorem nm0_l {w : Nat} (hw : w < 10) : nm0 w (sLen.getD w 0) = true := by
  have hk : ∀ i : Fin 10, nm0 i.val (sLen.getD i.val 0) = true := by decide +kernel
  exact hk ⟨w, hw⟩
theorem nm_end {w : Nat} (hw : w < 10) (h : sLen.getD w 0 < 8) : nmB (8 * w + sLen.getD w 0) = 0 := by
  have hk : ∀ i : Fin 10, sLen.getD i.val 0 < 8 → nmB (8 * i.val + sLen.getD i.val 0) = 0 := by decide +kernel
  exact hk ⟨w, hw⟩ h
theorem isN_len {T : Nat → Int32} {b w n : Nat} (hw : w < 10) (hl : ∀ k, k < n → 97 ≤ (T (b + k)).toInt) : isN T b w n = (decide (n = sLen.getD w 0) && eqN T b w n) := by
  have h8 := sLen_le hw
  unfold isN
  by_cases e : n = sLen.getD w 0
  · rw [decide_eq_true e, e, nm0_l hw]
  · rw [decide_eq_false e, Bool.false_and]
    cases h : nm0 w n with
    | false => rfl
    | true =>
      rw [Bool.true_and]
      have hq := nm0_t hw h
      cases h2 : eqN T b w n with
      | false => rfl
      | true =>
        have hn8 : n ≤ 8 := by
          unfold nm0 at h
          split at h
          · exact absurd h (by decide)
          · omega
        have h3 := eqN_at h2 (show sLen.getD w 0 < n by omega)
        rw [nm_end hw (by omega)] at h3
        have h4 := hl _ (show sLen.getD w 0 < n by omega)
        rw [← h3] at h4
        exact absurd h4 (by decide)
theorem isN_u {T : Nat → Int32} {b n v w : Nat} (hv : v < 10) (hw : w < 10) (hl : ∀ k, k < n → 97 ≤ (T (b + k)).toInt) (h1 : isN T b v n = true) (h2 : isN T b w n = true) : v = w := by
  rw [isN_len hv hl, Bool.and_eq_true] at h1
  rw [isN_len hw hl, Bool.and_eq_true] at h2
  have e1 := of_decide_eq_true h1.1
  have e2 := of_decide_eq_true h2.1
  have key : ∀ i j : Fin 10, sLen.getD i.val 0 = sLen.getD j.val 0 → (∀ k : Fin 8, k.val < sLen.getD i.val 0 → nmB (8 * i.val + k.val) = nmB (8 * j.val + k.val)) → i = j := by decide +kernel
  have := key ⟨v, hv⟩ ⟨w, hw⟩ (e1.symm.trans e2) (fun k hk => (eqN_at h1.2 (by rw [e1]; exact hk)).trans (eqN_at h2.2 (by rw [e1]; exact hk)).symm)
  exact congrArg Fin.val this
theorem wdG_sp {T : Nat → Int32} {b n : Nat} : ∀ f w, (wdG T b n f w = 23 ∧ ∀ v, w ≤ v → v < w + f → isN T b v n = false) ∨ (w ≤ wdG T b n f w ∧ wdG T b n f w < w + f ∧ isN T b (wdG T b n f w) n = true) := by
  intro f
  induction f with
  | zero => intro w; exact Or.inl ⟨rfl, fun v h1 h2 => absurd h2 (by omega)⟩
  | succ f ih =>
    intro w
    show ((if _ then _ else _) = 23 ∧ _) ∨ (w ≤ (if _ then _ else _) ∧ (if _ then _ else _) < _ ∧ isN T b (if _ then _ else _) n = true)
    cases h : isN T b w n with
    | true => rw [if_pos rfl]; exact Or.inr ⟨Nat.le_refl _, by omega, h⟩
    | false =>
      rw [if_neg (by decide)]
      rcases ih (w + 1) with ⟨h1, h2⟩ | ⟨h1, h2, h3⟩
      · refine Or.inl ⟨h1, fun v hv1 hv2 => ?_⟩
        rcases Nat.lt_or_ge w v with q | q
        · exact h2 v (by omega) (by omega)
        · rw [show v = w by omega]; exact h
      · exact Or.inr ⟨by omega, by omega, h3⟩
theorem wdH_sp {T : Nat → Int32} {b n : Nat} (hl : ∀ k, k < n → 97 ≤ (T (b + k)).toInt) : (wdH T b n < 10 ∨ wdH T b n = 23) ∧ ∀ v, v < 10 → isN T b v n = decide (v = wdH T b n) := by
  rcases wdG_sp (T := T) (b := b) (n := n) 10 0 with ⟨h1, h2⟩ | ⟨h1, h2, h3⟩
  · refine ⟨Or.inr h1, fun v hv => ?_⟩
    rw [h2 v (Nat.zero_le _) (by omega), show wdH T b n = 23 from h1]
    exact (decide_eq_false (by omega)).symm
  · refine ⟨Or.inl (show wdG T b n 10 0 < 10 by omega), fun v hv => ?_⟩
    by_cases e : v = wdH T b n
    · rw [decide_eq_true e, e]; exact h3
    · rw [decide_eq_false e]
      cases h : isN T b v n with
      | false => rfl
      | true => exact absurd (isN_u hv (show wdG T b n 10 0 < 10 by omega) hl h h3) e
theorem run_all {T : Nat → Int32} {t : Nat} {a b : Int32} : ∀ f k j, k ≤ j → j < runN T t a b f k → isB T t j a b = true := by
  intro f
  induction f with
  | zero => intro k j h1 h2; exact absurd h2 (Nat.not_lt.mpr h1)
  | succ f ih =>
    intro k j h1 h2
    have h2' : j < (if isB T t k a b = true then runN T t a b f (k + 1) else k) := h2
    cases h : isB T t k a b with
    | false => rw [h, if_neg (by decide)] at h2'; exact absurd h2' (Nat.not_lt.mpr h1)
    | true =>
      rw [h, if_pos rfl] at h2'
      rcases Nat.lt_or_ge k j with q | q
      · exact ih (k + 1) j q h2'
      · rw [show j = k by omega]; exact h
theorem run_let {T : Nat → Int32} {t b : Nat} : ∀ k, k < runE T t 97 122 b - b → 97 ≤ (T (b + k)).toInt := by
  intro k hk
  have h := run_all (T := T) (t := t) (a := 97) (b := 122) (t - b) b (b + k) (by omega) (by show b + k < runE T t 97 122 b; omega)
  have hlt := isB_lt h
  rw [isB_in hlt] at h
  obtain ⟨y, h1, h2, e⟩ := inI_nat h rfl rfl (na := 97) (nb := 122) (by decide) (by decide)
  rw [e, nI_toInt (by omega)]; omega
/-- one token, as each of the two holds it -/
def TkR (C F X : Nat → Int32) : Prop := F 3 = X 8 ∧
  ((F 2 = 0 ∧ X 7 = 22 ∧ F 4 = X 9)
  ∨ (F 2 = 1 ∧ F 4 = X 9 ∧ ∃ w, X 7 = nI w ∧ (w < 10 ∨ w = 23) ∧ ∀ v, v < 10 → isW C F v = decide (v = w))
  ∨ (F 2 = 2 ∧ X 7 = 20 ∧ F 4 = X 9 ∧ F 5 = limI (X 10) ∧ ∃ z, z ≤ 9999 ∧ X 10 = nI z)
  ∨ (F 2 = 3 ∧ X 7 = 21 ∧ F 4 = X 9)
  ∨ (F 2 = 4 ∧ X 7 = 23))
section NTX
variable (F : Nat → Int32) (R : Nat × Nat × Nat × Int32)
theorem ntX_2 : ntX F R 2 = nI R.1 := by unfold ntX; rw [up_ne _ _ (by decide), up_at]
theorem ntX_3 : ntX F R 3 = nI R.2.1 := by unfold ntX; rw [up_ne _ _ (by decide), up_ne _ _ (by decide), up_at]
theorem ntX_4 : ntX F R 4 = nI R.2.2.1 := by unfold ntX; rw [up_ne _ _ (by decide), up_ne _ _ (by decide), up_ne _ _ (by decide), up_at]
theorem ntX_5 : ntX F R 5 = R.2.2.2 := by unfold ntX; rw [up_at]
theorem rdX_7 : rdX F R 7 = nI R.1 := by unfold rdX; rw [up_at]
theorem rdX_8 : rdX F R 8 = nI R.2.1 := by unfold rdX; rw [up_ne _ _ (by decide), up_ne _ _ (by decide), up_at]
theorem rdX_9 : rdX F R 9 = nI R.2.2.1 := by unfold rdX; rw [up_ne _ _ (by decide), up_ne _ _ (by decide), up_ne _ _ (by decide), up_at]
theorem rdX_10 : rdX F R 10 = R.2.2.2 := by unfold rdX; rw [up_ne _ _ (by decide), up_at]
theorem rdX_11 : rdX F R 11 = F 11 := by unfold rdX; rw [up_ne _ _ (by decide), up_ne _ _ (by decide), up_ne _ _ (by decide), up_ne _ _ (by decide)]
end NTX
theorem rdF_11 (T X : Nat → Int32) (t : Nat) : rdF T t X 11 = X 11 := by unfold rdF; exact rdX_11 _ _
theorem tk_over (C F X : Nat → Int32) (b e : Nat) (n v : Int32) : TkR C (ntX F (0, b, e, n)) (rdX X (22, b, e, v)) := by
  unfold TkR
  rw [ntX_2, ntX_3, ntX_4, ntX_5, rdX_7, rdX_8, rdX_9, rdX_10]
  exact ⟨rfl, Or.inl ⟨nI_0, (nI_lit 22).symm, rfl⟩⟩
theorem tk_sign (C F X : Nat → Int32) (b e : Nat) (n v : Int32) : TkR C (ntX F (3, b, e, n)) (rdX X (21, b, e, v)) := by
  unfold TkR
  rw [ntX_2, ntX_3, ntX_4, ntX_5, rdX_7, rdX_8, rdX_9, rdX_10]
  exact ⟨rfl, Or.inr (Or.inr (Or.inr (Or.inl ⟨(nI_lit 3).symm, (nI_lit 21).symm, rfl⟩)))⟩
theorem tk_other (C F X : Nat → Int32) (b e e2 : Nat) (n v : Int32) : TkR C (ntX F (4, b, e, n)) (rdX X (23, b, e2, v)) := by
  unfold TkR
  rw [ntX_2, ntX_3, ntX_4, ntX_5, rdX_7, rdX_8, rdX_9, rdX_10]
  exact ⟨rfl, Or.inr (Or.inr (Or.inr (Or.inr ⟨(nI_lit 4).symm, (nI_lit 23).symm⟩)))⟩
theorem tk_num (C F X : Nat → Int32) (b e : Nat) (n v : Int32) (h : n = limI v) (hz : ∃ z, z ≤ 9999 ∧ v = nI z) : TkR C (ntX F (2, b, e, n)) (rdX X (20, b, e, v)) := by
  unfold TkR
  rw [ntX_2, ntX_3, ntX_4, ntX_5, rdX_7, rdX_8, rdX_9, rdX_10]
  exact ⟨rfl, Or.inr (Or.inr (Or.inl ⟨(nI_lit 2).symm, (nI_lit 20).symm, rfl, h, hz⟩))⟩
theorem tk_word (C F X : Nat → Int32) (b e w : Nat) (n v : Int32) (hw : w < 10 ∨ w = 23) (h : ∀ j, j < 10 → isW C (ntX F (1, b, e, n)) j = decide (j = w)) : TkR C (ntX F (1, b, e, n)) (rdX X (w, b, e, v)) := by
  refine ⟨?_, Or.inr (Or.inl ⟨?_, ?_, w, ?_, hw, h⟩)⟩
  · rw [ntX_3, rdX_8]
  · rw [ntX_2]; exact (nI_lit 1).symm
  · rw [ntX_4, rdX_9]
  · rw [rdX_7]
theorem tk_base {C T F X : Nat → Int32} {t a : Nat} (ht : t ≤ 120) (h : TpR t C T) (ha : a ≤ t) (h4 : F 4 = nI a) (h9 : X 9 = nI a) : TkR C (ntF C t F) (rdF T t X) := by
  unfold ntF rdF
  rw [h4, h9, nI_clamp (by omega)]
  have hb : runE T t 32 32 a ≤ t := runE_le ha
  have e0 : runE C t 32 32 a = runE T t 32 32 a := runE_tp h (by decide) (by decide) a
  generalize hbe : runE T t 32 32 a = b at hb e0
  by_cases h1 : t ≤ b
  · rw [lxc_over e0 h1, lex_over hbe (by omega)]
    exact tk_over _ _ _ _ _ _ _
  · have eL : isB C t b 97 122 = isB T t b 97 122 := isB_tp h b (by decide) (by decide)
    have eD : isB C t b 48 57 = isB T t b 48 57 := isB_tp h b (by decide) (by decide)
    have eS : isB C t b 59 59 = isB T t b 59 59 := isB_tp h b (by decide) (by decide)
    cases hL : isB T t b 97 122 with
    | true =>
      rw [lxc_word e0 h1 (eL.trans hL) (runE_tp h (by decide) (by decide) b), lex_word hbe (by omega) hL rfl]
      have hsp := wdH_sp (T := T) (b := b) (n := runE T t 97 122 b - b) run_let
      refine tk_word _ _ _ _ _ _ _ _ hsp.1 (fun v hv => ?_)
      have hge := runE_ge T t 97 122 b
      have hle := runE_le (T := T) (a := 97) (b := 122) hb
      rw [← hsp.2 v hv, isN_len hv run_let]
      by_cases e : runE T t 97 122 b - b = sLen.getD v 0
      · rw [isW_3 (s := b) (e := runE T t 97 122 b) (by rw [ntX_2]; exact (nI_lit 1).symm) (by rw [ntX_3]) (by rw [ntX_4]) hge (by omega) e, decide_eq_true e, Bool.true_and, ← e]
        exact eqN_tp h _ (by omega)
      · rw [isW_2 (s := b) (e := runE T t 97 122 b) (by rw [ntX_3]) (by rw [ntX_4]) hge (by omega) hv e, decide_eq_false e, Bool.false_and]
    | false =>
      cases hD : isB T t b 48 57 with
      | true =>
        rw [lxc_num e0 h1 (eL.trans hL) (eD.trans hD) (runE_tp h (by decide) (by decide) b) rfl, lex_num hbe (by omega) hL hD rfl rfl]
        obtain ⟨v1, v2⟩ := val_sim h (t - b) b 0 (by decide)
        rw [nI_0] at v1 v2
        rw [show limI 0 = 0 by decide] at v1
        exact tk_num _ _ _ _ _ _ _ v1 v2
      | false =>
        cases hS : isB T t b 59 59 with
        | true =>
          rw [lxc_sign e0 h1 (eL.trans hL) (eD.trans hD) (eS.trans hS), lex_semi hbe (by omega) hL hD hS]
          exact tk_sign _ _ _ _ _ _ _
        | false =>
          rw [lxc_other e0 h1 (eL.trans hL) (eD.trans hD) (eS.trans hS), lex_other hbe (by omega) hL hD hS]
          exact tk_other _ _ _ _ _ _ _ _
