/-! ===== items ===== -/
def SR (C : Nat → Int32) (t : Nat) (F X : Nat → Int32) : Prop := TF t F ∧ LX t X ∧ X 11 = 0 ∧ TkR C F X
/-- both go a token on -/
theorem sr_next {C T F X : Nat → Int32} {t : Nat} (ht : t ≤ 120) (h : TpR t C T) (hs : SR C t F X) (h4 : F 4 = X 9) : SR C t (ntF C t F) (rdF T t X) := by
  obtain ⟨hF, hX, h11, hk⟩ := hs
  have hF' := hF
  obtain ⟨g1, s, e, g2, g3, g4, g5⟩ := hF'
  exact ⟨TF_nt ht hF.A, LX_rd ht hX, (rdF_11 _ _ _).trans h11, tk_base ht h g3 g5 (h4.symm.trans g5)⟩
theorem sr_word {C F X : Nat → Int32} {t w : Nat} (hs : SR C t F X) (hw : w < 10) : psB X (nI w) = isW C F w := by
  obtain ⟨hF, hX, h11, _, hk⟩ := hs
  have hp : psB X (nI w) = decide (X 7 = nI w) := by
    unfold psB; rw [if_pos h11]
    by_cases e : X 7 = nI w
    · rw [if_pos e, decide_eq_true e]
    · rw [if_neg e, decide_eq_false e]
  have hx : ∀ j, j < 100 → 10 ≤ j → nI j ≠ nI w := fun j h1 h2 q => by
    have := (nI_eq (by omega) (by omega)).mp q
    omega
  rw [hp]
  rcases hk with ⟨a, b, _⟩ | ⟨a, _, v, b, c, d⟩ | ⟨a, b, _⟩ | ⟨a, b, _⟩ | ⟨a, b⟩
  · rw [isW_1 (by rw [a]; decide), b]; exact decide_eq_false (hx 22 (by decide) (by decide))
  · rw [d w hw, b]
    by_cases e : w = v
    · rw [decide_eq_true e, e]; exact decide_eq_true rfl
    · rw [decide_eq_false e]
      refine decide_eq_false (fun q => e ?_)
      exact ((nI_eq (by omega) (by omega)).mp q).symm
  · rw [isW_1 (by rw [a]; decide), b]; exact decide_eq_false (hx 20 (by decide) (by decide))
  · rw [isW_1 (by rw [a]; decide), b]; exact decide_eq_false (hx 21 (by decide) (by decide))
  · rw [isW_1 (by rw [a]; decide), b]; exact decide_eq_false (hx 23 (by decide) (by decide))
theorem isW_4 {C F X : Nat → Int32} {t w : Nat} (hs : SR C t F X) (h : isW C F w = true) : F 4 = X 9 := by
  obtain ⟨_, _, _, _, hk⟩ := hs
  rcases hk with ⟨a, _, c⟩ | ⟨_, c, _⟩ | ⟨_, _, c, _⟩ | ⟨_, _, c⟩ | ⟨a, _⟩
  · exact c
  · exact c
  · exact c
  · exact c
  · rw [isW_1 (by rw [a]; decide)] at h; exact absurd h (by decide)
/-- a number that must stand there -/
theorem sr_num {C T F X : Nat → Int32} {t : Nat} {b : Nat} (ht : t ≤ 120) (h : TpR t C T) (hs : SR C t F X) (hb : b ≤ 999) :
    nnB F (nI b) = !nuB X 0 (nI b) ∧ (nnB F (nI b) = true → F 5 = X 10 ∧ nuX T t X 0 (nI b) = rdF T t X ∧ SR C t (ntF C t F) (rdF T t X)) ∧ (nnB F (nI b) = false → nuX T t X 0 (nI b) = upd X 11 1) := by
  have hs0 := hs
  obtain ⟨hF, hX, h11, h38, hk⟩ := hs
  have key : nnB F (nI b) = !nuB X 0 (nI b) ∧ (nnB F (nI b) = true → F 5 = X 10 ∧ F 4 = X 9) := by
    have nx : F 2 ≠ 2 → X 7 ≠ 20 → nnB F (nI b) = !nuB X 0 (nI b) ∧ (nnB F (nI b) = true → F 5 = X 10 ∧ F 4 = X 9) := by
      intro q1 q2
      have e1 : nnB F (nI b) = false := by unfold nnB; rw [if_neg q1]
      have e2 : nuB X 0 (nI b) = true := by unfold nuB; rw [if_pos h11, if_neg q2]
      rw [e1, e2]
      exact ⟨rfl, fun q => absurd q (by decide)⟩
    rcases hk with ⟨a, c, _⟩ | ⟨a, _, v, c, d, _⟩ | ⟨a, c, d, e, z, hz, ez⟩ | ⟨a, c, _⟩ | ⟨a, c⟩
    · exact nx (by rw [a]; decide) (by rw [c]; decide)
    · refine nx (by rw [a]; decide) (fun q => ?_)
      rw [c] at q
      have := (nI_eq (by omega) (by decide : 20 < 2 ^ 31)).mp q
      omega
    · have e1 : nnB F (nI b) = decide (z ≤ b) := by
        unfold nnB
        rw [if_pos a, e, ez, lim_n hz]
        by_cases q : z ≤ b
        · rw [if_neg (fun r => absurd ((nI_ltI (by omega) (by omega)).mp r) (by omega)), decide_eq_true q]
        · rw [if_pos ((nI_ltI (by omega) (by omega)).mpr (by omega)), decide_eq_false q]
      have e2 : nuB X 0 (nI b) = !decide (z ≤ b) := by
        unfold nuB inI
        rw [if_pos h11, if_pos c, ez, if_neg (nI_pos (by omega))]
        by_cases q : z ≤ b
        · rw [if_neg (fun r => absurd ((nI_ltI (by omega) (by omega)).mp r) (by omega)), decide_eq_true q]; rfl
        · rw [if_pos ((nI_ltI (by omega) (by omega)).mpr (by omega)), decide_eq_false q]; rfl
      rw [e1, e2, Bool.not_not]
      refine ⟨rfl, fun q => ⟨?_, d⟩⟩
      have hq := of_decide_eq_true q
      rw [e, ez, lim_n hz, show min z 1000 = z by omega]
    · exact nx (by rw [a]; decide) (by rw [c]; decide)
    · exact nx (by rw [a]; decide) (by rw [c]; decide)
  refine ⟨key.1, fun q => ?_, fun q => ?_⟩
  · obtain ⟨k1, k2⟩ := key.2 q
    refine ⟨k1, ?_, sr_next ht h hs0 k2⟩
    have e : nuB X 0 (nI b) = false := by
      have := key.1
      rw [q] at this
      cases hh : nuB X 0 (nI b) with
      | false => rfl
      | true => rw [hh] at this; exact absurd this (by decide)
    unfold nuX
    rw [e, if_neg (by decide), up_same h11]
  · have e : nuB X 0 (nI b) = true := by
      have := key.1
      rw [q] at this
      cases hh : nuB X 0 (nI b) with
      | true => rfl
      | false => rw [hh] at this; exact absurd this (by decide)
    unfold nuX
    rw [e, if_pos rfl]
theorem adC_M (M : Nat → Int32) (n : Nat) (k f : Int32) : adC M n k f = adM M n k f 0 1 := by
  funext j
  simp only [adC, adM, upd]
  repeat' split
  all_goals first | rfl | omega
theorem adM_2 (M : Nat → Int32) (n : Nat) (k f ld b ld2 : Int32) : upd (adM M n k f ld b) (5 + 6 * n + 2) ld2 = adM M n k f ld2 b := by
  funext j
  simp only [adM, upd]
  repeat' split
  all_goals first | rfl | omega
theorem adM_1 (M : Nat → Int32) (n : Nat) (k f ld b b2 : Int32) : upd (adM M n k f ld b) (5 + 6 * n + 1) b2 = adM M n k f ld b2 := by
  funext j
  simp only [adM, upd]
  repeat' split
  all_goals first | rfl | omega
/-- what an item's reading by the two has in common -/
def ItR (C : Nat → Int32) (t : Nat) (R : TR) (Y N : Nat → Int32) : Prop := (R.1 = true → SR C t R.2.1 Y ∧ R.2.2 = N) ∧ (R.1 = false → Y 11 = 1 ∧ R.2.1 3 = Y 8 ∧ TF t R.2.1)
theorem ItR.bad {C : Nat → Int32} {t : Nat} {F X M N : Nat → Int32} (hs : SR C t F X) : ItR C t (false, F, M) (upd X 11 1) N :=
  ⟨fun q => absurd (show false = true from q) (by decide), fun _ => ⟨up_at _ _ _, by rw [up_ne _ _ (by decide)]; exact hs.2.2.2.1, hs.1⟩⟩
theorem ps_bad {T X : Nat → Int32} {t : Nat} {w : Int32} : psX T t (upd X 11 1) w = upd X 11 1 ∧ psB (upd X 11 1) w = false := by
  have e : psB (upd X 11 1) w = false := by unfold psB; rw [up_at, if_neg (by decide)]
  exact ⟨by unfold psX; rw [e]; rfl, e⟩
theorem tail_sim {C T F X : Nat → Int32} {t n : Nat} {M : Nat → Int32} {k f ld : Int32} (ht : t ≤ 120) (h : TpR t C T) (hs : SR C t F X) (hM : M = adM M n k f ld 1 ∨ True) (P : Nat → Int32) (hP : M = adM P n k f ld 1) :
    ItR C t (tpT C t F M n) (psX T t X 7) (adM P n k f ld (if psB X 7 = true then 0 else 1)) ∧ psX T t X 7 11 = 0 := by
  have e := sr_word hs (by decide : 7 < 10)
  unfold tpT psX
  rw [show psB X 7 = isW C F 7 from e]
  cases hw : isW C F 7 with
  | true =>
    have hn := sr_next ht h hs (isW_4 hs hw)
    rw [if_pos rfl, if_pos rfl, if_pos rfl]
    exact ⟨⟨fun _ => ⟨hn, by show upd M _ 0 = _; rw [hP, adM_1]⟩, fun q => absurd (show true = false from q) (by decide)⟩, hn.2.2.1⟩
  | false =>
    rw [if_neg (by decide), if_neg (by decide), if_neg (by decide)]
    exact ⟨⟨fun _ => ⟨hs, hP⟩, fun q => absurd (show true = false from q) (by decide)⟩, hs.2.2.1⟩
theorem load_sim {C T F X P : Nat → Int32} {t n : Nat} {k f : Int32} (ht : t ≤ 120) (h : TpR t C T) (hs : SR C t F X) :
    ItR C t (tpL C t F (adM P n k f 0 1) n) (psX T t (pfX T t X 6 0 9) 7) (if psX T t (pfX T t X 6 0 9) 7 11 = 0 then adM P n k f (pfV T t X 6 0 9 0) (if psB (pfX T t X 6 0 9) 7 = true then 0 else 1) else P) := by
  have e : psB X 6 = isW C F 6 := sr_word hs (by decide : 6 < 10)
  cases hw : isW C F 6 with
  | false =>
    have e6 : psX T t X 6 = X := by unfold psX; rw [e, hw]; rfl
    have e7 : pfX T t X 6 0 9 = X := by unfold pfX; rw [e, hw, if_neg (by decide), e6]
    have e8 : pfV T t X 6 0 9 0 = 0 := by unfold pfV; rw [e, hw, if_neg (by decide)]
    have e9 : tpL C t F (adM P n k f 0 1) n = tpT C t F (adM P n k f 0 1) n := by unfold tpL; rw [hw, if_neg (by decide)]
    rw [e7, e8, e9]
    obtain ⟨h1, h2⟩ := tail_sim (n := n) (M := adM P n k f 0 1) (k := k) (f := f) (ld := 0) ht h hs (Or.inr trivial) P rfl
    rw [if_pos h2]
    exact h1
  | true =>
    have hn := sr_next ht h hs (isW_4 hs hw)
    have e6 : psX T t X 6 = rdF T t X := by unfold psX; rw [e, hw]; rfl
    have e7 : pfX T t X 6 0 9 = nuX T t (rdF T t X) 0 9 := by unfold pfX; rw [e, hw, if_pos rfl, e6]
    have e8 : pfV T t X 6 0 9 0 = rdF T t X 10 := by unfold pfV; rw [e, hw, if_pos rfl, e6]
    rw [e7, e8]
    obtain ⟨_, n2, n3⟩ := sr_num (b := 9) ht h hn (by decide)
    cases hb : nnB (ntF C t F) 9 with
    | true =>
      obtain ⟨a1, a2, a3⟩ := n2 hb
      have e9 : tpL C t F (adM P n k f 0 1) n = tpT C t (ntF C t (ntF C t F)) (upd (adM P n k f 0 1) (5 + 6 * n + 2) (ntF C t F 5)) n := by unfold tpL; rw [hw, hb, if_pos rfl, if_pos rfl]
      rw [e9, show nuX T t (rdF T t X) 0 9 = rdF T t (rdF T t X) from a2]
      obtain ⟨h1, h2⟩ := tail_sim (n := n) (M := upd (adM P n k f 0 1) (5 + 6 * n + 2) (ntF C t F 5)) (k := k) (f := f) (ld := rdF T t X 10) ht h a3 (Or.inr trivial) P (by rw [adM_2, a1])
      rw [if_pos h2]
      exact h1
    | false =>
      have a2 := n3 hb
      have e9 : tpL C t F (adM P n k f 0 1) n = (false, ntF C t F, adM P n k f 0 1) := by unfold tpL; rw [hw, hb, if_pos rfl, if_neg (by decide)]
      rw [e9, show nuX T t (rdF T t X) 0 9 = upd (rdF T t X) 11 1 from a2, ps_bad.1, if_neg (show ¬ upd (rdF T t X) 11 1 11 = 0 by rw [up_at]; decide)]
      exact ItR.bad hn
theorem kn_sp {C F X : Nat → Int32} {t w : Nat} (hs : SR C t F X) (h7 : X 7 = nI w) (hw : w < 6) : knV C F = nI w ∧ F 4 = X 9 := by
  obtain ⟨_, _, _, _, hk⟩ := hs
  have no : ∀ j, 20 ≤ j → j < 30 → X 7 = nI j → False := fun j h1 h2 q => by
    have := (nI_eq (by omega) (by omega)).mp (h7.symm.trans q)
    omega
  rcases hk with ⟨_, b, _⟩ | ⟨a, b, v, c, d, e⟩ | ⟨_, b, _⟩ | ⟨_, b, _⟩ | ⟨_, b⟩
  · exact (no 22 (by decide) (by decide) b).elim
  · have hv : v = w := (nI_eq (by omega) (by omega)).mp (c.symm.trans h7)
    subst hv
    refine ⟨?_, b⟩
    have key : ∀ j, j ≤ v → knG C F 6 0 = knG C F (6 - j) j := by
      intro j
      induction j with
      | zero => intro _; rfl
      | succ j ih =>
        intro hj
        rw [ih (by omega)]
        exact knG_f (by omega) (by rw [e j (by omega)]; exact decide_eq_false (by omega))
    unfold knV
    rw [key v (Nat.le_refl _)]
    exact knG_t hw (by rw [e v (by omega)]; exact decide_eq_true rfl)
  · exact (no 20 (by decide) (by decide) b).elim
  · exact (no 21 (by decide) (by decide) b).elim
  · exact (no 23 (by decide) (by decide) b).elim
theorem kn_no {C F X : Nat → Int32} {t : Nat} (hs : SR C t F X) (h7 : ¬ X 7 ≤ 5) : knV C F < 0 := by
  have h0 : ∀ j, j < 6 → isW C F j = false := by
    intro j hj
    rw [← sr_word hs (by omega)]
    unfold psB
    rw [if_pos hs.2.2.1, if_neg (fun q => h7 ?_)]
    rw [q]
    exact (nI_leI (by omega) (by decide : 5 < 2 ^ 31)).mpr (by omega)
  have e : knV C F = -1 := by
    unfold knV
    rw [show knG C F 6 0 = knG C F (6 - 1) 1 from knG_f (w := 0) (by decide) (h0 0 (by decide)), knG_f (by decide) (h0 1 (by decide)), knG_f (by decide) (h0 2 (by decide)), knG_f (by decide) (h0 3 (by decide)), knG_f (by decide) (h0 4 (by decide)), knG_f (by decide) (h0 5 (by decide))]
    exact knG_0 (by decide)
  rw [e]; decide
theorem tok_le {C F X : Nat → Int32} {t : Nat} (hs : SR C t F X) (h7 : X 7 ≤ 5) : ∃ w, w < 6 ∧ X 7 = nI w := by
  obtain ⟨_, _, _, _, hk⟩ := hs
  rcases hk with ⟨_, b, _⟩ | ⟨a, b, v, c, d, e⟩ | ⟨_, b, _⟩ | ⟨_, b, _⟩ | ⟨_, b⟩
  · rw [b] at h7; exact absurd h7 (by decide)
  · refine ⟨v, ?_, c⟩
    rw [c] at h7
    have := (nI_leI (by omega) (by decide : 5 < 2 ^ 31)).mp h7
    omega
  · rw [b] at h7; exact absurd h7 (by decide)
  · rw [b] at h7; exact absurd h7 (by decide)
  · rw [b] at h7; exact absurd h7 (by decide)
theorem person_sim {C T F X M : Nat → Int32} {t n : Nat} (ht : t ≤ 120) (h : TpR t C T) (hs : SR C t F X) (hn : M 4 = nI n) (hn8 : n ≤ 8) (h7 : X 7 ≤ 5) : ItR C t (tiR C t F M n) (piX T t n X) (piM T t n M X) := by
  obtain ⟨w, hw, e7⟩ := tok_le hs h7
  obtain ⟨ek, e4⟩ := kn_sp hs e7 hw
  have h11 := hs.2.2.1
  have k0 : ¬ nI w < 0 := nI_pos (by omega)
  rw [ti_p (by rw [ek]; exact k0), ek]
  by_cases hf : n = 8
  · have ef : fullB M = true := by unfold fullB; rw [hn, hf, if_neg (by decide)]
    have q1 : tpR C t F M n (nI w) = (false, F, M) := by unfold tpR; rw [if_pos ef]
    have q2 : piX T t n X = upd X 11 1 := by unfold piX; rw [if_pos hf]
    rw [q1, q2]
    exact ItR.bad hs
  · have ef : fullB M = false := by unfold fullB; rw [hn, if_pos (show nI n < 8 from (nI_ltI (by omega) (by decide : 8 < 2 ^ 31)).mpr (by omega))]
    have hx := sr_next ht h hs e4
    have q2 : piX T t n X = pi4 T t X := by unfold piX; rw [if_neg hf]
    have q3 : piM T t n M X = if pi4 T t X 11 = 0 then adM M n (X 7) (rdF T t (upd X 11 0) 10) (pfV T t (pi2 T t X) 6 0 9 0) (if psB (pi3 T t X) 7 = true then 0 else 1) else M := by unfold piM; rw [if_neg hf]
    rw [q2, q3]
    unfold pi4 pi3 pi2
    rw [up_same h11]
    obtain ⟨_, n2, n3⟩ := sr_num (b := 999) ht h hx (by decide)
    cases hb : nnB (ntF C t F) 999 with
    | true =>
      obtain ⟨a1, a2, a3⟩ := n2 hb
      have q1 : tpR C t F M n (nI w) = tpL C t (ntF C t (ntF C t F)) (adM M n (nI w) (rdF T t X 10) 0 1) n := by unfold tpR; rw [ef, if_neg (by decide), hb, if_pos rfl, adC_M, a1]
      rw [q1, show nuX T t (rdF T t X) 0 999 = rdF T t (rdF T t X) from a2, e7]
      exact load_sim (P := M) (n := n) (k := nI w) (f := rdF T t X 10) ht h a3
    | false =>
      have a2 := n3 hb
      have eb : psB (upd (rdF T t X) 11 1) 6 = false := (ps_bad (T := T) (t := t)).2
      have q1 : tpR C t F M n (nI w) = (false, ntF C t F, M) := by unfold tpR; rw [ef, if_neg (by decide), hb, if_neg (by decide)]
      rw [q1, show nuX T t (rdF T t X) 0 999 = upd (rdF T t X) 11 1 from a2]
      have e3 : pfX T t (upd (rdF T t X) 11 1) 6 0 9 = upd (rdF T t X) 11 1 := by unfold pfX; rw [eb, if_neg (by decide), ps_bad.1]
      rw [e3, ps_bad.1]
      exact ItR.bad hx
theorem item_sim {C T F X M : Nat → Int32} {t n : Nat} (ht : t ≤ 120) (h : TpR t C T) (hs : SR C t F X) (hn : M 4 = nI n) (hn8 : n ≤ 8) : ItR C t (tiR C t F M n) (itX T t n X) (itM T t n M X) := by
  have w8 : psB X 8 = isW C F 8 := sr_word hs (by decide : 8 < 10)
  have w9 : psB X 9 = isW C F 9 := sr_word hs (by decide : 9 < 10)
  have h11 := hs.2.2.1
  have num : ∀ (v b q : Nat), v < 10 → 5 < v → b ≤ 999 → isW C F v = true → ItR C t (if nnB (ntF C t F) (nI b) = true then (true, ntF C t (ntF C t F), upd M q (ntF C t F 5)) else (false, ntF C t F, M)) (nuX T t (rdF T t X) 0 (nI b)) (upd M q (rdF T t X 10)) := by
    intro v b q hv hv5 hb hw
    have hx := sr_next ht h hs (isW_4 hs hw)
    obtain ⟨_, n2, n3⟩ := sr_num (b := b) ht h hx hb
    cases hnb : nnB (ntF C t F) (nI b) with
    | true =>
      obtain ⟨a1, a2, a3⟩ := n2 hnb
      rw [if_pos rfl, a2]
      exact ⟨fun _ => ⟨a3, by show upd M q _ = _; rw [a1]⟩, fun z => absurd (show true = false from z) (by decide)⟩
    | false =>
      rw [if_neg (by decide), n3 hnb]
      exact ItR.bad hx
  by_cases h7 : X 7 ≤ 5
  · have q2 : itX T t n X = piX T t n X := by unfold itX; rw [if_pos h7]
    have q3 : itM T t n M X = piM T t n M X := by unfold itM; rw [if_pos h7]
    rw [q2, q3]
    exact person_sim ht h hs hn hn8 h7
  rw [ti_d (kn_no hs h7)]
  cases e8 : isW C F 8 with
  | true =>
    have p8 : psX T t X 8 = rdF T t X := by unfold psX; rw [w8, e8]; rfl
    have q1 : tdR C t F M = if nnB (ntF C t F) (nI 99) = true then (true, ntF C t (ntF C t F), upd M 1 (ntF C t F 5)) else (false, ntF C t F, M) := by unfold tdR; rw [e8, if_pos rfl]; rfl
    have q2 : itX T t n X = nuX T t (rdF T t X) 0 (nI 99) := by unfold itX; rw [if_neg h7, w8, e8, if_pos rfl, p8]; rfl
    have q3 : itM T t n M X = upd M 1 (rdF T t X 10) := by unfold itM; rw [if_neg h7, w8, e8, if_pos rfl, p8]
    rw [q1, q2, q3]
    exact num 8 99 1 (by decide) (by decide) (by decide) e8
  | false =>
    have p8 : psX T t X 8 = X := by unfold psX; rw [w8, e8]; rfl
    cases e9 : isW C F 9 with
    | true =>
      have p9 : psX T t X 9 = rdF T t X := by unfold psX; rw [w9, e9]; rfl
      have q1 : tdR C t F M = if nnB (ntF C t F) (nI 60) = true then (true, ntF C t (ntF C t F), upd M 2 (ntF C t F 5)) else (false, ntF C t F, M) := by unfold tdR; rw [e8, if_neg (by decide), e9, if_pos rfl]; rfl
      have q2 : itX T t n X = nuX T t (rdF T t X) 0 (nI 60) := by unfold itX; rw [if_neg h7, w8, e8, if_neg (by decide), p8, w9, e9, if_pos rfl, p9]; rfl
      have q3 : itM T t n M X = upd M 2 (rdF T t X 10) := by unfold itM; rw [if_neg h7, w8, e8, if_neg (by decide), p8, w9, e9, if_pos rfl, p9]
      rw [q1, q2, q3]
      exact num 9 60 2 (by decide) (by decide) (by decide) e9
    | false =>
      have p9 : psX T t X 9 = X := by unfold psX; rw [w9, e9]; rfl
      have q2 : itX T t n X = upd X 11 1 := by unfold itX; rw [if_neg h7, w8, e8, if_neg (by decide), p8, w9, e9, if_neg (by decide), p9]
      have q4 : tdR C t F M = (false, F, M) := by unfold tdR; rw [e8, if_neg (by decide), e9, if_neg (by decide)]
      rw [q2, q4]
      exact ItR.bad hs
/-! ===== the whole text ===== -/
abbrev TS : Type := Int32 × (Nat → Int32) × (Nat → Int32)
def ttS (T : Nat → Int32) (t : Nat) : Nat → (Nat → Int32) → (Nat → Int32) → Nat → TS
  | 0, F, M, _ => (-1 - F 3, F, M)
  | f + 1, F, M, i => if (tiR T t F M (nP M)).1 = true then (if (tiR T t F M (nP M)).2.1 2 = 0 then (nI i, (tiR T t F M (nP M)).2.1, (tiR T t F M (nP M)).2.2) else if (tiR T t F M (nP M)).2.1 2 = 3 then ttS T t f (ntF T t (tiR T t F M (nP M)).2.1) (tiR T t F M (nP M)).2.2 (i + 1) else (-1 - (tiR T t F M (nP M)).2.1 3, (tiR T t F M (nP M)).2.1, (tiR T t F M (nP M)).2.2))
    else (-1 - (tiR T t F M (nP M)).2.1 3, (tiR T t F M (nP M)).2.1, (tiR T t F M (nP M)).2.2)
theorem tt_step {T F M : Nat → Int32} {t f i : Nat} {A B : Nat → Int32} (hf : 0 < f) (hR : tiR T t F M (nP M) = (true, A, B)) : ttS T t f F M i = if A 2 = 0 then (nI i, A, B) else if A 2 = 3 then ttS T t (f - 1) (ntF T t A) B (i + 1) else (-1 - A 3, A, B) := by
  obtain ⟨f, rfl⟩ := Nat.exists_eq_succ_of_ne_zero (by omega : f ≠ 0)
  show (if _ then _ else _) = _
  rw [hR, if_pos rfl]; rfl
theorem tt_bad {T F M : Nat → Int32} {t f i : Nat} {A B : Nat → Int32} (hf : 0 < f) (hR : tiR T t F M (nP M) = (false, A, B)) : ttS T t f F M i = (-1 - A 3, A, B) := by
  obtain ⟨f, rfl⟩ := Nat.exists_eq_succ_of_ne_zero (by omega : f ≠ 0)
  show (if _ then _ else _) = _
  rw [hR]; exact if_neg (show ¬ false = true by decide)
theorem neg3 {t : Nat} {F : Nat → Int32} (ht : t ≤ 120) (h : TF t F) : (-1 : Int32) - F 3 < 0 := by
  obtain ⟨_, s, e, h1, h2, h3, _⟩ := h
  rw [h3, Int32.lt_iff_toInt_lt, Int32.toInt_sub, nI_toInt (by omega), show ((-1 : Int32)).toInt = -1 by decide, show ((0 : Int32)).toInt = 0 by decide]
  have : ((-1 : Int) - (s : Int)).bmod (2 ^ 32) = -1 - (s : Int) := by
    rw [Int.bmod_def]; omega
  rw [this]; omega
/-- the class's text against the reference's -/
theorem text_sim {C T : Nat → Int32} {t : Nat} (ht : t ≤ 120) (h : TpR t C T) : ∀ (f : Nat) (F X M : Nat → Int32) (i g : Nat), SR C t F X → M 4 = nI (nP M) → nP M ≤ 8 → i + f = 121 → (i ≤ atN X ∨ X 7 = 22) → rkX t (itX T t (nP M) X) ≤ g →
    (ttS C t f F M i).1 = mAns (mrS T t g (itX T t (nP M) X) (itM T t (nP M) M X) i) ∧ mNew M (mrS T t g (itX T t (nP M) X) (itM T t (nP M) M X) i) = (if mBad (mrS T t g (itX T t (nP M) X) (itM T t (nP M) M X) i).1 = true then M else (ttS C t f F M i).2.2)
    ∧ (mBad (mrS T t g (itX T t (nP M) X) (itM T t (nP M) M X) i).1 = true ↔ (ttS C t f F M i).1 < 0) := by
  intro f
  induction f with
  | zero =>
    intro F X M i g hs hn hn8 hif hat hg
    have h22 : X 7 = 22 := by
      rcases hat with q | q
      · have := atN_le ht hs.2.1; omega
      · exact q
    have e : itX T t (nP M) X = upd X 11 1 := it_over h22
    have hp : psB (upd X 11 1) 21 = false := (ps_bad (T := T) (t := t)).2
    rw [e, mr_stop hp, ps_bad.1]
    have hb : mBad (upd X 11 1) = true := by unfold mBad; rw [up_at, if_neg (by decide)]
    unfold mAns mNew
    show (-1 - F 3 = if mBad (upd X 11 1) = true then _ else _) ∧ (if mBad (upd X 11 1) = true then _ else _) = (if mBad (upd X 11 1) = true then _ else _) ∧ (mBad (upd X 11 1) = true ↔ (-1 - F 3) < 0)
    rw [hb, if_pos rfl, if_pos rfl, if_pos rfl]
    refine ⟨?_, rfl, fun _ => neg3 ht hs.1, fun _ => rfl⟩
    show _ = -1 - upd X 11 1 8
    rw [up_ne _ _ (by decide), hs.2.2.2.1]
  | succ f ih =>
    intro F X M i g hs hn hn8 hif hat hg
    have hI := item_sim (M := M) (n := nP M) ht h hs hn hn8
    have hge := it_ge (T := T) (n := nP M) ht hs.2.1
    have hMn := itM_n (T := T) (X := X) (t := t) hn8 hn
    generalize hY : itX T t (nP M) X = Y at hI hg hge
    generalize hN : itM T t (nP M) M X = N at hI hMn
    have h22 : X 7 = 22 → Y = upd X 11 1 := fun q => hY.symm.trans (it_over q)
    generalize hR : tiR C t F M (nP M) = R at hI
    obtain ⟨b, A, B⟩ := R
    cases b with
    | false =>
      obtain ⟨y1, y2, y3⟩ := hI.2 rfl
      have y2 : A 3 = Y 8 := y2
      have y3 : TF t A := y3
      rw [tt_bad (by omega) hR]
      have hp : psB Y 21 = false := by unfold psB; rw [y1, if_neg (by decide)]
      have hb : mBad Y = true := by unfold mBad; rw [y1, if_neg (by decide)]
      rw [mr_stop hp, show psX T t Y 21 = Y by unfold psX; rw [hp]; rfl]
      unfold mAns mNew
      show (-1 - A 3 = if mBad Y = true then _ else _) ∧ (if mBad Y = true then _ else _) = (if mBad Y = true then _ else _) ∧ (mBad Y = true ↔ (-1 - A 3) < 0)
      rw [hb, if_pos rfl, if_pos rfl, if_pos rfl]
      exact ⟨by rw [y2], rfl, fun _ => neg3 ht y3, fun _ => rfl⟩
    | true =>
      obtain ⟨y1, y2⟩ := hI.1 rfl
      have y1 : SR C t A Y := y1
      have y2 : B = N := y2
      subst y2
      rw [tt_step (by omega) hR]
      have y11 := y1.2.2.1
      have hx22 : X 7 ≠ 22 := fun q => by
        have := h22 q
        rw [this, up_at] at y11
        exact absurd y11 (by decide)
      have hi : i ≤ atN X := by
        rcases hat with q | q
        · exact q
        · exact absurd q hx22
      have t0 : A 2 = 0 ↔ Y 7 = 22 := by
        obtain ⟨_, _, _, _, hk⟩ := y1
        rcases hk with ⟨a, c, _⟩ | ⟨a, _, v, c, d, _⟩ | ⟨a, c, _⟩ | ⟨a, c, _⟩ | ⟨a, c⟩
        · rw [a, c]; exact ⟨fun _ => rfl, fun _ => rfl⟩
        · rw [a, c]; exact ⟨fun q => absurd q (by decide), fun q => absurd ((nI_eq (by omega) (by decide : 22 < 2 ^ 31)).mp q) (by omega)⟩
        · rw [a, c]; exact ⟨fun q => absurd q (by decide), fun q => absurd q (by decide)⟩
        · rw [a, c]; exact ⟨fun q => absurd q (by decide), fun q => absurd q (by decide)⟩
        · rw [a, c]; exact ⟨fun q => absurd q (by decide), fun q => absurd q (by decide)⟩
      have t3 : (A 2 = 3 ↔ Y 7 = 21) ∧ (A 2 = 3 → A 4 = Y 9) := by
        obtain ⟨_, _, _, _, hk⟩ := y1
        rcases hk with ⟨a, c, _⟩ | ⟨a, _, v, c, d, _⟩ | ⟨a, c, _⟩ | ⟨a, c, e⟩ | ⟨a, c⟩
        · rw [a, c]; exact ⟨⟨fun q => absurd q (by decide), fun q => absurd q (by decide)⟩, fun q => absurd q (by decide)⟩
        · rw [a, c]; exact ⟨⟨fun q => absurd q (by decide), fun q => absurd ((nI_eq (by omega) (by decide : 21 < 2 ^ 31)).mp q) (by omega)⟩, fun q => absurd q (by decide)⟩
        · rw [a, c]; exact ⟨⟨fun q => absurd q (by decide), fun q => absurd q (by decide)⟩, fun q => absurd q (by decide)⟩
        · rw [a, c]; exact ⟨⟨fun _ => rfl, fun _ => rfl⟩, fun _ => e⟩
        · rw [a, c]; exact ⟨⟨fun q => absurd q (by decide), fun q => absurd q (by decide)⟩, fun q => absurd q (by decide)⟩
      by_cases h3 : Y 7 = 21
      · have hp : psB Y 21 = true := by unfold psB; rw [if_pos y11, if_pos h3]
        have a3 := t3.1.mpr h3
        rw [if_neg (show ¬ A 2 = 0 by rw [a3]; decide), if_pos a3]
        have epx : psX T t Y 21 = rdF T t Y := by unfold psX; rw [hp]; rfl
        have hrk := rk_it (T := T) (n := nP B) ht y1.2.1 hp
        have hpos := rk_pos (t := t) hp
        rw [mr_step hp (by omega), epx]
        rw [epx] at hrk
        have hat2 : i + 1 ≤ atN (rdF T t Y) ∨ rdF T t Y 7 = 22 := by
          rcases rdF_gt (T := T) ht y1.2.1 with ⟨q, _⟩ | q
          · exact Or.inr q
          · exact Or.inl (by omega)
        have key := ih (ntF C t A) (rdF T t Y) B (i + 1) (g - 1) (sr_next ht h y1 (t3.2 a3)) hMn.1 hMn.2 (by omega) hat2 (by omega)
        obtain ⟨k1, k2, k3⟩ := key
        refine ⟨k1, ?_, k3⟩
        unfold mNew at k2 ⊢
        split
        · rfl
        · rename_i q
          rw [if_neg q, if_neg q] at k2
          exact k2
      · have hp : psB Y 21 = false := by unfold psB; rw [if_pos y11, if_neg h3]
        have a3 : ¬ A 2 = 3 := fun q => h3 (t3.1.mp q)
        rw [mr_stop hp, show psX T t Y 21 = Y by unfold psX; rw [hp]; rfl]
        by_cases h0 : Y 7 = 22
        · have hb : mBad Y = false := by unfold mBad; rw [if_pos y11, if_pos h0]
          rw [if_pos (t0.mpr h0)]
          unfold mAns mNew
          show (nI i = if mBad Y = true then _ else _) ∧ (if mBad Y = true then _ else _) = (if mBad Y = true then _ else _) ∧ (mBad Y = true ↔ nI i < 0)
          rw [hb, if_neg (by decide), if_neg (by decide)]
          exact ⟨rfl, rfl, fun q => absurd q (by decide), fun q => absurd q (nI_pos (by omega))⟩
        · have hb : mBad Y = true := by unfold mBad; rw [if_pos y11, if_neg h0]
          rw [if_neg (fun q => h0 (t0.mp q)), if_neg a3]
          unfold mAns mNew
          show (-1 - A 3 = if mBad Y = true then _ else _) ∧ (if mBad Y = true then _ else _) = (if mBad Y = true then _ else _) ∧ (mBad Y = true ↔ (-1 - A 3) < 0)
          rw [hb, if_pos rfl, if_pos rfl]
          exact ⟨by rw [show A 3 = Y 8 from y1.2.2.2.1], rfl, fun _ => neg3 ht y1.1, fun _ => rfl⟩
