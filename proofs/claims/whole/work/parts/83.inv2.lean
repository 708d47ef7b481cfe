/-! ===== tape and text ===== -/
theorem byte_tp (y : Int32) : gCl y = gMo y ∨ ((gCl y).toInt < 0 ∧ 128 ≤ (gMo y).toInt) := by
  have e1 : (gCl y).toInt = y.toInt.bmod 256 := by
    unfold gCl
    rw [vp_nar_byte, Int8.toInt_toInt32, Int32.toInt_toInt8, Int8.toInt_toInt32, Int32.toInt_toInt8]
    have h1 := Int.bmod_lt (x := y.toInt) (m := 256) (by decide)
    have h2 := Int.le_bmod (x := y.toInt) (m := 256) (by decide)
    exact Int.bmod_eq_of_le (by omega) (by omega)
  have e2 : (gMo y).toInt = y.toInt % 256 := by
    unfold gMo
    have hn : (y &&& 255).toBitVec.toNat = y.toBitVec.toNat % 256 := by
      rw [Int32.toBitVec_and, BitVec.toNat_and]
      exact Nat.and_two_pow_sub_one_eq_mod _ 8
    have hz : (y &&& 255).toInt = ((y &&& 255).toBitVec.toNat : Int) := by
      show (y &&& 255).toBitVec.toInt = _
      exact BitVec.toInt_eq_toNat_of_lt (by rw [hn]; omega)
    have hy : y.toInt = y.toBitVec.toInt := rfl
    rw [hz, hn, hy, BitVec.toInt_eq_toNat_bmod, Int.bmod_def]
    have hl := y.toBitVec.isLt
    split <;> omega
  have h3 : y.toInt.bmod 256 = if y.toInt % 256 < 128 then y.toInt % 256 else y.toInt % 256 - 256 := by
    rw [Int.bmod_def]; split <;> split <;> omega
  by_cases h : y.toInt % 256 < 128
  · refine Or.inl (ti_eq.mpr ?_)
    rw [e1, e2, h3, if_pos h]
  · refine Or.inr ?_
    rw [e1, e2, h3, if_neg h]
    omega
theorem feed_tp {x : Int32} : ∀ (n ln : Nat) (C T : Nat → Int32), TpR ln C T → TpR (ln + n) (apG gCl C ln x n) (apG gMo T ln x n) := by
  intro n
  induction n with
  | zero => intro ln C T h; exact h
  | succ n ih =>
    intro ln C T h
    have hs : TpR (ln + 1) (upd C ln (gCl (x >>> (nI (8 * n) &&& 31)))) (upd T ln (gMo (x >>> (nI (8 * n) &&& 31)))) := by
      intro k hk
      by_cases e : k = ln
      · subst e; rw [up_at, up_at]; exact byte_tp _
      · rw [up_ne _ _ e, up_ne _ _ e]; exact h k (by omega)
    have := ih (ln + 1) _ _ hs
    rw [show ln + 1 + n = ln + (n + 1) by omega] at this
    exact this
theorem feed_n {len : Nat} {n : Int32} (h : f_feed len n = 0) (hl : len ≤ 120) : len + n.toNatClampNeg ≤ 120 := by
  unfold f_feed at h
  split at h
  · exact absurd h (by decide)
  · rename_i hn
    obtain ⟨j, h1, h2, rfl⟩ := inI_nat (bool_t hn) rfl rfl (na := 1) (nb := 4) (by decide) (by decide)
    split at h
    · exact absurd h (by decide)
    · rename_i hq
      rw [nI_add, nI_ltI (by decide) (by omega)] at hq
      rw [nI_clamp (by omega)]; omega
theorem inv_feed {u v1 v2 : Sg} {ln : Nat} {x n r1 r2 : Int32} (hI : Inv u) (hl : ln ≤ 120) (h4 : u.1 4 1 = nI ln) (h6 : u.1 14 6 = nI ln) (htp : TpR ln (u.1 5) (u.1 16)) (hf : f_feed ln n = 0)
    (e1 : r1 = nI (ln + n.toNatClampNeg) ∧ v1 = sI (sI u 5 (apG gCl (u.1 5) ln x n.toNatClampNeg)) 4 (upd (u.1 4) 1 (nI (ln + n.toNatClampNeg))))
    (e2 : r2 = nI (ln + n.toNatClampNeg) ∧ v2 = sI (sI v1 16 (apG gMo (v1.1 16) ln x n.toNatClampNeg)) 14 (upd (v1.1 14) 6 (nI (ln + n.toNatClampNeg)))) : r1 = r2 ∧ Inv0 v2 := by
  obtain ⟨rfl, hv1⟩ := e1
  obtain ⟨rfl, hv2⟩ := e2
  refine ⟨rfl, ?_⟩
  have r : ∀ k, k ≠ 4 → k ≠ 5 → k ≠ 14 → k ≠ 16 → v2.1 k = u.1 k := fun k a b c d => by rw [hv2, sI_ne _ _ c, sI_ne _ _ d, hv1, sI_ne _ _ a, sI_ne _ _ b]
  have r16 : v1.1 16 = u.1 16 := by rw [hv1, sI_ne _ _ (by decide), sI_ne _ _ (by decide)]
  have r14 : v1.1 14 = u.1 14 := by rw [hv1, sI_ne _ _ (by decide), sI_ne _ _ (by decide)]
  have s14 : v2.1 14 = upd (u.1 14) 6 (nI (ln + n.toNatClampNeg)) := by rw [hv2, sI_at, r14]
  have s16 : v2.1 16 = apG gMo (u.1 16) ln x n.toNatClampNeg := by rw [hv2, sI_ne _ _ (by decide), sI_at, r16]
  have s4 : v2.1 4 = upd (u.1 4) 1 (nI (ln + n.toNatClampNeg)) := by rw [hv2, sI_ne _ _ (by decide), sI_ne _ _ (by decide), hv1, sI_at]
  have s5 : v2.1 5 = apG gCl (u.1 5) ln x n.toNatClampNeg := by rw [hv2, sI_ne _ _ (by decide), sI_ne _ _ (by decide), hv1, sI_ne _ _ (by decide), sI_at]
  have hL : v2.2 = u.2 := by rw [hv2, hv1]; rfl
  refine ⟨?_, hI.1.2.1.of (r 2 (by decide) (by decide) (by decide) (by decide)) (r 12 (by decide) (by decide) (by decide) (by decide)) (r 3 (by decide) (by decide) (by decide) (by decide)) (by rw [s14, up_ne _ _ (by decide)]), ?_, hI.1.2.2.2.of (fun j hj => r _ (by omega) (by omega) (by omega) (by omega)) (r 17 (by decide) (by decide) (by decide) (by decide)) (r 18 (by decide) (by decide) (by decide) (by decide)) (fun j _ => by rw [hL])⟩
  · unfold iM
    rw [r 0 (by decide) (by decide) (by decide) (by decide), r 11 (by decide) (by decide) (by decide) (by decide), r 6 (by decide) (by decide) (by decide) (by decide), r 15 (by decide) (by decide) (by decide) (by decide)]
    exact hI.1.1
  · refine ⟨ln + n.toNatClampNeg, feed_n hf hl, ?_, ?_, ?_⟩
    · rw [s4, up_at]
    · rw [s14, up_at]
    · rw [s5, s16]; exact feed_tp _ _ _ _ htp
theorem inv_wipe {u v1 v2 : Sg} {r1 r2 : Int32} (hI : Inv u) (e1 : r1 = u.1 4 1 ∧ v1 = sI u 4 (upd (u.1 4) 1 0)) (e2 : r2 = v1.1 14 6 ∧ v2 = sI v1 14 (upd (v1.1 14) 6 0)) : r1 = r2 ∧ Inv0 v2 := by
  obtain ⟨rfl, hv1⟩ := e1
  obtain ⟨rfl, hv2⟩ := e2
  have r14 : v1.1 14 = u.1 14 := by rw [hv1, sI_ne _ _ (by decide)]
  obtain ⟨ln, hl, h4, h6, htp⟩ := hI.1.2.2.1
  refine ⟨by rw [r14, h4, h6], ?_⟩
  have r : ∀ k, k ≠ 4 → k ≠ 14 → v2.1 k = u.1 k := fun k a b => by rw [hv2, sI_ne _ _ b, hv1, sI_ne _ _ a]
  have s14 : v2.1 14 = upd (u.1 14) 6 0 := by rw [hv2, sI_at, r14]
  have s4 : v2.1 4 = upd (u.1 4) 1 0 := by rw [hv2, sI_ne _ _ (by decide), hv1, sI_at]
  have hL : v2.2 = u.2 := by rw [hv2, hv1]; rfl
  refine ⟨?_, hI.1.2.1.of (r 2 (by decide) (by decide)) (r 12 (by decide) (by decide)) (r 3 (by decide) (by decide)) (by rw [s14, up_ne _ _ (by decide)]), ⟨0, by decide, by rw [s4, up_at]; exact nI_0.symm, by rw [s14, up_at]; exact nI_0.symm, fun k hk => absurd hk (Nat.not_lt_zero _)⟩, hI.1.2.2.2.of (fun j hj => r _ (by omega) (by omega)) (r 17 (by decide) (by decide)) (r 18 (by decide) (by decide)) (fun j _ => by rw [hL])⟩
  unfold iM
  rw [r 0 (by decide) (by decide), r 11 (by decide) (by decide), r 6 (by decide) (by decide), r 15 (by decide) (by decide)]
  exact hI.1.1
/-! the reader leaves the flag of the image alone -/
theorem rdX_3 (X : Nat → Int32) (R : Nat × Nat × Nat × Int32) : rdX X R 3 = X 3 := by
  unfold rdX; rw [up_ne _ _ (by decide), up_ne _ _ (by decide), up_ne _ _ (by decide), up_ne _ _ (by decide)]
theorem rdF_3 (T X : Nat → Int32) (t : Nat) : rdF T t X 3 = X 3 := by unfold rdF; exact rdX_3 _ _
theorem psX_3 (T X : Nat → Int32) (t : Nat) (w : Int32) : psX T t X w 3 = X 3 := by
  unfold psX; split
  · exact rdF_3 _ _ _
  · rfl
theorem nuX_3 (T X : Nat → Int32) (t : Nat) (a b : Int32) : nuX T t X a b 3 = X 3 := by
  unfold nuX; split
  · exact up_ne _ _ (by decide)
  · rw [rdF_3]; exact up_ne _ _ (by decide)
theorem pfX_3 (T X : Nat → Int32) (t : Nat) (w a b : Int32) : pfX T t X w a b 3 = X 3 := by
  unfold pfX; split
  · rw [nuX_3, psX_3]
  · exact psX_3 _ _ _ _
theorem piX_3 (T X : Nat → Int32) (t n : Nat) : piX T t n X 3 = X 3 := by
  unfold piX; split
  · exact up_ne _ _ (by decide)
  · unfold pi4 pi3 pi2; rw [psX_3, pfX_3, nuX_3, rdF_3]; exact up_ne _ _ (by decide)
theorem itX_3 (T X : Nat → Int32) (t n : Nat) : itX T t n X 3 = X 3 := by
  unfold itX; split
  · exact piX_3 _ _ _ _
  · split
    · rw [nuX_3, psX_3]
    · split
      · rw [nuX_3, psX_3, psX_3]
      · rw [up_ne _ _ (by decide), psX_3, psX_3]
theorem mrS_3 (T : Nat → Int32) (t : Nat) : ∀ (f : Nat) (X M : Nat → Int32) (i : Nat), (mrS T t f X M i).1 3 = X 3 := by
  intro f
  induction f with
  | zero => intro X M i; exact psX_3 _ _ _ _
  | succ f ih =>
    intro X M i
    cases h : psB X 21 with
    | true => rw [mr_step h (Nat.succ_pos f), show f.succ - 1 = f from rfl, ih, itX_3, psX_3]
    | false => rw [mr_stop h]; exact psX_3 _ _ _ _
/-! a told morning is one -/
theorem nt_num {T F : Nat → Int32} {t : Nat} (ht : t ≤ 120) (h : TA t F) (b : Nat) (hb : b ≤ 999) (hn : nnB (ntF T t F) (nI b) = true) : 0 ≤ (ntF T t F 5).toInt ∧ (ntF T t F 5).toInt ≤ b := by
  obtain ⟨h1, a, ha, h4⟩ := h
  have hk := tk_base (C := T) (T := T) (F := F) (X := fun _ => nI a) ht (fun k _ => Or.inl rfl) ha h4 rfl
  have h2 : ntF T t F 2 = 2 ∧ ¬ nI b < ntF T t F 5 := by
    unfold nnB at hn
    split at hn
    · rename_i q
      split at hn
      · exact absurd hn (by decide)
      · rename_i q2; exact ⟨q, q2⟩
    · exact absurd hn (by decide)
  have hz : ∃ z : Nat, z ≤ 1000 ∧ ntF T t F 5 = nI z := by
    obtain ⟨_, hk⟩ := hk
    rcases hk with ⟨a, _⟩ | ⟨a, _⟩ | ⟨_, _, _, e, z, hz, ez⟩ | ⟨a, _⟩ | ⟨a, _⟩
    · rw [h2.1] at a; exact absurd a (by decide)
    · rw [h2.1] at a; exact absurd a (by decide)
    · refine ⟨min z 1000, by omega, ?_⟩
      rw [e, ez, lim_n hz]
    · rw [h2.1] at a; exact absurd a (by decide)
    · rw [h2.1] at a; exact absurd a (by decide)
  obtain ⟨z, hz, ez⟩ := hz
  have h3 := h2.2
  rw [ez, nI_ltI (by omega) (by omega)] at h3
  rw [ez, ti_nI (by omega)]
  omega
theorem kn_r {T F : Nat → Int32} (h : ¬ knV T F < 0) : inI (knV T F) 0 5 = true := by
  have key : ∀ f w, w + f = 6 → knG T F f w = -1 ∨ ∃ k, k < 6 ∧ knG T F f w = nI k := by
    intro f
    induction f with
    | zero => intro w _; exact Or.inl rfl
    | succ f ih =>
      intro w hw
      have e : knG T F (f + 1) w = if isW T F w = true then nI w else knG T F f (w + 1) := rfl
      rw [e]
      cases hq : isW T F w with
      | true => rw [if_pos rfl]; exact Or.inr ⟨w, by omega, rfl⟩
      | false => rw [if_neg (by decide)]; exact ih (w + 1) (by omega)
  rcases key 6 0 rfl with q | ⟨k, hk, q⟩
  · exact absurd (show knV T F < 0 by unfold knV; rw [q]; decide) h
  · unfold knV; rw [q]
    exact inI_of (by rw [ti_nI (by omega)]; show (0 : Int) ≤ _; omega) (by rw [ti_nI (by omega)]; show _ ≤ (5 : Int); omega)
theorem ws_tpT {T F M : Nat → Int32} {t n : Nat} (h : WS M) (hn : n < 8) : WS (tpT T t F M n).2.2 := by
  unfold tpT; split
  · exact h.put hn (by decide) (by decide) (by decide)
  · exact h
theorem ws_tpL {T F M : Nat → Int32} {t n : Nat} (ht : t ≤ 120) (hF : TF t F) (h : WS M) (hn : n < 8) : WS (tpL T t F M n).2.2 := by
  unfold tpL; split
  · split
    · rename_i q
      obtain ⟨a, b⟩ := nt_num ht hF.A 9 (by decide) q
      exact ws_tpT (h.put hn (by decide) a b) hn
    · exact h
  · exact ws_tpT h hn
theorem ws_tp {T F M : Nat → Int32} {t : Nat} (ht : t ≤ 120) (hF : TF t F) (h : WS M) (hk : ¬ knV T F < 0) : WS (tpR T t F M (nP M) (knV T F)).2.2 := by
  unfold tpR; split
  · exact h
  · rename_i hf
    have hn : nP M < 8 := full_m h.1.n h.1.n8 (by cases q : fullB M with | false => rfl | true => exact absurd q hf)
    split
    · rename_i q
      obtain ⟨a, b⟩ := nt_num ht hF.A 999 (by decide) q
      exact ws_tpL ht (TF_nt ht (TF_nt ht hF.A).A) (WS_ad h hn (kn_r hk) (inI_of a b)) hn
    · exact h
theorem ws_td {T F M : Nat → Int32} {t : Nat} (ht : t ≤ 120) (hF : TF t F) (h : WS M) : WS (tdR T t F M).2.2 := by
  unfold tdR; split
  · split
    · rename_i q
      obtain ⟨a, b⟩ := nt_num ht hF.A 99 (by decide) q
      exact h.put1 a b
    · exact h
  · split
    · split
      · rename_i q
        obtain ⟨a, b⟩ := nt_num ht hF.A 60 (by decide) q
        exact h.put2 a b
      · exact h
    · exact h
theorem ws_ti {T F M : Nat → Int32} {t : Nat} (ht : t ≤ 120) (hF : TF t F) (h : WS M) : WS (tiR T t F M (nP M)).2.2 := by
  unfold tiR; split
  · exact ws_td ht hF h
  · rename_i hk
    exact ws_tp ht hF h hk
theorem ws_tt {T : Nat → Int32} {t : Nat} (ht : t ≤ 120) : ∀ (f : Nat) (F M : Nat → Int32) (i : Nat), TF t F → WS M → WS (ttS T t f F M i).2.2 := by
  intro f
  induction f with
  | zero => intro F M i _ h; exact h
  | succ f ih =>
    intro F M i hF h
    have hq := ws_ti (T := T) ht hF h
    have hT := TF_ti (T := T) (M := M) (n := nP M) ht hF
    generalize hR : tiR T t F M (nP M) = R at hq hT
    obtain ⟨b, A, B⟩ := R
    cases b with
    | false => rw [tt_bad (Nat.succ_pos f) hR]; exact hq
    | true =>
      rw [tt_step (Nat.succ_pos f) hR]
      split
      · exact hq
      · split
        · exact ih _ _ _ (TF_nt ht (show TF t A from hT).A) hq
        · exact hq
theorem WS.NT {M : Nat → Int32} (h : WS M) : NT M := ⟨⟨nP M, h.1.n8, h.1.n⟩, h.1.1⟩
theorem inv_morning {u v1 v2 : Sg} {ln : Nat} {r1 r2 : Int32} {R : TS} {R2 : (Nat → Int32) × (Nat → Int32) × Nat} (hI : Inv u) (hl : ln ≤ 120) (h4 : u.1 4 1 = nI ln) (h6 : u.1 14 6 = nI ln) (htp : TpR ln (u.1 5) (u.1 16))
    (hR : R = ttS (u.1 5) ln 120 (ntF (u.1 5) ln (upd (u.1 4) 4 0)) (u.1 0) 1) (hR2 : R2 = mrS (u.1 16) ln 121 (itX (u.1 16) ln (nP (u.1 0)) (rdF (u.1 16) ln (upd (upd (u.1 14) 9 0) 11 0))) (itM (u.1 16) ln (nP (u.1 0)) (u.1 0) (rdF (u.1 16) ln (upd (upd (u.1 14) 9 0) 11 0))) 1)
    (e1 : r1 = R.1 ∧ v1 = sI (sI (sI u 1 R.2.2) 4 (upd R.2.1 1 0)) 0 (if R.1 < 0 then u.1 0 else R.2.2))
    (e2 : r2 = mAns R2 ∧ v2 = sI (sI (sI v1 13 (u.1 0)) 11 (mNew (u.1 0) R2)) 14 (mFld R2)) : r1 = r2 ∧ Inv0 v2 := by
  have hW := hI.1.1.2.1
  have hA : TA ln (upd (u.1 4) 4 0) := ⟨by rw [up_ne _ _ (by decide)]; exact h4, 0, Nat.zero_le _, by rw [up_at]; exact nI_0.symm⟩
  have hLX : LX ln (upd (upd (u.1 14) 9 0) 11 0) := ⟨by rw [up_ne _ _ (by decide), up_ne _ _ (by decide)]; exact h6, 0, Nat.zero_le _, by rw [up_ne _ _ (by decide), up_at]; exact nI_0.symm⟩
  have hs : SR (u.1 5) ln (ntF (u.1 5) ln (upd (u.1 4) 4 0)) (rdF (u.1 16) ln (upd (upd (u.1 14) 9 0) 11 0)) :=
    ⟨TF_nt hl hA, LX_rd hl hLX, (rdF_11 _ _ _).trans (up_at _ _ _), tk_base hl htp (Nat.zero_le ln) (by rw [up_at]; exact nI_0.symm) (by rw [up_ne _ _ (by decide), up_at]; exact nI_0.symm)⟩
  have hat : 1 ≤ atN (rdF (u.1 16) ln (upd (upd (u.1 14) 9 0) 11 0)) ∨ rdF (u.1 16) ln (upd (upd (u.1 14) 9 0) 11 0) 7 = 22 := by
    rcases rdF_gt (T := u.1 16) hl hLX with ⟨q, _⟩ | q
    · exact Or.inr q
    · exact Or.inl (by omega)
  have hsim := text_sim hl htp 120 (ntF (u.1 5) ln (upd (u.1 4) 4 0)) (rdF (u.1 16) ln (upd (upd (u.1 14) 9 0) 11 0)) (u.1 0) 1 121 hs hW.1.n hW.1.n8 (by decide) hat (rk_le hl)
  rw [← hR, ← hR2] at hsim
  obtain ⟨s1, s2, s3⟩ := hsim
  obtain ⟨rfl, hv1⟩ := e1
  obtain ⟨rfl, hv2⟩ := e2
  refine ⟨s1, ?_⟩
  have hWR : WS R.2.2 := by rw [hR]; exact ws_tt hl _ _ _ _ (TF_nt hl hA) hW
  have eN : mNew (u.1 0) R2 = if R.1 < 0 then u.1 0 else R.2.2 := by
    rw [s2]
    by_cases q : R.1 < 0
    · rw [if_pos (s3.mpr q), if_pos q]
    · rw [if_neg (fun z => q (s3.mp z)), if_neg q]
  have r : ∀ k, k ≠ 0 → k ≠ 1 → k ≠ 4 → k ≠ 11 → k ≠ 13 → k ≠ 14 → v2.1 k = u.1 k := fun k a b c d e f => by rw [hv2, sI_ne _ _ f, sI_ne _ _ d, sI_ne _ _ e, hv1, sI_ne _ _ a, sI_ne _ _ c, sI_ne _ _ b]
  have t0 : v2.1 0 = if R.1 < 0 then u.1 0 else R.2.2 := by rw [hv2, sI_ne _ _ (by decide), sI_ne _ _ (by decide), sI_ne _ _ (by decide), hv1, sI_at]
  have t11 : v2.1 11 = if R.1 < 0 then u.1 0 else R.2.2 := by rw [hv2, sI_ne _ _ (by decide), sI_at, eN]
  have t14 : v2.1 14 = mFld R2 := by rw [hv2, sI_at]
  have t4 : v2.1 4 = upd R.2.1 1 0 := by rw [hv2, sI_ne _ _ (by decide), sI_ne _ _ (by decide), sI_ne _ _ (by decide), hv1, sI_ne _ _ (by decide), sI_at]
  have hL : v2.2 = u.2 := by rw [hv2, hv1]; rfl
  have f3 : mFld R2 3 = u.1 14 3 := by
    unfold mFld
    rw [up_ne _ _ (by decide), up_ne _ _ (by decide), hR2, mrS_3, itX_3, rdF_3, up_ne _ _ (by decide), up_ne _ _ (by decide)]
  refine ⟨⟨?_, ?_, ?_⟩, hI.1.2.1.of (r 2 (by decide) (by decide) (by decide) (by decide) (by decide) (by decide)) (r 12 (by decide) (by decide) (by decide) (by decide) (by decide) (by decide)) (r 3 (by decide) (by decide) (by decide) (by decide) (by decide) (by decide)) (by rw [t14, f3]), ⟨0, by decide, ?_, ?_, fun k hk => absurd hk (Nat.not_lt_zero _)⟩,
    hI.1.2.2.2.of (fun j hj => r _ (by omega) (by omega) (by omega) (by omega) (by omega) (by omega)) (r 17 (by decide) (by decide) (by decide) (by decide) (by decide) (by decide)) (r 18 (by decide) (by decide) (by decide) (by decide) (by decide) (by decide)) (fun j _ => by rw [hL])⟩
  · rw [t0, t11]
  · rw [t0]; split
    · exact hW
    · exact hWR
  · rw [r 6 (by decide) (by decide) (by decide) (by decide) (by decide) (by decide), r 15 (by decide) (by decide) (by decide) (by decide) (by decide) (by decide)]; exact hI.1.1.2.2
  · rw [t4, up_at]; exact nI_0.symm
  · rw [t14]; unfold mFld; rw [up_at]; exact nI_0.symm
