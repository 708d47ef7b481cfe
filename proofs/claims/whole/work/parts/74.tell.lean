/-! ===== the class's text: what a reading keeps ===== -/
theorem TF_tpT {T F M : Nat → Int32} {t n : Nat} (ht : t ≤ 120) (h : TF t F) : TF t (tpT T t F M n).2.1 := by
  unfold tpT; split
  · exact TF_nt ht h.A
  · exact h
theorem TF_tpL {T F M : Nat → Int32} {t n : Nat} (ht : t ≤ 120) (h : TF t F) : TF t (tpL T t F M n).2.1 := by
  unfold tpL; split
  · split
    · exact TF_tpT ht (TF_nt ht (TF_nt ht h.A).A)
    · exact TF_nt ht h.A
  · exact TF_tpT ht h
theorem TF_tp {T F M : Nat → Int32} {t n : Nat} {k : Int32} (ht : t ≤ 120) (h : TF t F) : TF t (tpR T t F M n k).2.1 := by
  unfold tpR; split
  · exact h
  · split
    · exact TF_tpL ht (TF_nt ht (TF_nt ht h.A).A)
    · exact TF_nt ht h.A
theorem TF_td {T F M : Nat → Int32} {t : Nat} (ht : t ≤ 120) (h : TF t F) : TF t (tdR T t F M).2.1 := by
  unfold tdR; split
  · split
    · exact TF_nt ht (TF_nt ht h.A).A
    · exact TF_nt ht h.A
  · split
    · split
      · exact TF_nt ht (TF_nt ht h.A).A
      · exact TF_nt ht h.A
    · exact h
theorem TF_ti {T F M : Nat → Int32} {t n : Nat} (ht : t ≤ 120) (h : TF t F) : TF t (tiR T t F M n).2.1 := by
  unfold tiR; split
  · exact TF_td ht h
  · exact TF_tp ht h
/-- people and tail of a told morning -/
def NT (M : Nat → Int32) : Prop := (∃ m, m ≤ 8 ∧ M 4 = nI m) ∧ ∀ k : Nat, 53 ≤ k → M k = 0
theorem NT.n {M : Nat → Int32} (h : NT M) : M 4 = nI (nP M) ∧ nP M ≤ 8 := by
  obtain ⟨⟨m, hm, e⟩, _⟩ := h
  have q : nP M = m := by unfold nP; rw [e, nI_clamp (by omega)]
  rw [q]; exact ⟨e, hm⟩
theorem NT.up {M : Nat → Int32} {k : Nat} {v : Int32} (h : NT M) (h4 : 4 ≠ k) (hk : k < 53) : NT (upd M k v) := by
  obtain ⟨⟨m, hm, e⟩, ht⟩ := h
  exact ⟨⟨m, hm, by rw [up_ne _ _ h4]; exact e⟩, fun j hj => by rw [up_ne _ _ (by omega)]; exact ht j hj⟩
theorem NT.ad {M : Nat → Int32} {n : Nat} {k f : Int32} (h : NT M) (hn : n < 8) : NT (adC M n k f) := by
  rw [adC_M]
  exact ⟨⟨n + 1, by omega, adM_4 _ _ _ _ _ _⟩, fun j hj => by rw [adM_t hn hj]; exact h.2 j hj⟩
theorem NT_tpT {T F M : Nat → Int32} {t n : Nat} (h : NT M) (hn : n < 8) : NT (tpT T t F M n).2.2 := by
  unfold tpT; split
  · exact h.up (by omega) (by omega)
  · exact h
theorem NT_tpL {T F M : Nat → Int32} {t n : Nat} (h : NT M) (hn : n < 8) : NT (tpL T t F M n).2.2 := by
  unfold tpL; split
  · split
    · exact NT_tpT (h.up (by omega) (by omega)) hn
    · exact h
  · exact NT_tpT h hn
theorem NT_tp {T F M : Nat → Int32} {t : Nat} {k : Int32} (h : NT M) : NT (tpR T t F M (nP M) k).2.2 := by
  unfold tpR; split
  · exact h
  · rename_i hf
    have hn : nP M < 8 := full_m h.n.1 h.n.2 (by cases q : fullB M with | false => rfl | true => exact absurd q hf)
    split
    · exact NT_tpL (h.ad hn) hn
    · exact h
theorem NT_td {T F M : Nat → Int32} {t : Nat} (h : NT M) : NT (tdR T t F M).2.2 := by
  unfold tdR; split
  · split
    · exact h.up (by decide) (by decide)
    · exact h
  · split
    · split
      · exact h.up (by decide) (by decide)
      · exact h
    · exact h
theorem NT_ti {T F M : Nat → Int32} {t : Nat} (h : NT M) : NT (tiR T t F M (nP M)).2.2 := by
  unfold tiR; split
  · exact NT_td h
  · exact NT_tp h
theorem NT_tt {T : Nat → Int32} {t : Nat} : ∀ (f : Nat) (F M : Nat → Int32) (i : Nat), NT M → NT (ttS T t f F M i).2.2 := by
  intro f
  induction f with
  | zero => intro F M i h; exact h
  | succ f ih =>
    intro F M i h
    have hq := NT_ti (T := T) (F := F) (t := t) h
    generalize hR : tiR T t F M (nP M) = R at hq
    obtain ⟨b, A, B⟩ := R
    cases b with
    | false => rw [tt_bad (Nat.succ_pos f) hR]; exact hq
    | true =>
      rw [tt_step (Nat.succ_pos f) hR]
      split
      · exact hq
      · split
        · exact ih _ _ _ hq
        · exact hq
theorem tt_0 {T F M : Nat → Int32} {t f i : Nat} (h : f = 0) : ttS T t f F M i = (-1 - F 3, F, M) := by subst h; rfl
theorem tt_end {T F M : Nat → Int32} {t f i : Nat} {R : TS} (hR : R = ttS T t f F M i) (hf : 0 < f) (h1 : (tiR T t F M (nP M)).1 = true) (h2 : (tiR T t F M (nP M)).2.1 2 = 0) : R = (nI i, (tiR T t F M (nP M)).2.1, (tiR T t F M (nP M)).2.2) := by
  rw [hR, tt_step hf (show tiR T t F M (nP M) = (true, _, _) by rw [← h1]), if_pos h2]
theorem tt_next {T F M : Nat → Int32} {t f i : Nat} {R : TS} (hR : R = ttS T t f F M i) (hf : 0 < f) (h1 : (tiR T t F M (nP M)).1 = true) (h2 : ¬ (tiR T t F M (nP M)).2.1 2 = 0) (h3 : (tiR T t F M (nP M)).2.1 2 = 3) : R = ttS T t (f - 1) (ntF T t (tiR T t F M (nP M)).2.1) (tiR T t F M (nP M)).2.2 (i + 1) := by
  rw [hR, tt_step hf (show tiR T t F M (nP M) = (true, _, _) by rw [← h1]), if_neg h2, if_pos h3]
theorem tt_other {T F M : Nat → Int32} {t f i : Nat} {R : TS} (hR : R = ttS T t f F M i) (hf : 0 < f) (h1 : (tiR T t F M (nP M)).1 = true) (h2 : ¬ (tiR T t F M (nP M)).2.1 2 = 0) (h3 : ¬ (tiR T t F M (nP M)).2.1 2 = 3) : R = (-1 - (tiR T t F M (nP M)).2.1 3, (tiR T t F M (nP M)).2.1, (tiR T t F M (nP M)).2.2) := by
  rw [hR, tt_step hf (show tiR T t F M (nP M) = (true, _, _) by rw [← h1]), if_neg h2, if_neg h3]
theorem tt_fail {T F M : Nat → Int32} {t f i : Nat} {R : TS} (hR : R = ttS T t f F M i) (hf : 0 < f) (h1 : (tiR T t F M (nP M)).1 = false) : R = (-1 - (tiR T t F M (nP M)).2.1 3, (tiR T t F M (nP M)).2.1, (tiR T t F M (nP M)).2.2) := by
  rw [hR, tt_bad hf (show tiR T t F M (nP M) = (false, _, _) by rw [← h1])]
theorem tt_of {u v : Sg} {R : TS} {x : Int32} {A B : Nat → Int32} (hR : R = (x, A, B)) (hv : v = sI (sI u 4 A) 1 B) : x = R.1 ∧ v = sI (sI u 4 R.2.1) 1 R.2.2 := by subst hR; exact ⟨rfl, hv⟩
theorem ti_st (u : Sg) (F M A B : Nat → Int32) : sI (sI (sI (sI u 4 F) 1 M) 4 A) 1 B = sI (sI u 4 A) 1 B := by
  rw [sI_comm (sI u 4 F) M A (by decide : (1 : Nat) ≠ 4), sI_sI, sI_sI]
theorem nt_st (u : Sg) (F M A : Nat → Int32) : sI (sI (sI u 4 F) 1 M) 4 A = sI (sI u 4 A) 1 M := by
  rw [sI_comm (sI u 4 F) M A (by decide : (1 : Nat) ≠ 4), sI_sI]
/-- the class's morning: answer, and the three rows -/
theorem mor_c {u v : Sg} {R : TS} {M N F : Nat → Int32} (h : v = sI (sI (sI u 1 R.2.2) 4 (upd R.2.1 1 0)) 0 N) (hN : N = if R.1 < 0 then M else R.2.2) : R.1 = R.1 ∧ v = sI (sI (sI u 1 R.2.2) 4 (upd R.2.1 1 0)) 0 (if R.1 < 0 then M else R.2.2) := by subst hN; exact ⟨rfl, h⟩
theorem tt_st (u : Sg) (M A B : Nat → Int32) : sI (sI (sI u 1 M) 4 A) 1 B = sI (sI u 1 B) 4 A := by
  rw [sI_mid _ _ _ _ (by decide : (1 : Nat) ≠ 4)]; exact sI_comm _ _ _ (by decide)
theorem mc_1 {u : Sg} {B A M : Nat → Int32} (h0 : u.1 0 = M) : sI (sI u 1 B) 4 A = sI (sI (sI u 1 B) 4 A) 0 M :=
  (sI_id ((sI_ne _ _ (by decide)).trans ((sI_ne _ _ (by decide)).trans h0))).symm
theorem mc_2 {u : Sg} {B A A2 N : Nat → Int32} : sI (sI (sI (sI u 1 B) 4 A) 0 N) 4 A2 = sI (sI (sI u 1 B) 4 A2) 0 N := by
  rw [sI_mid _ _ _ _ (by decide : (4 : Nat) ≠ 0)]; exact sI_comm _ _ _ (by decide)
