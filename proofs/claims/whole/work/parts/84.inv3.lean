/-! ===== image, undo, tear ===== -/
theorem inv_image {u v1 v2 : Sg} {r1 r2 : Int32} (hI : Inv u) (e1 : r1 = 1 ∧ v1 = sI (sI u 2 (u.1 0)) 3 (upd (u.1 3) 0 1)) (e2 : r2 = 1 ∧ v2 = sI (sI v1 12 (v1.1 11)) 14 (upd (v1.1 14) 3 1)) : r1 = r2 ∧ Inv0 v2 := by
  obtain ⟨rfl, hv1⟩ := e1
  obtain ⟨rfl, hv2⟩ := e2
  have q : ∀ k, k ≠ 2 → k ≠ 3 → v1.1 k = u.1 k := fun k a b => by rw [hv1, sI_ne _ _ b, sI_ne _ _ a]
  have r : ∀ k, k ≠ 2 → k ≠ 3 → k ≠ 12 → k ≠ 14 → v2.1 k = u.1 k := fun k a b c d => by rw [hv2, sI_ne _ _ d, sI_ne _ _ c]; exact q k a b
  have t2 : v2.1 2 = u.1 0 := by rw [hv2, sI_ne _ _ (by decide), sI_ne _ _ (by decide), hv1, sI_ne _ _ (by decide), sI_at]
  have t3 : v2.1 3 = upd (u.1 3) 0 1 := by rw [hv2, sI_ne _ _ (by decide), sI_ne _ _ (by decide), hv1, sI_at]
  have t12 : v2.1 12 = u.1 11 := by rw [hv2, sI_ne _ _ (by decide), sI_at]; exact q 11 (by decide) (by decide)
  have t14 : v2.1 14 = upd (u.1 14) 3 1 := by rw [hv2, sI_at, q 14 (by decide) (by decide)]
  have hL : v2.2 = u.2 := by rw [hv2, hv1]; rfl
  have hM := hI.1.1
  refine ⟨rfl, ?_, ⟨?_, ?_, Or.inr ⟨?_, ?_, ?_, ?_⟩⟩, hI.1.2.2.1.of (r 4 (by decide) (by decide) (by decide) (by decide)) (r 5 (by decide) (by decide) (by decide) (by decide)) (by rw [t14, up_ne _ _ (by decide)]) (r 16 (by decide) (by decide) (by decide) (by decide)), hI.1.2.2.2.of (fun j hj => r _ (by omega) (by omega) (by omega) (by omega)) (r 17 (by decide) (by decide) (by decide) (by decide)) (r 18 (by decide) (by decide) (by decide) (by decide)) (fun j _ => by rw [hL])⟩
  · unfold iM
    rw [r 0 (by decide) (by decide) (by decide) (by decide), r 11 (by decide) (by decide) (by decide) (by decide), r 6 (by decide) (by decide) (by decide) (by decide), r 15 (by decide) (by decide) (by decide) (by decide)]
    exact hM
  · rw [t2]; exact hM.2.1.1.1
  · rw [t12, ← hM.1]; exact hM.2.1.1.1
  · rw [t3, up_at]
  · rw [t14, up_at]
  · rw [t2, t12]; exact hM.1
  · rw [t2]; exact hM.2.1
theorem inv_undo {u v1 v2 : Sg} {r1 r2 : Int32} (hI : Inv u) (e1 : r1 = (if u.1 3 0 = 0 then -1000000004 else u.1 2 4) ∧ v1 = (if u.1 3 0 = 0 then sI u 6 (bmp (u.1 6) 3) else sI u 0 (u.1 2))) (e2 : r2 = (if v1.1 14 3 = 0 then -1000000004 else v1.1 12 4) ∧ v2 = (if v1.1 14 3 = 0 then sI v1 15 (bmp (v1.1 15) 3) else sI v1 11 (v1.1 12))) : r1 = r2 ∧ Inv0 v2 := by
  obtain ⟨rfl, hv1⟩ := e1
  obtain ⟨rfl, hv2⟩ := e2
  have hM := hI.1.1
  rcases hI.1.2.1.2.2 with ⟨k1, k2⟩ | ⟨k1, k2, k3, k4⟩
  · rw [if_pos k1] at hv1
    have q14 : v1.1 14 3 = 0 := by rw [hv1, sI_ne _ _ (by decide)]; exact k2
    rw [if_pos q14] at hv2
    rw [if_pos k1, if_pos q14]
    have q15 : v1.1 15 = u.1 15 := by rw [hv1, sI_ne _ _ (by decide)]
    refine ⟨rfl, hI.1.same ⟨?_, ?_, ?_⟩ (fun k a b c d e f => by rw [hv2, sI_ne _ _ f, hv1, sI_ne _ _ c]) (by rw [hv2, hv1]; rfl)⟩
    · rw [hv2, sI_ne _ _ (by decide), sI_ne _ _ (by decide), hv1, sI_ne _ _ (by decide), sI_ne _ _ (by decide)]; exact hM.1
    · rw [hv2, sI_ne _ _ (by decide), hv1, sI_ne _ _ (by decide)]; exact hM.2.1
    · rw [hv2, sI_ne _ _ (by decide), sI_at, q15, hv1, sI_at, hM.2.2]
  · have n1 : ¬ u.1 3 0 = 0 := by rw [k1]; decide
    rw [if_neg n1] at hv1
    have q14 : ¬ v1.1 14 3 = 0 := by rw [hv1, sI_ne _ _ (by decide), k2]; decide
    rw [if_neg q14] at hv2
    rw [if_neg n1, if_neg q14]
    have q12 : v1.1 12 = u.1 12 := by rw [hv1, sI_ne _ _ (by decide)]
    refine ⟨by rw [q12, k3], hI.1.same ⟨?_, ?_, ?_⟩ (fun k a b c d e f => by rw [hv2, sI_ne _ _ d, hv1, sI_ne _ _ a]) (by rw [hv2, hv1]; rfl)⟩
    · rw [hv2, sI_ne _ _ (by decide), sI_at, q12, hv1, sI_at]; exact k3
    · rw [hv2, sI_ne _ _ (by decide), hv1, sI_at]; exact k4
    · rw [hv2, sI_ne _ _ (by decide), sI_ne _ _ (by decide), hv1, sI_ne _ _ (by decide), sI_ne _ _ (by decide)]; exact hM.2.2
theorem inv_tear {u v1 v2 : Sg} {r1 r2 : Int32} (hI : Inv u) (e1 : r1 = (if u.1 3 0 = 0 then 0 else 1) ∧ v1 = sI u 3 (upd (u.1 3) 0 0)) (e2 : r2 = (if v1.1 14 3 = 0 then 0 else 1) ∧ v2 = sI v1 14 (upd (v1.1 14) 3 0)) : r1 = r2 ∧ Inv0 v2 := by
  obtain ⟨rfl, hv1⟩ := e1
  obtain ⟨rfl, hv2⟩ := e2
  have q14 : v1.1 14 = u.1 14 := by rw [hv1, sI_ne _ _ (by decide)]
  have r : ∀ k, k ≠ 3 → k ≠ 14 → v2.1 k = u.1 k := fun k a b => by rw [hv2, sI_ne _ _ b, hv1, sI_ne _ _ a]
  have t3 : v2.1 3 = upd (u.1 3) 0 0 := by rw [hv2, sI_ne _ _ (by decide), hv1, sI_at]
  have t14 : v2.1 14 = upd (u.1 14) 3 0 := by rw [hv2, sI_at, q14]
  have hL : v2.2 = u.2 := by rw [hv2, hv1]; rfl
  refine ⟨?_, ?_, ⟨?_, ?_, Or.inl ⟨?_, ?_⟩⟩, hI.1.2.2.1.of (r 4 (by decide) (by decide)) (r 5 (by decide) (by decide)) (by rw [t14, up_ne _ _ (by decide)]) (r 16 (by decide) (by decide)), hI.1.2.2.2.of (fun j hj => r _ (by omega) (by omega)) (r 17 (by decide) (by decide)) (r 18 (by decide) (by decide)) (fun j _ => by rw [hL])⟩
  · rw [q14]
    rcases hI.1.2.1.2.2 with ⟨k1, k2⟩ | ⟨k1, k2, k3, k4⟩
    · rw [k1, k2]
    · rw [k1, k2]
  · unfold iM
    rw [r 0 (by decide) (by decide), r 11 (by decide) (by decide), r 6 (by decide) (by decide), r 15 (by decide) (by decide)]
    exact hI.1.1
  · rw [r 2 (by decide) (by decide)]; exact hI.1.2.1.1
  · rw [r 12 (by decide) (by decide)]; exact hI.1.2.1.2.1
  · rw [t3, up_at]
  · rw [t14, up_at]
/-! ===== sheets ===== -/
theorem iS.sz {u : Sg} (h : iS u) : ∀ j : Nat, j < 4 → ∃ z : Nat, z ≤ 40 ∧ u.1 (7 + j) 1 = nI z := fun j hj => by
  obtain ⟨_, ⟨z, h1, h2, _⟩, _⟩ := h j hj
  exact ⟨z, h1, h2⟩
theorem iS.sz2 {u v : Sg} (h : iS u) (e : v.1 18 = u.1 18) : ∀ j : Nat, j < 4 → ∃ z : Nat, z ≤ 40 ∧ v.1 18 j = nI z := fun j hj => by
  obtain ⟨_, ⟨z, h1, _, h2⟩, _⟩ := h j hj
  exact ⟨z, h1, by rw [e]; exact h2⟩
theorem iS.B {u v : Sg} (h : iS u) (e17 : v.1 17 = u.1 17) (e18 : v.1 18 = u.1 18) {j : Nat} (hj : j < 4) : moB v j 0 = shB u j 0 ∧ moB v j 1 = shB u j 1 := by
  obtain ⟨h0, ⟨z, _, h2, h3⟩, _⟩ := h j hj
  unfold moB shB
  refine ⟨?_, ?_⟩
  · show v.1 17 j = _; rw [e17, h0]
  · show v.1 18 j = _; rw [e18, h2, h3]
theorem in03 {s : Int32} (h : inI s 0 3 = true) : ∃ j : Nat, j < 4 ∧ s = nI j ∧ s.toNatClampNeg = j := by
  obtain ⟨j, _, h2, rfl⟩ := inI_nat h rfl rfl (na := 0) (nb := 3) (by decide) (by decide)
  exact ⟨j, by omega, rfl, nI_clamp (by omega)⟩
theorem mis_e {A B : Nat → Int32} (h : A 0 = B 0) : mis A = mis B := by unfold mis; rw [h]
theorem ff_there {u v : Sg} (h : iS u) (e17 : v.1 17 = u.1 17) (e18 : v.1 18 = u.1 18) (s : Int32) : f_there s (moB v) = f_there s (shB u) := by
  unfold f_there
  cases hs : inI s 0 3 with
  | false => rw [if_pos rfl, if_pos rfl]
  | true =>
    obtain ⟨j, hj, _, e⟩ := in03 hs
    rw [e, mis_e (h.B e17 e18 hj).1]
theorem ff_write {u v : Sg} (h : iS u) (e17 : v.1 17 = u.1 17) (e18 : v.1 18 = u.1 18) (s i : Int32) : f_write s i (moB v) = f_write s i (shB u) := by
  unfold f_write
  cases hs : inI s 0 3 with
  | false => rw [if_pos rfl, if_pos rfl]
  | true =>
    obtain ⟨j, hj, _, e⟩ := in03 hs
    rw [e, mis_e (h.B e17 e18 hj).1, (h.B e17 e18 hj).2]
theorem ff_copy {u v : Sg} (h : iS u) (e17 : v.1 17 = u.1 17) (e18 : v.1 18 = u.1 18) (s a t b n : Int32) : f_copy s a t b n (moB v) = f_copy s a t b n (shB u) := by
  unfold f_copy
  cases hs : inI s 0 3 with
  | false => rw [if_pos rfl, if_pos rfl]
  | true =>
    cases ht : inI t 0 3 with
    | false => rw [if_neg (by decide), if_pos rfl, if_neg (by decide), if_pos rfl]
    | true =>
      obtain ⟨j, hj, _, e⟩ := in03 hs
      obtain ⟨k, hk, _, e2⟩ := in03 ht
      rw [e, e2, mis_e (h.B e17 e18 hj).1, mis_e (h.B e17 e18 hk).1, (h.B e17 e18 hj).1, (h.B e17 e18 hk).1, (h.B e17 e18 hj).2, (h.B e17 e18 hk).2]
theorem ff_book {u v : Sg} (h : iS u) (e17 : v.1 17 = u.1 17) (e18 : v.1 18 = u.1 18) (s p : Int32) (M : Nat → Int32) : f_book s p (moB v) M = f_book s p (shB u) M := by
  unfold f_book
  cases hs : inI s 0 3 with
  | false => rw [if_pos rfl, if_pos rfl]
  | true =>
    obtain ⟨j, hj, _, e⟩ := in03 hs
    rw [e, mis_e (h.B e17 e18 hj).1]
theorem f_in {s : Int32} {x : Int32} (h : (if inI s 0 3 = false then (-1000000001 : Int32) else x) = 0) : inI s 0 3 = true := by
  cases hs : inI s 0 3 with
  | true => rfl
  | false => rw [hs, if_pos rfl] at h; exact absurd h (by decide)
/-- numbers of one sheet anew -/
theorem iS.num {u v : Sg} {s : Nat} {A B : Nat → Int64} (h : iS u) (hs : s < 4) (h7 : ∀ j, j < 4 → v.1 (7 + j) = u.1 (7 + j)) (h17 : v.1 17 = u.1 17) (h18 : v.1 18 = u.1 18) (hA : v.2 s = A) (hB : v.2 4 = B) (ho : ∀ j, j < 4 → j ≠ s → v.2 j = u.2 j)
    (hn : ∀ k, k < 40 → A k = B (40 * s + k)) (hm : ∀ j, j < 4 → j ≠ s → ∀ k, k < 40 → B (40 * j + k) = u.2 4 (40 * j + k)) : iS v := by
  intro j hj
  obtain ⟨a, b, c⟩ := h j hj
  rw [h7 j hj, h17, h18]
  refine ⟨a, b, fun k hk => ?_⟩
  by_cases e : j = s
  · subst e; rw [hA, hB]; exact hn k hk
  · rw [ho j hj e, hB, hm j hj e k hk]; exact c k hk
theorem Inv0.sh {u v : Sg} (h : Inv0 u) (hr : ∀ k, k < 17 → ¬ (7 ≤ k ∧ k < 11) → k ≠ 1 → k ≠ 13 → v.1 k = u.1 k) (hs : iS v) : Inv0 v := by
  refine ⟨?_, h.2.1.of (hr 2 (by decide) (by decide) (by decide) (by decide)) (hr 12 (by decide) (by decide) (by decide) (by decide)) (hr 3 (by decide) (by decide) (by decide) (by decide)) (by rw [hr 14 (by decide) (by decide) (by decide) (by decide)]), h.2.2.1.of (hr 4 (by decide) (by decide) (by decide) (by decide)) (hr 5 (by decide) (by decide) (by decide) (by decide)) (by rw [hr 14 (by decide) (by decide) (by decide) (by decide)]) (hr 16 (by decide) (by decide) (by decide) (by decide)), hs⟩
  unfold iM
  rw [hr 0 (by decide) (by decide) (by decide) (by decide), hr 11 (by decide) (by decide) (by decide) (by decide), hr 6 (by decide) (by decide) (by decide) (by decide), hr 15 (by decide) (by decide) (by decide) (by decide)]
  exact h.1
theorem inv_sheet {u v1 v2 : Sg} {s b n r1 r2 : Int32} (hI : Inv u) (hf : f_sheet s b n = 0)
    (e1 : r1 = rnB (u.1 (7 + s.toNatClampNeg)) b n 1 ∧ v1 = sL (sI u (7 + s.toNatClampNeg) (rnB (u.1 (7 + s.toNatClampNeg)) b n)) s.toNatClampNeg (zrN (u.2 s.toNatClampNeg) 40))
    (e2 : r2 = (if b = 0 then 0 else n) ∧ v2 = sL (sI (sI v1 17 (upd (v1.1 17) s.toNatClampNeg b)) 18 (upd (v1.1 18) s.toNatClampNeg (if b = 0 then 0 else n))) 4 (zrS (v1.2 4) s.toNatClampNeg 40)) : r1 = r2 ∧ Inv0 v2 := by
  obtain ⟨j, hj, _, e⟩ := in03 (f_in hf)
  rw [e] at e1 e2
  obtain ⟨rfl, hv1⟩ := e1
  obtain ⟨rfl, hv2⟩ := e2
  have hn : 0 ≤ n.toInt ∧ n.toInt ≤ 40 := by
    unfold f_sheet at hf
    split at hf
    · exact absurd hf (by decide)
    · split at hf
      · exact absurd hf (by decide)
      · split at hf
        · exact absurd hf (by decide)
        · split at hf
          · exact absurd hf (by decide)
          · rename_i q1 q2
            have q1' : ¬ n.toInt < 0 := fun z => q1 (ti_lt.mpr z)
            have q2' : ¬ (40 : Int) < n.toInt := fun z => q2 (ti_lt.mpr z)
            omega
  have er : rnB (u.1 (7 + j)) b n 1 = if b = 0 then 0 else n := by unfold rnB; rw [up_at]
  refine ⟨er, hI.1.sh (fun k a c d f => ?_) ?_⟩
  · rw [hv2, sL_1, sI_ne _ _ (by omega), sI_ne _ _ (by omega), hv1, sL_1, sI_ne _ _ (by omega)]
  · intro i hi
    obtain ⟨a, b2, c⟩ := hI.1.2.2.2 i hi
    have t7 : v2.1 (7 + i) = if i = j then rnB (u.1 (7 + j)) b n else u.1 (7 + i) := by
      rw [hv2, sL_1, sI_ne _ _ (by omega), sI_ne _ _ (by omega), hv1, sL_1]
      split
      · rename_i q; rw [q, sI_at]
      · rw [sI_ne _ _ (by omega)]
    have t17 : v2.1 17 = upd (u.1 17) j b := by rw [hv2, sL_1, sI_ne _ _ (by decide), sI_at, hv1, sL_1, sI_ne _ _ (by omega)]
    have t18 : v2.1 18 = upd (u.1 18) j (if b = 0 then 0 else n) := by rw [hv2, sL_1, sI_at, hv1, sL_1, sI_ne _ _ (by omega)]
    have l4 : v2.2 4 = zrS (u.2 4) j 40 := by rw [hv2, sL_at, hv1, sL_ne _ _ (by omega)]; rfl
    have li : v2.2 i = if i = j then zrN (u.2 j) 40 else u.2 i := by
      rw [hv2, sL_ne _ _ (by omega)]
      show v1.2 i = _
      rw [hv1]
      split
      · rename_i q; rw [q, sL_at]
      · rw [sL_ne _ _ (by omega)]; rfl
    rw [t7, t17, t18, l4, li]
    by_cases q : i = j
    · subst q
      rw [if_pos rfl, if_pos rfl, up_at, up_at]
      refine ⟨by unfold rnB; rw [up_ne _ _ (by decide), up_at], ?_, fun k hk => ?_⟩
      · rw [er]
        by_cases hb : b = 0
        · rw [if_pos hb]; exact ⟨0, by decide, nI_0.symm, nI_0.symm⟩
        · rw [if_neg hb]
          have hc := clamp_toInt hn.1
          exact ⟨n.toNatClampNeg, by omega, nI_back hn.1, nI_back hn.1⟩
      · unfold zrN zrS
        show (if k < 40 then _ else _) = (if _ then _ else _)
        rw [if_pos hk, if_pos (by omega)]
    · rw [if_neg q, if_neg q, up_ne _ _ q, up_ne _ _ q]
      refine ⟨a, b2, fun k hk => ?_⟩
      rw [c k hk]
      unfold zrS
      rw [if_neg (by omega)]
theorem inv_num {u v1 v2 : Sg} {s : Nat} {A B : Nat → Int64} (hI : Inv u) (hs : s < 4) (e1 : v1 = sL u s A) (e2 : v2 = sL v1 4 B) (hn : ∀ k, k < 40 → A k = B (40 * s + k)) (hm : ∀ j, j < 4 → j ≠ s → ∀ k, k < 40 → B (40 * j + k) = u.2 4 (40 * j + k)) : Inv0 v2 := by
  subst e2
  subst e1
  refine hI.1.sh (fun k _ _ _ _ => rfl) (hI.1.2.2.2.num hs (fun _ _ => rfl) rfl rfl (A := A) (B := B) ?_ (sL_at _ _ _) (fun j hj hne => ?_) hn hm)
  · rw [sL_ne _ _ (by omega), sL_at]
  · rw [sL_ne _ _ (by omega), sL_ne _ _ hne]
theorem inv_write {u v1 v2 : Sg} {s i : Int32} {x r1 r2 : Int64} (hI : Inv u) (hf : f_write s i (shB u) = 0)
    (e1 : r1 = u.2 s.toNatClampNeg i.toNatClampNeg ∧ v1 = sL u s.toNatClampNeg (vp_updL (u.2 s.toNatClampNeg) i.toNatClampNeg (cutL (u.1 (7 + s.toNatClampNeg) 0) x)))
    (e2 : r2 = v1.2 4 (40 * s.toNatClampNeg + i.toNatClampNeg) ∧ v2 = sL v1 4 (vp_updL (v1.2 4) (40 * s.toNatClampNeg + i.toNatClampNeg) (cutL (v1.1 17 s.toNatClampNeg) x))) : r1 = r2 ∧ Inv0 v2 := by
  have hs : inI s 0 3 = true := f_in hf
  obtain ⟨j, hj, _, e⟩ := in03 hs
  obtain ⟨a, ⟨z, hz, h7, h18⟩, c⟩ := hI.1.2.2.2 j hj
  have hi : ∃ q : Nat, q < z ∧ i = nI q := by
    unfold f_write at hf
    rw [hs, if_neg (by decide), e] at hf
    split at hf
    · exact absurd hf (by decide)
    · cases hq : inI i 0 (shB u j 1 - 1) with
      | false => rw [hq, if_pos rfl] at hf; exact absurd hf (by decide)
      | true => exact num_get h7 hz hq
  obtain ⟨q, hq, rfl⟩ := hi
  rw [e, nI_clamp (by omega)] at e1 e2
  obtain ⟨rfl, hv1⟩ := e1
  obtain ⟨rfl, hv2⟩ := e2
  have l4 : v1.2 4 = u.2 4 := by rw [hv1, sL_ne _ _ (by omega)]
  have l17 : v1.1 17 = u.1 17 := by rw [hv1]; rfl
  rw [l4, l17, ← a] at hv2
  refine ⟨by rw [l4]; exact c q (by omega), inv_num hI hj hv1 hv2 (fun k hk => ?_) (fun i hi hne k hk => ?_)⟩
  · unfold vp_updL
    show (if _ then _ else _) = (if _ then _ else _)
    by_cases w : k = q
    · rw [if_pos w, if_pos (by omega)]
    · rw [if_neg w, if_neg (by omega)]; exact c k hk
  · unfold vp_updL
    show (if _ then _ else _) = _
    rw [if_neg (by omega)]
theorem inv_copy {u v1 v2 : Sg} {s a t b n r1 r2 : Int32} (hI : Inv u) (hf : f_copy s a t b n (shB u) = 0)
    (e1 : r1 = n ∧ v1 = sL u t.toNatClampNeg (va_cpy (u.2 s.toNatClampNeg) (u.2 t.toNatClampNeg) a.toNatClampNeg b.toNatClampNeg n.toNatClampNeg))
    (e2 : r2 = n ∧ v2 = sL v1 4 (cpS (v1.2 4) (40 * s.toNatClampNeg + a.toNatClampNeg) (40 * t.toNatClampNeg + b.toNatClampNeg) n.toNatClampNeg)) : r1 = r2 ∧ Inv0 v2 := by
  obtain ⟨hs, ht, ha, hb⟩ := f_copy_ok hf
  obtain ⟨j, hj, _, es⟩ := in03 hs
  obtain ⟨k0, hk0, _, et⟩ := in03 ht
  rw [es] at ha
  rw [et] at hb
  obtain ⟨_, ⟨z1, hz1, h71, _⟩, c1⟩ := hI.1.2.2.2 j hj
  obtain ⟨_, ⟨z2, hz2, h72, _⟩, c2⟩ := hI.1.2.2.2 k0 hk0
  obtain ⟨a9, n9, rfl, rfl, hA⟩ := hasR_get h71 hz1 ha
  obtain ⟨b9, n8, rfl, hn8, hB⟩ := hasR_get h72 hz2 hb
  have hnn : n9 = n8 := (nI_eq (by omega) (by omega)).mp hn8
  subst hnn
  rw [es, et, nI_clamp (show a9 < 2 ^ 31 by omega), nI_clamp (show b9 < 2 ^ 31 by omega), nI_clamp (show n9 < 2 ^ 31 by omega)] at e1 e2
  obtain ⟨rfl, hv1⟩ := e1
  obtain ⟨rfl, hv2⟩ := e2
  have l4 : v1.2 4 = u.2 4 := by rw [hv1, sL_ne _ _ (by omega)]
  rw [l4] at hv2
  refine ⟨rfl, inv_num hI hk0 hv1 hv2 (fun k hk => ?_) (fun i hi hne k hk => ?_)⟩
  · unfold va_cpy cpS
    show (if _ then _ else _) = (if _ then _ else _)
    by_cases w : b9 ≤ k ∧ k < b9 + n9
    · rw [if_pos w, if_pos (by omega), c1 _ (by omega), show 40 * j + a9 + (40 * k0 + k - (40 * k0 + b9)) = 40 * j + (a9 + (k - b9)) by omega]
    · rw [if_neg w, if_neg (by omega)]; exact c2 k hk
  · unfold cpS
    show (if _ then _ else _) = _
    rw [if_neg (by omega)]
theorem laN_e {f g : Nat → Int64} {M : Nat → Int32} : ∀ n, (∀ k, k < n → f k = g k) → laN f M n = laN g M n := by
  intro n
  induction n with
  | zero => intro _; rfl
  | succ n ih =>
    intro h
    have e := ih (fun k hk => h k (by omega))
    show (if _ then _ else _) = (if _ then _ else _)
    rw [h n (by omega), e]
theorem WS_la {f : Nat → Int64} {M : Nat → Int32} (h : WS M) : ∀ n, n ≤ 8 → WS (laN f M n).1 := by
  intro n
  induction n with
  | zero => intro _; exact h
  | succ n ih =>
    intro hn
    have hq := ih (by omega)
    rw [laN]
    split
    · exact hq
    · split
      · exact hq
      · rename_i h1 h2
        have e1 : ¬ (f n).toInt < 0 := fun z => h1 (Int64.lt_iff_toInt_lt.mpr z)
        have e2 : ¬ (999 : Int) < (f n).toInt := fun z => h2 (Int64.lt_iff_toInt_lt.mpr z)
        have e3 : ((f n).toInt32).toInt = (f n).toInt := by
          rw [Int64.toInt_toInt32]; exact Int.bmod_eq_of_le (by omega) (by omega)
        exact hq.put (p := n) (w := 3) (by omega) (by decide) (by rw [e3]; omega) (by rw [e3]; show _ ≤ (999 : Int); omega)
theorem inv_lays {u v1 v2 : Sg} {s r1 r2 : Int32} (hI : Inv u) (hf : f_there s (shB u) = 0)
    (e1 : ∀ z : Nat, u.1 (7 + s.toNatClampNeg) 1 = nI z ∧ z < 2147483648 → r1 = (laN (u.2 s.toNatClampNeg) (u.1 0) (min z (nP (u.1 0)))).2 ∧ v1 = sI u 0 (laN (u.2 s.toNatClampNeg) (u.1 0) (min z (nP (u.1 0)))).1)
    (e2 : ∀ z : Nat, v1.1 18 s.toNatClampNeg = nI z ∧ z < 2147483648 → r2 = (laN (fun k => v1.2 4 (40 * s.toNatClampNeg + k)) (v1.1 11) (min z (nP (v1.1 11)))).2 ∧ v2 = sI v1 11 (laN (fun k => v1.2 4 (40 * s.toNatClampNeg + k)) (v1.1 11) (min z (nP (v1.1 11)))).1) : r1 = r2 ∧ Inv0 v2 := by
  obtain ⟨j, hj, _, e⟩ := in03 (f_in hf)
  obtain ⟨_, ⟨z, hz, h7, h18⟩, c⟩ := hI.1.2.2.2 j hj
  rw [e] at e1 e2
  obtain ⟨rfl, hv1⟩ := e1 z ⟨h7, by omega⟩
  have r18 : v1.1 18 = u.1 18 := by rw [hv1, sI_ne _ _ (by decide)]
  have r11 : v1.1 11 = u.1 0 := by rw [hv1, sI_ne _ _ (by decide), hI.1.1.1]
  have l4 : v1.2 4 = u.2 4 := by rw [hv1]; rfl
  obtain ⟨rfl, hv2⟩ := e2 z ⟨by rw [r18]; exact h18, by omega⟩
  rw [r11, l4] at hv2 ⊢
  have h8 := hI.1.1.2.1.1.n8
  have eq : laN (u.2 j) (u.1 0) (min z (nP (u.1 0))) = laN (fun k => u.2 4 (40 * j + k)) (u.1 0) (min z (nP (u.1 0))) := laN_e _ (fun k hk => c k (by omega))
  rw [eq] at hv1 ⊢
  refine ⟨rfl, hI.1.same ⟨?_, ?_, ?_⟩ (fun k a b c d f g => by rw [hv2, sI_ne _ _ d, hv1, sI_ne _ _ a]) (by rw [hv2, hv1]; rfl)⟩
  · rw [hv2, sI_ne _ _ (by decide), sI_at, hv1, sI_at]
  · rw [hv2, sI_ne _ _ (by decide), hv1, sI_at]; exact WS_la hI.1.1.2.1 _ (by omega)
  · rw [hv2, sI_ne _ _ (by decide), sI_ne _ _ (by decide), hv1, sI_ne _ _ (by decide), sI_ne _ _ (by decide)]; exact hI.1.1.2.2
theorem bk_e {f : Nat → Int64} {g : Nat → Int64} {M : Nat → Int32} {p j : Nat} {b : Int32} : ∀ n, n ≤ 40 → (∀ k, k < 40 → f k = g (40 * j + k)) → (∀ k, k < 40 → bkN f M p b n k = bkS g j M p b n (40 * j + k)) ∧ ∀ i, i < 4 → i ≠ j → ∀ k, k < 40 → bkS g j M p b n (40 * i + k) = g (40 * i + k) := by
  intro n
  induction n with
  | zero => intro _ h; exact ⟨h, fun _ _ _ _ _ => rfl⟩
  | succ n ih =>
    intro hn h
    obtain ⟨i1, i2⟩ := ih (by omega) h
    refine ⟨fun k hk => ?_, fun i hi hne k hk => ?_⟩
    · rw [bkN, bkS]
      unfold vp_updL
      by_cases w : k = n
      · rw [if_pos w, if_pos (by omega)]
      · rw [if_neg w, if_neg (by omega)]; exact i1 k hk
    · rw [bkS]
      unfold vp_updL
      rw [if_neg (by omega)]; exact i2 i hi hne k hk
theorem inv_book {u v1 v2 : Sg} {s p r1 r2 : Int32} (hI : Inv u) (hf : f_book s p (shB u) (u.1 0) = 0)
    (e1 : r1 = u.1 (7 + s.toNatClampNeg) 1 ∧ ∃ T2, Wf T2 ∧ ∀ z : Nat, u.1 (7 + s.toNatClampNeg) 1 = nI z ∧ z < 2147483648 → v1 = sL (sI u 1 T2) s.toNatClampNeg (bkN (u.2 s.toNatClampNeg) (u.1 0) p.toNatClampNeg (u.1 (7 + s.toNatClampNeg) 0) z))
    (e2 : r2 = v1.1 18 s.toNatClampNeg ∧ ∀ z : Nat, v1.1 18 s.toNatClampNeg = nI z ∧ z < 2147483648 → v2 = sL (sI v1 13 (v1.1 11)) 4 (bkS (v1.2 4) s.toNatClampNeg (v1.1 11) p.toNatClampNeg (v1.1 17 s.toNatClampNeg) z)) : r1 = r2 ∧ Inv0 v2 := by
  obtain ⟨j, hj, _, e⟩ := in03 (f_in hf)
  obtain ⟨h0, ⟨z, hz, h7, h18⟩, c⟩ := hI.1.2.2.2 j hj
  rw [e] at e1 e2
  obtain ⟨rfl, T2, hT2, q1⟩ := e1
  have hv1 := q1 z ⟨h7, by omega⟩
  have r : ∀ k, k ≠ 1 → v1.1 k = u.1 k := fun k hk => by rw [hv1, sL_1, sI_ne _ _ hk]
  have l4 : v1.2 4 = u.2 4 := by rw [hv1, sL_ne _ _ (by omega)]; rfl
  obtain ⟨rfl, q2⟩ := e2
  have hv2 := q2 z ⟨by rw [r 18 (by decide)]; exact h18, by omega⟩
  rw [l4, r 11 (by decide), r 17 (by decide), ← h0, ← hI.1.1.1] at hv2
  refine ⟨by rw [r 18 (by decide), h7, h18], hI.1.sh (fun k a b d f => by rw [hv2, sL_1, sI_ne _ _ f]; exact r k d) ?_⟩
  obtain ⟨b1, b2⟩ := bk_e (f := u.2 j) (g := u.2 4) (M := u.1 0) (p := p.toNatClampNeg) (j := j) (b := u.1 (7 + j) 0) z hz c
  refine hI.1.2.2.2.num hj (fun i hi => ?_) ?_ ?_ (A := bkN (u.2 j) (u.1 0) p.toNatClampNeg (u.1 (7 + j) 0) z) (B := bkS (u.2 4) j (u.1 0) p.toNatClampNeg (u.1 (7 + j) 0) z) ?_ ?_ (fun i hi hne => ?_) b1 b2
  · rw [hv2, sL_1, sI_ne _ _ (by omega)]; exact r _ (by omega)
  · rw [hv2, sL_1, sI_ne _ _ (by decide)]; exact r _ (by decide)
  · rw [hv2, sL_1, sI_ne _ _ (by decide)]; exact r _ (by decide)
  · rw [hv2, sL_ne _ _ (by omega)]; show v1.2 j = _; rw [hv1, sL_at]
  · rw [hv2, sL_at]
  · rw [hv2, sL_ne _ _ (by omega)]; show v1.2 i = _; rw [hv1, sL_ne _ _ hne]; rfl
theorem wl_e {f g : Nat → Int64} {M : Nat → Int32} {p : Nat} : ∀ n, (∀ k, k < n → f k = g k) → wlN f M p n = wlN g M p n := by
  intro n
  induction n with
  | zero => intro _; rfl
  | succ n ih =>
    intro h
    rw [wlN, wlN, ih (fun k hk => h k (by omega)), h n (by omega)]
theorem rd_e {f g : Nat → Int64} {M : Nat → Int32} {p z : Nat} (h : ∀ k, k < z → f k = g k) : ∀ n, rdN f M p z n = rdN g M p z n := by
  intro n
  induction n with
  | zero => rfl
  | succ n ih => rw [rdN, rdN, ih, wl_e z h]
theorem inv_read {u v1 v2 : Sg} {s p r1 r2 : Int32} (hI : Inv u) (hf : f_book s p (shB u) (u.1 0) = 0)
    (e1 : ∃ T2, (∀ k : Nat, 53 ≤ k → T2 k = 0) ∧ v1 = sI u 1 T2 ∧ ∀ z : Nat, u.1 (7 + s.toNatClampNeg) 1 = nI z ∧ z < 2147483648 → r1 = nI (rdN (u.2 s.toNatClampNeg) (u.1 0) p.toNatClampNeg z 60))
    (e2 : v2 = sI v1 13 (v1.1 11) ∧ ∀ z : Nat, v1.1 18 s.toNatClampNeg = nI z ∧ z < 2147483648 → r2 = nI (rdN (fun k => v1.2 4 (40 * s.toNatClampNeg + k)) (v1.1 11) p.toNatClampNeg z 60)) : r1 = r2 ∧ Inv0 v2 := by
  obtain ⟨j, hj, _, e⟩ := in03 (f_in hf)
  obtain ⟨h0, ⟨z, hz, h7, h18⟩, c⟩ := hI.1.2.2.2 j hj
  rw [e] at e1 e2
  obtain ⟨T2, hT2, hv1, q1⟩ := e1
  have r : ∀ k, k ≠ 1 → v1.1 k = u.1 k := fun k hk => by rw [hv1, sI_ne _ _ hk]
  have l : v1.2 = u.2 := by rw [hv1]; rfl
  obtain ⟨hv2, q2⟩ := e2
  have w1 := q1 z ⟨h7, by omega⟩
  have w2 := q2 z ⟨by rw [r 18 (by decide)]; exact h18, by omega⟩
  rw [l, r 11 (by decide), ← hI.1.1.1] at w2
  refine ⟨?_, hI.1.sh (fun k a b d f => by rw [hv2, sI_ne _ _ f]; exact r k d) (hI.1.2.2.2.of (fun i hi => ?_) ?_ ?_ (fun i _ => ?_))⟩
  · rw [w1, w2, rd_e (fun k hk => c k (by omega))]
  · rw [hv2, sI_ne _ _ (by omega)]; exact r _ (by omega)
  · rw [hv2, sI_ne _ _ (by decide)]; exact r _ (by decide)
  · rw [hv2, sI_ne _ _ (by decide)]; exact r _ (by decide)
  · rw [hv2]; show v1.2 i = _; rw [l]
/-! what a call of the class leaves alone -/
theorem PS.fr {u v : Sg} {F : Nat → Int32} {f : Int32} {ok : Int32 → Sg → Prop} {r : Int32} {k : Nat} (h : PS u 6 F f ok r v) (hk : k ≠ 6) (ho : f = 0 → ok r v → v.1 k = u.1 k) : v.1 k = u.1 k := by
  by_cases h0 : f = 0
  · exact ho h0 (h.1 h0)
  · rw [(h.2 h0).2, sI_ne _ _ hk]
theorem PSL.fr {u v : Sg} {F : Nat → Int32} {f : Int32} {ok : Int64 → Sg → Prop} {r : Int64} {k : Nat} (h : PSL u 6 F f ok r v) (hk : k ≠ 6) (ho : f = 0 → ok r v → v.1 k = u.1 k) : v.1 k = u.1 k := by
  by_cases h0 : f = 0
  · exact ho h0 (h.1 h0)
  · rw [(h.2 h0).2, sI_ne _ _ hk]
theorem fr_lays {u v1 : Sg} {s r1 : Int32} {k : Nat} (hI : Inv u) (hk : k ≠ 0) (hf : f_there s (shB u) = 0)
    (e1 : ∀ z : Nat, u.1 (7 + s.toNatClampNeg) 1 = nI z ∧ z < 2147483648 → r1 = (laN (u.2 s.toNatClampNeg) (u.1 0) (min z (nP (u.1 0)))).2 ∧ v1 = sI u 0 (laN (u.2 s.toNatClampNeg) (u.1 0) (min z (nP (u.1 0)))).1) : v1.1 k = u.1 k := by
  obtain ⟨j, hj, _, e⟩ := in03 (f_in hf)
  obtain ⟨_, ⟨z, hz, h7, h18⟩, c⟩ := hI.1.2.2.2 j hj
  rw [e] at e1
  rw [(e1 z ⟨h7, by omega⟩).2, sI_ne _ _ hk]
theorem fr_book {u v1 : Sg} {s p r1 : Int32} {k : Nat} (hI : Inv u) (hk : k ≠ 1) (hf : f_book s p (shB u) (u.1 0) = 0)
    (e1 : r1 = u.1 (7 + s.toNatClampNeg) 1 ∧ ∃ T2, Wf T2 ∧ ∀ z : Nat, u.1 (7 + s.toNatClampNeg) 1 = nI z ∧ z < 2147483648 → v1 = sL (sI u 1 T2) s.toNatClampNeg (bkN (u.2 s.toNatClampNeg) (u.1 0) p.toNatClampNeg (u.1 (7 + s.toNatClampNeg) 0) z)) : v1.1 k = u.1 k := by
  obtain ⟨j, hj, _, e⟩ := in03 (f_in hf)
  obtain ⟨_, ⟨z, hz, h7, h18⟩, c⟩ := hI.1.2.2.2 j hj
  rw [e] at e1
  obtain ⟨_, T2, _, q⟩ := e1
  rw [q z ⟨h7, by omega⟩, sL_1, sI_ne _ _ hk]
