/-! ===== what holds between two calls of the law ===== -/
def trn (T : Nat → Int32) : Nat → Int32 := fun k => if k < 53 then T k else 0
def tr2 (v : Sg) : Sg := sI (sI v 1 (trn (v.1 1))) 13 (trn (v.1 13))
theorem va_Pm {D : va_G} {cl : List vw_C} {ws : va_W} {H : Heap} : va_P D cl ws H ↔ ∀ q ∈ ws, va_at D cl q H := by
  constructor
  · intro h q hq
    obtain ⟨k, hk⟩ := List.mem_iff_getElem?.mp hq
    exact h k q hk
  · intro h k q hk
    exact h q (List.mem_of_getElem? hk)
theorem arrV_ext {cI : ClassId} {N : Nat} {f g : Nat → Value} (h : ∀ j, j < N → f j = g j) : arrV cI N f = arrV cI N g := by
  unfold arrV
  rw [show (fun j : Fin N => f j.val) = (fun j : Fin N => g j.val) from funext fun j => h j.val j.isLt]
theorem at_ext {D : va_G} {cl : List vw_C} {a : Nat} {cI : ClassId} {n : Nat} {f g : Nat → Int32} {H : Heap} (h : ∀ j, j < n → f j = g j) (ha : va_at D cl (a, .inl (cI, n, .inl f)) H) : va_at D cl (a, .inl (cI, n, .inl g)) H := by
  show H[a]? = some (vp_cell cI (n, .inl g))
  rw [vp_cell_i, ← arrV_ext (f := fun j => .int (f j)) (fun j hj => by rw [h j hj]), ← vp_cell_i]
  exact ha
theorem WP.trn1 {G : Geo} {v : Sg} {H : Heap} (h : WP G v H) : WP G (sI v 1 (trn (v.1 1))) H := by
  obtain ⟨A, B, hA, hc⟩ := cW_sc G v (i := 1) (by decide)
  have h0 : WP G (sI v 1 (v.1 1)) H := by rw [sI_self]; exact h
  unfold WP at h0 ⊢
  rw [hc] at h0 ⊢
  rw [va_Pm] at h0 ⊢
  have ek : ∀ k, k < 53 → trn (v.1 1) k = v.1 1 k := fun k hk => by unfold trn; rw [if_pos hk]
  intro q hq
  rcases List.mem_append.mp hq with q1 | q1
  · exact h0 q (List.mem_append.mpr (Or.inl q1))
  · rcases List.mem_append.mp q1 with q2 | q2
    · have hin : ∀ x ∈ cSc G 1 (v.1 1), va_at (gD G) vwCl x H := fun x hx => h0 x (List.mem_append.mpr (Or.inr (List.mem_append.mpr (Or.inl hx))))
      have hA2 : ∀ w, w < 6 → va_at (gD G) vwCl (cScA G 1 w (trn (v.1 1))) H := fun w hw =>
        at_ext (fun j hj => (ek _ (by omega)).symm) (hin (cScA G 1 w (v.1 1)) (List.mem_of_getElem? (cA_at G 1 (v.1 1) hw)))
      unfold cSc at q2
      simp only [List.mem_cons, List.not_mem_nil, or_false] at q2
      rcases q2 with rfl | rfl | rfl | rfl | rfl | rfl | rfl
      · have e : cScO G 1 (trn (v.1 1)) = cScO G 1 (v.1 1) := by
          unfold cScO
          rw [ek 0 (by decide), ek 1 (by decide), ek 2 (by decide), ek 3 (by decide), ek 4 (by decide)]
        rw [e]
        exact hin _ (List.mem_of_getElem? (i := 0) rfl)
      · exact hA2 0 (by decide)
      · exact hA2 1 (by decide)
      · exact hA2 2 (by decide)
      · exact hA2 3 (by decide)
      · exact hA2 4 (by decide)
      · exact hA2 5 (by decide)
    · exact h0 q (List.mem_append.mpr (Or.inr (List.mem_append.mpr (Or.inr q2))))
theorem ar_st37 (G : Geo) (v : Sg) (f : Nat → Int32) : cW G (sI v 13 f) = (cW G v).set 37 (cAr G 37 53 f) := rfl
theorem WP.trn13 {G : Geo} {v : Sg} {H : Heap} (h : WP G v H) : WP G (sI v 13 (trn (v.1 13))) H := by
  unfold WP at h ⊢
  rw [ar_st37, va_Pm]
  intro q hq
  rcases List.mem_or_eq_of_mem_set hq with q1 | rfl
  · exact va_Pm.mp h q q1
  · exact at_ext (fun j hj => by unfold trn; rw [if_pos hj]) (h 37 (cAr G 37 53 (v.1 13)) rfl)
theorem WP.tr2 {G : Geo} {v : Sg} {H : Heap} (h : WP G v H) : WP G (tr2 v) H := h.trn1.trn13
theorem tr2_ne {v : Sg} {k : Nat} (h1 : k ≠ 1) (h13 : k ≠ 13) : (tr2 v).1 k = v.1 k := by
  unfold tr2; rw [sI_ne _ _ h13, sI_ne _ _ h1]
def WS (M : Nat → Int32) : Prop := Wf M ∧ 0 ≤ (M 0).toInt ∧ (M 0).toInt ≤ 999999
def iM (u : Sg) : Prop := u.1 0 = u.1 11 ∧ WS (u.1 0) ∧ u.1 6 = u.1 15
def iK (u : Sg) : Prop := (∀ k : Nat, 53 ≤ k → u.1 2 k = 0) ∧ (∀ k : Nat, 53 ≤ k → u.1 12 k = 0) ∧ ((u.1 3 0 = 0 ∧ u.1 14 3 = 0) ∨ (u.1 3 0 = 1 ∧ u.1 14 3 = 1 ∧ u.1 2 = u.1 12 ∧ WS (u.1 2)))
def iL (u : Sg) : Prop := ∃ ln : Nat, ln ≤ 120 ∧ u.1 4 1 = nI ln ∧ u.1 14 6 = nI ln ∧ TpR ln (u.1 5) (u.1 16)
def iS (u : Sg) : Prop := ∀ j : Nat, j < 4 → u.1 (7 + j) 0 = u.1 17 j ∧ (∃ z : Nat, z ≤ 40 ∧ u.1 (7 + j) 1 = nI z ∧ u.1 18 j = nI z) ∧ ∀ k : Nat, k < 40 → u.2 j k = u.2 4 (40 * j + k)
def iT (u : Sg) : Prop := (∀ k : Nat, 53 ≤ k → u.1 1 k = 0) ∧ ∀ k : Nat, 53 ≤ k → u.1 13 k = 0
def Inv0 (u : Sg) : Prop := iM u ∧ iK u ∧ iL u ∧ iS u
def Inv (u : Sg) : Prop := Inv0 u ∧ iT u
theorem iS.of {u v : Sg} (h : iS u) (h7 : ∀ j, j < 4 → v.1 (7 + j) = u.1 (7 + j)) (h17 : v.1 17 = u.1 17) (h18 : v.1 18 = u.1 18) (h2 : ∀ j, j < 5 → v.2 j = u.2 j) : iS v := by
  intro j hj
  rw [h7 j hj, h17, h18, h2 j (by omega), h2 4 (by decide)]
  exact h j hj
theorem iK.of {u v : Sg} (h : iK u) (h2 : v.1 2 = u.1 2) (h12 : v.1 12 = u.1 12) (h3 : v.1 3 = u.1 3) (h14 : v.1 14 3 = u.1 14 3) : iK v := by
  unfold iK; rw [h2, h12, h3, h14]; exact h
theorem iL.of {u v : Sg} (h : iL u) (h4 : v.1 4 = u.1 4) (h5 : v.1 5 = u.1 5) (h14 : v.1 14 6 = u.1 14 6) (h16 : v.1 16 = u.1 16) : iL v := by
  unfold iL; rw [h4, h5, h14, h16]; exact h
theorem Inv0.same {u v : Sg} (h : Inv0 u) (hm : iM v) (hr : ∀ k, k ≠ 0 → k ≠ 1 → k ≠ 6 → k ≠ 11 → k ≠ 13 → k ≠ 15 → v.1 k = u.1 k) (h2 : v.2 = u.2) : Inv0 v := by
  have e : ∀ k, k = 2 ∨ k = 3 ∨ k = 4 ∨ k = 5 ∨ k = 12 ∨ k = 14 ∨ k = 16 ∨ k = 17 ∨ k = 18 → v.1 k = u.1 k := fun k hk => hr k (by omega) (by omega) (by omega) (by omega) (by omega) (by omega)
  exact ⟨hm, h.2.1.of (e 2 (by omega)) (e 12 (by omega)) (e 3 (by omega)) (by rw [e 14 (by omega)]), h.2.2.1.of (e 4 (by omega)) (e 5 (by omega)) (by rw [e 14 (by omega)]) (e 16 (by omega)),
    h.2.2.2.of (fun j hj => hr _ (by omega) (by omega) (by omega) (by omega) (by omega) (by omega)) (e 17 (by omega)) (e 18 (by omega)) (fun j _ => by rw [h2])⟩
theorem Inv0.tr {v : Sg} (h : Inv0 v) : Inv (tr2 v) := by
  refine ⟨⟨?_, h.2.1.of (tr2_ne (by decide) (by decide)) (tr2_ne (by decide) (by decide)) (tr2_ne (by decide) (by decide)) (by rw [tr2_ne (by decide) (by decide)]), h.2.2.1.of (tr2_ne (by decide) (by decide)) (tr2_ne (by decide) (by decide)) (by rw [tr2_ne (by decide) (by decide)]) (tr2_ne (by decide) (by decide)),
    h.2.2.2.of (fun j hj => tr2_ne (by omega) (by omega)) (tr2_ne (by decide) (by decide)) (tr2_ne (by decide) (by decide)) (fun _ _ => rfl)⟩, ?_, ?_⟩
  · unfold iM
    rw [tr2_ne (v := v) (k := 0) (by decide) (by decide), tr2_ne (v := v) (k := 11) (by decide) (by decide), tr2_ne (v := v) (k := 6) (by decide) (by decide), tr2_ne (v := v) (k := 15) (by decide) (by decide)]
    exact h.1
  · intro k hk
    unfold tr2
    rw [sI_ne _ _ (by decide), sI_at]
    unfold trn; rw [if_neg (by omega)]
  · intro k hk
    unfold tr2
    rw [sI_at]
    unfold trn; rw [if_neg (by omega)]
/-- calls told by three rows -/
theorem P3.fr {u v : Sg} {X : R3} {r : Int32} (h : P3 u 0 1 6 X r v) {k : Nat} (h0 : k ≠ 0) (h1 : k ≠ 1) (h6 : k ≠ 6) : v.1 k = u.1 k := by
  obtain ⟨_, T, rfl⟩ := h
  rw [sI_ne _ _ h6, sI_ne _ _ h1, sI_ne _ _ h0]
theorem P3.fr2 {u v : Sg} {a b c : Nat} {X : R3} {r : Int32} (h : P3 u a b c X r v) : v.2 = u.2 := by
  obtain ⟨_, T, rfl⟩ := h; rfl
theorem inv_P3 {u v1 v2 : Sg} {X : R3} {r1 r2 : Int32} (hI : Inv u) (h1 : P3 u 0 1 6 X r1 v1) (h2 : P3 v1 11 13 15 X r2 v2) (hW : WS X.2.1) : r1 = r2 ∧ Inv0 v2 := by
  have f1 : ∀ k, k ≠ 0 → k ≠ 1 → k ≠ 6 → v1.1 k = u.1 k := fun k a b c => h1.fr a b c
  have g1 := h1.fr2
  have g2 := h2.fr2
  obtain ⟨e1, T, hv1⟩ := h1
  obtain ⟨e2, T', rfl⟩ := h2
  have a0 : v1.1 0 = X.2.1 := by rw [hv1, sI_ne _ _ (by decide), sI_ne _ _ (by decide), sI_at]
  have a6 : v1.1 6 = X.2.2 := by rw [hv1, sI_at]
  refine ⟨e1.trans e2.symm, hI.1.same ?_ (fun k k0 k1 k6 k11 k13 k15 => ?_) (g2.trans g1)⟩
  · refine ⟨?_, ?_, ?_⟩
    · rw [sI_ne _ _ (by decide), sI_ne _ _ (by decide), sI_ne _ _ (by decide), a0, sI_ne _ _ (by decide), sI_ne _ _ (by decide), sI_at]
    · rw [sI_ne _ _ (by decide), sI_ne _ _ (by decide), sI_ne _ _ (by decide), a0]; exact hW
    · rw [sI_ne _ _ (by decide), sI_ne _ _ (by decide), sI_ne _ _ (by decide), a6, sI_at]
  · rw [sI_ne _ _ k15, sI_ne _ _ k13, sI_ne _ _ k11]; exact f1 k k0 k1 k6
/-- calls with a fault -/
theorem inv_PS {u v1 v2 : Sg} {F F2 : Nat → Int32} {f f2 : Int32} {ok1 ok2 : Int32 → Sg → Prop} {r1 r2 : Int32} (hI : Inv u) (hF : u.1 6 = F) (hF2 : v1.1 15 = F2) (hff : f2 = f) (h1 : PS u 6 F f ok1 r1 v1) (h2 : PS v1 15 F2 f2 ok2 r2 v2) (hok : f = 0 → ok1 r1 v1 → ok2 r2 v2 → r1 = r2 ∧ Inv0 v2) : r1 = r2 ∧ Inv0 v2 := by
  subst hff
  by_cases h0 : f2 = 0
  · exact hok h0 (h1.1 h0) (h2.1 h0)
  · obtain ⟨e1, e2⟩ := h1.2 h0
    obtain ⟨e3, e4⟩ := h2.2 h0
    refine ⟨e1.trans e3.symm, ?_⟩
    have q : F2 = F := by rw [← hF2, e2, sI_ne _ _ (by decide), ← hI.1.1.2.2, hF]
    subst q
    subst e4
    subst e2
    refine hI.1.same ⟨?_, ?_, ?_⟩ (fun k k0 k1 k6 k11 k13 k15 => by rw [sI_ne _ _ k15, sI_ne _ _ k6]) rfl
    · rw [sI_ne _ _ (by decide), sI_ne _ _ (by decide), sI_ne _ _ (by decide), sI_ne _ _ (by decide)]; exact hI.1.1.1
    · rw [sI_ne _ _ (by decide), sI_ne _ _ (by decide)]; exact hI.1.1.2.1
    · rw [sI_ne _ _ (by decide), sI_at, sI_at]
theorem inv_PSL {u v1 v2 : Sg} {F F2 : Nat → Int32} {f f2 : Int32} {ok1 ok2 : Int64 → Sg → Prop} {r1 r2 : Int64} (hI : Inv u) (hF : u.1 6 = F) (hF2 : v1.1 15 = F2) (hff : f2 = f) (h1 : PSL u 6 F f ok1 r1 v1) (h2 : PSL v1 15 F2 f2 ok2 r2 v2) (hok : f = 0 → ok1 r1 v1 → ok2 r2 v2 → r1 = r2 ∧ Inv0 v2) : r1 = r2 ∧ Inv0 v2 := by
  subst hff
  by_cases h0 : f2 = 0
  · exact hok h0 (h1.1 h0) (h2.1 h0)
  · obtain ⟨e1, e2⟩ := h1.2 h0
    obtain ⟨e3, e4⟩ := h2.2 h0
    refine ⟨e1.trans e3.symm, ?_⟩
    have q : F2 = F := by rw [← hF2, e2, sI_ne _ _ (by decide), ← hI.1.1.2.2, hF]
    subst q
    subst e4
    subst e2
    refine hI.1.same ⟨?_, ?_, ?_⟩ (fun k k0 k1 k6 k11 k13 k15 => by rw [sI_ne _ _ k15, sI_ne _ _ k6]) rfl
    · rw [sI_ne _ _ (by decide), sI_ne _ _ (by decide), sI_ne _ _ (by decide), sI_ne _ _ (by decide)]; exact hI.1.1.1
    · rw [sI_ne _ _ (by decide), sI_ne _ _ (by decide)]; exact hI.1.1.2.1
    · rw [sI_ne _ _ (by decide), sI_at, sI_at]
/-! ===== what a call keeps of a morning ===== -/
theorem WS.put {M : Nat → Int32} (h : WS M) {p w : Nat} (hp : p < 8) (hw : w < 6) {v : Int32} (h1 : 0 ≤ v.toInt) (h2 : v.toInt ≤ hiW w) : WS (upd M (5 + 6 * p + w) v) :=
  ⟨h.1.put hp hw h1 h2, by rw [up_ne _ _ (by omega)]; exact h.2⟩
theorem WS.put1 {M : Nat → Int32} (h : WS M) {v : Int32} (h1 : 0 ≤ v.toInt) (h2 : v.toInt ≤ 99) : WS (upd M 1 v) := ⟨h.1.put1 h1 h2, by rw [up_ne _ _ (by decide)]; exact h.2⟩
theorem WS.put2 {M : Nat → Int32} (h : WS M) {v : Int32} (h1 : 0 ≤ v.toInt) (h2 : v.toInt ≤ 60) : WS (upd M 2 v) := ⟨h.1.put2 h1 h2, by rw [up_ne _ _ (by decide)]; exact h.2⟩
theorem Wf.put4 {M : Nat → Int32} (h : Wf M) (hn : nP M < 8) : Wf (upd M 4 (nI (nP M + 1))) := by
  have hc := clamp_toInt h.2.2.2.2.2.1
  obtain ⟨a, b, c, d, e, f⟩ := h
  refine ⟨fun j hj => ?_, fun q x hq hx => ?_, ?_, ?_, ?_, ?_⟩
  · rw [up_ne _ _ (by omega)]; exact a j hj
  · rw [up_ne _ _ (by omega)]; exact b q x hq hx
  · rw [up_ne _ _ (by omega)]; exact c
  · rw [up_ne _ _ (by omega)]; exact d
  · rw [up_ne _ _ (by omega), up_at, ti_nI (by omega)]
    unfold nP
    rcases e with e | e
    · exact Or.inl ⟨e.1, by omega⟩
    · exact Or.inr e
  · rw [up_at, ti_nI (by omega)]; omega
theorem WS_ad {M : Nat → Int32} (h : WS M) (hn : nP M < 8) {k f : Int32} (hk : inI k 0 5 = true) (hf : inI f 0 999 = true) : WS (adC M (nP M) k f) := by
  obtain ⟨k1, k2⟩ := inI_t hk
  obtain ⟨f1, f2⟩ := inI_t hf
  have q := (((((h.put (p := nP M) (w := 0) hn (by decide) k1 k2).put (p := nP M) (w := 1) hn (by decide) (v := 1) (by decide) (by decide)).put (p := nP M) (w := 2) hn (by decide) (v := 0) (by decide) (by decide)).put (p := nP M) (w := 3) hn (by decide) f1 f2).put (p := nP M) (w := 4) hn (by decide) (v := 0) (by decide) (by decide)).put (p := nP M) (w := 5) hn (by decide) (v := 0) (by decide) (by decide)
  have e : nP (upd (upd (upd (upd (upd (upd M (5 + 6 * nP M + 0) k) (5 + 6 * nP M + 1) 1) (5 + 6 * nP M + 2) 0) (5 + 6 * nP M + 3) f) (5 + 6 * nP M + 4) 0) (5 + 6 * nP M + 5) 0) = nP M := by
    rw [nP_up (by omega), nP_up (by omega), nP_up (by omega), nP_up (by omega), nP_up (by omega), nP_up (by omega)]
  have z := q.1.put4 (by rw [e]; exact hn)
  rw [e] at z
  exact ⟨z, by unfold adC; rw [up_ne _ _ (by decide)]; exact q.2⟩
theorem ws_bey {M F : Nat → Int32} (h : WS M) : WS (bey M F).2.1 := h
theorem ws_door {M F : Nat → Int32} (h : WS M) (w v : Int32) : WS (X_door M F w v).2.1 := by
  unfold X_door
  split
  · split
    · rename_i q; obtain ⟨a, b⟩ := inI_t q; exact h.put1 a b
    · exact h
  · split
    · split
      · rename_i q; obtain ⟨a, b⟩ := inI_t q; exact h.put2 a b
      · exact h
    · exact h
theorem bool_t {b : Bool} (h : ¬ b = false) : b = true := by cases b with | false => exact absurd rfl h | true => rfl
theorem ws_person {M F : Nat → Int32} (h : WS M) (k f : Int32) : WS (X_person M F k f).2.1 := by
  unfold X_person
  split
  · exact h
  · split
    · exact h
    · split
      · exact h
      · rename_i h1 h2 h3
        exact WS_ad h (full_m h.1.n h.1.n8 (by cases q : fullB M with | false => rfl | true => exact absurd q h3)) (bool_t h1) (bool_t h2)
theorem pe_8 {M : Nat → Int32} (h : WS M) {p : Int32} (hp : ¬ isPe M p = false) : p.toNatClampNeg < 8 := by
  obtain ⟨q, h1, rfl⟩ := pe_get h.1 (bool_t hp)
  have := h.1.n8
  rw [nI_clamp (by omega)]; omega
theorem ws_set {M F : Nat → Int32} (h : WS M) (p w v : Int32) : WS (X_set M F p w v).2.1 := by
  unfold X_set
  by_cases hp : isPe M p = false
  · rw [if_pos hp]; exact h
  · rw [if_neg hp]
    have h8 := pe_8 h hp
    have key : ∀ (x : Nat) (b : Int32), x < 6 → b.toInt ≤ hiW x → WS ((if inI v 0 b = true then (M (5 + 6 * p.toNatClampNeg + x), upd M (5 + 6 * p.toNatClampNeg + x) v, F) else bey M F) : R3).2.1 := by
      intro x b hx hb
      split
      · rename_i q; obtain ⟨a1, a2⟩ := inI_t q; exact h.put h8 hx a1 (by omega)
      · exact h
    split
    · exact key 1 1 (by decide) (by decide)
    · split
      · exact key 2 9 (by decide) (by decide)
      · split
        · exact key 3 999 (by decide) (by decide)
        · split
          · exact key 4 1 (by decide) (by decide)
          · split
            · exact key 5 999 (by decide) (by decide)
            · exact h
theorem ws_turn {M F : Nat → Int32} (h : WS M) (p k : Int32) : WS (X_turn M F p k).2.1 := by
  unfold X_turn
  split
  · exact h
  · rename_i hp
    split
    · exact h
    · rename_i hk
      obtain ⟨a, b⟩ := inI_t (bool_t hk)
      exact h.put (pe_8 h hp) (by decide) a b
theorem ws_seconds {M F : Nat → Int32} (h : WS M) (n : Int32) : WS (X_seconds M F n).2.1 := by
  unfold X_seconds
  split
  · exact h
  · rename_i hn
    obtain ⟨j, h1, h2, rfl⟩ := inI_nat (bool_t hn) rfl rfl (na := 1) (nb := 200) (by decide) (by decide)
    split
    · exact h
    · rename_i hs
      rw [nI_clamp (by omega)]
      refine ⟨Wf_goN h.1 j, ?_⟩
      have e : (M 0 + nI j).toInt = (M 0).toInt + j := by
        rw [ti_add (by rw [ti_nI (by omega)]; have := h.2.1; omega) (by rw [ti_nI (by omega)]; have := h.2.2; omega), ti_nI (by omega)]
      have hs2 : ¬ (999999 : Int) < (M 0 + nI j).toInt := fun q => hs (ti_lt.mpr q)
      have h21 := h.2.1
      show 0 ≤ (goN M j 0).toInt ∧ (goN M j 0).toInt ≤ 999999
      unfold goN
      rw [up_at]
      omega
theorem k_now (M F : Nat → Int32) (a : Int32) : (X_now M F a).2.1 = M := by unfold X_now bey; (repeat' split) <;> rfl
theorem k_of (M F : Nat → Int32) (a b : Int32) : (X_of M F a b).2.1 = M := by unfold X_of bey; (repeat' split) <;> rfl
theorem k_as (M F : Nat → Int32) (a b : Int32) : (X_as M F a b).2.1 = M := by unfold X_as bey; (repeat' split) <;> rfl
theorem k_holds (M F : Nat → Int32) (a b : Int32) : (X_holds M F a b).2.1 = M := by unfold X_holds bey; (repeat' split) <;> rfl
theorem k_asks (M F : Nat → Int32) (a b : Int32) : (X_asks M F a b).2.1 = M := by unfold X_asks bey; (repeat' split) <;> rfl
theorem k_on (M F : Nat → Int32) (a b c : Int32) : (X_on M F a b c).2.1 = M := by unfold X_on bey; (repeat' split) <;> rfl
theorem k_loose (M F : Nat → Int32) (a : Int32) : (X_loose M F a).2.1 = M := by unfold X_loose bey; (repeat' split) <;> rfl
theorem k_orN (M F : Nat → Int32) (a : Int32) : (orN a M F).2.1 = M := by unfold orN none3; split <;> rfl
theorem k_comes (M F : Nat → Int32) (a : Int32) : (X_comes M F a).2.1 = M := by unfold X_comes bey; split <;> first | rfl | exact k_orN _ _ _
theorem k_shuts (M F : Nat → Int32) : (X_shuts M F).2.1 = M := by unfold X_shuts; exact k_orN _ _ _
theorem k_all (M F : Nat → Int32) : (X_all M F).2.1 = M := by unfold X_all; exact k_orN _ _ _
theorem k_care (M F : Nat → Int32) (a : Int32) : (X_care M F a).2.1 = M := by unfold X_care bey; split <;> first | rfl | exact k_orN _ _ _
theorem k_kind (M F : Nat → Int32) (a b : Int32) : (X_kind M F a b).2.1 = M := by unfold X_kind bey; (repeat' split) <;> rfl
theorem k_far (M F : Nat → Int32) (a b : Int32) : (X_far M F a b).2.1 = M := by
  unfold X_far bey; split
  · rfl
  · split
    · rfl
    · exact k_orN _ _ _
theorem k_load (M F : Nat → Int32) (a b : Int32) : (X_load M F a b).2.1 = M := by
  unfold X_load bey; split
  · rfl
  · split
    · rfl
    · exact k_orN _ _ _
theorem k_order (M F : Nat → Int32) (a : Int32) : (X_order M F a).2.1 = M := by unfold X_order bey; split <;> first | rfl | exact k_orN _ _ _
theorem k_take (M F : Nat → Int32) (a : Int32) : (X_take M F a).2.1 = M := by unfold X_take bey; split <;> first | rfl | exact k_orN _ _ _
theorem k_count (M F : Nat → Int32) (a b : Int32) : (X_count M F a b).2.1 = M := by unfold X_count bey; (repeat' split) <;> rfl
theorem k_status (M F : Nat → Int32) (a : Int32) : (X_status M F a).2.1 = M := by unfold X_status bey; (repeat' split) <;> rfl
theorem WS.k {M N : Nat → Int32} (h : WS M) (e : N = M) : WS N := e ▸ h
