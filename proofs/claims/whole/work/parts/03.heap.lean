/-! ===== reads and writes of the state's cells ===== -/
def scF (G : Geo) (i : Nat) (M : Nat → Int32) : List Value := [.int (M 0), .int (M 1), .int (M 2), .int (M 3), .int (M 4), .ref (gSA G i 0), .ref (gSA G i 1), .ref (gSA G i 2), .ref (gSA G i 3), .ref (gSA G i 4), .ref (gSA G i 5)]
def doF (G : Geo) (f : Nat → Int32) : List Value := [.ref (gS G 0), .ref (gS G 1), .ref (gS G 2), .int (f 0), .ref (gad G 22), .ref (gad G 24), .ref (gad G 25)]
def txF (G : Geo) (f : Nat → Int32) : List Value := [.ref (gad G 23), .int (f 1), .int (f 2), .int (f 3), .int (f 4), .int (f 5)]
def shF (G : Geo) (i : Nat) (f : Nat → Int32) : List Value := [.int (f 0), .int (f 1), .ref (gHN G i)]
def moF (G : Geo) (f : Nat → Int32) : List Value := [.ref (gad G 35), .ref (gad G 36), .ref (gad G 37), .int (f 3), .ref (gad G 38), .ref (gad G 39), .int (f 6), .int (f 7), .int (f 8), .int (f 9), .int (f 10), .int (f 11), .ref (gad G 40), .ref (gad G 41), .ref (gad G 42)]
def cTl (G : Geo) (u : Sg) : va_W := [cTx G (u.1 4), cTp G (u.1 5), cSs G, cFi G (u.1 6), cShO G 0 (u.1 7), cShN G 0 (u.2 0), cShO G 1 (u.1 8), cShN G 1 (u.2 1), cShO G 2 (u.1 9), cShN G 2 (u.2 2), cShO G 3 (u.1 10), cShN G 3 (u.2 3),
    cMo G (u.1 14), cAr G 35 53 (u.1 11), cAr G 36 53 (u.1 12), cAr G 37 53 (u.1 13), cAr G 38 7 (u.1 15), cAr G 39 120 (u.1 16), cAr G 40 4 (u.1 17), cAr G 41 4 (u.1 18), cCe G (u.2 4)]
theorem cW_sc (G : Geo) (u : Sg) {i : Nat} (hi : i < 3) : ∃ A B : va_W, A.length = 1 + 7 * i ∧ ∀ f, cW G (sI u i f) = A ++ (cSc G i f ++ B) := by
  match i, hi with
  | 0, _ => exact ⟨[cDo G (u.1 3)], cSc G 1 (u.1 1) ++ (cSc G 2 (u.1 2) ++ cTl G u), rfl, fun f => rfl⟩
  | 1, _ => exact ⟨cDo G (u.1 3) :: cSc G 0 (u.1 0), cSc G 2 (u.1 2) ++ cTl G u, rfl, fun f => rfl⟩
  | 2, _ => exact ⟨cDo G (u.1 3) :: (cSc G 0 (u.1 0) ++ cSc G 1 (u.1 1)), cTl G u, rfl, fun f => rfl⟩
theorem at_sc {A S B : va_W} {n k : Nat} {x : Nat × va_E} (hn : A.length = n) (h : S[k]? = some x) : (A ++ (S ++ B))[n + k]? = some x := by
  have hk := (List.getElem?_eq_some_iff.mp h).1
  subst hn
  rw [List.getElem?_append_right (by omega), Nat.add_sub_cancel_left, List.getElem?_append_left hk]
  exact h
theorem set_sc {A S B : va_W} {n k : Nat} {x : Nat × va_E} (hn : A.length = n) (hk : k < S.length) : (A ++ (S ++ B)).set (n + k) x = A ++ (S.set k x ++ B) := by
  subst hn
  rw [List.set_append_right _ _ (by omega), Nat.add_sub_cancel_left, List.set_append_left _ _ hk]
theorem cSc_put (G : Geo) (i : Nat) (M : Nat → Int32) {k : Nat} (hk : k < 5) (v : Int32) : (cSc G i M).set 0 (gS G i, .inr (0, (scF G i M).set k (.int v))) = cSc G i (upd M k v) := by
  have h : ∀ w : Nat, cScA G i w (upd M k v) = cScA G i w M := fun w => by
    unfold cScA
    rw [show (fun p => upd M k v (5 + 6 * p + w)) = (fun p => M (5 + 6 * p + w)) from funext fun p => by simp only [upd]; rw [if_neg (by omega)]]
  unfold cSc
  rw [h 0, h 1, h 2, h 3, h 4, h 5]
  match k, hk with
  | 0, _ => rfl
  | 1, _ => rfl
  | 2, _ => rfl
  | 3, _ => rfl
  | 4, _ => rfl
theorem cSc_ast (G : Geo) (i : Nat) (M : Nat → Int32) {w : Nat} (hw : w < 6) (p : Nat) (v : Int32) : (cSc G i M).set (1 + w) (gSA G i w, .inl (gc G 0, 8, .inl (upd (fun p => M (5 + 6 * p + w)) p v))) = cSc G i (upd M (5 + 6 * p + w) v) := by
  have h : ∀ w' : Nat, w' < 6 → w' ≠ w → cScA G i w' (upd M (5 + 6 * p + w) v) = cScA G i w' M := fun w' h1 h2 => by
    unfold cScA
    rw [show (fun q => upd M (5 + 6 * p + w) v (5 + 6 * q + w')) = (fun q => M (5 + 6 * q + w')) from funext fun q => by simp only [upd]; rw [if_neg (by omega)]]
  have h0 : cScA G i w (upd M (5 + 6 * p + w) v) = (gSA G i w, .inl (gc G 0, 8, .inl (upd (fun p => M (5 + 6 * p + w)) p v))) := by
    unfold cScA
    rw [show (fun q => upd M (5 + 6 * p + w) v (5 + 6 * q + w)) = upd (fun p => M (5 + 6 * p + w)) p v from funext fun q => by
      simp only [upd]
      by_cases hq : q = p
      · rw [hq, if_pos rfl, if_pos rfl]
      · rw [if_neg (by omega), if_neg hq]]
  have hO : cScO G i (upd M (5 + 6 * p + w) v) = cScO G i M := by
    have hk : ∀ k : Nat, k < 5 → upd M (5 + 6 * p + w) v k = M k := fun k hk => by simp only [upd]; rw [if_neg (by omega)]
    unfold cScO
    rw [hk 0 (by decide), hk 1 (by decide), hk 2 (by decide), hk 3 (by decide), hk 4 (by decide)]
  rw [← h0]
  unfold cSc
  rw [hO]
  match w, hw with
  | 0, _ => rw [h 1 (by decide) (by decide), h 2 (by decide) (by decide), h 3 (by decide) (by decide), h 4 (by decide) (by decide), h 5 (by decide) (by decide)]; rfl
  | 1, _ => rw [h 0 (by decide) (by decide), h 2 (by decide) (by decide), h 3 (by decide) (by decide), h 4 (by decide) (by decide), h 5 (by decide) (by decide)]; rfl
  | 2, _ => rw [h 1 (by decide) (by decide), h 0 (by decide) (by decide), h 3 (by decide) (by decide), h 4 (by decide) (by decide), h 5 (by decide) (by decide)]; rfl
  | 3, _ => rw [h 1 (by decide) (by decide), h 2 (by decide) (by decide), h 0 (by decide) (by decide), h 4 (by decide) (by decide), h 5 (by decide) (by decide)]; rfl
  | 4, _ => rw [h 1 (by decide) (by decide), h 2 (by decide) (by decide), h 3 (by decide) (by decide), h 0 (by decide) (by decide), h 5 (by decide) (by decide)]; rfl
  | 5, _ => rw [h 1 (by decide) (by decide), h 2 (by decide) (by decide), h 3 (by decide) (by decide), h 4 (by decide) (by decide), h 0 (by decide) (by decide)]; rfl
theorem TX1_own {k : Nat} (hk : k < 11) : (TX1 k).1 = RX1 := by
  match k, hk with
  | 0, _ => rfl
  | 1, _ => rfl
  | 2, _ => rfl
  | 3, _ => rfl
  | 4, _ => rfl
  | 5, _ => rfl
  | 6, _ => rfl
  | 7, _ => rfl
  | 8, _ => rfl
  | 9, _ => rfl
  | 10, _ => rfl
theorem WP.sc {G : Geo} {u : Sg} {H : Heap} (h : WP G u H) {i : Nat} {M : Nat → Int32} (hM : u.1 i = M) {A B : va_W} (hc : ∀ f, cW G (sI u i f) = A ++ (cSc G i f ++ B)) : va_P (gD G) vwCl (A ++ (cSc G i M ++ B)) H := by
  rw [← hc M, sI_id hM]
  exact h
theorem E0.Dc {G : Geo} {U : State} {H : Heap} (h : E0 G U H) {u : Sg} {i : Nat} {M : Nat → Int32} {A B : va_W} (hc : ∀ f, cW G (sI u i f) = A ++ (cSc G i f ++ B)) : va_D (gA G) (A ++ (cSc G i M ++ B)) := by
  rw [← hc M]
  exact h.D _
theorem cA_at (G : Geo) (i : Nat) (M : Nat → Int32) {w : Nat} (hw : w < 6) : (cSc G i M)[1 + w]? = some (cScA G i w M) := by
  match w, hw with
  | 0, _ => rfl
  | 1, _ => rfl
  | 2, _ => rfl
  | 3, _ => rfl
  | 4, _ => rfl
  | 5, _ => rfl
theorem nI_c {j n : Nat} (h : j < n) (hn : n ≤ 200) : vp_in (nI j) n ∧ (nI j).toNatClampNeg = j := ⟨vp_in_nI h (by omega), nI_clamp (by omega)⟩
section HDH
variable {p : Program} {l : Launch} {e : Env} {R : Room} {s : State} {m : MethodId} {args : Array Value} {below : List Frame} {meth : Method} {c : Code} {H : Heap} {locs : List Loc} {Q : State → Prop}
variable {cc : ByteArray} {pc index nc ns : Nat} {ls : Array Slot} {rest : List Value} {G : Geo} {u : Sg} {own : String} {Ts : List Cond}
theorem sc_get (hx : p.tables.exec = Jvm.exec) (hb : c.code = cc) (hts : ∀ w ∈ Ts, w.before args s = true) (hin : ∀ w ∈ wsX10, w ∈ Ts) (hown : s.vm.findClass own = some m.cls) (hE : E0 G s s.heap) (hP : WP G u H) {i : Nat} (hi : i < 3) {M : Nat → Int32} (hM : u.1 i = M) (k : Nat) (hk : k < 11) (hlink : (Cond.fieldLink own index RX1 (TX1 k).2.1 (TX1 k).2.2.1).before args s = true) {v : Value} (hv : (scF G i M)[k]? = some v) (hdg : decode cc pc = .ok (.getfield index, 3))
    (kk : W p l e R s m args below meth c H locs nc ns Q (F0 m (pc + 3) ls (v :: rest))) : W p l e R s m args below meth c H locs nc ns Q (F0 m pc ls (.ref (gS G i) :: rest)) := by
  obtain ⟨A, B, hA, hc⟩ := cW_sc G u hi
  exact va_get (C := RX1) (T := TX1) (N := 11) (ci := 0) hx hb hts hin hown hE.1 (hP.sc hM hc) (1 + 7 * i + 0) (at_sc hA rfl) rfl k hk hlink (fun x h => by rw [TX1_own hk] at h; exact h) hv hdg kk
theorem sc_put (hx : p.tables.exec = Jvm.exec) (hb : c.code = cc) (hts : ∀ w ∈ Ts, w.before args s = true) (hin : ∀ w ∈ wsX10, w ∈ Ts) (hown : s.vm.findClass own = some m.cls) (hE : E0 G s s.heap) (hP : WP G u H) (hS : va_S (gA G) s.heap H locs) {i : Nat} (hi : i < 3) {M : Nat → Int32} (hM : u.1 i = M) (k : Nat) (hk : k < 5) (hlink : (Cond.fieldLink own index RX1 (TX1 k).2.1 (TX1 k).2.2.1).before args s = true) {v : Int32} {u' : Sg} (hu : sI u i (upd M k v) = u') (hdg : decode cc pc = .ok (.putfield index, 3))
    (kk : ∀ (H1 : Heap) (locs1 : List Loc), WP G u' H1 → va_S (gA G) s.heap H1 locs1 → W p l e R s m args below meth c H1 locs1 nc ns Q (F0 m (pc + 3) ls rest)) : W p l e R s m args below meth c H locs nc ns Q (F0 m pc ls (.int v :: .ref (gS G i) :: rest)) := by
  obtain ⟨A, B, hA, hc⟩ := cW_sc G u hi
  refine va_put (C := RX1) (T := TX1) (N := 11) (ci := 0) (ty := .int) (fs := scF G i M) hx hb hts hin tyX1 tyX1_ok nmX1 hown hE.1 (hP.sc hM hc) (hE.Dc hc) hS (1 + 7 * i + 0) (at_sc hA rfl) rfl k (by omega) hlink (fun x h => by rw [TX1_own (by omega)] at h; exact h) ?_ ?_ rfl rfl (Nat.lt_of_lt_of_le hk (show 5 ≤ (scF G i M).length from Nat.le_of_ble_eq_true rfl)) hdg (fun H1 locs1 hP1 _ hS1 => kk H1 locs1 ?_ hS1)
  · match k, hk with
    | 0, _ => rfl
    | 1, _ => rfl
    | 2, _ => rfl
    | 3, _ => rfl
    | 4, _ => rfl
  · match k, hk with
    | 0, _ => exact tyX1_ok 0 (by decide)
    | 1, _ => exact tyX1_ok 1 (by decide)
    | 2, _ => exact tyX1_ok 2 (by decide)
    | 3, _ => exact tyX1_ok 3 (by decide)
    | 4, _ => exact tyX1_ok 4 (by decide)
  · rw [set_sc hA (show 0 < (cSc G i M).length from Nat.zero_lt_succ _), cSc_put G i M hk v, ← hc] at hP1
    rw [← hu]
    exact hP1
theorem sc_ald (hx : p.tables.exec = Jvm.exec) (hb : c.code = cc) (hE : E0 G s s.heap) (hP : WP G u H) {i : Nat} (hi : i < 3) {M : Nat → Int32} (hM : u.1 i = M) (w : Nat) (hw : w < 6) (j : Nat) (hj : j < 8) (hdg : decode cc pc = .ok (.iaload, 1))
    (kk : W p l e R s m args below meth c H locs nc ns Q (F0 m (pc + 1) ls (.int (M (5 + 6 * j + w)) :: rest))) : W p l e R s m args below meth c H locs nc ns Q (F0 m pc ls (.int (nI j) :: .ref (gSA G i w) :: rest)) := by
  obtain ⟨A, B, hA, hc⟩ := cW_sc G u hi
  obtain ⟨h1, h2⟩ := nI_c hj (by decide)
  refine va_iald hx hb hE.1 (hP.sc hM hc) (1 + 7 * i + (1 + w)) 0 (at_sc hA (cA_at G i M hw)) rfl h1 hdg ?_
  rw [h2]
  exact kk
theorem sc_ast (hx : p.tables.exec = Jvm.exec) (hb : c.code = cc) (hE : E0 G s s.heap) (hP : WP G u H) (hS : va_S (gA G) s.heap H locs) {i : Nat} (hi : i < 3) {M : Nat → Int32} (hM : u.1 i = M) (w : Nat) (hw : w < 6) (j : Nat) (hj : j < 8) {v : Int32} {u' : Sg} (hu : sI u i (upd M (5 + 6 * j + w) v) = u') (hdg : decode cc pc = .ok (.iastore, 1))
    (kk : ∀ (H1 : Heap) (locs1 : List Loc), WP G u' H1 → va_S (gA G) s.heap H1 locs1 → W p l e R s m args below meth c H1 locs1 nc ns Q (F0 m (pc + 1) ls rest)) : W p l e R s m args below meth c H locs nc ns Q (F0 m pc ls (.int v :: .int (nI j) :: .ref (gSA G i w) :: rest)) := by
  obtain ⟨A, B, hA, hc⟩ := cW_sc G u hi
  obtain ⟨h1, h2⟩ := nI_c hj (by decide)
  refine va_iast hx hb hE.1 (hP.sc hM hc) (hE.Dc hc) hS (1 + 7 * i + (1 + w)) 0 (at_sc hA (cA_at G i M hw)) rfl h1 hdg (fun H1 locs1 hP1 _ hS1 => kk H1 locs1 ?_ hS1)
  rw [h2, set_sc hA (show 1 + w < (cSc G i M).length from by show 1 + w < 7; omega), cSc_ast G i M hw j v, ← hc] at hP1
  rw [← hu]
  exact hP1
/-- the receiver of a call -/
theorem sc_recv (hE : E0 G s s.heap) (hP : WP G u H) {i : Nat} (hi : i < 3) : ∃ cellB : Cell, H[gS G i]? = some cellB ∧ cellB.vm.isStatics = false ∧ s.vm.findClass RX1 = some cellB.cls := by
  obtain ⟨A, B, hA, hc⟩ := cW_sc G u hi
  exact va_recv hE.1 (hP.sc rfl hc) (ci := 0) (q0 := 1 + 7 * i + 0) rfl (at_sc hA rfl)
end HDH
