/-! ===== the law's start: classes, constants ===== -/
theorem law_K {b : Nat} {s : State} (hts : ∀ w ∈ lw_tbl, w.before #[Value.ref b] s = true) : ∃ (D : va_G) (g : Nat → ClassId), va_K D vwCl (gTy g) s ∧ va_AO "HeldDoor$Sheet" s := by
  obtain ⟨e0, i0, k0⟩ := u_known (C := RX1) (T := TX1) (N := 11) (n := 11) hts wsF_in_1 (hts (.instantiable RX1 11) (by decide +kernel))
  obtain ⟨e1, i1, k1⟩ := u_known (C := RX2) (T := TX2) (N := 3) (n := 3) hts wsF_in_2 (hts (.instantiable RX2 3) (by decide +kernel))
  obtain ⟨e2, i2, k2⟩ := u_known (C := RX3) (T := TX3) (N := 6) (n := 6) hts wsF_in_3 (hts (.instantiable RX3 6) (by decide +kernel))
  obtain ⟨e3, i3, k3⟩ := u_known (C := RX4) (T := TX4) (N := 7) (n := 7) hts wsF_in_4 (hts (.instantiable RX4 7) (by decide +kernel))
  obtain ⟨e4, i4, k4⟩ := u_known (C := RX5) (T := TX5) (N := 15) (n := 15) hts wsF_in_5 (hts (.instantiable RX5 15) (by decide +kernel))
  obtain ⟨c0, a0, p0, f0, g0, h0⟩ := Cond.arrayClass_spec (hts (.arrayClass .int) (by decide +kernel))
  obtain ⟨c1, a1, p1, f1, g1, h1⟩ := Cond.arrayClass_spec (hts (.arrayClass .long) (by decide +kernel))
  obtain ⟨c2, a2, p2, f2, g2, h2⟩ := Cond.arrayClass_spec (hts (.arrayClass .byte) (by decide +kernel))
  have hao : (Cond.arrayOver (.object "HeldDoor$Sheet")).before #[Value.ref b] s = true := hts (.arrayOver (.object "HeldDoor$Sheet")) (by decide +kernel)
  obtain ⟨p3, c3, a3, f3, _, g3, h3, j3⟩ := Cond.arrayOver_spec hao
  refine ⟨(fun k => if k = 0 then e0 else if k = 1 then e1 else if k = 2 then e2 else if k = 3 then e3 else e4, fun k => if k = 0 then i0 else if k = 1 then i1 else if k = 2 then i2 else if k = 3 then i3 else i4), fun k => if k = 0 then c0 else if k = 1 then c1 else if k = 2 then c2 else c3, ⟨fun k q hq => ?_, fun k q hq => ?_⟩, va_AO.of hao⟩
  · match k, hq with
    | 0, hq => cases hq; exact k0
    | 1, hq => cases hq; exact k1
    | 2, hq => cases hq; exact k2
    | 3, hq => cases hq; exact k3
    | 4, hq => cases hq; exact k4
    | k + 5, hq => simp [vwCl] at hq
  · match k, hq with
    | 0, hq => cases hq; exact ⟨fun n z => ⟨fun k h => (by cases h), a0, g0, p0, h0⟩, f0⟩
    | 1, hq => cases hq; exact ⟨fun n z => ⟨fun k h => (by cases h), a1, g1, p1, h1⟩, f1⟩
    | 2, hq => cases hq; exact ⟨fun n z => ⟨fun k h => (by cases h), a2, g2, p2, h2⟩, f2⟩
    | 3, hq => cases hq; exact ⟨fun n z => ⟨fun k h => (by cases h), a3, g3, p3, h3⟩, a3, p3, g3, h3, f3, j3⟩
    | k + 4, hq => simp [gTy] at hq
def sTm (i : Nat) : Term := .string (sOwn i) (sIdx i)
def nTm : Term := .static "HeldDoorModel" "NAMES" "[I"
theorem lg_ex : ∀ i : Fin 10, (Cond.exactly (sTm i.val) "java/lang/String") ∈ flatC (Jvm.Cond.and given_1 narrow_1) := by decide +kernel
theorem lg_co : ∀ i : Fin 10, (Cond.eq (.field (sTm i.val) "java/lang/String" "coder" "B") (.int 0)) ∈ flatC (Jvm.Cond.and given_1 narrow_1) := by decide +kernel
theorem lg_ar : ∀ i : Fin 10, (Cond.arrayOf (.field (sTm i.val) "java/lang/String" "value" "[B") .byte) ∈ flatC (Jvm.Cond.and given_1 narrow_1) := by decide +kernel
theorem lg_le : ∀ i : Fin 10, (Cond.eq (.length (.field (sTm i.val) "java/lang/String" "value" "[B")) (.int (Int32.ofNat (sLen.getD i.val 0)))) ∈ flatC (Jvm.Cond.and given_1 narrow_1) := by decide +kernel
theorem lg_el : ∀ (i : Fin 10) (j : Fin 8), j.val < sLen.getD i.val 0 → (Cond.eq (.elem (.field (sTm i.val) "java/lang/String" "value" "[B") (.int (Int32.ofNat j.val))) (.int ((sByt.getD i.val []).getD j.val 0))) ∈ flatC (Jvm.Cond.and given_1 narrow_1) := by decide +kernel
theorem lg_ne : ∀ i j : Fin 10, i ≠ j → (Cond.not (Cond.eq (sTm i.val) (sTm j.val))) ∈ flatC (Jvm.Cond.and given_1 narrow_1) ∨ (Cond.not (Cond.eq (sTm j.val) (sTm i.val))) ∈ flatC (Jvm.Cond.and given_1 narrow_1) := by decide +kernel
theorem lg_nm : ∀ j : Fin 80, (Cond.eq (.elem nTm (.int (Int32.ofNat j.val))) (.int (nmB j.val))) ∈ flatC (Jvm.Cond.and given_1 narrow_1) := by decide +kernel
theorem lgw_st : ∀ i : Fin 10, (Cond.stringRef (sOwn i.val) (sIdx i.val) (sTx i.val)) ∈ lw_tbl := by decide +kernel
theorem law_E {b : Nat} {s : State} {D : va_G} {g : Nat → ClassId} (hts : ∀ w ∈ lw_tbl, w.before #[Value.ref b] s = true) (hgv : (Jvm.Cond.and given_1 narrow_1).before #[Value.ref b] s = true) (hK : va_K D vwCl (gTy g) s) :
    ∃ (kK kV : Nat → Nat) (nN : Nat), ∀ ad : Nat → Nat, (∀ i j : Nat, i < 43 → j < 43 → ad i = ad j → i = j) → (∀ i : Nat, i < 43 → s.heap.size ≤ ad i) → E0 (D, ad, s.heap.size, g, kK, kV, nN) s s.heap := by
  have hs := flat_of_before _ hgv
  have hA : ∀ a : Nat, a < s.heap.size → ¬ (fun q : Nat => s.heap.size ≤ q) a := fun a h => Nat.not_le.mpr h
  obtain ⟨kK, kV, hS, hev⟩ := vk_Sof (args := #[Value.ref b]) (s := s) (N := 10) (tm := sTm) (len := sLen) (byt := sByt) (A := fun q : Nat => s.heap.size ≤ q)
    (fun i hi => by have := sLen_le hi; omega) (fun i hi => hs _ (lg_ex ⟨i, hi⟩)) (fun i hi => hs _ (lg_co ⟨i, hi⟩)) (fun i hi => hs _ (lg_ar ⟨i, hi⟩)) (fun i hi => hs _ (lg_le ⟨i, hi⟩))
    (fun i hi j hj => hs _ (lg_el ⟨i, hi⟩ ⟨j, by have := sLen_le hi; omega⟩ hj))
    (fun i j hi hj hne => (lg_ne ⟨i, hi⟩ ⟨j, hj⟩ (fun q => hne (congrArg Fin.val q))).imp (fun h => hs _ h) (fun h => hs _ h)) hA
  obtain ⟨nN, hn, hT⟩ := va_Tof (args := #[Value.ref b]) (s := s) (tm := nTm) (ty := .int) (N := 80) (f := fun j => .int (nmB j)) (A := fun q : Nat => s.heap.size ≤ q) (by decide) (hs (.arrayOf nTm .int) (by decide +kernel)) (va_eqt (hs (.eq (.length nTm) (.int 80)) (by decide +kernel)))
    (fun j hj => va_eqt (hs _ (lg_nm ⟨j, hj⟩))) hA
  refine ⟨kK, kV, nN, fun ad h1 h2 => ⟨hK, ⟨h1, h2⟩, ⟨hS, fun i hi => vk_R.of (A := #[Value.ref b]) (hts _ (lgw_st ⟨i, hi⟩)) (hev i hi)⟩, ?_, ?_, hT, ?_⟩⟩
  · exact va_Zof (args := #[Value.ref b]) (hts (.laysStatic "java/lang/String" "COMPACT_STRINGS" "Z") (by decide +kernel)) (hts (.initialized "java/lang/String") (by decide +kernel)) (va_eqi (hs (.eq (.static "java/lang/String" "COMPACT_STRINGS" "Z") (.int 1)) (by decide +kernel))) hA
  · exact va_Zref (args := #[Value.ref b]) (hts (.laysStatic "HeldDoorModel" "NAMES" "[I") (by decide +kernel)) (hts (.initialized "HeldDoorModel") (by decide +kernel)) hn hA
  · exact va_Zqof (args := #[Value.ref b]) (hts (.laysStatic "jdk/internal/util/Preconditions" "SIOOBE_FORMATTER" "Ljava/util/function/BiFunction;") (by decide +kernel)) (hts (.initialized "jdk/internal/util/Preconditions") (by decide +kernel)) (hs (.isRef (.static "jdk/internal/util/Preconditions" "SIOOBE_FORMATTER" "Ljava/util/function/BiFunction;")) (by decide +kernel)) hA
/-! ===== the state of fresh objects ===== -/
def M0 : Nat → Int32 := upd (upd (fun _ => 0) 1 20) 3 (-1)
def u0 : Sg := (fun k => if k = 0 then M0 else if k = 1 then M0 else if k = 2 then M0 else if k = 11 then M0 else fun _ => 0, fun _ _ => 0)
theorem M0_5 {k : Nat} (h : 4 < k) : M0 k = 0 := by
  unfold M0; rw [up_ne _ _ (by omega), up_ne _ _ (by omega)]
theorem M0_WS : WS M0 := by
  refine ⟨⟨fun j hj => M0_5 (by omega), fun p w hp hw => ?_, ⟨by decide, by decide⟩, ⟨by decide, by decide⟩, Or.inr (by decide), ⟨by decide, by decide⟩⟩, by decide, by decide⟩
  rw [M0_5 (by omega)]
  refine ⟨by decide, ?_⟩
  rcases (show w = 0 ∨ w = 1 ∨ w = 2 ∨ w = 3 ∨ w = 4 ∨ w = 5 by omega) with rfl | rfl | rfl | rfl | rfl | rfl <;> decide
theorem u0_Inv : Inv u0 := by
  refine ⟨⟨⟨rfl, M0_WS, rfl⟩, ⟨fun k hk => M0_5 (by omega), fun k hk => rfl, Or.inl ⟨rfl, rfl⟩⟩, ⟨0, by decide, rfl, rfl, fun k hk => absurd hk (Nat.not_lt_zero _)⟩, fun j hj => ?_⟩, fun k hk => M0_5 (by omega), fun k hk => rfl⟩
  have e : u0.1 (7 + j) = fun _ => 0 := by
    show (if 7 + j = 0 then M0 else if 7 + j = 1 then M0 else if 7 + j = 2 then M0 else if 7 + j = 11 then M0 else fun _ => 0) = _
    rw [if_neg (by omega), if_neg (by omega), if_neg (by omega), if_neg (by omega)]
  rw [e]
  exact ⟨rfl, ⟨0, by decide, rfl, rfl⟩, fun k hk => rfl⟩
theorem cSc_0 (G : Geo) (i : Nat) : cSc G i M0 = scW (gc G 0) (gS G i) (fun w => gSA G i w) := by
  have h : ∀ w, cScA G i w M0 = (gSA G i w, .inl (gc G 0, 8, .inl (fun _ => 0))) := fun w => by
    unfold cScA
    rw [show (fun p => M0 (5 + 6 * p + w)) = fun _ => 0 from funext fun p => M0_5 (by omega)]
  unfold cSc scW
  rw [h 0, h 1, h 2, h 3, h 4, h 5]
  rfl
theorem at_extq {D : va_G} {cl : List vw_C} {a : Nat} {cI : ClassId} {n : Nat} {f g : Nat → Option Nat} {H : Heap} (h : ∀ j, j < n → f j = g j) (ha : va_at D cl (a, .inl (cI, n, .inr (.inr (.inr (.inr f))))) H) : va_at D cl (a, .inl (cI, n, .inr (.inr (.inr (.inr g))))) H := by
  have ha' : H[a]? = some (arrV cI n (fun j => va_rf (f j))) := ha
  show H[a]? = some (arrV cI n (fun j => va_rf (g j)))
  rw [← arrV_ext (f := fun j => va_rf (f j)) (fun j hj => by rw [h j hj])]
  exact ha'
def adL (ad : Nat → Nat) (h2 : Nat) (q : Nat → Nat) : Nat → Nat := fun k => if k < 34 then ad k else if k = 34 then h2 else q (k - 35)
theorem ad_fst (g : Nat → ClassId) (ad : Nat → Nat) (h2 : Nat) (q : Nat → Nat) : (doW g ad ++ moW g h2 q).map Prod.fst = (List.range 43).map (adL ad h2 q) := rfl
theorem cW_0 (D : va_G) (ad : Nat → Nat) (h2 : Nat) (q : Nat → Nat) (z : Nat) (g : Nat → ClassId) (kK kV : Nat → Nat) (nN : Nat) : cW (D, adL ad h2 q, z, g, kK, kV, nN) u0 = (doW g ad ++ moW g h2 q).set 24 (cSs (D, adL ad h2 q, z, g, kK, kV, nN)) := by
  unfold cW
  rw [show u0.1 0 = M0 from rfl, show u0.1 1 = M0 from rfl, show u0.1 2 = M0 from rfl, cSc_0, cSc_0, cSc_0]
  rfl
theorem WP_0 {D : va_G} {ad : Nat → Nat} {h2 : Nat} {q : Nat → Nat} {z : Nat} {g : Nat → ClassId} {kK kV : Nat → Nat} {nN : Nat} {H : Heap} (h : va_P D vwCl (doW g ad ++ moW g h2 q) H) : WP (D, adL ad h2 q, z, g, kK, kV, nN) u0 H := by
  unfold WP
  rw [cW_0, va_Pm]
  intro x hx
  rcases List.mem_or_eq_of_mem_set hx with q1 | rfl
  · exact va_Pm.mp h x q1
  · refine at_extq (f := va_up (va_up (va_up (va_up (fun _ => none) 0 (some (ad 26))) 1 (some (ad 28))) 2 (some (ad 30))) 3 (some (ad 32))) (fun j hj => ?_) (h 24 _ rfl)
    rcases (show j = 0 ∨ j = 1 ∨ j = 2 ∨ j = 3 by omega) with rfl | rfl | rfl | rfl <;> rfl
theorem ad_inj {A : Nat → Prop} {g : Nat → ClassId} {ad : Nat → Nat} {h2 : Nat} {q : Nat → Nat} (h : va_D A (doW g ad ++ moW g h2 q)) : (∀ i j : Nat, i < 43 → j < 43 → adL ad h2 q i = adL ad h2 q j → i = j) ∧ ∀ i : Nat, i < 43 → A (adL ad h2 q i) := by
  have key : ∀ i, i < 43 → ∃ x, (doW g ad ++ moW g h2 q)[i]? = some x ∧ x.1 = adL ad h2 q i := by
    intro i hi
    have h1 : ((doW g ad ++ moW g h2 q).map Prod.fst)[i]? = some (adL ad h2 q i) := by
      rw [ad_fst, List.getElem?_map, List.getElem?_range hi]; rfl
    rw [List.getElem?_map] at h1
    cases hx : (doW g ad ++ moW g h2 q)[i]? with
    | none => rw [hx] at h1; cases h1
    | some x => rw [hx] at h1; exact ⟨x, rfl, Option.some.inj h1⟩
  refine ⟨fun i j hi hj e => ?_, fun i hi => ?_⟩
  · obtain ⟨x, x1, x2⟩ := key i hi
    obtain ⟨y, y1, y2⟩ := key j hj
    exact h.1 i j x y x1 y1 (x2.trans (e.trans y2.symm))
  · obtain ⟨x, x1, x2⟩ := key i hi
    rw [← x2]; exact h.2 i x x1
