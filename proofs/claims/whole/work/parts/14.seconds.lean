set_option maxHeartbeats 4000000 in
set_option maxRecDepth 100000 in
/-- Scene.walkAll -/
theorem c_X1_walkAll (l : Launch) (G : Geo) (u : Sg) (i : Nat) (hi : i < 3) (M : Nat → Int32) (hM : Wf M) : CtV l G yX1_walkAll wsX1_walkAll (rmO 3 65) [.ref (gS G i)] (sI u i M) (fun v => v = sI u i (wkN M (opn M) (nP M))) := by
  refine CtV.of (cc := cX1_walkAll) (maxL := 2) (ret := none) (own := RX1) (by decide) rfl rfl ?_
  rintro pg ev s0 mm below meth cd ⟨hx, hb, hr, hml, hown, hts, hlocks⟩ hE hP ls hl
  have hS : va_S (gA G) s0.heap s0.heap [] := va_S.rf
  have hl : lv_has ls 2 [(0, .ref (gS G i))] := hl
  have hin1 : ∀ w ∈ wsX10, w ∈ wsX1_walkAll := by decide +kernel
  have hn := hM.n
  have h8 := hM.n8
  refine lv_iconst (v := 0) hx hb dX1_walkAll_0 (by decide) ?_
  refine lv_istore_n (lv' := [(1, .int 0), (0, .ref (gS G i))]) hx hb dX1_walkAll_1 rfl hl (by decide) rfl (fun ls hl => ?_)
  have J2 : ∀ (fu : Nat) (p : Nat) (N : Nat → Int32) (hp : p ≤ nP M) (hN : N = wkN M (opn M) p) (hrk : nP M - p < fu) (H : Heap) (locs : List Loc) (ls : Array Slot), WP G (sI u i N) H → va_S (gA G) s0.heap H locs → lv_has ls 2 [(0, .ref (gS G i)), (1, .int (nI p))] → W pg l ev (headSpec wsX1_walkAll (rmO 3 65)).room s0 mm ([.ref (gS G i)] : List Value).toArray below meth cd H locs 0 0 (MQ below (va_Qv (fun v => v = sI u i (wkN M (opn M) (nP M))) (fun v t => WP G v t.heap) (gA G)) ([.ref (gS G i)] : List Value).toArray s0 0 0 (gA G)) (F0 mm 2 ls []) := by
    intro fu
    induction fu with
    | zero => intro p N hp hN hrk; exact absurd hrk (Nat.not_lt_zero _)
    | succ fu ih2 =>
      intro p N hp hN hrk H locs ls hP hS hl
      refine lv_iload_n hx hb dX1_walkAll_2 rfl (lv_at hl 1 rfl) ?_
      refine lv_aload_n hx hb dX1_walkAll_3 rfl (lv_at hl 0 rfl) ?_
      refine sc_get hx hb hts hin1 hown hE hP hi (sI_at _ _ _) 4 (by decide) (hts (.fieldLink RX1 24 "HeldDoor$Scene" "people" "I") (by decide +kernel)) (v := .int (N 4)) rfl dX1_walkAll_4 ?_
      refine lv_cast (show N 4 = nI (nP M) by rw [hN, wkN_low (by decide)]; exact hn) ?_
      refine nn_ge (a := p) (b := nP M) (by omega) (by omega) (tgt := 47) hx hb dX1_walkAll_7 (by decide) (fun c_1 => ?_) (fun c_1 => ?_)
      · skip
        exact hd_vret hx hb hr hlocks hP hS (by rw [hN, show p = nP M by omega]) dX1_walkAll_47
      · skip
        refine lv_aload_n hx hb dX1_walkAll_10 rfl (lv_at hl 0 rfl) ?_
        refine sc_get hx hb hts hin1 hown hE hP hi (sI_at _ _ _) 9 (by decide) (hts (.fieldLink RX1 40 "HeldDoor$Scene" "in" "[I") (by decide +kernel)) (v := .ref (gSA G i 4)) rfl dX1_walkAll_11 ?_
        refine lv_iload_n hx hb dX1_walkAll_14 rfl (lv_at hl 1 rfl) ?_
        refine sc_ald hx hb hE hP hi (sI_at _ _ _) 4 (by decide) p (by omega) dX1_walkAll_15 ?_
        refine lv_if_ne (tgt := 41) hx hb dX1_walkAll_16 (by decide) (fun c_2 => ?_) (fun c_2 => ?_)
        · skip
          refine lv_iinc (v := nI (p + 1)) (lv' := [(1, .int (nI (p + 1))), (0, .ref (gS G i))]) hx hb dX1_walkAll_41 hl (k := 1) rfl (inc1 _) (by decide) rfl (fun ls hl => ?_)
          refine lv_goto (tgt := 2) hx hb dX1_walkAll_44 (by decide) ?_
          exact ih2 (p + 1) N (by omega) (by rw [wkN, wk1, if_neg (by rw [← hN]; exact c_2)]; exact hN) (by omega) _ _ _ hP hS (lv_sub hl [1, 0] rfl)
        · skip
          refine lv_aload_n hx hb dX1_walkAll_19 rfl (lv_at hl 0 rfl) ?_
          refine sc_get hx hb hts hin1 hown hE hP hi (sI_at _ _ _) 8 (by decide) (hts (.fieldLink RX1 37 "HeldDoor$Scene" "feet" "[I") (by decide +kernel)) (v := .ref (gSA G i 3)) rfl dX1_walkAll_20 ?_
          refine lv_iload_n hx hb dX1_walkAll_23 rfl (lv_at hl 1 rfl) ?_
          refine lv_aload_n hx hb dX1_walkAll_24 rfl (lv_at hl 0 rfl) ?_
          refine sc_get hx hb hts hin1 hown hE hP hi (sI_at _ _ _) 8 (by decide) (hts (.fieldLink RX1 37 "HeldDoor$Scene" "feet" "[I") (by decide +kernel)) (v := .ref (gSA G i 3)) rfl dX1_walkAll_25 ?_
          refine lv_iload_n hx hb dX1_walkAll_28 rfl (lv_at hl 1 rfl) ?_
          refine sc_ald hx hb hE hP hi (sI_at _ _ _) 3 (by decide) p (by omega) dX1_walkAll_29 ?_
          refine lv_aload_n hx hb dX1_walkAll_30 rfl (lv_at hl 0 rfl) ?_
          refine lv_iload_n hx hb dX1_walkAll_31 rfl (lv_at hl 1 rfl) ?_
          refine hd_callVi (As := [.int (nI p)]) (rest := [.int (N (5 + 6 * p + 3)), .int (nI p), .ref (gSA G i 3)]) ⟨hx, hb, hml, hown, hts⟩ hE hP hS (c_X1_goesNow l G u i hi N p (by omega)) rfl (cwV 1 hts gX1_walkAll_X1_goesNow rfl rfl rfl (by decide +kernel) ⟨Nat.le_of_ble_eq_true rfl, Nat.le_of_ble_eq_true rfl⟩) (sc_recv hE hP hi) rfl hl.1 rfl (Nat.le_of_ble_eq_true rfl) dX1_walkAll_32 (fun rq_3 vq_3 H locs q_3 hP hS => ?_)
          have hP := hP.cast (q_3.2)
          refine lv_cast q_3.1 ?_
          refine lv_isub hx hb dX1_walkAll_35 ?_
          refine lv_iconst (v := 0) hx hb dX1_walkAll_36 (by decide) ?_
          refine va_mmax hx hb (hml.trans hl.1.symm) hown (hts (.methodLink RX1 93 Lib.Math.max.name) (by decide +kernel)) (hts (.static Lib.Math.max.name) (by decide +kernel)) (hts (.initialized "java/lang/Math") (by decide +kernel)) (hts (.code Lib.Math.max.name Lib.Math.max.code 2 (some .int)) (by decide +kernel)) (Nat.le_of_ble_eq_true rfl) (Nat.le_of_ble_eq_true rfl) (Nat.zero_le _) (Nat.zero_le _) dX1_walkAll_37 ?_
          refine sc_ast hx hb hE hP hS hi (sI_at _ _ _) 3 (by decide) p (by omega) (sI_sI _ _ _ _) dX1_walkAll_40 (fun H locs hP hS => ?_)
          refine lv_iinc (v := nI (p + 1)) (lv' := [(1, .int (nI (p + 1))), (0, .ref (gS G i))]) hx hb dX1_walkAll_41 hl (k := 1) rfl (inc1 _) (by decide) rfl (fun ls hl => ?_)
          refine lv_goto (tgt := 2) hx hb dX1_walkAll_44 (by decide) ?_
          exact ih2 (p + 1) (upd N (5 + 6 * p + 3) (if (N (5 + 6 * p + 3)) - (gB N p (opn N)) < 0 then 0 else (N (5 + 6 * p + 3)) - (gB N p (opn N)))) (by omega) (by rw [wkN, wk1, ← hN, if_pos c_2, show opn N = opn M by rw [hN, opn_wkN]]) (by omega) _ _ _ hP hS (lv_sub hl [1, 0] rfl)
  exact J2 _ 0 M (Nat.zero_le _) rfl (Nat.lt_succ_self _) _ _ _ hP hS (lv_sub hl [1, 0] rfl)
set_option maxHeartbeats 4000000 in
set_option maxRecDepth 100000 in
/-- Scene.isAskedByHolder -/
theorem c_X1_isAskedByHolder (l : Launch) (G : Geo) (u : Sg) (i : Nat) (hi : i < 3) (M : Nat → Int32) (hM : Wf M) (p : Nat) (hp : p < nP M) : CtI l G yX1_isAskedByHolder wsX1_isAskedByHolder (rmO 2 44) [.ref (gS G i), .int (nI p)] (sI u i M) (fun r v => r = bI (aB M p) ∧ v = sI u i M) := by
  refine CtI.of (cc := cX1_isAskedByHolder) (maxL := 2) (ret := (some .boolean)) (own := RX1) (by decide) rfl rfl ?_
  rintro pg ev s0 mm below meth cd ⟨hx, hb, hr, hml, hown, hts, hlocks⟩ hE hP ls hl
  have hS : va_S (gA G) s0.heap s0.heap [] := va_S.rf
  have hl : lv_has ls 2 [(0, .ref (gS G i)), (1, .int (nI p))] := hl
  have hin1 : ∀ w ∈ wsX10, w ∈ wsX1_isAskedByHolder := by decide +kernel
  have hn := hM.n
  have h8 := hM.n8
  refine lv_aload_n hx hb dX1_isAskedByHolder_0 rfl (lv_at hl 0 rfl) ?_
  refine sc_get hx hb hts hin1 hown hE hP hi (sI_at _ _ _) 3 (by decide) (hts (.fieldLink RX1 21 "HeldDoor$Scene" "by" "I") (by decide +kernel)) (v := .int (M 3)) rfl dX1_isAskedByHolder_1 ?_
  refine lv_if_lt (tgt := 34) hx hb dX1_isAskedByHolder_4 (by decide) (fun c_1 => ?_) (fun c_1 => ?_)
  · skip
    refine lv_iconst (v := 0) hx hb dX1_isAskedByHolder_34 (by decide) ?_
    exact hd_zret hx hb hr hlocks hP hS ⟨(by rw [aB, if_pos c_1]; rfl), rfl⟩ rfl dX1_isAskedByHolder_35
  · skip
    obtain ⟨b, hb1, hb2⟩ := by_get hM c_1
    refine lv_aload_n hx hb dX1_isAskedByHolder_7 rfl (lv_at hl 0 rfl) ?_
    refine sc_get hx hb hts hin1 hown hE hP hi (sI_at _ _ _) 3 (by decide) (hts (.fieldLink RX1 21 "HeldDoor$Scene" "by" "I") (by decide +kernel)) (v := .int (M 3)) rfl dX1_isAskedByHolder_8 ?_
    refine lv_cast hb2 ?_
    refine lv_aload_n hx hb dX1_isAskedByHolder_11 rfl (lv_at hl 0 rfl) ?_
    refine sc_get hx hb hts hin1 hown hE hP hi (sI_at _ _ _) 4 (by decide) (hts (.fieldLink RX1 24 "HeldDoor$Scene" "people" "I") (by decide +kernel)) (v := .int (M 4)) rfl dX1_isAskedByHolder_12 ?_
    refine lv_cast hn ?_
    refine nn_ge (a := b) (b := nP M) (by omega) (by omega) (tgt := 34) hx hb dX1_isAskedByHolder_15 (by decide) (fun c_2 => absurd c_2 (by omega)) (fun c_2 => ?_)
    refine lv_aload_n hx hb dX1_isAskedByHolder_18 rfl (lv_at hl 0 rfl) ?_
    refine lv_aload_n hx hb dX1_isAskedByHolder_19 rfl (lv_at hl 0 rfl) ?_
    refine sc_get hx hb hts hin1 hown hE hP hi (sI_at _ _ _) 3 (by decide) (hts (.fieldLink RX1 21 "HeldDoor$Scene" "by" "I") (by decide +kernel)) (v := .int (M 3)) rfl dX1_isAskedByHolder_20 ?_
    refine lv_cast hb2 ?_
    refine lv_iload_n hx hb dX1_isAskedByHolder_23 rfl (lv_at hl 1 rfl) ?_
    refine hd_callVi (As := [.int (nI b), .int (nI p)]) (rest := []) ⟨hx, hb, hml, hown, hts⟩ hE hP hS (c_X1_isAsking l G u i hi M b p (by omega) (by omega)) rfl (cwV 2 hts gX1_isAskedByHolder_X1_isAsking rfl rfl rfl (by decide +kernel) ⟨Nat.le_of_ble_eq_true rfl, Nat.le_of_ble_eq_true rfl⟩) (sc_recv hE hP hi) rfl hl.1 rfl (Nat.le_of_ble_eq_true rfl) dX1_isAskedByHolder_24 (fun rq_3 vq_3 H locs q_3 hP hS => ?_)
    have hP := hP.cast (q_3.2)
    refine lv_cast q_3.1 ?_
    refine bo_eq (tgt := 34) hx hb dX1_isAskedByHolder_27 (by decide) (fun c_4 => ?_) (fun c_4 => ?_)
    · skip
      refine lv_iconst (v := 0) hx hb dX1_isAskedByHolder_34 (by decide) ?_
      exact hd_zret hx hb hr hlocks hP hS ⟨(by rw [aB, if_neg c_1, hb2, nI_clamp (by omega), c_4]; rfl), rfl⟩ rfl dX1_isAskedByHolder_35
    · skip
      refine lv_iconst (v := 1) hx hb dX1_isAskedByHolder_30 (by decide) ?_
      refine lv_goto (tgt := 35) hx hb dX1_isAskedByHolder_31 (by decide) ?_
      exact hd_zret hx hb hr hlocks hP hS ⟨(by rw [aB, if_neg c_1, hb2, nI_clamp (by omega), c_4]; rfl), rfl⟩ rfl dX1_isAskedByHolder_35
set_option maxHeartbeats 4000000 in
set_option maxRecDepth 100000 in
/-- Scene.comeIn -/
theorem c_X1_comeIn (l : Launch) (G : Geo) (u : Sg) (i : Nat) (hi : i < 3) (M : Nat → Int32) (hM : Wf M) (p : Nat) (hp : p < nP M) : CtV l G yX1_comeIn wsX1_comeIn (rmO 2 46) [.ref (gS G i), .int (nI p)] (sI u i M) (fun v => v = sI u i (cmI M p)) := by
  refine CtV.of (cc := cX1_comeIn) (maxL := 4) (ret := none) (own := RX1) (by decide) rfl rfl ?_
  rintro pg ev s0 mm below meth cd ⟨hx, hb, hr, hml, hown, hts, hlocks⟩ hE hP ls hl
  have hS : va_S (gA G) s0.heap s0.heap [] := va_S.rf
  have hl : lv_has ls 4 [(0, .ref (gS G i)), (1, .int (nI p))] := hl
  have hin1 : ∀ w ∈ wsX10, w ∈ wsX1_comeIn := by decide +kernel
  have hn := hM.n
  have h8 := hM.n8
  refine lv_aload_n hx hb dX1_comeIn_0 rfl (lv_at hl 0 rfl) ?_
  refine sc_get hx hb hts hin1 hown hE hP hi (sI_at _ _ _) 9 (by decide) (hts (.fieldLink RX1 40 "HeldDoor$Scene" "in" "[I") (by decide +kernel)) (v := .ref (gSA G i 4)) rfl dX1_comeIn_1 ?_
  refine lv_iload_n hx hb dX1_comeIn_4 rfl (lv_at hl 1 rfl) ?_
  refine lv_iconst (v := 1) hx hb dX1_comeIn_5 (by decide) ?_
  refine sc_ast hx hb hE hP hS hi (sI_at _ _ _) 4 (by decide) p (by omega) (sI_sI _ _ _ _) dX1_comeIn_6 (fun H locs hP hS => ?_)
  refine lv_aload_n hx hb dX1_comeIn_7 rfl (lv_at hl 0 rfl) ?_
  refine lv_iload_n hx hb dX1_comeIn_8 rfl (lv_at hl 1 rfl) ?_
  refine sc_put hx hb hts hin1 hown hE hP hS hi (sI_at _ _ _) 3 (by decide) (hts (.fieldLink RX1 21 "HeldDoor$Scene" "by" "I") (by decide +kernel)) (sI_sI _ _ _ _) dX1_comeIn_9 (fun H locs hP hS => ?_)
  refine lv_aload_n hx hb dX1_comeIn_12 rfl (lv_at hl 0 rfl) ?_
  refine hd_callVi (As := []) (rest := []) ⟨hx, hb, hml, hown, hts⟩ hE hP hS (c_X1_nearestOutside l G u i hi (upd (upd M (5 + 6 * p + 4) 1) 3 (nI p)) (wf_cm1 hM hp)) rfl (cwV 0 hts gX1_comeIn_X1_nearestOutside rfl rfl rfl (by decide +kernel) ⟨Nat.le_of_ble_eq_true rfl, Nat.le_of_ble_eq_true rfl⟩) (sc_recv hE hP hi) rfl hl.1 rfl (Nat.le_of_ble_eq_true rfl) dX1_comeIn_13 (fun rq_1 vq_1 H locs q_1 hP hS => ?_)
  have hP := hP.cast (q_1.2)
  refine lv_cast q_1.1 ?_
  refine lv_istore_n (lv' := [(2, .int ((nrN (upd (upd M (5 + 6 * p + 4) 1) 3 (nI p)) (nP (upd (upd M (5 + 6 * p + 4) 1) 3 (nI p)))).1)), (0, .ref (gS G i)), (1, .int (nI p))]) hx hb dX1_comeIn_16 rfl hl (by decide) rfl (fun ls hl => ?_)
  refine lv_iload_n hx hb dX1_comeIn_17 rfl (lv_at hl 0 rfl) ?_
  refine lv_if_ge (tgt := 25) hx hb dX1_comeIn_18 (by decide) (fun c_2 => ?_) (fun c_2 => ?_)
  · skip
    obtain ⟨q, hq, hq2⟩ := nr_get (wf_cm1 hM hp) c_2
    rw [nP_up (by decide), nP_up (by omega)] at hq
    refine lv_aload_n hx hb dX1_comeIn_25 rfl (lv_at hl 1 rfl) ?_
    refine lv_iload_n hx hb dX1_comeIn_26 rfl (lv_at hl 2 rfl) ?_
    refine lv_iload_n hx hb dX1_comeIn_27 rfl (lv_at hl 0 rfl) ?_
    refine lv_cast hq2 ?_
    refine hd_callVi (As := [.int (nI p), .int (nI q)]) (rest := []) ⟨hx, hb, hml, hown, hts⟩ hE hP hS (c_X1_holdsFor l G u i hi (upd (upd M (5 + 6 * p + 4) 1) 3 (nI p)) p q (by omega) (by omega)) rfl (cwV 2 hts gX1_comeIn_X1_holdsFor rfl rfl rfl (by decide +kernel) ⟨Nat.le_of_ble_eq_true rfl, Nat.le_of_ble_eq_true rfl⟩) (sc_recv hE hP hi) rfl hl.1 rfl (Nat.le_of_ble_eq_true rfl) dX1_comeIn_28 (fun rq_3 vq_3 H locs q_3 hP hS => ?_)
    have hP := hP.cast (q_3.2)
    refine lv_cast q_3.1 ?_
    refine lv_istore_n (lv' := [(3, .int (hF (upd (upd M (5 + 6 * p + 4) 1) 3 (nI p)) p q)), (2, .int ((nrN (upd (upd M (5 + 6 * p + 4) 1) 3 (nI p)) (nP (upd (upd M (5 + 6 * p + 4) 1) 3 (nI p)))).1)), (0, .ref (gS G i)), (1, .int (nI p))]) hx hb dX1_comeIn_31 rfl hl (by decide) rfl (fun ls hl => ?_)
    refine lv_aload_n hx hb dX1_comeIn_32 rfl (lv_at hl 2 rfl) ?_
    refine lv_aload_n hx hb dX1_comeIn_33 rfl (lv_at hl 2 rfl) ?_
    refine sc_get hx hb hts hin1 hown hE hP hi (sI_at _ _ _) 2 (by decide) (hts (.fieldLink RX1 18 "HeldDoor$Scene" "open" "I") (by decide +kernel)) (v := .int ((upd (upd M (5 + 6 * p + 4) 1) 3 (nI p)) 2)) rfl dX1_comeIn_34 ?_
    refine lv_cast (y := M 2) (by rw [up_ne _ _ (by omega), up_ne _ _ (by omega)]) ?_
    refine lv_iload_n hx hb dX1_comeIn_37 rfl (lv_at hl 0 rfl) ?_
    refine va_mmax hx hb (hml.trans hl.1.symm) hown (hts (.methodLink RX1 93 Lib.Math.max.name) (by decide +kernel)) (hts (.static Lib.Math.max.name) (by decide +kernel)) (hts (.initialized "java/lang/Math") (by decide +kernel)) (hts (.code Lib.Math.max.name Lib.Math.max.code 2 (some .int)) (by decide +kernel)) (Nat.le_of_ble_eq_true rfl) (Nat.le_of_ble_eq_true rfl) (Nat.zero_le _) (Nat.zero_le _) dX1_comeIn_38 ?_
    refine lv_bipush (v := 60) hx hb dX1_comeIn_41 (by decide) ?_
    refine va_mmin hx hb (hml.trans hl.1.symm) hown (hts (.methodLink RX1 106 Lib.Math.min.name) (by decide +kernel)) (hts (.static Lib.Math.min.name) (by decide +kernel)) (hts (.initialized "java/lang/Math") (by decide +kernel)) (hts (.code Lib.Math.min.name Lib.Math.min.code 2 (some .int)) (by decide +kernel)) (Nat.le_of_ble_eq_true rfl) (Nat.le_of_ble_eq_true rfl) (Nat.zero_le _) (Nat.zero_le _) dX1_comeIn_43 ?_
    refine sc_put hx hb hts hin1 hown hE hP hS hi (sI_at _ _ _) 2 (by decide) (hts (.fieldLink RX1 18 "HeldDoor$Scene" "open" "I") (by decide +kernel)) (sI_sI _ _ _ _) dX1_comeIn_46 (fun H locs hP hS => ?_)
    exact hd_vret hx hb hr hlocks hP hS (by rw [cmI, cm2, cmO, if_neg (Int32.not_lt.mpr c_2), hq2, nI_clamp (by omega), up_ne _ _ (by decide), up_ne _ _ (by omega)]) dX1_comeIn_49
  · skip
    refine lv_iconst (v := 0) hx hb dX1_comeIn_21 (by decide) ?_
    refine lv_goto (tgt := 31) hx hb dX1_comeIn_22 (by decide) ?_
    refine lv_istore_n (lv' := [(3, .int 0), (2, .int ((nrN (upd (upd M (5 + 6 * p + 4) 1) 3 (nI p)) (nP (upd (upd M (5 + 6 * p + 4) 1) 3 (nI p)))).1)), (0, .ref (gS G i)), (1, .int (nI p))]) hx hb dX1_comeIn_31 rfl hl (by decide) rfl (fun ls hl => ?_)
    refine lv_aload_n hx hb dX1_comeIn_32 rfl (lv_at hl 2 rfl) ?_
    refine lv_aload_n hx hb dX1_comeIn_33 rfl (lv_at hl 2 rfl) ?_
    refine sc_get hx hb hts hin1 hown hE hP hi (sI_at _ _ _) 2 (by decide) (hts (.fieldLink RX1 18 "HeldDoor$Scene" "open" "I") (by decide +kernel)) (v := .int ((upd (upd M (5 + 6 * p + 4) 1) 3 (nI p)) 2)) rfl dX1_comeIn_34 ?_
    refine lv_cast (y := M 2) (by rw [up_ne _ _ (by omega), up_ne _ _ (by omega)]) ?_
    refine lv_iload_n hx hb dX1_comeIn_37 rfl (lv_at hl 0 rfl) ?_
    refine va_mmax hx hb (hml.trans hl.1.symm) hown (hts (.methodLink RX1 93 Lib.Math.max.name) (by decide +kernel)) (hts (.static Lib.Math.max.name) (by decide +kernel)) (hts (.initialized "java/lang/Math") (by decide +kernel)) (hts (.code Lib.Math.max.name Lib.Math.max.code 2 (some .int)) (by decide +kernel)) (Nat.le_of_ble_eq_true rfl) (Nat.le_of_ble_eq_true rfl) (Nat.zero_le _) (Nat.zero_le _) dX1_comeIn_38 ?_
    refine lv_bipush (v := 60) hx hb dX1_comeIn_41 (by decide) ?_
    refine va_mmin hx hb (hml.trans hl.1.symm) hown (hts (.methodLink RX1 106 Lib.Math.min.name) (by decide +kernel)) (hts (.static Lib.Math.min.name) (by decide +kernel)) (hts (.initialized "java/lang/Math") (by decide +kernel)) (hts (.code Lib.Math.min.name Lib.Math.min.code 2 (some .int)) (by decide +kernel)) (Nat.le_of_ble_eq_true rfl) (Nat.le_of_ble_eq_true rfl) (Nat.zero_le _) (Nat.zero_le _) dX1_comeIn_43 ?_
    refine sc_put hx hb hts hin1 hown hE hP hS hi (sI_at _ _ _) 2 (by decide) (hts (.fieldLink RX1 18 "HeldDoor$Scene" "open" "I") (by decide +kernel)) (sI_sI _ _ _ _) dX1_comeIn_46 (fun H locs hP hS => ?_)
    exact hd_vret hx hb hr hlocks hP hS (by rw [cmI, cm2, cmO, if_pos (Int32.not_le.mp c_2), up_ne _ _ (by decide), up_ne _ _ (by omega)]) dX1_comeIn_49
set_option maxHeartbeats 4000000 in
set_option maxRecDepth 100000 in
/-- Scene.tryToEnter -/
theorem c_X1_tryToEnter (l : Launch) (G : Geo) (u : Sg) (i : Nat) (hi : i < 3) (M : Nat → Int32) (hM : Wf M) (p : Nat) (hp : p < nP M) : CtV l G yX1_tryToEnter wsX1_tryToEnter (rmO 3 69) [.ref (gS G i), .int (nI p)] (sI u i M) (fun v => v = sI u i (stE M p)) := by
  refine CtV.of (cc := cX1_tryToEnter) (maxL := 2) (ret := none) (own := RX1) (by decide) rfl rfl ?_
  rintro pg ev s0 mm below meth cd ⟨hx, hb, hr, hml, hown, hts, hlocks⟩ hE hP ls hl
  have hS : va_S (gA G) s0.heap s0.heap [] := va_S.rf
  have hl : lv_has ls 2 [(0, .ref (gS G i)), (1, .int (nI p))] := hl
  have hin1 : ∀ w ∈ wsX10, w ∈ wsX1_tryToEnter := by decide +kernel
  have hn := hM.n
  have h8 := hM.n8
  refine lv_aload_n hx hb dX1_tryToEnter_0 rfl (lv_at hl 0 rfl) ?_
  refine sc_get hx hb hts hin1 hown hE hP hi (sI_at _ _ _) 2 (by decide) (hts (.fieldLink RX1 18 "HeldDoor$Scene" "open" "I") (by decide +kernel)) (v := .int (M 2)) rfl dX1_tryToEnter_1 ?_
  refine lv_if_ne (tgt := 23) hx hb dX1_tryToEnter_4 (by decide) (fun c_1 => ?_) (fun c_1 => ?_)
  · skip
    refine lv_aload_n hx hb dX1_tryToEnter_23 rfl (lv_at hl 0 rfl) ?_
    refine lv_iload_n hx hb dX1_tryToEnter_24 rfl (lv_at hl 1 rfl) ?_
    refine hd_callVi (As := [.int (nI p)]) (rest := []) ⟨hx, hb, hml, hown, hts⟩ hE hP hS (c_X1_isAskedByHolder l G u i hi M hM p (by omega)) rfl (cwV 1 hts gX1_tryToEnter_X1_isAskedByHolder rfl rfl rfl (by decide +kernel) ⟨Nat.le_of_ble_eq_true rfl, Nat.le_of_ble_eq_true rfl⟩) (sc_recv hE hP hi) rfl hl.1 rfl (Nat.le_of_ble_eq_true rfl) dX1_tryToEnter_25 (fun rq_2 vq_2 H locs q_2 hP hS => ?_)
    have hP := hP.cast (q_2.2)
    refine lv_cast q_2.1 ?_
    refine bo_eq (tgt := 69) hx hb dX1_tryToEnter_28 (by decide) (fun c_3 => ?_) (fun c_3 => ?_)
    · skip
      refine lv_aload_n hx hb dX1_tryToEnter_69 rfl (lv_at hl 0 rfl) ?_
      refine lv_iload_n hx hb dX1_tryToEnter_70 rfl (lv_at hl 1 rfl) ?_
      refine hd_callVv (As := [.int (nI p)]) (rest := []) ⟨hx, hb, hml, hown, hts⟩ hE hP hS (c_X1_comeIn l G u i hi M hM p (by first | exact hp | (rw [nP_ask1]; exact hp))) rfl (cwV 1 hts gX1_tryToEnter_X1_comeIn rfl rfl rfl (by decide +kernel) ⟨Nat.le_of_ble_eq_true rfl, Nat.le_of_ble_eq_true rfl⟩) (sc_recv hE hP hi) rfl hl.1 rfl (Nat.le_of_ble_eq_true rfl) dX1_tryToEnter_71 (fun vq_4 H locs q_4 hP hS => ?_)
      have hP := hP.cast (q_4)
      exact hd_vret hx hb hr hlocks hP hS (by rw [stE, if_neg (by rw [opn_t hM c_1]; decide), if_neg (by rw [c_3]; decide)]) dX1_tryToEnter_74
    · skip
      refine lv_aload_n hx hb dX1_tryToEnter_31 rfl (lv_at hl 0 rfl) ?_
      refine sc_get hx hb hts hin1 hown hE hP hi (sI_at _ _ _) 10 (by decide) (hts (.fieldLink RX1 43 "HeldDoor$Scene" "asked" "[I") (by decide +kernel)) (v := .ref (gSA G i 5)) rfl dX1_tryToEnter_32 ?_
      refine lv_iload_n hx hb dX1_tryToEnter_35 rfl (lv_at hl 1 rfl) ?_
      refine lv_aload_n hx hb dX1_tryToEnter_36 rfl (lv_at hl 0 rfl) ?_
      refine sc_get hx hb hts hin1 hown hE hP hi (sI_at _ _ _) 10 (by decide) (hts (.fieldLink RX1 43 "HeldDoor$Scene" "asked" "[I") (by decide +kernel)) (v := .ref (gSA G i 5)) rfl dX1_tryToEnter_37 ?_
      refine lv_iload_n hx hb dX1_tryToEnter_40 rfl (lv_at hl 1 rfl) ?_
      refine sc_ald hx hb hE hP hi (sI_at _ _ _) 5 (by decide) p (by omega) dX1_tryToEnter_41 ?_
      refine lv_iconst (v := 1) hx hb dX1_tryToEnter_42 (by decide) ?_
      refine lv_iadd hx hb dX1_tryToEnter_43 ?_
      refine lv_sipush (v := 999) hx hb dX1_tryToEnter_44 (by decide) ?_
      refine va_mmin hx hb (hml.trans hl.1.symm) hown (hts (.methodLink RX1 106 Lib.Math.min.name) (by decide +kernel)) (hts (.static Lib.Math.min.name) (by decide +kernel)) (hts (.initialized "java/lang/Math") (by decide +kernel)) (hts (.code Lib.Math.min.name Lib.Math.min.code 2 (some .int)) (by decide +kernel)) (Nat.le_of_ble_eq_true rfl) (Nat.le_of_ble_eq_true rfl) (Nat.zero_le _) (Nat.zero_le _) dX1_tryToEnter_47 ?_
      refine sc_ast hx hb hE hP hS hi (sI_at _ _ _) 5 (by decide) p (by omega) (sI_sI _ _ _ _) dX1_tryToEnter_50 (fun H locs hP hS => ?_)
      have hP := hP.cast (show sI u i (upd M (5 + 6 * p + 5) (if 999 < (M (5 + 6 * p + 5)) + 1 then 999 else (M (5 + 6 * p + 5)) + 1)) = sI u i (ask1 M p) from rfl)
      refine lv_aload_n hx hb dX1_tryToEnter_51 rfl (lv_at hl 0 rfl) ?_
      refine sc_get hx hb hts hin1 hown hE hP hi (sI_at _ _ _) 6 (by decide) (hts (.fieldLink RX1 31 "HeldDoor$Scene" "badges" "[I") (by decide +kernel)) (v := .ref (gSA G i 1)) rfl dX1_tryToEnter_52 ?_
      refine lv_iload_n hx hb dX1_tryToEnter_55 rfl (lv_at hl 1 rfl) ?_
      refine sc_ald hx hb hE hP hi (sI_at _ _ _) 1 (by decide) p (by omega) dX1_tryToEnter_56 ?_
      refine lv_cast (y := M (5 + 6 * p + 1)) (show ask1 M p (5 + 6 * p + 1) = M (5 + 6 * p + 1) from up_ne _ _ (by omega)) ?_
      refine lv_if_ne (tgt := 69) hx hb dX1_tryToEnter_57 (by decide) (fun c_5 => ?_) (fun c_5 => ?_)
      · skip
        refine lv_aload_n hx hb dX1_tryToEnter_69 rfl (lv_at hl 0 rfl) ?_
        refine lv_iload_n hx hb dX1_tryToEnter_70 rfl (lv_at hl 1 rfl) ?_
        refine hd_callVv (As := [.int (nI p)]) (rest := []) ⟨hx, hb, hml, hown, hts⟩ hE hP hS (c_X1_comeIn l G u i hi (ask1 M p) (Wf_ask1 hM (by omega)) p (by first | exact hp | (rw [nP_ask1]; exact hp))) rfl (cwV 1 hts gX1_tryToEnter_X1_comeIn rfl rfl rfl (by decide +kernel) ⟨Nat.le_of_ble_eq_true rfl, Nat.le_of_ble_eq_true rfl⟩) (sc_recv hE hP hi) rfl hl.1 rfl (Nat.le_of_ble_eq_true rfl) dX1_tryToEnter_71 (fun vq_6 H locs q_6 hP hS => ?_)
        have hP := hP.cast (q_6)
        exact hd_vret hx hb hr hlocks hP hS (by rw [stE, if_neg (by rw [opn_t hM c_1]; decide), if_pos c_3, if_neg c_5]) dX1_tryToEnter_74
      · skip
        refine lv_aload_n hx hb dX1_tryToEnter_60 rfl (lv_at hl 0 rfl) ?_
        refine sc_get hx hb hts hin1 hown hE hP hi (sI_at _ _ _) 8 (by decide) (hts (.fieldLink RX1 37 "HeldDoor$Scene" "feet" "[I") (by decide +kernel)) (v := .ref (gSA G i 3)) rfl dX1_tryToEnter_61 ?_
        refine lv_iload_n hx hb dX1_tryToEnter_64 rfl (lv_at hl 1 rfl) ?_
        refine lv_bipush (v := 99) hx hb dX1_tryToEnter_65 (by decide) ?_
        refine sc_ast hx hb hE hP hS hi (sI_at _ _ _) 3 (by decide) p (by omega) (sI_sI _ _ _ _) dX1_tryToEnter_67 (fun H locs hP hS => ?_)
        exact hd_vret hx hb hr hlocks hP hS (by rw [stE, if_neg (by rw [opn_t hM c_1]; decide), if_pos c_3, if_pos c_5]) dX1_tryToEnter_68
  · skip
    refine lv_aload_n hx hb dX1_tryToEnter_7 rfl (lv_at hl 0 rfl) ?_
    refine sc_get hx hb hts hin1 hown hE hP hi (sI_at _ _ _) 6 (by decide) (hts (.fieldLink RX1 31 "HeldDoor$Scene" "badges" "[I") (by decide +kernel)) (v := .ref (gSA G i 1)) rfl dX1_tryToEnter_8 ?_
    refine lv_iload_n hx hb dX1_tryToEnter_11 rfl (lv_at hl 1 rfl) ?_
    refine sc_ald hx hb hE hP hi (sI_at _ _ _) 1 (by decide) p (by omega) dX1_tryToEnter_12 ?_
    refine lv_iconst (v := 1) hx hb dX1_tryToEnter_13 (by decide) ?_
    refine lv_icmp_ne (tgt := 22) hx hb dX1_tryToEnter_14 (by decide) (fun c_7 => ?_) (fun c_7 => ?_)
    · skip
      exact hd_vret hx hb hr hlocks hP hS (by rw [stE, if_pos ((opn_iff hM).mpr c_1), if_neg c_7]) dX1_tryToEnter_22
    · skip
      refine lv_aload_n hx hb dX1_tryToEnter_17 rfl (lv_at hl 0 rfl) ?_
      refine lv_iload_n hx hb dX1_tryToEnter_18 rfl (lv_at hl 1 rfl) ?_
      refine hd_callVv (As := [.int (nI p)]) (rest := []) ⟨hx, hb, hml, hown, hts⟩ hE hP hS (c_X1_comeIn l G u i hi M hM p (by first | exact hp | (rw [nP_ask1]; exact hp))) rfl (cwV 1 hts gX1_tryToEnter_X1_comeIn rfl rfl rfl (by decide +kernel) ⟨Nat.le_of_ble_eq_true rfl, Nat.le_of_ble_eq_true rfl⟩) (sc_recv hE hP hi) rfl hl.1 rfl (Nat.le_of_ble_eq_true rfl) dX1_tryToEnter_19 (fun vq_8 H locs q_8 hP hS => ?_)
      have hP := hP.cast (q_8)
      exact hd_vret hx hb hr hlocks hP hS (by rw [stE, if_pos ((opn_iff hM).mpr c_1), if_pos c_7]) dX1_tryToEnter_22
set_option maxHeartbeats 4000000 in
set_option maxRecDepth 100000 in
/-- Scene.goOneSecond -/
theorem c_X1_goOneSecond (l : Launch) (G : Geo) (u : Sg) (i : Nat) (hi : i < 3) (M : Nat → Int32) (hM : Wf M) : CtV l G yX1_goOneSecond wsX1_goOneSecond (rmO 4 90) [.ref (gS G i)] (sI u i M) (fun v => v = sI u i (sec1 M)) := by
  refine CtV.of (cc := cX1_goOneSecond) (maxL := 2) (ret := none) (own := RX1) (by decide) rfl rfl ?_
  rintro pg ev s0 mm below meth cd ⟨hx, hb, hr, hml, hown, hts, hlocks⟩ hE hP ls hl
  have hS : va_S (gA G) s0.heap s0.heap [] := va_S.rf
  have hl : lv_has ls 2 [(0, .ref (gS G i))] := hl
  have hin1 : ∀ w ∈ wsX10, w ∈ wsX1_goOneSecond := by decide +kernel
  have hn := hM.n
  have h8 := hM.n8
  refine lv_aload_n hx hb dX1_goOneSecond_0 rfl (lv_at hl 0 rfl) ?_
  refine hd_callVv (As := []) (rest := []) ⟨hx, hb, hml, hown, hts⟩ hE hP hS (c_X1_walkAll l G u i hi M hM) rfl (cwV 0 hts gX1_goOneSecond_X1_walkAll rfl rfl rfl (by decide +kernel) ⟨Nat.le_of_ble_eq_true rfl, Nat.le_of_ble_eq_true rfl⟩) (sc_recv hE hP hi) rfl hl.1 rfl (Nat.le_of_ble_eq_true rfl) dX1_goOneSecond_1 (fun vq_1 H locs q_1 hP hS => ?_)
  have hP := hP.cast (q_1)
  refine lv_iconst (v := 0) hx hb dX1_goOneSecond_4 (by decide) ?_
  refine lv_istore_n (lv' := [(1, .int 0), (0, .ref (gS G i))]) hx hb dX1_goOneSecond_5 rfl hl (by decide) rfl (fun ls hl => ?_)
  have J6 : ∀ (fu : Nat) (p : Nat) (N : Nat → Int32) (hp : p ≤ nP M) (hN : N = stN (wkN M (opn M) (nP M)) p) (hrk : nP M - p < fu) (H : Heap) (locs : List Loc) (ls : Array Slot), WP G (sI u i N) H → va_S (gA G) s0.heap H locs → lv_has ls 2 [(0, .ref (gS G i)), (1, .int (nI p))] → W pg l ev (headSpec wsX1_goOneSecond (rmO 4 90)).room s0 mm ([.ref (gS G i)] : List Value).toArray below meth cd H locs 0 0 (MQ below (va_Qv (fun v => v = sI u i (sec1 M)) (fun v t => WP G v t.heap) (gA G)) ([.ref (gS G i)] : List Value).toArray s0 0 0 (gA G)) (F0 mm 6 ls []) := by
    intro fu
    induction fu with
    | zero => intro p N hp hN hrk; exact absurd hrk (Nat.not_lt_zero _)
    | succ fu ih6 =>
      intro p N hp hN hrk H locs ls hP hS hl
      have hNp : nP N = nP M := by rw [hN, nP_stN, nP_wkN]
      have hWn : Wf N := by rw [hN]; exact Wf_stN (Wf_wkN hM _ _ h8) _ (by rw [nP_wkN]; exact hp)
      refine lv_iload_n hx hb dX1_goOneSecond_6 rfl (lv_at hl 1 rfl) ?_
      refine lv_aload_n hx hb dX1_goOneSecond_7 rfl (lv_at hl 0 rfl) ?_
      refine sc_get hx hb hts hin1 hown hE hP hi (sI_at _ _ _) 4 (by decide) (hts (.fieldLink RX1 24 "HeldDoor$Scene" "people" "I") (by decide +kernel)) (v := .int (N 4)) rfl dX1_goOneSecond_8 ?_
      refine lv_cast (show N 4 = nI (nP M) by rw [hWn.n, hNp]) ?_
      refine nn_ge (a := p) (b := nP M) (by omega) (by omega) (tgt := 43) hx hb dX1_goOneSecond_11 (by decide) (fun c_2 => ?_) (fun c_2 => ?_)
      · skip
        refine lv_aload_n hx hb dX1_goOneSecond_43 rfl (lv_at hl 0 rfl) ?_
        refine sc_get hx hb hts hin1 hown hE hP hi (sI_at _ _ _) 2 (by decide) (hts (.fieldLink RX1 18 "HeldDoor$Scene" "open" "I") (by decide +kernel)) (v := .int (N 2)) rfl dX1_goOneSecond_44 ?_
        refine lv_if_le (tgt := 60) hx hb dX1_goOneSecond_47 (by decide) (fun c_3 => ?_) (fun c_3 => ?_)
        · skip
          exact hd_vret hx hb hr hlocks hP hS (by rw [sec1, show nP M = p by omega, dn2, show stN (wkN M (opn M) p) p = N by rw [hN, show p = nP M by omega], if_pos c_3]) dX1_goOneSecond_60
        · skip
          refine lv_aload_n hx hb dX1_goOneSecond_50 rfl (lv_at hl 0 rfl) ?_
          refine lv_dup hx hb dX1_goOneSecond_51 rfl ?_
          refine sc_get hx hb hts hin1 hown hE hP hi (sI_at _ _ _) 2 (by decide) (hts (.fieldLink RX1 18 "HeldDoor$Scene" "open" "I") (by decide +kernel)) (v := .int (N 2)) rfl dX1_goOneSecond_52 ?_
          refine lv_iconst (v := 1) hx hb dX1_goOneSecond_55 (by decide) ?_
          refine lv_isub hx hb dX1_goOneSecond_56 ?_
          refine sc_put hx hb hts hin1 hown hE hP hS hi (sI_at _ _ _) 2 (by decide) (hts (.fieldLink RX1 18 "HeldDoor$Scene" "open" "I") (by decide +kernel)) (sI_sI _ _ _ _) dX1_goOneSecond_57 (fun H locs hP hS => ?_)
          exact hd_vret hx hb hr hlocks hP hS (by rw [sec1, show nP M = p by omega, dn2, show stN (wkN M (opn M) p) p = N by rw [hN, show p = nP M by omega], if_neg c_3]) dX1_goOneSecond_60
      · skip
        refine lv_aload_n hx hb dX1_goOneSecond_14 rfl (lv_at hl 0 rfl) ?_
        refine sc_get hx hb hts hin1 hown hE hP hi (sI_at _ _ _) 9 (by decide) (hts (.fieldLink RX1 40 "HeldDoor$Scene" "in" "[I") (by decide +kernel)) (v := .ref (gSA G i 4)) rfl dX1_goOneSecond_15 ?_
        refine lv_iload_n hx hb dX1_goOneSecond_18 rfl (lv_at hl 1 rfl) ?_
        refine sc_ald hx hb hE hP hi (sI_at _ _ _) 4 (by decide) p (by omega) dX1_goOneSecond_19 ?_
        refine lv_if_ne (tgt := 37) hx hb dX1_goOneSecond_20 (by decide) (fun c_4 => ?_) (fun c_4 => ?_)
        · skip
          refine lv_iinc (v := nI (p + 1)) (lv' := [(1, .int (nI (p + 1))), (0, .ref (gS G i))]) hx hb dX1_goOneSecond_37 hl (k := 1) rfl (inc1 _) (by decide) rfl (fun ls hl => ?_)
          refine lv_goto (tgt := 6) hx hb dX1_goOneSecond_40 (by decide) ?_
          exact ih6 (p + 1) N (by omega) (by rw [stN, st1, ← hN, if_neg c_4]) (by omega) _ _ _ hP hS (lv_sub hl [1, 0] rfl)
        · skip
          refine lv_aload_n hx hb dX1_goOneSecond_23 rfl (lv_at hl 0 rfl) ?_
          refine sc_get hx hb hts hin1 hown hE hP hi (sI_at _ _ _) 8 (by decide) (hts (.fieldLink RX1 37 "HeldDoor$Scene" "feet" "[I") (by decide +kernel)) (v := .ref (gSA G i 3)) rfl dX1_goOneSecond_24 ?_
          refine lv_iload_n hx hb dX1_goOneSecond_27 rfl (lv_at hl 1 rfl) ?_
          refine sc_ald hx hb hE hP hi (sI_at _ _ _) 3 (by decide) p (by omega) dX1_goOneSecond_28 ?_
          refine lv_if_ne (tgt := 37) hx hb dX1_goOneSecond_29 (by decide) (fun c_5 => ?_) (fun c_5 => ?_)
          · skip
            refine lv_iinc (v := nI (p + 1)) (lv' := [(1, .int (nI (p + 1))), (0, .ref (gS G i))]) hx hb dX1_goOneSecond_37 hl (k := 1) rfl (inc1 _) (by decide) rfl (fun ls hl => ?_)
            refine lv_goto (tgt := 6) hx hb dX1_goOneSecond_40 (by decide) ?_
            exact ih6 (p + 1) N (by omega) (by rw [stN, st1, ← hN, if_pos c_4, if_neg c_5]) (by omega) _ _ _ hP hS (lv_sub hl [1, 0] rfl)
          · skip
            refine lv_aload_n hx hb dX1_goOneSecond_32 rfl (lv_at hl 0 rfl) ?_
            refine lv_iload_n hx hb dX1_goOneSecond_33 rfl (lv_at hl 1 rfl) ?_
            refine hd_callVv (As := [.int (nI p)]) (rest := []) ⟨hx, hb, hml, hown, hts⟩ hE hP hS (c_X1_tryToEnter l G u i hi N hWn p (by omega)) rfl (cwV 1 hts gX1_goOneSecond_X1_tryToEnter rfl rfl rfl (by decide +kernel) ⟨Nat.le_of_ble_eq_true rfl, Nat.le_of_ble_eq_true rfl⟩) (sc_recv hE hP hi) rfl hl.1 rfl (Nat.le_of_ble_eq_true rfl) dX1_goOneSecond_34 (fun vq_6 H locs q_6 hP hS => ?_)
            have hP := hP.cast (q_6)
            refine lv_iinc (v := nI (p + 1)) (lv' := [(1, .int (nI (p + 1))), (0, .ref (gS G i))]) hx hb dX1_goOneSecond_37 hl (k := 1) rfl (inc1 _) (by decide) rfl (fun ls hl => ?_)
            refine lv_goto (tgt := 6) hx hb dX1_goOneSecond_40 (by decide) ?_
            exact ih6 (p + 1) (stE N p) (by omega) (by rw [stN, st1, ← hN, if_pos c_4, if_pos c_5]) (by omega) _ _ _ hP hS (lv_sub hl [1, 0] rfl)
  exact J6 _ 0 (wkN M (opn M) (nP M)) (Nat.zero_le _) rfl (Nat.lt_succ_self _) _ _ _ hP hS (lv_sub hl [1, 0] rfl)
set_option maxHeartbeats 4000000 in
set_option maxRecDepth 100000 in
/-- Scene.goOn -/
theorem c_X1_goOn (l : Launch) (G : Geo) (u : Sg) (i : Nat) (hi : i < 3) (M : Nat → Int32) (hM : Wf M) (n : Nat) (hn9 : n ≤ 1000) : CtV l G yX1_goOn wsX1_goOn (rmO 5 111) [.ref (gS G i), .int (nI n)] (sI u i M) (fun v => v = sI u i (goN M n)) := by
  refine CtV.of (cc := cX1_goOn) (maxL := 3) (ret := none) (own := RX1) (by decide) rfl rfl ?_
  rintro pg ev s0 mm below meth cd ⟨hx, hb, hr, hml, hown, hts, hlocks⟩ hE hP ls hl
  have hS : va_S (gA G) s0.heap s0.heap [] := va_S.rf
  have hl : lv_has ls 3 [(0, .ref (gS G i)), (1, .int (nI n))] := hl
  have hin1 : ∀ w ∈ wsX10, w ∈ wsX1_goOn := by decide +kernel
  refine lv_iconst (v := 0) hx hb dX1_goOn_0 (by decide) ?_
  refine lv_istore_n (lv' := [(2, .int 0), (0, .ref (gS G i)), (1, .int (nI n))]) hx hb dX1_goOn_1 rfl hl (by decide) rfl (fun ls hl => ?_)
  have J2 : ∀ (fu : Nat) (k : Nat) (N : Nat → Int32) (hk : k ≤ n) (hN : N = secN M k) (hrk : n - k < fu) (H : Heap) (locs : List Loc) (ls : Array Slot), WP G (sI u i N) H → va_S (gA G) s0.heap H locs → lv_has ls 3 [(0, .ref (gS G i)), (1, .int (nI n)), (2, .int (nI k))] → W pg l ev (headSpec wsX1_goOn (rmO 5 111)).room s0 mm ([.ref (gS G i), .int (nI n)] : List Value).toArray below meth cd H locs 0 0 (MQ below (va_Qv (fun v => v = sI u i (goN M n)) (fun v t => WP G v t.heap) (gA G)) ([.ref (gS G i), .int (nI n)] : List Value).toArray s0 0 0 (gA G)) (F0 mm 2 ls []) := by
    intro fu
    induction fu with
    | zero => intro k N hk hN hrk; exact absurd hrk (Nat.not_lt_zero _)
    | succ fu ih2 =>
      intro k N hk hN hrk H locs ls hP hS hl
      have hWn : Wf N := by rw [hN]; exact Wf_secN hM k
      refine lv_iload_n hx hb dX1_goOn_2 rfl (lv_at hl 2 rfl) ?_
      refine lv_iload_n hx hb dX1_goOn_3 rfl (lv_at hl 1 rfl) ?_
      refine nn_ge (a := k) (b := n) (by omega) (by omega) (tgt := 24) hx hb dX1_goOn_4 (by decide) (fun c_1 => ?_) (fun c_1 => ?_)
      · skip
        refine lv_aload_n hx hb dX1_goOn_24 rfl (lv_at hl 0 rfl) ?_
        refine lv_dup hx hb dX1_goOn_25 rfl ?_
        refine sc_get hx hb hts hin1 hown hE hP hi (sI_at _ _ _) 0 (by decide) (hts (.fieldLink RX1 9 "HeldDoor$Scene" "second" "I") (by decide +kernel)) (v := .int (N 0)) rfl dX1_goOn_26 ?_
        refine lv_iload_n hx hb dX1_goOn_29 rfl (lv_at hl 1 rfl) ?_
        refine lv_iadd hx hb dX1_goOn_30 ?_
        refine sc_put hx hb hts hin1 hown hE hP hS hi (sI_at _ _ _) 0 (by decide) (hts (.fieldLink RX1 9 "HeldDoor$Scene" "second" "I") (by decide +kernel)) (sI_sI _ _ _ _) dX1_goOn_31 (fun H locs hP hS => ?_)
        exact hd_vret hx hb hr hlocks hP hS (by rw [goN, show secN M n = N by rw [hN, show k = n by omega], show N 0 = M 0 by rw [hN, secN_0]]) dX1_goOn_34
      · skip
        refine lv_aload_n hx hb dX1_goOn_7 rfl (lv_at hl 0 rfl) ?_
        refine hd_callVi (As := []) (rest := []) ⟨hx, hb, hml, hown, hts⟩ hE hP hS (c_X1_isAtRest l G u i hi N hWn) rfl (cwV 0 hts gX1_goOn_X1_isAtRest rfl rfl rfl (by decide +kernel) ⟨Nat.le_of_ble_eq_true rfl, Nat.le_of_ble_eq_true rfl⟩) (sc_recv hE hP hi) rfl hl.1 rfl (Nat.le_of_ble_eq_true rfl) dX1_goOn_8 (fun rq_2 vq_2 H locs q_2 hP hS => ?_)
        have hP := hP.cast (q_2.2)
        refine lv_cast q_2.1 ?_
        refine bo_ne (tgt := 24) hx hb dX1_goOn_11 (by decide) (fun c_3 => ?_) (fun c_3 => ?_)
        · skip
          refine lv_aload_n hx hb dX1_goOn_24 rfl (lv_at hl 0 rfl) ?_
          refine lv_dup hx hb dX1_goOn_25 rfl ?_
          refine sc_get hx hb hts hin1 hown hE hP hi (sI_at _ _ _) 0 (by decide) (hts (.fieldLink RX1 9 "HeldDoor$Scene" "second" "I") (by decide +kernel)) (v := .int (N 0)) rfl dX1_goOn_26 ?_
          refine lv_iload_n hx hb dX1_goOn_29 rfl (lv_at hl 1 rfl) ?_
          refine lv_iadd hx hb dX1_goOn_30 ?_
          refine sc_put hx hb hts hin1 hown hE hP hS hi (sI_at _ _ _) 0 (by decide) (hts (.fieldLink RX1 9 "HeldDoor$Scene" "second" "I") (by decide +kernel)) (sI_sI _ _ _ _) dX1_goOn_31 (fun H locs hP hS => ?_)
          exact hd_vret hx hb hr hlocks hP hS (by rw [goN, show secN M n = N by rw [hN, show n = k + (n - k) by omega, rest_secN hM (by rw [← hN]; exact c_3)], show N 0 = M 0 by rw [hN, secN_0]]) dX1_goOn_34
        · skip
          refine lv_aload_n hx hb dX1_goOn_14 rfl (lv_at hl 0 rfl) ?_
          refine hd_callVv (As := []) (rest := []) ⟨hx, hb, hml, hown, hts⟩ hE hP hS (c_X1_goOneSecond l G u i hi N hWn) rfl (cwV 0 hts gX1_goOn_X1_goOneSecond rfl rfl rfl (by decide +kernel) ⟨Nat.le_of_ble_eq_true rfl, Nat.le_of_ble_eq_true rfl⟩) (sc_recv hE hP hi) rfl hl.1 rfl (Nat.le_of_ble_eq_true rfl) dX1_goOn_15 (fun vq_4 H locs q_4 hP hS => ?_)
          have hP := hP.cast (q_4)
          refine lv_iinc (v := nI (k + 1)) (lv' := [(2, .int (nI (k + 1))), (0, .ref (gS G i)), (1, .int (nI n))]) hx hb dX1_goOn_18 hl (k := 2) rfl (inc1 _) (by decide) rfl (fun ls hl => ?_)
          refine lv_goto (tgt := 2) hx hb dX1_goOn_21 (by decide) ?_
          exact ih2 (k + 1) (sec1 N) (by omega) (by rw [secN, ← hN]) (by omega) _ _ _ hP hS (lv_sub hl [1, 2, 0] rfl)
  exact J2 _ 0 M (Nat.zero_le _) rfl (Nat.lt_succ_self _) _ _ _ hP hS (lv_sub hl [1, 2, 0] rfl)
