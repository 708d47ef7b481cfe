set_option maxHeartbeats 4000000 in
set_option maxRecDepth 100000 in
/-- Scene.isFull -/
theorem c_X1_isFull (l : Launch) (G : Geo) (u : Sg) (i : Nat) (hi : i < 3) (M : Nat → Int32) : CtI l G yX1_isFull wsX1_isFull (rmO 0 0) [.ref (gS G i)] (sI u i M) (fun r v => r = bI (fullB M) ∧ v = sI u i M) := by
  refine CtI.of (cc := cX1_isFull) (maxL := 1) (ret := (some .boolean)) (own := RX1) (by decide) rfl rfl ?_
  rintro pg ev s0 mm below meth cd ⟨hx, hb, hr, hml, hown, hts, hlocks⟩ hE hP ls hl
  have hS : va_S (gA G) s0.heap s0.heap [] := va_S.rf
  have hl : lv_has ls 1 [(0, .ref (gS G i))] := hl
  have hin1 : ∀ w ∈ wsX10, w ∈ wsX1_isFull := by decide +kernel
  refine lv_aload_n hx hb dX1_isFull_0 rfl (lv_at hl 0 rfl) ?_
  refine sc_get hx hb hts hin1 hown hE hP hi (sI_at _ _ _) 4 (by decide) (hts (.fieldLink RX1 24 "HeldDoor$Scene" "people" "I") (by decide +kernel)) (v := .int (M 4)) rfl dX1_isFull_1 ?_
  refine lv_bipush (v := 8) hx hb dX1_isFull_4 (by decide) ?_
  refine lv_icmp_lt (tgt := 13) hx hb dX1_isFull_6 (by decide) (fun c_1 => ?_) (fun c_1 => ?_)
  · skip
    refine lv_iconst (v := 0) hx hb dX1_isFull_13 (by decide) ?_
    exact hd_zret hx hb hr hlocks hP hS ⟨(by first | rfl | (simp only [fullB, bI, c_1, ↓reduceIte]; done) | (simp only [fullB, bI, c_1, ↓reduceIte] <;> rfl) | (simp [fullB, bI, c_1]; done)), rfl⟩ rfl dX1_isFull_14
  · skip
    refine lv_iconst (v := 1) hx hb dX1_isFull_9 (by decide) ?_
    refine lv_goto (tgt := 14) hx hb dX1_isFull_10 (by decide) ?_
    exact hd_zret hx hb hr hlocks hP hS ⟨(by first | rfl | (simp only [fullB, bI, c_1, ↓reduceIte]; done) | (simp only [fullB, bI, c_1, ↓reduceIte] <;> rfl) | (simp [fullB, bI, c_1]; done)), rfl⟩ rfl dX1_isFull_14
set_option maxHeartbeats 4000000 in
set_option maxRecDepth 100000 in
/-- Scene.goesNow -/
theorem c_X1_goesNow (l : Launch) (G : Geo) (u : Sg) (i : Nat) (hi : i < 3) (M : Nat → Int32) (p : Nat) (hp : p < 8) : CtI l G yX1_goesNow wsX1_goesNow (rmO 2 44) [.ref (gS G i), .int (nI p)] (sI u i M) (fun r v => r = gB M p (opn M) ∧ v = sI u i M) := by
  refine CtI.of (cc := cX1_goesNow) (maxL := 2) (ret := (some .int)) (own := RX1) (by decide) rfl rfl ?_
  rintro pg ev s0 mm below meth cd ⟨hx, hb, hr, hml, hown, hts, hlocks⟩ hE hP ls hl
  have hS : va_S (gA G) s0.heap s0.heap [] := va_S.rf
  have hl : lv_has ls 2 [(0, .ref (gS G i)), (1, .int (nI p))] := hl
  have hin1 : ∀ w ∈ wsX10, w ∈ wsX1_goesNow := by decide +kernel
  refine lv_aload_n hx hb dX1_goesNow_0 rfl (lv_at hl 0 rfl) ?_
  refine sc_get hx hb hts hin1 hown hE hP hi (sI_at _ _ _) 5 (by decide) (hts (.fieldLink RX1 27 "HeldDoor$Scene" "kinds" "[I") (by decide +kernel)) (v := .ref (gSA G i 0)) rfl dX1_goesNow_1 ?_
  refine lv_iload_n hx hb dX1_goesNow_4 rfl (lv_at hl 1 rfl) ?_
  refine sc_ald hx hb hE hP hi (sI_at _ _ _) 0 (by decide) p (by omega) dX1_goesNow_5 ?_
  refine lv_aload_n hx hb dX1_goesNow_6 rfl (lv_at hl 0 rfl) ?_
  refine sc_get hx hb hts hin1 hown hE hP hi (sI_at _ _ _) 7 (by decide) (hts (.fieldLink RX1 34 "HeldDoor$Scene" "loads" "[I") (by decide +kernel)) (v := .ref (gSA G i 2)) rfl dX1_goesNow_7 ?_
  refine lv_iload_n hx hb dX1_goesNow_10 rfl (lv_at hl 1 rfl) ?_
  refine sc_ald hx hb hE hP hi (sI_at _ _ _) 2 (by decide) p (by omega) dX1_goesNow_11 ?_
  refine lv_aload_n hx hb dX1_goesNow_12 rfl (lv_at hl 0 rfl) ?_
  refine sc_get hx hb hts hin1 hown hE hP hi (sI_at _ _ _) 2 (by decide) (hts (.fieldLink RX1 18 "HeldDoor$Scene" "open" "I") (by decide +kernel)) (v := .int (M 2)) rfl dX1_goesNow_13 ?_
  refine lv_if_le (tgt := 23) hx hb dX1_goesNow_16 (by decide) (fun c_1 => ?_) (fun c_1 => ?_)
  · skip
    refine lv_iconst (v := 0) hx hb dX1_goesNow_23 (by decide) ?_
    refine hd_callSi (As := [.int (M (5 + 6 * p + 0)), .int (M (5 + 6 * p + 2)), .int 0]) (rest := []) ⟨hx, hb, hml, hown, hts⟩ hE hP hS (c_X0_goesOf l G (sI u i M) (M (5 + 6 * p + 0)) (M (5 + 6 * p + 2)) false) rfl (va_cwS 3 hts gX1_goesNow_X0_goesOf rfl rfl rfl (by decide +kernel) ⟨Nat.le_of_ble_eq_true rfl, Nat.le_of_ble_eq_true rfl⟩) rfl hl.1 rfl (Nat.le_of_ble_eq_true rfl) dX1_goesNow_24 (fun rq_2 vq_2 H locs q_2 hP hS => ?_)
    have hP := hP.cast (q_2.2)
    refine lv_cast q_2.1 ?_
    exact hd_iret hx hb hr hlocks hP hS ⟨(by first | rfl | (simp only [gB, opn, c_1, ↓reduceIte]; done) | (simp only [gB, opn, c_1, ↓reduceIte] <;> rfl) | (simp [gB, opn, c_1]; done)), rfl⟩ dX1_goesNow_27
  · skip
    refine lv_iconst (v := 1) hx hb dX1_goesNow_19 (by decide) ?_
    refine lv_goto (tgt := 24) hx hb dX1_goesNow_20 (by decide) ?_
    refine hd_callSi (As := [.int (M (5 + 6 * p + 0)), .int (M (5 + 6 * p + 2)), .int 1]) (rest := []) ⟨hx, hb, hml, hown, hts⟩ hE hP hS (c_X0_goesOf l G (sI u i M) (M (5 + 6 * p + 0)) (M (5 + 6 * p + 2)) true) rfl (va_cwS 3 hts gX1_goesNow_X0_goesOf rfl rfl rfl (by decide +kernel) ⟨Nat.le_of_ble_eq_true rfl, Nat.le_of_ble_eq_true rfl⟩) rfl hl.1 rfl (Nat.le_of_ble_eq_true rfl) dX1_goesNow_24 (fun rq_3 vq_3 H locs q_3 hP hS => ?_)
    have hP := hP.cast (q_3.2)
    refine lv_cast q_3.1 ?_
    exact hd_iret hx hb hr hlocks hP hS ⟨(by first | rfl | (simp only [gB, opn, c_1, ↓reduceIte]; done) | (simp only [gB, opn, c_1, ↓reduceIte] <;> rfl) | (simp [gB, opn, c_1]; done)), rfl⟩ dX1_goesNow_27
set_option maxHeartbeats 4000000 in
set_option maxRecDepth 100000 in
/-- Scene.holdsFor -/
theorem c_X1_holdsFor (l : Launch) (G : Geo) (u : Sg) (i : Nat) (hi : i < 3) (M : Nat → Int32) (p q : Nat) (hp : p < 8) (hq : q < 8) : CtI l G yX1_holdsFor wsX1_holdsFor (rmO 1 24) [.ref (gS G i), .int (nI p), .int (nI q)] (sI u i M) (fun r v => r = hF M p q ∧ v = sI u i M) := by
  refine CtI.of (cc := cX1_holdsFor) (maxL := 3) (ret := (some .int)) (own := RX1) (by decide) rfl rfl ?_
  rintro pg ev s0 mm below meth cd ⟨hx, hb, hr, hml, hown, hts, hlocks⟩ hE hP ls hl
  have hS : va_S (gA G) s0.heap s0.heap [] := va_S.rf
  have hl : lv_has ls 3 [(0, .ref (gS G i)), (1, .int (nI p)), (2, .int (nI q))] := hl
  have hin1 : ∀ w ∈ wsX10, w ∈ wsX1_holdsFor := by decide +kernel
  refine lv_aload_n hx hb dX1_holdsFor_0 rfl (lv_at hl 0 rfl) ?_
  refine sc_get hx hb hts hin1 hown hE hP hi (sI_at _ _ _) 5 (by decide) (hts (.fieldLink RX1 27 "HeldDoor$Scene" "kinds" "[I") (by decide +kernel)) (v := .ref (gSA G i 0)) rfl dX1_holdsFor_1 ?_
  refine lv_iload_n hx hb dX1_holdsFor_4 rfl (lv_at hl 1 rfl) ?_
  refine sc_ald hx hb hE hP hi (sI_at _ _ _) 0 (by decide) p (by omega) dX1_holdsFor_5 ?_
  refine lv_aload_n hx hb dX1_holdsFor_6 rfl (lv_at hl 0 rfl) ?_
  refine sc_get hx hb hts hin1 hown hE hP hi (sI_at _ _ _) 8 (by decide) (hts (.fieldLink RX1 37 "HeldDoor$Scene" "feet" "[I") (by decide +kernel)) (v := .ref (gSA G i 3)) rfl dX1_holdsFor_7 ?_
  refine lv_iload_n hx hb dX1_holdsFor_10 rfl (lv_at hl 2 rfl) ?_
  refine sc_ald hx hb hE hP hi (sI_at _ _ _) 3 (by decide) q (by omega) dX1_holdsFor_11 ?_
  refine lv_aload_n hx hb dX1_holdsFor_12 rfl (lv_at hl 0 rfl) ?_
  refine sc_get hx hb hts hin1 hown hE hP hi (sI_at _ _ _) 7 (by decide) (hts (.fieldLink RX1 34 "HeldDoor$Scene" "loads" "[I") (by decide +kernel)) (v := .ref (gSA G i 2)) rfl dX1_holdsFor_13 ?_
  refine lv_iload_n hx hb dX1_holdsFor_16 rfl (lv_at hl 2 rfl) ?_
  refine sc_ald hx hb hE hP hi (sI_at _ _ _) 2 (by decide) q (by omega) dX1_holdsFor_17 ?_
  refine lv_aload_n hx hb dX1_holdsFor_18 rfl (lv_at hl 0 rfl) ?_
  refine sc_get hx hb hts hin1 hown hE hP hi (sI_at _ _ _) 6 (by decide) (hts (.fieldLink RX1 31 "HeldDoor$Scene" "badges" "[I") (by decide +kernel)) (v := .ref (gSA G i 1)) rfl dX1_holdsFor_19 ?_
  refine lv_iload_n hx hb dX1_holdsFor_22 rfl (lv_at hl 2 rfl) ?_
  refine sc_ald hx hb hE hP hi (sI_at _ _ _) 1 (by decide) q (by omega) dX1_holdsFor_23 ?_
  refine hd_callSi (As := [.int (M (5 + 6 * p + 0)), .int (M (5 + 6 * q + 3)), .int (M (5 + 6 * q + 2)), .int (M (5 + 6 * q + 1))]) (rest := []) ⟨hx, hb, hml, hown, hts⟩ hE hP hS (c_X0_holdsOf l G (sI u i M) (M (5 + 6 * p + 0)) (M (5 + 6 * q + 3)) (M (5 + 6 * q + 2)) (M (5 + 6 * q + 1))) rfl (va_cwS 4 hts gX1_holdsFor_X0_holdsOf rfl rfl rfl (by decide +kernel) ⟨Nat.le_of_ble_eq_true rfl, Nat.le_of_ble_eq_true rfl⟩) rfl hl.1 rfl (Nat.le_of_ble_eq_true rfl) dX1_holdsFor_24 (fun rq_1 vq_1 H locs q_1 hP hS => ?_)
  have hP := hP.cast (q_1.2)
  refine lv_cast q_1.1 ?_
  exact hd_iret hx hb hr hlocks hP hS ⟨(by first | rfl | (simp only [hF, ↓reduceIte]; done) | (simp only [hF, ↓reduceIte] <;> rfl) | (simp [hF]; done)), rfl⟩ dX1_holdsFor_27
set_option maxHeartbeats 4000000 in
set_option maxRecDepth 100000 in
/-- Scene.isAsking -/
theorem c_X1_isAsking (l : Launch) (G : Geo) (u : Sg) (i : Nat) (hi : i < 3) (M : Nat → Int32) (p q : Nat) (hp : p < 8) (hq : q < 8) : CtI l G yX1_isAsking wsX1_isAsking (rmO 1 22) [.ref (gS G i), .int (nI p), .int (nI q)] (sI u i M) (fun r v => r = bI (aK M p q) ∧ v = sI u i M) := by
  refine CtI.of (cc := cX1_isAsking) (maxL := 3) (ret := (some .boolean)) (own := RX1) (by decide) rfl rfl ?_
  rintro pg ev s0 mm below meth cd ⟨hx, hb, hr, hml, hown, hts, hlocks⟩ hE hP ls hl
  have hS : va_S (gA G) s0.heap s0.heap [] := va_S.rf
  have hl : lv_has ls 3 [(0, .ref (gS G i)), (1, .int (nI p)), (2, .int (nI q))] := hl
  have hin1 : ∀ w ∈ wsX10, w ∈ wsX1_isAsking := by decide +kernel
  refine lv_aload_n hx hb dX1_isAsking_0 rfl (lv_at hl 0 rfl) ?_
  refine sc_get hx hb hts hin1 hown hE hP hi (sI_at _ _ _) 5 (by decide) (hts (.fieldLink RX1 27 "HeldDoor$Scene" "kinds" "[I") (by decide +kernel)) (v := .ref (gSA G i 0)) rfl dX1_isAsking_1 ?_
  refine lv_iload_n hx hb dX1_isAsking_4 rfl (lv_at hl 1 rfl) ?_
  refine sc_ald hx hb hE hP hi (sI_at _ _ _) 0 (by decide) p (by omega) dX1_isAsking_5 ?_
  refine lv_aload_n hx hb dX1_isAsking_6 rfl (lv_at hl 0 rfl) ?_
  refine sc_get hx hb hts hin1 hown hE hP hi (sI_at _ _ _) 1 (by decide) (hts (.fieldLink RX1 15 "HeldDoor$Scene" "care" "I") (by decide +kernel)) (v := .int (M 1)) rfl dX1_isAsking_7 ?_
  refine lv_aload_n hx hb dX1_isAsking_10 rfl (lv_at hl 0 rfl) ?_
  refine sc_get hx hb hts hin1 hown hE hP hi (sI_at _ _ _) 7 (by decide) (hts (.fieldLink RX1 34 "HeldDoor$Scene" "loads" "[I") (by decide +kernel)) (v := .ref (gSA G i 2)) rfl dX1_isAsking_11 ?_
  refine lv_iload_n hx hb dX1_isAsking_14 rfl (lv_at hl 2 rfl) ?_
  refine sc_ald hx hb hE hP hi (sI_at _ _ _) 2 (by decide) q (by omega) dX1_isAsking_15 ?_
  refine hd_callSi (As := [.int (M (5 + 6 * p + 0)), .int (M 1), .int (M (5 + 6 * q + 2))]) (rest := []) ⟨hx, hb, hml, hown, hts⟩ hE hP hS (c_X0_asksOf l G (sI u i M) (M (5 + 6 * p + 0)) (M 1) (M (5 + 6 * q + 2))) rfl (va_cwS 3 hts gX1_isAsking_X0_asksOf rfl rfl rfl (by decide +kernel) ⟨Nat.le_of_ble_eq_true rfl, Nat.le_of_ble_eq_true rfl⟩) rfl hl.1 rfl (Nat.le_of_ble_eq_true rfl) dX1_isAsking_16 (fun rq_1 vq_1 H locs q_1 hP hS => ?_)
  have hP := hP.cast (q_1.2)
  refine lv_cast q_1.1 ?_
  exact hd_zret hx hb hr hlocks hP hS ⟨(by first | rfl | (simp only [aK, ↓reduceIte]; done) | (simp only [aK, ↓reduceIte] <;> rfl) | (simp [aK]; done)), rfl⟩ bI_n dX1_isAsking_19
set_option maxHeartbeats 4000000 in
set_option maxRecDepth 100000 in
/-- Scene.changePlaces -/
theorem c_X1_changePlaces (l : Launch) (G : Geo) (u : Sg) (i : Nat) (hi : i < 3) (M : Nat → Int32) (p q : Nat) (hp : p < 8) (hq : q < 8) (hpq : p ≠ q) : CtV l G yX1_changePlaces wsX1_changePlaces (rmO 0 0) [.ref (gS G i), .int (nI p), .int (nI q)] (sI u i M) (fun v => v = sI u i (swp M p q)) := by
  refine CtV.of (cc := cX1_changePlaces) (maxL := 4) (ret := none) (own := RX1) (by decide) rfl rfl ?_
  rintro pg ev s0 mm below meth cd ⟨hx, hb, hr, hml, hown, hts, hlocks⟩ hE hP ls hl
  have hS : va_S (gA G) s0.heap s0.heap [] := va_S.rf
  have hl : lv_has ls 4 [(0, .ref (gS G i)), (1, .int (nI p)), (2, .int (nI q))] := hl
  have hin1 : ∀ w ∈ wsX10, w ∈ wsX1_changePlaces := by decide +kernel
  refine lv_aload_n hx hb dX1_changePlaces_0 rfl (lv_at hl 0 rfl) ?_
  refine sc_get hx hb hts hin1 hown hE hP hi (sI_at _ _ _) 8 (by decide) (hts (.fieldLink RX1 37 "HeldDoor$Scene" "feet" "[I") (by decide +kernel)) (v := .ref (gSA G i 3)) rfl dX1_changePlaces_1 ?_
  refine lv_iload_n hx hb dX1_changePlaces_4 rfl (lv_at hl 1 rfl) ?_
  refine sc_ald hx hb hE hP hi (sI_at _ _ _) 3 (by decide) p (by omega) dX1_changePlaces_5 ?_
  refine lv_istore_n (lv' := [(3, .int (M (5 + 6 * p + 3))), (0, .ref (gS G i)), (1, .int (nI p)), (2, .int (nI q))]) hx hb dX1_changePlaces_6 rfl hl (by decide) rfl (fun ls hl => ?_)
  refine lv_aload_n hx hb dX1_changePlaces_7 rfl (lv_at hl 1 rfl) ?_
  refine sc_get hx hb hts hin1 hown hE hP hi (sI_at _ _ _) 8 (by decide) (hts (.fieldLink RX1 37 "HeldDoor$Scene" "feet" "[I") (by decide +kernel)) (v := .ref (gSA G i 3)) rfl dX1_changePlaces_8 ?_
  refine lv_iload_n hx hb dX1_changePlaces_11 rfl (lv_at hl 2 rfl) ?_
  refine lv_aload_n hx hb dX1_changePlaces_12 rfl (lv_at hl 1 rfl) ?_
  refine sc_get hx hb hts hin1 hown hE hP hi (sI_at _ _ _) 8 (by decide) (hts (.fieldLink RX1 37 "HeldDoor$Scene" "feet" "[I") (by decide +kernel)) (v := .ref (gSA G i 3)) rfl dX1_changePlaces_13 ?_
  refine lv_iload_n hx hb dX1_changePlaces_16 rfl (lv_at hl 3 rfl) ?_
  refine sc_ald hx hb hE hP hi (sI_at _ _ _) 3 (by decide) q (by omega) dX1_changePlaces_17 ?_
  refine sc_ast hx hb hE hP hS hi (sI_at _ _ _) 3 (by decide) p (by omega) (sI_sI _ _ _ _) dX1_changePlaces_18 (fun H locs hP hS => ?_)
  refine lv_aload_n hx hb dX1_changePlaces_19 rfl (lv_at hl 1 rfl) ?_
  refine sc_get hx hb hts hin1 hown hE hP hi (sI_at _ _ _) 8 (by decide) (hts (.fieldLink RX1 37 "HeldDoor$Scene" "feet" "[I") (by decide +kernel)) (v := .ref (gSA G i 3)) rfl dX1_changePlaces_20 ?_
  refine lv_iload_n hx hb dX1_changePlaces_23 rfl (lv_at hl 3 rfl) ?_
  refine lv_iload_n hx hb dX1_changePlaces_24 rfl (lv_at hl 0 rfl) ?_
  refine sc_ast hx hb hE hP hS hi (sI_at _ _ _) 3 (by decide) q (by omega) (sI_sI _ _ _ _) dX1_changePlaces_25 (fun H locs hP hS => ?_)
  exact hd_vret hx hb hr hlocks hP hS rfl dX1_changePlaces_26
set_option maxHeartbeats 4000000 in
set_option maxRecDepth 100000 in
/-- Scene.add -/
theorem c_X1_add (l : Launch) (G : Geo) (u : Sg) (i : Nat) (hi : i < 3) (M : Nat → Int32) (n : Nat) (hn : M 4 = nI n) (h8 : n < 8) (k f : Int32) : CtI l G yX1_add wsX1_add (rmO 0 0) [.ref (gS G i), .int k, .int f] (sI u i M) (fun r v => r = nI n ∧ v = sI u i (adC M n k f)) := by
  refine CtI.of (cc := cX1_add) (maxL := 4) (ret := (some .int)) (own := RX1) (by decide) rfl rfl ?_
  rintro pg ev s0 mm below meth cd ⟨hx, hb, hr, hml, hown, hts, hlocks⟩ hE hP ls hl
  have hS : va_S (gA G) s0.heap s0.heap [] := va_S.rf
  have hl : lv_has ls 4 [(0, .ref (gS G i)), (1, .int k), (2, .int f)] := hl
  have hin1 : ∀ w ∈ wsX10, w ∈ wsX1_add := by decide +kernel
  refine lv_aload_n hx hb dX1_add_0 rfl (lv_at hl 0 rfl) ?_
  refine sc_get hx hb hts hin1 hown hE hP hi (sI_at _ _ _) 4 (by decide) (hts (.fieldLink RX1 24 "HeldDoor$Scene" "people" "I") (by decide +kernel)) (v := .int (M 4)) rfl dX1_add_1 ?_
  refine lv_cast hn ?_
  refine lv_istore_n (lv' := [(3, .int (nI n)), (0, .ref (gS G i)), (1, .int k), (2, .int f)]) hx hb dX1_add_4 rfl hl (by decide) rfl (fun ls hl => ?_)
  refine lv_aload_n hx hb dX1_add_5 rfl (lv_at hl 1 rfl) ?_
  refine sc_get hx hb hts hin1 hown hE hP hi (sI_at _ _ _) 5 (by decide) (hts (.fieldLink RX1 27 "HeldDoor$Scene" "kinds" "[I") (by decide +kernel)) (v := .ref (gSA G i 0)) rfl dX1_add_6 ?_
  refine lv_iload_n hx hb dX1_add_9 rfl (lv_at hl 0 rfl) ?_
  refine lv_iload_n hx hb dX1_add_10 rfl (lv_at hl 2 rfl) ?_
  refine sc_ast hx hb hE hP hS hi (sI_at _ _ _) 0 (by decide) n (by omega) (sI_sI _ _ _ _) dX1_add_11 (fun H locs hP hS => ?_)
  refine lv_aload_n hx hb dX1_add_12 rfl (lv_at hl 1 rfl) ?_
  refine sc_get hx hb hts hin1 hown hE hP hi (sI_at _ _ _) 6 (by decide) (hts (.fieldLink RX1 31 "HeldDoor$Scene" "badges" "[I") (by decide +kernel)) (v := .ref (gSA G i 1)) rfl dX1_add_13 ?_
  refine lv_iload_n hx hb dX1_add_16 rfl (lv_at hl 0 rfl) ?_
  refine lv_iconst (v := 1) hx hb dX1_add_17 (by decide) ?_
  refine sc_ast hx hb hE hP hS hi (sI_at _ _ _) 1 (by decide) n (by omega) (sI_sI _ _ _ _) dX1_add_18 (fun H locs hP hS => ?_)
  refine lv_aload_n hx hb dX1_add_19 rfl (lv_at hl 1 rfl) ?_
  refine sc_get hx hb hts hin1 hown hE hP hi (sI_at _ _ _) 7 (by decide) (hts (.fieldLink RX1 34 "HeldDoor$Scene" "loads" "[I") (by decide +kernel)) (v := .ref (gSA G i 2)) rfl dX1_add_20 ?_
  refine lv_iload_n hx hb dX1_add_23 rfl (lv_at hl 0 rfl) ?_
  refine lv_iconst (v := 0) hx hb dX1_add_24 (by decide) ?_
  refine sc_ast hx hb hE hP hS hi (sI_at _ _ _) 2 (by decide) n (by omega) (sI_sI _ _ _ _) dX1_add_25 (fun H locs hP hS => ?_)
  refine lv_aload_n hx hb dX1_add_26 rfl (lv_at hl 1 rfl) ?_
  refine sc_get hx hb hts hin1 hown hE hP hi (sI_at _ _ _) 8 (by decide) (hts (.fieldLink RX1 37 "HeldDoor$Scene" "feet" "[I") (by decide +kernel)) (v := .ref (gSA G i 3)) rfl dX1_add_27 ?_
  refine lv_iload_n hx hb dX1_add_30 rfl (lv_at hl 0 rfl) ?_
  refine lv_iload_n hx hb dX1_add_31 rfl (lv_at hl 3 rfl) ?_
  refine sc_ast hx hb hE hP hS hi (sI_at _ _ _) 3 (by decide) n (by omega) (sI_sI _ _ _ _) dX1_add_32 (fun H locs hP hS => ?_)
  refine lv_aload_n hx hb dX1_add_33 rfl (lv_at hl 1 rfl) ?_
  refine sc_get hx hb hts hin1 hown hE hP hi (sI_at _ _ _) 9 (by decide) (hts (.fieldLink RX1 40 "HeldDoor$Scene" "in" "[I") (by decide +kernel)) (v := .ref (gSA G i 4)) rfl dX1_add_34 ?_
  refine lv_iload_n hx hb dX1_add_37 rfl (lv_at hl 0 rfl) ?_
  refine lv_iconst (v := 0) hx hb dX1_add_38 (by decide) ?_
  refine sc_ast hx hb hE hP hS hi (sI_at _ _ _) 4 (by decide) n (by omega) (sI_sI _ _ _ _) dX1_add_39 (fun H locs hP hS => ?_)
  refine lv_aload_n hx hb dX1_add_40 rfl (lv_at hl 1 rfl) ?_
  refine sc_get hx hb hts hin1 hown hE hP hi (sI_at _ _ _) 10 (by decide) (hts (.fieldLink RX1 43 "HeldDoor$Scene" "asked" "[I") (by decide +kernel)) (v := .ref (gSA G i 5)) rfl dX1_add_41 ?_
  refine lv_iload_n hx hb dX1_add_44 rfl (lv_at hl 0 rfl) ?_
  refine lv_iconst (v := 0) hx hb dX1_add_45 (by decide) ?_
  refine sc_ast hx hb hE hP hS hi (sI_at _ _ _) 5 (by decide) n (by omega) (sI_sI _ _ _ _) dX1_add_46 (fun H locs hP hS => ?_)
  refine lv_aload_n hx hb dX1_add_47 rfl (lv_at hl 1 rfl) ?_
  refine lv_dup hx hb dX1_add_48 rfl ?_
  refine sc_get hx hb hts hin1 hown hE hP hi (sI_at _ _ _) 4 (by decide) (hts (.fieldLink RX1 24 "HeldDoor$Scene" "people" "I") (by decide +kernel)) (v := .int ((upd (upd (upd (upd (upd (upd M (5 + 6 * n + 0) k) (5 + 6 * n + 1) 1) (5 + 6 * n + 2) 0) (5 + 6 * n + 3) f) (5 + 6 * n + 4) 0) (5 + 6 * n + 5) 0) 4)) rfl dX1_add_49 ?_
  refine lv_cast (y := M 4) (by rw [up_ne _ _ (by omega), up_ne _ _ (by omega), up_ne _ _ (by omega), up_ne _ _ (by omega), up_ne _ _ (by omega), up_ne _ _ (by omega)]) ?_
  refine lv_cast hn ?_
  refine lv_iconst (v := 1) hx hb dX1_add_52 (by decide) ?_
  refine nn_iadd (a := n) (b := 1) hx hb dX1_add_53 ?_
  refine sc_put hx hb hts hin1 hown hE hP hS hi (sI_at _ _ _) 4 (by decide) (hts (.fieldLink RX1 24 "HeldDoor$Scene" "people" "I") (by decide +kernel)) (sI_sI _ _ _ _) dX1_add_54 (fun H locs hP hS => ?_)
  refine lv_iload_n hx hb dX1_add_57 rfl (lv_at hl 0 rfl) ?_
  exact hd_iret hx hb hr hlocks hP hS ⟨(by first | rfl | (simp only [↓reduceIte]; done) | (simp only [↓reduceIte] <;> rfl) | (simp []; done)), rfl⟩ dX1_add_58
