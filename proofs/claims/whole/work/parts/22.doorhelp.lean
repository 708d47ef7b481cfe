set_option maxHeartbeats 4000000 in
set_option maxRecDepth 100000 in
/-- isFrom -/
theorem c_X4_isFrom (l : Launch) (G : Geo) (u : Sg) (a b x : Int32) : CtI l G yX4_isFrom wsX4_isFrom (rmO 0 0) [.int a, .int b, .int x] u (fun r v => r = bI (inI x a b) ∧ v = u) := by
  refine CtI.of (cc := cX4_isFrom) (maxL := 3) (ret := (some .boolean)) (own := RX4) (by decide) rfl rfl ?_
  rintro pg ev s0 mm below meth cd ⟨hx, hb, hr, hml, hown, hts, hlocks⟩ hE hP ls hl
  have hS : va_S (gA G) s0.heap s0.heap [] := va_S.rf
  have hl : lv_has ls 3 [(0, .int a), (1, .int b), (2, .int x)] := hl
  refine lv_iload_n hx hb dX4_isFrom_0 rfl (lv_at hl 2 rfl) ?_
  refine lv_iload_n hx hb dX4_isFrom_1 rfl (lv_at hl 0 rfl) ?_
  refine lv_icmp_lt (tgt := 14) hx hb dX4_isFrom_2 (by decide) (fun c_1 => ?_) (fun c_1 => ?_)
  · skip
    refine lv_iconst (v := 0) hx hb dX4_isFrom_14 (by decide) ?_
    exact hd_zret hx hb hr hlocks hP hS ⟨(by first | rfl | (simp only [inI, bI, c_1, ↓reduceIte]; done) | (simp only [inI, bI, c_1, ↓reduceIte] <;> rfl) | (simp [inI, bI, c_1]; done)), rfl⟩ rfl dX4_isFrom_15
  · skip
    refine lv_iload_n hx hb dX4_isFrom_5 rfl (lv_at hl 2 rfl) ?_
    refine lv_iload_n hx hb dX4_isFrom_6 rfl (lv_at hl 1 rfl) ?_
    refine lv_icmp_gt (tgt := 14) hx hb dX4_isFrom_7 (by decide) (fun c_2 => ?_) (fun c_2 => ?_)
    · skip
      refine lv_iconst (v := 0) hx hb dX4_isFrom_14 (by decide) ?_
      exact hd_zret hx hb hr hlocks hP hS ⟨(by first | rfl | (simp only [inI, bI, c_1, c_2, ↓reduceIte]; done) | (simp only [inI, bI, c_1, c_2, ↓reduceIte] <;> rfl) | (simp [inI, bI, c_1, c_2]; done)), rfl⟩ rfl dX4_isFrom_15
    · skip
      refine lv_iconst (v := 1) hx hb dX4_isFrom_10 (by decide) ?_
      refine lv_goto (tgt := 15) hx hb dX4_isFrom_11 (by decide) ?_
      exact hd_zret hx hb hr hlocks hP hS ⟨(by first | rfl | (simp only [inI, bI, c_1, c_2, ↓reduceIte]; done) | (simp only [inI, bI, c_1, c_2, ↓reduceIte] <;> rfl) | (simp [inI, bI, c_1, c_2]; done)), rfl⟩ rfl dX4_isFrom_15
set_option maxHeartbeats 4000000 in
set_option maxRecDepth 100000 in
/-- isSheet -/
theorem c_X4_isSheet (l : Launch) (G : Geo) (u : Sg) (x : Int32) : CtI l G yX4_isSheet wsX4_isSheet (rmO 1 22) [.int x] u (fun r v => r = bI (inI x 0 3) ∧ v = u) := by
  refine CtI.of (cc := cX4_isSheet) (maxL := 1) (ret := (some .boolean)) (own := RX4) (by decide) rfl rfl ?_
  rintro pg ev s0 mm below meth cd ⟨hx, hb, hr, hml, hown, hts, hlocks⟩ hE hP ls hl
  have hS : va_S (gA G) s0.heap s0.heap [] := va_S.rf
  have hl : lv_has ls 1 [(0, .int x)] := hl
  refine lv_iconst (v := 0) hx hb dX4_isSheet_0 (by decide) ?_
  refine lv_iconst (v := 3) hx hb dX4_isSheet_1 (by decide) ?_
  refine lv_iload_n hx hb dX4_isSheet_2 rfl (lv_at hl 0 rfl) ?_
  refine hd_callSi (As := [.int 0, .int 3, .int x]) (rest := []) ⟨hx, hb, hml, hown, hts⟩ hE hP hS (c_X4_isFrom l G u 0 3 x) rfl (va_cwS 3 hts gX4_isSheet_X4_isFrom rfl rfl rfl (by decide +kernel) ⟨Nat.le_of_ble_eq_true rfl, Nat.le_of_ble_eq_true rfl⟩) rfl hl.1 rfl (Nat.le_of_ble_eq_true rfl) dX4_isSheet_3 (fun rq_1 vq_1 H locs q_1 hP hS => ?_)
  have hP := hP.cast (q_1.2)
  refine lv_cast q_1.1 ?_
  exact hd_zret hx hb hr hlocks hP hS ⟨(by first | rfl | (simp only [↓reduceIte]; done) | (simp only [↓reduceIte] <;> rfl) | (simp []; done)), rfl⟩ bI_n dX4_isSheet_6
set_option maxHeartbeats 4000000 in
set_option maxRecDepth 100000 in
/-- isWeighed -/
theorem c_X4_isWeighed (l : Launch) (G : Geo) (u : Sg) (x : Int32) : CtI l G yX4_isWeighed wsX4_isWeighed (rmO 1 22) [.int x] u (fun r v => r = bI (inI x 1 100) ∧ v = u) := by
  refine CtI.of (cc := cX4_isWeighed) (maxL := 1) (ret := (some .boolean)) (own := RX4) (by decide) rfl rfl ?_
  rintro pg ev s0 mm below meth cd ⟨hx, hb, hr, hml, hown, hts, hlocks⟩ hE hP ls hl
  have hS : va_S (gA G) s0.heap s0.heap [] := va_S.rf
  have hl : lv_has ls 1 [(0, .int x)] := hl
  refine lv_iconst (v := 1) hx hb dX4_isWeighed_0 (by decide) ?_
  refine lv_bipush (v := 100) hx hb dX4_isWeighed_1 (by decide) ?_
  refine lv_iload_n hx hb dX4_isWeighed_3 rfl (lv_at hl 0 rfl) ?_
  refine hd_callSi (As := [.int 1, .int 100, .int x]) (rest := []) ⟨hx, hb, hml, hown, hts⟩ hE hP hS (c_X4_isFrom l G u 1 100 x) rfl (va_cwS 3 hts gX4_isWeighed_X4_isFrom rfl rfl rfl (by decide +kernel) ⟨Nat.le_of_ble_eq_true rfl, Nat.le_of_ble_eq_true rfl⟩) rfl hl.1 rfl (Nat.le_of_ble_eq_true rfl) dX4_isWeighed_4 (fun rq_1 vq_1 H locs q_1 hP hS => ?_)
  have hP := hP.cast (q_1.2)
  refine lv_cast q_1.1 ?_
  exact hd_zret hx hb hr hlocks hP hS ⟨(by first | rfl | (simp only [↓reduceIte]; done) | (simp only [↓reduceIte] <;> rfl) | (simp []; done)), rfl⟩ bI_n dX4_isWeighed_7
set_option maxHeartbeats 4000000 in
set_option maxRecDepth 100000 in
/-- mostOf -/
theorem c_X4_mostOf (l : Launch) (G : Geo) (u : Sg) (x : Int32) : CtI l G yX4_mostOf wsX4_mostOf (rmO 0 0) [.int x] u (fun r v => r = mstO x ∧ v = u) := by
  refine CtI.of (cc := cX4_mostOf) (maxL := 1) (ret := (some .int)) (own := RX4) (by decide) rfl rfl ?_
  rintro pg ev s0 mm below meth cd ⟨hx, hb, hr, hml, hown, hts, hlocks⟩ hE hP ls hl
  have hS : va_S (gA G) s0.heap s0.heap [] := va_S.rf
  have hl : lv_has ls 1 [(0, .int x)] := hl
  refine lv_iload_n hx hb dX4_mostOf_0 rfl (lv_at hl 0 rfl) ?_
  by_cases k_1 : x = 2
  · refine lv_cast k_1 ?_
    refine lv_tableIn (tgt := 32) hx hb dX4_mostOf_1 (by decide) (by decide) rfl (by decide) ?_
    refine lv_bipush (v := 9) hx hb dX4_mostOf_32 (by decide) ?_
    exact hd_iret hx hb hr hlocks hP hS ⟨(by simp [mstO, k_1]), rfl⟩ dX4_mostOf_34
  by_cases k_2 : x = 3
  · refine lv_cast k_2 ?_
    refine lv_tableIn (tgt := 35) hx hb dX4_mostOf_1 (by decide) (by decide) rfl (by decide) ?_
    refine lv_sipush (v := 999) hx hb dX4_mostOf_35 (by decide) ?_
    exact hd_iret hx hb hr hlocks hP hS ⟨(by simp [mstO, k_1, k_2]), rfl⟩ dX4_mostOf_38
  by_cases k_3 : x = 4
  · refine lv_cast k_3 ?_
    refine lv_tableIn (tgt := 43) hx hb dX4_mostOf_1 (by decide) (by decide) rfl (by decide) ?_
    refine lv_iconst (v := 1) hx hb dX4_mostOf_43 (by decide) ?_
    exact hd_iret hx hb hr hlocks hP hS ⟨(by simp [mstO, k_1, k_2, k_3]), rfl⟩ dX4_mostOf_44
  by_cases k_4 : x = 5
  · refine lv_cast k_4 ?_
    refine lv_tableIn (tgt := 39) hx hb dX4_mostOf_1 (by decide) (by decide) rfl (by decide) ?_
    refine lv_sipush (v := 999) hx hb dX4_mostOf_39 (by decide) ?_
    exact hd_iret hx hb hr hlocks hP hS ⟨(by simp [mstO, k_1, k_2, k_3, k_4]), rfl⟩ dX4_mostOf_42
  refine lv_tableOut (tgt := 43) hx hb dX4_mostOf_1 (sw_out (lo := 2) (hi := 5) (by decide) (by decide) (fun k h1 h2 => by
    rcases (show k = 2 ∨ k = 3 ∨ k = 4 ∨ k = 5 by omega) with rfl | rfl | rfl | rfl
    · exact k_1
    · exact k_2
    · exact k_3
    · exact k_4
    )) (by decide) ?_
  refine lv_iconst (v := 1) hx hb dX4_mostOf_43 (by decide) ?_
  exact hd_iret hx hb hr hlocks hP hS ⟨(by simp [mstO, k_1, k_2, k_3, k_4]), rfl⟩ dX4_mostOf_44
set_option maxHeartbeats 4000000 in
set_option maxRecDepth 100000 in
/-- isPerson -/
theorem c_X4_isPerson (l : Launch) (G : Geo) (u : Sg) (M : Nat → Int32) (h0 : u.1 0 = M) (x : Int32) : CtI l G yX4_isPerson wsX4_isPerson (rmO 1 22) [.ref (gad G 0), .int x] u (fun r v => r = bI (isPe M x) ∧ v = u) := by
  refine CtI.of (cc := cX4_isPerson) (maxL := 2) (ret := (some .boolean)) (own := RX4) (by decide) rfl rfl ?_
  rintro pg ev s0 mm below meth cd ⟨hx, hb, hr, hml, hown, hts, hlocks⟩ hE hP ls hl
  have hS : va_S (gA G) s0.heap s0.heap [] := va_S.rf
  have hl : lv_has ls 2 [(0, .ref (gad G 0)), (1, .int x)] := hl
  have hin1 : ∀ w ∈ wsX10, w ∈ wsX4_isPerson := by decide +kernel
  have hin4 : ∀ w ∈ wsX40, w ∈ wsX4_isPerson := by decide +kernel
  refine lv_iconst (v := 0) hx hb dX4_isPerson_0 (by decide) ?_
  refine lv_aload_n hx hb dX4_isPerson_1 rfl (lv_at hl 0 rfl) ?_
  refine do_get hx hb hts hin4 hown hE hP rfl 0 (by decide) (hts (.fieldLink RX4 10 "HeldDoor" "scene" "LHeldDoor$Scene;") (by decide +kernel)) (v := .ref (gS G 0)) rfl dX4_isPerson_2 ?_
  refine sc_get hx hb hts hin1 hown hE hP (by decide) h0 4 (by decide) (hts (.fieldLink RX4 157 "HeldDoor$Scene" "people" "I") (by decide +kernel)) (v := .int (M 4)) rfl dX4_isPerson_5 ?_
  refine lv_iconst (v := 1) hx hb dX4_isPerson_8 (by decide) ?_
  refine lv_isub hx hb dX4_isPerson_9 ?_
  refine lv_iload_n hx hb dX4_isPerson_10 rfl (lv_at hl 1 rfl) ?_
  refine hd_callSi (As := [.int 0, .int ((M 4) - 1), .int x]) (rest := []) ⟨hx, hb, hml, hown, hts⟩ hE hP hS (c_X4_isFrom l G u 0 ((M 4) - 1) x) rfl (va_cwS 3 hts gX4_isPerson_X4_isFrom rfl rfl rfl (by decide +kernel) ⟨Nat.le_of_ble_eq_true rfl, Nat.le_of_ble_eq_true rfl⟩) rfl hl.1 rfl (Nat.le_of_ble_eq_true rfl) dX4_isPerson_11 (fun rq_1 vq_1 H locs q_1 hP hS => ?_)
  have hP := hP.cast (q_1.2)
  refine lv_cast q_1.1 ?_
  exact hd_zret hx hb hr hlocks hP hS ⟨(by first | rfl | (simp only [isPe, ↓reduceIte]; done) | (simp only [isPe, ↓reduceIte] <;> rfl) | (simp [isPe]; done)), rfl⟩ bI_n dX4_isPerson_14
set_option maxHeartbeats 4000000 in
set_option maxRecDepth 100000 in
/-- isPair -/
theorem c_X4_isPair (l : Launch) (G : Geo) (u : Sg) (M : Nat → Int32) (h0 : u.1 0 = M) (x y : Int32) : CtI l G yX4_isPair wsX4_isPair (rmO 2 43) [.ref (gad G 0), .int x, .int y] u (fun r v => r = bI (prB M x y) ∧ v = u) := by
  refine CtI.of (cc := cX4_isPair) (maxL := 3) (ret := (some .boolean)) (own := RX4) (by decide) rfl rfl ?_
  rintro pg ev s0 mm below meth cd ⟨hx, hb, hr, hml, hown, hts, hlocks⟩ hE hP ls hl
  have hS : va_S (gA G) s0.heap s0.heap [] := va_S.rf
  have hl : lv_has ls 3 [(0, .ref (gad G 0)), (1, .int x), (2, .int y)] := hl
  refine lv_aload_n hx hb dX4_isPair_0 rfl (lv_at hl 0 rfl) ?_
  refine lv_iload_n hx hb dX4_isPair_1 rfl (lv_at hl 1 rfl) ?_
  refine hd_callVi (As := [.int x]) (rest := []) ⟨hx, hb, hml, hown, hts⟩ hE hP hS (c_X4_isPerson l G u M h0 x) rfl (cwV 1 hts gX4_isPair_X4_isPerson rfl rfl rfl (by decide +kernel) ⟨Nat.le_of_ble_eq_true rfl, Nat.le_of_ble_eq_true rfl⟩) (do_recv hE hP) rfl hl.1 rfl (Nat.le_of_ble_eq_true rfl) dX4_isPair_2 (fun rq_1 vq_1 H locs q_1 hP hS => ?_)
  have hP := hP.cast (q_1.2)
  refine lv_cast q_1.1 ?_
  refine bo_eq (tgt := 25) hx hb dX4_isPair_5 (by decide) (fun c_2 => ?_) (fun c_2 => ?_)
  · skip
    refine lv_iconst (v := 0) hx hb dX4_isPair_25 (by decide) ?_
    exact hd_zret hx hb hr hlocks hP hS ⟨(by first | rfl | (simp only [prB, bI, c_2, ↓reduceIte]; done) | (simp only [prB, bI, c_2, ↓reduceIte] <;> rfl) | (simp [prB, bI, c_2]; done)), rfl⟩ rfl dX4_isPair_26
  · skip
    refine lv_aload_n hx hb dX4_isPair_8 rfl (lv_at hl 0 rfl) ?_
    refine lv_iload_n hx hb dX4_isPair_9 rfl (lv_at hl 2 rfl) ?_
    refine hd_callVi (As := [.int y]) (rest := []) ⟨hx, hb, hml, hown, hts⟩ hE hP hS (c_X4_isPerson l G u M h0 y) rfl (cwV 1 hts gX4_isPair_X4_isPerson rfl rfl rfl (by decide +kernel) ⟨Nat.le_of_ble_eq_true rfl, Nat.le_of_ble_eq_true rfl⟩) (do_recv hE hP) rfl hl.1 rfl (Nat.le_of_ble_eq_true rfl) dX4_isPair_10 (fun rq_3 vq_3 H locs q_3 hP hS => ?_)
    have hP := hP.cast (q_3.2)
    refine lv_cast q_3.1 ?_
    refine bo_eq (tgt := 25) hx hb dX4_isPair_13 (by decide) (fun c_4 => ?_) (fun c_4 => ?_)
    · skip
      refine lv_iconst (v := 0) hx hb dX4_isPair_25 (by decide) ?_
      exact hd_zret hx hb hr hlocks hP hS ⟨(by first | rfl | (simp only [prB, bI, c_2, c_4, ↓reduceIte]; done) | (simp only [prB, bI, c_2, c_4, ↓reduceIte] <;> rfl) | (simp [prB, bI, c_2, c_4]; done)), rfl⟩ rfl dX4_isPair_26
    · skip
      refine lv_iload_n hx hb dX4_isPair_16 rfl (lv_at hl 1 rfl) ?_
      refine lv_iload_n hx hb dX4_isPair_17 rfl (lv_at hl 2 rfl) ?_
      refine lv_icmp_eq (tgt := 25) hx hb dX4_isPair_18 (by decide) (fun c_5 => ?_) (fun c_5 => ?_)
      · skip
        refine lv_iconst (v := 0) hx hb dX4_isPair_25 (by decide) ?_
        exact hd_zret hx hb hr hlocks hP hS ⟨(by first | rfl | (simp only [prB, bI, c_2, c_4, c_5, ↓reduceIte]; done) | (simp only [prB, bI, c_2, c_4, c_5, ↓reduceIte] <;> rfl) | (simp [prB, bI, c_2, c_4, c_5]; done)), rfl⟩ rfl dX4_isPair_26
      · skip
        refine lv_iconst (v := 1) hx hb dX4_isPair_21 (by decide) ?_
        refine lv_goto (tgt := 26) hx hb dX4_isPair_22 (by decide) ?_
        exact hd_zret hx hb hr hlocks hP hS ⟨(by first | rfl | (simp only [prB, bI, c_2, c_4, c_5, ↓reduceIte]; done) | (simp only [prB, bI, c_2, c_4, c_5, ↓reduceIte] <;> rfl) | (simp [prB, bI, c_2, c_4, c_5]; done)), rfl⟩ rfl dX4_isPair_26
set_option maxHeartbeats 4000000 in
set_option maxRecDepth 100000 in
/-- found: 0 -/
theorem c_X4_found_0 (l : Launch) (G : Geo) (u : Sg) (F : Nat → Int32) (h6 : u.1 6 = F) : CtI l G yX4_found wsX4_found (rmO 1 22) [.ref (gad G 0), .int (-1000000001)] u (fun r v => r = -1000000001 ∧ v = sI u 6 (bmp F 0)) := by
  refine CtI.of (cc := cX4_found) (maxL := 3) (ret := (some .int)) (own := RX4) (by decide) rfl rfl ?_
  rintro pg ev s0 mm below meth cd ⟨hx, hb, hr, hml, hown, hts, hlocks⟩ hE hP ls hl
  have hS : va_S (gA G) s0.heap s0.heap [] := va_S.rf
  have hl : lv_has ls 3 [(0, .ref (gad G 0)), (1, .int (-1000000001))] := hl
  have hin4 : ∀ w ∈ wsX40, w ∈ wsX4_found := by decide +kernel
  refine lv_ldc (v := (-1000000001)) hx hb hown (hts (.constant RX4 55 ((-1000000001))) (by decide +kernel)) dX4_found_0 ?_
  refine lv_iload_n hx hb dX4_found_2 rfl (lv_at hl 1 rfl) ?_
  refine lv_isub hx hb dX4_found_3 ?_
  refine lv_cast (y := 0) (by decide) ?_
  refine lv_istore_n (lv' := [(2, .int 0), (0, .ref (gad G 0)), (1, .int (-1000000001))]) hx hb dX4_found_4 rfl hl (by decide) rfl (fun ls hl => ?_)
  refine lv_iconst (v := 0) hx hb dX4_found_5 (by decide) ?_
  refine lv_bipush (v := 6) hx hb dX4_found_6 (by decide) ?_
  refine lv_iload_n hx hb dX4_found_8 rfl (lv_at hl 0 rfl) ?_
  refine hd_callSi (As := [.int 0, .int 6, .int 0]) (rest := []) ⟨hx, hb, hml, hown, hts⟩ hE hP hS (c_X4_isFrom l G u 0 6 0) rfl (va_cwS 3 hts gX4_found_X4_isFrom rfl rfl rfl (by decide +kernel) ⟨Nat.le_of_ble_eq_true rfl, Nat.le_of_ble_eq_true rfl⟩) rfl hl.1 rfl (Nat.le_of_ble_eq_true rfl) dX4_found_9 (fun rq_1 vq_1 H locs q_1 hP hS => ?_)
  have hP := hP.cast (q_1.2)
  refine lv_cast q_1.1 ?_
  refine bo_eq (tgt := 25) hx hb dX4_found_12 (by decide) (fun c_2 => absurd c_2 (by decide)) (fun c_2 => ?_)
  refine lv_aload_n hx hb dX4_found_15 rfl (lv_at hl 1 rfl) ?_
  refine do_get hx hb hts hin4 hown hE hP rfl 6 (by decide) (hts (.fieldLink RX4 40 "HeldDoor" "findings" "[I") (by decide +kernel)) (v := .ref (gad G 25)) rfl dX4_found_16 ?_
  refine lv_iload_n hx hb dX4_found_19 rfl (lv_at hl 0 rfl) ?_
  refine lv_dup2_11 hx hb dX4_found_20 rfl rfl ?_
  refine ar_ld hx hb hE hP 25 7 (by decide) (ar_at25 h6) 0 (by omega) dX4_found_21 ?_
  refine lv_iconst (v := 1) hx hb dX4_found_22 (by decide) ?_
  refine lv_iadd hx hb dX4_found_23 ?_
  refine ar_st hx hb hE hP hS 25 7 (by decide) (ar_at25 h6) (ar_set25 _ _) 0 (by omega) rfl dX4_found_24 (fun H locs hP hS => ?_)
  refine lv_iload_n hx hb dX4_found_25 rfl (lv_at hl 2 rfl) ?_
  exact hd_iret hx hb hr hlocks hP hS ⟨rfl, rfl⟩ dX4_found_26
set_option maxHeartbeats 4000000 in
set_option maxRecDepth 100000 in
/-- found: 1 -/
theorem c_X4_found_1 (l : Launch) (G : Geo) (u : Sg) (F : Nat → Int32) (h6 : u.1 6 = F) : CtI l G yX4_found wsX4_found (rmO 1 22) [.ref (gad G 0), .int (-1000000002)] u (fun r v => r = -1000000002 ∧ v = sI u 6 (bmp F 1)) := by
  refine CtI.of (cc := cX4_found) (maxL := 3) (ret := (some .int)) (own := RX4) (by decide) rfl rfl ?_
  rintro pg ev s0 mm below meth cd ⟨hx, hb, hr, hml, hown, hts, hlocks⟩ hE hP ls hl
  have hS : va_S (gA G) s0.heap s0.heap [] := va_S.rf
  have hl : lv_has ls 3 [(0, .ref (gad G 0)), (1, .int (-1000000002))] := hl
  have hin4 : ∀ w ∈ wsX40, w ∈ wsX4_found := by decide +kernel
  refine lv_ldc (v := (-1000000001)) hx hb hown (hts (.constant RX4 55 ((-1000000001))) (by decide +kernel)) dX4_found_0 ?_
  refine lv_iload_n hx hb dX4_found_2 rfl (lv_at hl 1 rfl) ?_
  refine lv_isub hx hb dX4_found_3 ?_
  refine lv_cast (y := 1) (by decide) ?_
  refine lv_istore_n (lv' := [(2, .int 1), (0, .ref (gad G 0)), (1, .int (-1000000002))]) hx hb dX4_found_4 rfl hl (by decide) rfl (fun ls hl => ?_)
  refine lv_iconst (v := 0) hx hb dX4_found_5 (by decide) ?_
  refine lv_bipush (v := 6) hx hb dX4_found_6 (by decide) ?_
  refine lv_iload_n hx hb dX4_found_8 rfl (lv_at hl 0 rfl) ?_
  refine hd_callSi (As := [.int 0, .int 6, .int 1]) (rest := []) ⟨hx, hb, hml, hown, hts⟩ hE hP hS (c_X4_isFrom l G u 0 6 1) rfl (va_cwS 3 hts gX4_found_X4_isFrom rfl rfl rfl (by decide +kernel) ⟨Nat.le_of_ble_eq_true rfl, Nat.le_of_ble_eq_true rfl⟩) rfl hl.1 rfl (Nat.le_of_ble_eq_true rfl) dX4_found_9 (fun rq_1 vq_1 H locs q_1 hP hS => ?_)
  have hP := hP.cast (q_1.2)
  refine lv_cast q_1.1 ?_
  refine bo_eq (tgt := 25) hx hb dX4_found_12 (by decide) (fun c_2 => absurd c_2 (by decide)) (fun c_2 => ?_)
  refine lv_aload_n hx hb dX4_found_15 rfl (lv_at hl 1 rfl) ?_
  refine do_get hx hb hts hin4 hown hE hP rfl 6 (by decide) (hts (.fieldLink RX4 40 "HeldDoor" "findings" "[I") (by decide +kernel)) (v := .ref (gad G 25)) rfl dX4_found_16 ?_
  refine lv_iload_n hx hb dX4_found_19 rfl (lv_at hl 0 rfl) ?_
  refine lv_dup2_11 hx hb dX4_found_20 rfl rfl ?_
  refine ar_ld hx hb hE hP 25 7 (by decide) (ar_at25 h6) 1 (by omega) dX4_found_21 ?_
  refine lv_iconst (v := 1) hx hb dX4_found_22 (by decide) ?_
  refine lv_iadd hx hb dX4_found_23 ?_
  refine ar_st hx hb hE hP hS 25 7 (by decide) (ar_at25 h6) (ar_set25 _ _) 1 (by omega) rfl dX4_found_24 (fun H locs hP hS => ?_)
  refine lv_iload_n hx hb dX4_found_25 rfl (lv_at hl 2 rfl) ?_
  exact hd_iret hx hb hr hlocks hP hS ⟨rfl, rfl⟩ dX4_found_26
set_option maxHeartbeats 4000000 in
set_option maxRecDepth 100000 in
/-- found: 2 -/
theorem c_X4_found_2 (l : Launch) (G : Geo) (u : Sg) (F : Nat → Int32) (h6 : u.1 6 = F) : CtI l G yX4_found wsX4_found (rmO 1 22) [.ref (gad G 0), .int (-1000000003)] u (fun r v => r = -1000000003 ∧ v = sI u 6 (bmp F 2)) := by
  refine CtI.of (cc := cX4_found) (maxL := 3) (ret := (some .int)) (own := RX4) (by decide) rfl rfl ?_
  rintro pg ev s0 mm below meth cd ⟨hx, hb, hr, hml, hown, hts, hlocks⟩ hE hP ls hl
  have hS : va_S (gA G) s0.heap s0.heap [] := va_S.rf
  have hl : lv_has ls 3 [(0, .ref (gad G 0)), (1, .int (-1000000003))] := hl
  have hin4 : ∀ w ∈ wsX40, w ∈ wsX4_found := by decide +kernel
  refine lv_ldc (v := (-1000000001)) hx hb hown (hts (.constant RX4 55 ((-1000000001))) (by decide +kernel)) dX4_found_0 ?_
  refine lv_iload_n hx hb dX4_found_2 rfl (lv_at hl 1 rfl) ?_
  refine lv_isub hx hb dX4_found_3 ?_
  refine lv_cast (y := 2) (by decide) ?_
  refine lv_istore_n (lv' := [(2, .int 2), (0, .ref (gad G 0)), (1, .int (-1000000003))]) hx hb dX4_found_4 rfl hl (by decide) rfl (fun ls hl => ?_)
  refine lv_iconst (v := 0) hx hb dX4_found_5 (by decide) ?_
  refine lv_bipush (v := 6) hx hb dX4_found_6 (by decide) ?_
  refine lv_iload_n hx hb dX4_found_8 rfl (lv_at hl 0 rfl) ?_
  refine hd_callSi (As := [.int 0, .int 6, .int 2]) (rest := []) ⟨hx, hb, hml, hown, hts⟩ hE hP hS (c_X4_isFrom l G u 0 6 2) rfl (va_cwS 3 hts gX4_found_X4_isFrom rfl rfl rfl (by decide +kernel) ⟨Nat.le_of_ble_eq_true rfl, Nat.le_of_ble_eq_true rfl⟩) rfl hl.1 rfl (Nat.le_of_ble_eq_true rfl) dX4_found_9 (fun rq_1 vq_1 H locs q_1 hP hS => ?_)
  have hP := hP.cast (q_1.2)
  refine lv_cast q_1.1 ?_
  refine bo_eq (tgt := 25) hx hb dX4_found_12 (by decide) (fun c_2 => absurd c_2 (by decide)) (fun c_2 => ?_)
  refine lv_aload_n hx hb dX4_found_15 rfl (lv_at hl 1 rfl) ?_
  refine do_get hx hb hts hin4 hown hE hP rfl 6 (by decide) (hts (.fieldLink RX4 40 "HeldDoor" "findings" "[I") (by decide +kernel)) (v := .ref (gad G 25)) rfl dX4_found_16 ?_
  refine lv_iload_n hx hb dX4_found_19 rfl (lv_at hl 0 rfl) ?_
  refine lv_dup2_11 hx hb dX4_found_20 rfl rfl ?_
  refine ar_ld hx hb hE hP 25 7 (by decide) (ar_at25 h6) 2 (by omega) dX4_found_21 ?_
  refine lv_iconst (v := 1) hx hb dX4_found_22 (by decide) ?_
  refine lv_iadd hx hb dX4_found_23 ?_
  refine ar_st hx hb hE hP hS 25 7 (by decide) (ar_at25 h6) (ar_set25 _ _) 2 (by omega) rfl dX4_found_24 (fun H locs hP hS => ?_)
  refine lv_iload_n hx hb dX4_found_25 rfl (lv_at hl 2 rfl) ?_
  exact hd_iret hx hb hr hlocks hP hS ⟨rfl, rfl⟩ dX4_found_26
set_option maxHeartbeats 4000000 in
set_option maxRecDepth 100000 in
/-- found: 3 -/
theorem c_X4_found_3 (l : Launch) (G : Geo) (u : Sg) (F : Nat → Int32) (h6 : u.1 6 = F) : CtI l G yX4_found wsX4_found (rmO 1 22) [.ref (gad G 0), .int (-1000000004)] u (fun r v => r = -1000000004 ∧ v = sI u 6 (bmp F 3)) := by
  refine CtI.of (cc := cX4_found) (maxL := 3) (ret := (some .int)) (own := RX4) (by decide) rfl rfl ?_
  rintro pg ev s0 mm below meth cd ⟨hx, hb, hr, hml, hown, hts, hlocks⟩ hE hP ls hl
  have hS : va_S (gA G) s0.heap s0.heap [] := va_S.rf
  have hl : lv_has ls 3 [(0, .ref (gad G 0)), (1, .int (-1000000004))] := hl
  have hin4 : ∀ w ∈ wsX40, w ∈ wsX4_found := by decide +kernel
  refine lv_ldc (v := (-1000000001)) hx hb hown (hts (.constant RX4 55 ((-1000000001))) (by decide +kernel)) dX4_found_0 ?_
  refine lv_iload_n hx hb dX4_found_2 rfl (lv_at hl 1 rfl) ?_
  refine lv_isub hx hb dX4_found_3 ?_
  refine lv_cast (y := 3) (by decide) ?_
  refine lv_istore_n (lv' := [(2, .int 3), (0, .ref (gad G 0)), (1, .int (-1000000004))]) hx hb dX4_found_4 rfl hl (by decide) rfl (fun ls hl => ?_)
  refine lv_iconst (v := 0) hx hb dX4_found_5 (by decide) ?_
  refine lv_bipush (v := 6) hx hb dX4_found_6 (by decide) ?_
  refine lv_iload_n hx hb dX4_found_8 rfl (lv_at hl 0 rfl) ?_
  refine hd_callSi (As := [.int 0, .int 6, .int 3]) (rest := []) ⟨hx, hb, hml, hown, hts⟩ hE hP hS (c_X4_isFrom l G u 0 6 3) rfl (va_cwS 3 hts gX4_found_X4_isFrom rfl rfl rfl (by decide +kernel) ⟨Nat.le_of_ble_eq_true rfl, Nat.le_of_ble_eq_true rfl⟩) rfl hl.1 rfl (Nat.le_of_ble_eq_true rfl) dX4_found_9 (fun rq_1 vq_1 H locs q_1 hP hS => ?_)
  have hP := hP.cast (q_1.2)
  refine lv_cast q_1.1 ?_
  refine bo_eq (tgt := 25) hx hb dX4_found_12 (by decide) (fun c_2 => absurd c_2 (by decide)) (fun c_2 => ?_)
  refine lv_aload_n hx hb dX4_found_15 rfl (lv_at hl 1 rfl) ?_
  refine do_get hx hb hts hin4 hown hE hP rfl 6 (by decide) (hts (.fieldLink RX4 40 "HeldDoor" "findings" "[I") (by decide +kernel)) (v := .ref (gad G 25)) rfl dX4_found_16 ?_
  refine lv_iload_n hx hb dX4_found_19 rfl (lv_at hl 0 rfl) ?_
  refine lv_dup2_11 hx hb dX4_found_20 rfl rfl ?_
  refine ar_ld hx hb hE hP 25 7 (by decide) (ar_at25 h6) 3 (by omega) dX4_found_21 ?_
  refine lv_iconst (v := 1) hx hb dX4_found_22 (by decide) ?_
  refine lv_iadd hx hb dX4_found_23 ?_
  refine ar_st hx hb hE hP hS 25 7 (by decide) (ar_at25 h6) (ar_set25 _ _) 3 (by omega) rfl dX4_found_24 (fun H locs hP hS => ?_)
  refine lv_iload_n hx hb dX4_found_25 rfl (lv_at hl 2 rfl) ?_
  exact hd_iret hx hb hr hlocks hP hS ⟨rfl, rfl⟩ dX4_found_26
set_option maxHeartbeats 4000000 in
set_option maxRecDepth 100000 in
/-- found: 4 -/
theorem c_X4_found_4 (l : Launch) (G : Geo) (u : Sg) (F : Nat → Int32) (h6 : u.1 6 = F) : CtI l G yX4_found wsX4_found (rmO 1 22) [.ref (gad G 0), .int (-1000000005)] u (fun r v => r = -1000000005 ∧ v = sI u 6 (bmp F 4)) := by
  refine CtI.of (cc := cX4_found) (maxL := 3) (ret := (some .int)) (own := RX4) (by decide) rfl rfl ?_
  rintro pg ev s0 mm below meth cd ⟨hx, hb, hr, hml, hown, hts, hlocks⟩ hE hP ls hl
  have hS : va_S (gA G) s0.heap s0.heap [] := va_S.rf
  have hl : lv_has ls 3 [(0, .ref (gad G 0)), (1, .int (-1000000005))] := hl
  have hin4 : ∀ w ∈ wsX40, w ∈ wsX4_found := by decide +kernel
  refine lv_ldc (v := (-1000000001)) hx hb hown (hts (.constant RX4 55 ((-1000000001))) (by decide +kernel)) dX4_found_0 ?_
  refine lv_iload_n hx hb dX4_found_2 rfl (lv_at hl 1 rfl) ?_
  refine lv_isub hx hb dX4_found_3 ?_
  refine lv_cast (y := 4) (by decide) ?_
  refine lv_istore_n (lv' := [(2, .int 4), (0, .ref (gad G 0)), (1, .int (-1000000005))]) hx hb dX4_found_4 rfl hl (by decide) rfl (fun ls hl => ?_)
  refine lv_iconst (v := 0) hx hb dX4_found_5 (by decide) ?_
  refine lv_bipush (v := 6) hx hb dX4_found_6 (by decide) ?_
  refine lv_iload_n hx hb dX4_found_8 rfl (lv_at hl 0 rfl) ?_
  refine hd_callSi (As := [.int 0, .int 6, .int 4]) (rest := []) ⟨hx, hb, hml, hown, hts⟩ hE hP hS (c_X4_isFrom l G u 0 6 4) rfl (va_cwS 3 hts gX4_found_X4_isFrom rfl rfl rfl (by decide +kernel) ⟨Nat.le_of_ble_eq_true rfl, Nat.le_of_ble_eq_true rfl⟩) rfl hl.1 rfl (Nat.le_of_ble_eq_true rfl) dX4_found_9 (fun rq_1 vq_1 H locs q_1 hP hS => ?_)
  have hP := hP.cast (q_1.2)
  refine lv_cast q_1.1 ?_
  refine bo_eq (tgt := 25) hx hb dX4_found_12 (by decide) (fun c_2 => absurd c_2 (by decide)) (fun c_2 => ?_)
  refine lv_aload_n hx hb dX4_found_15 rfl (lv_at hl 1 rfl) ?_
  refine do_get hx hb hts hin4 hown hE hP rfl 6 (by decide) (hts (.fieldLink RX4 40 "HeldDoor" "findings" "[I") (by decide +kernel)) (v := .ref (gad G 25)) rfl dX4_found_16 ?_
  refine lv_iload_n hx hb dX4_found_19 rfl (lv_at hl 0 rfl) ?_
  refine lv_dup2_11 hx hb dX4_found_20 rfl rfl ?_
  refine ar_ld hx hb hE hP 25 7 (by decide) (ar_at25 h6) 4 (by omega) dX4_found_21 ?_
  refine lv_iconst (v := 1) hx hb dX4_found_22 (by decide) ?_
  refine lv_iadd hx hb dX4_found_23 ?_
  refine ar_st hx hb hE hP hS 25 7 (by decide) (ar_at25 h6) (ar_set25 _ _) 4 (by omega) rfl dX4_found_24 (fun H locs hP hS => ?_)
  refine lv_iload_n hx hb dX4_found_25 rfl (lv_at hl 2 rfl) ?_
  exact hd_iret hx hb hr hlocks hP hS ⟨rfl, rfl⟩ dX4_found_26
set_option maxHeartbeats 4000000 in
set_option maxRecDepth 100000 in
/-- found: 5 -/
theorem c_X4_found_5 (l : Launch) (G : Geo) (u : Sg) (F : Nat → Int32) (h6 : u.1 6 = F) : CtI l G yX4_found wsX4_found (rmO 1 22) [.ref (gad G 0), .int (-1000000006)] u (fun r v => r = -1000000006 ∧ v = sI u 6 (bmp F 5)) := by
  refine CtI.of (cc := cX4_found) (maxL := 3) (ret := (some .int)) (own := RX4) (by decide) rfl rfl ?_
  rintro pg ev s0 mm below meth cd ⟨hx, hb, hr, hml, hown, hts, hlocks⟩ hE hP ls hl
  have hS : va_S (gA G) s0.heap s0.heap [] := va_S.rf
  have hl : lv_has ls 3 [(0, .ref (gad G 0)), (1, .int (-1000000006))] := hl
  have hin4 : ∀ w ∈ wsX40, w ∈ wsX4_found := by decide +kernel
  refine lv_ldc (v := (-1000000001)) hx hb hown (hts (.constant RX4 55 ((-1000000001))) (by decide +kernel)) dX4_found_0 ?_
  refine lv_iload_n hx hb dX4_found_2 rfl (lv_at hl 1 rfl) ?_
  refine lv_isub hx hb dX4_found_3 ?_
  refine lv_cast (y := 5) (by decide) ?_
  refine lv_istore_n (lv' := [(2, .int 5), (0, .ref (gad G 0)), (1, .int (-1000000006))]) hx hb dX4_found_4 rfl hl (by decide) rfl (fun ls hl => ?_)
  refine lv_iconst (v := 0) hx hb dX4_found_5 (by decide) ?_
  refine lv_bipush (v := 6) hx hb dX4_found_6 (by decide) ?_
  refine lv_iload_n hx hb dX4_found_8 rfl (lv_at hl 0 rfl) ?_
  refine hd_callSi (As := [.int 0, .int 6, .int 5]) (rest := []) ⟨hx, hb, hml, hown, hts⟩ hE hP hS (c_X4_isFrom l G u 0 6 5) rfl (va_cwS 3 hts gX4_found_X4_isFrom rfl rfl rfl (by decide +kernel) ⟨Nat.le_of_ble_eq_true rfl, Nat.le_of_ble_eq_true rfl⟩) rfl hl.1 rfl (Nat.le_of_ble_eq_true rfl) dX4_found_9 (fun rq_1 vq_1 H locs q_1 hP hS => ?_)
  have hP := hP.cast (q_1.2)
  refine lv_cast q_1.1 ?_
  refine bo_eq (tgt := 25) hx hb dX4_found_12 (by decide) (fun c_2 => absurd c_2 (by decide)) (fun c_2 => ?_)
  refine lv_aload_n hx hb dX4_found_15 rfl (lv_at hl 1 rfl) ?_
  refine do_get hx hb hts hin4 hown hE hP rfl 6 (by decide) (hts (.fieldLink RX4 40 "HeldDoor" "findings" "[I") (by decide +kernel)) (v := .ref (gad G 25)) rfl dX4_found_16 ?_
  refine lv_iload_n hx hb dX4_found_19 rfl (lv_at hl 0 rfl) ?_
  refine lv_dup2_11 hx hb dX4_found_20 rfl rfl ?_
  refine ar_ld hx hb hE hP 25 7 (by decide) (ar_at25 h6) 5 (by omega) dX4_found_21 ?_
  refine lv_iconst (v := 1) hx hb dX4_found_22 (by decide) ?_
  refine lv_iadd hx hb dX4_found_23 ?_
  refine ar_st hx hb hE hP hS 25 7 (by decide) (ar_at25 h6) (ar_set25 _ _) 5 (by omega) rfl dX4_found_24 (fun H locs hP hS => ?_)
  refine lv_iload_n hx hb dX4_found_25 rfl (lv_at hl 2 rfl) ?_
  exact hd_iret hx hb hr hlocks hP hS ⟨rfl, rfl⟩ dX4_found_26
set_option maxHeartbeats 4000000 in
set_option maxRecDepth 100000 in
/-- found: 6 -/
theorem c_X4_found_6 (l : Launch) (G : Geo) (u : Sg) (F : Nat → Int32) (h6 : u.1 6 = F) : CtI l G yX4_found wsX4_found (rmO 1 22) [.ref (gad G 0), .int (-1000000007)] u (fun r v => r = -1000000007 ∧ v = sI u 6 (bmp F 6)) := by
  refine CtI.of (cc := cX4_found) (maxL := 3) (ret := (some .int)) (own := RX4) (by decide) rfl rfl ?_
  rintro pg ev s0 mm below meth cd ⟨hx, hb, hr, hml, hown, hts, hlocks⟩ hE hP ls hl
  have hS : va_S (gA G) s0.heap s0.heap [] := va_S.rf
  have hl : lv_has ls 3 [(0, .ref (gad G 0)), (1, .int (-1000000007))] := hl
  have hin4 : ∀ w ∈ wsX40, w ∈ wsX4_found := by decide +kernel
  refine lv_ldc (v := (-1000000001)) hx hb hown (hts (.constant RX4 55 ((-1000000001))) (by decide +kernel)) dX4_found_0 ?_
  refine lv_iload_n hx hb dX4_found_2 rfl (lv_at hl 1 rfl) ?_
  refine lv_isub hx hb dX4_found_3 ?_
  refine lv_cast (y := 6) (by decide) ?_
  refine lv_istore_n (lv' := [(2, .int 6), (0, .ref (gad G 0)), (1, .int (-1000000007))]) hx hb dX4_found_4 rfl hl (by decide) rfl (fun ls hl => ?_)
  refine lv_iconst (v := 0) hx hb dX4_found_5 (by decide) ?_
  refine lv_bipush (v := 6) hx hb dX4_found_6 (by decide) ?_
  refine lv_iload_n hx hb dX4_found_8 rfl (lv_at hl 0 rfl) ?_
  refine hd_callSi (As := [.int 0, .int 6, .int 6]) (rest := []) ⟨hx, hb, hml, hown, hts⟩ hE hP hS (c_X4_isFrom l G u 0 6 6) rfl (va_cwS 3 hts gX4_found_X4_isFrom rfl rfl rfl (by decide +kernel) ⟨Nat.le_of_ble_eq_true rfl, Nat.le_of_ble_eq_true rfl⟩) rfl hl.1 rfl (Nat.le_of_ble_eq_true rfl) dX4_found_9 (fun rq_1 vq_1 H locs q_1 hP hS => ?_)
  have hP := hP.cast (q_1.2)
  refine lv_cast q_1.1 ?_
  refine bo_eq (tgt := 25) hx hb dX4_found_12 (by decide) (fun c_2 => absurd c_2 (by decide)) (fun c_2 => ?_)
  refine lv_aload_n hx hb dX4_found_15 rfl (lv_at hl 1 rfl) ?_
  refine do_get hx hb hts hin4 hown hE hP rfl 6 (by decide) (hts (.fieldLink RX4 40 "HeldDoor" "findings" "[I") (by decide +kernel)) (v := .ref (gad G 25)) rfl dX4_found_16 ?_
  refine lv_iload_n hx hb dX4_found_19 rfl (lv_at hl 0 rfl) ?_
  refine lv_dup2_11 hx hb dX4_found_20 rfl rfl ?_
  refine ar_ld hx hb hE hP 25 7 (by decide) (ar_at25 h6) 6 (by omega) dX4_found_21 ?_
  refine lv_iconst (v := 1) hx hb dX4_found_22 (by decide) ?_
  refine lv_iadd hx hb dX4_found_23 ?_
  refine ar_st hx hb hE hP hS 25 7 (by decide) (ar_at25 h6) (ar_set25 _ _) 6 (by omega) rfl dX4_found_24 (fun H locs hP hS => ?_)
  refine lv_iload_n hx hb dX4_found_25 rfl (lv_at hl 2 rfl) ?_
  exact hd_iret hx hb hr hlocks hP hS ⟨rfl, rfl⟩ dX4_found_26
set_option maxHeartbeats 4000000 in
set_option maxRecDepth 100000 in
/-- freshTrial -/
theorem c_X4_freshTrial (l : Launch) (G : Geo) (u : Sg) (M T : Nat → Int32) (h0 : u.1 0 = M) (h1 : u.1 1 = T) (tM : ∀ k : Nat, 53 ≤ k → M k = 0) (tT : ∀ k : Nat, 53 ≤ k → T k = 0) : CtR l G yX4_freshTrial wsX4_freshTrial (rmO 2 39) [.ref (gad G 0)] u (gS G 1) (sI u 1 M) := by
  refine CtR.of (cc := cX4_freshTrial) (maxL := 1) (ret := (some (.object "HeldDoor$Scene"))) (own := RX4) (by decide) rfl rfl ?_
  rintro pg ev s0 mm below meth cd ⟨hx, hb, hr, hml, hown, hts, hlocks⟩ hE hP ls hl
  have hS : va_S (gA G) s0.heap s0.heap [] := va_S.rf
  have hl : lv_has ls 1 [(0, .ref (gad G 0))] := hl
  have hin4 : ∀ w ∈ wsX40, w ∈ wsX4_freshTrial := by decide +kernel
  refine lv_aload_n hx hb dX4_freshTrial_0 rfl (lv_at hl 0 rfl) ?_
  refine do_get hx hb hts hin4 hown hE hP rfl 1 (by decide) (hts (.fieldLink RX4 16 "HeldDoor" "trial" "LHeldDoor$Scene;") (by decide +kernel)) (v := .ref (gS G 1)) rfl dX4_freshTrial_1 ?_
  refine lv_aload_n hx hb dX4_freshTrial_4 rfl (lv_at hl 0 rfl) ?_
  refine do_get hx hb hts hin4 hown hE hP rfl 0 (by decide) (hts (.fieldLink RX4 10 "HeldDoor" "scene" "LHeldDoor$Scene;") (by decide +kernel)) (v := .ref (gS G 0)) rfl dX4_freshTrial_5 ?_
  refine hd_callVv (As := [.ref (gS G 0)]) (rest := []) ⟨hx, hb, hml, hown, hts⟩ hE hP hS (c_X1_become l G u 1 0 (by decide) (by decide) (by decide) T M h1 h0 tT tM) rfl (cwV 1 hts gX4_freshTrial_X1_become rfl rfl rfl (by decide +kernel) ⟨Nat.le_of_ble_eq_true rfl, Nat.le_of_ble_eq_true rfl⟩) (sc_recv hE hP (by decide)) rfl hl.1 rfl (Nat.le_of_ble_eq_true rfl) dX4_freshTrial_8 (fun vq_1 H locs q_1 hP hS => ?_)
  have hP := hP.cast (q_1)
  refine lv_aload_n hx hb dX4_freshTrial_11 rfl (lv_at hl 0 rfl) ?_
  refine do_get hx hb hts hin4 hown hE hP ((sI_ne _ _ (by decide)).trans rfl) 1 (by decide) (hts (.fieldLink RX4 16 "HeldDoor" "trial" "LHeldDoor$Scene;") (by decide +kernel)) (v := .ref (gS G 1)) rfl dX4_freshTrial_12 ?_
  exact hd_aret hx hb hr (Or.inl ⟨_, rfl⟩) hlocks hP hS rfl dX4_freshTrial_15
set_option maxHeartbeats 4000000 in
set_option maxRecDepth 100000 in
/-- orNone -/
theorem c_X4_orNone_n (l : Launch) (G : Geo) (u : Sg) (F : Nat → Int32) (h6 : u.1 6 = F) (a : Int32) (ha : a < 0) : CtI l G yX4_orNone wsX4_orNone (rmO 2 44) [.ref (gad G 0), .int a] u (fun r v => r = -1000000004 ∧ v = sI u 6 (bmp F 3)) := by
  refine CtI.of (cc := cX4_orNone) (maxL := 2) (ret := (some .int)) (own := RX4) (by decide) rfl rfl ?_
  rintro pg ev s0 mm below meth cd ⟨hx, hb, hr, hml, hown, hts, hlocks⟩ hE hP ls hl
  have hS : va_S (gA G) s0.heap s0.heap [] := va_S.rf
  have hl : lv_has ls 2 [(0, .ref (gad G 0)), (1, .int a)] := hl
  refine lv_iload_n hx hb dX4_orNone_0 rfl (lv_at hl 1 rfl) ?_
  refine lv_if_ge (tgt := 13) hx hb dX4_orNone_1 (by decide) (fun c_1 => absurd c_1 (Int32.not_le.mpr ha)) (fun c_1 => ?_)
  refine lv_aload_n hx hb dX4_orNone_4 rfl (lv_at hl 0 rfl) ?_
  refine lv_ldc (v := (-1000000004)) hx hb hown (hts (.constant RX4 156 ((-1000000004))) (by decide +kernel)) dX4_orNone_5 ?_
  refine hd_callVi (As := [.int (-1000000004)]) (rest := []) ⟨hx, hb, hml, hown, hts⟩ hE hP hS (c_X4_found_3 l G u F h6) rfl (cwV 1 hts gX4_orNone_X4_found rfl rfl rfl (by decide +kernel) ⟨Nat.le_of_ble_eq_true rfl, Nat.le_of_ble_eq_true rfl⟩) (do_recv hE hP) rfl hl.1 rfl (Nat.le_of_ble_eq_true rfl) dX4_orNone_7 (fun rq_2 vq_2 H locs q_2 hP hS => ?_)
  have hP := hP.cast (q_2.2)
  refine lv_cast q_2.1 ?_
  refine lv_goto (tgt := 14) hx hb dX4_orNone_10 (by decide) ?_
  exact hd_iret hx hb hr hlocks hP hS ⟨rfl, rfl⟩ dX4_orNone_14
set_option maxHeartbeats 4000000 in
set_option maxRecDepth 100000 in
/-- orNone -/
theorem c_X4_orNone_s (l : Launch) (G : Geo) (u : Sg) (F : Nat → Int32) (h6 : u.1 6 = F) (a : Int32) (ha : ¬ a < 0) : CtI l G yX4_orNone wsX4_orNone (rmO 2 44) [.ref (gad G 0), .int a] u (fun r v => r = a ∧ v = u) := by
  refine CtI.of (cc := cX4_orNone) (maxL := 2) (ret := (some .int)) (own := RX4) (by decide) rfl rfl ?_
  rintro pg ev s0 mm below meth cd ⟨hx, hb, hr, hml, hown, hts, hlocks⟩ hE hP ls hl
  have hS : va_S (gA G) s0.heap s0.heap [] := va_S.rf
  have hl : lv_has ls 2 [(0, .ref (gad G 0)), (1, .int a)] := hl
  refine lv_iload_n hx hb dX4_orNone_0 rfl (lv_at hl 1 rfl) ?_
  refine lv_if_ge (tgt := 13) hx hb dX4_orNone_1 (by decide) (fun c_1 => ?_) (fun c_1 => absurd (Int32.not_lt.mp ha) c_1)
  refine lv_iload_n hx hb dX4_orNone_13 rfl (lv_at hl 1 rfl) ?_
  exact hd_iret hx hb hr hlocks hP hS ⟨rfl, rfl⟩ dX4_orNone_14
theorem c_X4_orNone (l : Launch) (G : Geo) (u : Sg) (F : Nat → Int32) (h6 : u.1 6 = F) (a : Int32) : CtI l G yX4_orNone wsX4_orNone (rmO 2 44) [.ref (gad G 0), .int a] u (fun r v => r = (orN a F F).1 ∧ v = sI u 6 (orN a F F).2.2) := by
  by_cases ha : a < 0
  · have h := c_X4_orNone_n l G u F h6 a ha
    simpa only [orN, if_pos ha, none3] using h
  · have h := c_X4_orNone_s l G u F h6 a ha
    rw [show (fun (r : Int32) (v : Sg) => r = (orN a F F).1 ∧ v = sI u 6 (orN a F F).2.2) = (fun r v => r = a ∧ v = u) from by simp only [orN, if_neg ha, sI_id h6]]
    exact h
