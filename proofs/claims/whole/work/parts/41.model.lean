set_option maxHeartbeats 4000000 in
set_option maxRecDepth 100000 in
/-- in -/
theorem c_X5_in (l : Launch) (G : Geo) (u : Sg) (x : Int64) (a b : Int32) : CtI l G yX5_in wsX5_in (rmO 0 0) [.long x, .int a, .int b] u (fun r v => r = bI (inL x a b) ∧ v = u) := by
  refine CtI.of (cc := cX5_in) (maxL := 4) (ret := (some .boolean)) (own := RX5) (by decide) rfl rfl ?_
  rintro pg ev s0 mm below meth cd ⟨hx, hb, hr, hml, hown, hts, hlocks⟩ hE hP ls hl
  have hS : va_S (gA G) s0.heap s0.heap [] := va_S.rf
  have hl : lv_has ls 4 [(0, .long x), (2, .int a), (3, .int b)] := hl
  refine lv_lload_n hx hb dX5_in_0 rfl (lv_at hl 0 rfl) ?_
  refine lv_iload_n hx hb dX5_in_1 rfl (lv_at hl 1 rfl) ?_
  refine lv_i2l hx hb dX5_in_2 rfl ?_
  refine W.lcmp hx hb dX5_in_3 ?_
  refine lc_lt (tgt := 18) hx hb dX5_in_4 (by decide) (fun c_1 => ?_) (fun c_1 => ?_)
  · skip
    refine lv_iconst (v := 0) hx hb dX5_in_18 (by decide) ?_
    exact hd_zret hx hb hr hlocks hP hS ⟨(by first | rfl | (simp only [inL, bI, c_1, ↓reduceIte]; done) | (simp only [inL, bI, c_1, ↓reduceIte] <;> rfl) | (simp [inL, bI, c_1]; done)), rfl⟩ rfl dX5_in_19
  · skip
    refine lv_lload_n hx hb dX5_in_7 rfl (lv_at hl 0 rfl) ?_
    refine lv_iload_n hx hb dX5_in_8 rfl (lv_at hl 2 rfl) ?_
    refine lv_i2l hx hb dX5_in_9 rfl ?_
    refine W.lcmp hx hb dX5_in_10 ?_
    refine lc_gt (tgt := 18) hx hb dX5_in_11 (by decide) (fun c_2 => ?_) (fun c_2 => ?_)
    · skip
      refine lv_iconst (v := 0) hx hb dX5_in_18 (by decide) ?_
      exact hd_zret hx hb hr hlocks hP hS ⟨(by first | rfl | (simp only [inL, bI, c_1, c_2, ↓reduceIte]; done) | (simp only [inL, bI, c_1, c_2, ↓reduceIte] <;> rfl) | (simp [inL, bI, c_1, c_2]; done)), rfl⟩ rfl dX5_in_19
    · skip
      refine lv_iconst (v := 1) hx hb dX5_in_14 (by decide) ?_
      refine lv_goto (tgt := 19) hx hb dX5_in_15 (by decide) ?_
      exact hd_zret hx hb hr hlocks hP hS ⟨(by first | rfl | (simp only [inL, bI, c_1, c_2, ↓reduceIte]; done) | (simp only [inL, bI, c_1, c_2, ↓reduceIte] <;> rfl) | (simp [inL, bI, c_1, c_2]; done)), rfl⟩ rfl dX5_in_19
theorem c_X5_inI (l : Launch) (G : Geo) (u : Sg) (x a b : Int32) : CtI l G yX5_in wsX5_in (rmO 0 0) [.long x.toInt64, .int a, .int b] u (fun r v => r = bI (inI x a b) ∧ v = u) := by
  rw [← inL_I]
  exact c_X5_in l G u x.toInt64 a b
set_option maxHeartbeats 4000000 in
set_option maxRecDepth 100000 in
/-- held -/
theorem c_X5_held (l : Launch) (G : Geo) (u : Sg) (x a b : Int32) : CtI l G yX5_held wsX5_held (rmO 0 0) [.int x, .int a, .int b] u (fun r v => r = hld x a b ∧ v = u) := by
  refine CtI.of (cc := cX5_held) (maxL := 3) (ret := (some .int)) (own := RX5) (by decide) rfl rfl ?_
  rintro pg ev s0 mm below meth cd ⟨hx, hb, hr, hml, hown, hts, hlocks⟩ hE hP ls hl
  have hS : va_S (gA G) s0.heap s0.heap [] := va_S.rf
  have hl : lv_has ls 3 [(0, .int x), (1, .int a), (2, .int b)] := hl
  refine lv_iload_n hx hb dX5_held_0 rfl (lv_at hl 0 rfl) ?_
  refine lv_iload_n hx hb dX5_held_1 rfl (lv_at hl 1 rfl) ?_
  refine lv_icmp_ge (tgt := 9) hx hb dX5_held_2 (by decide) (fun c_1 => ?_) (fun c_1 => ?_)
  · skip
    refine lv_iload_n hx hb dX5_held_9 rfl (lv_at hl 0 rfl) ?_
    refine lv_iload_n hx hb dX5_held_10 rfl (lv_at hl 2 rfl) ?_
    refine lv_icmp_le (tgt := 18) hx hb dX5_held_11 (by decide) (fun c_2 => ?_) (fun c_2 => ?_)
    · skip
      refine lv_iload_n hx hb dX5_held_18 rfl (lv_at hl 0 rfl) ?_
      exact hd_iret hx hb hr hlocks hP hS ⟨(by first | rfl | (simp only [hld, c_1, c_2, ↓reduceIte]; done) | (simp only [hld, c_1, c_2, ↓reduceIte] <;> rfl) | (simp [hld, c_1, c_2]; done)), rfl⟩ dX5_held_19
    · skip
      refine lv_iload_n hx hb dX5_held_14 rfl (lv_at hl 2 rfl) ?_
      refine lv_goto (tgt := 19) hx hb dX5_held_15 (by decide) ?_
      exact hd_iret hx hb hr hlocks hP hS ⟨(by first | rfl | (simp only [hld, c_1, c_2, ↓reduceIte]; done) | (simp only [hld, c_1, c_2, ↓reduceIte] <;> rfl) | (simp [hld, c_1, c_2]; done)), rfl⟩ dX5_held_19
  · skip
    refine lv_iload_n hx hb dX5_held_5 rfl (lv_at hl 1 rfl) ?_
    refine lv_goto (tgt := 19) hx hb dX5_held_6 (by decide) ?_
    exact hd_iret hx hb hr hlocks hP hS ⟨(by first | rfl | (simp only [hld, c_1, ↓reduceIte]; done) | (simp only [hld, c_1, ↓reduceIte] <;> rfl) | (simp [hld, c_1]; done)), rfl⟩ dX5_held_19
set_option maxHeartbeats 4000000 in
set_option maxRecDepth 100000 in
/-- it -/
theorem c_X5_it (l : Launch) (G : Geo) (u : Sg) (M : Nat → Int32) (p w : Nat) (hp : p < 8) (hw : w < 6) : CtI l G yX5_it wsX5_it (rmO 0 0) [.ref (gad G 34), .int (nI p), .int (nI w)] (sI u 11 M) (fun r v => r = M (5 + 6 * p + w) ∧ v = sI u 11 M) := by
  refine CtI.of (cc := cX5_it) (maxL := 3) (ret := (some .int)) (own := RX5) (by decide) rfl rfl ?_
  rintro pg ev s0 mm below meth cd ⟨hx, hb, hr, hml, hown, hts, hlocks⟩ hE hP ls hl
  have hS : va_S (gA G) s0.heap s0.heap [] := va_S.rf
  have hl : lv_has ls 3 [(0, .ref (gad G 34)), (1, .int (nI p)), (2, .int (nI w))] := hl
  have hin5 : ∀ w ∈ wsX50, w ∈ wsX5_it := by decide +kernel
  refine lv_aload_n hx hb dX5_it_0 rfl (lv_at hl 0 rfl) ?_
  refine mo_get hx hb hts hin5 hown hE hP ((sI_ne _ _ (by decide)).trans rfl) 0 (by decide) (hts (.fieldLink RX5 9 "HeldDoorModel" "m" "[I") (by decide +kernel)) (v := .ref (gad G 35)) rfl dX5_it_1 ?_
  refine lv_iconst (v := 5) hx hb dX5_it_4 (by decide) ?_
  refine lv_bipush (v := 6) hx hb dX5_it_5 (by decide) ?_
  refine lv_iload_n hx hb dX5_it_7 rfl (lv_at hl 1 rfl) ?_
  refine nn_imul (a := 6) (b := p) hx hb dX5_it_8 ?_
  refine nn_iadd (a := 5) (b := 6 * p) hx hb dX5_it_9 ?_
  refine lv_iload_n hx hb dX5_it_10 rfl (lv_at hl 2 rfl) ?_
  refine nn_iadd (a := 5 + 6 * p) (b := w) hx hb dX5_it_11 ?_
  refine ar_ld hx hb hE hP 35 53 (by decide) (ar_at35 (sI_at _ _ _)) (5 + 6 * p + w) (by omega) dX5_it_12 ?_
  exact hd_iret hx hb hr hlocks hP hS ⟨(by first | rfl | (simp only [↓reduceIte]; done) | (simp only [↓reduceIte] <;> rfl) | (simp []; done)), rfl⟩ dX5_it_13
set_option maxHeartbeats 4000000 in
set_option maxRecDepth 100000 in
/-- put -/
theorem c_X5_put (l : Launch) (G : Geo) (u : Sg) (M : Nat → Int32) (p w : Nat) (hp : p < 8) (hw : w < 6) (x : Int32) : CtV l G yX5_put wsX5_put (rmO 0 0) [.ref (gad G 34), .int (nI p), .int (nI w), .int x] (sI u 11 M) (fun v => v = sI u 11 (upd M (5 + 6 * p + w) x)) := by
  refine CtV.of (cc := cX5_put) (maxL := 4) (ret := none) (own := RX5) (by decide) rfl rfl ?_
  rintro pg ev s0 mm below meth cd ⟨hx, hb, hr, hml, hown, hts, hlocks⟩ hE hP ls hl
  have hS : va_S (gA G) s0.heap s0.heap [] := va_S.rf
  have hl : lv_has ls 4 [(0, .ref (gad G 34)), (1, .int (nI p)), (2, .int (nI w)), (3, .int x)] := hl
  have hin5 : ∀ w ∈ wsX50, w ∈ wsX5_put := by decide +kernel
  refine lv_aload_n hx hb dX5_put_0 rfl (lv_at hl 0 rfl) ?_
  refine mo_get hx hb hts hin5 hown hE hP ((sI_ne _ _ (by decide)).trans rfl) 0 (by decide) (hts (.fieldLink RX5 9 "HeldDoorModel" "m" "[I") (by decide +kernel)) (v := .ref (gad G 35)) rfl dX5_put_1 ?_
  refine lv_iconst (v := 5) hx hb dX5_put_4 (by decide) ?_
  refine lv_bipush (v := 6) hx hb dX5_put_5 (by decide) ?_
  refine lv_iload_n hx hb dX5_put_7 rfl (lv_at hl 1 rfl) ?_
  refine nn_imul (a := 6) (b := p) hx hb dX5_put_8 ?_
  refine nn_iadd (a := 5) (b := 6 * p) hx hb dX5_put_9 ?_
  refine lv_iload_n hx hb dX5_put_10 rfl (lv_at hl 2 rfl) ?_
  refine nn_iadd (a := 5 + 6 * p) (b := w) hx hb dX5_put_11 ?_
  refine lv_iload_n hx hb dX5_put_12 rfl (lv_at hl 3 rfl) ?_
  refine ar_st hx hb hE hP hS 35 53 (by decide) (ar_at35 (sI_at _ _ _)) (ar_set35 _ _) (5 + 6 * p + w) (by omega) (sI_sI _ _ _ _) dX5_put_13 (fun H locs hP hS => ?_)
  exact hd_vret hx hb hr hlocks hP hS rfl dX5_put_14
set_option maxHeartbeats 4000000 in
set_option maxRecDepth 100000 in
/-- goesBy -/
theorem c_X5_goesBy (l : Launch) (G : Geo) (u : Sg) (M : Nat → Int32) (p : Nat) (hp : p < 8) (o : Bool) : CtI l G yX5_goesBy wsX5_goesBy (rmO 1 22) [.ref (gad G 34), .int (nI p), .int (bI o)] (sI u 11 M) (fun r v => r = gB M p o ∧ v = sI u 11 M) := by
  refine CtI.of (cc := cX5_goesBy) (maxL := 6) (ret := (some .int)) (own := RX5) (by decide) rfl rfl ?_
  rintro pg ev s0 mm below meth cd ⟨hx, hb, hr, hml, hown, hts, hlocks⟩ hE hP ls hl
  have hS : va_S (gA G) s0.heap s0.heap [] := va_S.rf
  have hl : lv_has ls 6 [(0, .ref (gad G 34)), (1, .int (nI p)), (2, .int (bI o))] := hl
  refine lv_aload_n hx hb dX5_goesBy_0 rfl (lv_at hl 0 rfl) ?_
  refine lv_iload_n hx hb dX5_goesBy_1 rfl (lv_at hl 1 rfl) ?_
  refine lv_iconst (v := 2) hx hb dX5_goesBy_2 (by decide) ?_
  refine hd_callVi (As := [.int (nI p), .int 2]) (rest := []) ⟨hx, hb, hml, hown, hts⟩ hE hP hS (c_X5_it l G u M p 2 (by omega) (by omega)) rfl (cwV 2 hts gX5_goesBy_X5_it rfl rfl rfl (by decide +kernel) ⟨Nat.le_of_ble_eq_true rfl, Nat.le_of_ble_eq_true rfl⟩) (mo_recv hE hP) rfl hl.1 rfl (Nat.le_of_ble_eq_true rfl) dX5_goesBy_3 (fun rq_1 vq_1 H locs q_1 hP hS => ?_)
  have hP := hP.cast (q_1.2)
  refine lv_cast q_1.1 ?_
  refine lv_istore_n (lv' := [(3, .int (M (5 + 6 * p + 2))), (0, .ref (gad G 34)), (1, .int (nI p)), (2, .int (bI o))]) hx hb dX5_goesBy_6 rfl hl (by decide) rfl (fun ls hl => ?_)
  refine lv_iload_n hx hb dX5_goesBy_7 rfl (lv_at hl 3 rfl) ?_
  refine bo_ne (tgt := 15) hx hb dX5_goesBy_8 (by decide) (fun c_2 => ?_) (fun c_2 => ?_)
  · skip
    refine lv_iload_n hx hb dX5_goesBy_15 rfl (lv_at hl 0 rfl) ?_
    refine lv_if_le (tgt := 24) hx hb dX5_goesBy_16 (by decide) (fun c_3 => ?_) (fun c_3 => ?_)
    · skip
      refine lv_bipush (v := 7) hx hb dX5_goesBy_24 (by decide) ?_
      refine lv_istore (lv' := [(4, .int 7), (3, .int (M (5 + 6 * p + 2))), (0, .ref (gad G 34)), (1, .int (nI p)), (2, .int (bI o))]) hx hb dX5_goesBy_26 hl (by decide) rfl (fun ls hl => ?_)
      refine lv_iconst (v := 4) hx hb dX5_goesBy_28 (by decide) ?_
      refine lv_istore (lv' := [(5, .int 4), (4, .int 7), (3, .int (M (5 + 6 * p + 2))), (0, .ref (gad G 34)), (1, .int (nI p)), (2, .int (bI o))]) hx hb dX5_goesBy_29 hl (by decide) rfl (fun ls hl => ?_)
      refine lv_aload_n hx hb dX5_goesBy_31 rfl (lv_at hl 3 rfl) ?_
      refine lv_iload_n hx hb dX5_goesBy_32 rfl (lv_at hl 4 rfl) ?_
      refine lv_iconst (v := 0) hx hb dX5_goesBy_33 (by decide) ?_
      refine hd_callVi (As := [.int (nI p), .int 0]) (rest := []) ⟨hx, hb, hml, hown, hts⟩ hE hP hS (c_X5_it l G u M p 0 (by omega) (by omega)) rfl (cwV 2 hts gX5_goesBy_X5_it rfl rfl rfl (by decide +kernel) ⟨Nat.le_of_ble_eq_true rfl, Nat.le_of_ble_eq_true rfl⟩) (mo_recv hE hP) rfl hl.1 rfl (Nat.le_of_ble_eq_true rfl) dX5_goesBy_34 (fun rq_4 vq_4 H locs q_4 hP hS => ?_)
      have hP := hP.cast (q_4.2)
      refine lv_cast q_4.1 ?_
      by_cases k_5 : M (5 + 6 * p + 0) = 2
      · refine lv_cast k_5 ?_
        refine lv_tableIn (tgt := 68) hx hb dX5_goesBy_37 (by decide) (by decide) rfl (by decide) ?_
        refine lv_iconst (v := 3) hx hb dX5_goesBy_68 (by decide) ?_
        refine lv_istore (lv' := [(5, .int 3), (4, .int 7), (3, .int (M (5 + 6 * p + 2))), (0, .ref (gad G 34)), (1, .int (nI p)), (2, .int (bI o))]) hx hb dX5_goesBy_69 hl (by decide) rfl (fun ls hl => ?_)
        refine lv_goto (tgt := 90) hx hb dX5_goesBy_71 (by decide) ?_
        refine lv_iload_n hx hb dX5_goesBy_90 rfl (lv_at hl 2 rfl) ?_
        refine lv_iconst (v := 5) hx hb dX5_goesBy_91 (by decide) ?_
        refine lv_icmp_lt (tgt := 108) hx hb dX5_goesBy_92 (by decide) (fun c_6 => ?_) (fun c_6 => ?_)
        · skip
          refine lv_iload hx hb dX5_goesBy_108 (lv_at hl 0 rfl) ?_
          exact hd_iret hx hb hr hlocks hP hS ⟨(by simp only [gB, goesBy, goesV, stGo, hld, c_2, c_3, k_5, c_6, ↓reduceIte] <;> decide), rfl⟩ dX5_goesBy_110
        · skip
          refine lv_iload hx hb dX5_goesBy_95 (lv_at hl 0 rfl) ?_
          refine lv_iconst (v := 1) hx hb dX5_goesBy_97 (by decide) ?_
          refine lv_isub hx hb dX5_goesBy_98 ?_
          refine lv_cast (y := 2) (by decide) ?_
          refine lv_iconst (v := 1) hx hb dX5_goesBy_99 (by decide) ?_
          refine lv_iload hx hb dX5_goesBy_100 (lv_at hl 0 rfl) ?_
          refine hd_callSi (As := [.int 2, .int 1, .int 3]) (rest := []) ⟨hx, hb, hml, hown, hts⟩ hE hP hS (c_X5_held l G (sI u 11 M) 2 1 3) rfl (va_cwS 3 hts gX5_goesBy_X5_held rfl rfl rfl (by decide +kernel) ⟨Nat.le_of_ble_eq_true rfl, Nat.le_of_ble_eq_true rfl⟩) rfl hl.1 rfl (Nat.le_of_ble_eq_true rfl) dX5_goesBy_102 (fun rq_7 vq_7 H locs q_7 hP hS => ?_)
          have hP := hP.cast (q_7.2)
          refine lv_cast q_7.1 ?_
          refine lv_goto (tgt := 110) hx hb dX5_goesBy_105 (by decide) ?_
          exact hd_iret hx hb hr hlocks hP hS ⟨(by simp only [gB, goesBy, goesV, stGo, hld, c_2, c_3, k_5, c_6, ↓reduceIte] <;> decide), rfl⟩ dX5_goesBy_110
      by_cases k_8 : M (5 + 6 * p + 0) = 3
      · refine lv_cast k_8 ?_
        refine lv_tableIn (tgt := 74) hx hb dX5_goesBy_37 (by decide) (by decide) rfl (by decide) ?_
        refine lv_iload hx hb dX5_goesBy_74 (lv_at hl 1 rfl) ?_
        refine lv_istore (lv' := [(5, .int 7), (4, .int 7), (3, .int (M (5 + 6 * p + 2))), (0, .ref (gad G 34)), (1, .int (nI p)), (2, .int (bI o))]) hx hb dX5_goesBy_76 hl (by decide) rfl (fun ls hl => ?_)
        refine lv_goto (tgt := 90) hx hb dX5_goesBy_78 (by decide) ?_
        refine lv_iload_n hx hb dX5_goesBy_90 rfl (lv_at hl 2 rfl) ?_
        refine lv_iconst (v := 5) hx hb dX5_goesBy_91 (by decide) ?_
        refine lv_icmp_lt (tgt := 108) hx hb dX5_goesBy_92 (by decide) (fun c_9 => ?_) (fun c_9 => ?_)
        · skip
          refine lv_iload hx hb dX5_goesBy_108 (lv_at hl 0 rfl) ?_
          exact hd_iret hx hb hr hlocks hP hS ⟨(by simp only [gB, goesBy, goesV, stGo, hld, c_2, c_3, k_5, k_8, c_9, ↓reduceIte] <;> decide), rfl⟩ dX5_goesBy_110
        · skip
          refine lv_iload hx hb dX5_goesBy_95 (lv_at hl 0 rfl) ?_
          refine lv_iconst (v := 1) hx hb dX5_goesBy_97 (by decide) ?_
          refine lv_isub hx hb dX5_goesBy_98 ?_
          refine lv_cast (y := 6) (by decide) ?_
          refine lv_iconst (v := 1) hx hb dX5_goesBy_99 (by decide) ?_
          refine lv_iload hx hb dX5_goesBy_100 (lv_at hl 0 rfl) ?_
          refine hd_callSi (As := [.int 6, .int 1, .int 7]) (rest := []) ⟨hx, hb, hml, hown, hts⟩ hE hP hS (c_X5_held l G (sI u 11 M) 6 1 7) rfl (va_cwS 3 hts gX5_goesBy_X5_held rfl rfl rfl (by decide +kernel) ⟨Nat.le_of_ble_eq_true rfl, Nat.le_of_ble_eq_true rfl⟩) rfl hl.1 rfl (Nat.le_of_ble_eq_true rfl) dX5_goesBy_102 (fun rq_10 vq_10 H locs q_10 hP hS => ?_)
          have hP := hP.cast (q_10.2)
          refine lv_cast q_10.1 ?_
          refine lv_goto (tgt := 110) hx hb dX5_goesBy_105 (by decide) ?_
          exact hd_iret hx hb hr hlocks hP hS ⟨(by simp only [gB, goesBy, goesV, stGo, hld, c_2, c_3, k_5, k_8, c_9, ↓reduceIte] <;> decide), rfl⟩ dX5_goesBy_110
      by_cases k_11 : M (5 + 6 * p + 0) = 4
      · refine lv_cast k_11 ?_
        refine lv_tableIn (tgt := 81) hx hb dX5_goesBy_37 (by decide) (by decide) rfl (by decide) ?_
        refine lv_iload hx hb dX5_goesBy_81 (lv_at hl 1 rfl) ?_
        refine lv_iconst (v := 1) hx hb dX5_goesBy_83 (by decide) ?_
        refine lv_isub hx hb dX5_goesBy_84 ?_
        refine lv_cast (y := 6) (by decide) ?_
        refine lv_istore (lv' := [(5, .int 6), (4, .int 7), (3, .int (M (5 + 6 * p + 2))), (0, .ref (gad G 34)), (1, .int (nI p)), (2, .int (bI o))]) hx hb dX5_goesBy_85 hl (by decide) rfl (fun ls hl => ?_)
        refine lv_goto (tgt := 90) hx hb dX5_goesBy_87 (by decide) ?_
        refine lv_iload_n hx hb dX5_goesBy_90 rfl (lv_at hl 2 rfl) ?_
        refine lv_iconst (v := 5) hx hb dX5_goesBy_91 (by decide) ?_
        refine lv_icmp_lt (tgt := 108) hx hb dX5_goesBy_92 (by decide) (fun c_12 => ?_) (fun c_12 => ?_)
        · skip
          refine lv_iload hx hb dX5_goesBy_108 (lv_at hl 0 rfl) ?_
          exact hd_iret hx hb hr hlocks hP hS ⟨(by simp only [gB, goesBy, goesV, stGo, hld, c_2, c_3, k_5, k_8, k_11, c_12, ↓reduceIte] <;> decide), rfl⟩ dX5_goesBy_110
        · skip
          refine lv_iload hx hb dX5_goesBy_95 (lv_at hl 0 rfl) ?_
          refine lv_iconst (v := 1) hx hb dX5_goesBy_97 (by decide) ?_
          refine lv_isub hx hb dX5_goesBy_98 ?_
          refine lv_cast (y := 5) (by decide) ?_
          refine lv_iconst (v := 1) hx hb dX5_goesBy_99 (by decide) ?_
          refine lv_iload hx hb dX5_goesBy_100 (lv_at hl 0 rfl) ?_
          refine hd_callSi (As := [.int 5, .int 1, .int 6]) (rest := []) ⟨hx, hb, hml, hown, hts⟩ hE hP hS (c_X5_held l G (sI u 11 M) 5 1 6) rfl (va_cwS 3 hts gX5_goesBy_X5_held rfl rfl rfl (by decide +kernel) ⟨Nat.le_of_ble_eq_true rfl, Nat.le_of_ble_eq_true rfl⟩) rfl hl.1 rfl (Nat.le_of_ble_eq_true rfl) dX5_goesBy_102 (fun rq_13 vq_13 H locs q_13 hP hS => ?_)
          have hP := hP.cast (q_13.2)
          refine lv_cast q_13.1 ?_
          refine lv_goto (tgt := 110) hx hb dX5_goesBy_105 (by decide) ?_
          exact hd_iret hx hb hr hlocks hP hS ⟨(by simp only [gB, goesBy, goesV, stGo, hld, c_2, c_3, k_5, k_8, k_11, c_12, ↓reduceIte] <;> decide), rfl⟩ dX5_goesBy_110
      by_cases k_14 : M (5 + 6 * p + 0) = 5
      · refine lv_cast k_14 ?_
        refine lv_tableIn (tgt := 68) hx hb dX5_goesBy_37 (by decide) (by decide) rfl (by decide) ?_
        refine lv_iconst (v := 3) hx hb dX5_goesBy_68 (by decide) ?_
        refine lv_istore (lv' := [(5, .int 3), (4, .int 7), (3, .int (M (5 + 6 * p + 2))), (0, .ref (gad G 34)), (1, .int (nI p)), (2, .int (bI o))]) hx hb dX5_goesBy_69 hl (by decide) rfl (fun ls hl => ?_)
        refine lv_goto (tgt := 90) hx hb dX5_goesBy_71 (by decide) ?_
        refine lv_iload_n hx hb dX5_goesBy_90 rfl (lv_at hl 2 rfl) ?_
        refine lv_iconst (v := 5) hx hb dX5_goesBy_91 (by decide) ?_
        refine lv_icmp_lt (tgt := 108) hx hb dX5_goesBy_92 (by decide) (fun c_15 => ?_) (fun c_15 => ?_)
        · skip
          refine lv_iload hx hb dX5_goesBy_108 (lv_at hl 0 rfl) ?_
          exact hd_iret hx hb hr hlocks hP hS ⟨(by simp only [gB, goesBy, goesV, stGo, hld, c_2, c_3, k_5, k_8, k_11, k_14, c_15, ↓reduceIte] <;> decide), rfl⟩ dX5_goesBy_110
        · skip
          refine lv_iload hx hb dX5_goesBy_95 (lv_at hl 0 rfl) ?_
          refine lv_iconst (v := 1) hx hb dX5_goesBy_97 (by decide) ?_
          refine lv_isub hx hb dX5_goesBy_98 ?_
          refine lv_cast (y := 2) (by decide) ?_
          refine lv_iconst (v := 1) hx hb dX5_goesBy_99 (by decide) ?_
          refine lv_iload hx hb dX5_goesBy_100 (lv_at hl 0 rfl) ?_
          refine hd_callSi (As := [.int 2, .int 1, .int 3]) (rest := []) ⟨hx, hb, hml, hown, hts⟩ hE hP hS (c_X5_held l G (sI u 11 M) 2 1 3) rfl (va_cwS 3 hts gX5_goesBy_X5_held rfl rfl rfl (by decide +kernel) ⟨Nat.le_of_ble_eq_true rfl, Nat.le_of_ble_eq_true rfl⟩) rfl hl.1 rfl (Nat.le_of_ble_eq_true rfl) dX5_goesBy_102 (fun rq_16 vq_16 H locs q_16 hP hS => ?_)
          have hP := hP.cast (q_16.2)
          refine lv_cast q_16.1 ?_
          refine lv_goto (tgt := 110) hx hb dX5_goesBy_105 (by decide) ?_
          exact hd_iret hx hb hr hlocks hP hS ⟨(by simp only [gB, goesBy, goesV, stGo, hld, c_2, c_3, k_5, k_8, k_11, k_14, c_15, ↓reduceIte] <;> decide), rfl⟩ dX5_goesBy_110
      refine lv_tableOut (tgt := 90) hx hb dX5_goesBy_37 (sw_out (lo := 2) (hi := 5) (by decide) (by decide) (fun k h1 h2 => by
        rcases (show k = 2 ∨ k = 3 ∨ k = 4 ∨ k = 5 by omega) with rfl | rfl | rfl | rfl
        · exact k_5
        · exact k_8
        · exact k_11
        · exact k_14
        )) (by decide) ?_
      refine lv_iload_n hx hb dX5_goesBy_90 rfl (lv_at hl 2 rfl) ?_
      refine lv_iconst (v := 5) hx hb dX5_goesBy_91 (by decide) ?_
      refine lv_icmp_lt (tgt := 108) hx hb dX5_goesBy_92 (by decide) (fun c_17 => ?_) (fun c_17 => ?_)
      · skip
        refine lv_iload hx hb dX5_goesBy_108 (lv_at hl 0 rfl) ?_
        exact hd_iret hx hb hr hlocks hP hS ⟨(by simp only [gB, goesBy, goesV, stGo, hld, c_2, c_3, k_5, k_8, k_11, k_14, c_17, ↓reduceIte] <;> decide), rfl⟩ dX5_goesBy_110
      · skip
        refine lv_iload hx hb dX5_goesBy_95 (lv_at hl 0 rfl) ?_
        refine lv_iconst (v := 1) hx hb dX5_goesBy_97 (by decide) ?_
        refine lv_isub hx hb dX5_goesBy_98 ?_
        refine lv_cast (y := 3) (by decide) ?_
        refine lv_iconst (v := 1) hx hb dX5_goesBy_99 (by decide) ?_
        refine lv_iload hx hb dX5_goesBy_100 (lv_at hl 0 rfl) ?_
        refine hd_callSi (As := [.int 3, .int 1, .int 4]) (rest := []) ⟨hx, hb, hml, hown, hts⟩ hE hP hS (c_X5_held l G (sI u 11 M) 3 1 4) rfl (va_cwS 3 hts gX5_goesBy_X5_held rfl rfl rfl (by decide +kernel) ⟨Nat.le_of_ble_eq_true rfl, Nat.le_of_ble_eq_true rfl⟩) rfl hl.1 rfl (Nat.le_of_ble_eq_true rfl) dX5_goesBy_102 (fun rq_18 vq_18 H locs q_18 hP hS => ?_)
        have hP := hP.cast (q_18.2)
        refine lv_cast q_18.1 ?_
        refine lv_goto (tgt := 110) hx hb dX5_goesBy_105 (by decide) ?_
        exact hd_iret hx hb hr hlocks hP hS ⟨(by simp only [gB, goesBy, goesV, stGo, hld, c_2, c_3, k_5, k_8, k_11, k_14, c_17, ↓reduceIte] <;> decide), rfl⟩ dX5_goesBy_110
    · skip
      refine lv_bipush (v := 6) hx hb dX5_goesBy_19 (by decide) ?_
      refine lv_goto (tgt := 26) hx hb dX5_goesBy_21 (by decide) ?_
      refine lv_istore (lv' := [(4, .int 6), (3, .int (M (5 + 6 * p + 2))), (0, .ref (gad G 34)), (1, .int (nI p)), (2, .int (bI o))]) hx hb dX5_goesBy_26 hl (by decide) rfl (fun ls hl => ?_)
      refine lv_iconst (v := 4) hx hb dX5_goesBy_28 (by decide) ?_
      refine lv_istore (lv' := [(5, .int 4), (4, .int 6), (3, .int (M (5 + 6 * p + 2))), (0, .ref (gad G 34)), (1, .int (nI p)), (2, .int (bI o))]) hx hb dX5_goesBy_29 hl (by decide) rfl (fun ls hl => ?_)
      refine lv_aload_n hx hb dX5_goesBy_31 rfl (lv_at hl 3 rfl) ?_
      refine lv_iload_n hx hb dX5_goesBy_32 rfl (lv_at hl 4 rfl) ?_
      refine lv_iconst (v := 0) hx hb dX5_goesBy_33 (by decide) ?_
      refine hd_callVi (As := [.int (nI p), .int 0]) (rest := []) ⟨hx, hb, hml, hown, hts⟩ hE hP hS (c_X5_it l G u M p 0 (by omega) (by omega)) rfl (cwV 2 hts gX5_goesBy_X5_it rfl rfl rfl (by decide +kernel) ⟨Nat.le_of_ble_eq_true rfl, Nat.le_of_ble_eq_true rfl⟩) (mo_recv hE hP) rfl hl.1 rfl (Nat.le_of_ble_eq_true rfl) dX5_goesBy_34 (fun rq_19 vq_19 H locs q_19 hP hS => ?_)
      have hP := hP.cast (q_19.2)
      refine lv_cast q_19.1 ?_
      by_cases k_20 : M (5 + 6 * p + 0) = 2
      · refine lv_cast k_20 ?_
        refine lv_tableIn (tgt := 68) hx hb dX5_goesBy_37 (by decide) (by decide) rfl (by decide) ?_
        refine lv_iconst (v := 3) hx hb dX5_goesBy_68 (by decide) ?_
        refine lv_istore (lv' := [(5, .int 3), (4, .int 6), (3, .int (M (5 + 6 * p + 2))), (0, .ref (gad G 34)), (1, .int (nI p)), (2, .int (bI o))]) hx hb dX5_goesBy_69 hl (by decide) rfl (fun ls hl => ?_)
        refine lv_goto (tgt := 90) hx hb dX5_goesBy_71 (by decide) ?_
        refine lv_iload_n hx hb dX5_goesBy_90 rfl (lv_at hl 2 rfl) ?_
        refine lv_iconst (v := 5) hx hb dX5_goesBy_91 (by decide) ?_
        refine lv_icmp_lt (tgt := 108) hx hb dX5_goesBy_92 (by decide) (fun c_21 => ?_) (fun c_21 => ?_)
        · skip
          refine lv_iload hx hb dX5_goesBy_108 (lv_at hl 0 rfl) ?_
          exact hd_iret hx hb hr hlocks hP hS ⟨(by simp only [gB, goesBy, goesV, stGo, hld, c_2, c_3, k_20, c_21, ↓reduceIte] <;> decide), rfl⟩ dX5_goesBy_110
        · skip
          refine lv_iload hx hb dX5_goesBy_95 (lv_at hl 0 rfl) ?_
          refine lv_iconst (v := 1) hx hb dX5_goesBy_97 (by decide) ?_
          refine lv_isub hx hb dX5_goesBy_98 ?_
          refine lv_cast (y := 2) (by decide) ?_
          refine lv_iconst (v := 1) hx hb dX5_goesBy_99 (by decide) ?_
          refine lv_iload hx hb dX5_goesBy_100 (lv_at hl 0 rfl) ?_
          refine hd_callSi (As := [.int 2, .int 1, .int 3]) (rest := []) ⟨hx, hb, hml, hown, hts⟩ hE hP hS (c_X5_held l G (sI u 11 M) 2 1 3) rfl (va_cwS 3 hts gX5_goesBy_X5_held rfl rfl rfl (by decide +kernel) ⟨Nat.le_of_ble_eq_true rfl, Nat.le_of_ble_eq_true rfl⟩) rfl hl.1 rfl (Nat.le_of_ble_eq_true rfl) dX5_goesBy_102 (fun rq_22 vq_22 H locs q_22 hP hS => ?_)
          have hP := hP.cast (q_22.2)
          refine lv_cast q_22.1 ?_
          refine lv_goto (tgt := 110) hx hb dX5_goesBy_105 (by decide) ?_
          exact hd_iret hx hb hr hlocks hP hS ⟨(by simp only [gB, goesBy, goesV, stGo, hld, c_2, c_3, k_20, c_21, ↓reduceIte] <;> decide), rfl⟩ dX5_goesBy_110
      by_cases k_23 : M (5 + 6 * p + 0) = 3
      · refine lv_cast k_23 ?_
        refine lv_tableIn (tgt := 74) hx hb dX5_goesBy_37 (by decide) (by decide) rfl (by decide) ?_
        refine lv_iload hx hb dX5_goesBy_74 (lv_at hl 1 rfl) ?_
        refine lv_istore (lv' := [(5, .int 6), (4, .int 6), (3, .int (M (5 + 6 * p + 2))), (0, .ref (gad G 34)), (1, .int (nI p)), (2, .int (bI o))]) hx hb dX5_goesBy_76 hl (by decide) rfl (fun ls hl => ?_)
        refine lv_goto (tgt := 90) hx hb dX5_goesBy_78 (by decide) ?_
        refine lv_iload_n hx hb dX5_goesBy_90 rfl (lv_at hl 2 rfl) ?_
        refine lv_iconst (v := 5) hx hb dX5_goesBy_91 (by decide) ?_
        refine lv_icmp_lt (tgt := 108) hx hb dX5_goesBy_92 (by decide) (fun c_24 => ?_) (fun c_24 => ?_)
        · skip
          refine lv_iload hx hb dX5_goesBy_108 (lv_at hl 0 rfl) ?_
          exact hd_iret hx hb hr hlocks hP hS ⟨(by simp only [gB, goesBy, goesV, stGo, hld, c_2, c_3, k_20, k_23, c_24, ↓reduceIte] <;> decide), rfl⟩ dX5_goesBy_110
        · skip
          refine lv_iload hx hb dX5_goesBy_95 (lv_at hl 0 rfl) ?_
          refine lv_iconst (v := 1) hx hb dX5_goesBy_97 (by decide) ?_
          refine lv_isub hx hb dX5_goesBy_98 ?_
          refine lv_cast (y := 5) (by decide) ?_
          refine lv_iconst (v := 1) hx hb dX5_goesBy_99 (by decide) ?_
          refine lv_iload hx hb dX5_goesBy_100 (lv_at hl 0 rfl) ?_
          refine hd_callSi (As := [.int 5, .int 1, .int 6]) (rest := []) ⟨hx, hb, hml, hown, hts⟩ hE hP hS (c_X5_held l G (sI u 11 M) 5 1 6) rfl (va_cwS 3 hts gX5_goesBy_X5_held rfl rfl rfl (by decide +kernel) ⟨Nat.le_of_ble_eq_true rfl, Nat.le_of_ble_eq_true rfl⟩) rfl hl.1 rfl (Nat.le_of_ble_eq_true rfl) dX5_goesBy_102 (fun rq_25 vq_25 H locs q_25 hP hS => ?_)
          have hP := hP.cast (q_25.2)
          refine lv_cast q_25.1 ?_
          refine lv_goto (tgt := 110) hx hb dX5_goesBy_105 (by decide) ?_
          exact hd_iret hx hb hr hlocks hP hS ⟨(by simp only [gB, goesBy, goesV, stGo, hld, c_2, c_3, k_20, k_23, c_24, ↓reduceIte] <;> decide), rfl⟩ dX5_goesBy_110
      by_cases k_26 : M (5 + 6 * p + 0) = 4
      · refine lv_cast k_26 ?_
        refine lv_tableIn (tgt := 81) hx hb dX5_goesBy_37 (by decide) (by decide) rfl (by decide) ?_
        refine lv_iload hx hb dX5_goesBy_81 (lv_at hl 1 rfl) ?_
        refine lv_iconst (v := 1) hx hb dX5_goesBy_83 (by decide) ?_
        refine lv_isub hx hb dX5_goesBy_84 ?_
        refine lv_cast (y := 5) (by decide) ?_
        refine lv_istore (lv' := [(5, .int 5), (4, .int 6), (3, .int (M (5 + 6 * p + 2))), (0, .ref (gad G 34)), (1, .int (nI p)), (2, .int (bI o))]) hx hb dX5_goesBy_85 hl (by decide) rfl (fun ls hl => ?_)
        refine lv_goto (tgt := 90) hx hb dX5_goesBy_87 (by decide) ?_
        refine lv_iload_n hx hb dX5_goesBy_90 rfl (lv_at hl 2 rfl) ?_
        refine lv_iconst (v := 5) hx hb dX5_goesBy_91 (by decide) ?_
        refine lv_icmp_lt (tgt := 108) hx hb dX5_goesBy_92 (by decide) (fun c_27 => ?_) (fun c_27 => ?_)
        · skip
          refine lv_iload hx hb dX5_goesBy_108 (lv_at hl 0 rfl) ?_
          exact hd_iret hx hb hr hlocks hP hS ⟨(by simp only [gB, goesBy, goesV, stGo, hld, c_2, c_3, k_20, k_23, k_26, c_27, ↓reduceIte] <;> decide), rfl⟩ dX5_goesBy_110
        · skip
          refine lv_iload hx hb dX5_goesBy_95 (lv_at hl 0 rfl) ?_
          refine lv_iconst (v := 1) hx hb dX5_goesBy_97 (by decide) ?_
          refine lv_isub hx hb dX5_goesBy_98 ?_
          refine lv_cast (y := 4) (by decide) ?_
          refine lv_iconst (v := 1) hx hb dX5_goesBy_99 (by decide) ?_
          refine lv_iload hx hb dX5_goesBy_100 (lv_at hl 0 rfl) ?_
          refine hd_callSi (As := [.int 4, .int 1, .int 5]) (rest := []) ⟨hx, hb, hml, hown, hts⟩ hE hP hS (c_X5_held l G (sI u 11 M) 4 1 5) rfl (va_cwS 3 hts gX5_goesBy_X5_held rfl rfl rfl (by decide +kernel) ⟨Nat.le_of_ble_eq_true rfl, Nat.le_of_ble_eq_true rfl⟩) rfl hl.1 rfl (Nat.le_of_ble_eq_true rfl) dX5_goesBy_102 (fun rq_28 vq_28 H locs q_28 hP hS => ?_)
          have hP := hP.cast (q_28.2)
          refine lv_cast q_28.1 ?_
          refine lv_goto (tgt := 110) hx hb dX5_goesBy_105 (by decide) ?_
          exact hd_iret hx hb hr hlocks hP hS ⟨(by simp only [gB, goesBy, goesV, stGo, hld, c_2, c_3, k_20, k_23, k_26, c_27, ↓reduceIte] <;> decide), rfl⟩ dX5_goesBy_110
      by_cases k_29 : M (5 + 6 * p + 0) = 5
      · refine lv_cast k_29 ?_
        refine lv_tableIn (tgt := 68) hx hb dX5_goesBy_37 (by decide) (by decide) rfl (by decide) ?_
        refine lv_iconst (v := 3) hx hb dX5_goesBy_68 (by decide) ?_
        refine lv_istore (lv' := [(5, .int 3), (4, .int 6), (3, .int (M (5 + 6 * p + 2))), (0, .ref (gad G 34)), (1, .int (nI p)), (2, .int (bI o))]) hx hb dX5_goesBy_69 hl (by decide) rfl (fun ls hl => ?_)
        refine lv_goto (tgt := 90) hx hb dX5_goesBy_71 (by decide) ?_
        refine lv_iload_n hx hb dX5_goesBy_90 rfl (lv_at hl 2 rfl) ?_
        refine lv_iconst (v := 5) hx hb dX5_goesBy_91 (by decide) ?_
        refine lv_icmp_lt (tgt := 108) hx hb dX5_goesBy_92 (by decide) (fun c_30 => ?_) (fun c_30 => ?_)
        · skip
          refine lv_iload hx hb dX5_goesBy_108 (lv_at hl 0 rfl) ?_
          exact hd_iret hx hb hr hlocks hP hS ⟨(by simp only [gB, goesBy, goesV, stGo, hld, c_2, c_3, k_20, k_23, k_26, k_29, c_30, ↓reduceIte] <;> decide), rfl⟩ dX5_goesBy_110
        · skip
          refine lv_iload hx hb dX5_goesBy_95 (lv_at hl 0 rfl) ?_
          refine lv_iconst (v := 1) hx hb dX5_goesBy_97 (by decide) ?_
          refine lv_isub hx hb dX5_goesBy_98 ?_
          refine lv_cast (y := 2) (by decide) ?_
          refine lv_iconst (v := 1) hx hb dX5_goesBy_99 (by decide) ?_
          refine lv_iload hx hb dX5_goesBy_100 (lv_at hl 0 rfl) ?_
          refine hd_callSi (As := [.int 2, .int 1, .int 3]) (rest := []) ⟨hx, hb, hml, hown, hts⟩ hE hP hS (c_X5_held l G (sI u 11 M) 2 1 3) rfl (va_cwS 3 hts gX5_goesBy_X5_held rfl rfl rfl (by decide +kernel) ⟨Nat.le_of_ble_eq_true rfl, Nat.le_of_ble_eq_true rfl⟩) rfl hl.1 rfl (Nat.le_of_ble_eq_true rfl) dX5_goesBy_102 (fun rq_31 vq_31 H locs q_31 hP hS => ?_)
          have hP := hP.cast (q_31.2)
          refine lv_cast q_31.1 ?_
          refine lv_goto (tgt := 110) hx hb dX5_goesBy_105 (by decide) ?_
          exact hd_iret hx hb hr hlocks hP hS ⟨(by simp only [gB, goesBy, goesV, stGo, hld, c_2, c_3, k_20, k_23, k_26, k_29, c_30, ↓reduceIte] <;> decide), rfl⟩ dX5_goesBy_110
      refine lv_tableOut (tgt := 90) hx hb dX5_goesBy_37 (sw_out (lo := 2) (hi := 5) (by decide) (by decide) (fun k h1 h2 => by
        rcases (show k = 2 ∨ k = 3 ∨ k = 4 ∨ k = 5 by omega) with rfl | rfl | rfl | rfl
        · exact k_20
        · exact k_23
        · exact k_26
        · exact k_29
        )) (by decide) ?_
      refine lv_iload_n hx hb dX5_goesBy_90 rfl (lv_at hl 2 rfl) ?_
      refine lv_iconst (v := 5) hx hb dX5_goesBy_91 (by decide) ?_
      refine lv_icmp_lt (tgt := 108) hx hb dX5_goesBy_92 (by decide) (fun c_32 => ?_) (fun c_32 => ?_)
      · skip
        refine lv_iload hx hb dX5_goesBy_108 (lv_at hl 0 rfl) ?_
        exact hd_iret hx hb hr hlocks hP hS ⟨(by simp only [gB, goesBy, goesV, stGo, hld, c_2, c_3, k_20, k_23, k_26, k_29, c_32, ↓reduceIte] <;> decide), rfl⟩ dX5_goesBy_110
      · skip
        refine lv_iload hx hb dX5_goesBy_95 (lv_at hl 0 rfl) ?_
        refine lv_iconst (v := 1) hx hb dX5_goesBy_97 (by decide) ?_
        refine lv_isub hx hb dX5_goesBy_98 ?_
        refine lv_cast (y := 3) (by decide) ?_
        refine lv_iconst (v := 1) hx hb dX5_goesBy_99 (by decide) ?_
        refine lv_iload hx hb dX5_goesBy_100 (lv_at hl 0 rfl) ?_
        refine hd_callSi (As := [.int 3, .int 1, .int 4]) (rest := []) ⟨hx, hb, hml, hown, hts⟩ hE hP hS (c_X5_held l G (sI u 11 M) 3 1 4) rfl (va_cwS 3 hts gX5_goesBy_X5_held rfl rfl rfl (by decide +kernel) ⟨Nat.le_of_ble_eq_true rfl, Nat.le_of_ble_eq_true rfl⟩) rfl hl.1 rfl (Nat.le_of_ble_eq_true rfl) dX5_goesBy_102 (fun rq_33 vq_33 H locs q_33 hP hS => ?_)
        have hP := hP.cast (q_33.2)
        refine lv_cast q_33.1 ?_
        refine lv_goto (tgt := 110) hx hb dX5_goesBy_105 (by decide) ?_
        exact hd_iret hx hb hr hlocks hP hS ⟨(by simp only [gB, goesBy, goesV, stGo, hld, c_2, c_3, k_20, k_23, k_26, k_29, c_32, ↓reduceIte] <;> decide), rfl⟩ dX5_goesBy_110
  · skip
    refine lv_iconst (v := 4) hx hb dX5_goesBy_11 (by decide) ?_
    refine lv_goto (tgt := 26) hx hb dX5_goesBy_12 (by decide) ?_
    refine lv_istore (lv' := [(4, .int 4), (3, .int (M (5 + 6 * p + 2))), (0, .ref (gad G 34)), (1, .int (nI p)), (2, .int (bI o))]) hx hb dX5_goesBy_26 hl (by decide) rfl (fun ls hl => ?_)
    refine lv_iconst (v := 4) hx hb dX5_goesBy_28 (by decide) ?_
    refine lv_istore (lv' := [(5, .int 4), (4, .int 4), (3, .int (M (5 + 6 * p + 2))), (0, .ref (gad G 34)), (1, .int (nI p)), (2, .int (bI o))]) hx hb dX5_goesBy_29 hl (by decide) rfl (fun ls hl => ?_)
    refine lv_aload_n hx hb dX5_goesBy_31 rfl (lv_at hl 3 rfl) ?_
    refine lv_iload_n hx hb dX5_goesBy_32 rfl (lv_at hl 4 rfl) ?_
    refine lv_iconst (v := 0) hx hb dX5_goesBy_33 (by decide) ?_
    refine hd_callVi (As := [.int (nI p), .int 0]) (rest := []) ⟨hx, hb, hml, hown, hts⟩ hE hP hS (c_X5_it l G u M p 0 (by omega) (by omega)) rfl (cwV 2 hts gX5_goesBy_X5_it rfl rfl rfl (by decide +kernel) ⟨Nat.le_of_ble_eq_true rfl, Nat.le_of_ble_eq_true rfl⟩) (mo_recv hE hP) rfl hl.1 rfl (Nat.le_of_ble_eq_true rfl) dX5_goesBy_34 (fun rq_34 vq_34 H locs q_34 hP hS => ?_)
    have hP := hP.cast (q_34.2)
    refine lv_cast q_34.1 ?_
    by_cases k_35 : M (5 + 6 * p + 0) = 2
    · refine lv_cast k_35 ?_
      refine lv_tableIn (tgt := 68) hx hb dX5_goesBy_37 (by decide) (by decide) rfl (by decide) ?_
      refine lv_iconst (v := 3) hx hb dX5_goesBy_68 (by decide) ?_
      refine lv_istore (lv' := [(5, .int 3), (4, .int 4), (3, .int (M (5 + 6 * p + 2))), (0, .ref (gad G 34)), (1, .int (nI p)), (2, .int (bI o))]) hx hb dX5_goesBy_69 hl (by decide) rfl (fun ls hl => ?_)
      refine lv_goto (tgt := 90) hx hb dX5_goesBy_71 (by decide) ?_
      refine lv_iload_n hx hb dX5_goesBy_90 rfl (lv_at hl 2 rfl) ?_
      refine lv_iconst (v := 5) hx hb dX5_goesBy_91 (by decide) ?_
      refine lv_icmp_lt (tgt := 108) hx hb dX5_goesBy_92 (by decide) (fun c_36 => ?_) (fun c_36 => ?_)
      · skip
        refine lv_iload hx hb dX5_goesBy_108 (lv_at hl 0 rfl) ?_
        exact hd_iret hx hb hr hlocks hP hS ⟨(by simp only [gB, goesBy, goesV, stGo, hld, c_2, k_35, c_36, ↓reduceIte] <;> decide), rfl⟩ dX5_goesBy_110
      · skip
        refine lv_iload hx hb dX5_goesBy_95 (lv_at hl 0 rfl) ?_
        refine lv_iconst (v := 1) hx hb dX5_goesBy_97 (by decide) ?_
        refine lv_isub hx hb dX5_goesBy_98 ?_
        refine lv_cast (y := 2) (by decide) ?_
        refine lv_iconst (v := 1) hx hb dX5_goesBy_99 (by decide) ?_
        refine lv_iload hx hb dX5_goesBy_100 (lv_at hl 0 rfl) ?_
        refine hd_callSi (As := [.int 2, .int 1, .int 3]) (rest := []) ⟨hx, hb, hml, hown, hts⟩ hE hP hS (c_X5_held l G (sI u 11 M) 2 1 3) rfl (va_cwS 3 hts gX5_goesBy_X5_held rfl rfl rfl (by decide +kernel) ⟨Nat.le_of_ble_eq_true rfl, Nat.le_of_ble_eq_true rfl⟩) rfl hl.1 rfl (Nat.le_of_ble_eq_true rfl) dX5_goesBy_102 (fun rq_37 vq_37 H locs q_37 hP hS => ?_)
        have hP := hP.cast (q_37.2)
        refine lv_cast q_37.1 ?_
        refine lv_goto (tgt := 110) hx hb dX5_goesBy_105 (by decide) ?_
        exact hd_iret hx hb hr hlocks hP hS ⟨(by simp only [gB, goesBy, goesV, stGo, hld, c_2, k_35, c_36, ↓reduceIte] <;> decide), rfl⟩ dX5_goesBy_110
    by_cases k_38 : M (5 + 6 * p + 0) = 3
    · refine lv_cast k_38 ?_
      refine lv_tableIn (tgt := 74) hx hb dX5_goesBy_37 (by decide) (by decide) rfl (by decide) ?_
      refine lv_iload hx hb dX5_goesBy_74 (lv_at hl 1 rfl) ?_
      refine lv_istore (lv' := [(5, .int 4), (4, .int 4), (3, .int (M (5 + 6 * p + 2))), (0, .ref (gad G 34)), (1, .int (nI p)), (2, .int (bI o))]) hx hb dX5_goesBy_76 hl (by decide) rfl (fun ls hl => ?_)
      refine lv_goto (tgt := 90) hx hb dX5_goesBy_78 (by decide) ?_
      refine lv_iload_n hx hb dX5_goesBy_90 rfl (lv_at hl 2 rfl) ?_
      refine lv_iconst (v := 5) hx hb dX5_goesBy_91 (by decide) ?_
      refine lv_icmp_lt (tgt := 108) hx hb dX5_goesBy_92 (by decide) (fun c_39 => ?_) (fun c_39 => ?_)
      · skip
        refine lv_iload hx hb dX5_goesBy_108 (lv_at hl 0 rfl) ?_
        exact hd_iret hx hb hr hlocks hP hS ⟨(by simp only [gB, goesBy, goesV, stGo, hld, c_2, k_35, k_38, c_39, ↓reduceIte] <;> decide), rfl⟩ dX5_goesBy_110
      · skip
        refine lv_iload hx hb dX5_goesBy_95 (lv_at hl 0 rfl) ?_
        refine lv_iconst (v := 1) hx hb dX5_goesBy_97 (by decide) ?_
        refine lv_isub hx hb dX5_goesBy_98 ?_
        refine lv_cast (y := 3) (by decide) ?_
        refine lv_iconst (v := 1) hx hb dX5_goesBy_99 (by decide) ?_
        refine lv_iload hx hb dX5_goesBy_100 (lv_at hl 0 rfl) ?_
        refine hd_callSi (As := [.int 3, .int 1, .int 4]) (rest := []) ⟨hx, hb, hml, hown, hts⟩ hE hP hS (c_X5_held l G (sI u 11 M) 3 1 4) rfl (va_cwS 3 hts gX5_goesBy_X5_held rfl rfl rfl (by decide +kernel) ⟨Nat.le_of_ble_eq_true rfl, Nat.le_of_ble_eq_true rfl⟩) rfl hl.1 rfl (Nat.le_of_ble_eq_true rfl) dX5_goesBy_102 (fun rq_40 vq_40 H locs q_40 hP hS => ?_)
        have hP := hP.cast (q_40.2)
        refine lv_cast q_40.1 ?_
        refine lv_goto (tgt := 110) hx hb dX5_goesBy_105 (by decide) ?_
        exact hd_iret hx hb hr hlocks hP hS ⟨(by simp only [gB, goesBy, goesV, stGo, hld, c_2, k_35, k_38, c_39, ↓reduceIte] <;> decide), rfl⟩ dX5_goesBy_110
    by_cases k_41 : M (5 + 6 * p + 0) = 4
    · refine lv_cast k_41 ?_
      refine lv_tableIn (tgt := 81) hx hb dX5_goesBy_37 (by decide) (by decide) rfl (by decide) ?_
      refine lv_iload hx hb dX5_goesBy_81 (lv_at hl 1 rfl) ?_
      refine lv_iconst (v := 1) hx hb dX5_goesBy_83 (by decide) ?_
      refine lv_isub hx hb dX5_goesBy_84 ?_
      refine lv_cast (y := 3) (by decide) ?_
      refine lv_istore (lv' := [(5, .int 3), (4, .int 4), (3, .int (M (5 + 6 * p + 2))), (0, .ref (gad G 34)), (1, .int (nI p)), (2, .int (bI o))]) hx hb dX5_goesBy_85 hl (by decide) rfl (fun ls hl => ?_)
      refine lv_goto (tgt := 90) hx hb dX5_goesBy_87 (by decide) ?_
      refine lv_iload_n hx hb dX5_goesBy_90 rfl (lv_at hl 2 rfl) ?_
      refine lv_iconst (v := 5) hx hb dX5_goesBy_91 (by decide) ?_
      refine lv_icmp_lt (tgt := 108) hx hb dX5_goesBy_92 (by decide) (fun c_42 => ?_) (fun c_42 => ?_)
      · skip
        refine lv_iload hx hb dX5_goesBy_108 (lv_at hl 0 rfl) ?_
        exact hd_iret hx hb hr hlocks hP hS ⟨(by simp only [gB, goesBy, goesV, stGo, hld, c_2, k_35, k_38, k_41, c_42, ↓reduceIte] <;> decide), rfl⟩ dX5_goesBy_110
      · skip
        refine lv_iload hx hb dX5_goesBy_95 (lv_at hl 0 rfl) ?_
        refine lv_iconst (v := 1) hx hb dX5_goesBy_97 (by decide) ?_
        refine lv_isub hx hb dX5_goesBy_98 ?_
        refine lv_cast (y := 2) (by decide) ?_
        refine lv_iconst (v := 1) hx hb dX5_goesBy_99 (by decide) ?_
        refine lv_iload hx hb dX5_goesBy_100 (lv_at hl 0 rfl) ?_
        refine hd_callSi (As := [.int 2, .int 1, .int 3]) (rest := []) ⟨hx, hb, hml, hown, hts⟩ hE hP hS (c_X5_held l G (sI u 11 M) 2 1 3) rfl (va_cwS 3 hts gX5_goesBy_X5_held rfl rfl rfl (by decide +kernel) ⟨Nat.le_of_ble_eq_true rfl, Nat.le_of_ble_eq_true rfl⟩) rfl hl.1 rfl (Nat.le_of_ble_eq_true rfl) dX5_goesBy_102 (fun rq_43 vq_43 H locs q_43 hP hS => ?_)
        have hP := hP.cast (q_43.2)
        refine lv_cast q_43.1 ?_
        refine lv_goto (tgt := 110) hx hb dX5_goesBy_105 (by decide) ?_
        exact hd_iret hx hb hr hlocks hP hS ⟨(by simp only [gB, goesBy, goesV, stGo, hld, c_2, k_35, k_38, k_41, c_42, ↓reduceIte] <;> decide), rfl⟩ dX5_goesBy_110
    by_cases k_44 : M (5 + 6 * p + 0) = 5
    · refine lv_cast k_44 ?_
      refine lv_tableIn (tgt := 68) hx hb dX5_goesBy_37 (by decide) (by decide) rfl (by decide) ?_
      refine lv_iconst (v := 3) hx hb dX5_goesBy_68 (by decide) ?_
      refine lv_istore (lv' := [(5, .int 3), (4, .int 4), (3, .int (M (5 + 6 * p + 2))), (0, .ref (gad G 34)), (1, .int (nI p)), (2, .int (bI o))]) hx hb dX5_goesBy_69 hl (by decide) rfl (fun ls hl => ?_)
      refine lv_goto (tgt := 90) hx hb dX5_goesBy_71 (by decide) ?_
      refine lv_iload_n hx hb dX5_goesBy_90 rfl (lv_at hl 2 rfl) ?_
      refine lv_iconst (v := 5) hx hb dX5_goesBy_91 (by decide) ?_
      refine lv_icmp_lt (tgt := 108) hx hb dX5_goesBy_92 (by decide) (fun c_45 => ?_) (fun c_45 => ?_)
      · skip
        refine lv_iload hx hb dX5_goesBy_108 (lv_at hl 0 rfl) ?_
        exact hd_iret hx hb hr hlocks hP hS ⟨(by simp only [gB, goesBy, goesV, stGo, hld, c_2, k_35, k_38, k_41, k_44, c_45, ↓reduceIte] <;> decide), rfl⟩ dX5_goesBy_110
      · skip
        refine lv_iload hx hb dX5_goesBy_95 (lv_at hl 0 rfl) ?_
        refine lv_iconst (v := 1) hx hb dX5_goesBy_97 (by decide) ?_
        refine lv_isub hx hb dX5_goesBy_98 ?_
        refine lv_cast (y := 2) (by decide) ?_
        refine lv_iconst (v := 1) hx hb dX5_goesBy_99 (by decide) ?_
        refine lv_iload hx hb dX5_goesBy_100 (lv_at hl 0 rfl) ?_
        refine hd_callSi (As := [.int 2, .int 1, .int 3]) (rest := []) ⟨hx, hb, hml, hown, hts⟩ hE hP hS (c_X5_held l G (sI u 11 M) 2 1 3) rfl (va_cwS 3 hts gX5_goesBy_X5_held rfl rfl rfl (by decide +kernel) ⟨Nat.le_of_ble_eq_true rfl, Nat.le_of_ble_eq_true rfl⟩) rfl hl.1 rfl (Nat.le_of_ble_eq_true rfl) dX5_goesBy_102 (fun rq_46 vq_46 H locs q_46 hP hS => ?_)
        have hP := hP.cast (q_46.2)
        refine lv_cast q_46.1 ?_
        refine lv_goto (tgt := 110) hx hb dX5_goesBy_105 (by decide) ?_
        exact hd_iret hx hb hr hlocks hP hS ⟨(by simp only [gB, goesBy, goesV, stGo, hld, c_2, k_35, k_38, k_41, k_44, c_45, ↓reduceIte] <;> decide), rfl⟩ dX5_goesBy_110
    refine lv_tableOut (tgt := 90) hx hb dX5_goesBy_37 (sw_out (lo := 2) (hi := 5) (by decide) (by decide) (fun k h1 h2 => by
      rcases (show k = 2 ∨ k = 3 ∨ k = 4 ∨ k = 5 by omega) with rfl | rfl | rfl | rfl
      · exact k_35
      · exact k_38
      · exact k_41
      · exact k_44
      )) (by decide) ?_
    refine lv_iload_n hx hb dX5_goesBy_90 rfl (lv_at hl 2 rfl) ?_
    refine lv_iconst (v := 5) hx hb dX5_goesBy_91 (by decide) ?_
    refine lv_icmp_lt (tgt := 108) hx hb dX5_goesBy_92 (by decide) (fun c_47 => ?_) (fun c_47 => ?_)
    · skip
      refine lv_iload hx hb dX5_goesBy_108 (lv_at hl 0 rfl) ?_
      exact hd_iret hx hb hr hlocks hP hS ⟨(by simp only [gB, goesBy, goesV, stGo, hld, c_2, k_35, k_38, k_41, k_44, c_47, ↓reduceIte] <;> decide), rfl⟩ dX5_goesBy_110
    · skip
      refine lv_iload hx hb dX5_goesBy_95 (lv_at hl 0 rfl) ?_
      refine lv_iconst (v := 1) hx hb dX5_goesBy_97 (by decide) ?_
      refine lv_isub hx hb dX5_goesBy_98 ?_
      refine lv_cast (y := 3) (by decide) ?_
      refine lv_iconst (v := 1) hx hb dX5_goesBy_99 (by decide) ?_
      refine lv_iload hx hb dX5_goesBy_100 (lv_at hl 0 rfl) ?_
      refine hd_callSi (As := [.int 3, .int 1, .int 4]) (rest := []) ⟨hx, hb, hml, hown, hts⟩ hE hP hS (c_X5_held l G (sI u 11 M) 3 1 4) rfl (va_cwS 3 hts gX5_goesBy_X5_held rfl rfl rfl (by decide +kernel) ⟨Nat.le_of_ble_eq_true rfl, Nat.le_of_ble_eq_true rfl⟩) rfl hl.1 rfl (Nat.le_of_ble_eq_true rfl) dX5_goesBy_102 (fun rq_48 vq_48 H locs q_48 hP hS => ?_)
      have hP := hP.cast (q_48.2)
      refine lv_cast q_48.1 ?_
      refine lv_goto (tgt := 110) hx hb dX5_goesBy_105 (by decide) ?_
      exact hd_iret hx hb hr hlocks hP hS ⟨(by simp only [gB, goesBy, goesV, stGo, hld, c_2, k_35, k_38, k_41, k_44, c_47, ↓reduceIte] <;> decide), rfl⟩ dX5_goesBy_110
set_option maxHeartbeats 4000000 in
set_option maxRecDepth 100000 in
/-- holdsFor -/
theorem c_X5_holdsFor (l : Launch) (G : Geo) (u : Sg) (M : Nat → Int32) (p q : Nat) (hp : p < 8) (hq : q < 8) : CtI l G yX5_holdsFor wsX5_holdsFor (rmO 1 22) [.ref (gad G 34), .int (nI p), .int (nI q)] (sI u 11 M) (fun r v => r = hF M p q ∧ v = sI u 11 M) := by
  refine CtI.of (cc := cX5_holdsFor) (maxL := 6) (ret := (some .int)) (own := RX5) (by decide) rfl rfl ?_
  rintro pg ev s0 mm below meth cd ⟨hx, hb, hr, hml, hown, hts, hlocks⟩ hE hP ls hl
  have hS : va_S (gA G) s0.heap s0.heap [] := va_S.rf
  have hl : lv_has ls 6 [(0, .ref (gad G 34)), (1, .int (nI p)), (2, .int (nI q))] := hl
  refine lv_aload_n hx hb dX5_holdsFor_0 rfl (lv_at hl 0 rfl) ?_
  refine lv_iload_n hx hb dX5_holdsFor_1 rfl (lv_at hl 2 rfl) ?_
  refine lv_iconst (v := 3) hx hb dX5_holdsFor_2 (by decide) ?_
  refine hd_callVi (As := [.int (nI q), .int 3]) (rest := []) ⟨hx, hb, hml, hown, hts⟩ hE hP hS (c_X5_it l G u M q 3 (by omega) (by omega)) rfl (cwV 2 hts gX5_holdsFor_X5_it rfl rfl rfl (by decide +kernel) ⟨Nat.le_of_ble_eq_true rfl, Nat.le_of_ble_eq_true rfl⟩) (mo_recv hE hP) rfl hl.1 rfl (Nat.le_of_ble_eq_true rfl) dX5_holdsFor_3 (fun rq_1 vq_1 H locs q_1 hP hS => ?_)
  have hP := hP.cast (q_1.2)
  refine lv_cast q_1.1 ?_
  refine lv_istore_n (lv' := [(3, .int (M (5 + 6 * q + 3))), (0, .ref (gad G 34)), (1, .int (nI p)), (2, .int (nI q))]) hx hb dX5_holdsFor_6 rfl hl (by decide) rfl (fun ls hl => ?_)
  refine lv_iload_n hx hb dX5_holdsFor_7 rfl (lv_at hl 0 rfl) ?_
  refine lv_bipush (v := 12) hx hb dX5_holdsFor_8 (by decide) ?_
  refine lv_icmp_lt (tgt := 17) hx hb dX5_holdsFor_10 (by decide) (fun c_2 => ?_) (fun c_2 => ?_)
  · skip
    refine lv_iload_n hx hb dX5_holdsFor_17 rfl (lv_at hl 0 rfl) ?_
    refine lv_iconst (v := 4) hx hb dX5_holdsFor_18 (by decide) ?_
    refine lv_idiv hx hb dX5_holdsFor_19 (by decide) ?_
    refine lv_iconst (v := 1) hx hb dX5_holdsFor_20 (by decide) ?_
    refine lv_iadd hx hb dX5_holdsFor_21 ?_
    refine lv_istore (lv' := [(4, .int (((M (5 + 6 * q + 3)) / 4) + 1)), (3, .int (M (5 + 6 * q + 3))), (0, .ref (gad G 34)), (1, .int (nI p)), (2, .int (nI q))]) hx hb dX5_holdsFor_22 hl (by decide) rfl (fun ls hl => ?_)
    refine lv_iload hx hb dX5_holdsFor_24 (lv_at hl 0 rfl) ?_
    refine lv_aload_n hx hb dX5_holdsFor_26 rfl (lv_at hl 2 rfl) ?_
    refine lv_iload_n hx hb dX5_holdsFor_27 rfl (lv_at hl 4 rfl) ?_
    refine lv_iconst (v := 2) hx hb dX5_holdsFor_28 (by decide) ?_
    refine hd_callVi (As := [.int (nI q), .int 2]) (rest := [.int (((M (5 + 6 * q + 3)) / 4) + 1)]) ⟨hx, hb, hml, hown, hts⟩ hE hP hS (c_X5_it l G u M q 2 (by omega) (by omega)) rfl (cwV 2 hts gX5_holdsFor_X5_it rfl rfl rfl (by decide +kernel) ⟨Nat.le_of_ble_eq_true rfl, Nat.le_of_ble_eq_true rfl⟩) (mo_recv hE hP) rfl hl.1 rfl (Nat.le_of_ble_eq_true rfl) dX5_holdsFor_29 (fun rq_3 vq_3 H locs q_3 hP hS => ?_)
    have hP := hP.cast (q_3.2)
    refine lv_cast q_3.1 ?_
    refine lv_iadd hx hb dX5_holdsFor_32 ?_
    refine lv_istore (lv' := [(5, .int ((((M (5 + 6 * q + 3)) / 4) + 1) + (M (5 + 6 * q + 2)))), (4, .int (((M (5 + 6 * q + 3)) / 4) + 1)), (3, .int (M (5 + 6 * q + 3))), (0, .ref (gad G 34)), (1, .int (nI p)), (2, .int (nI q))]) hx hb dX5_holdsFor_33 hl (by decide) rfl (fun ls hl => ?_)
    refine lv_aload_n hx hb dX5_holdsFor_35 rfl (lv_at hl 3 rfl) ?_
    refine lv_iload_n hx hb dX5_holdsFor_36 rfl (lv_at hl 4 rfl) ?_
    refine lv_iconst (v := 0) hx hb dX5_holdsFor_37 (by decide) ?_
    refine hd_callVi (As := [.int (nI p), .int 0]) (rest := []) ⟨hx, hb, hml, hown, hts⟩ hE hP hS (c_X5_it l G u M p 0 (by omega) (by omega)) rfl (cwV 2 hts gX5_holdsFor_X5_it rfl rfl rfl (by decide +kernel) ⟨Nat.le_of_ble_eq_true rfl, Nat.le_of_ble_eq_true rfl⟩) (mo_recv hE hP) rfl hl.1 rfl (Nat.le_of_ble_eq_true rfl) dX5_holdsFor_38 (fun rq_4 vq_4 H locs q_4 hP hS => ?_)
    have hP := hP.cast (q_4.2)
    refine lv_cast q_4.1 ?_
    by_cases k_5 : M (5 + 6 * p + 0) = 1
    · refine lv_cast k_5 ?_
      refine lv_tableIn (tgt := 76) hx hb dX5_holdsFor_41 (by decide) (by decide) rfl (by decide) ?_
      refine lv_aload_n hx hb dX5_holdsFor_76 rfl (lv_at hl 3 rfl) ?_
      refine lv_iload_n hx hb dX5_holdsFor_77 rfl (lv_at hl 5 rfl) ?_
      refine lv_iconst (v := 2) hx hb dX5_holdsFor_78 (by decide) ?_
      refine hd_callVi (As := [.int (nI q), .int 2]) (rest := []) ⟨hx, hb, hml, hown, hts⟩ hE hP hS (c_X5_it l G u M q 2 (by omega) (by omega)) rfl (cwV 2 hts gX5_holdsFor_X5_it rfl rfl rfl (by decide +kernel) ⟨Nat.le_of_ble_eq_true rfl, Nat.le_of_ble_eq_true rfl⟩) (mo_recv hE hP) rfl hl.1 rfl (Nat.le_of_ble_eq_true rfl) dX5_holdsFor_79 (fun rq_6 vq_6 H locs q_6 hP hS => ?_)
      have hP := hP.cast (q_6.2)
      refine lv_cast q_6.1 ?_
      refine lv_if_ne (tgt := 89) hx hb dX5_holdsFor_82 (by decide) (fun c_7 => ?_) (fun c_7 => ?_)
      · skip
        refine lv_iload hx hb dX5_holdsFor_89 (lv_at hl 1 rfl) ?_
        exact hd_iret hx hb hr hlocks hP hS ⟨(by first | rfl | (simp only [hF, hlds, wkr, c_2, k_5, c_7, ↓reduceIte]; done) | (simp only [hF, hlds, wkr, c_2, k_5, c_7, ↓reduceIte] <;> rfl) | (simp [hF, hlds, wkr, c_2, k_5, c_7]; done)), rfl⟩ dX5_holdsFor_91
      · skip
        refine lv_iconst (v := 0) hx hb dX5_holdsFor_85 (by decide) ?_
        refine lv_goto (tgt := 91) hx hb dX5_holdsFor_86 (by decide) ?_
        exact hd_iret hx hb hr hlocks hP hS ⟨(by first | rfl | (simp only [hF, hlds, wkr, c_2, k_5, c_7, ↓reduceIte]; done) | (simp only [hF, hlds, wkr, c_2, k_5, c_7, ↓reduceIte] <;> rfl) | (simp [hF, hlds, wkr, c_2, k_5, c_7]; done)), rfl⟩ dX5_holdsFor_91
    by_cases k_8 : M (5 + 6 * p + 0) = 2
    · refine lv_cast k_8 ?_
      refine lv_tableIn (tgt := 92) hx hb dX5_holdsFor_41 (by decide) (by decide) rfl (by decide) ?_
      refine lv_iload hx hb dX5_holdsFor_92 (lv_at hl 0 rfl) ?_
      exact hd_iret hx hb hr hlocks hP hS ⟨(by first | rfl | (simp only [hF, hlds, wkr, c_2, k_5, k_8, ↓reduceIte]; done) | (simp only [hF, hlds, wkr, c_2, k_5, k_8, ↓reduceIte] <;> rfl) | (simp [hF, hlds, wkr, c_2, k_5, k_8]; done)), rfl⟩ dX5_holdsFor_94
    by_cases k_9 : M (5 + 6 * p + 0) = 3
    · refine lv_cast k_9 ?_
      refine lv_tableIn (tgt := 95) hx hb dX5_holdsFor_41 (by decide) (by decide) rfl (by decide) ?_
      refine lv_bipush (v := 9) hx hb dX5_holdsFor_95 (by decide) ?_
      exact hd_iret hx hb hr hlocks hP hS ⟨(by first | rfl | (simp only [hF, hlds, wkr, c_2, k_5, k_8, k_9, ↓reduceIte]; done) | (simp only [hF, hlds, wkr, c_2, k_5, k_8, k_9, ↓reduceIte] <;> rfl) | (simp [hF, hlds, wkr, c_2, k_5, k_8, k_9]; done)), rfl⟩ dX5_holdsFor_97
    by_cases k_10 : M (5 + 6 * p + 0) = 4
    · refine lv_cast k_10 ?_
      refine lv_tableIn (tgt := 98) hx hb dX5_holdsFor_41 (by decide) (by decide) rfl (by decide) ?_
      refine lv_iconst (v := 0) hx hb dX5_holdsFor_98 (by decide) ?_
      exact hd_iret hx hb hr hlocks hP hS ⟨(by first | rfl | (simp only [hF, hlds, wkr, c_2, k_5, k_8, k_9, k_10, ↓reduceIte]; done) | (simp only [hF, hlds, wkr, c_2, k_5, k_8, k_9, k_10, ↓reduceIte] <;> rfl) | (simp [hF, hlds, wkr, c_2, k_5, k_8, k_9, k_10]; done)), rfl⟩ dX5_holdsFor_99
    by_cases k_11 : M (5 + 6 * p + 0) = 5
    · refine lv_cast k_11 ?_
      refine lv_tableIn (tgt := 100) hx hb dX5_holdsFor_41 (by decide) (by decide) rfl (by decide) ?_
      refine lv_aload_n hx hb dX5_holdsFor_100 rfl (lv_at hl 3 rfl) ?_
      refine lv_iload_n hx hb dX5_holdsFor_101 rfl (lv_at hl 5 rfl) ?_
      refine lv_iconst (v := 1) hx hb dX5_holdsFor_102 (by decide) ?_
      refine hd_callVi (As := [.int (nI q), .int 1]) (rest := []) ⟨hx, hb, hml, hown, hts⟩ hE hP hS (c_X5_it l G u M q 1 (by omega) (by omega)) rfl (cwV 2 hts gX5_holdsFor_X5_it rfl rfl rfl (by decide +kernel) ⟨Nat.le_of_ble_eq_true rfl, Nat.le_of_ble_eq_true rfl⟩) (mo_recv hE hP) rfl hl.1 rfl (Nat.le_of_ble_eq_true rfl) dX5_holdsFor_103 (fun rq_12 vq_12 H locs q_12 hP hS => ?_)
      have hP := hP.cast (q_12.2)
      refine lv_cast q_12.1 ?_
      refine lv_if_ne (tgt := 113) hx hb dX5_holdsFor_106 (by decide) (fun c_13 => ?_) (fun c_13 => ?_)
      · skip
        refine lv_iload hx hb dX5_holdsFor_113 (lv_at hl 0 rfl) ?_
        exact hd_iret hx hb hr hlocks hP hS ⟨(by first | rfl | (simp only [hF, hlds, wkr, c_2, k_5, k_8, k_9, k_10, k_11, c_13, ↓reduceIte]; done) | (simp only [hF, hlds, wkr, c_2, k_5, k_8, k_9, k_10, k_11, c_13, ↓reduceIte] <;> rfl) | (simp [hF, hlds, wkr, c_2, k_5, k_8, k_9, k_10, k_11, c_13]; done)), rfl⟩ dX5_holdsFor_115
      · skip
        refine lv_iconst (v := 0) hx hb dX5_holdsFor_109 (by decide) ?_
        refine lv_goto (tgt := 115) hx hb dX5_holdsFor_110 (by decide) ?_
        exact hd_iret hx hb hr hlocks hP hS ⟨(by first | rfl | (simp only [hF, hlds, wkr, c_2, k_5, k_8, k_9, k_10, k_11, c_13, ↓reduceIte]; done) | (simp only [hF, hlds, wkr, c_2, k_5, k_8, k_9, k_10, k_11, c_13, ↓reduceIte] <;> rfl) | (simp [hF, hlds, wkr, c_2, k_5, k_8, k_9, k_10, k_11, c_13]; done)), rfl⟩ dX5_holdsFor_115
    refine lv_tableOut (tgt := 116) hx hb dX5_holdsFor_41 (sw_out (lo := 1) (hi := 5) (by decide) (by decide) (fun k h1 h2 => by
      rcases (show k = 1 ∨ k = 2 ∨ k = 3 ∨ k = 4 ∨ k = 5 by omega) with rfl | rfl | rfl | rfl | rfl
      · exact k_5
      · exact k_8
      · exact k_9
      · exact k_10
      · exact k_11
      )) (by decide) ?_
    refine lv_iload hx hb dX5_holdsFor_116 (lv_at hl 1 rfl) ?_
    exact hd_iret hx hb hr hlocks hP hS ⟨(by first | rfl | (simp only [hF, hlds, wkr, c_2, k_5, k_8, k_9, k_10, k_11, ↓reduceIte]; done) | (simp only [hF, hlds, wkr, c_2, k_5, k_8, k_9, k_10, k_11, ↓reduceIte] <;> rfl) | (simp [hF, hlds, wkr, c_2, k_5, k_8, k_9, k_10, k_11]; done)), rfl⟩ dX5_holdsFor_118
  · skip
    refine lv_iconst (v := 0) hx hb dX5_holdsFor_13 (by decide) ?_
    refine lv_goto (tgt := 22) hx hb dX5_holdsFor_14 (by decide) ?_
    refine lv_istore (lv' := [(4, .int 0), (3, .int (M (5 + 6 * q + 3))), (0, .ref (gad G 34)), (1, .int (nI p)), (2, .int (nI q))]) hx hb dX5_holdsFor_22 hl (by decide) rfl (fun ls hl => ?_)
    refine lv_iload hx hb dX5_holdsFor_24 (lv_at hl 0 rfl) ?_
    refine lv_aload_n hx hb dX5_holdsFor_26 rfl (lv_at hl 2 rfl) ?_
    refine lv_iload_n hx hb dX5_holdsFor_27 rfl (lv_at hl 4 rfl) ?_
    refine lv_iconst (v := 2) hx hb dX5_holdsFor_28 (by decide) ?_
    refine hd_callVi (As := [.int (nI q), .int 2]) (rest := [.int 0]) ⟨hx, hb, hml, hown, hts⟩ hE hP hS (c_X5_it l G u M q 2 (by omega) (by omega)) rfl (cwV 2 hts gX5_holdsFor_X5_it rfl rfl rfl (by decide +kernel) ⟨Nat.le_of_ble_eq_true rfl, Nat.le_of_ble_eq_true rfl⟩) (mo_recv hE hP) rfl hl.1 rfl (Nat.le_of_ble_eq_true rfl) dX5_holdsFor_29 (fun rq_14 vq_14 H locs q_14 hP hS => ?_)
    have hP := hP.cast (q_14.2)
    refine lv_cast q_14.1 ?_
    refine lv_iadd hx hb dX5_holdsFor_32 ?_
    refine lv_istore (lv' := [(5, .int (0 + (M (5 + 6 * q + 2)))), (4, .int 0), (3, .int (M (5 + 6 * q + 3))), (0, .ref (gad G 34)), (1, .int (nI p)), (2, .int (nI q))]) hx hb dX5_holdsFor_33 hl (by decide) rfl (fun ls hl => ?_)
    refine lv_aload_n hx hb dX5_holdsFor_35 rfl (lv_at hl 3 rfl) ?_
    refine lv_iload_n hx hb dX5_holdsFor_36 rfl (lv_at hl 4 rfl) ?_
    refine lv_iconst (v := 0) hx hb dX5_holdsFor_37 (by decide) ?_
    refine hd_callVi (As := [.int (nI p), .int 0]) (rest := []) ⟨hx, hb, hml, hown, hts⟩ hE hP hS (c_X5_it l G u M p 0 (by omega) (by omega)) rfl (cwV 2 hts gX5_holdsFor_X5_it rfl rfl rfl (by decide +kernel) ⟨Nat.le_of_ble_eq_true rfl, Nat.le_of_ble_eq_true rfl⟩) (mo_recv hE hP) rfl hl.1 rfl (Nat.le_of_ble_eq_true rfl) dX5_holdsFor_38 (fun rq_15 vq_15 H locs q_15 hP hS => ?_)
    have hP := hP.cast (q_15.2)
    refine lv_cast q_15.1 ?_
    by_cases k_16 : M (5 + 6 * p + 0) = 1
    · refine lv_cast k_16 ?_
      refine lv_tableIn (tgt := 76) hx hb dX5_holdsFor_41 (by decide) (by decide) rfl (by decide) ?_
      refine lv_aload_n hx hb dX5_holdsFor_76 rfl (lv_at hl 3 rfl) ?_
      refine lv_iload_n hx hb dX5_holdsFor_77 rfl (lv_at hl 5 rfl) ?_
      refine lv_iconst (v := 2) hx hb dX5_holdsFor_78 (by decide) ?_
      refine hd_callVi (As := [.int (nI q), .int 2]) (rest := []) ⟨hx, hb, hml, hown, hts⟩ hE hP hS (c_X5_it l G u M q 2 (by omega) (by omega)) rfl (cwV 2 hts gX5_holdsFor_X5_it rfl rfl rfl (by decide +kernel) ⟨Nat.le_of_ble_eq_true rfl, Nat.le_of_ble_eq_true rfl⟩) (mo_recv hE hP) rfl hl.1 rfl (Nat.le_of_ble_eq_true rfl) dX5_holdsFor_79 (fun rq_17 vq_17 H locs q_17 hP hS => ?_)
      have hP := hP.cast (q_17.2)
      refine lv_cast q_17.1 ?_
      refine lv_if_ne (tgt := 89) hx hb dX5_holdsFor_82 (by decide) (fun c_18 => ?_) (fun c_18 => ?_)
      · skip
        refine lv_iload hx hb dX5_holdsFor_89 (lv_at hl 1 rfl) ?_
        exact hd_iret hx hb hr hlocks hP hS ⟨(by first | rfl | (simp only [hF, hlds, wkr, c_2, k_16, c_18, ↓reduceIte]; done) | (simp only [hF, hlds, wkr, c_2, k_16, c_18, ↓reduceIte] <;> rfl) | (simp [hF, hlds, wkr, c_2, k_16, c_18]; done)), rfl⟩ dX5_holdsFor_91
      · skip
        refine lv_iconst (v := 0) hx hb dX5_holdsFor_85 (by decide) ?_
        refine lv_goto (tgt := 91) hx hb dX5_holdsFor_86 (by decide) ?_
        exact hd_iret hx hb hr hlocks hP hS ⟨(by first | rfl | (simp only [hF, hlds, wkr, c_2, k_16, c_18, ↓reduceIte]; done) | (simp only [hF, hlds, wkr, c_2, k_16, c_18, ↓reduceIte] <;> rfl) | (simp [hF, hlds, wkr, c_2, k_16, c_18]; done)), rfl⟩ dX5_holdsFor_91
    by_cases k_19 : M (5 + 6 * p + 0) = 2
    · refine lv_cast k_19 ?_
      refine lv_tableIn (tgt := 92) hx hb dX5_holdsFor_41 (by decide) (by decide) rfl (by decide) ?_
      refine lv_iload hx hb dX5_holdsFor_92 (lv_at hl 0 rfl) ?_
      exact hd_iret hx hb hr hlocks hP hS ⟨(by first | rfl | (simp only [hF, hlds, wkr, c_2, k_16, k_19, ↓reduceIte]; done) | (simp only [hF, hlds, wkr, c_2, k_16, k_19, ↓reduceIte] <;> rfl) | (simp [hF, hlds, wkr, c_2, k_16, k_19]; done)), rfl⟩ dX5_holdsFor_94
    by_cases k_20 : M (5 + 6 * p + 0) = 3
    · refine lv_cast k_20 ?_
      refine lv_tableIn (tgt := 95) hx hb dX5_holdsFor_41 (by decide) (by decide) rfl (by decide) ?_
      refine lv_bipush (v := 9) hx hb dX5_holdsFor_95 (by decide) ?_
      exact hd_iret hx hb hr hlocks hP hS ⟨(by first | rfl | (simp only [hF, hlds, wkr, c_2, k_16, k_19, k_20, ↓reduceIte]; done) | (simp only [hF, hlds, wkr, c_2, k_16, k_19, k_20, ↓reduceIte] <;> rfl) | (simp [hF, hlds, wkr, c_2, k_16, k_19, k_20]; done)), rfl⟩ dX5_holdsFor_97
    by_cases k_21 : M (5 + 6 * p + 0) = 4
    · refine lv_cast k_21 ?_
      refine lv_tableIn (tgt := 98) hx hb dX5_holdsFor_41 (by decide) (by decide) rfl (by decide) ?_
      refine lv_iconst (v := 0) hx hb dX5_holdsFor_98 (by decide) ?_
      exact hd_iret hx hb hr hlocks hP hS ⟨(by first | rfl | (simp only [hF, hlds, wkr, c_2, k_16, k_19, k_20, k_21, ↓reduceIte]; done) | (simp only [hF, hlds, wkr, c_2, k_16, k_19, k_20, k_21, ↓reduceIte] <;> rfl) | (simp [hF, hlds, wkr, c_2, k_16, k_19, k_20, k_21]; done)), rfl⟩ dX5_holdsFor_99
    by_cases k_22 : M (5 + 6 * p + 0) = 5
    · refine lv_cast k_22 ?_
      refine lv_tableIn (tgt := 100) hx hb dX5_holdsFor_41 (by decide) (by decide) rfl (by decide) ?_
      refine lv_aload_n hx hb dX5_holdsFor_100 rfl (lv_at hl 3 rfl) ?_
      refine lv_iload_n hx hb dX5_holdsFor_101 rfl (lv_at hl 5 rfl) ?_
      refine lv_iconst (v := 1) hx hb dX5_holdsFor_102 (by decide) ?_
      refine hd_callVi (As := [.int (nI q), .int 1]) (rest := []) ⟨hx, hb, hml, hown, hts⟩ hE hP hS (c_X5_it l G u M q 1 (by omega) (by omega)) rfl (cwV 2 hts gX5_holdsFor_X5_it rfl rfl rfl (by decide +kernel) ⟨Nat.le_of_ble_eq_true rfl, Nat.le_of_ble_eq_true rfl⟩) (mo_recv hE hP) rfl hl.1 rfl (Nat.le_of_ble_eq_true rfl) dX5_holdsFor_103 (fun rq_23 vq_23 H locs q_23 hP hS => ?_)
      have hP := hP.cast (q_23.2)
      refine lv_cast q_23.1 ?_
      refine lv_if_ne (tgt := 113) hx hb dX5_holdsFor_106 (by decide) (fun c_24 => ?_) (fun c_24 => ?_)
      · skip
        refine lv_iload hx hb dX5_holdsFor_113 (lv_at hl 0 rfl) ?_
        exact hd_iret hx hb hr hlocks hP hS ⟨(by first | rfl | (simp only [hF, hlds, wkr, c_2, k_16, k_19, k_20, k_21, k_22, c_24, ↓reduceIte]; done) | (simp only [hF, hlds, wkr, c_2, k_16, k_19, k_20, k_21, k_22, c_24, ↓reduceIte] <;> rfl) | (simp [hF, hlds, wkr, c_2, k_16, k_19, k_20, k_21, k_22, c_24]; done)), rfl⟩ dX5_holdsFor_115
      · skip
        refine lv_iconst (v := 0) hx hb dX5_holdsFor_109 (by decide) ?_
        refine lv_goto (tgt := 115) hx hb dX5_holdsFor_110 (by decide) ?_
        exact hd_iret hx hb hr hlocks hP hS ⟨(by first | rfl | (simp only [hF, hlds, wkr, c_2, k_16, k_19, k_20, k_21, k_22, c_24, ↓reduceIte]; done) | (simp only [hF, hlds, wkr, c_2, k_16, k_19, k_20, k_21, k_22, c_24, ↓reduceIte] <;> rfl) | (simp [hF, hlds, wkr, c_2, k_16, k_19, k_20, k_21, k_22, c_24]; done)), rfl⟩ dX5_holdsFor_115
    refine lv_tableOut (tgt := 116) hx hb dX5_holdsFor_41 (sw_out (lo := 1) (hi := 5) (by decide) (by decide) (fun k h1 h2 => by
      rcases (show k = 1 ∨ k = 2 ∨ k = 3 ∨ k = 4 ∨ k = 5 by omega) with rfl | rfl | rfl | rfl | rfl
      · exact k_16
      · exact k_19
      · exact k_20
      · exact k_21
      · exact k_22
      )) (by decide) ?_
    refine lv_iload hx hb dX5_holdsFor_116 (lv_at hl 1 rfl) ?_
    exact hd_iret hx hb hr hlocks hP hS ⟨(by first | rfl | (simp only [hF, hlds, wkr, c_2, k_16, k_19, k_20, k_21, k_22, ↓reduceIte]; done) | (simp only [hF, hlds, wkr, c_2, k_16, k_19, k_20, k_21, k_22, ↓reduceIte] <;> rfl) | (simp [hF, hlds, wkr, c_2, k_16, k_19, k_20, k_21, k_22]; done)), rfl⟩ dX5_holdsFor_118
set_option maxHeartbeats 4000000 in
set_option maxRecDepth 100000 in
/-- doesAsk -/
theorem c_X5_doesAsk (l : Launch) (G : Geo) (u : Sg) (M : Nat → Int32) (p q : Nat) (hp : p < 8) (hq : q < 8) : CtI l G yX5_doesAsk wsX5_doesAsk (rmO 1 22) [.ref (gad G 34), .int (nI p), .int (nI q)] (sI u 11 M) (fun r v => r = bI (aK M p q) ∧ v = sI u 11 M) := by
  refine CtI.of (cc := cX5_doesAsk) (maxL := 4) (ret := (some .boolean)) (own := RX5) (by decide) rfl rfl ?_
  rintro pg ev s0 mm below meth cd ⟨hx, hb, hr, hml, hown, hts, hlocks⟩ hE hP ls hl
  have hS : va_S (gA G) s0.heap s0.heap [] := va_S.rf
  have hl : lv_has ls 4 [(0, .ref (gad G 34)), (1, .int (nI p)), (2, .int (nI q))] := hl
  have hin5 : ∀ w ∈ wsX50, w ∈ wsX5_doesAsk := by decide +kernel
  refine lv_aload_n hx hb dX5_doesAsk_0 rfl (lv_at hl 0 rfl) ?_
  refine mo_get hx hb hts hin5 hown hE hP ((sI_ne _ _ (by decide)).trans rfl) 0 (by decide) (hts (.fieldLink RX5 9 "HeldDoorModel" "m" "[I") (by decide +kernel)) (v := .ref (gad G 35)) rfl dX5_doesAsk_1 ?_
  refine lv_iconst (v := 1) hx hb dX5_doesAsk_4 (by decide) ?_
  refine ar_ld hx hb hE hP 35 53 (by decide) (ar_at35 (sI_at _ _ _)) 1 (by omega) dX5_doesAsk_5 ?_
  refine lv_istore_n (lv' := [(3, .int (M 1)), (0, .ref (gad G 34)), (1, .int (nI p)), (2, .int (nI q))]) hx hb dX5_doesAsk_6 rfl hl (by decide) rfl (fun ls hl => ?_)
  refine lv_aload_n hx hb dX5_doesAsk_7 rfl (lv_at hl 1 rfl) ?_
  refine lv_iload_n hx hb dX5_doesAsk_8 rfl (lv_at hl 2 rfl) ?_
  refine lv_iconst (v := 0) hx hb dX5_doesAsk_9 (by decide) ?_
  refine hd_callVi (As := [.int (nI p), .int 0]) (rest := []) ⟨hx, hb, hml, hown, hts⟩ hE hP hS (c_X5_it l G u M p 0 (by omega) (by omega)) rfl (cwV 2 hts gX5_doesAsk_X5_it rfl rfl rfl (by decide +kernel) ⟨Nat.le_of_ble_eq_true rfl, Nat.le_of_ble_eq_true rfl⟩) (mo_recv hE hP) rfl hl.1 rfl (Nat.le_of_ble_eq_true rfl) dX5_doesAsk_10 (fun rq_1 vq_1 H locs q_1 hP hS => ?_)
  have hP := hP.cast (q_1.2)
  refine lv_cast q_1.1 ?_
  by_cases k_2 : M (5 + 6 * p + 0) = 1
  · refine lv_cast k_2 ?_
    refine lv_tableIn (tgt := 48) hx hb dX5_doesAsk_13 (by decide) (by decide) rfl (by decide) ?_
    refine lv_iload_n hx hb dX5_doesAsk_48 rfl (lv_at hl 0 rfl) ?_
    refine lv_bipush (v := 20) hx hb dX5_doesAsk_49 (by decide) ?_
    refine lv_icmp_lt (tgt := 58) hx hb dX5_doesAsk_51 (by decide) (fun c_3 => ?_) (fun c_3 => ?_)
    · skip
      refine lv_iconst (v := 0) hx hb dX5_doesAsk_58 (by decide) ?_
      exact hd_zret hx hb hr hlocks hP hS ⟨(by first | rfl | (simp only [aK, asks, bI, k_2, c_3, ↓reduceIte]; done) | (simp only [aK, asks, bI, k_2, c_3, ↓reduceIte] <;> rfl) | (simp [aK, asks, bI, k_2, c_3]; done)), rfl⟩ rfl dX5_doesAsk_59
    · skip
      refine lv_iconst (v := 1) hx hb dX5_doesAsk_54 (by decide) ?_
      refine lv_goto (tgt := 59) hx hb dX5_doesAsk_55 (by decide) ?_
      exact hd_zret hx hb hr hlocks hP hS ⟨(by first | rfl | (simp only [aK, asks, bI, k_2, c_3, ↓reduceIte]; done) | (simp only [aK, asks, bI, k_2, c_3, ↓reduceIte] <;> rfl) | (simp [aK, asks, bI, k_2, c_3]; done)), rfl⟩ rfl dX5_doesAsk_59
  by_cases k_4 : M (5 + 6 * p + 0) = 2
  · refine lv_cast k_4 ?_
    refine lv_tableIn (tgt := 60) hx hb dX5_doesAsk_13 (by decide) (by decide) rfl (by decide) ?_
    refine lv_iload_n hx hb dX5_doesAsk_60 rfl (lv_at hl 0 rfl) ?_
    refine lv_bipush (v := 90) hx hb dX5_doesAsk_61 (by decide) ?_
    refine lv_icmp_lt (tgt := 70) hx hb dX5_doesAsk_63 (by decide) (fun c_5 => ?_) (fun c_5 => ?_)
    · skip
      refine lv_iconst (v := 0) hx hb dX5_doesAsk_70 (by decide) ?_
      exact hd_zret hx hb hr hlocks hP hS ⟨(by first | rfl | (simp only [aK, asks, bI, k_2, k_4, c_5, ↓reduceIte]; done) | (simp only [aK, asks, bI, k_2, k_4, c_5, ↓reduceIte] <;> rfl) | (simp [aK, asks, bI, k_2, k_4, c_5]; done)), rfl⟩ rfl dX5_doesAsk_71
    · skip
      refine lv_iconst (v := 1) hx hb dX5_doesAsk_66 (by decide) ?_
      refine lv_goto (tgt := 71) hx hb dX5_doesAsk_67 (by decide) ?_
      exact hd_zret hx hb hr hlocks hP hS ⟨(by first | rfl | (simp only [aK, asks, bI, k_2, k_4, c_5, ↓reduceIte]; done) | (simp only [aK, asks, bI, k_2, k_4, c_5, ↓reduceIte] <;> rfl) | (simp [aK, asks, bI, k_2, k_4, c_5]; done)), rfl⟩ rfl dX5_doesAsk_71
  by_cases k_6 : M (5 + 6 * p + 0) = 3
  · refine lv_cast k_6 ?_
    refine lv_tableIn (tgt := 72) hx hb dX5_doesAsk_13 (by decide) (by decide) rfl (by decide) ?_
    refine lv_iconst (v := 0) hx hb dX5_doesAsk_72 (by decide) ?_
    exact hd_zret hx hb hr hlocks hP hS ⟨(by first | rfl | (simp only [aK, asks, bI, k_2, k_4, k_6, ↓reduceIte]; done) | (simp only [aK, asks, bI, k_2, k_4, k_6, ↓reduceIte] <;> rfl) | (simp [aK, asks, bI, k_2, k_4, k_6]; done)), rfl⟩ rfl dX5_doesAsk_73
  by_cases k_7 : M (5 + 6 * p + 0) = 4
  · refine lv_cast k_7 ?_
    refine lv_tableIn (tgt := 72) hx hb dX5_doesAsk_13 (by decide) (by decide) rfl (by decide) ?_
    refine lv_iconst (v := 0) hx hb dX5_doesAsk_72 (by decide) ?_
    exact hd_zret hx hb hr hlocks hP hS ⟨(by first | rfl | (simp only [aK, asks, bI, k_2, k_4, k_6, k_7, ↓reduceIte]; done) | (simp only [aK, asks, bI, k_2, k_4, k_6, k_7, ↓reduceIte] <;> rfl) | (simp [aK, asks, bI, k_2, k_4, k_6, k_7]; done)), rfl⟩ rfl dX5_doesAsk_73
  by_cases k_8 : M (5 + 6 * p + 0) = 5
  · refine lv_cast k_8 ?_
    refine lv_tableIn (tgt := 74) hx hb dX5_doesAsk_13 (by decide) (by decide) rfl (by decide) ?_
    refine lv_iload_n hx hb dX5_doesAsk_74 rfl (lv_at hl 0 rfl) ?_
    refine lv_bipush (v := 10) hx hb dX5_doesAsk_75 (by decide) ?_
    refine lv_icmp_lt (tgt := 84) hx hb dX5_doesAsk_77 (by decide) (fun c_9 => ?_) (fun c_9 => ?_)
    · skip
      refine lv_iconst (v := 0) hx hb dX5_doesAsk_84 (by decide) ?_
      exact hd_zret hx hb hr hlocks hP hS ⟨(by first | rfl | (simp only [aK, asks, bI, k_2, k_4, k_6, k_7, k_8, c_9, ↓reduceIte]; done) | (simp only [aK, asks, bI, k_2, k_4, k_6, k_7, k_8, c_9, ↓reduceIte] <;> rfl) | (simp [aK, asks, bI, k_2, k_4, k_6, k_7, k_8, c_9]; done)), rfl⟩ rfl dX5_doesAsk_85
    · skip
      refine lv_iconst (v := 1) hx hb dX5_doesAsk_80 (by decide) ?_
      refine lv_goto (tgt := 85) hx hb dX5_doesAsk_81 (by decide) ?_
      exact hd_zret hx hb hr hlocks hP hS ⟨(by first | rfl | (simp only [aK, asks, bI, k_2, k_4, k_6, k_7, k_8, c_9, ↓reduceIte]; done) | (simp only [aK, asks, bI, k_2, k_4, k_6, k_7, k_8, c_9, ↓reduceIte] <;> rfl) | (simp [aK, asks, bI, k_2, k_4, k_6, k_7, k_8, c_9]; done)), rfl⟩ rfl dX5_doesAsk_85
  refine lv_tableOut (tgt := 86) hx hb dX5_doesAsk_13 (sw_out (lo := 1) (hi := 5) (by decide) (by decide) (fun k h1 h2 => by
    rcases (show k = 1 ∨ k = 2 ∨ k = 3 ∨ k = 4 ∨ k = 5 by omega) with rfl | rfl | rfl | rfl | rfl
    · exact k_2
    · exact k_4
    · exact k_6
    · exact k_7
    · exact k_8
    )) (by decide) ?_
  refine lv_iload_n hx hb dX5_doesAsk_86 rfl (lv_at hl 0 rfl) ?_
  refine lv_bipush (v := 50) hx hb dX5_doesAsk_87 (by decide) ?_
  refine lv_icmp_lt (tgt := 105) hx hb dX5_doesAsk_89 (by decide) (fun c_10 => ?_) (fun c_10 => ?_)
  · skip
    refine lv_iconst (v := 0) hx hb dX5_doesAsk_105 (by decide) ?_
    exact hd_zret hx hb hr hlocks hP hS ⟨(by first | rfl | (simp only [aK, asks, bI, k_2, k_4, k_6, k_7, k_8, c_10, ↓reduceIte]; done) | (simp only [aK, asks, bI, k_2, k_4, k_6, k_7, k_8, c_10, ↓reduceIte] <;> rfl) | (simp [aK, asks, bI, k_2, k_4, k_6, k_7, k_8, c_10]; done)), rfl⟩ rfl dX5_doesAsk_106
  · skip
    refine lv_aload_n hx hb dX5_doesAsk_92 rfl (lv_at hl 1 rfl) ?_
    refine lv_iload_n hx hb dX5_doesAsk_93 rfl (lv_at hl 3 rfl) ?_
    refine lv_iconst (v := 2) hx hb dX5_doesAsk_94 (by decide) ?_
    refine hd_callVi (As := [.int (nI q), .int 2]) (rest := []) ⟨hx, hb, hml, hown, hts⟩ hE hP hS (c_X5_it l G u M q 2 (by omega) (by omega)) rfl (cwV 2 hts gX5_doesAsk_X5_it rfl rfl rfl (by decide +kernel) ⟨Nat.le_of_ble_eq_true rfl, Nat.le_of_ble_eq_true rfl⟩) (mo_recv hE hP) rfl hl.1 rfl (Nat.le_of_ble_eq_true rfl) dX5_doesAsk_95 (fun rq_11 vq_11 H locs q_11 hP hS => ?_)
    have hP := hP.cast (q_11.2)
    refine lv_cast q_11.1 ?_
    refine lv_if_ne (tgt := 105) hx hb dX5_doesAsk_98 (by decide) (fun c_12 => ?_) (fun c_12 => ?_)
    · skip
      refine lv_iconst (v := 0) hx hb dX5_doesAsk_105 (by decide) ?_
      exact hd_zret hx hb hr hlocks hP hS ⟨(by first | rfl | (simp only [aK, asks, bI, k_2, k_4, k_6, k_7, k_8, c_10, c_12, ↓reduceIte]; done) | (simp only [aK, asks, bI, k_2, k_4, k_6, k_7, k_8, c_10, c_12, ↓reduceIte] <;> rfl) | (simp [aK, asks, bI, k_2, k_4, k_6, k_7, k_8, c_10, c_12]; done)), rfl⟩ rfl dX5_doesAsk_106
    · skip
      refine lv_iconst (v := 1) hx hb dX5_doesAsk_101 (by decide) ?_
      refine lv_goto (tgt := 106) hx hb dX5_doesAsk_102 (by decide) ?_
      exact hd_zret hx hb hr hlocks hP hS ⟨(by first | rfl | (simp only [aK, asks, bI, k_2, k_4, k_6, k_7, k_8, c_10, c_12, ↓reduceIte]; done) | (simp only [aK, asks, bI, k_2, k_4, k_6, k_7, k_8, c_10, c_12, ↓reduceIte] <;> rfl) | (simp [aK, asks, bI, k_2, k_4, k_6, k_7, k_8, c_10, c_12]; done)), rfl⟩ rfl dX5_doesAsk_106
set_option maxHeartbeats 4000000 in
set_option maxRecDepth 100000 in
theorem c_X5_inside (l : Launch) (G : Geo) (u : Sg) (M : Nat → Int32) (hM : Wf M) : CtI l G yX5_inside wsX5_inside (rmO 1 22) [.ref (gad G 34)] (sI u 11 M) (fun r v => r = inS M (nP M) ∧ v = sI u 11 M) := by
  refine CtI.of (cc := cX5_inside) (maxL := 3) (ret := (some .int)) (own := RX5) (by decide) rfl rfl ?_
  rintro pg ev s0 mm below meth cd ⟨hx, hb, hr, hml, hown, hts, hlocks⟩ hE hP ls hl
  have hS : va_S (gA G) s0.heap s0.heap [] := va_S.rf
  have hl : lv_has ls 3 [(0, .ref (gad G 34))] := hl
  have hin5 : ∀ w ∈ wsX50, w ∈ wsX5_inside := by decide +kernel
  have hn := hM.n
  have h8 := hM.n8
  refine lv_iconst (v := 0) hx hb dX5_inside_0 (by decide) ?_
  refine lv_istore_n (lv' := [(1, .int 0), (0, .ref (gad G 34))]) hx hb dX5_inside_1 rfl hl (by decide) rfl (fun ls hl => ?_)
  refine lv_iconst (v := 0) hx hb dX5_inside_2 (by decide) ?_
  refine lv_istore_n (lv' := [(2, .int 0), (1, .int 0), (0, .ref (gad G 34))]) hx hb dX5_inside_3 rfl hl (by decide) rfl (fun ls hl => ?_)
  have J4 : ∀ (fu : Nat) (p : Nat) (a : Int32) (hp : p ≤ nP M) (ha : a = inS M p) (hrk : nP M - p < fu) (H : Heap) (locs : List Loc) (ls : Array Slot), WP G (sI u 11 M) H → va_S (gA G) s0.heap H locs → lv_has ls 3 [(0, .ref (gad G 34)), (1, .int a), (2, .int (nI p))] → W pg l ev (headSpec wsX5_inside (rmO 1 22)).room s0 mm ([.ref (gad G 34)] : List Value).toArray below meth cd H locs 0 0 (MQ below (va_Qi (fun r v => r = inS M (nP M) ∧ v = sI u 11 M) (fun v t => WP G v t.heap) (gA G)) ([.ref (gad G 34)] : List Value).toArray s0 0 0 (gA G)) (F0 mm 4 ls []) := by
    intro fu
    induction fu with
    | zero => intro p a hp ha hrk; exact absurd hrk (Nat.not_lt_zero _)
    | succ fu ih4 =>
      intro p a hp ha hrk H locs ls hP hS hl
      refine lv_iload_n hx hb dX5_inside_4 rfl (lv_at hl 2 rfl) ?_
      refine lv_aload_n hx hb dX5_inside_5 rfl (lv_at hl 0 rfl) ?_
      refine mo_get hx hb hts hin5 hown hE hP ((sI_ne _ _ (by decide)).trans rfl) 0 (by decide) (hts (.fieldLink RX5 9 "HeldDoorModel" "m" "[I") (by decide +kernel)) (v := .ref (gad G 35)) rfl dX5_inside_6 ?_
      refine lv_iconst (v := 4) hx hb dX5_inside_9 (by decide) ?_
      refine ar_ld hx hb hE hP 35 53 (by decide) (ar_at35 (sI_at _ _ _)) 4 (by omega) dX5_inside_10 ?_
      refine lv_cast hn ?_
      refine nn_ge (a := p) (b := nP M) (by omega) (by omega) (tgt := 31) hx hb dX5_inside_11 (by decide) (fun c_1 => ?_) (fun c_1 => ?_)
      · skip
        refine lv_iload_n hx hb dX5_inside_31 rfl (lv_at hl 1 rfl) ?_
        exact hd_iret hx hb hr hlocks hP hS ⟨(by rw [ha, show p = nP M by omega]), rfl⟩ dX5_inside_32
      · skip
        refine lv_iload_n hx hb dX5_inside_14 rfl (lv_at hl 1 rfl) ?_
        refine lv_aload_n hx hb dX5_inside_15 rfl (lv_at hl 0 rfl) ?_
        refine lv_iload_n hx hb dX5_inside_16 rfl (lv_at hl 2 rfl) ?_
        refine lv_iconst (v := 4) hx hb dX5_inside_17 (by decide) ?_
        refine hd_callVi (As := [.int (nI p), .int 4]) (rest := [.int a]) ⟨hx, hb, hml, hown, hts⟩ hE hP hS (c_X5_it l G u M p 4 (by omega) (by omega)) rfl (cwV 2 hts gX5_inside_X5_it rfl rfl rfl (by decide +kernel) ⟨Nat.le_of_ble_eq_true rfl, Nat.le_of_ble_eq_true rfl⟩) (mo_recv hE hP) rfl hl.1 rfl (Nat.le_of_ble_eq_true rfl) dX5_inside_18 (fun rq_2 vq_2 H locs q_2 hP hS => ?_)
        have hP := hP.cast (q_2.2)
        refine lv_cast q_2.1 ?_
        refine lv_iload_n hx hb dX5_inside_21 rfl (lv_at hl 2 rfl) ?_
        refine lv_ishl hx hb dX5_inside_22 ?_
        refine lv_ior hx hb dX5_inside_23 ?_
        refine lv_istore_n (lv' := [(1, .int (a ||| ((M (5 + 6 * p + 4)) <<< ((nI p) &&& 31)))), (0, .ref (gad G 34)), (2, .int (nI p))]) hx hb dX5_inside_24 rfl hl (by decide) rfl (fun ls hl => ?_)
        refine lv_iinc (v := nI (p + 1)) (lv' := [(2, .int (nI (p + 1))), (1, .int (a ||| ((M (5 + 6 * p + 4)) <<< ((nI p) &&& 31)))), (0, .ref (gad G 34))]) hx hb dX5_inside_25 hl (k := 2) rfl (inc1 _) (by decide) rfl (fun ls hl => ?_)
        refine lv_goto (tgt := 4) hx hb dX5_inside_28 (by decide) ?_
        exact ih4 (p + 1) (a ||| ((M (5 + 6 * p + 4)) <<< ((nI p) &&& 31))) (by omega) (by rw [ha]; rfl) (by omega) _ _ _ hP hS (lv_sub hl [2, 1, 0] rfl)
  exact J4 _ 0 0 (Nat.zero_le _) rfl (Nat.lt_succ_self _) _ _ _ hP hS (lv_sub hl [2, 1, 0] rfl)
set_option maxHeartbeats 4000000 in
set_option maxRecDepth 100000 in
theorem c_X5_looseOnes (l : Launch) (G : Geo) (u : Sg) (M : Nat → Int32) (hM : Wf M) : CtI l G yX5_looseOnes wsX5_looseOnes (rmO 1 22) [.ref (gad G 34)] (sI u 11 M) (fun r v => r = loS M (nP M) ∧ v = sI u 11 M) := by
  refine CtI.of (cc := cX5_looseOnes) (maxL := 3) (ret := (some .int)) (own := RX5) (by decide) rfl rfl ?_
  rintro pg ev s0 mm below meth cd ⟨hx, hb, hr, hml, hown, hts, hlocks⟩ hE hP ls hl
  have hS : va_S (gA G) s0.heap s0.heap [] := va_S.rf
  have hl : lv_has ls 3 [(0, .ref (gad G 34))] := hl
  have hin5 : ∀ w ∈ wsX50, w ∈ wsX5_looseOnes := by decide +kernel
  have hn := hM.n
  have h8 := hM.n8
  refine lv_iconst (v := 0) hx hb dX5_looseOnes_0 (by decide) ?_
  refine lv_istore_n (lv' := [(1, .int 0), (0, .ref (gad G 34))]) hx hb dX5_looseOnes_1 rfl hl (by decide) rfl (fun ls hl => ?_)
  refine lv_iconst (v := 0) hx hb dX5_looseOnes_2 (by decide) ?_
  refine lv_istore_n (lv' := [(2, .int 0), (1, .int 0), (0, .ref (gad G 34))]) hx hb dX5_looseOnes_3 rfl hl (by decide) rfl (fun ls hl => ?_)
  have J4 : ∀ (fu : Nat) (p : Nat) (a : Int32) (hp : p ≤ nP M) (ha : a = loS M p) (hrk : nP M - p < fu) (H : Heap) (locs : List Loc) (ls : Array Slot), WP G (sI u 11 M) H → va_S (gA G) s0.heap H locs → lv_has ls 3 [(0, .ref (gad G 34)), (1, .int a), (2, .int (nI p))] → W pg l ev (headSpec wsX5_looseOnes (rmO 1 22)).room s0 mm ([.ref (gad G 34)] : List Value).toArray below meth cd H locs 0 0 (MQ below (va_Qi (fun r v => r = loS M (nP M) ∧ v = sI u 11 M) (fun v t => WP G v t.heap) (gA G)) ([.ref (gad G 34)] : List Value).toArray s0 0 0 (gA G)) (F0 mm 4 ls []) := by
    intro fu
    induction fu with
    | zero => intro p a hp ha hrk; exact absurd hrk (Nat.not_lt_zero _)
    | succ fu ih4 =>
      intro p a hp ha hrk H locs ls hP hS hl
      refine lv_iload_n hx hb dX5_looseOnes_4 rfl (lv_at hl 2 rfl) ?_
      refine lv_aload_n hx hb dX5_looseOnes_5 rfl (lv_at hl 0 rfl) ?_
      refine mo_get hx hb hts hin5 hown hE hP ((sI_ne _ _ (by decide)).trans rfl) 0 (by decide) (hts (.fieldLink RX5 9 "HeldDoorModel" "m" "[I") (by decide +kernel)) (v := .ref (gad G 35)) rfl dX5_looseOnes_6 ?_
      refine lv_iconst (v := 4) hx hb dX5_looseOnes_9 (by decide) ?_
      refine ar_ld hx hb hE hP 35 53 (by decide) (ar_at35 (sI_at _ _ _)) 4 (by omega) dX5_looseOnes_10 ?_
      refine lv_cast hn ?_
      refine nn_ge (a := p) (b := nP M) (by omega) (by omega) (tgt := 49) hx hb dX5_looseOnes_11 (by decide) (fun c_1 => ?_) (fun c_1 => ?_)
      · skip
        refine lv_iload_n hx hb dX5_looseOnes_49 rfl (lv_at hl 1 rfl) ?_
        exact hd_iret hx hb hr hlocks hP hS ⟨(by rw [ha, show p = nP M by omega]), rfl⟩ dX5_looseOnes_50
      · skip
        refine lv_iload_n hx hb dX5_looseOnes_14 rfl (lv_at hl 1 rfl) ?_
        refine lv_aload_n hx hb dX5_looseOnes_15 rfl (lv_at hl 0 rfl) ?_
        refine lv_iload_n hx hb dX5_looseOnes_16 rfl (lv_at hl 2 rfl) ?_
        refine lv_iconst (v := 4) hx hb dX5_looseOnes_17 (by decide) ?_
        refine hd_callVi (As := [.int (nI p), .int 4]) (rest := [.int a]) ⟨hx, hb, hml, hown, hts⟩ hE hP hS (c_X5_it l G u M p 4 (by omega) (by omega)) rfl (cwV 2 hts gX5_looseOnes_X5_it rfl rfl rfl (by decide +kernel) ⟨Nat.le_of_ble_eq_true rfl, Nat.le_of_ble_eq_true rfl⟩) (mo_recv hE hP) rfl hl.1 rfl (Nat.le_of_ble_eq_true rfl) dX5_looseOnes_18 (fun rq_2 vq_2 H locs q_2 hP hS => ?_)
        have hP := hP.cast (q_2.2)
        refine lv_cast q_2.1 ?_
        refine lv_iconst (v := 1) hx hb dX5_looseOnes_21 (by decide) ?_
        refine lv_icmp_ne (tgt := 40) hx hb dX5_looseOnes_22 (by decide) (fun c_3 => ?_) (fun c_3 => ?_)
        · skip
          refine lv_iconst (v := 0) hx hb dX5_looseOnes_40 (by decide) ?_
          refine lv_ior hx hb dX5_looseOnes_41 ?_
          refine lv_istore_n (lv' := [(1, .int (a ||| 0)), (0, .ref (gad G 34)), (2, .int (nI p))]) hx hb dX5_looseOnes_42 rfl hl (by decide) rfl (fun ls hl => ?_)
          refine lv_iinc (v := nI (p + 1)) (lv' := [(2, .int (nI (p + 1))), (1, .int (a ||| 0)), (0, .ref (gad G 34))]) hx hb dX5_looseOnes_43 hl (k := 2) rfl (inc1 _) (by decide) rfl (fun ls hl => ?_)
          refine lv_goto (tgt := 4) hx hb dX5_looseOnes_46 (by decide) ?_
          exact ih4 (p + 1) (a ||| 0) (by omega) (by rw [ha, lo_step3 hM (by omega) c_3]) (by omega) _ _ _ hP hS (lv_sub hl [2, 1, 0] rfl)
        · skip
          refine lv_aload_n hx hb dX5_looseOnes_25 rfl (lv_at hl 0 rfl) ?_
          refine lv_iload_n hx hb dX5_looseOnes_26 rfl (lv_at hl 2 rfl) ?_
          refine lv_iconst (v := 1) hx hb dX5_looseOnes_27 (by decide) ?_
          refine hd_callVi (As := [.int (nI p), .int 1]) (rest := [.int a]) ⟨hx, hb, hml, hown, hts⟩ hE hP hS (c_X5_it l G u M p 1 (by omega) (by omega)) rfl (cwV 2 hts gX5_looseOnes_X5_it rfl rfl rfl (by decide +kernel) ⟨Nat.le_of_ble_eq_true rfl, Nat.le_of_ble_eq_true rfl⟩) (mo_recv hE hP) rfl hl.1 rfl (Nat.le_of_ble_eq_true rfl) dX5_looseOnes_28 (fun rq_4 vq_4 H locs q_4 hP hS => ?_)
          have hP := hP.cast (q_4.2)
          refine lv_cast q_4.1 ?_
          refine lv_if_ne (tgt := 40) hx hb dX5_looseOnes_31 (by decide) (fun c_5 => ?_) (fun c_5 => ?_)
          · skip
            refine lv_iconst (v := 0) hx hb dX5_looseOnes_40 (by decide) ?_
            refine lv_ior hx hb dX5_looseOnes_41 ?_
            refine lv_istore_n (lv' := [(1, .int (a ||| 0)), (0, .ref (gad G 34)), (2, .int (nI p))]) hx hb dX5_looseOnes_42 rfl hl (by decide) rfl (fun ls hl => ?_)
            refine lv_iinc (v := nI (p + 1)) (lv' := [(2, .int (nI (p + 1))), (1, .int (a ||| 0)), (0, .ref (gad G 34))]) hx hb dX5_looseOnes_43 hl (k := 2) rfl (inc1 _) (by decide) rfl (fun ls hl => ?_)
            refine lv_goto (tgt := 4) hx hb dX5_looseOnes_46 (by decide) ?_
            exact ih4 (p + 1) (a ||| 0) (by omega) (by rw [ha, lo_step2 c_5]) (by omega) _ _ _ hP hS (lv_sub hl [2, 1, 0] rfl)
          · skip
            refine lv_iconst (v := 1) hx hb dX5_looseOnes_34 (by decide) ?_
            refine lv_iload_n hx hb dX5_looseOnes_35 rfl (lv_at hl 2 rfl) ?_
            refine lv_ishl hx hb dX5_looseOnes_36 ?_
            refine lv_goto (tgt := 41) hx hb dX5_looseOnes_37 (by decide) ?_
            refine lv_ior hx hb dX5_looseOnes_41 ?_
            refine lv_istore_n (lv' := [(1, .int (a ||| (1 <<< ((nI p) &&& 31)))), (0, .ref (gad G 34)), (2, .int (nI p))]) hx hb dX5_looseOnes_42 rfl hl (by decide) rfl (fun ls hl => ?_)
            refine lv_iinc (v := nI (p + 1)) (lv' := [(2, .int (nI (p + 1))), (1, .int (a ||| (1 <<< ((nI p) &&& 31)))), (0, .ref (gad G 34))]) hx hb dX5_looseOnes_43 hl (k := 2) rfl (inc1 _) (by decide) rfl (fun ls hl => ?_)
            refine lv_goto (tgt := 4) hx hb dX5_looseOnes_46 (by decide) ?_
            exact ih4 (p + 1) (a ||| (1 <<< ((nI p) &&& 31))) (by omega) (by rw [ha, lo_step1 c_3 c_5]) (by omega) _ _ _ hP hS (lv_sub hl [2, 1, 0] rfl)
  exact J4 _ 0 0 (Nat.zero_le _) rfl (Nat.lt_succ_self _) _ _ _ hP hS (lv_sub hl [2, 1, 0] rfl)
set_option maxHeartbeats 4000000 in
set_option maxRecDepth 100000 in
theorem c_X5_sums (l : Launch) (G : Geo) (u : Sg) (M : Nat → Int32) (hM : Wf M) (w : Nat) (hw : w < 6) : CtI l G yX5_sums wsX5_sums (rmO 1 22) [.ref (gad G 34), .int (nI w)] (sI u 11 M) (fun r v => r = smN M w (nP M) ∧ v = sI u 11 M) := by
  refine CtI.of (cc := cX5_sums) (maxL := 4) (ret := (some .int)) (own := RX5) (by decide) rfl rfl ?_
  rintro pg ev s0 mm below meth cd ⟨hx, hb, hr, hml, hown, hts, hlocks⟩ hE hP ls hl
  have hS : va_S (gA G) s0.heap s0.heap [] := va_S.rf
  have hl : lv_has ls 4 [(0, .ref (gad G 34)), (1, .int (nI w))] := hl
  have hin5 : ∀ w ∈ wsX50, w ∈ wsX5_sums := by decide +kernel
  have hn := hM.n
  have h8 := hM.n8
  refine lv_iconst (v := 0) hx hb dX5_sums_0 (by decide) ?_
  refine lv_istore_n (lv' := [(2, .int 0), (0, .ref (gad G 34)), (1, .int (nI w))]) hx hb dX5_sums_1 rfl hl (by decide) rfl (fun ls hl => ?_)
  refine lv_iconst (v := 0) hx hb dX5_sums_2 (by decide) ?_
  refine lv_istore_n (lv' := [(3, .int 0), (2, .int 0), (0, .ref (gad G 34)), (1, .int (nI w))]) hx hb dX5_sums_3 rfl hl (by decide) rfl (fun ls hl => ?_)
  have J4 : ∀ (fu : Nat) (p : Nat) (a : Int32) (hp : p ≤ nP M) (ha : a = smN M w p) (hrk : nP M - p < fu) (H : Heap) (locs : List Loc) (ls : Array Slot), WP G (sI u 11 M) H → va_S (gA G) s0.heap H locs → lv_has ls 4 [(0, .ref (gad G 34)), (1, .int (nI w)), (2, .int a), (3, .int (nI p))] → W pg l ev (headSpec wsX5_sums (rmO 1 22)).room s0 mm ([.ref (gad G 34), .int (nI w)] : List Value).toArray below meth cd H locs 0 0 (MQ below (va_Qi (fun r v => r = smN M w (nP M) ∧ v = sI u 11 M) (fun v t => WP G v t.heap) (gA G)) ([.ref (gad G 34), .int (nI w)] : List Value).toArray s0 0 0 (gA G)) (F0 mm 4 ls []) := by
    intro fu
    induction fu with
    | zero => intro p a hp ha hrk; exact absurd hrk (Nat.not_lt_zero _)
    | succ fu ih4 =>
      intro p a hp ha hrk H locs ls hP hS hl
      refine lv_iload_n hx hb dX5_sums_4 rfl (lv_at hl 3 rfl) ?_
      refine lv_aload_n hx hb dX5_sums_5 rfl (lv_at hl 0 rfl) ?_
      refine mo_get hx hb hts hin5 hown hE hP ((sI_ne _ _ (by decide)).trans rfl) 0 (by decide) (hts (.fieldLink RX5 9 "HeldDoorModel" "m" "[I") (by decide +kernel)) (v := .ref (gad G 35)) rfl dX5_sums_6 ?_
      refine lv_iconst (v := 4) hx hb dX5_sums_9 (by decide) ?_
      refine ar_ld hx hb hE hP 35 53 (by decide) (ar_at35 (sI_at _ _ _)) 4 (by omega) dX5_sums_10 ?_
      refine lv_cast hn ?_
      refine nn_ge (a := p) (b := nP M) (by omega) (by omega) (tgt := 29) hx hb dX5_sums_11 (by decide) (fun c_1 => ?_) (fun c_1 => ?_)
      · skip
        refine lv_iload_n hx hb dX5_sums_29 rfl (lv_at hl 2 rfl) ?_
        exact hd_iret hx hb hr hlocks hP hS ⟨(by rw [ha, show p = nP M by omega]), rfl⟩ dX5_sums_30
      · skip
        refine lv_iload_n hx hb dX5_sums_14 rfl (lv_at hl 2 rfl) ?_
        refine lv_aload_n hx hb dX5_sums_15 rfl (lv_at hl 0 rfl) ?_
        refine lv_iload_n hx hb dX5_sums_16 rfl (lv_at hl 3 rfl) ?_
        refine lv_iload_n hx hb dX5_sums_17 rfl (lv_at hl 1 rfl) ?_
        refine hd_callVi (As := [.int (nI p), .int (nI w)]) (rest := [.int a]) ⟨hx, hb, hml, hown, hts⟩ hE hP hS (c_X5_it l G u M p w (by omega) (by omega)) rfl (cwV 2 hts gX5_sums_X5_it rfl rfl rfl (by decide +kernel) ⟨Nat.le_of_ble_eq_true rfl, Nat.le_of_ble_eq_true rfl⟩) (mo_recv hE hP) rfl hl.1 rfl (Nat.le_of_ble_eq_true rfl) dX5_sums_18 (fun rq_2 vq_2 H locs q_2 hP hS => ?_)
        have hP := hP.cast (q_2.2)
        refine lv_cast q_2.1 ?_
        refine lv_iadd hx hb dX5_sums_21 ?_
        refine lv_istore_n (lv' := [(2, .int (a + (M (5 + 6 * p + w)))), (0, .ref (gad G 34)), (1, .int (nI w)), (3, .int (nI p))]) hx hb dX5_sums_22 rfl hl (by decide) rfl (fun ls hl => ?_)
        refine lv_iinc (v := nI (p + 1)) (lv' := [(3, .int (nI (p + 1))), (2, .int (a + (M (5 + 6 * p + w)))), (0, .ref (gad G 34)), (1, .int (nI w))]) hx hb dX5_sums_23 hl (k := 3) rfl (inc1 _) (by decide) rfl (fun ls hl => ?_)
        refine lv_goto (tgt := 4) hx hb dX5_sums_26 (by decide) ?_
        exact ih4 (p + 1) (a + (M (5 + 6 * p + w))) (by omega) (by rw [ha]; rfl) (by omega) _ _ _ hP hS (lv_sub hl [2, 3, 1, 0] rfl)
  exact J4 _ 0 0 (Nat.zero_le _) rfl (Nat.lt_succ_self _) _ _ _ hP hS (lv_sub hl [2, 3, 1, 0] rfl)
set_option maxHeartbeats 4000000 in
set_option maxRecDepth 100000 in
theorem c_X5_bits (l : Launch) (G : Geo) (u : Sg) (k : Nat) (hk : k < 256) : CtI l G yX5_bits wsX5_bits (rmO 0 0) [.int (nI k)] u (fun r v => r = bitC (nI k) ∧ v = u) := by
  refine CtI.of (cc := cX5_bits) (maxL := 3) (ret := (some .int)) (own := RX5) (by decide) rfl rfl ?_
  rintro pg ev s0 mm below meth cd ⟨hx, hb, hr, hml, hown, hts, hlocks⟩ hE hP ls hl
  have hS : va_S (gA G) s0.heap s0.heap [] := va_S.rf
  have hl : lv_has ls 3 [(0, .int (nI k))] := hl
  refine lv_iconst (v := 0) hx hb dX5_bits_0 (by decide) ?_
  refine lv_istore_n (lv' := [(1, .int 0), (0, .int (nI k))]) hx hb dX5_bits_1 rfl hl (by decide) rfl (fun ls hl => ?_)
  refine lv_iload_n hx hb dX5_bits_2 rfl (lv_at hl 1 rfl) ?_
  refine lv_istore_n (lv' := [(2, .int (nI k)), (1, .int 0), (0, .int (nI k))]) hx hb dX5_bits_3 rfl hl (by decide) rfl (fun ls hl => ?_)
  have J4 : ∀ (fu : Nat) (n9 : Nat) (r9 : Nat) (hr9 : r9 < 256) (hn9 : n9 + pop r9 = pop k) (hrk : r9 < fu) (H : Heap) (locs : List Loc) (ls : Array Slot), WP G u H → va_S (gA G) s0.heap H locs → lv_has ls 3 [(1, .int (nI n9)), (2, .int (nI r9))] → W pg l ev (headSpec wsX5_bits (rmO 0 0)).room s0 mm ([.int (nI k)] : List Value).toArray below meth cd H locs 0 0 (MQ below (va_Qi (fun r v => r = bitC (nI k) ∧ v = u) (fun v t => WP G v t.heap) (gA G)) ([.int (nI k)] : List Value).toArray s0 0 0 (gA G)) (F0 mm 4 ls []) := by
    intro fu
    induction fu with
    | zero => intro n9 r9 hr9 hn9 hrk; exact absurd hrk (Nat.not_lt_zero _)
    | succ fu ih4 =>
      intro n9 r9 hr9 hn9 hrk H locs ls hP hS hl
      refine lv_iload_n hx hb dX5_bits_4 rfl (lv_at hl 1 rfl) ?_
      refine lv_if_eq (tgt := 20) hx hb dX5_bits_5 (by decide) (fun c_1 => ?_) (fun c_1 => ?_)
      · skip
        refine lv_iload_n hx hb dX5_bits_20 rfl (lv_at hl 0 rfl) ?_
        exact hd_iret hx hb hr hlocks hP hS ⟨(by rw [bitC_pop k hk, ← hn9, show r9 = 0 from Classical.byContradiction (fun q => absurd c_1 (nI_ne0 (by omega) (by omega)))]; rfl), rfl⟩ dX5_bits_21
      · skip
        have hr0 : 0 < r9 := Nat.pos_of_ne_zero (fun q => c_1 (by rw [q]; rfl))
        refine lv_iinc (v := nI (n9 + 1)) (lv' := [(1, .int (nI (n9 + 1))), (2, .int (nI r9))]) hx hb dX5_bits_8 hl (k := 0) rfl (inc1 _) (by decide) rfl (fun ls hl => ?_)
        refine lv_iload_n hx hb dX5_bits_11 rfl (lv_at hl 1 rfl) ?_
        refine lv_iload_n hx hb dX5_bits_12 rfl (lv_at hl 1 rfl) ?_
        refine lv_iconst (v := 1) hx hb dX5_bits_13 (by decide) ?_
        refine lv_isub hx hb dX5_bits_14 ?_
        refine lv_iand hx hb dX5_bits_15 ?_
        refine lv_cast ((pop_and r9 hr9 (by omega)).1) ?_
        refine lv_istore_n (lv' := [(2, .int (nI (r9 &&& (r9 - 1)))), (1, .int (nI (n9 + 1)))]) hx hb dX5_bits_16 rfl hl (by decide) rfl (fun ls hl => ?_)
        refine lv_goto (tgt := 4) hx hb dX5_bits_17 (by decide) ?_
        exact ih4 (n9 + 1) (r9 &&& (r9 - 1)) (by have := (pop_and r9 hr9 hr0).2.2; omega) (by have := (pop_and r9 hr9 hr0).2.1; omega) (by have := (pop_and r9 hr9 hr0).2.2; omega) _ _ _ hP hS (lv_sub hl [1, 0] rfl)
  exact J4 _ 0 k hk (by omega) (Nat.lt_succ_self _) _ _ _ hP hS (lv_sub hl [1, 0] rfl)
