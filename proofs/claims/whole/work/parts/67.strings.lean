set_option maxHeartbeats 4000000 in
set_option maxRecDepth 100000 in
theorem c_J0_coder_7d493 (l : Launch) (G : Geo) (u : Sg) (w9 : Nat) (hi : w9 < 10) : CtI l G yJ0_coder_7d493 wsJ0_coder_7d493 (rmO 0 0) [.ref (gK G w9)] u (fun r v => r = 0 ∧ v = u) := by
  refine CtI.of (cc := cJ0_coder_7d493) (maxL := 1) (ret := (some .byte)) (own := RJ0) (by decide) rfl rfl ?_
  rintro pg ev s0 mm below meth cd ⟨hx, hb, hr, hml, hown, hts, hlocks⟩ hE hP ls hl
  have hS : va_S (gA G) s0.heap s0.heap [] := va_S.rf
  have hl : lv_has ls 1 [(0, .ref (gK G w9))] := hl
  refine va_gets hx hb hE.2.2.2.1 hS hown (hts (.fieldLink RJ0 38 "java/lang/String" "COMPACT_STRINGS" "Z") (by decide +kernel)) (fun _ h => h) dJ0_coder_7d493_0 ?_
  refine lv_if_eq (tgt := 13) hx hb dJ0_coder_7d493_3 (by decide) (fun h => False.elim (by revert h; decide)) (fun _ => ?_)
  refine lv_aload_n hx hb dJ0_coder_7d493_6 rfl (lv_at hl 0 rfl) ?_
  refine st_cod hx hb hown hE hS hi (hts (.fieldLink RJ0 15 "java/lang/String" "coder" "B") (by decide +kernel)) dJ0_coder_7d493_7 ?_
  refine lv_goto (tgt := 14) hx hb dJ0_coder_7d493_10 (by decide) ?_
  exact hd_zret hx hb hr hlocks hP hS ⟨rfl, rfl⟩ rfl dJ0_coder_7d493_14
set_option maxHeartbeats 4000000 in
set_option maxRecDepth 100000 in
theorem c_J0_length_8abf5 (l : Launch) (G : Geo) (u : Sg) (w9 : Nat) (hi : w9 < 10) : CtI l G yJ0_length_8abf5 wsJ0_length_8abf5 (rmO 1 20) [.ref (gK G w9)] u (fun r v => r = nI (sLen.getD w9 0) ∧ v = u) := by
  refine CtI.of (cc := cJ0_length_8abf5) (maxL := 1) (ret := (some .int)) (own := RJ0) (by decide) rfl rfl ?_
  rintro pg ev s0 mm below meth cd ⟨hx, hb, hr, hml, hown, hts, hlocks⟩ hE hP ls hl
  have hS : va_S (gA G) s0.heap s0.heap [] := va_S.rf
  have hl : lv_has ls 1 [(0, .ref (gK G w9))] := hl
  refine lv_aload_n hx hb dJ0_length_8abf5_0 rfl (lv_at hl 0 rfl) ?_
  refine st_val hx hb hown hE hS hi (hts (.fieldLink RJ0 9 "java/lang/String" "value" "[B") (by decide +kernel)) dJ0_length_8abf5_1 ?_
  refine sb_len hx hb hE hS hi dJ0_length_8abf5_4 ?_
  refine lv_aload_n hx hb dJ0_length_8abf5_5 rfl (lv_at hl 0 rfl) ?_
  refine hd_callVi (As := []) (rest := [.int (nI (sLen.getD w9 0))]) ⟨hx, hb, hml, hown, hts⟩ hE hP hS (c_J0_coder_7d493 l G u w9 hi) rfl (cwV 0 hts gJ0_length_8abf5_J0_coder_7d493 rfl rfl rfl (by decide +kernel) ⟨Nat.le_of_ble_eq_true rfl, Nat.le_of_ble_eq_true rfl⟩) (st_recv hE hS hi) rfl hl.1 rfl (Nat.le_of_ble_eq_true rfl) dJ0_length_8abf5_6 (fun rq_1 vq_1 H locs q_1 hP hS => ?_)
  have hP := hP.cast (q_1.2)
  refine lv_cast q_1.1 ?_
  refine lv_ishr hx hb dJ0_length_8abf5_9 ?_
  refine lv_cast (shr0 _) ?_
  exact hd_iret hx hb hr hlocks hP hS ⟨rfl, rfl⟩ dJ0_length_8abf5_10
set_option maxHeartbeats 4000000 in
set_option maxRecDepth 100000 in
theorem c_J0_isLatin1_aae02 (l : Launch) (G : Geo) (u : Sg) (w9 : Nat) (hi : w9 < 10) : CtI l G yJ0_isLatin1_aae02 wsJ0_isLatin1_aae02 (rmO 0 0) [.ref (gK G w9)] u (fun r v => r = 1 ∧ v = u) := by
  refine CtI.of (cc := cJ0_isLatin1_aae02) (maxL := 1) (ret := (some .boolean)) (own := RJ0) (by decide) rfl rfl ?_
  rintro pg ev s0 mm below meth cd ⟨hx, hb, hr, hml, hown, hts, hlocks⟩ hE hP ls hl
  have hS : va_S (gA G) s0.heap s0.heap [] := va_S.rf
  have hl : lv_has ls 1 [(0, .ref (gK G w9))] := hl
  refine va_gets hx hb hE.2.2.2.1 hS hown (hts (.fieldLink RJ0 38 "java/lang/String" "COMPACT_STRINGS" "Z") (by decide +kernel)) (fun _ h => h) dJ0_isLatin1_aae02_0 ?_
  refine lv_if_eq (tgt := 17) hx hb dJ0_isLatin1_aae02_3 (by decide) (fun h => False.elim (by revert h; decide)) (fun _ => ?_)
  refine lv_aload_n hx hb dJ0_isLatin1_aae02_6 rfl (lv_at hl 0 rfl) ?_
  refine st_cod hx hb hown hE hS hi (hts (.fieldLink RJ0 15 "java/lang/String" "coder" "B") (by decide +kernel)) dJ0_isLatin1_aae02_7 ?_
  refine lv_if_ne (tgt := 17) hx hb dJ0_isLatin1_aae02_10 (by decide) (fun h => False.elim (by revert h; decide)) (fun _ => ?_)
  refine lv_iconst (v := 1) hx hb dJ0_isLatin1_aae02_13 (by decide) ?_
  refine lv_goto (tgt := 18) hx hb dJ0_isLatin1_aae02_14 (by decide) ?_
  exact hd_zret hx hb hr hlocks hP hS ⟨rfl, rfl⟩ rfl dJ0_isLatin1_aae02_18
set_option maxHeartbeats 4000000 in
set_option maxRecDepth 100000 in
theorem c_J3_n (l : Launch) (G : Geo) (u : Sg) (j n : Nat) (hj : j < n) (hn : n ≤ 200) : CtI l G yJ3_checkIndex_8e157 wsJ3_checkIndex_8e157 (rmO 0 0) [.int (nI j), .int (nI n), .null] u (fun r v => r = nI j ∧ v = u) := by
  refine CtI.of (cc := cJ3_checkIndex_8e157) (maxL := 3) (ret := (some .int)) (own := RJ3) (by decide) rfl rfl ?_
  rintro pg ev s0 mm below meth cd ⟨hx, hb, hr, hml, hown, hts, hlocks⟩ hE hP ls hl
  have hS : va_S (gA G) s0.heap s0.heap [] := va_S.rf
  have hl : lv_has ls 3 [(0, .int (nI j)), (1, .int (nI n)), (2, .null)] := hl
  refine lv_iload_n hx hb dJ3_checkIndex_8e157_0 rfl (lv_at hl 0 rfl) ?_
  refine lv_if_lt (tgt := 9) hx hb dJ3_checkIndex_8e157_1 (by decide) (fun c_1 => absurd c_1 (nI_nn (by omega))) (fun c_1 => ?_)
  refine lv_iload_n hx hb dJ3_checkIndex_8e157_4 rfl (lv_at hl 0 rfl) ?_
  refine lv_iload_n hx hb dJ3_checkIndex_8e157_5 rfl (lv_at hl 1 rfl) ?_
  refine nn_lt (a := j) (b := n) (by omega) (by omega) (tgt := 16) hx hb dJ3_checkIndex_8e157_6 (by decide) (fun c_2 => ?_) (fun c_2 => absurd hj (Nat.not_lt.mpr c_2))
  refine lv_iload_n hx hb dJ3_checkIndex_8e157_16 rfl (lv_at hl 0 rfl) ?_
  exact hd_iret hx hb hr hlocks hP hS ⟨rfl, rfl⟩ dJ3_checkIndex_8e157_17
set_option maxHeartbeats 4000000 in
set_option maxRecDepth 100000 in
theorem c_J3_r (l : Launch) (G : Geo) (u : Sg) (j n : Nat) (hj : j < n) (hn : n ≤ 200) (a9 : Nat) : CtI l G yJ3_checkIndex_8e157 wsJ3_checkIndex_8e157 (rmO 0 0) [.int (nI j), .int (nI n), .ref a9] u (fun r v => r = nI j ∧ v = u) := by
  refine CtI.of (cc := cJ3_checkIndex_8e157) (maxL := 3) (ret := (some .int)) (own := RJ3) (by decide) rfl rfl ?_
  rintro pg ev s0 mm below meth cd ⟨hx, hb, hr, hml, hown, hts, hlocks⟩ hE hP ls hl
  have hS : va_S (gA G) s0.heap s0.heap [] := va_S.rf
  have hl : lv_has ls 3 [(0, .int (nI j)), (1, .int (nI n)), (2, .ref a9)] := hl
  refine lv_iload_n hx hb dJ3_checkIndex_8e157_0 rfl (lv_at hl 0 rfl) ?_
  refine lv_if_lt (tgt := 9) hx hb dJ3_checkIndex_8e157_1 (by decide) (fun c_1 => absurd c_1 (nI_nn (by omega))) (fun c_1 => ?_)
  refine lv_iload_n hx hb dJ3_checkIndex_8e157_4 rfl (lv_at hl 0 rfl) ?_
  refine lv_iload_n hx hb dJ3_checkIndex_8e157_5 rfl (lv_at hl 1 rfl) ?_
  refine nn_lt (a := j) (b := n) (by omega) (by omega) (tgt := 16) hx hb dJ3_checkIndex_8e157_6 (by decide) (fun c_2 => ?_) (fun c_2 => absurd hj (Nat.not_lt.mpr c_2))
  refine lv_iload_n hx hb dJ3_checkIndex_8e157_16 rfl (lv_at hl 0 rfl) ?_
  exact hd_iret hx hb hr hlocks hP hS ⟨rfl, rfl⟩ dJ3_checkIndex_8e157_17
set_option maxHeartbeats 4000000 in
set_option maxRecDepth 100000 in
theorem c_J0_checkIndex_df160 (l : Launch) (G : Geo) (u : Sg) (j n : Nat) (hj : j < n) (hn : n ≤ 200) : CtV l G yJ0_checkIndex_df160 wsJ0_checkIndex_df160 (rmO 1 22) [.int (nI j), .int (nI n)] u (fun v => v = u) := by
  refine CtV.of (cc := cJ0_checkIndex_df160) (maxL := 2) (ret := none) (own := RJ0) (by decide) rfl rfl ?_
  rintro pg ev s0 mm below meth cd ⟨hx, hb, hr, hml, hown, hts, hlocks⟩ hE hP ls hl
  have hS : va_S (gA G) s0.heap s0.heap [] := va_S.rf
  have hl : lv_has ls 2 [(0, .int (nI j)), (1, .int (nI n))] := hl
  refine lv_iload_n hx hb dJ0_checkIndex_df160_0 rfl (lv_at hl 0 rfl) ?_
  refine lv_iload_n hx hb dJ0_checkIndex_df160_1 rfl (lv_at hl 1 rfl) ?_
  rcases hE.2.2.2.2.2.2 with hZ9 | ⟨a9, hZ9⟩
  · skip
    refine va_gets hx hb hZ9 hS hown (hts (.fieldLink RJ0 1053 "jdk/internal/util/Preconditions" "SIOOBE_FORMATTER" "Ljava/util/function/BiFunction;") (by decide +kernel)) (fun _ h => h) dJ0_checkIndex_df160_2 ?_
    refine hd_callSi (As := [.int (nI j), .int (nI n), .null]) (rest := []) ⟨hx, hb, hml, hown, hts⟩ hE hP hS (c_J3_n l G u j n (by omega) (by omega)) rfl (va_cwS 3 hts gJ0_checkIndex_df160_J3_checkIndex_8e157 rfl rfl rfl (by decide +kernel) ⟨Nat.le_of_ble_eq_true rfl, Nat.le_of_ble_eq_true rfl⟩) rfl hl.1 rfl (Nat.le_of_ble_eq_true rfl) dJ0_checkIndex_df160_5 (fun rq_1 vq_1 H locs q_1 hP hS => ?_)
    have hP := hP.cast (q_1.2)
    refine lv_cast q_1.1 ?_
    refine lv_pop hx hb dJ0_checkIndex_df160_8 rfl ?_
    exact hd_vret hx hb hr hlocks hP hS rfl dJ0_checkIndex_df160_9
  · skip
    refine va_gets hx hb hZ9 hS hown (hts (.fieldLink RJ0 1053 "jdk/internal/util/Preconditions" "SIOOBE_FORMATTER" "Ljava/util/function/BiFunction;") (by decide +kernel)) (fun _ h => h) dJ0_checkIndex_df160_2 ?_
    refine hd_callSi (As := [.int (nI j), .int (nI n), .ref a9]) (rest := []) ⟨hx, hb, hml, hown, hts⟩ hE hP hS (c_J3_r l G u j n (by omega) (by omega) a9) rfl (va_cwS 3 hts gJ0_checkIndex_df160_J3_checkIndex_8e157 rfl rfl rfl (by decide +kernel) ⟨Nat.le_of_ble_eq_true rfl, Nat.le_of_ble_eq_true rfl⟩) rfl hl.1 rfl (Nat.le_of_ble_eq_true rfl) dJ0_checkIndex_df160_5 (fun rq_2 vq_2 H locs q_2 hP hS => ?_)
    have hP := hP.cast (q_2.2)
    refine lv_cast q_2.1 ?_
    refine lv_pop hx hb dJ0_checkIndex_df160_8 rfl ?_
    exact hd_vret hx hb hr hlocks hP hS rfl dJ0_checkIndex_df160_9
set_option maxHeartbeats 4000000 in
set_option maxRecDepth 100000 in
theorem c_J1_charAt_3b067 (l : Launch) (G : Geo) (u : Sg) (w9 : Nat) (hi : w9 < 10) (j : Nat) (hj : j < sLen.getD w9 0) : CtI l G yJ1_charAt_3b067 wsJ1_charAt_3b067 (rmO 2 43) [.ref (gV G w9), .int (nI j)] u (fun r v => r = (sByt.getD w9 []).getD j 0 ∧ v = u) := by
  refine CtI.of (cc := cJ1_charAt_3b067) (maxL := 2) (ret := (some .char)) (own := RJ1) (by decide) rfl rfl ?_
  rintro pg ev s0 mm below meth cd ⟨hx, hb, hr, hml, hown, hts, hlocks⟩ hE hP ls hl
  have hS : va_S (gA G) s0.heap s0.heap [] := va_S.rf
  have hl : lv_has ls 2 [(0, .ref (gV G w9)), (1, .int (nI j))] := hl
  have hsl := sLen_le hi
  refine lv_iload_n hx hb dJ1_charAt_3b067_0 rfl (lv_at hl 1 rfl) ?_
  refine lv_aload_n hx hb dJ1_charAt_3b067_1 rfl (lv_at hl 0 rfl) ?_
  refine sb_len hx hb hE hS hi dJ1_charAt_3b067_2 ?_
  refine hd_callSv (As := [.int (nI j), .int (nI (sLen.getD w9 0))]) (rest := []) ⟨hx, hb, hml, hown, hts⟩ hE hP hS (c_J0_checkIndex_df160 l G u j (sLen.getD w9 0) (by omega) (by omega)) rfl (va_cwS 2 hts gJ1_charAt_3b067_J0_checkIndex_df160 rfl rfl rfl (by decide +kernel) ⟨Nat.le_of_ble_eq_true rfl, Nat.le_of_ble_eq_true rfl⟩) rfl hl.1 rfl (Nat.le_of_ble_eq_true rfl) dJ1_charAt_3b067_3 (fun vq_1 H locs q_1 hP hS => ?_)
  have hP := hP.cast (q_1)
  refine lv_aload_n hx hb dJ1_charAt_3b067_6 rfl (lv_at hl 0 rfl) ?_
  refine lv_iload_n hx hb dJ1_charAt_3b067_7 rfl (lv_at hl 1 rfl) ?_
  refine sb_ld hx hb hE hS hi j (by omega) dJ1_charAt_3b067_8 ?_
  refine lv_sipush (v := 255) hx hb dJ1_charAt_3b067_9 (by decide) ?_
  refine lv_iand hx hb dJ1_charAt_3b067_12 ?_
  refine lv_i2c (v := (sByt.getD w9 []).getD j 0) hx hb dJ1_charAt_3b067_13 (sb_c hi hj).1 ?_
  exact hd_zret hx hb hr hlocks hP hS ⟨rfl, rfl⟩ (sb_c hi hj).2 dJ1_charAt_3b067_14
set_option maxHeartbeats 4000000 in
set_option maxRecDepth 100000 in
theorem c_J0_charAt_5068e (l : Launch) (G : Geo) (u : Sg) (w9 : Nat) (hi : w9 < 10) (j : Nat) (hj : j < sLen.getD w9 0) : CtI l G yJ0_charAt_5068e wsJ0_charAt_5068e (rmO 3 64) [.ref (gK G w9), .int (nI j)] u (fun r v => r = (sByt.getD w9 []).getD j 0 ∧ v = u) := by
  refine CtI.of (cc := cJ0_charAt_5068e) (maxL := 2) (ret := (some .char)) (own := RJ0) (by decide) rfl rfl ?_
  rintro pg ev s0 mm below meth cd ⟨hx, hb, hr, hml, hown, hts, hlocks⟩ hE hP ls hl
  have hS : va_S (gA G) s0.heap s0.heap [] := va_S.rf
  have hl : lv_has ls 2 [(0, .ref (gK G w9)), (1, .int (nI j))] := hl
  refine lv_aload_n hx hb dJ0_charAt_5068e_0 rfl (lv_at hl 0 rfl) ?_
  refine hd_callVi (As := []) (rest := []) ⟨hx, hb, hml, hown, hts⟩ hE hP hS (c_J0_isLatin1_aae02 l G u w9 hi) rfl (cwV 0 hts gJ0_charAt_5068e_J0_isLatin1_aae02 rfl rfl rfl (by decide +kernel) ⟨Nat.le_of_ble_eq_true rfl, Nat.le_of_ble_eq_true rfl⟩) (st_recv hE hS hi) rfl hl.1 rfl (Nat.le_of_ble_eq_true rfl) dJ0_charAt_5068e_1 (fun rq_1 vq_1 H locs q_1 hP hS => ?_)
  have hP := hP.cast (q_1.2)
  refine lv_cast q_1.1 ?_
  refine lv_if_eq (tgt := 16) hx hb dJ0_charAt_5068e_4 (by decide) (fun h => False.elim (by revert h; decide)) (fun _ => ?_)
  refine lv_aload_n hx hb dJ0_charAt_5068e_7 rfl (lv_at hl 0 rfl) ?_
  refine st_val hx hb hown hE hS hi (hts (.fieldLink RJ0 9 "java/lang/String" "value" "[B") (by decide +kernel)) dJ0_charAt_5068e_8 ?_
  refine lv_iload_n hx hb dJ0_charAt_5068e_11 rfl (lv_at hl 1 rfl) ?_
  refine hd_callSi (As := [.ref (gV G w9), .int (nI j)]) (rest := []) ⟨hx, hb, hml, hown, hts⟩ hE hP hS (c_J1_charAt_3b067 l G u w9 hi j (by omega)) rfl (va_cwS 2 hts gJ0_charAt_5068e_J1_charAt_3b067 rfl rfl rfl (by decide +kernel) ⟨Nat.le_of_ble_eq_true rfl, Nat.le_of_ble_eq_true rfl⟩) rfl hl.1 rfl (Nat.le_of_ble_eq_true rfl) dJ0_charAt_5068e_12 (fun rq_2 vq_2 H locs q_2 hP hS => ?_)
  have hP := hP.cast (q_2.2)
  refine lv_cast q_2.1 ?_
  exact hd_zret hx hb hr hlocks hP hS ⟨rfl, rfl⟩ (sb_c hi hj).2 dJ0_charAt_5068e_15
set_option maxHeartbeats 4000000 in
set_option maxRecDepth 100000 in
theorem c_X0_nameOf_0 (l : Launch) (G : Geo) (u : Sg) : CtR l G yX0_nameOf wsX0_nameOf (rmO 0 0) [.int 0] u (gK G 0) u := by
  refine CtR.of (cc := cX0_nameOf) (maxL := 1) (ret := (some (.object "java/lang/String"))) (own := RX0) (by decide) rfl rfl ?_
  rintro pg ev s0 mm below meth cd ⟨hx, hb, hr, hml, hown, hts, hlocks⟩ hE hP ls hl
  have hS : va_S (gA G) s0.heap s0.heap [] := va_S.rf
  have hl : lv_has ls 1 [(0, .int 0)] := hl
  refine lv_iload_n hx hb dX0_nameOf_0 rfl (lv_at hl 0 rfl) ?_
  refine lv_tableIn (tgt := 36) hx hb dX0_nameOf_1 (by decide) (by decide) rfl (by decide) ?_
  refine va_ldcS hx hb hown (hE.2.2.1.2 0 (by decide)) dX0_nameOf_36 ?_
  exact hd_aret hx hb hr (Or.inl ⟨_, rfl⟩) hlocks hP hS rfl dX0_nameOf_38
set_option maxHeartbeats 4000000 in
set_option maxRecDepth 100000 in
theorem c_X0_nameOf_1 (l : Launch) (G : Geo) (u : Sg) : CtR l G yX0_nameOf wsX0_nameOf (rmO 0 0) [.int 1] u (gK G 1) u := by
  refine CtR.of (cc := cX0_nameOf) (maxL := 1) (ret := (some (.object "java/lang/String"))) (own := RX0) (by decide) rfl rfl ?_
  rintro pg ev s0 mm below meth cd ⟨hx, hb, hr, hml, hown, hts, hlocks⟩ hE hP ls hl
  have hS : va_S (gA G) s0.heap s0.heap [] := va_S.rf
  have hl : lv_has ls 1 [(0, .int 1)] := hl
  refine lv_iload_n hx hb dX0_nameOf_0 rfl (lv_at hl 0 rfl) ?_
  refine lv_tableIn (tgt := 39) hx hb dX0_nameOf_1 (by decide) (by decide) rfl (by decide) ?_
  refine va_ldcS hx hb hown (hE.2.2.1.2 1 (by decide)) dX0_nameOf_39 ?_
  exact hd_aret hx hb hr (Or.inl ⟨_, rfl⟩) hlocks hP hS rfl dX0_nameOf_41
set_option maxHeartbeats 4000000 in
set_option maxRecDepth 100000 in
theorem c_X0_nameOf_2 (l : Launch) (G : Geo) (u : Sg) : CtR l G yX0_nameOf wsX0_nameOf (rmO 0 0) [.int 2] u (gK G 2) u := by
  refine CtR.of (cc := cX0_nameOf) (maxL := 1) (ret := (some (.object "java/lang/String"))) (own := RX0) (by decide) rfl rfl ?_
  rintro pg ev s0 mm below meth cd ⟨hx, hb, hr, hml, hown, hts, hlocks⟩ hE hP ls hl
  have hS : va_S (gA G) s0.heap s0.heap [] := va_S.rf
  have hl : lv_has ls 1 [(0, .int 2)] := hl
  refine lv_iload_n hx hb dX0_nameOf_0 rfl (lv_at hl 0 rfl) ?_
  refine lv_tableIn (tgt := 42) hx hb dX0_nameOf_1 (by decide) (by decide) rfl (by decide) ?_
  refine va_ldcS hx hb hown (hE.2.2.1.2 2 (by decide)) dX0_nameOf_42 ?_
  exact hd_aret hx hb hr (Or.inl ⟨_, rfl⟩) hlocks hP hS rfl dX0_nameOf_44
set_option maxHeartbeats 4000000 in
set_option maxRecDepth 100000 in
theorem c_X0_nameOf_3 (l : Launch) (G : Geo) (u : Sg) : CtR l G yX0_nameOf wsX0_nameOf (rmO 0 0) [.int 3] u (gK G 3) u := by
  refine CtR.of (cc := cX0_nameOf) (maxL := 1) (ret := (some (.object "java/lang/String"))) (own := RX0) (by decide) rfl rfl ?_
  rintro pg ev s0 mm below meth cd ⟨hx, hb, hr, hml, hown, hts, hlocks⟩ hE hP ls hl
  have hS : va_S (gA G) s0.heap s0.heap [] := va_S.rf
  have hl : lv_has ls 1 [(0, .int 3)] := hl
  refine lv_iload_n hx hb dX0_nameOf_0 rfl (lv_at hl 0 rfl) ?_
  refine lv_tableIn (tgt := 45) hx hb dX0_nameOf_1 (by decide) (by decide) rfl (by decide) ?_
  refine va_ldcS hx hb hown (hE.2.2.1.2 3 (by decide)) dX0_nameOf_45 ?_
  exact hd_aret hx hb hr (Or.inl ⟨_, rfl⟩) hlocks hP hS rfl dX0_nameOf_47
set_option maxHeartbeats 4000000 in
set_option maxRecDepth 100000 in
theorem c_X0_nameOf_4 (l : Launch) (G : Geo) (u : Sg) : CtR l G yX0_nameOf wsX0_nameOf (rmO 0 0) [.int 4] u (gK G 4) u := by
  refine CtR.of (cc := cX0_nameOf) (maxL := 1) (ret := (some (.object "java/lang/String"))) (own := RX0) (by decide) rfl rfl ?_
  rintro pg ev s0 mm below meth cd ⟨hx, hb, hr, hml, hown, hts, hlocks⟩ hE hP ls hl
  have hS : va_S (gA G) s0.heap s0.heap [] := va_S.rf
  have hl : lv_has ls 1 [(0, .int 4)] := hl
  refine lv_iload_n hx hb dX0_nameOf_0 rfl (lv_at hl 0 rfl) ?_
  refine lv_tableIn (tgt := 48) hx hb dX0_nameOf_1 (by decide) (by decide) rfl (by decide) ?_
  refine va_ldcS hx hb hown (hE.2.2.1.2 4 (by decide)) dX0_nameOf_48 ?_
  exact hd_aret hx hb hr (Or.inl ⟨_, rfl⟩) hlocks hP hS rfl dX0_nameOf_50
set_option maxHeartbeats 4000000 in
set_option maxRecDepth 100000 in
theorem c_X0_nameOf_5 (l : Launch) (G : Geo) (u : Sg) : CtR l G yX0_nameOf wsX0_nameOf (rmO 0 0) [.int 5] u (gK G 5) u := by
  refine CtR.of (cc := cX0_nameOf) (maxL := 1) (ret := (some (.object "java/lang/String"))) (own := RX0) (by decide) rfl rfl ?_
  rintro pg ev s0 mm below meth cd ⟨hx, hb, hr, hml, hown, hts, hlocks⟩ hE hP ls hl
  have hS : va_S (gA G) s0.heap s0.heap [] := va_S.rf
  have hl : lv_has ls 1 [(0, .int 5)] := hl
  refine lv_iload_n hx hb dX0_nameOf_0 rfl (lv_at hl 0 rfl) ?_
  refine lv_tableOut (tgt := 51) hx hb dX0_nameOf_1 (by decide) (by decide) ?_
  refine va_ldcS hx hb hown (hE.2.2.1.2 5 (by decide)) dX0_nameOf_51 ?_
  exact hd_aret hx hb hr (Or.inl ⟨_, rfl⟩) hlocks hP hS rfl dX0_nameOf_53
theorem c_X0_nameOf (l : Launch) (G : Geo) (u : Sg) (k : Nat) (hk : k < 6) : CtR l G yX0_nameOf wsX0_nameOf (rmO 0 0) [.int (nI k)] u (gK G k) u := by
  rcases (show k = 0 ∨ k = 1 ∨ k = 2 ∨ k = 3 ∨ k = 4 ∨ k = 5 by omega) with rfl | rfl | rfl | rfl | rfl | rfl
  · exact c_X0_nameOf_0 l G u
  · exact c_X0_nameOf_1 l G u
  · exact c_X0_nameOf_2 l G u
  · exact c_X0_nameOf_3 l G u
  · exact c_X0_nameOf_4 l G u
  · exact c_X0_nameOf_5 l G u
