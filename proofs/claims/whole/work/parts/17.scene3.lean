set_option maxHeartbeats 4000000 in
set_option maxRecDepth 100000 in
/-- Integer.bitCount -/
theorem c_J6_bitCount_0f7a4 (l : Launch) (G : Geo) (u : Sg) (x : Int32) : CtI l G yJ6_bitCount_0f7a4 wsJ6_bitCount_0f7a4 (rmO 0 0) [.int x] u (fun r v => r = bitC x ∧ v = u) := by
  refine CtI.of (cc := cJ6_bitCount_0f7a4) (maxL := 1) (ret := (some .int)) (own := RJ6) (by decide) rfl rfl ?_
  rintro pg ev s0 mm below meth cd ⟨hx, hb, hr, hml, hown, hts, hlocks⟩ hE hP ls hl
  have hS : va_S (gA G) s0.heap s0.heap [] := va_S.rf
  have hl : lv_has ls 1 [(0, .int x)] := hl
  refine lv_iload_n hx hb dJ6_bitCount_0f7a4_0 rfl (lv_at hl 0 rfl) ?_
  refine lv_iload_n hx hb dJ6_bitCount_0f7a4_1 rfl (lv_at hl 0 rfl) ?_
  refine lv_iconst (v := 1) hx hb dJ6_bitCount_0f7a4_2 (by decide) ?_
  refine lv_iushr hx hb dJ6_bitCount_0f7a4_3 rfl ?_
  refine lv_ldcw (v := 1431655765) hx hb hown (hts (.constant RJ6 265 (1431655765)) (by decide +kernel)) dJ6_bitCount_0f7a4_4 ?_
  refine lv_iand hx hb dJ6_bitCount_0f7a4_7 ?_
  refine lv_isub hx hb dJ6_bitCount_0f7a4_8 ?_
  refine lv_istore_n (lv' := [(0, .int (x - (((x.toUInt32 >>> ((1 : Int32).toUInt32 &&& Int32.toUInt32 31)).toInt32) &&& 1431655765)))]) hx hb dJ6_bitCount_0f7a4_9 rfl hl (by decide) rfl (fun ls hl => ?_)
  refine lv_iload_n hx hb dJ6_bitCount_0f7a4_10 rfl (lv_at hl 0 rfl) ?_
  refine lv_ldcw (v := 858993459) hx hb hown (hts (.constant RJ6 266 (858993459)) (by decide +kernel)) dJ6_bitCount_0f7a4_11 ?_
  refine lv_iand hx hb dJ6_bitCount_0f7a4_14 ?_
  refine lv_iload_n hx hb dJ6_bitCount_0f7a4_15 rfl (lv_at hl 0 rfl) ?_
  refine lv_iconst (v := 2) hx hb dJ6_bitCount_0f7a4_16 (by decide) ?_
  refine lv_iushr hx hb dJ6_bitCount_0f7a4_17 rfl ?_
  refine lv_ldcw (v := 858993459) hx hb hown (hts (.constant RJ6 266 (858993459)) (by decide +kernel)) dJ6_bitCount_0f7a4_18 ?_
  refine lv_iand hx hb dJ6_bitCount_0f7a4_21 ?_
  refine lv_iadd hx hb dJ6_bitCount_0f7a4_22 ?_
  refine lv_istore_n (lv' := [(0, .int (((x - (((x.toUInt32 >>> ((1 : Int32).toUInt32 &&& Int32.toUInt32 31)).toInt32) &&& 1431655765)) &&& 858993459) + ((((x - (((x.toUInt32 >>> ((1 : Int32).toUInt32 &&& Int32.toUInt32 31)).toInt32) &&& 1431655765)).toUInt32 >>> ((2 : Int32).toUInt32 &&& Int32.toUInt32 31)).toInt32) &&& 858993459)))]) hx hb dJ6_bitCount_0f7a4_23 rfl hl (by decide) rfl (fun ls hl => ?_)
  refine lv_iload_n hx hb dJ6_bitCount_0f7a4_24 rfl (lv_at hl 0 rfl) ?_
  refine lv_iload_n hx hb dJ6_bitCount_0f7a4_25 rfl (lv_at hl 0 rfl) ?_
  refine lv_iconst (v := 4) hx hb dJ6_bitCount_0f7a4_26 (by decide) ?_
  refine lv_iushr hx hb dJ6_bitCount_0f7a4_27 rfl ?_
  refine lv_iadd hx hb dJ6_bitCount_0f7a4_28 ?_
  refine lv_ldcw (v := 252645135) hx hb hown (hts (.constant RJ6 267 (252645135)) (by decide +kernel)) dJ6_bitCount_0f7a4_29 ?_
  refine lv_iand hx hb dJ6_bitCount_0f7a4_32 ?_
  refine lv_istore_n (lv' := [(0, .int (((((x - (((x.toUInt32 >>> ((1 : Int32).toUInt32 &&& Int32.toUInt32 31)).toInt32) &&& 1431655765)) &&& 858993459) + ((((x - (((x.toUInt32 >>> ((1 : Int32).toUInt32 &&& Int32.toUInt32 31)).toInt32) &&& 1431655765)).toUInt32 >>> ((2 : Int32).toUInt32 &&& Int32.toUInt32 31)).toInt32) &&& 858993459)) + (((((x - (((x.toUInt32 >>> ((1 : Int32).toUInt32 &&& Int32.toUInt32 31)).toInt32) &&& 1431655765)) &&& 858993459) + ((((x - (((x.toUInt32 >>> ((1 : Int32).toUInt32 &&& Int32.toUInt32 31)).toInt32) &&& 1431655765)).toUInt32 >>> ((2 : Int32).toUInt32 &&& Int32.toUInt32 31)).toInt32) &&& 858993459)).toUInt32 >>> ((4 : Int32).toUInt32 &&& Int32.toUInt32 31)).toInt32)) &&& 252645135))]) hx hb dJ6_bitCount_0f7a4_33 rfl hl (by decide) rfl (fun ls hl => ?_)
  refine lv_iload_n hx hb dJ6_bitCount_0f7a4_34 rfl (lv_at hl 0 rfl) ?_
  refine lv_iload_n hx hb dJ6_bitCount_0f7a4_35 rfl (lv_at hl 0 rfl) ?_
  refine lv_bipush (v := 8) hx hb dJ6_bitCount_0f7a4_36 (by decide) ?_
  refine lv_iushr hx hb dJ6_bitCount_0f7a4_38 rfl ?_
  refine lv_iadd hx hb dJ6_bitCount_0f7a4_39 ?_
  refine lv_istore_n (lv' := [(0, .int ((((((x - (((x.toUInt32 >>> ((1 : Int32).toUInt32 &&& Int32.toUInt32 31)).toInt32) &&& 1431655765)) &&& 858993459) + ((((x - (((x.toUInt32 >>> ((1 : Int32).toUInt32 &&& Int32.toUInt32 31)).toInt32) &&& 1431655765)).toUInt32 >>> ((2 : Int32).toUInt32 &&& Int32.toUInt32 31)).toInt32) &&& 858993459)) + (((((x - (((x.toUInt32 >>> ((1 : Int32).toUInt32 &&& Int32.toUInt32 31)).toInt32) &&& 1431655765)) &&& 858993459) + ((((x - (((x.toUInt32 >>> ((1 : Int32).toUInt32 &&& Int32.toUInt32 31)).toInt32) &&& 1431655765)).toUInt32 >>> ((2 : Int32).toUInt32 &&& Int32.toUInt32 31)).toInt32) &&& 858993459)).toUInt32 >>> ((4 : Int32).toUInt32 &&& Int32.toUInt32 31)).toInt32)) &&& 252645135) + (((((((x - (((x.toUInt32 >>> ((1 : Int32).toUInt32 &&& Int32.toUInt32 31)).toInt32) &&& 1431655765)) &&& 858993459) + ((((x - (((x.toUInt32 >>> ((1 : Int32).toUInt32 &&& Int32.toUInt32 31)).toInt32) &&& 1431655765)).toUInt32 >>> ((2 : Int32).toUInt32 &&& Int32.toUInt32 31)).toInt32) &&& 858993459)) + (((((x - (((x.toUInt32 >>> ((1 : Int32).toUInt32 &&& Int32.toUInt32 31)).toInt32) &&& 1431655765)) &&& 858993459) + ((((x - (((x.toUInt32 >>> ((1 : Int32).toUInt32 &&& Int32.toUInt32 31)).toInt32) &&& 1431655765)).toUInt32 >>> ((2 : Int32).toUInt32 &&& Int32.toUInt32 31)).toInt32) &&& 858993459)).toUInt32 >>> ((4 : Int32).toUInt32 &&& Int32.toUInt32 31)).toInt32)) &&& 252645135).toUInt32 >>> ((8 : Int32).toUInt32 &&& Int32.toUInt32 31)).toInt32)))]) hx hb dJ6_bitCount_0f7a4_40 rfl hl (by decide) rfl (fun ls hl => ?_)
  refine lv_iload_n hx hb dJ6_bitCount_0f7a4_41 rfl (lv_at hl 0 rfl) ?_
  refine lv_iload_n hx hb dJ6_bitCount_0f7a4_42 rfl (lv_at hl 0 rfl) ?_
  refine lv_bipush (v := 16) hx hb dJ6_bitCount_0f7a4_43 (by decide) ?_
  refine lv_iushr hx hb dJ6_bitCount_0f7a4_45 rfl ?_
  refine lv_iadd hx hb dJ6_bitCount_0f7a4_46 ?_
  refine lv_istore_n (lv' := [(0, .int (((((((x - (((x.toUInt32 >>> ((1 : Int32).toUInt32 &&& Int32.toUInt32 31)).toInt32) &&& 1431655765)) &&& 858993459) + ((((x - (((x.toUInt32 >>> ((1 : Int32).toUInt32 &&& Int32.toUInt32 31)).toInt32) &&& 1431655765)).toUInt32 >>> ((2 : Int32).toUInt32 &&& Int32.toUInt32 31)).toInt32) &&& 858993459)) + (((((x - (((x.toUInt32 >>> ((1 : Int32).toUInt32 &&& Int32.toUInt32 31)).toInt32) &&& 1431655765)) &&& 858993459) + ((((x - (((x.toUInt32 >>> ((1 : Int32).toUInt32 &&& Int32.toUInt32 31)).toInt32) &&& 1431655765)).toUInt32 >>> ((2 : Int32).toUInt32 &&& Int32.toUInt32 31)).toInt32) &&& 858993459)).toUInt32 >>> ((4 : Int32).toUInt32 &&& Int32.toUInt32 31)).toInt32)) &&& 252645135) + (((((((x - (((x.toUInt32 >>> ((1 : Int32).toUInt32 &&& Int32.toUInt32 31)).toInt32) &&& 1431655765)) &&& 858993459) + ((((x - (((x.toUInt32 >>> ((1 : Int32).toUInt32 &&& Int32.toUInt32 31)).toInt32) &&& 1431655765)).toUInt32 >>> ((2 : Int32).toUInt32 &&& Int32.toUInt32 31)).toInt32) &&& 858993459)) + (((((x - (((x.toUInt32 >>> ((1 : Int32).toUInt32 &&& Int32.toUInt32 31)).toInt32) &&& 1431655765)) &&& 858993459) + ((((x - (((x.toUInt32 >>> ((1 : Int32).toUInt32 &&& Int32.toUInt32 31)).toInt32) &&& 1431655765)).toUInt32 >>> ((2 : Int32).toUInt32 &&& Int32.toUInt32 31)).toInt32) &&& 858993459)).toUInt32 >>> ((4 : Int32).toUInt32 &&& Int32.toUInt32 31)).toInt32)) &&& 252645135).toUInt32 >>> ((8 : Int32).toUInt32 &&& Int32.toUInt32 31)).toInt32)) + ((((((((x - (((x.toUInt32 >>> ((1 : Int32).toUInt32 &&& Int32.toUInt32 31)).toInt32) &&& 1431655765)) &&& 858993459) + ((((x - (((x.toUInt32 >>> ((1 : Int32).toUInt32 &&& Int32.toUInt32 31)).toInt32) &&& 1431655765)).toUInt32 >>> ((2 : Int32).toUInt32 &&& Int32.toUInt32 31)).toInt32) &&& 858993459)) + (((((x - (((x.toUInt32 >>> ((1 : Int32).toUInt32 &&& Int32.toUInt32 31)).toInt32) &&& 1431655765)) &&& 858993459) + ((((x - (((x.toUInt32 >>> ((1 : Int32).toUInt32 &&& Int32.toUInt32 31)).toInt32) &&& 1431655765)).toUInt32 >>> ((2 : Int32).toUInt32 &&& Int32.toUInt32 31)).toInt32) &&& 858993459)).toUInt32 >>> ((4 : Int32).toUInt32 &&& Int32.toUInt32 31)).toInt32)) &&& 252645135) + (((((((x - (((x.toUInt32 >>> ((1 : Int32).toUInt32 &&& Int32.toUInt32 31)).toInt32) &&& 1431655765)) &&& 858993459) + ((((x - (((x.toUInt32 >>> ((1 : Int32).toUInt32 &&& Int32.toUInt32 31)).toInt32) &&& 1431655765)).toUInt32 >>> ((2 : Int32).toUInt32 &&& Int32.toUInt32 31)).toInt32) &&& 858993459)) + (((((x - (((x.toUInt32 >>> ((1 : Int32).toUInt32 &&& Int32.toUInt32 31)).toInt32) &&& 1431655765)) &&& 858993459) + ((((x - (((x.toUInt32 >>> ((1 : Int32).toUInt32 &&& Int32.toUInt32 31)).toInt32) &&& 1431655765)).toUInt32 >>> ((2 : Int32).toUInt32 &&& Int32.toUInt32 31)).toInt32) &&& 858993459)).toUInt32 >>> ((4 : Int32).toUInt32 &&& Int32.toUInt32 31)).toInt32)) &&& 252645135).toUInt32 >>> ((8 : Int32).toUInt32 &&& Int32.toUInt32 31)).toInt32)).toUInt32 >>> ((16 : Int32).toUInt32 &&& Int32.toUInt32 31)).toInt32)))]) hx hb dJ6_bitCount_0f7a4_47 rfl hl (by decide) rfl (fun ls hl => ?_)
  refine lv_iload_n hx hb dJ6_bitCount_0f7a4_48 rfl (lv_at hl 0 rfl) ?_
  refine lv_bipush (v := 63) hx hb dJ6_bitCount_0f7a4_49 (by decide) ?_
  refine lv_iand hx hb dJ6_bitCount_0f7a4_51 ?_
  exact hd_iret hx hb hr hlocks hP hS ⟨rfl, rfl⟩ dJ6_bitCount_0f7a4_52
set_option maxHeartbeats 4000000 in
set_option maxRecDepth 100000 in
/-- Scene.countLoose -/
theorem c_X1_countLoose (l : Launch) (G : Geo) (u : Sg) (i : Nat) (hi : i < 3) (M : Nat → Int32) (hM : Wf M) : CtI l G yX1_countLoose wsX1_countLoose (rmO 1 22) [.ref (gS G i)] (sI u i M) (fun r v => r = loC M ∧ v = sI u i M) := by
  refine CtI.of (cc := cX1_countLoose) (maxL := 1) (ret := (some .int)) (own := RX1) (by decide) rfl rfl ?_
  rintro pg ev s0 mm below meth cd ⟨hx, hb, hr, hml, hown, hts, hlocks⟩ hE hP ls hl
  have hS : va_S (gA G) s0.heap s0.heap [] := va_S.rf
  have hl : lv_has ls 1 [(0, .ref (gS G i))] := hl
  refine lv_aload_n hx hb dX1_countLoose_0 rfl (lv_at hl 0 rfl) ?_
  refine hd_callVi (As := []) (rest := []) ⟨hx, hb, hml, hown, hts⟩ hE hP hS (c_X1_setOfLoose l G u i hi M hM) rfl (cwV 0 hts gX1_countLoose_X1_setOfLoose rfl rfl rfl (by decide +kernel) ⟨Nat.le_of_ble_eq_true rfl, Nat.le_of_ble_eq_true rfl⟩) (sc_recv hE hP hi) rfl hl.1 rfl (Nat.le_of_ble_eq_true rfl) dX1_countLoose_1 (fun rq_1 vq_1 H locs q_1 hP hS => ?_)
  have hP := hP.cast (q_1.2)
  refine lv_cast q_1.1 ?_
  refine hd_callSi (As := [.int (loS M (nP M))]) (rest := []) ⟨hx, hb, hml, hown, hts⟩ hE hP hS (c_J6_bitCount_0f7a4 l G (sI u i M) (loS M (nP M))) rfl (va_cwS 1 hts gX1_countLoose_J6_bitCount_0f7a4 rfl rfl rfl (by decide +kernel) ⟨Nat.le_of_ble_eq_true rfl, Nat.le_of_ble_eq_true rfl⟩) rfl hl.1 rfl (Nat.le_of_ble_eq_true rfl) dX1_countLoose_4 (fun rq_2 vq_2 H locs q_2 hP hS => ?_)
  have hP := hP.cast (q_2.2)
  refine lv_cast q_2.1 ?_
  exact hd_iret hx hb hr hlocks hP hS ⟨rfl, rfl⟩ dX1_countLoose_7
set_option maxHeartbeats 4000000 in
set_option maxRecDepth 100000 in
/-- Scene.rowOf(0) -/
theorem c_X1_rowOf_0 (l : Launch) (G : Geo) (u : Sg) (i : Nat) (hi : i < 3) (M : Nat → Int32) : CtR l G yX1_rowOf wsX1_rowOf (rmO 0 0) [.ref (gS G i), .int 0] (sI u i M) (gSA G i 0) (sI u i M) := by
  refine CtR.of (cc := cX1_rowOf) (maxL := 2) (ret := (some (.array .int))) (own := RX1) (by decide) rfl rfl ?_
  rintro pg ev s0 mm below meth cd ⟨hx, hb, hr, hml, hown, hts, hlocks⟩ hE hP ls hl
  have hS : va_S (gA G) s0.heap s0.heap [] := va_S.rf
  have hl : lv_has ls 2 [(0, .ref (gS G i)), (1, .int 0)] := hl
  have hin1 : ∀ w ∈ wsX10, w ∈ wsX1_rowOf := by decide +kernel
  refine lv_iload_n hx hb dX1_rowOf_0 rfl (lv_at hl 1 rfl) ?_
  refine lv_tableIn (tgt := 40) hx hb dX1_rowOf_1 (by decide) (by decide) rfl (by decide) ?_
  refine lv_aload_n hx hb dX1_rowOf_40 rfl (lv_at hl 0 rfl) ?_
  refine sc_get hx hb hts hin1 hown hE hP hi (sI_at _ _ _) 5 (by decide) (hts (.fieldLink RX1 27 "HeldDoor$Scene" "kinds" "[I") (by decide +kernel)) (v := .ref (gSA G i 0)) rfl dX1_rowOf_41 ?_
  exact hd_aret hx hb hr (Or.inr ⟨_, rfl⟩) hlocks hP hS rfl dX1_rowOf_44
set_option maxHeartbeats 4000000 in
set_option maxRecDepth 100000 in
/-- Scene.rowOf(1) -/
theorem c_X1_rowOf_1 (l : Launch) (G : Geo) (u : Sg) (i : Nat) (hi : i < 3) (M : Nat → Int32) : CtR l G yX1_rowOf wsX1_rowOf (rmO 0 0) [.ref (gS G i), .int 1] (sI u i M) (gSA G i 1) (sI u i M) := by
  refine CtR.of (cc := cX1_rowOf) (maxL := 2) (ret := (some (.array .int))) (own := RX1) (by decide) rfl rfl ?_
  rintro pg ev s0 mm below meth cd ⟨hx, hb, hr, hml, hown, hts, hlocks⟩ hE hP ls hl
  have hS : va_S (gA G) s0.heap s0.heap [] := va_S.rf
  have hl : lv_has ls 2 [(0, .ref (gS G i)), (1, .int 1)] := hl
  have hin1 : ∀ w ∈ wsX10, w ∈ wsX1_rowOf := by decide +kernel
  refine lv_iload_n hx hb dX1_rowOf_0 rfl (lv_at hl 1 rfl) ?_
  refine lv_tableIn (tgt := 45) hx hb dX1_rowOf_1 (by decide) (by decide) rfl (by decide) ?_
  refine lv_aload_n hx hb dX1_rowOf_45 rfl (lv_at hl 0 rfl) ?_
  refine sc_get hx hb hts hin1 hown hE hP hi (sI_at _ _ _) 6 (by decide) (hts (.fieldLink RX1 31 "HeldDoor$Scene" "badges" "[I") (by decide +kernel)) (v := .ref (gSA G i 1)) rfl dX1_rowOf_46 ?_
  exact hd_aret hx hb hr (Or.inr ⟨_, rfl⟩) hlocks hP hS rfl dX1_rowOf_49
set_option maxHeartbeats 4000000 in
set_option maxRecDepth 100000 in
/-- Scene.rowOf(2) -/
theorem c_X1_rowOf_2 (l : Launch) (G : Geo) (u : Sg) (i : Nat) (hi : i < 3) (M : Nat → Int32) : CtR l G yX1_rowOf wsX1_rowOf (rmO 0 0) [.ref (gS G i), .int 2] (sI u i M) (gSA G i 2) (sI u i M) := by
  refine CtR.of (cc := cX1_rowOf) (maxL := 2) (ret := (some (.array .int))) (own := RX1) (by decide) rfl rfl ?_
  rintro pg ev s0 mm below meth cd ⟨hx, hb, hr, hml, hown, hts, hlocks⟩ hE hP ls hl
  have hS : va_S (gA G) s0.heap s0.heap [] := va_S.rf
  have hl : lv_has ls 2 [(0, .ref (gS G i)), (1, .int 2)] := hl
  have hin1 : ∀ w ∈ wsX10, w ∈ wsX1_rowOf := by decide +kernel
  refine lv_iload_n hx hb dX1_rowOf_0 rfl (lv_at hl 1 rfl) ?_
  refine lv_tableIn (tgt := 50) hx hb dX1_rowOf_1 (by decide) (by decide) rfl (by decide) ?_
  refine lv_aload_n hx hb dX1_rowOf_50 rfl (lv_at hl 0 rfl) ?_
  refine sc_get hx hb hts hin1 hown hE hP hi (sI_at _ _ _) 7 (by decide) (hts (.fieldLink RX1 34 "HeldDoor$Scene" "loads" "[I") (by decide +kernel)) (v := .ref (gSA G i 2)) rfl dX1_rowOf_51 ?_
  exact hd_aret hx hb hr (Or.inr ⟨_, rfl⟩) hlocks hP hS rfl dX1_rowOf_54
set_option maxHeartbeats 4000000 in
set_option maxRecDepth 100000 in
/-- Scene.rowOf(3) -/
theorem c_X1_rowOf_3 (l : Launch) (G : Geo) (u : Sg) (i : Nat) (hi : i < 3) (M : Nat → Int32) : CtR l G yX1_rowOf wsX1_rowOf (rmO 0 0) [.ref (gS G i), .int 3] (sI u i M) (gSA G i 3) (sI u i M) := by
  refine CtR.of (cc := cX1_rowOf) (maxL := 2) (ret := (some (.array .int))) (own := RX1) (by decide) rfl rfl ?_
  rintro pg ev s0 mm below meth cd ⟨hx, hb, hr, hml, hown, hts, hlocks⟩ hE hP ls hl
  have hS : va_S (gA G) s0.heap s0.heap [] := va_S.rf
  have hl : lv_has ls 2 [(0, .ref (gS G i)), (1, .int 3)] := hl
  have hin1 : ∀ w ∈ wsX10, w ∈ wsX1_rowOf := by decide +kernel
  refine lv_iload_n hx hb dX1_rowOf_0 rfl (lv_at hl 1 rfl) ?_
  refine lv_tableIn (tgt := 55) hx hb dX1_rowOf_1 (by decide) (by decide) rfl (by decide) ?_
  refine lv_aload_n hx hb dX1_rowOf_55 rfl (lv_at hl 0 rfl) ?_
  refine sc_get hx hb hts hin1 hown hE hP hi (sI_at _ _ _) 8 (by decide) (hts (.fieldLink RX1 37 "HeldDoor$Scene" "feet" "[I") (by decide +kernel)) (v := .ref (gSA G i 3)) rfl dX1_rowOf_56 ?_
  exact hd_aret hx hb hr (Or.inr ⟨_, rfl⟩) hlocks hP hS rfl dX1_rowOf_59
set_option maxHeartbeats 4000000 in
set_option maxRecDepth 100000 in
/-- Scene.rowOf(4) -/
theorem c_X1_rowOf_4 (l : Launch) (G : Geo) (u : Sg) (i : Nat) (hi : i < 3) (M : Nat → Int32) : CtR l G yX1_rowOf wsX1_rowOf (rmO 0 0) [.ref (gS G i), .int 4] (sI u i M) (gSA G i 4) (sI u i M) := by
  refine CtR.of (cc := cX1_rowOf) (maxL := 2) (ret := (some (.array .int))) (own := RX1) (by decide) rfl rfl ?_
  rintro pg ev s0 mm below meth cd ⟨hx, hb, hr, hml, hown, hts, hlocks⟩ hE hP ls hl
  have hS : va_S (gA G) s0.heap s0.heap [] := va_S.rf
  have hl : lv_has ls 2 [(0, .ref (gS G i)), (1, .int 4)] := hl
  have hin1 : ∀ w ∈ wsX10, w ∈ wsX1_rowOf := by decide +kernel
  refine lv_iload_n hx hb dX1_rowOf_0 rfl (lv_at hl 1 rfl) ?_
  refine lv_tableIn (tgt := 60) hx hb dX1_rowOf_1 (by decide) (by decide) rfl (by decide) ?_
  refine lv_aload_n hx hb dX1_rowOf_60 rfl (lv_at hl 0 rfl) ?_
  refine sc_get hx hb hts hin1 hown hE hP hi (sI_at _ _ _) 9 (by decide) (hts (.fieldLink RX1 40 "HeldDoor$Scene" "in" "[I") (by decide +kernel)) (v := .ref (gSA G i 4)) rfl dX1_rowOf_61 ?_
  exact hd_aret hx hb hr (Or.inr ⟨_, rfl⟩) hlocks hP hS rfl dX1_rowOf_64
set_option maxHeartbeats 4000000 in
set_option maxRecDepth 100000 in
/-- Scene.rowOf(5) -/
theorem c_X1_rowOf_5 (l : Launch) (G : Geo) (u : Sg) (i : Nat) (hi : i < 3) (M : Nat → Int32) : CtR l G yX1_rowOf wsX1_rowOf (rmO 0 0) [.ref (gS G i), .int 5] (sI u i M) (gSA G i 5) (sI u i M) := by
  refine CtR.of (cc := cX1_rowOf) (maxL := 2) (ret := (some (.array .int))) (own := RX1) (by decide) rfl rfl ?_
  rintro pg ev s0 mm below meth cd ⟨hx, hb, hr, hml, hown, hts, hlocks⟩ hE hP ls hl
  have hS : va_S (gA G) s0.heap s0.heap [] := va_S.rf
  have hl : lv_has ls 2 [(0, .ref (gS G i)), (1, .int 5)] := hl
  have hin1 : ∀ w ∈ wsX10, w ∈ wsX1_rowOf := by decide +kernel
  refine lv_iload_n hx hb dX1_rowOf_0 rfl (lv_at hl 1 rfl) ?_
  refine lv_tableIn (tgt := 65) hx hb dX1_rowOf_1 (by decide) (by decide) rfl (by decide) ?_
  refine lv_aload_n hx hb dX1_rowOf_65 rfl (lv_at hl 0 rfl) ?_
  refine sc_get hx hb hts hin1 hown hE hP hi (sI_at _ _ _) 10 (by decide) (hts (.fieldLink RX1 43 "HeldDoor$Scene" "asked" "[I") (by decide +kernel)) (v := .ref (gSA G i 5)) rfl dX1_rowOf_66 ?_
  exact hd_aret hx hb hr (Or.inr ⟨_, rfl⟩) hlocks hP hS rfl dX1_rowOf_69
set_option maxHeartbeats 4000000 in
set_option maxRecDepth 100000 in
/-- Scene.rowOf of another number -/
theorem c_X1_rowOf_n (l : Launch) (G : Geo) (u : Sg) (i : Nat) (hi : i < 3) (M : Nat → Int32) (w : Int32) (hw0 : ¬ w = 0) (hw1 : ¬ w = 1) (hw2 : ¬ w = 2) (hw3 : ¬ w = 3) (hw4 : ¬ w = 4) (hw5 : ¬ w = 5) : CtN l G yX1_rowOf wsX1_rowOf (rmO 0 0) [.ref (gS G i), .int w] (sI u i M) (sI u i M) := by
  refine CtN.of (cc := cX1_rowOf) (maxL := 2) (ret := (some (.array .int))) (own := RX1) (by decide) rfl rfl ?_
  rintro pg ev s0 mm below meth cd ⟨hx, hb, hr, hml, hown, hts, hlocks⟩ hE hP ls hl
  have hS : va_S (gA G) s0.heap s0.heap [] := va_S.rf
  have hl : lv_has ls 2 [(0, .ref (gS G i)), (1, .int w)] := hl
  refine lv_iload_n hx hb dX1_rowOf_0 rfl (lv_at hl 1 rfl) ?_
  refine lv_tableOut (tgt := 70) hx hb dX1_rowOf_1 (sw_out (lo := 0) (hi := 5) (by decide) (by decide) (fun k h1 h2 => by
    rcases (show k = 0 ∨ k = 1 ∨ k = 2 ∨ k = 3 ∨ k = 4 ∨ k = 5 by omega) with rfl | rfl | rfl | rfl | rfl | rfl
    · exact hw0
    · exact hw1
    · exact hw2
    · exact hw3
    · exact hw4
    · exact hw5
    )) (by decide) ?_
  refine lv_null hx hb dX1_rowOf_70 ?_
  exact hd_nret hx hb hr (Or.inr ⟨_, rfl⟩) hlocks hP hS rfl dX1_rowOf_71
set_option maxHeartbeats 4000000 in
set_option maxRecDepth 100000 in
/-- Scene.become -/
theorem c_X1_become (l : Launch) (G : Geo) (u : Sg) (i j : Nat) (hi : i < 3) (hj : j < 3) (hij : j ≠ i) (M N : Nat → Int32) (hM : u.1 i = M) (hN : u.1 j = N) (tM : ∀ k : Nat, 53 ≤ k → M k = 0) (tN : ∀ k : Nat, 53 ≤ k → N k = 0) : CtV l G yX1_become wsX1_become (rmO 1 18) [.ref (gS G i), .ref (gS G j)] u (fun v => v = sI u i N) := by
  refine CtV.of (cc := cX1_become) (maxL := 2) (ret := none) (own := RX1) (by decide) rfl rfl ?_
  rintro pg ev s0 mm below meth cd ⟨hx, hb, hr, hml, hown, hts, hlocks⟩ hE hP ls hl
  have hS : va_S (gA G) s0.heap s0.heap [] := va_S.rf
  have hl : lv_has ls 2 [(0, .ref (gS G i)), (1, .ref (gS G j))] := hl
  have hin1 : ∀ w ∈ wsX10, w ∈ wsX1_become := by decide +kernel
  refine lv_aload_n hx hb dX1_become_0 rfl (lv_at hl 0 rfl) ?_
  refine lv_aload_n hx hb dX1_become_1 rfl (lv_at hl 1 rfl) ?_
  refine sc_get hx hb hts hin1 hown hE hP hj hN 0 (by decide) (hts (.fieldLink RX1 9 "HeldDoor$Scene" "second" "I") (by decide +kernel)) (v := .int (N 0)) rfl dX1_become_2 ?_
  refine sc_put hx hb hts hin1 hown hE hP hS hi hM 0 (by decide) (hts (.fieldLink RX1 9 "HeldDoor$Scene" "second" "I") (by decide +kernel)) rfl dX1_become_5 (fun H locs hP hS => ?_)
  refine lv_aload_n hx hb dX1_become_8 rfl (lv_at hl 0 rfl) ?_
  refine lv_aload_n hx hb dX1_become_9 rfl (lv_at hl 1 rfl) ?_
  refine sc_get hx hb hts hin1 hown hE hP hj ((sI_ne _ _ (by omega)).trans hN) 1 (by decide) (hts (.fieldLink RX1 15 "HeldDoor$Scene" "care" "I") (by decide +kernel)) (v := .int (N 1)) rfl dX1_become_10 ?_
  refine sc_put hx hb hts hin1 hown hE hP hS hi (sI_at _ _ _) 1 (by decide) (hts (.fieldLink RX1 15 "HeldDoor$Scene" "care" "I") (by decide +kernel)) (sI_sI _ _ _ _) dX1_become_13 (fun H locs hP hS => ?_)
  refine lv_aload_n hx hb dX1_become_16 rfl (lv_at hl 0 rfl) ?_
  refine lv_aload_n hx hb dX1_become_17 rfl (lv_at hl 1 rfl) ?_
  refine sc_get hx hb hts hin1 hown hE hP hj ((sI_ne _ _ (by omega)).trans hN) 2 (by decide) (hts (.fieldLink RX1 18 "HeldDoor$Scene" "open" "I") (by decide +kernel)) (v := .int (N 2)) rfl dX1_become_18 ?_
  refine sc_put hx hb hts hin1 hown hE hP hS hi (sI_at _ _ _) 2 (by decide) (hts (.fieldLink RX1 18 "HeldDoor$Scene" "open" "I") (by decide +kernel)) (sI_sI _ _ _ _) dX1_become_21 (fun H locs hP hS => ?_)
  refine lv_aload_n hx hb dX1_become_24 rfl (lv_at hl 0 rfl) ?_
  refine lv_aload_n hx hb dX1_become_25 rfl (lv_at hl 1 rfl) ?_
  refine sc_get hx hb hts hin1 hown hE hP hj ((sI_ne _ _ (by omega)).trans hN) 3 (by decide) (hts (.fieldLink RX1 21 "HeldDoor$Scene" "by" "I") (by decide +kernel)) (v := .int (N 3)) rfl dX1_become_26 ?_
  refine sc_put hx hb hts hin1 hown hE hP hS hi (sI_at _ _ _) 3 (by decide) (hts (.fieldLink RX1 21 "HeldDoor$Scene" "by" "I") (by decide +kernel)) (sI_sI _ _ _ _) dX1_become_29 (fun H locs hP hS => ?_)
  refine lv_aload_n hx hb dX1_become_32 rfl (lv_at hl 0 rfl) ?_
  refine lv_aload_n hx hb dX1_become_33 rfl (lv_at hl 1 rfl) ?_
  refine sc_get hx hb hts hin1 hown hE hP hj ((sI_ne _ _ (by omega)).trans hN) 4 (by decide) (hts (.fieldLink RX1 24 "HeldDoor$Scene" "people" "I") (by decide +kernel)) (v := .int (N 4)) rfl dX1_become_34 ?_
  refine sc_put hx hb hts hin1 hown hE hP hS hi (sI_at _ _ _) 4 (by decide) (hts (.fieldLink RX1 24 "HeldDoor$Scene" "people" "I") (by decide +kernel)) (sI_sI _ _ _ _) dX1_become_37 (fun H locs hP hS => ?_)
  refine lv_aload_n hx hb dX1_become_40 rfl (lv_at hl 1 rfl) ?_
  refine sc_get hx hb hts hin1 hown hE hP hj ((sI_ne _ _ (by omega)).trans hN) 5 (by decide) (hts (.fieldLink RX1 27 "HeldDoor$Scene" "kinds" "[I") (by decide +kernel)) (v := .ref (gSA G j 0)) rfl dX1_become_41 ?_
  refine lv_iconst (v := 0) hx hb dX1_become_44 (by decide) ?_
  refine lv_aload_n hx hb dX1_become_45 rfl (lv_at hl 0 rfl) ?_
  refine sc_get hx hb hts hin1 hown hE hP hi (sI_at _ _ _) 5 (by decide) (hts (.fieldLink RX1 27 "HeldDoor$Scene" "kinds" "[I") (by decide +kernel)) (v := .ref (gSA G i 0)) rfl dX1_become_46 ?_
  refine lv_iconst (v := 0) hx hb dX1_become_49 (by decide) ?_
  refine lv_bipush (v := 8) hx hb dX1_become_50 (by decide) ?_
  refine sc_cpy hx hb (hml.trans hl.1.symm) hown (hts (.methodLink RX1 46 arraycopyName) (by decide +kernel)) (hts (.native arraycopyName) (by decide +kernel)) (hts (.static arraycopyName) (by decide +kernel)) (hts (.initialized "java/lang/System") (by decide +kernel)) hE hP hS hi hj 0 (by decide) (sI_at _ _ _) ((sI_ne _ _ (by omega)).trans hN) (sI_sI _ _ _ _) (Nat.le_of_ble_eq_true rfl) (by decide) dX1_become_52 (fun H locs hP hS => ?_)
  refine lv_aload_n hx hb dX1_become_55 rfl (lv_at hl 1 rfl) ?_
  refine sc_get hx hb hts hin1 hown hE hP hj ((sI_ne _ _ (by omega)).trans hN) 6 (by decide) (hts (.fieldLink RX1 31 "HeldDoor$Scene" "badges" "[I") (by decide +kernel)) (v := .ref (gSA G j 1)) rfl dX1_become_56 ?_
  refine lv_iconst (v := 0) hx hb dX1_become_59 (by decide) ?_
  refine lv_aload_n hx hb dX1_become_60 rfl (lv_at hl 0 rfl) ?_
  refine sc_get hx hb hts hin1 hown hE hP hi (sI_at _ _ _) 6 (by decide) (hts (.fieldLink RX1 31 "HeldDoor$Scene" "badges" "[I") (by decide +kernel)) (v := .ref (gSA G i 1)) rfl dX1_become_61 ?_
  refine lv_iconst (v := 0) hx hb dX1_become_64 (by decide) ?_
  refine lv_bipush (v := 8) hx hb dX1_become_65 (by decide) ?_
  refine sc_cpy hx hb (hml.trans hl.1.symm) hown (hts (.methodLink RX1 46 arraycopyName) (by decide +kernel)) (hts (.native arraycopyName) (by decide +kernel)) (hts (.static arraycopyName) (by decide +kernel)) (hts (.initialized "java/lang/System") (by decide +kernel)) hE hP hS hi hj 1 (by decide) (sI_at _ _ _) ((sI_ne _ _ (by omega)).trans hN) (sI_sI _ _ _ _) (Nat.le_of_ble_eq_true rfl) (by decide) dX1_become_67 (fun H locs hP hS => ?_)
  refine lv_aload_n hx hb dX1_become_70 rfl (lv_at hl 1 rfl) ?_
  refine sc_get hx hb hts hin1 hown hE hP hj ((sI_ne _ _ (by omega)).trans hN) 7 (by decide) (hts (.fieldLink RX1 34 "HeldDoor$Scene" "loads" "[I") (by decide +kernel)) (v := .ref (gSA G j 2)) rfl dX1_become_71 ?_
  refine lv_iconst (v := 0) hx hb dX1_become_74 (by decide) ?_
  refine lv_aload_n hx hb dX1_become_75 rfl (lv_at hl 0 rfl) ?_
  refine sc_get hx hb hts hin1 hown hE hP hi (sI_at _ _ _) 7 (by decide) (hts (.fieldLink RX1 34 "HeldDoor$Scene" "loads" "[I") (by decide +kernel)) (v := .ref (gSA G i 2)) rfl dX1_become_76 ?_
  refine lv_iconst (v := 0) hx hb dX1_become_79 (by decide) ?_
  refine lv_bipush (v := 8) hx hb dX1_become_80 (by decide) ?_
  refine sc_cpy hx hb (hml.trans hl.1.symm) hown (hts (.methodLink RX1 46 arraycopyName) (by decide +kernel)) (hts (.native arraycopyName) (by decide +kernel)) (hts (.static arraycopyName) (by decide +kernel)) (hts (.initialized "java/lang/System") (by decide +kernel)) hE hP hS hi hj 2 (by decide) (sI_at _ _ _) ((sI_ne _ _ (by omega)).trans hN) (sI_sI _ _ _ _) (Nat.le_of_ble_eq_true rfl) (by decide) dX1_become_82 (fun H locs hP hS => ?_)
  refine lv_aload_n hx hb dX1_become_85 rfl (lv_at hl 1 rfl) ?_
  refine sc_get hx hb hts hin1 hown hE hP hj ((sI_ne _ _ (by omega)).trans hN) 8 (by decide) (hts (.fieldLink RX1 37 "HeldDoor$Scene" "feet" "[I") (by decide +kernel)) (v := .ref (gSA G j 3)) rfl dX1_become_86 ?_
  refine lv_iconst (v := 0) hx hb dX1_become_89 (by decide) ?_
  refine lv_aload_n hx hb dX1_become_90 rfl (lv_at hl 0 rfl) ?_
  refine sc_get hx hb hts hin1 hown hE hP hi (sI_at _ _ _) 8 (by decide) (hts (.fieldLink RX1 37 "HeldDoor$Scene" "feet" "[I") (by decide +kernel)) (v := .ref (gSA G i 3)) rfl dX1_become_91 ?_
  refine lv_iconst (v := 0) hx hb dX1_become_94 (by decide) ?_
  refine lv_bipush (v := 8) hx hb dX1_become_95 (by decide) ?_
  refine sc_cpy hx hb (hml.trans hl.1.symm) hown (hts (.methodLink RX1 46 arraycopyName) (by decide +kernel)) (hts (.native arraycopyName) (by decide +kernel)) (hts (.static arraycopyName) (by decide +kernel)) (hts (.initialized "java/lang/System") (by decide +kernel)) hE hP hS hi hj 3 (by decide) (sI_at _ _ _) ((sI_ne _ _ (by omega)).trans hN) (sI_sI _ _ _ _) (Nat.le_of_ble_eq_true rfl) (by decide) dX1_become_97 (fun H locs hP hS => ?_)
  refine lv_aload_n hx hb dX1_become_100 rfl (lv_at hl 1 rfl) ?_
  refine sc_get hx hb hts hin1 hown hE hP hj ((sI_ne _ _ (by omega)).trans hN) 9 (by decide) (hts (.fieldLink RX1 40 "HeldDoor$Scene" "in" "[I") (by decide +kernel)) (v := .ref (gSA G j 4)) rfl dX1_become_101 ?_
  refine lv_iconst (v := 0) hx hb dX1_become_104 (by decide) ?_
  refine lv_aload_n hx hb dX1_become_105 rfl (lv_at hl 0 rfl) ?_
  refine sc_get hx hb hts hin1 hown hE hP hi (sI_at _ _ _) 9 (by decide) (hts (.fieldLink RX1 40 "HeldDoor$Scene" "in" "[I") (by decide +kernel)) (v := .ref (gSA G i 4)) rfl dX1_become_106 ?_
  refine lv_iconst (v := 0) hx hb dX1_become_109 (by decide) ?_
  refine lv_bipush (v := 8) hx hb dX1_become_110 (by decide) ?_
  refine sc_cpy hx hb (hml.trans hl.1.symm) hown (hts (.methodLink RX1 46 arraycopyName) (by decide +kernel)) (hts (.native arraycopyName) (by decide +kernel)) (hts (.static arraycopyName) (by decide +kernel)) (hts (.initialized "java/lang/System") (by decide +kernel)) hE hP hS hi hj 4 (by decide) (sI_at _ _ _) ((sI_ne _ _ (by omega)).trans hN) (sI_sI _ _ _ _) (Nat.le_of_ble_eq_true rfl) (by decide) dX1_become_112 (fun H locs hP hS => ?_)
  refine lv_aload_n hx hb dX1_become_115 rfl (lv_at hl 1 rfl) ?_
  refine sc_get hx hb hts hin1 hown hE hP hj ((sI_ne _ _ (by omega)).trans hN) 10 (by decide) (hts (.fieldLink RX1 43 "HeldDoor$Scene" "asked" "[I") (by decide +kernel)) (v := .ref (gSA G j 5)) rfl dX1_become_116 ?_
  refine lv_iconst (v := 0) hx hb dX1_become_119 (by decide) ?_
  refine lv_aload_n hx hb dX1_become_120 rfl (lv_at hl 0 rfl) ?_
  refine sc_get hx hb hts hin1 hown hE hP hi (sI_at _ _ _) 10 (by decide) (hts (.fieldLink RX1 43 "HeldDoor$Scene" "asked" "[I") (by decide +kernel)) (v := .ref (gSA G i 5)) rfl dX1_become_121 ?_
  refine lv_iconst (v := 0) hx hb dX1_become_124 (by decide) ?_
  refine lv_bipush (v := 8) hx hb dX1_become_125 (by decide) ?_
  refine sc_cpy hx hb (hml.trans hl.1.symm) hown (hts (.methodLink RX1 46 arraycopyName) (by decide +kernel)) (hts (.native arraycopyName) (by decide +kernel)) (hts (.static arraycopyName) (by decide +kernel)) (hts (.initialized "java/lang/System") (by decide +kernel)) hE hP hS hi hj 5 (by decide) (sI_at _ _ _) ((sI_ne _ _ (by omega)).trans hN) (sI_sI _ _ _ _) (Nat.le_of_ble_eq_true rfl) (by decide) dX1_become_127 (fun H locs hP hS => ?_)
  exact hd_vret hx hb hr hlocks hP hS (by rw [mx_all tM tN]) dX1_become_130
set_option maxHeartbeats 4000000 in
set_option maxRecDepth 100000 in
/-- Scene.walksAs -/
theorem c_X1_walksAs (l : Launch) (G : Geo) (u : Sg) (i : Nat) (hi : i < 3) (M : Nat → Int32) (s : Nat) (hs : s < 4) (B : Nat → Int32) (F : Nat → Int64) (hB : u.1 (7 + s) = B) (hF9 : u.2 s = F) (sz : Nat) (hsz : B 1 = nI sz) (hz : sz ≤ 40) (hM : Wf M) (p : Nat) (hp : p < 8) : CtI l G yX1_walksAs wsX1_walksAs (rmO 5 111) [.ref (gS G i), .ref (gH G s), .int (nI p)] (sI u i M) (fun r v => r = bI (wlN F M p sz) ∧ ∃ N, Wf N ∧ v = sI u i N) := by
  refine CtI.of (cc := cX1_walksAs) (maxL := 4) (ret := (some .boolean)) (own := RX1) (by decide) rfl rfl ?_
  rintro pg ev s0 mm below meth cd ⟨hx, hb, hr, hml, hown, hts, hlocks⟩ hE hP ls hl
  have hS : va_S (gA G) s0.heap s0.heap [] := va_S.rf
  have hl : lv_has ls 4 [(0, .ref (gS G i)), (1, .ref (gH G s)), (2, .int (nI p))] := hl
  have hin1 : ∀ w ∈ wsX10, w ∈ wsX1_walksAs := by decide +kernel
  have hin2 : ∀ w ∈ wsX20, w ∈ wsX1_walksAs := by decide +kernel
  refine lv_iconst (v := 0) hx hb dX1_walksAs_0 (by decide) ?_
  refine lv_istore_n (lv' := [(3, .int 0), (0, .ref (gS G i)), (1, .ref (gH G s)), (2, .int (nI p))]) hx hb dX1_walksAs_1 rfl hl (by decide) rfl (fun ls hl => ?_)
  have J2 : ∀ (fu : Nat) (k : Nat) (N : Nat → Int32) (hk : k ≤ sz) (hN : N = secN M k) (hw9 : wlN F M p k = true) (hrk : sz - k < fu) (H : Heap) (locs : List Loc) (ls : Array Slot), WP G (sI u i N) H → va_S (gA G) s0.heap H locs → lv_has ls 4 [(0, .ref (gS G i)), (1, .ref (gH G s)), (2, .int (nI p)), (3, .int (nI k))] → W pg l ev (headSpec wsX1_walksAs (rmO 5 111)).room s0 mm ([.ref (gS G i), .ref (gH G s), .int (nI p)] : List Value).toArray below meth cd H locs 0 0 (MQ below (va_Qi (fun r v => r = bI (wlN F M p sz) ∧ ∃ N, Wf N ∧ v = sI u i N) (fun v t => WP G v t.heap) (gA G)) ([.ref (gS G i), .ref (gH G s), .int (nI p)] : List Value).toArray s0 0 0 (gA G)) (F0 mm 2 ls []) := by
    intro fu
    induction fu with
    | zero => intro k N hk hN hw9 hrk; exact absurd hrk (Nat.not_lt_zero _)
    | succ fu ih2 =>
      intro k N hk hN hw9 hrk H locs ls hP hS hl
      have hWn : Wf N := by rw [hN]; exact Wf_secN hM k
      refine lv_iload_n hx hb dX1_walksAs_2 rfl (lv_at hl 3 rfl) ?_
      refine lv_aload_n hx hb dX1_walksAs_3 rfl (lv_at hl 1 rfl) ?_
      refine sh_get hx hb hts hin2 hown hE hP (by omega) ((sI_ne _ _ (by omega)).trans hB) 1 (by decide) (hts (.fieldLink RX1 123 "HeldDoor$Sheet" "size" "I") (by decide +kernel)) (v := .int (B 1)) rfl dX1_walksAs_4 ?_
      refine lv_cast hsz ?_
      refine nn_ge (a := k) (b := sz) (by omega) (by omega) (tgt := 39) hx hb dX1_walksAs_7 (by decide) (fun c_1 => ?_) (fun c_1 => ?_)
      · skip
        refine lv_iconst (v := 1) hx hb dX1_walksAs_39 (by decide) ?_
        exact hd_zret hx hb hr hlocks hP hS ⟨(by rw [show sz = k by omega, hw9]; rfl), _, hWn, rfl⟩ rfl dX1_walksAs_40
      · skip
        refine lv_aload_n hx hb dX1_walksAs_10 rfl (lv_at hl 1 rfl) ?_
        refine sh_get hx hb hts hin2 hown hE hP (by omega) ((sI_ne _ _ (by omega)).trans hB) 2 (by decide) (hts (.fieldLink RX1 128 "HeldDoor$Sheet" "numbers" "[J") (by decide +kernel)) (v := .ref (gHN G s)) rfl dX1_walksAs_11 ?_
        refine lv_iload_n hx hb dX1_walksAs_14 rfl (lv_at hl 3 rfl) ?_
        refine sn_ld hx hb hE hP (by omega) (sI_2r hF9) k (by omega) dX1_walksAs_15 ?_
        refine lv_aload_n hx hb dX1_walksAs_16 rfl (lv_at hl 0 rfl) ?_
        refine sc_get hx hb hts hin1 hown hE hP hi (sI_at _ _ _) 8 (by decide) (hts (.fieldLink RX1 37 "HeldDoor$Scene" "feet" "[I") (by decide +kernel)) (v := .ref (gSA G i 3)) rfl dX1_walksAs_17 ?_
        refine lv_iload_n hx hb dX1_walksAs_20 rfl (lv_at hl 2 rfl) ?_
        refine sc_ald hx hb hE hP hi (sI_at _ _ _) 3 (by decide) p (by omega) dX1_walksAs_21 ?_
        refine lv_i2l hx hb dX1_walksAs_22 rfl ?_
        refine W.lcmp hx hb dX1_walksAs_23 ?_
        refine lc_eq (tgt := 29) hx hb dX1_walksAs_24 (by decide) (fun c_2 => ?_) (fun c_2 => ?_)
        · skip
          refine lv_aload_n hx hb dX1_walksAs_29 rfl (lv_at hl 0 rfl) ?_
          refine hd_callVv (As := []) (rest := []) ⟨hx, hb, hml, hown, hts⟩ hE hP hS (c_X1_goOneSecond l G u i hi N hWn) rfl (cwV 0 hts gX1_walksAs_X1_goOneSecond rfl rfl rfl (by decide +kernel) ⟨Nat.le_of_ble_eq_true rfl, Nat.le_of_ble_eq_true rfl⟩) (sc_recv hE hP hi) rfl hl.1 rfl (Nat.le_of_ble_eq_true rfl) dX1_walksAs_30 (fun vq_3 H locs q_3 hP hS => ?_)
          have hP := hP.cast (q_3)
          refine lv_iinc (v := nI (k + 1)) (lv' := [(3, .int (nI (k + 1))), (0, .ref (gS G i)), (1, .ref (gH G s)), (2, .int (nI p))]) hx hb dX1_walksAs_33 hl (k := 3) rfl (inc1 _) (by decide) rfl (fun ls hl => ?_)
          refine lv_goto (tgt := 2) hx hb dX1_walksAs_36 (by decide) ?_
          exact ih2 (k + 1) (sec1 N) (by omega) (by rw [secN, ← hN]) (by rw [wlN, hw9, ← hN]; simp [c_2]) (by omega) _ _ _ hP hS (lv_sub hl [1, 2, 3, 0] rfl)
        · skip
          refine lv_iconst (v := 0) hx hb dX1_walksAs_27 (by decide) ?_
          exact hd_zret hx hb hr hlocks hP hS ⟨(by rw [wlN_f (k := k) (by rw [← hN]; exact c_2) sz (by omega)]; rfl), _, hWn, rfl⟩ rfl dX1_walksAs_28
  exact J2 _ 0 M (Nat.zero_le _) rfl rfl (Nat.lt_succ_self _) _ _ _ hP hS (lv_sub hl [1, 2, 3, 0] rfl)
