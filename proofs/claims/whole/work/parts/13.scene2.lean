set_option maxHeartbeats 4000000 in
set_option maxRecDepth 100000 in
/-- Scene.sumOf -/
theorem c_X1_sumOf (l : Launch) (G : Geo) (u : Sg) (i : Nat) (hi : i < 3) (M : Nat → Int32) (hM : Wf M) (w : Nat) (hw : w < 6) : CtI l G yX1_sumOf wsX1_sumOf (rmO 0 0) [.ref (gS G i), .ref (gSA G i w)] (sI u i M) (fun r v => r = smN M w (nP M) ∧ v = sI u i M) := by
  refine CtI.of (cc := cX1_sumOf) (maxL := 4) (ret := (some .int)) (own := RX1) (by decide) rfl rfl ?_
  rintro pg ev s0 mm below meth cd ⟨hx, hb, hr, hml, hown, hts, hlocks⟩ hE hP ls hl
  have hS : va_S (gA G) s0.heap s0.heap [] := va_S.rf
  have hl : lv_has ls 4 [(0, .ref (gS G i)), (1, .ref (gSA G i w))] := hl
  have hin1 : ∀ w ∈ wsX10, w ∈ wsX1_sumOf := by decide +kernel
  have hn := hM.n
  have h8 := hM.n8
  refine lv_iconst (v := 0) hx hb dX1_sumOf_0 (by decide) ?_
  refine lv_istore_n (lv' := [(2, .int 0), (0, .ref (gS G i)), (1, .ref (gSA G i w))]) hx hb dX1_sumOf_1 rfl hl (by decide) rfl (fun ls hl => ?_)
  refine lv_iconst (v := 0) hx hb dX1_sumOf_2 (by decide) ?_
  refine lv_istore_n (lv' := [(3, .int 0), (2, .int 0), (0, .ref (gS G i)), (1, .ref (gSA G i w))]) hx hb dX1_sumOf_3 rfl hl (by decide) rfl (fun ls hl => ?_)
  have J4 : ∀ (fu : Nat) (p : Nat) (a : Int32) (hp : p ≤ nP M) (ha : a = smN M w p) (hrk : nP M - p < fu) (H : Heap) (locs : List Loc) (ls : Array Slot), WP G (sI u i M) H → va_S (gA G) s0.heap H locs → lv_has ls 4 [(0, .ref (gS G i)), (1, .ref (gSA G i w)), (2, .int a), (3, .int (nI p))] → W pg l ev (headSpec wsX1_sumOf (rmO 0 0)).room s0 mm ([.ref (gS G i), .ref (gSA G i w)] : List Value).toArray below meth cd H locs 0 0 (MQ below (va_Qi (fun r v => r = smN M w (nP M) ∧ v = sI u i M) (fun v t => WP G v t.heap) (gA G)) ([.ref (gS G i), .ref (gSA G i w)] : List Value).toArray s0 0 0 (gA G)) (F0 mm 4 ls []) := by
    intro fu
    induction fu with
    | zero => intro p a hp ha hrk; exact absurd hrk (Nat.not_lt_zero _)
    | succ fu ih4 =>
      intro p a hp ha hrk H locs ls hP hS hl
      refine lv_iload_n hx hb dX1_sumOf_4 rfl (lv_at hl 3 rfl) ?_
      refine lv_aload_n hx hb dX1_sumOf_5 rfl (lv_at hl 0 rfl) ?_
      refine sc_get hx hb hts hin1 hown hE hP hi (sI_at _ _ _) 4 (by decide) (hts (.fieldLink RX1 24 "HeldDoor$Scene" "people" "I") (by decide +kernel)) (v := .int (M 4)) rfl dX1_sumOf_6 ?_
      refine lv_cast hn ?_
      refine nn_ge (a := p) (b := nP M) (by omega) (by omega) (tgt := 24) hx hb dX1_sumOf_9 (by decide) (fun c_1 => ?_) (fun c_1 => ?_)
      · skip
        refine lv_iload_n hx hb dX1_sumOf_24 rfl (lv_at hl 2 rfl) ?_
        exact hd_iret hx hb hr hlocks hP hS ⟨(by rw [ha, show p = nP M by omega]), rfl⟩ dX1_sumOf_25
      · skip
        refine lv_iload_n hx hb dX1_sumOf_12 rfl (lv_at hl 2 rfl) ?_
        refine lv_aload_n hx hb dX1_sumOf_13 rfl (lv_at hl 1 rfl) ?_
        refine lv_iload_n hx hb dX1_sumOf_14 rfl (lv_at hl 3 rfl) ?_
        refine sc_ald hx hb hE hP hi (sI_at _ _ _) w hw p (by omega) dX1_sumOf_15 ?_
        refine lv_iadd hx hb dX1_sumOf_16 ?_
        refine lv_istore_n (lv' := [(2, .int (a + (M (5 + 6 * p + w)))), (0, .ref (gS G i)), (1, .ref (gSA G i w)), (3, .int (nI p))]) hx hb dX1_sumOf_17 rfl hl (by decide) rfl (fun ls hl => ?_)
        refine lv_iinc (v := nI (p + 1)) (lv' := [(3, .int (nI (p + 1))), (2, .int (a + (M (5 + 6 * p + w)))), (0, .ref (gS G i)), (1, .ref (gSA G i w))]) hx hb dX1_sumOf_18 hl (k := 3) rfl (inc1 _) (by decide) rfl (fun ls hl => ?_)
        refine lv_goto (tgt := 4) hx hb dX1_sumOf_21 (by decide) ?_
        exact ih4 (p + 1) (a + (M (5 + 6 * p + w))) (by omega) (by rw [ha]; rfl) (by omega) _ _ _ hP hS (lv_sub hl [2, 3, 1, 0] rfl)
  exact J4 _ 0 0 (Nat.zero_le _) rfl (Nat.lt_succ_self _) _ _ _ hP hS (lv_sub hl [2, 3, 1, 0] rfl)
set_option maxHeartbeats 4000000 in
set_option maxRecDepth 100000 in
/-- Scene.setOfIn -/
theorem c_X1_setOfIn (l : Launch) (G : Geo) (u : Sg) (i : Nat) (hi : i < 3) (M : Nat → Int32) (hM : Wf M) : CtI l G yX1_setOfIn wsX1_setOfIn (rmO 0 0) [.ref (gS G i)] (sI u i M) (fun r v => r = inS M (nP M) ∧ v = sI u i M) := by
  refine CtI.of (cc := cX1_setOfIn) (maxL := 3) (ret := (some .int)) (own := RX1) (by decide) rfl rfl ?_
  rintro pg ev s0 mm below meth cd ⟨hx, hb, hr, hml, hown, hts, hlocks⟩ hE hP ls hl
  have hS : va_S (gA G) s0.heap s0.heap [] := va_S.rf
  have hl : lv_has ls 3 [(0, .ref (gS G i))] := hl
  have hin1 : ∀ w ∈ wsX10, w ∈ wsX1_setOfIn := by decide +kernel
  have hn := hM.n
  have h8 := hM.n8
  refine lv_iconst (v := 0) hx hb dX1_setOfIn_0 (by decide) ?_
  refine lv_istore_n (lv' := [(1, .int 0), (0, .ref (gS G i))]) hx hb dX1_setOfIn_1 rfl hl (by decide) rfl (fun ls hl => ?_)
  refine lv_iconst (v := 0) hx hb dX1_setOfIn_2 (by decide) ?_
  refine lv_istore_n (lv' := [(2, .int 0), (1, .int 0), (0, .ref (gS G i))]) hx hb dX1_setOfIn_3 rfl hl (by decide) rfl (fun ls hl => ?_)
  have J4 : ∀ (fu : Nat) (p : Nat) (a : Int32) (hp : p ≤ nP M) (ha : a = inS M p) (hrk : nP M - p < fu) (H : Heap) (locs : List Loc) (ls : Array Slot), WP G (sI u i M) H → va_S (gA G) s0.heap H locs → lv_has ls 3 [(0, .ref (gS G i)), (1, .int a), (2, .int (nI p))] → W pg l ev (headSpec wsX1_setOfIn (rmO 0 0)).room s0 mm ([.ref (gS G i)] : List Value).toArray below meth cd H locs 0 0 (MQ below (va_Qi (fun r v => r = inS M (nP M) ∧ v = sI u i M) (fun v t => WP G v t.heap) (gA G)) ([.ref (gS G i)] : List Value).toArray s0 0 0 (gA G)) (F0 mm 4 ls []) := by
    intro fu
    induction fu with
    | zero => intro p a hp ha hrk; exact absurd hrk (Nat.not_lt_zero _)
    | succ fu ih4 =>
      intro p a hp ha hrk H locs ls hP hS hl
      refine lv_iload_n hx hb dX1_setOfIn_4 rfl (lv_at hl 2 rfl) ?_
      refine lv_aload_n hx hb dX1_setOfIn_5 rfl (lv_at hl 0 rfl) ?_
      refine sc_get hx hb hts hin1 hown hE hP hi (sI_at _ _ _) 4 (by decide) (hts (.fieldLink RX1 24 "HeldDoor$Scene" "people" "I") (by decide +kernel)) (v := .int (M 4)) rfl dX1_setOfIn_6 ?_
      refine lv_cast hn ?_
      refine nn_ge (a := p) (b := nP M) (by omega) (by omega) (tgt := 29) hx hb dX1_setOfIn_9 (by decide) (fun c_1 => ?_) (fun c_1 => ?_)
      · skip
        refine lv_iload_n hx hb dX1_setOfIn_29 rfl (lv_at hl 1 rfl) ?_
        exact hd_iret hx hb hr hlocks hP hS ⟨(by rw [ha, show p = nP M by omega]), rfl⟩ dX1_setOfIn_30
      · skip
        refine lv_iload_n hx hb dX1_setOfIn_12 rfl (lv_at hl 1 rfl) ?_
        refine lv_aload_n hx hb dX1_setOfIn_13 rfl (lv_at hl 0 rfl) ?_
        refine sc_get hx hb hts hin1 hown hE hP hi (sI_at _ _ _) 9 (by decide) (hts (.fieldLink RX1 40 "HeldDoor$Scene" "in" "[I") (by decide +kernel)) (v := .ref (gSA G i 4)) rfl dX1_setOfIn_14 ?_
        refine lv_iload_n hx hb dX1_setOfIn_17 rfl (lv_at hl 2 rfl) ?_
        refine sc_ald hx hb hE hP hi (sI_at _ _ _) 4 (by decide) p (by omega) dX1_setOfIn_18 ?_
        refine lv_iload_n hx hb dX1_setOfIn_19 rfl (lv_at hl 2 rfl) ?_
        refine lv_ishl hx hb dX1_setOfIn_20 ?_
        refine lv_ior hx hb dX1_setOfIn_21 ?_
        refine lv_istore_n (lv' := [(1, .int (a ||| ((M (5 + 6 * p + 4)) <<< ((nI p) &&& 31)))), (0, .ref (gS G i)), (2, .int (nI p))]) hx hb dX1_setOfIn_22 rfl hl (by decide) rfl (fun ls hl => ?_)
        refine lv_iinc (v := nI (p + 1)) (lv' := [(2, .int (nI (p + 1))), (1, .int (a ||| ((M (5 + 6 * p + 4)) <<< ((nI p) &&& 31)))), (0, .ref (gS G i))]) hx hb dX1_setOfIn_23 hl (k := 2) rfl (inc1 _) (by decide) rfl (fun ls hl => ?_)
        refine lv_goto (tgt := 4) hx hb dX1_setOfIn_26 (by decide) ?_
        exact ih4 (p + 1) (a ||| ((M (5 + 6 * p + 4)) <<< ((nI p) &&& 31))) (by omega) (by rw [ha]; rfl) (by omega) _ _ _ hP hS (lv_sub hl [2, 1, 0] rfl)
  exact J4 _ 0 0 (Nat.zero_le _) rfl (Nat.lt_succ_self _) _ _ _ hP hS (lv_sub hl [2, 1, 0] rfl)
set_option maxHeartbeats 4000000 in
set_option maxRecDepth 100000 in
/-- Scene.setOfLoose -/
theorem c_X1_setOfLoose (l : Launch) (G : Geo) (u : Sg) (i : Nat) (hi : i < 3) (M : Nat → Int32) (hM : Wf M) : CtI l G yX1_setOfLoose wsX1_setOfLoose (rmO 0 0) [.ref (gS G i)] (sI u i M) (fun r v => r = loS M (nP M) ∧ v = sI u i M) := by
  refine CtI.of (cc := cX1_setOfLoose) (maxL := 3) (ret := (some .int)) (own := RX1) (by decide) rfl rfl ?_
  rintro pg ev s0 mm below meth cd ⟨hx, hb, hr, hml, hown, hts, hlocks⟩ hE hP ls hl
  have hS : va_S (gA G) s0.heap s0.heap [] := va_S.rf
  have hl : lv_has ls 3 [(0, .ref (gS G i))] := hl
  have hin1 : ∀ w ∈ wsX10, w ∈ wsX1_setOfLoose := by decide +kernel
  have hn := hM.n
  have h8 := hM.n8
  refine lv_iconst (v := 0) hx hb dX1_setOfLoose_0 (by decide) ?_
  refine lv_istore_n (lv' := [(1, .int 0), (0, .ref (gS G i))]) hx hb dX1_setOfLoose_1 rfl hl (by decide) rfl (fun ls hl => ?_)
  refine lv_iconst (v := 0) hx hb dX1_setOfLoose_2 (by decide) ?_
  refine lv_istore_n (lv' := [(2, .int 0), (1, .int 0), (0, .ref (gS G i))]) hx hb dX1_setOfLoose_3 rfl hl (by decide) rfl (fun ls hl => ?_)
  have J4 : ∀ (fu : Nat) (p : Nat) (a : Int32) (hp : p ≤ nP M) (ha : a = loS M p) (hrk : nP M - p < fu) (H : Heap) (locs : List Loc) (ls : Array Slot), WP G (sI u i M) H → va_S (gA G) s0.heap H locs → lv_has ls 3 [(0, .ref (gS G i)), (1, .int a), (2, .int (nI p))] → W pg l ev (headSpec wsX1_setOfLoose (rmO 0 0)).room s0 mm ([.ref (gS G i)] : List Value).toArray below meth cd H locs 0 0 (MQ below (va_Qi (fun r v => r = loS M (nP M) ∧ v = sI u i M) (fun v t => WP G v t.heap) (gA G)) ([.ref (gS G i)] : List Value).toArray s0 0 0 (gA G)) (F0 mm 4 ls []) := by
    intro fu
    induction fu with
    | zero => intro p a hp ha hrk; exact absurd hrk (Nat.not_lt_zero _)
    | succ fu ih4 =>
      intro p a hp ha hrk H locs ls hP hS hl
      refine lv_iload_n hx hb dX1_setOfLoose_4 rfl (lv_at hl 2 rfl) ?_
      refine lv_aload_n hx hb dX1_setOfLoose_5 rfl (lv_at hl 0 rfl) ?_
      refine sc_get hx hb hts hin1 hown hE hP hi (sI_at _ _ _) 4 (by decide) (hts (.fieldLink RX1 24 "HeldDoor$Scene" "people" "I") (by decide +kernel)) (v := .int (M 4)) rfl dX1_setOfLoose_6 ?_
      refine lv_cast hn ?_
      refine nn_ge (a := p) (b := nP M) (by omega) (by omega) (tgt := 38) hx hb dX1_setOfLoose_9 (by decide) (fun c_1 => ?_) (fun c_1 => ?_)
      · skip
        refine lv_iload_n hx hb dX1_setOfLoose_38 rfl (lv_at hl 1 rfl) ?_
        exact hd_iret hx hb hr hlocks hP hS ⟨(by rw [ha, show p = nP M by omega]), rfl⟩ dX1_setOfLoose_39
      · skip
        refine lv_aload_n hx hb dX1_setOfLoose_12 rfl (lv_at hl 0 rfl) ?_
        refine sc_get hx hb hts hin1 hown hE hP hi (sI_at _ _ _) 6 (by decide) (hts (.fieldLink RX1 31 "HeldDoor$Scene" "badges" "[I") (by decide +kernel)) (v := .ref (gSA G i 1)) rfl dX1_setOfLoose_13 ?_
        refine lv_iload_n hx hb dX1_setOfLoose_16 rfl (lv_at hl 2 rfl) ?_
        refine sc_ald hx hb hE hP hi (sI_at _ _ _) 1 (by decide) p (by omega) dX1_setOfLoose_17 ?_
        refine lv_if_ne (tgt := 32) hx hb dX1_setOfLoose_18 (by decide) (fun c_2 => ?_) (fun c_2 => ?_)
        · skip
          refine lv_iinc (v := nI (p + 1)) (lv' := [(2, .int (nI (p + 1))), (0, .ref (gS G i)), (1, .int a)]) hx hb dX1_setOfLoose_32 hl (k := 2) rfl (inc1 _) (by decide) rfl (fun ls hl => ?_)
          refine lv_goto (tgt := 4) hx hb dX1_setOfLoose_35 (by decide) ?_
          exact ih4 (p + 1) a (by omega) (by rw [ha, loS, if_neg c_2]) (by omega) _ _ _ hP hS (lv_sub hl [1, 2, 0] rfl)
        · skip
          refine lv_iload_n hx hb dX1_setOfLoose_21 rfl (lv_at hl 1 rfl) ?_
          refine lv_aload_n hx hb dX1_setOfLoose_22 rfl (lv_at hl 0 rfl) ?_
          refine sc_get hx hb hts hin1 hown hE hP hi (sI_at _ _ _) 9 (by decide) (hts (.fieldLink RX1 40 "HeldDoor$Scene" "in" "[I") (by decide +kernel)) (v := .ref (gSA G i 4)) rfl dX1_setOfLoose_23 ?_
          refine lv_iload_n hx hb dX1_setOfLoose_26 rfl (lv_at hl 2 rfl) ?_
          refine sc_ald hx hb hE hP hi (sI_at _ _ _) 4 (by decide) p (by omega) dX1_setOfLoose_27 ?_
          refine lv_iload_n hx hb dX1_setOfLoose_28 rfl (lv_at hl 2 rfl) ?_
          refine lv_ishl hx hb dX1_setOfLoose_29 ?_
          refine lv_ior hx hb dX1_setOfLoose_30 ?_
          refine lv_istore_n (lv' := [(1, .int (a ||| ((M (5 + 6 * p + 4)) <<< ((nI p) &&& 31)))), (0, .ref (gS G i)), (2, .int (nI p))]) hx hb dX1_setOfLoose_31 rfl hl (by decide) rfl (fun ls hl => ?_)
          refine lv_iinc (v := nI (p + 1)) (lv' := [(2, .int (nI (p + 1))), (1, .int (a ||| ((M (5 + 6 * p + 4)) <<< ((nI p) &&& 31)))), (0, .ref (gS G i))]) hx hb dX1_setOfLoose_32 hl (k := 2) rfl (inc1 _) (by decide) rfl (fun ls hl => ?_)
          refine lv_goto (tgt := 4) hx hb dX1_setOfLoose_35 (by decide) ?_
          exact ih4 (p + 1) (a ||| ((M (5 + 6 * p + 4)) <<< ((nI p) &&& 31))) (by omega) (by rw [ha, loS, if_pos c_2]) (by omega) _ _ _ hP hS (lv_sub hl [2, 1, 0] rfl)
  exact J4 _ 0 0 (Nat.zero_le _) rfl (Nat.lt_succ_self _) _ _ _ hP hS (lv_sub hl [2, 1, 0] rfl)
set_option maxHeartbeats 4000000 in
set_option maxRecDepth 100000 in
/-- Scene.nearestOutside -/
theorem c_X1_nearestOutside (l : Launch) (G : Geo) (u : Sg) (i : Nat) (hi : i < 3) (M : Nat → Int32) (hM : Wf M) : CtI l G yX1_nearestOutside wsX1_nearestOutside (rmO 0 0) [.ref (gS G i)] (sI u i M) (fun r v => r = (nrN M (nP M)).1 ∧ v = sI u i M) := by
  refine CtI.of (cc := cX1_nearestOutside) (maxL := 4) (ret := (some .int)) (own := RX1) (by decide) rfl rfl ?_
  rintro pg ev s0 mm below meth cd ⟨hx, hb, hr, hml, hown, hts, hlocks⟩ hE hP ls hl
  have hS : va_S (gA G) s0.heap s0.heap [] := va_S.rf
  have hl : lv_has ls 4 [(0, .ref (gS G i))] := hl
  have hin1 : ∀ w ∈ wsX10, w ∈ wsX1_nearestOutside := by decide +kernel
  have hn := hM.n
  have h8 := hM.n8
  refine lv_iconst (v := (-1)) hx hb dX1_nearestOutside_0 (by decide) ?_
  refine lv_istore_n (lv' := [(1, .int (-1)), (0, .ref (gS G i))]) hx hb dX1_nearestOutside_1 rfl hl (by decide) rfl (fun ls hl => ?_)
  refine lv_sipush (v := 1000) hx hb dX1_nearestOutside_2 (by decide) ?_
  refine lv_istore_n (lv' := [(2, .int 1000), (1, .int (-1)), (0, .ref (gS G i))]) hx hb dX1_nearestOutside_5 rfl hl (by decide) rfl (fun ls hl => ?_)
  refine lv_iconst (v := 0) hx hb dX1_nearestOutside_6 (by decide) ?_
  refine lv_istore_n (lv' := [(3, .int 0), (2, .int 1000), (1, .int (-1)), (0, .ref (gS G i))]) hx hb dX1_nearestOutside_7 rfl hl (by decide) rfl (fun ls hl => ?_)
  have J8 : ∀ (fu : Nat) (p : Nat) (a : Int32) (b : Int32) (hp : p ≤ nP M) (ha : a = (nrN M p).1) (hb9 : b = (nrN M p).2) (hrk : nP M - p < fu) (H : Heap) (locs : List Loc) (ls : Array Slot), WP G (sI u i M) H → va_S (gA G) s0.heap H locs → lv_has ls 4 [(0, .ref (gS G i)), (1, .int a), (2, .int b), (3, .int (nI p))] → W pg l ev (headSpec wsX1_nearestOutside (rmO 0 0)).room s0 mm ([.ref (gS G i)] : List Value).toArray below meth cd H locs 0 0 (MQ below (va_Qi (fun r v => r = (nrN M (nP M)).1 ∧ v = sI u i M) (fun v t => WP G v t.heap) (gA G)) ([.ref (gS G i)] : List Value).toArray s0 0 0 (gA G)) (F0 mm 8 ls []) := by
    intro fu
    induction fu with
    | zero => intro p a b hp ha hb9 hrk; exact absurd hrk (Nat.not_lt_zero _)
    | succ fu ih8 =>
      intro p a b hp ha hb9 hrk H locs ls hP hS hl
      refine lv_iload_n hx hb dX1_nearestOutside_8 rfl (lv_at hl 3 rfl) ?_
      refine lv_aload_n hx hb dX1_nearestOutside_9 rfl (lv_at hl 0 rfl) ?_
      refine sc_get hx hb hts hin1 hown hE hP hi (sI_at _ _ _) 4 (by decide) (hts (.fieldLink RX1 24 "HeldDoor$Scene" "people" "I") (by decide +kernel)) (v := .int (M 4)) rfl dX1_nearestOutside_10 ?_
      refine lv_cast hn ?_
      refine nn_ge (a := p) (b := nP M) (by omega) (by omega) (tgt := 50) hx hb dX1_nearestOutside_13 (by decide) (fun c_1 => ?_) (fun c_1 => ?_)
      · skip
        refine lv_iload_n hx hb dX1_nearestOutside_50 rfl (lv_at hl 1 rfl) ?_
        exact hd_iret hx hb hr hlocks hP hS ⟨(by rw [ha, show p = nP M by omega]), rfl⟩ dX1_nearestOutside_51
      · skip
        refine lv_aload_n hx hb dX1_nearestOutside_16 rfl (lv_at hl 0 rfl) ?_
        refine sc_get hx hb hts hin1 hown hE hP hi (sI_at _ _ _) 9 (by decide) (hts (.fieldLink RX1 40 "HeldDoor$Scene" "in" "[I") (by decide +kernel)) (v := .ref (gSA G i 4)) rfl dX1_nearestOutside_17 ?_
        refine lv_iload_n hx hb dX1_nearestOutside_20 rfl (lv_at hl 3 rfl) ?_
        refine sc_ald hx hb hE hP hi (sI_at _ _ _) 4 (by decide) p (by omega) dX1_nearestOutside_21 ?_
        refine lv_if_ne (tgt := 44) hx hb dX1_nearestOutside_22 (by decide) (fun c_2 => ?_) (fun c_2 => ?_)
        · skip
          refine lv_iinc (v := nI (p + 1)) (lv' := [(3, .int (nI (p + 1))), (0, .ref (gS G i)), (1, .int a), (2, .int b)]) hx hb dX1_nearestOutside_44 hl (k := 3) rfl (inc1 _) (by decide) rfl (fun ls hl => ?_)
          refine lv_goto (tgt := 8) hx hb dX1_nearestOutside_47 (by decide) ?_
          exact ih8 (p + 1) a b (by omega) (by rw [nrN, if_neg c_2]; exact ha) (by rw [nrN, if_neg c_2]; exact hb9) (by omega) _ _ _ hP hS (lv_sub hl [1, 2, 3, 0] rfl)
        · skip
          refine lv_aload_n hx hb dX1_nearestOutside_25 rfl (lv_at hl 0 rfl) ?_
          refine sc_get hx hb hts hin1 hown hE hP hi (sI_at _ _ _) 8 (by decide) (hts (.fieldLink RX1 37 "HeldDoor$Scene" "feet" "[I") (by decide +kernel)) (v := .ref (gSA G i 3)) rfl dX1_nearestOutside_26 ?_
          refine lv_iload_n hx hb dX1_nearestOutside_29 rfl (lv_at hl 3 rfl) ?_
          refine sc_ald hx hb hE hP hi (sI_at _ _ _) 3 (by decide) p (by omega) dX1_nearestOutside_30 ?_
          refine lv_iload_n hx hb dX1_nearestOutside_31 rfl (lv_at hl 2 rfl) ?_
          refine lv_icmp_ge (tgt := 44) hx hb dX1_nearestOutside_32 (by decide) (fun c_3 => ?_) (fun c_3 => ?_)
          · skip
            refine lv_iinc (v := nI (p + 1)) (lv' := [(3, .int (nI (p + 1))), (0, .ref (gS G i)), (1, .int a), (2, .int b)]) hx hb dX1_nearestOutside_44 hl (k := 3) rfl (inc1 _) (by decide) rfl (fun ls hl => ?_)
            refine lv_goto (tgt := 8) hx hb dX1_nearestOutside_47 (by decide) ?_
            exact ih8 (p + 1) a b (by omega) (by rw [nrN, if_pos c_2, if_neg (by rw [← hb9]; exact Int32.not_lt.mpr c_3)]; exact ha) (by rw [nrN, if_pos c_2, if_neg (by rw [← hb9]; exact Int32.not_lt.mpr c_3)]; exact hb9) (by omega) _ _ _ hP hS (lv_sub hl [1, 2, 3, 0] rfl)
          · skip
            refine lv_aload_n hx hb dX1_nearestOutside_35 rfl (lv_at hl 0 rfl) ?_
            refine sc_get hx hb hts hin1 hown hE hP hi (sI_at _ _ _) 8 (by decide) (hts (.fieldLink RX1 37 "HeldDoor$Scene" "feet" "[I") (by decide +kernel)) (v := .ref (gSA G i 3)) rfl dX1_nearestOutside_36 ?_
            refine lv_iload_n hx hb dX1_nearestOutside_39 rfl (lv_at hl 3 rfl) ?_
            refine sc_ald hx hb hE hP hi (sI_at _ _ _) 3 (by decide) p (by omega) dX1_nearestOutside_40 ?_
            refine lv_istore_n (lv' := [(2, .int (M (5 + 6 * p + 3))), (0, .ref (gS G i)), (1, .int a), (3, .int (nI p))]) hx hb dX1_nearestOutside_41 rfl hl (by decide) rfl (fun ls hl => ?_)
            refine lv_iload_n hx hb dX1_nearestOutside_42 rfl (lv_at hl 3 rfl) ?_
            refine lv_istore_n (lv' := [(1, .int (nI p)), (2, .int (M (5 + 6 * p + 3))), (0, .ref (gS G i)), (3, .int (nI p))]) hx hb dX1_nearestOutside_43 rfl hl (by decide) rfl (fun ls hl => ?_)
            refine lv_iinc (v := nI (p + 1)) (lv' := [(3, .int (nI (p + 1))), (1, .int (nI p)), (2, .int (M (5 + 6 * p + 3))), (0, .ref (gS G i))]) hx hb dX1_nearestOutside_44 hl (k := 3) rfl (inc1 _) (by decide) rfl (fun ls hl => ?_)
            refine lv_goto (tgt := 8) hx hb dX1_nearestOutside_47 (by decide) ?_
            exact ih8 (p + 1) (nI p) (M (5 + 6 * p + 3)) (by omega) (by rw [nrN, if_pos c_2, if_pos (by rw [← hb9]; exact Int32.not_le.mp c_3)]) (by rw [nrN, if_pos c_2, if_pos (by rw [← hb9]; exact Int32.not_le.mp c_3)]) (by omega) _ _ _ hP hS (lv_sub hl [3, 1, 2, 0] rfl)
  exact J8 _ 0 (-1) 1000 (Nat.zero_le _) rfl rfl (Nat.lt_succ_self _) _ _ _ hP hS (lv_sub hl [3, 2, 1, 0] rfl)
set_option maxHeartbeats 4000000 in
set_option maxRecDepth 100000 in
/-- Scene.isAtRest -/
theorem c_X1_isAtRest (l : Launch) (G : Geo) (u : Sg) (i : Nat) (hi : i < 3) (M : Nat → Int32) (hM : Wf M) : CtI l G yX1_isAtRest wsX1_isAtRest (rmO 0 0) [.ref (gS G i)] (sI u i M) (fun r v => r = bI (restB M) ∧ v = sI u i M) := by
  refine CtI.of (cc := cX1_isAtRest) (maxL := 2) (ret := (some .boolean)) (own := RX1) (by decide) rfl rfl ?_
  rintro pg ev s0 mm below meth cd ⟨hx, hb, hr, hml, hown, hts, hlocks⟩ hE hP ls hl
  have hS : va_S (gA G) s0.heap s0.heap [] := va_S.rf
  have hl : lv_has ls 2 [(0, .ref (gS G i))] := hl
  have hin1 : ∀ w ∈ wsX10, w ∈ wsX1_isAtRest := by decide +kernel
  have hn := hM.n
  have h8 := hM.n8
  refine lv_aload_n hx hb dX1_isAtRest_0 rfl (lv_at hl 0 rfl) ?_
  refine sc_get hx hb hts hin1 hown hE hP hi (sI_at _ _ _) 2 (by decide) (hts (.fieldLink RX1 18 "HeldDoor$Scene" "open" "I") (by decide +kernel)) (v := .int (M 2)) rfl dX1_isAtRest_1 ?_
  refine lv_if_le (tgt := 9) hx hb dX1_isAtRest_4 (by decide) (fun c_1 => ?_) (fun c_1 => ?_)
  · skip
    refine lv_iconst (v := 0) hx hb dX1_isAtRest_9 (by decide) ?_
    refine lv_istore_n (lv' := [(1, .int 0), (0, .ref (gS G i))]) hx hb dX1_isAtRest_10 rfl hl (by decide) rfl (fun ls hl => ?_)
    have J11 : ∀ (fu : Nat) (p : Nat) (hp : p ≤ nP M) (hr9 : rsN M p = true) (hrk : nP M - p < fu) (H : Heap) (locs : List Loc) (ls : Array Slot), WP G (sI u i M) H → va_S (gA G) s0.heap H locs → lv_has ls 2 [(0, .ref (gS G i)), (1, .int (nI p))] → W pg l ev (headSpec wsX1_isAtRest (rmO 0 0)).room s0 mm ([.ref (gS G i)] : List Value).toArray below meth cd H locs 0 0 (MQ below (va_Qi (fun r v => r = bI (restB M) ∧ v = sI u i M) (fun v t => WP G v t.heap) (gA G)) ([.ref (gS G i)] : List Value).toArray s0 0 0 (gA G)) (F0 mm 11 ls []) := by
      intro fu
      induction fu with
      | zero => intro p hp hr9 hrk; exact absurd hrk (Nat.not_lt_zero _)
      | succ fu ih11 =>
        intro p hp hr9 hrk H locs ls hP hS hl
        refine lv_iload_n hx hb dX1_isAtRest_11 rfl (lv_at hl 1 rfl) ?_
        refine lv_aload_n hx hb dX1_isAtRest_12 rfl (lv_at hl 0 rfl) ?_
        refine sc_get hx hb hts hin1 hown hE hP hi (sI_at _ _ _) 4 (by decide) (hts (.fieldLink RX1 24 "HeldDoor$Scene" "people" "I") (by decide +kernel)) (v := .int (M 4)) rfl dX1_isAtRest_13 ?_
        refine lv_cast hn ?_
        refine nn_ge (a := p) (b := nP M) (by omega) (by omega) (tgt := 55) hx hb dX1_isAtRest_16 (by decide) (fun c_2 => ?_) (fun c_2 => ?_)
        · skip
          refine lv_iconst (v := 1) hx hb dX1_isAtRest_55 (by decide) ?_
          exact hd_zret hx hb hr hlocks hP hS ⟨(by rw [restB, if_pos c_1, show nP M = p by omega, hr9]; rfl), rfl⟩ rfl dX1_isAtRest_56
        · skip
          refine lv_aload_n hx hb dX1_isAtRest_19 rfl (lv_at hl 0 rfl) ?_
          refine sc_get hx hb hts hin1 hown hE hP hi (sI_at _ _ _) 9 (by decide) (hts (.fieldLink RX1 40 "HeldDoor$Scene" "in" "[I") (by decide +kernel)) (v := .ref (gSA G i 4)) rfl dX1_isAtRest_20 ?_
          refine lv_iload_n hx hb dX1_isAtRest_23 rfl (lv_at hl 1 rfl) ?_
          refine sc_ald hx hb hE hP hi (sI_at _ _ _) 4 (by decide) p (by omega) dX1_isAtRest_24 ?_
          refine lv_if_ne (tgt := 49) hx hb dX1_isAtRest_25 (by decide) (fun c_3 => ?_) (fun c_3 => ?_)
          · skip
            refine lv_iinc (v := nI (p + 1)) (lv' := [(1, .int (nI (p + 1))), (0, .ref (gS G i))]) hx hb dX1_isAtRest_49 hl (k := 1) rfl (inc1 _) (by decide) rfl (fun ls hl => ?_)
            refine lv_goto (tgt := 11) hx hb dX1_isAtRest_52 (by decide) ?_
            exact ih11 (p + 1) (by omega) (by rw [rsN, hr9]; simp [okP, c_3]) (by omega) _ _ _ hP hS (lv_sub hl [1, 0] rfl)
          · skip
            refine lv_aload_n hx hb dX1_isAtRest_28 rfl (lv_at hl 0 rfl) ?_
            refine sc_get hx hb hts hin1 hown hE hP hi (sI_at _ _ _) 8 (by decide) (hts (.fieldLink RX1 37 "HeldDoor$Scene" "feet" "[I") (by decide +kernel)) (v := .ref (gSA G i 3)) rfl dX1_isAtRest_29 ?_
            refine lv_iload_n hx hb dX1_isAtRest_32 rfl (lv_at hl 1 rfl) ?_
            refine sc_ald hx hb hE hP hi (sI_at _ _ _) 3 (by decide) p (by omega) dX1_isAtRest_33 ?_
            refine lv_if_gt (tgt := 47) hx hb dX1_isAtRest_34 (by decide) (fun c_4 => ?_) (fun c_4 => ?_)
            · skip
              refine lv_iconst (v := 0) hx hb dX1_isAtRest_47 (by decide) ?_
              exact hd_zret hx hb hr hlocks hP hS ⟨(by rw [restB, if_pos c_1, rsN_f (p := p) (by simp [okP, c_3, c_4]) _ (by omega)]; rfl), rfl⟩ rfl dX1_isAtRest_48
            · skip
              refine lv_aload_n hx hb dX1_isAtRest_37 rfl (lv_at hl 0 rfl) ?_
              refine sc_get hx hb hts hin1 hown hE hP hi (sI_at _ _ _) 6 (by decide) (hts (.fieldLink RX1 31 "HeldDoor$Scene" "badges" "[I") (by decide +kernel)) (v := .ref (gSA G i 1)) rfl dX1_isAtRest_38 ?_
              refine lv_iload_n hx hb dX1_isAtRest_41 rfl (lv_at hl 1 rfl) ?_
              refine sc_ald hx hb hE hP hi (sI_at _ _ _) 1 (by decide) p (by omega) dX1_isAtRest_42 ?_
              refine lv_iconst (v := 1) hx hb dX1_isAtRest_43 (by decide) ?_
              refine lv_icmp_ne (tgt := 49) hx hb dX1_isAtRest_44 (by decide) (fun c_5 => ?_) (fun c_5 => ?_)
              · skip
                refine lv_iinc (v := nI (p + 1)) (lv' := [(1, .int (nI (p + 1))), (0, .ref (gS G i))]) hx hb dX1_isAtRest_49 hl (k := 1) rfl (inc1 _) (by decide) rfl (fun ls hl => ?_)
                refine lv_goto (tgt := 11) hx hb dX1_isAtRest_52 (by decide) ?_
                exact ih11 (p + 1) (by omega) (by rw [rsN, hr9]; simp [okP, c_3, c_4, c_5]) (by omega) _ _ _ hP hS (lv_sub hl [1, 0] rfl)
              · skip
                refine lv_iconst (v := 0) hx hb dX1_isAtRest_47 (by decide) ?_
                exact hd_zret hx hb hr hlocks hP hS ⟨(by rw [restB, if_pos c_1, rsN_f (p := p) (by simp [okP, c_3, c_4, c_5]) _ (by omega)]; rfl), rfl⟩ rfl dX1_isAtRest_48
    exact J11 _ 0 (Nat.zero_le _) rfl (Nat.lt_succ_self _) _ _ _ hP hS (lv_sub hl [1, 0] rfl)
  · skip
    refine lv_iconst (v := 0) hx hb dX1_isAtRest_7 (by decide) ?_
    exact hd_zret hx hb hr hlocks hP hS ⟨(by simp [restB, bI, c_1]), rfl⟩ rfl dX1_isAtRest_8
