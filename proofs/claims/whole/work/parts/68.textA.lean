set_option maxHeartbeats 4000000 in
set_option maxRecDepth 100000 in
theorem c_X3_isLetter (l : Launch) (G : Geo) (u : Sg) (x : Int32) : CtI l G yX3_isLetter wsX3_isLetter (rmO 0 0) [.int x] u (fun r v => r = bI (inI x 97 122) ∧ v = u) := by
  refine CtI.of (cc := cX3_isLetter) (maxL := 1) (ret := (some .boolean)) (own := RX3) (by decide) rfl rfl ?_
  rintro pg ev s0 mm below meth cd ⟨hx, hb, hr, hml, hown, hts, hlocks⟩ hE hP ls hl
  have hS : va_S (gA G) s0.heap s0.heap [] := va_S.rf
  have hl : lv_has ls 1 [(0, .int x)] := hl
  refine lv_iload_n hx hb dX3_isLetter_0 rfl (lv_at hl 0 rfl) ?_
  refine lv_bipush (v := 97) hx hb dX3_isLetter_1 (by decide) ?_
  refine lv_icmp_lt (tgt := 16) hx hb dX3_isLetter_3 (by decide) (fun c_1 => ?_) (fun c_1 => ?_)
  · skip
    refine lv_iconst (v := 0) hx hb dX3_isLetter_16 (by decide) ?_
    exact hd_zret hx hb hr hlocks hP hS ⟨(by first | rfl | (simp only [inI, bI, c_1, ↓reduceIte]; done) | (simp only [inI, bI, c_1, ↓reduceIte] <;> rfl) | (simp [inI, bI, c_1]; done)), rfl⟩ rfl dX3_isLetter_17
  · skip
    refine lv_iload_n hx hb dX3_isLetter_6 rfl (lv_at hl 0 rfl) ?_
    refine lv_bipush (v := 122) hx hb dX3_isLetter_7 (by decide) ?_
    refine lv_icmp_gt (tgt := 16) hx hb dX3_isLetter_9 (by decide) (fun c_2 => ?_) (fun c_2 => ?_)
    · skip
      refine lv_iconst (v := 0) hx hb dX3_isLetter_16 (by decide) ?_
      exact hd_zret hx hb hr hlocks hP hS ⟨(by first | rfl | (simp only [inI, bI, c_1, c_2, ↓reduceIte]; done) | (simp only [inI, bI, c_1, c_2, ↓reduceIte] <;> rfl) | (simp [inI, bI, c_1, c_2]; done)), rfl⟩ rfl dX3_isLetter_17
    · skip
      refine lv_iconst (v := 1) hx hb dX3_isLetter_12 (by decide) ?_
      refine lv_goto (tgt := 17) hx hb dX3_isLetter_13 (by decide) ?_
      exact hd_zret hx hb hr hlocks hP hS ⟨(by first | rfl | (simp only [inI, bI, c_1, c_2, ↓reduceIte]; done) | (simp only [inI, bI, c_1, c_2, ↓reduceIte] <;> rfl) | (simp [inI, bI, c_1, c_2]; done)), rfl⟩ rfl dX3_isLetter_17
set_option maxHeartbeats 4000000 in
set_option maxRecDepth 100000 in
theorem c_X3_isDigit (l : Launch) (G : Geo) (u : Sg) (x : Int32) : CtI l G yX3_isDigit wsX3_isDigit (rmO 0 0) [.int x] u (fun r v => r = bI (inI x 48 57) ∧ v = u) := by
  refine CtI.of (cc := cX3_isDigit) (maxL := 1) (ret := (some .boolean)) (own := RX3) (by decide) rfl rfl ?_
  rintro pg ev s0 mm below meth cd ⟨hx, hb, hr, hml, hown, hts, hlocks⟩ hE hP ls hl
  have hS : va_S (gA G) s0.heap s0.heap [] := va_S.rf
  have hl : lv_has ls 1 [(0, .int x)] := hl
  refine lv_iload_n hx hb dX3_isDigit_0 rfl (lv_at hl 0 rfl) ?_
  refine lv_bipush (v := 48) hx hb dX3_isDigit_1 (by decide) ?_
  refine lv_icmp_lt (tgt := 16) hx hb dX3_isDigit_3 (by decide) (fun c_1 => ?_) (fun c_1 => ?_)
  · skip
    refine lv_iconst (v := 0) hx hb dX3_isDigit_16 (by decide) ?_
    exact hd_zret hx hb hr hlocks hP hS ⟨(by first | rfl | (simp only [inI, bI, c_1, ↓reduceIte]; done) | (simp only [inI, bI, c_1, ↓reduceIte] <;> rfl) | (simp [inI, bI, c_1]; done)), rfl⟩ rfl dX3_isDigit_17
  · skip
    refine lv_iload_n hx hb dX3_isDigit_6 rfl (lv_at hl 0 rfl) ?_
    refine lv_bipush (v := 57) hx hb dX3_isDigit_7 (by decide) ?_
    refine lv_icmp_gt (tgt := 16) hx hb dX3_isDigit_9 (by decide) (fun c_2 => ?_) (fun c_2 => ?_)
    · skip
      refine lv_iconst (v := 0) hx hb dX3_isDigit_16 (by decide) ?_
      exact hd_zret hx hb hr hlocks hP hS ⟨(by first | rfl | (simp only [inI, bI, c_1, c_2, ↓reduceIte]; done) | (simp only [inI, bI, c_1, c_2, ↓reduceIte] <;> rfl) | (simp [inI, bI, c_1, c_2]; done)), rfl⟩ rfl dX3_isDigit_17
    · skip
      refine lv_iconst (v := 1) hx hb dX3_isDigit_12 (by decide) ?_
      refine lv_goto (tgt := 17) hx hb dX3_isDigit_13 (by decide) ?_
      exact hd_zret hx hb hr hlocks hP hS ⟨(by first | rfl | (simp only [inI, bI, c_1, c_2, ↓reduceIte]; done) | (simp only [inI, bI, c_1, c_2, ↓reduceIte] <;> rfl) | (simp [inI, bI, c_1, c_2]; done)), rfl⟩ rfl dX3_isDigit_17
set_option maxHeartbeats 4000000 in
set_option maxRecDepth 100000 in
theorem c_X3_passWord (l : Launch) (G : Geo) (u : Sg) (F T : Nat → Int32) (ln : Nat) (hl9 : ln ≤ 120) (h4 : u.1 4 = F) (h5 : u.1 5 = T) (hln : F 1 = nI ln) (a9 : Nat) (ha8 : F 4 = nI a9) (hal : a9 ≤ ln) : CtV l G yX3_passWord wsX3_passWord (rmO 1 20) [.ref (gad G 22)] u (fun v => v = sI u 4 (upd F 4 (nI (runE T ln 97 122 a9)))) := by
  refine CtV.of (cc := cX3_passWord) (maxL := 1) (ret := none) (own := RX3) (by decide) rfl rfl ?_
  rintro pg ev s0 mm below meth cd ⟨hx, hb, hr, hml, hown, hts, hlocks⟩ hE hP ls hl
  have hS : va_S (gA G) s0.heap s0.heap [] := va_S.rf
  have hl : lv_has ls 1 [(0, .ref (gad G 22))] := hl
  have hin3 : ∀ w ∈ wsX30, w ∈ wsX3_passWord := by decide +kernel
  have J0 : ∀ (fu : Nat) (e9 : Nat) (hel : e9 ≤ ln) (hf : runE T ln 97 122 a9 = runE T ln 97 122 e9) (hrk : ln - e9 < fu) (H : Heap) (locs : List Loc) (ls : Array Slot), WP G (sI u 4 (upd F 4 (nI e9))) H → va_S (gA G) s0.heap H locs → lv_has ls 1 [(0, .ref (gad G 22))] → W pg l ev (headSpec wsX3_passWord (rmO 1 20)).room s0 mm ([.ref (gad G 22)] : List Value).toArray below meth cd H locs 0 0 (MQ below (va_Qv (fun v => v = sI u 4 (upd F 4 (nI (runE T ln 97 122 a9)))) (fun v t => WP G v t.heap) (gA G)) ([.ref (gad G 22)] : List Value).toArray s0 0 0 (gA G)) (F0 mm 0 ls []) := by
    intro fu
    induction fu with
    | zero => intro e9 hel hf hrk; exact absurd hrk (Nat.not_lt_zero _)
    | succ fu ih0 =>
      intro e9 hel hf hrk H locs ls hP hS hl
      refine lv_aload_n hx hb dX3_passWord_0 rfl (lv_at hl 0 rfl) ?_
      refine tx_get hx hb hts hin3 hown hE hP (sI_at _ _ _) 4 (by decide) (hts (.fieldLink RX3 25 "HeldDoor$Text" "place" "I") (by decide +kernel)) (v := .int ((upd F 4 (nI e9)) 4)) rfl dX3_passWord_1 ?_
      refine lv_cast (y := nI e9) (by rw [up_at]) ?_
      refine lv_aload_n hx hb dX3_passWord_4 rfl (lv_at hl 0 rfl) ?_
      refine tx_get hx hb hts hin3 hown hE hP (sI_at _ _ _) 1 (by decide) (hts (.fieldLink RX3 15 "HeldDoor$Text" "length" "I") (by decide +kernel)) (v := .int ((upd F 4 (nI e9)) 1)) rfl dX3_passWord_5 ?_
      refine lv_cast (y := F 1) (by rw [up_ne _ _ (by omega)]) ?_
      refine lv_cast hln ?_
      refine nn_ge (a := e9) (b := ln) (by omega) (by omega) (tgt := 39) hx hb dX3_passWord_8 (by decide) (fun c_1 => ?_) (fun c_1 => ?_)
      · skip
        exact hd_vret hx hb hr hlocks hP hS (by rw [hf.trans (by first | exact runE_o (by omega) | exact runE_f (by rw [isB_in (by omega)]; assumption))]) dX3_passWord_39
      · skip
        refine lv_aload_n hx hb dX3_passWord_11 rfl (lv_at hl 0 rfl) ?_
        refine tx_get hx hb hts hin3 hown hE hP (sI_at _ _ _) 0 (by decide) (hts (.fieldLink RX3 9 "HeldDoor$Text" "tape" "[B") (by decide +kernel)) (v := .ref (gad G 23)) rfl dX3_passWord_12 ?_
        refine lv_aload_n hx hb dX3_passWord_15 rfl (lv_at hl 0 rfl) ?_
        refine tx_get hx hb hts hin3 hown hE hP (sI_at _ _ _) 4 (by decide) (hts (.fieldLink RX3 25 "HeldDoor$Text" "place" "I") (by decide +kernel)) (v := .int ((upd F 4 (nI e9)) 4)) rfl dX3_passWord_16 ?_
        refine lv_cast (y := nI e9) (by rw [up_at]) ?_
        refine tp_ld hx hb hE hP ((sI_ne _ _ (by decide)).trans h5) e9 (by omega) dX3_passWord_19 ?_
        refine hd_callSi (As := [.int (T e9)]) (rest := []) ⟨hx, hb, hml, hown, hts⟩ hE hP hS (c_X3_isLetter l G (sI u 4 (upd F 4 (nI e9))) (T e9)) rfl (va_cwS 1 hts gX3_passWord_X3_isLetter rfl rfl rfl (by decide +kernel) ⟨Nat.le_of_ble_eq_true rfl, Nat.le_of_ble_eq_true rfl⟩) rfl hl.1 rfl (Nat.le_of_ble_eq_true rfl) dX3_passWord_20 (fun rq_2 vq_2 H locs q_2 hP hS => ?_)
        have hP := hP.cast (q_2.2)
        refine lv_cast q_2.1 ?_
        refine bo_eq (tgt := 39) hx hb dX3_passWord_23 (by decide) (fun c_3 => ?_) (fun c_3 => ?_)
        · skip
          exact hd_vret hx hb hr hlocks hP hS (by rw [hf.trans (by first | exact runE_o (by omega) | exact runE_f (by rw [isB_in (by omega)]; assumption))]) dX3_passWord_39
        · skip
          refine lv_aload_n hx hb dX3_passWord_26 rfl (lv_at hl 0 rfl) ?_
          refine lv_dup hx hb dX3_passWord_27 rfl ?_
          refine tx_get hx hb hts hin3 hown hE hP (sI_at _ _ _) 4 (by decide) (hts (.fieldLink RX3 25 "HeldDoor$Text" "place" "I") (by decide +kernel)) (v := .int ((upd F 4 (nI e9)) 4)) rfl dX3_passWord_28 ?_
          refine lv_cast (y := nI e9) (by rw [up_at]) ?_
          refine lv_iconst (v := 1) hx hb dX3_passWord_31 (by decide) ?_
          refine nn_iadd (a := e9) (b := 1) hx hb dX3_passWord_32 ?_
          refine tx_put hx hb hts hin3 hown hE hP hS (sI_at _ _ _) 4 (by decide) (hts (.fieldLink RX3 25 "HeldDoor$Text" "place" "I") (by decide +kernel)) (sI_sI _ _ _ _) dX3_passWord_33 (fun H locs hP hS => ?_)
          have hP := hP.cast (show sI u 4 (upd (upd F 4 (nI e9)) 4 (nI (e9 + 1))) = sI u 4 (upd F 4 (nI (e9 + 1))) from congrArg (sI u 4) (up_up _ _ _ _))
          refine lv_goto (tgt := 0) hx hb dX3_passWord_36 (by decide) ?_
          exact ih0 (e9 + 1) (by omega) (hf.trans (runE_t (by rw [isB_in (by omega)]; exact c_3))) (by omega) _ _ _ hP hS (lv_sub hl [0] rfl)
  exact J0 _ a9 hal rfl (Nat.lt_succ_self _) _ _ _ (hP.cast (show u = sI u 4 (upd F 4 (nI a9)) by rw [up_same ha8, sI_id h4])) hS (lv_sub hl [0] rfl)
set_option maxHeartbeats 4000000 in
set_option maxRecDepth 100000 in
theorem c_X3_passNumber (l : Launch) (G : Geo) (u : Sg) (F T : Nat → Int32) (ln : Nat) (hl9 : ln ≤ 120) (h4 : u.1 4 = F) (h5 : u.1 5 = T) (hln : F 1 = nI ln) (a9 : Nat) (ha8 : F 4 = nI a9) (hal : a9 ≤ ln) : CtV l G yX3_passNumber wsX3_passNumber (rmO 1 20) [.ref (gad G 22)] u (fun v => v = sI u 4 (upd (upd F 5 (vlcE T ln a9 0)) 4 (nI (runE T ln 48 57 a9)))) := by
  refine CtV.of (cc := cX3_passNumber) (maxL := 1) (ret := none) (own := RX3) (by decide) rfl rfl ?_
  rintro pg ev s0 mm below meth cd ⟨hx, hb, hr, hml, hown, hts, hlocks⟩ hE hP ls hl
  have hS : va_S (gA G) s0.heap s0.heap [] := va_S.rf
  have hl : lv_has ls 1 [(0, .ref (gad G 22))] := hl
  have hin3 : ∀ w ∈ wsX30, w ∈ wsX3_passNumber := by decide +kernel
  refine lv_aload_n hx hb dX3_passNumber_0 rfl (lv_at hl 0 rfl) ?_
  refine lv_iconst (v := 0) hx hb dX3_passNumber_1 (by decide) ?_
  refine tx_put hx hb hts hin3 hown hE hP hS h4 5 (by decide) (hts (.fieldLink RX3 28 "HeldDoor$Text" "number" "I") (by decide +kernel)) rfl dX3_passNumber_2 (fun H locs hP hS => ?_)
  have J5 : ∀ (fu : Nat) (e9 : Nat) (v9 : Int32) (hel : e9 ≤ ln) (hf : runE T ln 48 57 a9 = runE T ln 48 57 e9) (hv : vlcE T ln a9 0 = vlcE T ln e9 v9) (hrk : ln - e9 < fu) (H : Heap) (locs : List Loc) (ls : Array Slot), WP G (sI u 4 (upd (upd F 5 v9) 4 (nI e9))) H → va_S (gA G) s0.heap H locs → lv_has ls 1 [(0, .ref (gad G 22))] → W pg l ev (headSpec wsX3_passNumber (rmO 1 20)).room s0 mm ([.ref (gad G 22)] : List Value).toArray below meth cd H locs 0 0 (MQ below (va_Qv (fun v => v = sI u 4 (upd (upd F 5 (vlcE T ln a9 0)) 4 (nI (runE T ln 48 57 a9)))) (fun v t => WP G v t.heap) (gA G)) ([.ref (gad G 22)] : List Value).toArray s0 0 0 (gA G)) (F0 mm 5 ls []) := by
    intro fu
    induction fu with
    | zero => intro e9 v9 hel hf hv hrk; exact absurd hrk (Nat.not_lt_zero _)
    | succ fu ih5 =>
      intro e9 v9 hel hf hv hrk H locs ls hP hS hl
      refine lv_aload_n hx hb dX3_passNumber_5 rfl (lv_at hl 0 rfl) ?_
      refine tx_get hx hb hts hin3 hown hE hP (sI_at _ _ _) 4 (by decide) (hts (.fieldLink RX3 25 "HeldDoor$Text" "place" "I") (by decide +kernel)) (v := .int ((upd (upd F 5 v9) 4 (nI e9)) 4)) rfl dX3_passNumber_6 ?_
      refine lv_cast (y := nI e9) (by rw [up_at]) ?_
      refine lv_aload_n hx hb dX3_passNumber_9 rfl (lv_at hl 0 rfl) ?_
      refine tx_get hx hb hts hin3 hown hE hP (sI_at _ _ _) 1 (by decide) (hts (.fieldLink RX3 15 "HeldDoor$Text" "length" "I") (by decide +kernel)) (v := .int ((upd (upd F 5 v9) 4 (nI e9)) 1)) rfl dX3_passNumber_10 ?_
      refine lv_cast (y := F 1) (by rw [up_ne _ _ (by omega), up_ne _ _ (by omega)]) ?_
      refine lv_cast hln ?_
      refine nn_ge (a := e9) (b := ln) (by omega) (by omega) (tgt := 74) hx hb dX3_passNumber_13 (by decide) (fun c_1 => ?_) (fun c_1 => ?_)
      · skip
        exact hd_vret hx hb hr hlocks hP hS (by rw [hf.trans (by first | exact runE_o (by omega) | exact runE_f (by rw [isB_in (by omega)]; assumption)), hv.trans (by first | exact vlcE_f (isB_o (by omega)) | exact vlcE_f (by rw [isB_in (by omega)]; assumption))]) dX3_passNumber_74
      · skip
        refine lv_aload_n hx hb dX3_passNumber_16 rfl (lv_at hl 0 rfl) ?_
        refine tx_get hx hb hts hin3 hown hE hP (sI_at _ _ _) 0 (by decide) (hts (.fieldLink RX3 9 "HeldDoor$Text" "tape" "[B") (by decide +kernel)) (v := .ref (gad G 23)) rfl dX3_passNumber_17 ?_
        refine lv_aload_n hx hb dX3_passNumber_20 rfl (lv_at hl 0 rfl) ?_
        refine tx_get hx hb hts hin3 hown hE hP (sI_at _ _ _) 4 (by decide) (hts (.fieldLink RX3 25 "HeldDoor$Text" "place" "I") (by decide +kernel)) (v := .int ((upd (upd F 5 v9) 4 (nI e9)) 4)) rfl dX3_passNumber_21 ?_
        refine lv_cast (y := nI e9) (by rw [up_at]) ?_
        refine tp_ld hx hb hE hP ((sI_ne _ _ (by decide)).trans h5) e9 (by omega) dX3_passNumber_24 ?_
        refine hd_callSi (As := [.int (T e9)]) (rest := []) ⟨hx, hb, hml, hown, hts⟩ hE hP hS (c_X3_isDigit l G (sI u 4 (upd (upd F 5 v9) 4 (nI e9))) (T e9)) rfl (va_cwS 1 hts gX3_passNumber_X3_isDigit rfl rfl rfl (by decide +kernel) ⟨Nat.le_of_ble_eq_true rfl, Nat.le_of_ble_eq_true rfl⟩) rfl hl.1 rfl (Nat.le_of_ble_eq_true rfl) dX3_passNumber_25 (fun rq_2 vq_2 H locs q_2 hP hS => ?_)
        have hP := hP.cast (q_2.2)
        refine lv_cast q_2.1 ?_
        refine bo_eq (tgt := 74) hx hb dX3_passNumber_28 (by decide) (fun c_3 => ?_) (fun c_3 => ?_)
        · skip
          exact hd_vret hx hb hr hlocks hP hS (by rw [hf.trans (by first | exact runE_o (by omega) | exact runE_f (by rw [isB_in (by omega)]; assumption)), hv.trans (by first | exact vlcE_f (isB_o (by omega)) | exact vlcE_f (by rw [isB_in (by omega)]; assumption))]) dX3_passNumber_74
        · skip
          refine lv_aload_n hx hb dX3_passNumber_31 rfl (lv_at hl 0 rfl) ?_
          refine lv_bipush (v := 10) hx hb dX3_passNumber_32 (by decide) ?_
          refine lv_aload_n hx hb dX3_passNumber_34 rfl (lv_at hl 0 rfl) ?_
          refine tx_get hx hb hts hin3 hown hE hP (sI_at _ _ _) 5 (by decide) (hts (.fieldLink RX3 28 "HeldDoor$Text" "number" "I") (by decide +kernel)) (v := .int ((upd (upd F 5 v9) 4 (nI e9)) 5)) rfl dX3_passNumber_35 ?_
          refine lv_cast (y := v9) (by rw [up_ne _ _ (by omega), up_at]) ?_
          refine lv_imul hx hb dX3_passNumber_38 ?_
          refine lv_aload_n hx hb dX3_passNumber_39 rfl (lv_at hl 0 rfl) ?_
          refine tx_get hx hb hts hin3 hown hE hP (sI_at _ _ _) 0 (by decide) (hts (.fieldLink RX3 9 "HeldDoor$Text" "tape" "[B") (by decide +kernel)) (v := .ref (gad G 23)) rfl dX3_passNumber_40 ?_
          refine lv_aload_n hx hb dX3_passNumber_43 rfl (lv_at hl 0 rfl) ?_
          refine tx_get hx hb hts hin3 hown hE hP (sI_at _ _ _) 4 (by decide) (hts (.fieldLink RX3 25 "HeldDoor$Text" "place" "I") (by decide +kernel)) (v := .int ((upd (upd F 5 v9) 4 (nI e9)) 4)) rfl dX3_passNumber_44 ?_
          refine lv_cast (y := nI e9) (by rw [up_at]) ?_
          refine tp_ld hx hb hE hP ((sI_ne _ _ (by decide)).trans h5) e9 (by omega) dX3_passNumber_47 ?_
          refine lv_iadd hx hb dX3_passNumber_48 ?_
          refine lv_bipush (v := 48) hx hb dX3_passNumber_49 (by decide) ?_
          refine lv_isub hx hb dX3_passNumber_51 ?_
          refine lv_sipush (v := 1000) hx hb dX3_passNumber_52 (by decide) ?_
          refine va_mmin hx hb (hml.trans hl.1.symm) hown (hts (.methodLink RX3 110 Lib.Math.min.name) (by decide +kernel)) (hts (.static Lib.Math.min.name) (by decide +kernel)) (hts (.initialized "java/lang/Math") (by decide +kernel)) (hts (.code Lib.Math.min.name Lib.Math.min.code 2 (some .int)) (by decide +kernel)) (Nat.le_of_ble_eq_true rfl) (Nat.le_of_ble_eq_true rfl) (Nat.zero_le _) (Nat.zero_le _) dX3_passNumber_55 ?_
          refine tx_put hx hb hts hin3 hown hE hP hS (sI_at _ _ _) 5 (by decide) (hts (.fieldLink RX3 28 "HeldDoor$Text" "number" "I") (by decide +kernel)) (sI_sI _ _ _ _) dX3_passNumber_58 (fun H locs hP hS => ?_)
          have hP := hP.cast (show sI u 4 (upd (upd (upd F 5 v9) 4 (nI e9)) 5 (if 1000 < ((10 * v9) + (T e9)) - 48 then 1000 else ((10 * v9) + (T e9)) - 48)) = sI u 4 (upd (upd F 5 (if 1000 < ((10 * v9) + (T e9)) - 48 then 1000 else ((10 * v9) + (T e9)) - 48)) 4 (nI e9)) from congrArg (sI u 4) (x45 _ _ _ _))
          refine lv_aload_n hx hb dX3_passNumber_61 rfl (lv_at hl 0 rfl) ?_
          refine lv_dup hx hb dX3_passNumber_62 rfl ?_
          refine tx_get hx hb hts hin3 hown hE hP (sI_at _ _ _) 4 (by decide) (hts (.fieldLink RX3 25 "HeldDoor$Text" "place" "I") (by decide +kernel)) (v := .int ((upd (upd F 5 (if 1000 < ((10 * v9) + (T e9)) - 48 then 1000 else ((10 * v9) + (T e9)) - 48)) 4 (nI e9)) 4)) rfl dX3_passNumber_63 ?_
          refine lv_cast (y := nI e9) (by rw [up_at]) ?_
          refine lv_iconst (v := 1) hx hb dX3_passNumber_66 (by decide) ?_
          refine nn_iadd (a := e9) (b := 1) hx hb dX3_passNumber_67 ?_
          refine tx_put hx hb hts hin3 hown hE hP hS (sI_at _ _ _) 4 (by decide) (hts (.fieldLink RX3 25 "HeldDoor$Text" "place" "I") (by decide +kernel)) (sI_sI _ _ _ _) dX3_passNumber_68 (fun H locs hP hS => ?_)
          have hP := hP.cast (show sI u 4 (upd (upd (upd F 5 (if 1000 < ((10 * v9) + (T e9)) - 48 then 1000 else ((10 * v9) + (T e9)) - 48)) 4 (nI e9)) 4 (nI (e9 + 1))) = sI u 4 (upd (upd F 5 (if 1000 < ((10 * v9) + (T e9)) - 48 then 1000 else ((10 * v9) + (T e9)) - 48)) 4 (nI (e9 + 1))) from congrArg (sI u 4) (up_up _ _ _ _))
          refine lv_goto (tgt := 5) hx hb dX3_passNumber_71 (by decide) ?_
          exact ih5 (e9 + 1) (if 1000 < ((10 * v9) + (T e9)) - 48 then 1000 else ((10 * v9) + (T e9)) - 48) (by omega) (hf.trans (runE_t (by rw [isB_in (by omega)]; exact c_3))) (hv.trans (vlcE_t (by rw [isB_in (by omega)]; exact c_3) rfl)) (by omega) _ _ _ hP hS (lv_sub hl [0] rfl)
  exact J5 _ a9 0 hal rfl rfl (Nat.lt_succ_self _) _ _ _ (hP.cast (show sI u 4 (upd F 5 0) = sI u 4 (upd (upd F 5 0) 4 (nI a9)) by rw [up_same (show upd F 5 0 4 = nI a9 by rw [up_ne _ _ (by decide)]; exact ha8)])) hS (lv_sub hl [0] rfl)
set_option maxHeartbeats 4000000 in
set_option maxRecDepth 100000 in
theorem c_X3_nextToken (l : Launch) (G : Geo) (u : Sg) (F T : Nat → Int32) (ln : Nat) (hl9 : ln ≤ 120) (h4 : u.1 4 = F) (h5 : u.1 5 = T) (hln : F 1 = nI ln) (a9 : Nat) (ha8 : F 4 = nI a9) (hal : a9 ≤ ln) : CtV l G yX3_nextToken wsX3_nextToken (rmO 2 40) [.ref (gad G 22)] u (fun v => v = sI u 4 (ntX F (lexC T ln a9 (F 5)))) := by
  refine CtV.of (cc := cX3_nextToken) (maxL := 1) (ret := none) (own := RX3) (by decide) rfl rfl ?_
  rintro pg ev s0 mm below meth cd ⟨hx, hb, hr, hml, hown, hts, hlocks⟩ hE hP ls hl
  have hS : va_S (gA G) s0.heap s0.heap [] := va_S.rf
  have hl : lv_has ls 1 [(0, .ref (gad G 22))] := hl
  have hin3 : ∀ w ∈ wsX30, w ∈ wsX3_nextToken := by decide +kernel
  have J38 : ∀ (k9 : Nat) (hk : k9 ≤ ln) (hk1 : runE T ln 32 32 a9 = k9)  (H : Heap) (locs : List Loc) (ls : Array Slot), WP G (sI u 4 (upd F 4 (nI k9))) H → va_S (gA G) s0.heap H locs → lv_has ls 1 [(0, .ref (gad G 22))] → W pg l ev (headSpec wsX3_nextToken (rmO 2 40)).room s0 mm ([.ref (gad G 22)] : List Value).toArray below meth cd H locs 0 0 (MQ below (va_Qv (fun v => v = sI u 4 (ntX F (lexC T ln a9 (F 5)))) (fun v t => WP G v t.heap) (gA G)) ([.ref (gad G 22)] : List Value).toArray s0 0 0 (gA G)) (F0 mm 38 ls []) := by
    intro k9 hk hk1 H locs ls hP hS hl
    refine lv_aload_n hx hb dX3_nextToken_38 rfl (lv_at hl 0 rfl) ?_
    refine lv_aload_n hx hb dX3_nextToken_39 rfl (lv_at hl 0 rfl) ?_
    refine tx_get hx hb hts hin3 hown hE hP (sI_at _ _ _) 4 (by decide) (hts (.fieldLink RX3 25 "HeldDoor$Text" "place" "I") (by decide +kernel)) (v := .int ((upd F 4 (nI k9)) 4)) rfl dX3_nextToken_40 ?_
    refine lv_cast (y := nI k9) (by rw [up_at]) ?_
    refine tx_put hx hb hts hin3 hown hE hP hS (sI_at _ _ _) 3 (by decide) (hts (.fieldLink RX3 22 "HeldDoor$Text" "start" "I") (by decide +kernel)) (sI_sI _ _ _ _) dX3_nextToken_43 (fun H locs hP hS => ?_)
    refine lv_aload_n hx hb dX3_nextToken_46 rfl (lv_at hl 0 rfl) ?_
    refine tx_get hx hb hts hin3 hown hE hP (sI_at _ _ _) 4 (by decide) (hts (.fieldLink RX3 25 "HeldDoor$Text" "place" "I") (by decide +kernel)) (v := .int ((upd (upd F 4 (nI k9)) 3 (nI k9)) 4)) rfl dX3_nextToken_47 ?_
    refine lv_cast (y := nI k9) (by rw [up_ne _ _ (by omega), up_at]) ?_
    refine lv_aload_n hx hb dX3_nextToken_50 rfl (lv_at hl 0 rfl) ?_
    refine tx_get hx hb hts hin3 hown hE hP (sI_at _ _ _) 1 (by decide) (hts (.fieldLink RX3 15 "HeldDoor$Text" "length" "I") (by decide +kernel)) (v := .int ((upd (upd F 4 (nI k9)) 3 (nI k9)) 1)) rfl dX3_nextToken_51 ?_
    refine lv_cast (y := F 1) (by rw [up_ne _ _ (by omega), up_ne _ _ (by omega)]) ?_
    refine lv_cast hln ?_
    refine nn_lt (a := k9) (b := ln) (by omega) (by omega) (tgt := 65) hx hb dX3_nextToken_54 (by decide) (fun c_1 => ?_) (fun c_1 => ?_)
    · skip
      refine lv_aload_n hx hb dX3_nextToken_65 rfl (lv_at hl 0 rfl) ?_
      refine tx_get hx hb hts hin3 hown hE hP (sI_at _ _ _) 0 (by decide) (hts (.fieldLink RX3 9 "HeldDoor$Text" "tape" "[B") (by decide +kernel)) (v := .ref (gad G 23)) rfl dX3_nextToken_66 ?_
      refine lv_aload_n hx hb dX3_nextToken_69 rfl (lv_at hl 0 rfl) ?_
      refine tx_get hx hb hts hin3 hown hE hP (sI_at _ _ _) 4 (by decide) (hts (.fieldLink RX3 25 "HeldDoor$Text" "place" "I") (by decide +kernel)) (v := .int ((upd (upd F 4 (nI k9)) 3 (nI k9)) 4)) rfl dX3_nextToken_70 ?_
      refine lv_cast (y := nI k9) (by rw [up_ne _ _ (by omega), up_at]) ?_
      refine tp_ld hx hb hE hP ((sI_ne _ _ (by decide)).trans h5) k9 (by omega) dX3_nextToken_73 ?_
      refine hd_callSi (As := [.int (T k9)]) (rest := []) ⟨hx, hb, hml, hown, hts⟩ hE hP hS (c_X3_isLetter l G (sI u 4 (upd (upd F 4 (nI k9)) 3 (nI k9))) (T k9)) rfl (va_cwS 1 hts gX3_nextToken_X3_isLetter rfl rfl rfl (by decide +kernel) ⟨Nat.le_of_ble_eq_true rfl, Nat.le_of_ble_eq_true rfl⟩) rfl hl.1 rfl (Nat.le_of_ble_eq_true rfl) dX3_nextToken_74 (fun rq_2 vq_2 H locs q_2 hP hS => ?_)
      have hP := hP.cast (q_2.2)
      refine lv_cast q_2.1 ?_
      refine bo_eq (tgt := 92) hx hb dX3_nextToken_77 (by decide) (fun c_3 => ?_) (fun c_3 => ?_)
      · skip
        refine lv_aload_n hx hb dX3_nextToken_92 rfl (lv_at hl 0 rfl) ?_
        refine tx_get hx hb hts hin3 hown hE hP (sI_at _ _ _) 0 (by decide) (hts (.fieldLink RX3 9 "HeldDoor$Text" "tape" "[B") (by decide +kernel)) (v := .ref (gad G 23)) rfl dX3_nextToken_93 ?_
        refine lv_aload_n hx hb dX3_nextToken_96 rfl (lv_at hl 0 rfl) ?_
        refine tx_get hx hb hts hin3 hown hE hP (sI_at _ _ _) 4 (by decide) (hts (.fieldLink RX3 25 "HeldDoor$Text" "place" "I") (by decide +kernel)) (v := .int ((upd (upd F 4 (nI k9)) 3 (nI k9)) 4)) rfl dX3_nextToken_97 ?_
        refine lv_cast (y := nI k9) (by rw [up_ne _ _ (by omega), up_at]) ?_
        refine tp_ld hx hb hE hP ((sI_ne _ _ (by decide)).trans h5) k9 (by omega) dX3_nextToken_100 ?_
        refine hd_callSi (As := [.int (T k9)]) (rest := []) ⟨hx, hb, hml, hown, hts⟩ hE hP hS (c_X3_isDigit l G (sI u 4 (upd (upd F 4 (nI k9)) 3 (nI k9))) (T k9)) rfl (va_cwS 1 hts gX3_nextToken_X3_isDigit rfl rfl rfl (by decide +kernel) ⟨Nat.le_of_ble_eq_true rfl, Nat.le_of_ble_eq_true rfl⟩) rfl hl.1 rfl (Nat.le_of_ble_eq_true rfl) dX3_nextToken_101 (fun rq_4 vq_4 H locs q_4 hP hS => ?_)
        have hP := hP.cast (q_4.2)
        refine lv_cast q_4.1 ?_
        refine bo_eq (tgt := 119) hx hb dX3_nextToken_104 (by decide) (fun c_5 => ?_) (fun c_5 => ?_)
        · skip
          refine lv_aload_n hx hb dX3_nextToken_119 rfl (lv_at hl 0 rfl) ?_
          refine tx_get hx hb hts hin3 hown hE hP (sI_at _ _ _) 0 (by decide) (hts (.fieldLink RX3 9 "HeldDoor$Text" "tape" "[B") (by decide +kernel)) (v := .ref (gad G 23)) rfl dX3_nextToken_120 ?_
          refine lv_aload_n hx hb dX3_nextToken_123 rfl (lv_at hl 0 rfl) ?_
          refine tx_get hx hb hts hin3 hown hE hP (sI_at _ _ _) 4 (by decide) (hts (.fieldLink RX3 25 "HeldDoor$Text" "place" "I") (by decide +kernel)) (v := .int ((upd (upd F 4 (nI k9)) 3 (nI k9)) 4)) rfl dX3_nextToken_124 ?_
          refine lv_cast (y := nI k9) (by rw [up_ne _ _ (by omega), up_at]) ?_
          refine tp_ld hx hb hE hP ((sI_ne _ _ (by decide)).trans h5) k9 (by omega) dX3_nextToken_127 ?_
          refine lv_bipush (v := 59) hx hb dX3_nextToken_128 (by decide) ?_
          refine lv_icmp_ne (tgt := 151) hx hb dX3_nextToken_130 (by decide) (fun c_6 => ?_) (fun c_6 => ?_)
          · skip
            refine lv_aload_n hx hb dX3_nextToken_151 rfl (lv_at hl 0 rfl) ?_
            refine lv_iconst (v := 4) hx hb dX3_nextToken_152 (by decide) ?_
            refine tx_put hx hb hts hin3 hown hE hP hS (sI_at _ _ _) 2 (by decide) (hts (.fieldLink RX3 19 "HeldDoor$Text" "token" "I") (by decide +kernel)) (sI_sI _ _ _ _) dX3_nextToken_153 (fun H locs hP hS => ?_)
            exact hd_vret hx hb hr hlocks hP hS (by rw [lxc_other hk1 (by omega) (by rw [isB_in (by omega)]; assumption) (by rw [isB_in (by omega)]; assumption) (isB_n c_6)]; exact congrArg (sI u 4) (nt_5 _ _ _ _).symm) dX3_nextToken_156
          · skip
            refine lv_aload_n hx hb dX3_nextToken_133 rfl (lv_at hl 0 rfl) ?_
            refine lv_iconst (v := 3) hx hb dX3_nextToken_134 (by decide) ?_
            refine tx_put hx hb hts hin3 hown hE hP hS (sI_at _ _ _) 2 (by decide) (hts (.fieldLink RX3 19 "HeldDoor$Text" "token" "I") (by decide +kernel)) (sI_sI _ _ _ _) dX3_nextToken_135 (fun H locs hP hS => ?_)
            refine lv_aload_n hx hb dX3_nextToken_138 rfl (lv_at hl 0 rfl) ?_
            refine lv_dup hx hb dX3_nextToken_139 rfl ?_
            refine tx_get hx hb hts hin3 hown hE hP (sI_at _ _ _) 4 (by decide) (hts (.fieldLink RX3 25 "HeldDoor$Text" "place" "I") (by decide +kernel)) (v := .int ((upd (upd (upd F 4 (nI k9)) 3 (nI k9)) 2 3) 4)) rfl dX3_nextToken_140 ?_
            refine lv_cast (y := nI k9) (by rw [up_ne _ _ (by omega), up_ne _ _ (by omega), up_at]) ?_
            refine lv_iconst (v := 1) hx hb dX3_nextToken_143 (by decide) ?_
            refine nn_iadd (a := k9) (b := 1) hx hb dX3_nextToken_144 ?_
            refine tx_put hx hb hts hin3 hown hE hP hS (sI_at _ _ _) 4 (by decide) (hts (.fieldLink RX3 25 "HeldDoor$Text" "place" "I") (by decide +kernel)) (sI_sI _ _ _ _) dX3_nextToken_145 (fun H locs hP hS => ?_)
            refine lv_goto (tgt := 156) hx hb dX3_nextToken_148 (by decide) ?_
            exact hd_vret hx hb hr hlocks hP hS (by rw [lxc_sign hk1 (by omega) (by rw [isB_in (by omega)]; assumption) (by rw [isB_in (by omega)]; assumption) (isB_e (by omega) (by first | exact c_6 | simpa using c_6))]; exact congrArg (sI u 4) ((nt_4 _ _ _ _ _).trans (nt_5 _ _ _ _).symm)) dX3_nextToken_156
        · skip
          refine lv_aload_n hx hb dX3_nextToken_107 rfl (lv_at hl 0 rfl) ?_
          refine lv_iconst (v := 2) hx hb dX3_nextToken_108 (by decide) ?_
          refine tx_put hx hb hts hin3 hown hE hP hS (sI_at _ _ _) 2 (by decide) (hts (.fieldLink RX3 19 "HeldDoor$Text" "token" "I") (by decide +kernel)) (sI_sI _ _ _ _) dX3_nextToken_109 (fun H locs hP hS => ?_)
          refine lv_aload_n hx hb dX3_nextToken_112 rfl (lv_at hl 0 rfl) ?_
          refine hd_callVv (As := []) (rest := []) ⟨hx, hb, hml, hown, hts⟩ hE hP hS (c_X3_passNumber l G (sI u 4 (upd (upd (upd F 4 (nI k9)) 3 (nI k9)) 2 2)) (upd (upd (upd F 4 (nI k9)) 3 (nI k9)) 2 2) T ln hl9 (sI_at _ _ _) ((sI_ne _ _ (by decide)).trans h5) (by rw [up_ne _ _ (by omega), up_ne _ _ (by omega), up_ne _ _ (by omega)]; exact hln) k9 (by rw [up_ne _ _ (by omega), up_ne _ _ (by omega), up_at]) hk) rfl (cwV 0 hts gX3_nextToken_X3_passNumber rfl rfl rfl (by decide +kernel) ⟨Nat.le_of_ble_eq_true rfl, Nat.le_of_ble_eq_true rfl⟩) (tx_recv hE hP) rfl hl.1 rfl (Nat.le_of_ble_eq_true rfl) dX3_nextToken_113 (fun vq_7 H locs q_7 hP hS => ?_)
          have q_7v := q_7
          have hP := hP.cast (q_7v.trans (sI_sI _ _ _ _))
          refine lv_goto (tgt := 156) hx hb dX3_nextToken_116 (by decide) ?_
          exact hd_vret hx hb hr hlocks hP hS (by rw [lxc_num hk1 (by omega) (by rw [isB_in (by omega)]; assumption) (by rw [isB_in (by omega)]; assumption) rfl rfl]; exact congrArg (sI u 4) (nt_54 _ _ _ _ _ _)) dX3_nextToken_156
      · skip
        refine lv_aload_n hx hb dX3_nextToken_80 rfl (lv_at hl 0 rfl) ?_
        refine lv_iconst (v := 1) hx hb dX3_nextToken_81 (by decide) ?_
        refine tx_put hx hb hts hin3 hown hE hP hS (sI_at _ _ _) 2 (by decide) (hts (.fieldLink RX3 19 "HeldDoor$Text" "token" "I") (by decide +kernel)) (sI_sI _ _ _ _) dX3_nextToken_82 (fun H locs hP hS => ?_)
        refine lv_aload_n hx hb dX3_nextToken_85 rfl (lv_at hl 0 rfl) ?_
        refine hd_callVv (As := []) (rest := []) ⟨hx, hb, hml, hown, hts⟩ hE hP hS (c_X3_passWord l G (sI u 4 (upd (upd (upd F 4 (nI k9)) 3 (nI k9)) 2 1)) (upd (upd (upd F 4 (nI k9)) 3 (nI k9)) 2 1) T ln hl9 (sI_at _ _ _) ((sI_ne _ _ (by decide)).trans h5) (by rw [up_ne _ _ (by omega), up_ne _ _ (by omega), up_ne _ _ (by omega)]; exact hln) k9 (by rw [up_ne _ _ (by omega), up_ne _ _ (by omega), up_at]) hk) rfl (cwV 0 hts gX3_nextToken_X3_passWord rfl rfl rfl (by decide +kernel) ⟨Nat.le_of_ble_eq_true rfl, Nat.le_of_ble_eq_true rfl⟩) (tx_recv hE hP) rfl hl.1 rfl (Nat.le_of_ble_eq_true rfl) dX3_nextToken_86 (fun vq_8 H locs q_8 hP hS => ?_)
        have q_8v := q_8
        have hP := hP.cast (q_8v.trans (sI_sI _ _ _ _))
        refine lv_goto (tgt := 156) hx hb dX3_nextToken_89 (by decide) ?_
        exact hd_vret hx hb hr hlocks hP hS (by rw [lxc_word hk1 (by omega) (by rw [isB_in (by omega)]; assumption) rfl]; exact congrArg (sI u 4) ((nt_4 _ _ _ _ _).trans (nt_5 _ _ _ _).symm)) dX3_nextToken_156
    · skip
      refine lv_aload_n hx hb dX3_nextToken_57 rfl (lv_at hl 0 rfl) ?_
      refine lv_iconst (v := 0) hx hb dX3_nextToken_58 (by decide) ?_
      refine tx_put hx hb hts hin3 hown hE hP hS (sI_at _ _ _) 2 (by decide) (hts (.fieldLink RX3 19 "HeldDoor$Text" "token" "I") (by decide +kernel)) (sI_sI _ _ _ _) dX3_nextToken_59 (fun H locs hP hS => ?_)
      refine lv_goto (tgt := 156) hx hb dX3_nextToken_62 (by decide) ?_
      exact hd_vret hx hb hr hlocks hP hS (by rw [lxc_over hk1 (by omega)]; exact congrArg (sI u 4) (nt_5 _ _ _ _).symm) dX3_nextToken_156
  have J0 : ∀ (fu : Nat) (k9 : Nat) (hk : k9 ≤ ln) (he : runE T ln 32 32 a9 = runE T ln 32 32 k9) (hrk : ln - k9 < fu) (H : Heap) (locs : List Loc) (ls : Array Slot), WP G (sI u 4 (upd F 4 (nI k9))) H → va_S (gA G) s0.heap H locs → lv_has ls 1 [(0, .ref (gad G 22))] → W pg l ev (headSpec wsX3_nextToken (rmO 2 40)).room s0 mm ([.ref (gad G 22)] : List Value).toArray below meth cd H locs 0 0 (MQ below (va_Qv (fun v => v = sI u 4 (ntX F (lexC T ln a9 (F 5)))) (fun v t => WP G v t.heap) (gA G)) ([.ref (gad G 22)] : List Value).toArray s0 0 0 (gA G)) (F0 mm 0 ls []) := by
    intro fu
    induction fu with
    | zero => intro k9 hk he hrk; exact absurd hrk (Nat.not_lt_zero _)
    | succ fu ih0 =>
      intro k9 hk he hrk H locs ls hP hS hl
      refine lv_aload_n hx hb dX3_nextToken_0 rfl (lv_at hl 0 rfl) ?_
      refine tx_get hx hb hts hin3 hown hE hP (sI_at _ _ _) 4 (by decide) (hts (.fieldLink RX3 25 "HeldDoor$Text" "place" "I") (by decide +kernel)) (v := .int ((upd F 4 (nI k9)) 4)) rfl dX3_nextToken_1 ?_
      refine lv_cast (y := nI k9) (by rw [up_at]) ?_
      refine lv_aload_n hx hb dX3_nextToken_4 rfl (lv_at hl 0 rfl) ?_
      refine tx_get hx hb hts hin3 hown hE hP (sI_at _ _ _) 1 (by decide) (hts (.fieldLink RX3 15 "HeldDoor$Text" "length" "I") (by decide +kernel)) (v := .int ((upd F 4 (nI k9)) 1)) rfl dX3_nextToken_5 ?_
      refine lv_cast (y := F 1) (by rw [up_ne _ _ (by omega)]) ?_
      refine lv_cast hln ?_
      refine nn_ge (a := k9) (b := ln) (by omega) (by omega) (tgt := 38) hx hb dX3_nextToken_8 (by decide) (fun c_9 => ?_) (fun c_9 => ?_)
      · skip
        exact J38 k9 hk (he.trans (by first | exact runE_o (by omega) | exact runE_f (isB_n c_9)))  _ _ _ hP hS (lv_sub hl [0] rfl)
      · skip
        refine lv_aload_n hx hb dX3_nextToken_11 rfl (lv_at hl 0 rfl) ?_
        refine tx_get hx hb hts hin3 hown hE hP (sI_at _ _ _) 0 (by decide) (hts (.fieldLink RX3 9 "HeldDoor$Text" "tape" "[B") (by decide +kernel)) (v := .ref (gad G 23)) rfl dX3_nextToken_12 ?_
        refine lv_aload_n hx hb dX3_nextToken_15 rfl (lv_at hl 0 rfl) ?_
        refine tx_get hx hb hts hin3 hown hE hP (sI_at _ _ _) 4 (by decide) (hts (.fieldLink RX3 25 "HeldDoor$Text" "place" "I") (by decide +kernel)) (v := .int ((upd F 4 (nI k9)) 4)) rfl dX3_nextToken_16 ?_
        refine lv_cast (y := nI k9) (by rw [up_at]) ?_
        refine tp_ld hx hb hE hP ((sI_ne _ _ (by decide)).trans h5) k9 (by omega) dX3_nextToken_19 ?_
        refine lv_bipush (v := 32) hx hb dX3_nextToken_20 (by decide) ?_
        refine lv_icmp_ne (tgt := 38) hx hb dX3_nextToken_22 (by decide) (fun c_10 => ?_) (fun c_10 => ?_)
        · skip
          exact J38 k9 hk (he.trans (by first | exact runE_o (by omega) | exact runE_f (isB_n c_10)))  _ _ _ hP hS (lv_sub hl [0] rfl)
        · skip
          refine lv_aload_n hx hb dX3_nextToken_25 rfl (lv_at hl 0 rfl) ?_
          refine lv_dup hx hb dX3_nextToken_26 rfl ?_
          refine tx_get hx hb hts hin3 hown hE hP (sI_at _ _ _) 4 (by decide) (hts (.fieldLink RX3 25 "HeldDoor$Text" "place" "I") (by decide +kernel)) (v := .int ((upd F 4 (nI k9)) 4)) rfl dX3_nextToken_27 ?_
          refine lv_cast (y := nI k9) (by rw [up_at]) ?_
          refine lv_iconst (v := 1) hx hb dX3_nextToken_30 (by decide) ?_
          refine nn_iadd (a := k9) (b := 1) hx hb dX3_nextToken_31 ?_
          refine tx_put hx hb hts hin3 hown hE hP hS (sI_at _ _ _) 4 (by decide) (hts (.fieldLink RX3 25 "HeldDoor$Text" "place" "I") (by decide +kernel)) (sI_sI _ _ _ _) dX3_nextToken_32 (fun H locs hP hS => ?_)
          have hP := hP.cast (show sI u 4 (upd (upd F 4 (nI k9)) 4 (nI (k9 + 1))) = sI u 4 (upd F 4 (nI (k9 + 1))) from congrArg (sI u 4) (up_up _ _ _ _))
          refine lv_goto (tgt := 0) hx hb dX3_nextToken_35 (by decide) ?_
          exact ih0 (k9 + 1) (by omega) (he.trans (runE_t (isB_e (by omega) (by first | exact c_10 | simpa using c_10)))) (by omega) _ _ _ hP hS (lv_sub hl [0] rfl)
  exact J0 _ a9 hal rfl (Nat.lt_succ_self _) _ _ _ (hP.cast (show u = sI u 4 (upd F 4 (nI a9)) by rw [up_same ha8, sI_id h4])) hS (lv_sub hl [0] rfl)
theorem c_X3_nextToken2 (l : Launch) (G : Geo) (u : Sg) (F T : Nat → Int32) (ln : Nat) (hl9 : ln ≤ 120) (h4 : u.1 4 = F) (h5 : u.1 5 = T) (hA : TA ln F) : CtV l G yX3_nextToken wsX3_nextToken (rmO 2 40) [.ref (gad G 22)] u (fun v => v = sI u 4 (ntF T ln F)) := by
  obtain ⟨h1, a9, ha, hq⟩ := hA
  unfold ntF
  rw [hq, nI_clamp (by omega)]
  exact c_X3_nextToken l G u F T ln hl9 h4 h5 h1 a9 hq ha
