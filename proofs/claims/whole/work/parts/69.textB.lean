set_option maxHeartbeats 4000000 in
set_option maxRecDepth 100000 in
theorem c_X3_isWord (l : Launch) (G : Geo) (u : Sg) (F T : Nat → Int32) (ln : Nat) (hl9 : ln ≤ 120) (h4 : u.1 4 = F) (h5 : u.1 5 = T) (hF : TF ln F) (w9 : Nat) (hi : w9 < 10) : CtI l G yX3_isWord wsX3_isWord (rmO 4 85) [.ref (gad G 22), .ref (gK G w9)] u (fun r v => r = bI (isW T F w9) ∧ v = u) := by
  refine CtI.of (cc := cX3_isWord) (maxL := 4) (ret := (some .boolean)) (own := RX3) (by decide) rfl rfl ?_
  rintro pg ev s0 mm below meth cd ⟨hx, hb, hr, hml, hown, hts, hlocks⟩ hE hP ls hl
  have hS : va_S (gA G) s0.heap s0.heap [] := va_S.rf
  have hl : lv_has ls 4 [(0, .ref (gad G 22)), (1, .ref (gK G w9))] := hl
  have hin3 : ∀ w ∈ wsX30, w ∈ wsX3_isWord := by decide +kernel
  obtain ⟨hln, s9, e9, hse, hel, h3f, h4f⟩ := hF
  have hsl := sLen_le hi
  refine lv_aload_n hx hb dX3_isWord_0 rfl (lv_at hl 1 rfl) ?_
  refine hd_callVi (As := []) (rest := []) ⟨hx, hb, hml, hown, hts⟩ hE hP hS (c_J0_length_8abf5 l G u w9 hi) rfl (cwV 0 hts gX3_isWord_J0_length_8abf5 rfl rfl rfl (by decide +kernel) ⟨Nat.le_of_ble_eq_true rfl, Nat.le_of_ble_eq_true rfl⟩) (st_recv hE hS hi) rfl hl.1 rfl (Nat.le_of_ble_eq_true rfl) dX3_isWord_1 (fun rq_1 vq_1 H locs q_1 hP hS => ?_)
  have hP := hP.cast (q_1.2)
  refine lv_cast q_1.1 ?_
  refine lv_istore_n (lv' := [(2, .int (nI (sLen.getD w9 0))), (0, .ref (gad G 22)), (1, .ref (gK G w9))]) hx hb dX3_isWord_4 rfl hl (by decide) rfl (fun ls hl => ?_)
  refine lv_aload_n hx hb dX3_isWord_5 rfl (lv_at hl 1 rfl) ?_
  refine tx_get hx hb hts hin3 hown hE hP h4 2 (by decide) (hts (.fieldLink RX3 19 "HeldDoor$Text" "token" "I") (by decide +kernel)) (v := .int (F 2)) rfl dX3_isWord_6 ?_
  refine lv_iconst (v := 1) hx hb dX3_isWord_9 (by decide) ?_
  refine lv_icmp_ne (tgt := 26) hx hb dX3_isWord_10 (by decide) (fun c_2 => ?_) (fun c_2 => ?_)
  · skip
    refine lv_iconst (v := 0) hx hb dX3_isWord_26 (by decide) ?_
    exact hd_zret hx hb hr hlocks hP hS ⟨(by rw [isW_1 c_2]; rfl), rfl⟩ rfl dX3_isWord_27
  · skip
    refine lv_aload_n hx hb dX3_isWord_13 rfl (lv_at hl 1 rfl) ?_
    refine tx_get hx hb hts hin3 hown hE hP h4 4 (by decide) (hts (.fieldLink RX3 25 "HeldDoor$Text" "place" "I") (by decide +kernel)) (v := .int (F 4)) rfl dX3_isWord_14 ?_
    refine lv_cast h4f ?_
    refine lv_aload_n hx hb dX3_isWord_17 rfl (lv_at hl 1 rfl) ?_
    refine tx_get hx hb hts hin3 hown hE hP h4 3 (by decide) (hts (.fieldLink RX3 22 "HeldDoor$Text" "start" "I") (by decide +kernel)) (v := .int (F 3)) rfl dX3_isWord_18 ?_
    refine lv_cast h3f ?_
    refine lv_isub hx hb dX3_isWord_21 ?_
    refine lv_cast (pk_sub hse) ?_
    refine lv_iload_n hx hb dX3_isWord_22 rfl (lv_at hl 0 rfl) ?_
    refine nn_eq (a := e9 - s9) (b := sLen.getD w9 0) (by omega) (by omega) (tgt := 28) hx hb dX3_isWord_23 (by decide) (fun c_3 => ?_) (fun c_3 => ?_)
    · skip
      refine lv_iconst (v := 0) hx hb dX3_isWord_28 (by decide) ?_
      refine lv_istore_n (lv' := [(3, .int 0), (2, .int (nI (sLen.getD w9 0))), (0, .ref (gad G 22)), (1, .ref (gK G w9))]) hx hb dX3_isWord_29 rfl hl (by decide) rfl (fun ls hl => ?_)
      have J30 : ∀ (fu : Nat) (k9 : Nat) (hk : k9 ≤ sLen.getD w9 0) (he : eqN T s9 w9 k9 = true) (hrk : sLen.getD w9 0 - k9 < fu) (H : Heap) (locs : List Loc) (ls : Array Slot), WP G u H → va_S (gA G) s0.heap H locs → lv_has ls 4 [(0, .ref (gad G 22)), (1, .ref (gK G w9)), (2, .int (nI (sLen.getD w9 0))), (3, .int (nI k9))] → W pg l ev (headSpec wsX3_isWord (rmO 4 85)).room s0 mm ([.ref (gad G 22), .ref (gK G w9)] : List Value).toArray below meth cd H locs 0 0 (MQ below (va_Qi (fun r v => r = bI (isW T F w9) ∧ v = u) (fun v t => WP G v t.heap) (gA G)) ([.ref (gad G 22), .ref (gK G w9)] : List Value).toArray s0 0 0 (gA G)) (F0 mm 30 ls []) := by
        intro fu
        induction fu with
        | zero => intro k9 hk he hrk; exact absurd hrk (Nat.not_lt_zero _)
        | succ fu ih30 =>
          intro k9 hk he hrk H locs ls hP hS hl
          refine lv_iload_n hx hb dX3_isWord_30 rfl (lv_at hl 3 rfl) ?_
          refine lv_iload_n hx hb dX3_isWord_31 rfl (lv_at hl 2 rfl) ?_
          refine nn_ge (a := k9) (b := sLen.getD w9 0) (by omega) (by omega) (tgt := 62) hx hb dX3_isWord_32 (by decide) (fun c_4 => ?_) (fun c_4 => ?_)
          · skip
            refine lv_iconst (v := 1) hx hb dX3_isWord_62 (by decide) ?_
            exact hd_zret hx hb hr hlocks hP hS ⟨(by rw [isW_3 (by first | exact c_2 | simpa using c_2) h3f h4f hse (by omega) c_3, show sLen.getD w9 0 = k9 by omega, he]; rfl), rfl⟩ rfl dX3_isWord_63
          · skip
            refine lv_aload_n hx hb dX3_isWord_35 rfl (lv_at hl 0 rfl) ?_
            refine tx_get hx hb hts hin3 hown hE hP h4 0 (by decide) (hts (.fieldLink RX3 9 "HeldDoor$Text" "tape" "[B") (by decide +kernel)) (v := .ref (gad G 23)) rfl dX3_isWord_36 ?_
            refine lv_aload_n hx hb dX3_isWord_39 rfl (lv_at hl 0 rfl) ?_
            refine tx_get hx hb hts hin3 hown hE hP h4 3 (by decide) (hts (.fieldLink RX3 22 "HeldDoor$Text" "start" "I") (by decide +kernel)) (v := .int (F 3)) rfl dX3_isWord_40 ?_
            refine lv_cast h3f ?_
            refine lv_iload_n hx hb dX3_isWord_43 rfl (lv_at hl 3 rfl) ?_
            refine nn_iadd (a := s9) (b := k9) hx hb dX3_isWord_44 ?_
            refine tp_ld hx hb hE hP h5 (s9 + k9) (by omega) dX3_isWord_45 ?_
            refine lv_aload_n hx hb dX3_isWord_46 rfl (lv_at hl 1 rfl) ?_
            refine lv_iload_n hx hb dX3_isWord_47 rfl (lv_at hl 3 rfl) ?_
            refine hd_callVi (As := [.int (nI k9)]) (rest := [.int (T (s9 + k9))]) ⟨hx, hb, hml, hown, hts⟩ hE hP hS (c_J0_charAt_5068e l G u w9 hi k9 (by omega)) rfl (cwV 1 hts gX3_isWord_J0_charAt_5068e rfl rfl rfl (by decide +kernel) ⟨Nat.le_of_ble_eq_true rfl, Nat.le_of_ble_eq_true rfl⟩) (st_recv hE hS hi) rfl hl.1 rfl (Nat.le_of_ble_eq_true rfl) dX3_isWord_48 (fun rq_5 vq_5 H locs q_5 hP hS => ?_)
            have hP := hP.cast (q_5.2)
            refine lv_cast q_5.1 ?_
            refine lv_icmp_eq (tgt := 56) hx hb dX3_isWord_51 (by decide) (fun c_6 => ?_) (fun c_6 => ?_)
            · skip
              refine lv_iinc (v := nI (k9 + 1)) (lv' := [(3, .int (nI (k9 + 1))), (0, .ref (gad G 22)), (1, .ref (gK G w9)), (2, .int (nI (sLen.getD w9 0)))]) hx hb dX3_isWord_56 hl (k := 3) rfl (inc1 _) (by decide) rfl (fun ls hl => ?_)
              refine lv_goto (tgt := 30) hx hb dX3_isWord_59 (by decide) ?_
              exact ih30 (k9 + 1) (by omega) (eqN_s (by omega) he c_6) (by omega) _ _ _ hP hS (lv_sub hl [1, 2, 3, 0] rfl)
            · skip
              refine lv_iconst (v := 0) hx hb dX3_isWord_54 (by decide) ?_
              exact hd_zret hx hb hr hlocks hP hS ⟨(by rw [isW_3 (by first | exact c_2 | simpa using c_2) h3f h4f hse (by omega) c_3, eqN_x (k := k9) (by omega) (by omega) c_6]; rfl), rfl⟩ rfl dX3_isWord_55
      exact J30 _ 0 (Nat.zero_le _) rfl (Nat.lt_succ_self _) _ _ _ hP hS (lv_sub hl [2, 3, 1, 0] rfl)
    · skip
      refine lv_iconst (v := 0) hx hb dX3_isWord_26 (by decide) ?_
      exact hd_zret hx hb hr hlocks hP hS ⟨(by rw [isW_2 h3f h4f hse (by omega) hi c_3]; rfl), rfl⟩ rfl dX3_isWord_27
set_option maxHeartbeats 4000000 in
set_option maxRecDepth 100000 in
theorem c_X3_isNumberNext (l : Launch) (G : Geo) (u : Sg) (F T : Nat → Int32) (ln : Nat) (hl9 : ln ≤ 120) (h4 : u.1 4 = F) (h5 : u.1 5 = T) (hA : TA ln F) (b : Int32) : CtI l G yX3_isNumberNext wsX3_isNumberNext (rmO 3 60) [.ref (gad G 22), .int b] u (fun r v => r = bI (nnB (ntF T ln F) b) ∧ v = sI u 4 (ntF T ln F)) := by
  refine CtI.of (cc := cX3_isNumberNext) (maxL := 2) (ret := (some .boolean)) (own := RX3) (by decide) rfl rfl ?_
  rintro pg ev s0 mm below meth cd ⟨hx, hb, hr, hml, hown, hts, hlocks⟩ hE hP ls hl
  have hS : va_S (gA G) s0.heap s0.heap [] := va_S.rf
  have hl : lv_has ls 2 [(0, .ref (gad G 22)), (1, .int b)] := hl
  have hin3 : ∀ w ∈ wsX30, w ∈ wsX3_isNumberNext := by decide +kernel
  refine lv_aload_n hx hb dX3_isNumberNext_0 rfl (lv_at hl 0 rfl) ?_
  refine hd_callVv (As := []) (rest := []) ⟨hx, hb, hml, hown, hts⟩ hE hP hS (c_X3_nextToken2 l G u F T ln hl9 h4 h5 hA) rfl (cwV 0 hts gX3_isNumberNext_X3_nextToken rfl rfl rfl (by decide +kernel) ⟨Nat.le_of_ble_eq_true rfl, Nat.le_of_ble_eq_true rfl⟩) (tx_recv hE hP) rfl hl.1 rfl (Nat.le_of_ble_eq_true rfl) dX3_isNumberNext_1 (fun vq_1 H locs q_1 hP hS => ?_)
  have hP := hP.cast (q_1)
  refine lv_aload_n hx hb dX3_isNumberNext_4 rfl (lv_at hl 0 rfl) ?_
  refine tx_get hx hb hts hin3 hown hE hP (sI_at _ _ _) 2 (by decide) (hts (.fieldLink RX3 19 "HeldDoor$Text" "token" "I") (by decide +kernel)) (v := .int ((ntF T ln F) 2)) rfl dX3_isNumberNext_5 ?_
  refine lv_iconst (v := 2) hx hb dX3_isNumberNext_8 (by decide) ?_
  refine lv_icmp_ne (tgt := 24) hx hb dX3_isNumberNext_9 (by decide) (fun c_2 => ?_) (fun c_2 => ?_)
  · skip
    refine lv_iconst (v := 0) hx hb dX3_isNumberNext_24 (by decide) ?_
    exact hd_zret hx hb hr hlocks hP hS ⟨(by simp [nnB, bI, c_2]), rfl⟩ rfl dX3_isNumberNext_25
  · skip
    refine lv_aload_n hx hb dX3_isNumberNext_12 rfl (lv_at hl 0 rfl) ?_
    refine tx_get hx hb hts hin3 hown hE hP (sI_at _ _ _) 5 (by decide) (hts (.fieldLink RX3 28 "HeldDoor$Text" "number" "I") (by decide +kernel)) (v := .int ((ntF T ln F) 5)) rfl dX3_isNumberNext_13 ?_
    refine lv_iload_n hx hb dX3_isNumberNext_16 rfl (lv_at hl 1 rfl) ?_
    refine lv_icmp_gt (tgt := 24) hx hb dX3_isNumberNext_17 (by decide) (fun c_3 => ?_) (fun c_3 => ?_)
    · skip
      refine lv_iconst (v := 0) hx hb dX3_isNumberNext_24 (by decide) ?_
      exact hd_zret hx hb hr hlocks hP hS ⟨(by simp [nnB, bI, c_2, c_3]), rfl⟩ rfl dX3_isNumberNext_25
    · skip
      refine lv_iconst (v := 1) hx hb dX3_isNumberNext_20 (by decide) ?_
      refine lv_goto (tgt := 25) hx hb dX3_isNumberNext_21 (by decide) ?_
      exact hd_zret hx hb hr hlocks hP hS ⟨(by simp [nnB, bI, c_2, c_3]), rfl⟩ rfl dX3_isNumberNext_25
set_option maxHeartbeats 4000000 in
set_option maxRecDepth 100000 in
theorem c_X3_kindNamed (l : Launch) (G : Geo) (u : Sg) (F T : Nat → Int32) (ln : Nat) (hl9 : ln ≤ 120) (h4 : u.1 4 = F) (h5 : u.1 5 = T) (hF : TF ln F) : CtI l G yX3_kindNamed wsX3_kindNamed (rmO 5 108) [.ref (gad G 22)] u (fun r v => r = knV T F ∧ v = u) := by
  refine CtI.of (cc := cX3_kindNamed) (maxL := 2) (ret := (some .int)) (own := RX3) (by decide) rfl rfl ?_
  rintro pg ev s0 mm below meth cd ⟨hx, hb, hr, hml, hown, hts, hlocks⟩ hE hP ls hl
  have hS : va_S (gA G) s0.heap s0.heap [] := va_S.rf
  have hl : lv_has ls 2 [(0, .ref (gad G 22))] := hl
  refine lv_iconst (v := 0) hx hb dX3_kindNamed_0 (by decide) ?_
  refine lv_istore_n (lv' := [(1, .int 0), (0, .ref (gad G 22))]) hx hb dX3_kindNamed_1 rfl hl (by decide) rfl (fun ls hl => ?_)
  have J2 : ∀ (fu : Nat) (k9 : Nat) (hk : k9 ≤ 6) (he : knV T F = knG T F (6 - k9) k9) (hrk : 6 - k9 < fu) (H : Heap) (locs : List Loc) (ls : Array Slot), WP G u H → va_S (gA G) s0.heap H locs → lv_has ls 2 [(0, .ref (gad G 22)), (1, .int (nI k9))] → W pg l ev (headSpec wsX3_kindNamed (rmO 5 108)).room s0 mm ([.ref (gad G 22)] : List Value).toArray below meth cd H locs 0 0 (MQ below (va_Qi (fun r v => r = knV T F ∧ v = u) (fun v t => WP G v t.heap) (gA G)) ([.ref (gad G 22)] : List Value).toArray s0 0 0 (gA G)) (F0 mm 2 ls []) := by
    intro fu
    induction fu with
    | zero => intro k9 hk he hrk; exact absurd hrk (Nat.not_lt_zero _)
    | succ fu ih2 =>
      intro k9 hk he hrk H locs ls hP hS hl
      refine lv_iload_n hx hb dX3_kindNamed_2 rfl (lv_at hl 1 rfl) ?_
      refine lv_bipush (v := 6) hx hb dX3_kindNamed_3 (by decide) ?_
      refine nn_ge (a := k9) (b := 6) (by omega) (by omega) (tgt := 27) hx hb dX3_kindNamed_5 (by decide) (fun c_1 => ?_) (fun c_1 => ?_)
      · skip
        refine lv_iconst (v := (-1)) hx hb dX3_kindNamed_27 (by decide) ?_
        exact hd_iret hx hb hr hlocks hP hS ⟨(he.trans (knG_0 (by omega))).symm, rfl⟩ dX3_kindNamed_28
      · skip
        refine lv_aload_n hx hb dX3_kindNamed_8 rfl (lv_at hl 0 rfl) ?_
        refine lv_iload_n hx hb dX3_kindNamed_9 rfl (lv_at hl 1 rfl) ?_
        refine hd_callSr (As := [.int (nI k9)]) (rest := [.ref (gad G 22)]) ⟨hx, hb, hml, hown, hts⟩ hE hP hS (c_X0_nameOf l G u k9 (by omega)) rfl (va_cwS 1 hts gX3_kindNamed_X0_nameOf rfl rfl rfl (by decide +kernel) ⟨Nat.le_of_ble_eq_true rfl, Nat.le_of_ble_eq_true rfl⟩) rfl hl.1 rfl (Nat.le_of_ble_eq_true rfl) dX3_kindNamed_10 (fun H locs hP hS => ?_)
        refine hd_callVi (As := [.ref (gK G k9)]) (rest := []) ⟨hx, hb, hml, hown, hts⟩ hE hP hS (c_X3_isWord l G u F T ln hl9 h4 h5 hF k9 (by omega)) rfl (cwV 1 hts gX3_kindNamed_X3_isWord rfl rfl rfl (by decide +kernel) ⟨Nat.le_of_ble_eq_true rfl, Nat.le_of_ble_eq_true rfl⟩) (tx_recv hE hP) rfl hl.1 rfl (Nat.le_of_ble_eq_true rfl) dX3_kindNamed_13 (fun rq_3 vq_3 H locs q_3 hP hS => ?_)
        have hP := hP.cast (q_3.2)
        refine lv_cast q_3.1 ?_
        refine bo_eq (tgt := 21) hx hb dX3_kindNamed_16 (by decide) (fun c_4 => ?_) (fun c_4 => ?_)
        · skip
          refine lv_iinc (v := nI (k9 + 1)) (lv' := [(1, .int (nI (k9 + 1))), (0, .ref (gad G 22))]) hx hb dX3_kindNamed_21 hl (k := 1) rfl (inc1 _) (by decide) rfl (fun ls hl => ?_)
          refine lv_goto (tgt := 2) hx hb dX3_kindNamed_24 (by decide) ?_
          exact ih2 (k9 + 1) (by omega) (he.trans (knG_f (by omega) c_4)) (by omega) _ _ _ hP hS (lv_sub hl [1, 0] rfl)
        · skip
          refine lv_iload_n hx hb dX3_kindNamed_19 rfl (lv_at hl 1 rfl) ?_
          exact hd_iret hx hb hr hlocks hP hS ⟨(he.trans (knG_t (by omega) c_4)).symm, rfl⟩ dX3_kindNamed_20
  exact J2 _ 0 (by omega) rfl (Nat.lt_succ_self _) _ _ _ hP hS (lv_sub hl [1, 0] rfl)
