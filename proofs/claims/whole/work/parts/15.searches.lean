set_option maxHeartbeats 4000000 in
set_option maxRecDepth 100000 in
/-- Scene.firstIn -/
theorem c_X1_firstIn (l : Launch) (G : Geo) (u : Sg) (i : Nat) (hi : i < 3) (M : Nat → Int32) (hM : Wf M) (p most : Nat) (hp : p < 8) (hm : most ≤ 1000) : CtI l G yX1_firstIn wsX1_firstIn (rmO 5 111) [.ref (gS G i), .int (nI p), .int (nI most)] (sI u i M) (fun r v => r = fst1 (inP M p) (most + 1) 0 ∧ ∃ N, Wf N ∧ v = sI u i N) := by
  refine CtI.of (cc := cX1_firstIn) (maxL := 4) (ret := (some .int)) (own := RX1) (by decide) rfl rfl ?_
  rintro pg ev s0 mm below meth cd ⟨hx, hb, hr, hml, hown, hts, hlocks⟩ hE hP ls hl
  have hS : va_S (gA G) s0.heap s0.heap [] := va_S.rf
  have hl : lv_has ls 4 [(0, .ref (gS G i)), (1, .int (nI p)), (2, .int (nI most))] := hl
  have hin1 : ∀ w ∈ wsX10, w ∈ wsX1_firstIn := by decide +kernel
  refine lv_iconst (v := 0) hx hb dX1_firstIn_0 (by decide) ?_
  refine lv_istore_n (lv' := [(3, .int 0), (0, .ref (gS G i)), (1, .int (nI p)), (2, .int (nI most))]) hx hb dX1_firstIn_1 rfl hl (by decide) rfl (fun ls hl => ?_)
  have J2 : ∀ (fu : Nat) (k : Nat) (d : Nat) (N : Nat → Int32) (hkd : k + d = most + 1) (hf : fst1 (inP M p) d k = fst1 (inP M p) (most + 1) 0) (hN : N = secN M k) (hrk : d < fu) (H : Heap) (locs : List Loc) (ls : Array Slot), WP G (sI u i N) H → va_S (gA G) s0.heap H locs → lv_has ls 4 [(0, .ref (gS G i)), (1, .int (nI p)), (2, .int (nI most)), (3, .int (nI k))] → W pg l ev (headSpec wsX1_firstIn (rmO 5 111)).room s0 mm ([.ref (gS G i), .int (nI p), .int (nI most)] : List Value).toArray below meth cd H locs 0 0 (MQ below (va_Qi (fun r v => r = fst1 (inP M p) (most + 1) 0 ∧ ∃ N, Wf N ∧ v = sI u i N) (fun v t => WP G v t.heap) (gA G)) ([.ref (gS G i), .int (nI p), .int (nI most)] : List Value).toArray s0 0 0 (gA G)) (F0 mm 2 ls []) := by
    intro fu
    induction fu with
    | zero => intro k d N hkd hf hN hrk; exact absurd hrk (Nat.not_lt_zero _)
    | succ fu ih2 =>
      intro k d N hkd hf hN hrk H locs ls hP hS hl
      have hWn : Wf N := by rw [hN]; exact Wf_secN hM k
      refine lv_iload_n hx hb dX1_firstIn_2 rfl (lv_at hl 3 rfl) ?_
      refine lv_iload_n hx hb dX1_firstIn_3 rfl (lv_at hl 2 rfl) ?_
      refine nn_gt (a := k) (b := most) (by omega) (by omega) (tgt := 38) hx hb dX1_firstIn_4 (by decide) (fun c_1 => ?_) (fun c_1 => ?_)
      · skip
        refine lv_iconst (v := (-1)) hx hb dX1_firstIn_38 (by decide) ?_
        exact hd_iret hx hb hr hlocks hP hS ⟨(by rw [← hf, show d = 0 by omega]; rfl), _, hWn, rfl⟩ dX1_firstIn_39
      · skip
        refine lv_aload_n hx hb dX1_firstIn_7 rfl (lv_at hl 0 rfl) ?_
        refine sc_get hx hb hts hin1 hown hE hP hi (sI_at _ _ _) 9 (by decide) (hts (.fieldLink RX1 40 "HeldDoor$Scene" "in" "[I") (by decide +kernel)) (v := .ref (gSA G i 4)) rfl dX1_firstIn_8 ?_
        refine lv_iload_n hx hb dX1_firstIn_11 rfl (lv_at hl 1 rfl) ?_
        refine sc_ald hx hb hE hP hi (sI_at _ _ _) 4 (by decide) p (by omega) dX1_firstIn_12 ?_
        refine lv_iconst (v := 1) hx hb dX1_firstIn_13 (by decide) ?_
        refine lv_icmp_ne (tgt := 19) hx hb dX1_firstIn_14 (by decide) (fun c_2 => ?_) (fun c_2 => ?_)
        · skip
          refine lv_aload_n hx hb dX1_firstIn_19 rfl (lv_at hl 0 rfl) ?_
          refine hd_callVi (As := []) (rest := []) ⟨hx, hb, hml, hown, hts⟩ hE hP hS (c_X1_isAtRest l G u i hi N hWn) rfl (cwV 0 hts gX1_firstIn_X1_isAtRest rfl rfl rfl (by decide +kernel) ⟨Nat.le_of_ble_eq_true rfl, Nat.le_of_ble_eq_true rfl⟩) (sc_recv hE hP hi) rfl hl.1 rfl (Nat.le_of_ble_eq_true rfl) dX1_firstIn_20 (fun rq_3 vq_3 H locs q_3 hP hS => ?_)
          have hP := hP.cast (q_3.2)
          refine lv_cast q_3.1 ?_
          refine bo_eq (tgt := 28) hx hb dX1_firstIn_23 (by decide) (fun c_4 => ?_) (fun c_4 => ?_)
          · skip
            refine lv_aload_n hx hb dX1_firstIn_28 rfl (lv_at hl 0 rfl) ?_
            refine hd_callVv (As := []) (rest := []) ⟨hx, hb, hml, hown, hts⟩ hE hP hS (c_X1_goOneSecond l G u i hi N hWn) rfl (cwV 0 hts gX1_firstIn_X1_goOneSecond rfl rfl rfl (by decide +kernel) ⟨Nat.le_of_ble_eq_true rfl, Nat.le_of_ble_eq_true rfl⟩) (sc_recv hE hP hi) rfl hl.1 rfl (Nat.le_of_ble_eq_true rfl) dX1_firstIn_29 (fun vq_5 H locs q_5 hP hS => ?_)
            have hP := hP.cast (q_5)
            refine lv_iinc (v := nI (k + 1)) (lv' := [(3, .int (nI (k + 1))), (0, .ref (gS G i)), (1, .int (nI p)), (2, .int (nI most))]) hx hb dX1_firstIn_32 hl (k := 3) rfl (inc1 _) (by decide) rfl (fun ls hl => ?_)
            refine lv_goto (tgt := 2) hx hb dX1_firstIn_35 (by decide) ?_
            exact ih2 (k + 1) (d - 1) (sec1 N) (by omega) (by rw [← hf, show d = (d - 1) + 1 by omega, fst1, if_neg (by simp [inP, ← hN, c_2])]; rfl) (by rw [secN, ← hN]) (by omega) _ _ _ hP hS (lv_sub hl [1, 2, 3, 0] rfl)
          · skip
            refine lv_iconst (v := (-1)) hx hb dX1_firstIn_26 (by decide) ?_
            exact hd_iret hx hb hr hlocks hP hS ⟨(by rw [← hf, fst1_none d k (fun j hj => by rw [inP, show j = k + (j - k) by omega, rest_secN hM (by rw [← hN]; exact c_4), ← hN]; simp [c_2])]), _, hWn, rfl⟩ dX1_firstIn_27
        · skip
          refine lv_iload_n hx hb dX1_firstIn_17 rfl (lv_at hl 3 rfl) ?_
          exact hd_iret hx hb hr hlocks hP hS ⟨(by rw [← hf, show d = (d - 1) + 1 by omega, fst1, if_pos (by simp [inP, ← hN, c_2])]), _, hWn, rfl⟩ dX1_firstIn_18
  exact J2 _ 0 (most + 1) M (by omega) rfl rfl (Nat.lt_succ_self _) _ _ _ hP hS (lv_sub hl [1, 2, 3, 0] rfl)
set_option maxHeartbeats 4000000 in
set_option maxRecDepth 100000 in
/-- Scene.firstShut -/
theorem c_X1_firstShut (l : Launch) (G : Geo) (u : Sg) (i : Nat) (hi : i < 3) (M : Nat → Int32) (hM : Wf M) (most : Nat) (hm : most ≤ 1000) : CtI l G yX1_firstShut wsX1_firstShut (rmO 5 111) [.ref (gS G i), .int (nI most)] (sI u i M) (fun r v => r = fst1 (shP M) (most + 1) 0 ∧ ∃ N, Wf N ∧ v = sI u i N) := by
  refine CtI.of (cc := cX1_firstShut) (maxL := 3) (ret := (some .int)) (own := RX1) (by decide) rfl rfl ?_
  rintro pg ev s0 mm below meth cd ⟨hx, hb, hr, hml, hown, hts, hlocks⟩ hE hP ls hl
  have hS : va_S (gA G) s0.heap s0.heap [] := va_S.rf
  have hl : lv_has ls 3 [(0, .ref (gS G i)), (1, .int (nI most))] := hl
  have hin1 : ∀ w ∈ wsX10, w ∈ wsX1_firstShut := by decide +kernel
  refine lv_iconst (v := 0) hx hb dX1_firstShut_0 (by decide) ?_
  refine lv_istore_n (lv' := [(2, .int 0), (0, .ref (gS G i)), (1, .int (nI most))]) hx hb dX1_firstShut_1 rfl hl (by decide) rfl (fun ls hl => ?_)
  have J2 : ∀ (fu : Nat) (k : Nat) (d : Nat) (N : Nat → Int32) (hkd : k + d = most + 1) (hf : fst1 (shP M) d k = fst1 (shP M) (most + 1) 0) (hN : N = secN M k) (hrk : d < fu) (H : Heap) (locs : List Loc) (ls : Array Slot), WP G (sI u i N) H → va_S (gA G) s0.heap H locs → lv_has ls 3 [(0, .ref (gS G i)), (1, .int (nI most)), (2, .int (nI k))] → W pg l ev (headSpec wsX1_firstShut (rmO 5 111)).room s0 mm ([.ref (gS G i), .int (nI most)] : List Value).toArray below meth cd H locs 0 0 (MQ below (va_Qi (fun r v => r = fst1 (shP M) (most + 1) 0 ∧ ∃ N, Wf N ∧ v = sI u i N) (fun v t => WP G v t.heap) (gA G)) ([.ref (gS G i), .int (nI most)] : List Value).toArray s0 0 0 (gA G)) (F0 mm 2 ls []) := by
    intro fu
    induction fu with
    | zero => intro k d N hkd hf hN hrk; exact absurd hrk (Nat.not_lt_zero _)
    | succ fu ih2 =>
      intro k d N hkd hf hN hrk H locs ls hP hS hl
      have hWn : Wf N := by rw [hN]; exact Wf_secN hM k
      refine lv_iload_n hx hb dX1_firstShut_2 rfl (lv_at hl 2 rfl) ?_
      refine lv_iload_n hx hb dX1_firstShut_3 rfl (lv_at hl 1 rfl) ?_
      refine nn_gt (a := k) (b := most) (by omega) (by omega) (tgt := 26) hx hb dX1_firstShut_4 (by decide) (fun c_1 => ?_) (fun c_1 => ?_)
      · skip
        refine lv_iconst (v := (-1)) hx hb dX1_firstShut_26 (by decide) ?_
        exact hd_iret hx hb hr hlocks hP hS ⟨(by rw [← hf, show d = 0 by omega]; rfl), _, hWn, rfl⟩ dX1_firstShut_27
      · skip
        refine lv_aload_n hx hb dX1_firstShut_7 rfl (lv_at hl 0 rfl) ?_
        refine sc_get hx hb hts hin1 hown hE hP hi (sI_at _ _ _) 2 (by decide) (hts (.fieldLink RX1 18 "HeldDoor$Scene" "open" "I") (by decide +kernel)) (v := .int (N 2)) rfl dX1_firstShut_8 ?_
        refine lv_if_ne (tgt := 16) hx hb dX1_firstShut_11 (by decide) (fun c_2 => ?_) (fun c_2 => ?_)
        · skip
          refine lv_aload_n hx hb dX1_firstShut_16 rfl (lv_at hl 0 rfl) ?_
          refine hd_callVv (As := []) (rest := []) ⟨hx, hb, hml, hown, hts⟩ hE hP hS (c_X1_goOneSecond l G u i hi N hWn) rfl (cwV 0 hts gX1_firstShut_X1_goOneSecond rfl rfl rfl (by decide +kernel) ⟨Nat.le_of_ble_eq_true rfl, Nat.le_of_ble_eq_true rfl⟩) (sc_recv hE hP hi) rfl hl.1 rfl (Nat.le_of_ble_eq_true rfl) dX1_firstShut_17 (fun vq_3 H locs q_3 hP hS => ?_)
          have hP := hP.cast (q_3)
          refine lv_iinc (v := nI (k + 1)) (lv' := [(2, .int (nI (k + 1))), (0, .ref (gS G i)), (1, .int (nI most))]) hx hb dX1_firstShut_20 hl (k := 2) rfl (inc1 _) (by decide) rfl (fun ls hl => ?_)
          refine lv_goto (tgt := 2) hx hb dX1_firstShut_23 (by decide) ?_
          exact ih2 (k + 1) (d - 1) (sec1 N) (by omega) (by rw [← hf, show d = (d - 1) + 1 by omega, fst1, if_neg (by simp [shP, ← hN, c_2])]; rfl) (by rw [secN, ← hN]) (by omega) _ _ _ hP hS (lv_sub hl [1, 2, 0] rfl)
        · skip
          refine lv_iload_n hx hb dX1_firstShut_14 rfl (lv_at hl 2 rfl) ?_
          exact hd_iret hx hb hr hlocks hP hS ⟨(by rw [← hf, show d = (d - 1) + 1 by omega, fst1, if_pos (by simp [shP, ← hN, c_2])]), _, hWn, rfl⟩ dX1_firstShut_15
  exact J2 _ 0 (most + 1) M (by omega) rfl rfl (Nat.lt_succ_self _) _ _ _ hP hS (lv_sub hl [1, 2, 0] rfl)
set_option maxHeartbeats 4000000 in
set_option maxRecDepth 100000 in
/-- Scene.firstAllIn -/
theorem c_X1_firstAllIn (l : Launch) (G : Geo) (u : Sg) (i : Nat) (hi : i < 3) (M : Nat → Int32) (hM : Wf M) (most : Nat) (hm : most ≤ 1000) : CtI l G yX1_firstAllIn wsX1_firstAllIn (rmO 5 111) [.ref (gS G i), .int (nI most)] (sI u i M) (fun r v => r = fst1 (alP M) (most + 1) 0 ∧ ∃ N, Wf N ∧ v = sI u i N) := by
  refine CtI.of (cc := cX1_firstAllIn) (maxL := 3) (ret := (some .int)) (own := RX1) (by decide) rfl rfl ?_
  rintro pg ev s0 mm below meth cd ⟨hx, hb, hr, hml, hown, hts, hlocks⟩ hE hP ls hl
  have hS : va_S (gA G) s0.heap s0.heap [] := va_S.rf
  have hl : lv_has ls 3 [(0, .ref (gS G i)), (1, .int (nI most))] := hl
  have hin1 : ∀ w ∈ wsX10, w ∈ wsX1_firstAllIn := by decide +kernel
  refine lv_iconst (v := 0) hx hb dX1_firstAllIn_0 (by decide) ?_
  refine lv_istore_n (lv' := [(2, .int 0), (0, .ref (gS G i)), (1, .int (nI most))]) hx hb dX1_firstAllIn_1 rfl hl (by decide) rfl (fun ls hl => ?_)
  have J2 : ∀ (fu : Nat) (k : Nat) (d : Nat) (N : Nat → Int32) (hkd : k + d = most + 1) (hf : fst1 (alP M) d k = fst1 (alP M) (most + 1) 0) (hN : N = secN M k) (hrk : d < fu) (H : Heap) (locs : List Loc) (ls : Array Slot), WP G (sI u i N) H → va_S (gA G) s0.heap H locs → lv_has ls 3 [(0, .ref (gS G i)), (1, .int (nI most)), (2, .int (nI k))] → W pg l ev (headSpec wsX1_firstAllIn (rmO 5 111)).room s0 mm ([.ref (gS G i), .int (nI most)] : List Value).toArray below meth cd H locs 0 0 (MQ below (va_Qi (fun r v => r = fst1 (alP M) (most + 1) 0 ∧ ∃ N, Wf N ∧ v = sI u i N) (fun v t => WP G v t.heap) (gA G)) ([.ref (gS G i), .int (nI most)] : List Value).toArray s0 0 0 (gA G)) (F0 mm 2 ls []) := by
    intro fu
    induction fu with
    | zero => intro k d N hkd hf hN hrk; exact absurd hrk (Nat.not_lt_zero _)
    | succ fu ih2 =>
      intro k d N hkd hf hN hrk H locs ls hP hS hl
      have hWn : Wf N := by rw [hN]; exact Wf_secN hM k
      have hNp : nP N = nP M := by rw [hN, nP_secN]
      refine lv_iload_n hx hb dX1_firstAllIn_2 rfl (lv_at hl 2 rfl) ?_
      refine lv_iload_n hx hb dX1_firstAllIn_3 rfl (lv_at hl 1 rfl) ?_
      refine nn_gt (a := k) (b := most) (by omega) (by omega) (tgt := 43) hx hb dX1_firstAllIn_4 (by decide) (fun c_1 => ?_) (fun c_1 => ?_)
      · skip
        refine lv_iconst (v := (-1)) hx hb dX1_firstAllIn_43 (by decide) ?_
        exact hd_iret hx hb hr hlocks hP hS ⟨(by rw [← hf, show d = 0 by omega]; rfl), _, hWn, rfl⟩ dX1_firstAllIn_44
      · skip
        refine lv_aload_n hx hb dX1_firstAllIn_7 rfl (lv_at hl 0 rfl) ?_
        refine lv_aload_n hx hb dX1_firstAllIn_8 rfl (lv_at hl 0 rfl) ?_
        refine sc_get hx hb hts hin1 hown hE hP hi (sI_at _ _ _) 9 (by decide) (hts (.fieldLink RX1 40 "HeldDoor$Scene" "in" "[I") (by decide +kernel)) (v := .ref (gSA G i 4)) rfl dX1_firstAllIn_9 ?_
        refine hd_callVi (As := [.ref (gSA G i 4)]) (rest := []) ⟨hx, hb, hml, hown, hts⟩ hE hP hS (c_X1_sumOf l G u i hi N hWn 4 (by decide)) rfl (cwV 1 hts gX1_firstAllIn_X1_sumOf rfl rfl rfl (by decide +kernel) ⟨Nat.le_of_ble_eq_true rfl, Nat.le_of_ble_eq_true rfl⟩) (sc_recv hE hP hi) rfl hl.1 rfl (Nat.le_of_ble_eq_true rfl) dX1_firstAllIn_12 (fun rq_2 vq_2 H locs q_2 hP hS => ?_)
        have hP := hP.cast (q_2.2)
        refine lv_cast q_2.1 ?_
        refine lv_aload_n hx hb dX1_firstAllIn_15 rfl (lv_at hl 0 rfl) ?_
        refine sc_get hx hb hts hin1 hown hE hP hi (sI_at _ _ _) 4 (by decide) (hts (.fieldLink RX1 24 "HeldDoor$Scene" "people" "I") (by decide +kernel)) (v := .int (N 4)) rfl dX1_firstAllIn_16 ?_
        refine lv_icmp_ne (tgt := 24) hx hb dX1_firstAllIn_19 (by decide) (fun c_3 => ?_) (fun c_3 => ?_)
        · skip
          refine lv_aload_n hx hb dX1_firstAllIn_24 rfl (lv_at hl 0 rfl) ?_
          refine hd_callVi (As := []) (rest := []) ⟨hx, hb, hml, hown, hts⟩ hE hP hS (c_X1_isAtRest l G u i hi N hWn) rfl (cwV 0 hts gX1_firstAllIn_X1_isAtRest rfl rfl rfl (by decide +kernel) ⟨Nat.le_of_ble_eq_true rfl, Nat.le_of_ble_eq_true rfl⟩) (sc_recv hE hP hi) rfl hl.1 rfl (Nat.le_of_ble_eq_true rfl) dX1_firstAllIn_25 (fun rq_4 vq_4 H locs q_4 hP hS => ?_)
          have hP := hP.cast (q_4.2)
          refine lv_cast q_4.1 ?_
          refine bo_eq (tgt := 33) hx hb dX1_firstAllIn_28 (by decide) (fun c_5 => ?_) (fun c_5 => ?_)
          · skip
            refine lv_aload_n hx hb dX1_firstAllIn_33 rfl (lv_at hl 0 rfl) ?_
            refine hd_callVv (As := []) (rest := []) ⟨hx, hb, hml, hown, hts⟩ hE hP hS (c_X1_goOneSecond l G u i hi N hWn) rfl (cwV 0 hts gX1_firstAllIn_X1_goOneSecond rfl rfl rfl (by decide +kernel) ⟨Nat.le_of_ble_eq_true rfl, Nat.le_of_ble_eq_true rfl⟩) (sc_recv hE hP hi) rfl hl.1 rfl (Nat.le_of_ble_eq_true rfl) dX1_firstAllIn_34 (fun vq_6 H locs q_6 hP hS => ?_)
            have hP := hP.cast (q_6)
            refine lv_iinc (v := nI (k + 1)) (lv' := [(2, .int (nI (k + 1))), (0, .ref (gS G i)), (1, .int (nI most))]) hx hb dX1_firstAllIn_37 hl (k := 2) rfl (inc1 _) (by decide) rfl (fun ls hl => ?_)
            refine lv_goto (tgt := 2) hx hb dX1_firstAllIn_40 (by decide) ?_
            exact ih2 (k + 1) (d - 1) (sec1 N) (by omega) (by rw [← hf, show d = (d - 1) + 1 by omega, fst1, if_neg (by rw [alP, ← hN, ← hNp, ← hWn.n]; simp [c_3])]; rfl) (by rw [secN, ← hN]) (by omega) _ _ _ hP hS (lv_sub hl [1, 2, 0] rfl)
          · skip
            refine lv_iconst (v := (-1)) hx hb dX1_firstAllIn_31 (by decide) ?_
            exact hd_iret hx hb hr hlocks hP hS ⟨(by rw [← hf, fst1_none d k (fun j hj => by rw [alP, show j = k + (j - k) by omega, rest_secN hM (by rw [← hN]; exact c_5), ← hN, ← hNp, ← hWn.n]; simp [c_3])]), _, hWn, rfl⟩ dX1_firstAllIn_32
        · skip
          refine lv_iload_n hx hb dX1_firstAllIn_22 rfl (lv_at hl 2 rfl) ?_
          exact hd_iret hx hb hr hlocks hP hS ⟨(by rw [← hf, show d = (d - 1) + 1 by omega, fst1, if_pos (by rw [alP, ← hN, ← hNp, c_3, ← hWn.n]; simp)]), _, hWn, rfl⟩ dX1_firstAllIn_23
  exact J2 _ 0 (most + 1) M (by omega) rfl rfl (Nat.lt_succ_self _) _ _ _ hP hS (lv_sub hl [1, 2, 0] rfl)
