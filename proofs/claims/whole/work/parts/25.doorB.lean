set_option maxHeartbeats 4000000 in
set_option maxRecDepth 100000 in
theorem c_X4_seconds (l : Launch) (G : Geo) (u : Sg) (M F : Nat → Int32) (h0 : u.1 0 = M) (h6 : u.1 6 = F) (hM : Wf M) (hs1 : 0 ≤ (M 0).toInt) (hs2 : (M 0).toInt ≤ 999999) (n : Int32) : CtI l G yX4_seconds wsX4_seconds (rmO 6 133) [.ref (gad G 0), .int n] u (P3 u 0 1 6 (X_seconds M F n)) := by
  refine CtI.of (cc := cX4_seconds) (maxL := 2) (ret := (some .int)) (own := RX4) (by decide) rfl rfl ?_
  rintro pg ev s0 mm below meth cd ⟨hx, hb, hr, hml, hown, hts, hlocks⟩ hE hP ls hl
  have hS : va_S (gA G) s0.heap s0.heap [] := va_S.rf
  have hl : lv_has ls 2 [(0, .ref (gad G 0)), (1, .int n)] := hl
  have hin1 : ∀ w ∈ wsX10, w ∈ wsX4_seconds := by decide +kernel
  have hin4 : ∀ w ∈ wsX40, w ∈ wsX4_seconds := by decide +kernel
  have hn := hM.n
  have h8 := hM.n8
  refine lv_iconst (v := 1) hx hb dX4_seconds_0 (by decide) ?_
  refine lv_sipush (v := 200) hx hb dX4_seconds_1 (by decide) ?_
  refine lv_iload_n hx hb dX4_seconds_4 rfl (lv_at hl 1 rfl) ?_
  refine hd_callSi (As := [.int 1, .int 200, .int n]) (rest := []) ⟨hx, hb, hml, hown, hts⟩ hE hP hS (c_X4_isFrom l G u 1 200 n) rfl (va_cwS 3 hts gX4_seconds_X4_isFrom rfl rfl rfl (by decide +kernel) ⟨Nat.le_of_ble_eq_true rfl, Nat.le_of_ble_eq_true rfl⟩) rfl hl.1 rfl (Nat.le_of_ble_eq_true rfl) dX4_seconds_5 (fun rq_1 vq_1 H locs q_1 hP hS => ?_)
  have hP := hP.cast (q_1.2)
  refine lv_cast q_1.1 ?_
  refine bo_ne (tgt := 18) hx hb dX4_seconds_8 (by decide) (fun c_2 => ?_) (fun c_2 => ?_)
  · skip
    obtain ⟨n9, hn9a, hn9b, rfl⟩ := inI_nat c_2 rfl rfl (na := 1) (nb := 200) (by decide) (by decide)
    refine lv_aload_n hx hb dX4_seconds_18 rfl (lv_at hl 0 rfl) ?_
    refine do_get hx hb hts hin4 hown hE hP rfl 0 (by decide) (hts (.fieldLink RX4 10 "HeldDoor" "scene" "LHeldDoor$Scene;") (by decide +kernel)) (v := .ref (gS G 0)) rfl dX4_seconds_19 ?_
    refine sc_get hx hb hts hin1 hown hE hP (by decide) h0 0 (by decide) (hts (.fieldLink RX4 60 "HeldDoor$Scene" "second" "I") (by decide +kernel)) (v := .int (M 0)) rfl dX4_seconds_22 ?_
    refine lv_ldc (v := 999999) hx hb hown (hts (.constant RX4 128 (999999)) (by decide +kernel)) dX4_seconds_25 ?_
    refine lv_iload_n hx hb dX4_seconds_27 rfl (lv_at hl 1 rfl) ?_
    refine lv_isub hx hb dX4_seconds_28 ?_
    refine lv_icmp_le (tgt := 39) hx hb dX4_seconds_29 (by decide) (fun c_3 => ?_) (fun c_3 => ?_)
    · skip
      refine lv_aload_n hx hb dX4_seconds_39 rfl (lv_at hl 0 rfl) ?_
      refine do_get hx hb hts hin4 hown hE hP rfl 0 (by decide) (hts (.fieldLink RX4 10 "HeldDoor" "scene" "LHeldDoor$Scene;") (by decide +kernel)) (v := .ref (gS G 0)) rfl dX4_seconds_40 ?_
      refine lv_iload_n hx hb dX4_seconds_43 rfl (lv_at hl 1 rfl) ?_
      refine hd_callVv (As := [.int (nI n9)]) (rest := []) ⟨hx, hb, hml, hown, hts⟩ hE hP hS (c_X1_goOn l G u 0 (by decide) M hM n9 (by omega)) ((sI_id h0).symm) (cwV 1 hts gX4_seconds_X1_goOn rfl rfl rfl (by decide +kernel) ⟨Nat.le_of_ble_eq_true rfl, Nat.le_of_ble_eq_true rfl⟩) (sc_recv hE hP (by decide)) rfl hl.1 rfl (Nat.le_of_ble_eq_true rfl) dX4_seconds_44 (fun vq_4 H locs q_4 hP hS => ?_)
      have hP := hP.cast (q_4)
      refine lv_aload_n hx hb dX4_seconds_47 rfl (lv_at hl 0 rfl) ?_
      refine do_get hx hb hts hin4 hown hE hP ((sI_ne _ _ (by decide)).trans rfl) 0 (by decide) (hts (.fieldLink RX4 10 "HeldDoor" "scene" "LHeldDoor$Scene;") (by decide +kernel)) (v := .ref (gS G 0)) rfl dX4_seconds_48 ?_
      refine hd_callVi (As := []) (rest := []) ⟨hx, hb, hml, hown, hts⟩ hE hP hS (c_X1_setOfIn l G u 0 (by decide) (goN M n9) (Wf_goN hM _)) rfl (cwV 0 hts gX4_seconds_X1_setOfIn rfl rfl rfl (by decide +kernel) ⟨Nat.le_of_ble_eq_true rfl, Nat.le_of_ble_eq_true rfl⟩) (sc_recv hE hP (by decide)) rfl hl.1 rfl (Nat.le_of_ble_eq_true rfl) dX4_seconds_51 (fun rq_5 vq_5 H locs q_5 hP hS => ?_)
      have hP := hP.cast (q_5.2)
      refine lv_cast q_5.1 ?_
      exact hd_iret hx hb hr hlocks hP hS (P3.of (by rw [X_seconds, c_2, if_neg (by decide), if_neg ((sec_iff hs1 hs2 (by omega)).mp c_3), nI_clamp (by omega)]; rw [nP_goN]) (sI_at _ _ _) ((sI_ne _ _ (by decide)).trans rfl) ((sI_ne _ _ (by decide)).trans h6) (by decide) (by decide) (by decide) (fun k k0 k1 k6 => ((sI_ne _ _ k0).trans rfl)) rfl) dX4_seconds_54
    · skip
      refine lv_aload_n hx hb dX4_seconds_32 rfl (lv_at hl 0 rfl) ?_
      refine lv_ldc (v := (-1000000005)) hx hb hown (hts (.constant RX4 129 ((-1000000005))) (by decide +kernel)) dX4_seconds_33 ?_
      refine hd_callVi (As := [.int (-1000000005)]) (rest := []) ⟨hx, hb, hml, hown, hts⟩ hE hP hS (c_X4_found_4 l G u F h6) rfl (cwV 1 hts gX4_seconds_X4_found rfl rfl rfl (by decide +kernel) ⟨Nat.le_of_ble_eq_true rfl, Nat.le_of_ble_eq_true rfl⟩) (do_recv hE hP) rfl hl.1 rfl (Nat.le_of_ble_eq_true rfl) dX4_seconds_35 (fun rq_6 vq_6 H locs q_6 hP hS => ?_)
      have hP := hP.cast (q_6.2)
      refine lv_cast q_6.1 ?_
      exact hd_iret hx hb hr hlocks hP hS (P3.of (by rw [X_seconds, c_2, if_neg (by decide), if_pos (Classical.byContradiction fun q => c_3 ((sec_iff hs1 hs2 (by omega)).mpr q))]) ((sI_ne _ _ (by decide)).trans h0) ((sI_ne _ _ (by decide)).trans rfl) (sI_at _ _ _) (by decide) (by decide) (by decide) (fun k k0 k1 k6 => ((sI_ne _ _ k6).trans rfl)) rfl) dX4_seconds_38
  · skip
    refine lv_aload_n hx hb dX4_seconds_11 rfl (lv_at hl 0 rfl) ?_
    refine lv_ldc (v := (-1000000001)) hx hb hown (hts (.constant RX4 55 ((-1000000001))) (by decide +kernel)) dX4_seconds_12 ?_
    refine hd_callVi (As := [.int (-1000000001)]) (rest := []) ⟨hx, hb, hml, hown, hts⟩ hE hP hS (c_X4_found_0 l G u F h6) rfl (cwV 1 hts gX4_seconds_X4_found rfl rfl rfl (by decide +kernel) ⟨Nat.le_of_ble_eq_true rfl, Nat.le_of_ble_eq_true rfl⟩) (do_recv hE hP) rfl hl.1 rfl (Nat.le_of_ble_eq_true rfl) dX4_seconds_14 (fun rq_7 vq_7 H locs q_7 hP hS => ?_)
    have hP := hP.cast (q_7.2)
    refine lv_cast q_7.1 ?_
    exact hd_iret hx hb hr hlocks hP hS (P3.of (by simp [X_seconds, bey, bmp, c_2]) ((sI_ne _ _ (by decide)).trans h0) ((sI_ne _ _ (by decide)).trans rfl) (sI_at _ _ _) (by decide) (by decide) (by decide) (fun k k0 k1 k6 => ((sI_ne _ _ k6).trans rfl)) rfl) dX4_seconds_17
set_option maxHeartbeats 4000000 in
set_option maxRecDepth 100000 in
theorem c_X4_on_0 (l : Launch) (G : Geo) (u : Sg) (M F : Nat → Int32) (h0 : u.1 0 = M) (h6 : u.1 6 = F) (hM : Wf M) (T : Nat → Int32) (h1 : u.1 1 = T) (tT : ∀ k : Nat, 53 ≤ k → T k = 0) (x n : Int32) : CtI l G yX4_on wsX4_on (rmO 6 133) [.ref (gad G 0), .int x, .int n, .int 0] u (P3 u 0 1 6 (X_on M F x n 0)) := by
  refine CtI.of (cc := cX4_on) (maxL := 6) (ret := (some .int)) (own := RX4) (by decide) rfl rfl ?_
  rintro pg ev s0 mm below meth cd ⟨hx, hb, hr, hml, hown, hts, hlocks⟩ hE hP ls hl
  have hS : va_S (gA G) s0.heap s0.heap [] := va_S.rf
  have hl : lv_has ls 6 [(0, .ref (gad G 0)), (1, .int x), (2, .int n), (3, .int 0)] := hl
  have hn := hM.n
  have h8 := hM.n8
  refine lv_aload_n hx hb dX4_on_0 rfl (lv_at hl 0 rfl) ?_
  refine lv_iload_n hx hb dX4_on_1 rfl (lv_at hl 1 rfl) ?_
  refine hd_callVi (As := [.int x]) (rest := []) ⟨hx, hb, hml, hown, hts⟩ hE hP hS (c_X4_isPerson l G u M h0 x) rfl (cwV 1 hts gX4_on_X4_isPerson rfl rfl rfl (by decide +kernel) ⟨Nat.le_of_ble_eq_true rfl, Nat.le_of_ble_eq_true rfl⟩) (do_recv hE hP) rfl hl.1 rfl (Nat.le_of_ble_eq_true rfl) dX4_on_2 (fun rq_1 vq_1 H locs q_1 hP hS => ?_)
  have hP := hP.cast (q_1.2)
  refine lv_cast q_1.1 ?_
  refine bo_eq (tgt := 28) hx hb dX4_on_5 (by decide) (fun c_2 => ?_) (fun c_2 => ?_)
  · skip
    refine lv_aload_n hx hb dX4_on_28 rfl (lv_at hl 0 rfl) ?_
    refine lv_ldc (v := (-1000000001)) hx hb hown (hts (.constant RX4 55 ((-1000000001))) (by decide +kernel)) dX4_on_29 ?_
    refine hd_callVi (As := [.int (-1000000001)]) (rest := []) ⟨hx, hb, hml, hown, hts⟩ hE hP hS (c_X4_found_0 l G u F h6) rfl (cwV 1 hts gX4_on_X4_found rfl rfl rfl (by decide +kernel) ⟨Nat.le_of_ble_eq_true rfl, Nat.le_of_ble_eq_true rfl⟩) (do_recv hE hP) rfl hl.1 rfl (Nat.le_of_ble_eq_true rfl) dX4_on_31 (fun rq_3 vq_3 H locs q_3 hP hS => ?_)
    have hP := hP.cast (q_3.2)
    refine lv_cast q_3.1 ?_
    exact hd_iret hx hb hr hlocks hP hS (P3.of (by first | rfl | (simp [X_on, bey, none3, bmp, c_2]; done) | (exfalso; simp_all; done) | (simp only [X_on, bey, none3, bmp, c_2, ↓reduceIte] <;> rfl)) ((sI_ne _ _ (by decide)).trans h0) ((sI_ne _ _ (by decide)).trans h1) (sI_at _ _ _) (by decide) (by decide) (by decide) (fun k k0 k1 k6 => ((sI_ne _ _ k6).trans rfl)) rfl) dX4_on_34
  · skip
    obtain ⟨q, hq, rfl⟩ := pe_get hM c_2
    refine lv_iconst (v := 0) hx hb dX4_on_8 (by decide) ?_
    refine lv_sipush (v := 400) hx hb dX4_on_9 (by decide) ?_
    refine lv_iload_n hx hb dX4_on_12 rfl (lv_at hl 2 rfl) ?_
    refine hd_callSi (As := [.int 0, .int 400, .int n]) (rest := []) ⟨hx, hb, hml, hown, hts⟩ hE hP hS (c_X4_isFrom l G u 0 400 n) rfl (va_cwS 3 hts gX4_on_X4_isFrom rfl rfl rfl (by decide +kernel) ⟨Nat.le_of_ble_eq_true rfl, Nat.le_of_ble_eq_true rfl⟩) rfl hl.1 rfl (Nat.le_of_ble_eq_true rfl) dX4_on_13 (fun rq_4 vq_4 H locs q_4 hP hS => ?_)
    have hP := hP.cast (q_4.2)
    refine lv_cast q_4.1 ?_
    refine bo_eq (tgt := 28) hx hb dX4_on_16 (by decide) (fun c_5 => ?_) (fun c_5 => ?_)
    · skip
      refine lv_aload_n hx hb dX4_on_28 rfl (lv_at hl 0 rfl) ?_
      refine lv_ldc (v := (-1000000001)) hx hb hown (hts (.constant RX4 55 ((-1000000001))) (by decide +kernel)) dX4_on_29 ?_
      refine hd_callVi (As := [.int (-1000000001)]) (rest := []) ⟨hx, hb, hml, hown, hts⟩ hE hP hS (c_X4_found_0 l G u F h6) rfl (cwV 1 hts gX4_on_X4_found rfl rfl rfl (by decide +kernel) ⟨Nat.le_of_ble_eq_true rfl, Nat.le_of_ble_eq_true rfl⟩) (do_recv hE hP) rfl hl.1 rfl (Nat.le_of_ble_eq_true rfl) dX4_on_31 (fun rq_6 vq_6 H locs q_6 hP hS => ?_)
      have hP := hP.cast (q_6.2)
      refine lv_cast q_6.1 ?_
      exact hd_iret hx hb hr hlocks hP hS (P3.of (by first | rfl | (simp [X_on, bey, none3, bmp, nI_clamp (show q < 2 ^ 31 by omega), c_2, c_5]; done) | (exfalso; simp_all; done) | (simp only [X_on, bey, none3, bmp, nI_clamp (show q < 2 ^ 31 by omega), c_2, c_5, ↓reduceIte] <;> rfl)) ((sI_ne _ _ (by decide)).trans h0) ((sI_ne _ _ (by decide)).trans h1) (sI_at _ _ _) (by decide) (by decide) (by decide) (fun k k0 k1 k6 => ((sI_ne _ _ k6).trans rfl)) rfl) dX4_on_34
    · skip
      obtain ⟨n9, hn9a, hn9b, rfl⟩ := inI_nat c_5 rfl rfl (na := 0) (nb := 400) (by decide) (by decide)
      refine lv_iconst (v := 0) hx hb dX4_on_19 (by decide) ?_
      refine lv_iconst (v := 2) hx hb dX4_on_20 (by decide) ?_
      refine lv_iload_n hx hb dX4_on_21 rfl (lv_at hl 3 rfl) ?_
      refine hd_callSi (As := [.int 0, .int 2, .int 0]) (rest := []) ⟨hx, hb, hml, hown, hts⟩ hE hP hS (c_X4_isFrom l G u 0 2 0) rfl (va_cwS 3 hts gX4_on_X4_isFrom rfl rfl rfl (by decide +kernel) ⟨Nat.le_of_ble_eq_true rfl, Nat.le_of_ble_eq_true rfl⟩) rfl hl.1 rfl (Nat.le_of_ble_eq_true rfl) dX4_on_22 (fun rq_7 vq_7 H locs q_7 hP hS => ?_)
      have hP := hP.cast (q_7.2)
      refine lv_cast q_7.1 ?_
      refine bo_ne (tgt := 35) hx hb dX4_on_25 (by decide) (fun c_8 => ?_) (fun c_8 => absurd c_8 (by decide))
      refine lv_aload_n hx hb dX4_on_35 rfl (lv_at hl 0 rfl) ?_
      refine hd_callVr (As := []) (rest := []) ⟨hx, hb, hml, hown, hts⟩ hE hP hS (c_X4_freshTrial l G u M T h0 h1 (hM).1 tT) rfl (cwV 0 hts gX4_on_X4_freshTrial rfl rfl rfl (by decide +kernel) ⟨Nat.le_of_ble_eq_true rfl, Nat.le_of_ble_eq_true rfl⟩) (do_recv hE hP) rfl hl.1 rfl (Nat.le_of_ble_eq_true rfl) dX4_on_36 (fun H locs hP hS => ?_)
      refine lv_astore (lv' := [(4, .ref (gS G 1)), (0, .ref (gad G 0)), (1, .int (nI q)), (2, .int (nI n9)), (3, .int 0)]) hx hb dX4_on_39 hl (by decide) rfl (fun ls hl => ?_)
      refine lv_aload hx hb dX4_on_41 (lv_at hl 0 rfl) ?_
      refine lv_iload_n hx hb dX4_on_43 rfl (lv_at hl 3 rfl) ?_
      refine hd_callVv (As := [.int (nI n9)]) (rest := []) ⟨hx, hb, hml, hown, hts⟩ hE hP hS (c_X1_goOn l G u 1 (by decide) M hM n9 (by omega)) rfl (cwV 1 hts gX4_on_X1_goOn rfl rfl rfl (by decide +kernel) ⟨Nat.le_of_ble_eq_true rfl, Nat.le_of_ble_eq_true rfl⟩) (sc_recv hE hP (by decide)) rfl hl.1 rfl (Nat.le_of_ble_eq_true rfl) dX4_on_44 (fun vq_10 H locs q_10 hP hS => ?_)
      have hP := hP.cast (q_10)
      refine lv_aload hx hb dX4_on_47 (lv_at hl 0 rfl) ?_
      refine lv_iconst (v := 3) hx hb dX4_on_49 (by decide) ?_
      refine lv_iload_n hx hb dX4_on_50 rfl (lv_at hl 4 rfl) ?_
      refine lv_iadd hx hb dX4_on_51 ?_
      refine lv_cast (y := 3) (by decide) ?_
      refine hd_callVr (As := [.int 3]) (rest := []) ⟨hx, hb, hml, hown, hts⟩ hE hP hS (c_X1_rowOf_3 l G u 1 (by decide) (goN M n9)) rfl (cwV 1 hts gX4_on_X1_rowOf rfl rfl rfl (by decide +kernel) ⟨Nat.le_of_ble_eq_true rfl, Nat.le_of_ble_eq_true rfl⟩) (sc_recv hE hP (by decide)) rfl hl.1 rfl (Nat.le_of_ble_eq_true rfl) dX4_on_52 (fun H locs hP hS => ?_)
      refine lv_astore (lv' := [(5, .ref (gSA G 1 3)), (4, .ref (gS G 1)), (0, .ref (gad G 0)), (1, .int (nI q)), (2, .int (nI n9)), (3, .int 0)]) hx hb dX4_on_55 hl (by decide) rfl (fun ls hl => ?_)
      refine lv_aload hx hb dX4_on_57 (lv_at hl 0 rfl) ?_
      refine lv_ifnonnull (tgt := 71) hx hb dX4_on_59 (by decide) ?_
      refine lv_aload hx hb dX4_on_71 (lv_at hl 0 rfl) ?_
      refine lv_iload_n hx hb dX4_on_73 rfl (lv_at hl 3 rfl) ?_
      refine sc_ald hx hb hE hP (by decide) (sI_at _ _ _) 3 (by decide) q (by omega) dX4_on_74 ?_
      exact hd_iret hx hb hr hlocks hP hS (P3.of (by first | rfl | (simp [X_on, bey, none3, bmp, nI_clamp (show q < 2 ^ 31 by omega), nI_clamp (show n9 < 2 ^ 31 by omega), c_2, c_5, c_8]; done) | (exfalso; simp_all; done) | (simp only [X_on, bey, none3, bmp, nI_clamp (show q < 2 ^ 31 by omega), nI_clamp (show n9 < 2 ^ 31 by omega), c_2, c_5, c_8, ↓reduceIte] <;> rfl)) ((sI_ne _ _ (by decide)).trans h0) (sI_at _ _ _) ((sI_ne _ _ (by decide)).trans h6) (by decide) (by decide) (by decide) (fun k k0 k1 k6 => ((sI_ne _ _ k1).trans rfl)) rfl) dX4_on_75
set_option maxHeartbeats 4000000 in
set_option maxRecDepth 100000 in
theorem c_X4_on_1 (l : Launch) (G : Geo) (u : Sg) (M F : Nat → Int32) (h0 : u.1 0 = M) (h6 : u.1 6 = F) (hM : Wf M) (T : Nat → Int32) (h1 : u.1 1 = T) (tT : ∀ k : Nat, 53 ≤ k → T k = 0) (x n : Int32) : CtI l G yX4_on wsX4_on (rmO 6 133) [.ref (gad G 0), .int x, .int n, .int 1] u (P3 u 0 1 6 (X_on M F x n 1)) := by
  refine CtI.of (cc := cX4_on) (maxL := 6) (ret := (some .int)) (own := RX4) (by decide) rfl rfl ?_
  rintro pg ev s0 mm below meth cd ⟨hx, hb, hr, hml, hown, hts, hlocks⟩ hE hP ls hl
  have hS : va_S (gA G) s0.heap s0.heap [] := va_S.rf
  have hl : lv_has ls 6 [(0, .ref (gad G 0)), (1, .int x), (2, .int n), (3, .int 1)] := hl
  have hn := hM.n
  have h8 := hM.n8
  refine lv_aload_n hx hb dX4_on_0 rfl (lv_at hl 0 rfl) ?_
  refine lv_iload_n hx hb dX4_on_1 rfl (lv_at hl 1 rfl) ?_
  refine hd_callVi (As := [.int x]) (rest := []) ⟨hx, hb, hml, hown, hts⟩ hE hP hS (c_X4_isPerson l G u M h0 x) rfl (cwV 1 hts gX4_on_X4_isPerson rfl rfl rfl (by decide +kernel) ⟨Nat.le_of_ble_eq_true rfl, Nat.le_of_ble_eq_true rfl⟩) (do_recv hE hP) rfl hl.1 rfl (Nat.le_of_ble_eq_true rfl) dX4_on_2 (fun rq_1 vq_1 H locs q_1 hP hS => ?_)
  have hP := hP.cast (q_1.2)
  refine lv_cast q_1.1 ?_
  refine bo_eq (tgt := 28) hx hb dX4_on_5 (by decide) (fun c_2 => ?_) (fun c_2 => ?_)
  · skip
    refine lv_aload_n hx hb dX4_on_28 rfl (lv_at hl 0 rfl) ?_
    refine lv_ldc (v := (-1000000001)) hx hb hown (hts (.constant RX4 55 ((-1000000001))) (by decide +kernel)) dX4_on_29 ?_
    refine hd_callVi (As := [.int (-1000000001)]) (rest := []) ⟨hx, hb, hml, hown, hts⟩ hE hP hS (c_X4_found_0 l G u F h6) rfl (cwV 1 hts gX4_on_X4_found rfl rfl rfl (by decide +kernel) ⟨Nat.le_of_ble_eq_true rfl, Nat.le_of_ble_eq_true rfl⟩) (do_recv hE hP) rfl hl.1 rfl (Nat.le_of_ble_eq_true rfl) dX4_on_31 (fun rq_3 vq_3 H locs q_3 hP hS => ?_)
    have hP := hP.cast (q_3.2)
    refine lv_cast q_3.1 ?_
    exact hd_iret hx hb hr hlocks hP hS (P3.of (by first | rfl | (simp [X_on, bey, none3, bmp, c_2]; done) | (exfalso; simp_all; done) | (simp only [X_on, bey, none3, bmp, c_2, ↓reduceIte] <;> rfl)) ((sI_ne _ _ (by decide)).trans h0) ((sI_ne _ _ (by decide)).trans h1) (sI_at _ _ _) (by decide) (by decide) (by decide) (fun k k0 k1 k6 => ((sI_ne _ _ k6).trans rfl)) rfl) dX4_on_34
  · skip
    obtain ⟨q, hq, rfl⟩ := pe_get hM c_2
    refine lv_iconst (v := 0) hx hb dX4_on_8 (by decide) ?_
    refine lv_sipush (v := 400) hx hb dX4_on_9 (by decide) ?_
    refine lv_iload_n hx hb dX4_on_12 rfl (lv_at hl 2 rfl) ?_
    refine hd_callSi (As := [.int 0, .int 400, .int n]) (rest := []) ⟨hx, hb, hml, hown, hts⟩ hE hP hS (c_X4_isFrom l G u 0 400 n) rfl (va_cwS 3 hts gX4_on_X4_isFrom rfl rfl rfl (by decide +kernel) ⟨Nat.le_of_ble_eq_true rfl, Nat.le_of_ble_eq_true rfl⟩) rfl hl.1 rfl (Nat.le_of_ble_eq_true rfl) dX4_on_13 (fun rq_4 vq_4 H locs q_4 hP hS => ?_)
    have hP := hP.cast (q_4.2)
    refine lv_cast q_4.1 ?_
    refine bo_eq (tgt := 28) hx hb dX4_on_16 (by decide) (fun c_5 => ?_) (fun c_5 => ?_)
    · skip
      refine lv_aload_n hx hb dX4_on_28 rfl (lv_at hl 0 rfl) ?_
      refine lv_ldc (v := (-1000000001)) hx hb hown (hts (.constant RX4 55 ((-1000000001))) (by decide +kernel)) dX4_on_29 ?_
      refine hd_callVi (As := [.int (-1000000001)]) (rest := []) ⟨hx, hb, hml, hown, hts⟩ hE hP hS (c_X4_found_0 l G u F h6) rfl (cwV 1 hts gX4_on_X4_found rfl rfl rfl (by decide +kernel) ⟨Nat.le_of_ble_eq_true rfl, Nat.le_of_ble_eq_true rfl⟩) (do_recv hE hP) rfl hl.1 rfl (Nat.le_of_ble_eq_true rfl) dX4_on_31 (fun rq_6 vq_6 H locs q_6 hP hS => ?_)
      have hP := hP.cast (q_6.2)
      refine lv_cast q_6.1 ?_
      exact hd_iret hx hb hr hlocks hP hS (P3.of (by first | rfl | (simp [X_on, bey, none3, bmp, nI_clamp (show q < 2 ^ 31 by omega), c_2, c_5]; done) | (exfalso; simp_all; done) | (simp only [X_on, bey, none3, bmp, nI_clamp (show q < 2 ^ 31 by omega), c_2, c_5, ↓reduceIte] <;> rfl)) ((sI_ne _ _ (by decide)).trans h0) ((sI_ne _ _ (by decide)).trans h1) (sI_at _ _ _) (by decide) (by decide) (by decide) (fun k k0 k1 k6 => ((sI_ne _ _ k6).trans rfl)) rfl) dX4_on_34
    · skip
      obtain ⟨n9, hn9a, hn9b, rfl⟩ := inI_nat c_5 rfl rfl (na := 0) (nb := 400) (by decide) (by decide)
      refine lv_iconst (v := 0) hx hb dX4_on_19 (by decide) ?_
      refine lv_iconst (v := 2) hx hb dX4_on_20 (by decide) ?_
      refine lv_iload_n hx hb dX4_on_21 rfl (lv_at hl 3 rfl) ?_
      refine hd_callSi (As := [.int 0, .int 2, .int 1]) (rest := []) ⟨hx, hb, hml, hown, hts⟩ hE hP hS (c_X4_isFrom l G u 0 2 1) rfl (va_cwS 3 hts gX4_on_X4_isFrom rfl rfl rfl (by decide +kernel) ⟨Nat.le_of_ble_eq_true rfl, Nat.le_of_ble_eq_true rfl⟩) rfl hl.1 rfl (Nat.le_of_ble_eq_true rfl) dX4_on_22 (fun rq_7 vq_7 H locs q_7 hP hS => ?_)
      have hP := hP.cast (q_7.2)
      refine lv_cast q_7.1 ?_
      refine bo_ne (tgt := 35) hx hb dX4_on_25 (by decide) (fun c_8 => ?_) (fun c_8 => absurd c_8 (by decide))
      refine lv_aload_n hx hb dX4_on_35 rfl (lv_at hl 0 rfl) ?_
      refine hd_callVr (As := []) (rest := []) ⟨hx, hb, hml, hown, hts⟩ hE hP hS (c_X4_freshTrial l G u M T h0 h1 (hM).1 tT) rfl (cwV 0 hts gX4_on_X4_freshTrial rfl rfl rfl (by decide +kernel) ⟨Nat.le_of_ble_eq_true rfl, Nat.le_of_ble_eq_true rfl⟩) (do_recv hE hP) rfl hl.1 rfl (Nat.le_of_ble_eq_true rfl) dX4_on_36 (fun H locs hP hS => ?_)
      refine lv_astore (lv' := [(4, .ref (gS G 1)), (0, .ref (gad G 0)), (1, .int (nI q)), (2, .int (nI n9)), (3, .int 1)]) hx hb dX4_on_39 hl (by decide) rfl (fun ls hl => ?_)
      refine lv_aload hx hb dX4_on_41 (lv_at hl 0 rfl) ?_
      refine lv_iload_n hx hb dX4_on_43 rfl (lv_at hl 3 rfl) ?_
      refine hd_callVv (As := [.int (nI n9)]) (rest := []) ⟨hx, hb, hml, hown, hts⟩ hE hP hS (c_X1_goOn l G u 1 (by decide) M hM n9 (by omega)) rfl (cwV 1 hts gX4_on_X1_goOn rfl rfl rfl (by decide +kernel) ⟨Nat.le_of_ble_eq_true rfl, Nat.le_of_ble_eq_true rfl⟩) (sc_recv hE hP (by decide)) rfl hl.1 rfl (Nat.le_of_ble_eq_true rfl) dX4_on_44 (fun vq_10 H locs q_10 hP hS => ?_)
      have hP := hP.cast (q_10)
      refine lv_aload hx hb dX4_on_47 (lv_at hl 0 rfl) ?_
      refine lv_iconst (v := 3) hx hb dX4_on_49 (by decide) ?_
      refine lv_iload_n hx hb dX4_on_50 rfl (lv_at hl 4 rfl) ?_
      refine lv_iadd hx hb dX4_on_51 ?_
      refine lv_cast (y := 4) (by decide) ?_
      refine hd_callVr (As := [.int 4]) (rest := []) ⟨hx, hb, hml, hown, hts⟩ hE hP hS (c_X1_rowOf_4 l G u 1 (by decide) (goN M n9)) rfl (cwV 1 hts gX4_on_X1_rowOf rfl rfl rfl (by decide +kernel) ⟨Nat.le_of_ble_eq_true rfl, Nat.le_of_ble_eq_true rfl⟩) (sc_recv hE hP (by decide)) rfl hl.1 rfl (Nat.le_of_ble_eq_true rfl) dX4_on_52 (fun H locs hP hS => ?_)
      refine lv_astore (lv' := [(5, .ref (gSA G 1 4)), (4, .ref (gS G 1)), (0, .ref (gad G 0)), (1, .int (nI q)), (2, .int (nI n9)), (3, .int 1)]) hx hb dX4_on_55 hl (by decide) rfl (fun ls hl => ?_)
      refine lv_aload hx hb dX4_on_57 (lv_at hl 0 rfl) ?_
      refine lv_ifnonnull (tgt := 71) hx hb dX4_on_59 (by decide) ?_
      refine lv_aload hx hb dX4_on_71 (lv_at hl 0 rfl) ?_
      refine lv_iload_n hx hb dX4_on_73 rfl (lv_at hl 3 rfl) ?_
      refine sc_ald hx hb hE hP (by decide) (sI_at _ _ _) 4 (by decide) q (by omega) dX4_on_74 ?_
      exact hd_iret hx hb hr hlocks hP hS (P3.of (by first | rfl | (simp [X_on, bey, none3, bmp, nI_clamp (show q < 2 ^ 31 by omega), nI_clamp (show n9 < 2 ^ 31 by omega), c_2, c_5, c_8]; done) | (exfalso; simp_all; done) | (simp only [X_on, bey, none3, bmp, nI_clamp (show q < 2 ^ 31 by omega), nI_clamp (show n9 < 2 ^ 31 by omega), c_2, c_5, c_8, ↓reduceIte] <;> rfl)) ((sI_ne _ _ (by decide)).trans h0) (sI_at _ _ _) ((sI_ne _ _ (by decide)).trans h6) (by decide) (by decide) (by decide) (fun k k0 k1 k6 => ((sI_ne _ _ k1).trans rfl)) rfl) dX4_on_75
set_option maxHeartbeats 4000000 in
set_option maxRecDepth 100000 in
theorem c_X4_on_2 (l : Launch) (G : Geo) (u : Sg) (M F : Nat → Int32) (h0 : u.1 0 = M) (h6 : u.1 6 = F) (hM : Wf M) (T : Nat → Int32) (h1 : u.1 1 = T) (tT : ∀ k : Nat, 53 ≤ k → T k = 0) (x n : Int32) : CtI l G yX4_on wsX4_on (rmO 6 133) [.ref (gad G 0), .int x, .int n, .int 2] u (P3 u 0 1 6 (X_on M F x n 2)) := by
  refine CtI.of (cc := cX4_on) (maxL := 6) (ret := (some .int)) (own := RX4) (by decide) rfl rfl ?_
  rintro pg ev s0 mm below meth cd ⟨hx, hb, hr, hml, hown, hts, hlocks⟩ hE hP ls hl
  have hS : va_S (gA G) s0.heap s0.heap [] := va_S.rf
  have hl : lv_has ls 6 [(0, .ref (gad G 0)), (1, .int x), (2, .int n), (3, .int 2)] := hl
  have hn := hM.n
  have h8 := hM.n8
  refine lv_aload_n hx hb dX4_on_0 rfl (lv_at hl 0 rfl) ?_
  refine lv_iload_n hx hb dX4_on_1 rfl (lv_at hl 1 rfl) ?_
  refine hd_callVi (As := [.int x]) (rest := []) ⟨hx, hb, hml, hown, hts⟩ hE hP hS (c_X4_isPerson l G u M h0 x) rfl (cwV 1 hts gX4_on_X4_isPerson rfl rfl rfl (by decide +kernel) ⟨Nat.le_of_ble_eq_true rfl, Nat.le_of_ble_eq_true rfl⟩) (do_recv hE hP) rfl hl.1 rfl (Nat.le_of_ble_eq_true rfl) dX4_on_2 (fun rq_1 vq_1 H locs q_1 hP hS => ?_)
  have hP := hP.cast (q_1.2)
  refine lv_cast q_1.1 ?_
  refine bo_eq (tgt := 28) hx hb dX4_on_5 (by decide) (fun c_2 => ?_) (fun c_2 => ?_)
  · skip
    refine lv_aload_n hx hb dX4_on_28 rfl (lv_at hl 0 rfl) ?_
    refine lv_ldc (v := (-1000000001)) hx hb hown (hts (.constant RX4 55 ((-1000000001))) (by decide +kernel)) dX4_on_29 ?_
    refine hd_callVi (As := [.int (-1000000001)]) (rest := []) ⟨hx, hb, hml, hown, hts⟩ hE hP hS (c_X4_found_0 l G u F h6) rfl (cwV 1 hts gX4_on_X4_found rfl rfl rfl (by decide +kernel) ⟨Nat.le_of_ble_eq_true rfl, Nat.le_of_ble_eq_true rfl⟩) (do_recv hE hP) rfl hl.1 rfl (Nat.le_of_ble_eq_true rfl) dX4_on_31 (fun rq_3 vq_3 H locs q_3 hP hS => ?_)
    have hP := hP.cast (q_3.2)
    refine lv_cast q_3.1 ?_
    exact hd_iret hx hb hr hlocks hP hS (P3.of (by first | rfl | (simp [X_on, bey, none3, bmp, c_2]; done) | (exfalso; simp_all; done) | (simp only [X_on, bey, none3, bmp, c_2, ↓reduceIte] <;> rfl)) ((sI_ne _ _ (by decide)).trans h0) ((sI_ne _ _ (by decide)).trans h1) (sI_at _ _ _) (by decide) (by decide) (by decide) (fun k k0 k1 k6 => ((sI_ne _ _ k6).trans rfl)) rfl) dX4_on_34
  · skip
    obtain ⟨q, hq, rfl⟩ := pe_get hM c_2
    refine lv_iconst (v := 0) hx hb dX4_on_8 (by decide) ?_
    refine lv_sipush (v := 400) hx hb dX4_on_9 (by decide) ?_
    refine lv_iload_n hx hb dX4_on_12 rfl (lv_at hl 2 rfl) ?_
    refine hd_callSi (As := [.int 0, .int 400, .int n]) (rest := []) ⟨hx, hb, hml, hown, hts⟩ hE hP hS (c_X4_isFrom l G u 0 400 n) rfl (va_cwS 3 hts gX4_on_X4_isFrom rfl rfl rfl (by decide +kernel) ⟨Nat.le_of_ble_eq_true rfl, Nat.le_of_ble_eq_true rfl⟩) rfl hl.1 rfl (Nat.le_of_ble_eq_true rfl) dX4_on_13 (fun rq_4 vq_4 H locs q_4 hP hS => ?_)
    have hP := hP.cast (q_4.2)
    refine lv_cast q_4.1 ?_
    refine bo_eq (tgt := 28) hx hb dX4_on_16 (by decide) (fun c_5 => ?_) (fun c_5 => ?_)
    · skip
      refine lv_aload_n hx hb dX4_on_28 rfl (lv_at hl 0 rfl) ?_
      refine lv_ldc (v := (-1000000001)) hx hb hown (hts (.constant RX4 55 ((-1000000001))) (by decide +kernel)) dX4_on_29 ?_
      refine hd_callVi (As := [.int (-1000000001)]) (rest := []) ⟨hx, hb, hml, hown, hts⟩ hE hP hS (c_X4_found_0 l G u F h6) rfl (cwV 1 hts gX4_on_X4_found rfl rfl rfl (by decide +kernel) ⟨Nat.le_of_ble_eq_true rfl, Nat.le_of_ble_eq_true rfl⟩) (do_recv hE hP) rfl hl.1 rfl (Nat.le_of_ble_eq_true rfl) dX4_on_31 (fun rq_6 vq_6 H locs q_6 hP hS => ?_)
      have hP := hP.cast (q_6.2)
      refine lv_cast q_6.1 ?_
      exact hd_iret hx hb hr hlocks hP hS (P3.of (by first | rfl | (simp [X_on, bey, none3, bmp, nI_clamp (show q < 2 ^ 31 by omega), c_2, c_5]; done) | (exfalso; simp_all; done) | (simp only [X_on, bey, none3, bmp, nI_clamp (show q < 2 ^ 31 by omega), c_2, c_5, ↓reduceIte] <;> rfl)) ((sI_ne _ _ (by decide)).trans h0) ((sI_ne _ _ (by decide)).trans h1) (sI_at _ _ _) (by decide) (by decide) (by decide) (fun k k0 k1 k6 => ((sI_ne _ _ k6).trans rfl)) rfl) dX4_on_34
    · skip
      obtain ⟨n9, hn9a, hn9b, rfl⟩ := inI_nat c_5 rfl rfl (na := 0) (nb := 400) (by decide) (by decide)
      refine lv_iconst (v := 0) hx hb dX4_on_19 (by decide) ?_
      refine lv_iconst (v := 2) hx hb dX4_on_20 (by decide) ?_
      refine lv_iload_n hx hb dX4_on_21 rfl (lv_at hl 3 rfl) ?_
      refine hd_callSi (As := [.int 0, .int 2, .int 2]) (rest := []) ⟨hx, hb, hml, hown, hts⟩ hE hP hS (c_X4_isFrom l G u 0 2 2) rfl (va_cwS 3 hts gX4_on_X4_isFrom rfl rfl rfl (by decide +kernel) ⟨Nat.le_of_ble_eq_true rfl, Nat.le_of_ble_eq_true rfl⟩) rfl hl.1 rfl (Nat.le_of_ble_eq_true rfl) dX4_on_22 (fun rq_7 vq_7 H locs q_7 hP hS => ?_)
      have hP := hP.cast (q_7.2)
      refine lv_cast q_7.1 ?_
      refine bo_ne (tgt := 35) hx hb dX4_on_25 (by decide) (fun c_8 => ?_) (fun c_8 => absurd c_8 (by decide))
      refine lv_aload_n hx hb dX4_on_35 rfl (lv_at hl 0 rfl) ?_
      refine hd_callVr (As := []) (rest := []) ⟨hx, hb, hml, hown, hts⟩ hE hP hS (c_X4_freshTrial l G u M T h0 h1 (hM).1 tT) rfl (cwV 0 hts gX4_on_X4_freshTrial rfl rfl rfl (by decide +kernel) ⟨Nat.le_of_ble_eq_true rfl, Nat.le_of_ble_eq_true rfl⟩) (do_recv hE hP) rfl hl.1 rfl (Nat.le_of_ble_eq_true rfl) dX4_on_36 (fun H locs hP hS => ?_)
      refine lv_astore (lv' := [(4, .ref (gS G 1)), (0, .ref (gad G 0)), (1, .int (nI q)), (2, .int (nI n9)), (3, .int 2)]) hx hb dX4_on_39 hl (by decide) rfl (fun ls hl => ?_)
      refine lv_aload hx hb dX4_on_41 (lv_at hl 0 rfl) ?_
      refine lv_iload_n hx hb dX4_on_43 rfl (lv_at hl 3 rfl) ?_
      refine hd_callVv (As := [.int (nI n9)]) (rest := []) ⟨hx, hb, hml, hown, hts⟩ hE hP hS (c_X1_goOn l G u 1 (by decide) M hM n9 (by omega)) rfl (cwV 1 hts gX4_on_X1_goOn rfl rfl rfl (by decide +kernel) ⟨Nat.le_of_ble_eq_true rfl, Nat.le_of_ble_eq_true rfl⟩) (sc_recv hE hP (by decide)) rfl hl.1 rfl (Nat.le_of_ble_eq_true rfl) dX4_on_44 (fun vq_10 H locs q_10 hP hS => ?_)
      have hP := hP.cast (q_10)
      refine lv_aload hx hb dX4_on_47 (lv_at hl 0 rfl) ?_
      refine lv_iconst (v := 3) hx hb dX4_on_49 (by decide) ?_
      refine lv_iload_n hx hb dX4_on_50 rfl (lv_at hl 4 rfl) ?_
      refine lv_iadd hx hb dX4_on_51 ?_
      refine lv_cast (y := 5) (by decide) ?_
      refine hd_callVr (As := [.int 5]) (rest := []) ⟨hx, hb, hml, hown, hts⟩ hE hP hS (c_X1_rowOf_5 l G u 1 (by decide) (goN M n9)) rfl (cwV 1 hts gX4_on_X1_rowOf rfl rfl rfl (by decide +kernel) ⟨Nat.le_of_ble_eq_true rfl, Nat.le_of_ble_eq_true rfl⟩) (sc_recv hE hP (by decide)) rfl hl.1 rfl (Nat.le_of_ble_eq_true rfl) dX4_on_52 (fun H locs hP hS => ?_)
      refine lv_astore (lv' := [(5, .ref (gSA G 1 5)), (4, .ref (gS G 1)), (0, .ref (gad G 0)), (1, .int (nI q)), (2, .int (nI n9)), (3, .int 2)]) hx hb dX4_on_55 hl (by decide) rfl (fun ls hl => ?_)
      refine lv_aload hx hb dX4_on_57 (lv_at hl 0 rfl) ?_
      refine lv_ifnonnull (tgt := 71) hx hb dX4_on_59 (by decide) ?_
      refine lv_aload hx hb dX4_on_71 (lv_at hl 0 rfl) ?_
      refine lv_iload_n hx hb dX4_on_73 rfl (lv_at hl 3 rfl) ?_
      refine sc_ald hx hb hE hP (by decide) (sI_at _ _ _) 5 (by decide) q (by omega) dX4_on_74 ?_
      exact hd_iret hx hb hr hlocks hP hS (P3.of (by first | rfl | (simp [X_on, bey, none3, bmp, nI_clamp (show q < 2 ^ 31 by omega), nI_clamp (show n9 < 2 ^ 31 by omega), c_2, c_5, c_8]; done) | (exfalso; simp_all; done) | (simp only [X_on, bey, none3, bmp, nI_clamp (show q < 2 ^ 31 by omega), nI_clamp (show n9 < 2 ^ 31 by omega), c_2, c_5, c_8, ↓reduceIte] <;> rfl)) ((sI_ne _ _ (by decide)).trans h0) (sI_at _ _ _) ((sI_ne _ _ (by decide)).trans h6) (by decide) (by decide) (by decide) (fun k k0 k1 k6 => ((sI_ne _ _ k1).trans rfl)) rfl) dX4_on_75
set_option maxHeartbeats 4000000 in
set_option maxRecDepth 100000 in
theorem c_X4_on_o (l : Launch) (G : Geo) (u : Sg) (M F : Nat → Int32) (h0 : u.1 0 = M) (h6 : u.1 6 = F) (hM : Wf M) (T : Nat → Int32) (h1 : u.1 1 = T) (tT : ∀ k : Nat, 53 ≤ k → T k = 0) (x n : Int32) (w : Int32) (h_0 : ¬ w = 0) (h_1 : ¬ w = 1) (h_2 : ¬ w = 2) : CtI l G yX4_on wsX4_on (rmO 6 133) [.ref (gad G 0), .int x, .int n, .int w] u (P3 u 0 1 6 (X_on M F x n w)) := by
  refine CtI.of (cc := cX4_on) (maxL := 6) (ret := (some .int)) (own := RX4) (by decide) rfl rfl ?_
  rintro pg ev s0 mm below meth cd ⟨hx, hb, hr, hml, hown, hts, hlocks⟩ hE hP ls hl
  have hS : va_S (gA G) s0.heap s0.heap [] := va_S.rf
  have hl : lv_has ls 6 [(0, .ref (gad G 0)), (1, .int x), (2, .int n), (3, .int w)] := hl
  have hn := hM.n
  have h8 := hM.n8
  refine lv_aload_n hx hb dX4_on_0 rfl (lv_at hl 0 rfl) ?_
  refine lv_iload_n hx hb dX4_on_1 rfl (lv_at hl 1 rfl) ?_
  refine hd_callVi (As := [.int x]) (rest := []) ⟨hx, hb, hml, hown, hts⟩ hE hP hS (c_X4_isPerson l G u M h0 x) rfl (cwV 1 hts gX4_on_X4_isPerson rfl rfl rfl (by decide +kernel) ⟨Nat.le_of_ble_eq_true rfl, Nat.le_of_ble_eq_true rfl⟩) (do_recv hE hP) rfl hl.1 rfl (Nat.le_of_ble_eq_true rfl) dX4_on_2 (fun rq_1 vq_1 H locs q_1 hP hS => ?_)
  have hP := hP.cast (q_1.2)
  refine lv_cast q_1.1 ?_
  refine bo_eq (tgt := 28) hx hb dX4_on_5 (by decide) (fun c_2 => ?_) (fun c_2 => ?_)
  · skip
    refine lv_aload_n hx hb dX4_on_28 rfl (lv_at hl 0 rfl) ?_
    refine lv_ldc (v := (-1000000001)) hx hb hown (hts (.constant RX4 55 ((-1000000001))) (by decide +kernel)) dX4_on_29 ?_
    refine hd_callVi (As := [.int (-1000000001)]) (rest := []) ⟨hx, hb, hml, hown, hts⟩ hE hP hS (c_X4_found_0 l G u F h6) rfl (cwV 1 hts gX4_on_X4_found rfl rfl rfl (by decide +kernel) ⟨Nat.le_of_ble_eq_true rfl, Nat.le_of_ble_eq_true rfl⟩) (do_recv hE hP) rfl hl.1 rfl (Nat.le_of_ble_eq_true rfl) dX4_on_31 (fun rq_3 vq_3 H locs q_3 hP hS => ?_)
    have hP := hP.cast (q_3.2)
    refine lv_cast q_3.1 ?_
    exact hd_iret hx hb hr hlocks hP hS (P3.of (by first | rfl | (simp [X_on, h_0, h_1, h_2, bey, none3, bmp, c_2]; done) | (exfalso; simp_all; done) | (simp only [X_on, h_0, h_1, h_2, bey, none3, bmp, c_2, ↓reduceIte] <;> rfl)) ((sI_ne _ _ (by decide)).trans h0) ((sI_ne _ _ (by decide)).trans h1) (sI_at _ _ _) (by decide) (by decide) (by decide) (fun k k0 k1 k6 => ((sI_ne _ _ k6).trans rfl)) rfl) dX4_on_34
  · skip
    obtain ⟨q, hq, rfl⟩ := pe_get hM c_2
    refine lv_iconst (v := 0) hx hb dX4_on_8 (by decide) ?_
    refine lv_sipush (v := 400) hx hb dX4_on_9 (by decide) ?_
    refine lv_iload_n hx hb dX4_on_12 rfl (lv_at hl 2 rfl) ?_
    refine hd_callSi (As := [.int 0, .int 400, .int n]) (rest := []) ⟨hx, hb, hml, hown, hts⟩ hE hP hS (c_X4_isFrom l G u 0 400 n) rfl (va_cwS 3 hts gX4_on_X4_isFrom rfl rfl rfl (by decide +kernel) ⟨Nat.le_of_ble_eq_true rfl, Nat.le_of_ble_eq_true rfl⟩) rfl hl.1 rfl (Nat.le_of_ble_eq_true rfl) dX4_on_13 (fun rq_4 vq_4 H locs q_4 hP hS => ?_)
    have hP := hP.cast (q_4.2)
    refine lv_cast q_4.1 ?_
    refine bo_eq (tgt := 28) hx hb dX4_on_16 (by decide) (fun c_5 => ?_) (fun c_5 => ?_)
    · skip
      refine lv_aload_n hx hb dX4_on_28 rfl (lv_at hl 0 rfl) ?_
      refine lv_ldc (v := (-1000000001)) hx hb hown (hts (.constant RX4 55 ((-1000000001))) (by decide +kernel)) dX4_on_29 ?_
      refine hd_callVi (As := [.int (-1000000001)]) (rest := []) ⟨hx, hb, hml, hown, hts⟩ hE hP hS (c_X4_found_0 l G u F h6) rfl (cwV 1 hts gX4_on_X4_found rfl rfl rfl (by decide +kernel) ⟨Nat.le_of_ble_eq_true rfl, Nat.le_of_ble_eq_true rfl⟩) (do_recv hE hP) rfl hl.1 rfl (Nat.le_of_ble_eq_true rfl) dX4_on_31 (fun rq_6 vq_6 H locs q_6 hP hS => ?_)
      have hP := hP.cast (q_6.2)
      refine lv_cast q_6.1 ?_
      exact hd_iret hx hb hr hlocks hP hS (P3.of (by first | rfl | (simp [X_on, h_0, h_1, h_2, bey, none3, bmp, nI_clamp (show q < 2 ^ 31 by omega), c_2, c_5]; done) | (exfalso; simp_all; done) | (simp only [X_on, h_0, h_1, h_2, bey, none3, bmp, nI_clamp (show q < 2 ^ 31 by omega), c_2, c_5, ↓reduceIte] <;> rfl)) ((sI_ne _ _ (by decide)).trans h0) ((sI_ne _ _ (by decide)).trans h1) (sI_at _ _ _) (by decide) (by decide) (by decide) (fun k k0 k1 k6 => ((sI_ne _ _ k6).trans rfl)) rfl) dX4_on_34
    · skip
      obtain ⟨n9, hn9a, hn9b, rfl⟩ := inI_nat c_5 rfl rfl (na := 0) (nb := 400) (by decide) (by decide)
      refine lv_iconst (v := 0) hx hb dX4_on_19 (by decide) ?_
      refine lv_iconst (v := 2) hx hb dX4_on_20 (by decide) ?_
      refine lv_iload_n hx hb dX4_on_21 rfl (lv_at hl 3 rfl) ?_
      refine hd_callSi (As := [.int 0, .int 2, .int w]) (rest := []) ⟨hx, hb, hml, hown, hts⟩ hE hP hS (c_X4_isFrom l G u 0 2 w) rfl (va_cwS 3 hts gX4_on_X4_isFrom rfl rfl rfl (by decide +kernel) ⟨Nat.le_of_ble_eq_true rfl, Nat.le_of_ble_eq_true rfl⟩) rfl hl.1 rfl (Nat.le_of_ble_eq_true rfl) dX4_on_22 (fun rq_7 vq_7 H locs q_7 hP hS => ?_)
      have hP := hP.cast (q_7.2)
      refine lv_cast q_7.1 ?_
      refine bo_ne (tgt := 35) hx hb dX4_on_25 (by decide) (fun c_8 => absurd (in02 c_8) (by simp [h_0, h_1, h_2])) (fun c_8 => ?_)
      refine lv_aload_n hx hb dX4_on_28 rfl (lv_at hl 0 rfl) ?_
      refine lv_ldc (v := (-1000000001)) hx hb hown (hts (.constant RX4 55 ((-1000000001))) (by decide +kernel)) dX4_on_29 ?_
      refine hd_callVi (As := [.int (-1000000001)]) (rest := []) ⟨hx, hb, hml, hown, hts⟩ hE hP hS (c_X4_found_0 l G u F h6) rfl (cwV 1 hts gX4_on_X4_found rfl rfl rfl (by decide +kernel) ⟨Nat.le_of_ble_eq_true rfl, Nat.le_of_ble_eq_true rfl⟩) (do_recv hE hP) rfl hl.1 rfl (Nat.le_of_ble_eq_true rfl) dX4_on_31 (fun rq_9 vq_9 H locs q_9 hP hS => ?_)
      have hP := hP.cast (q_9.2)
      refine lv_cast q_9.1 ?_
      exact hd_iret hx hb hr hlocks hP hS (P3.of (by first | rfl | (simp [X_on, h_0, h_1, h_2, bey, none3, bmp, nI_clamp (show q < 2 ^ 31 by omega), nI_clamp (show n9 < 2 ^ 31 by omega), c_2, c_5, c_8]; done) | (exfalso; simp_all; done) | (simp only [X_on, h_0, h_1, h_2, bey, none3, bmp, nI_clamp (show q < 2 ^ 31 by omega), nI_clamp (show n9 < 2 ^ 31 by omega), c_2, c_5, c_8, ↓reduceIte] <;> rfl)) ((sI_ne _ _ (by decide)).trans h0) ((sI_ne _ _ (by decide)).trans h1) (sI_at _ _ _) (by decide) (by decide) (by decide) (fun k k0 k1 k6 => ((sI_ne _ _ k6).trans rfl)) rfl) dX4_on_34
theorem c_X4_on (l : Launch) (G : Geo) (u : Sg) (M F : Nat → Int32) (h0 : u.1 0 = M) (h6 : u.1 6 = F) (hM : Wf M) (T : Nat → Int32) (h1 : u.1 1 = T) (tT : ∀ k : Nat, 53 ≤ k → T k = 0) (x n : Int32) (w : Int32) : CtI l G yX4_on wsX4_on (rmO 6 133) [.ref (gad G 0), .int x, .int n, .int w] u (P3 u 0 1 6 (X_on M F x n w)) := by
  by_cases h_0 : w = 0
  · subst h_0; exact c_X4_on_0 l G u M F h0 h6 hM T h1 tT x n
  by_cases h_1 : w = 1
  · subst h_1; exact c_X4_on_1 l G u M F h0 h6 hM T h1 tT x n
  by_cases h_2 : w = 2
  · subst h_2; exact c_X4_on_2 l G u M F h0 h6 hM T h1 tT x n
  exact c_X4_on_o l G u M F h0 h6 hM T h1 tT x n w h_0 h_1 h_2
set_option maxHeartbeats 4000000 in
set_option maxRecDepth 100000 in
theorem c_X4_loose (l : Launch) (G : Geo) (u : Sg) (M F : Nat → Int32) (h0 : u.1 0 = M) (h6 : u.1 6 = F) (hM : Wf M) (T : Nat → Int32) (h1 : u.1 1 = T) (tT : ∀ k : Nat, 53 ≤ k → T k = 0) (n : Int32) : CtI l G yX4_loose wsX4_loose (rmO 6 133) [.ref (gad G 0), .int n] u (P3 u 0 1 6 (X_loose M F n)) := by
  refine CtI.of (cc := cX4_loose) (maxL := 3) (ret := (some .int)) (own := RX4) (by decide) rfl rfl ?_
  rintro pg ev s0 mm below meth cd ⟨hx, hb, hr, hml, hown, hts, hlocks⟩ hE hP ls hl
  have hS : va_S (gA G) s0.heap s0.heap [] := va_S.rf
  have hl : lv_has ls 3 [(0, .ref (gad G 0)), (1, .int n)] := hl
  have hn := hM.n
  have h8 := hM.n8
  refine lv_iconst (v := 0) hx hb dX4_loose_0 (by decide) ?_
  refine lv_sipush (v := 400) hx hb dX4_loose_1 (by decide) ?_
  refine lv_iload_n hx hb dX4_loose_4 rfl (lv_at hl 1 rfl) ?_
  refine hd_callSi (As := [.int 0, .int 400, .int n]) (rest := []) ⟨hx, hb, hml, hown, hts⟩ hE hP hS (c_X4_isFrom l G u 0 400 n) rfl (va_cwS 3 hts gX4_loose_X4_isFrom rfl rfl rfl (by decide +kernel) ⟨Nat.le_of_ble_eq_true rfl, Nat.le_of_ble_eq_true rfl⟩) rfl hl.1 rfl (Nat.le_of_ble_eq_true rfl) dX4_loose_5 (fun rq_1 vq_1 H locs q_1 hP hS => ?_)
  have hP := hP.cast (q_1.2)
  refine lv_cast q_1.1 ?_
  refine bo_ne (tgt := 18) hx hb dX4_loose_8 (by decide) (fun c_2 => ?_) (fun c_2 => ?_)
  · skip
    obtain ⟨n9, hn9a, hn9b, rfl⟩ := inI_nat c_2 rfl rfl (na := 0) (nb := 400) (by decide) (by decide)
    refine lv_aload_n hx hb dX4_loose_18 rfl (lv_at hl 0 rfl) ?_
    refine hd_callVr (As := []) (rest := []) ⟨hx, hb, hml, hown, hts⟩ hE hP hS (c_X4_freshTrial l G u M T h0 h1 (hM).1 tT) rfl (cwV 0 hts gX4_loose_X4_freshTrial rfl rfl rfl (by decide +kernel) ⟨Nat.le_of_ble_eq_true rfl, Nat.le_of_ble_eq_true rfl⟩) (do_recv hE hP) rfl hl.1 rfl (Nat.le_of_ble_eq_true rfl) dX4_loose_19 (fun H locs hP hS => ?_)
    refine lv_astore_n (lv' := [(2, .ref (gS G 1)), (0, .ref (gad G 0)), (1, .int (nI n9))]) hx hb dX4_loose_22 rfl hl (by decide) rfl (fun ls hl => ?_)
    refine lv_aload_n hx hb dX4_loose_23 rfl (lv_at hl 0 rfl) ?_
    refine lv_iload_n hx hb dX4_loose_24 rfl (lv_at hl 2 rfl) ?_
    refine hd_callVv (As := [.int (nI n9)]) (rest := []) ⟨hx, hb, hml, hown, hts⟩ hE hP hS (c_X1_goOn l G u 1 (by decide) M hM n9 (by omega)) rfl (cwV 1 hts gX4_loose_X1_goOn rfl rfl rfl (by decide +kernel) ⟨Nat.le_of_ble_eq_true rfl, Nat.le_of_ble_eq_true rfl⟩) (sc_recv hE hP (by decide)) rfl hl.1 rfl (Nat.le_of_ble_eq_true rfl) dX4_loose_25 (fun vq_4 H locs q_4 hP hS => ?_)
    have hP := hP.cast (q_4)
    refine lv_aload_n hx hb dX4_loose_28 rfl (lv_at hl 0 rfl) ?_
    refine hd_callVi (As := []) (rest := []) ⟨hx, hb, hml, hown, hts⟩ hE hP hS (c_X1_countLoose l G u 1 (by decide) (goN M n9) (Wf_goN hM _)) rfl (cwV 0 hts gX4_loose_X1_countLoose rfl rfl rfl (by decide +kernel) ⟨Nat.le_of_ble_eq_true rfl, Nat.le_of_ble_eq_true rfl⟩) (sc_recv hE hP (by decide)) rfl hl.1 rfl (Nat.le_of_ble_eq_true rfl) dX4_loose_29 (fun rq_5 vq_5 H locs q_5 hP hS => ?_)
    have hP := hP.cast (q_5.2)
    refine lv_cast q_5.1 ?_
    exact hd_iret hx hb hr hlocks hP hS (P3.of (by first | rfl | (simp [X_loose, bey, none3, bmp, nI_clamp (show n9 < 2 ^ 31 by omega), c_2]; done) | (exfalso; simp_all; done) | (simp only [X_loose, bey, none3, bmp, nI_clamp (show n9 < 2 ^ 31 by omega), c_2, ↓reduceIte] <;> rfl)) ((sI_ne _ _ (by decide)).trans h0) (sI_at _ _ _) ((sI_ne _ _ (by decide)).trans h6) (by decide) (by decide) (by decide) (fun k k0 k1 k6 => ((sI_ne _ _ k1).trans rfl)) rfl) dX4_loose_32
  · skip
    refine lv_aload_n hx hb dX4_loose_11 rfl (lv_at hl 0 rfl) ?_
    refine lv_ldc (v := (-1000000001)) hx hb hown (hts (.constant RX4 55 ((-1000000001))) (by decide +kernel)) dX4_loose_12 ?_
    refine hd_callVi (As := [.int (-1000000001)]) (rest := []) ⟨hx, hb, hml, hown, hts⟩ hE hP hS (c_X4_found_0 l G u F h6) rfl (cwV 1 hts gX4_loose_X4_found rfl rfl rfl (by decide +kernel) ⟨Nat.le_of_ble_eq_true rfl, Nat.le_of_ble_eq_true rfl⟩) (do_recv hE hP) rfl hl.1 rfl (Nat.le_of_ble_eq_true rfl) dX4_loose_14 (fun rq_6 vq_6 H locs q_6 hP hS => ?_)
    have hP := hP.cast (q_6.2)
    refine lv_cast q_6.1 ?_
    exact hd_iret hx hb hr hlocks hP hS (P3.of (by first | rfl | (simp [X_loose, bey, none3, bmp, c_2]; done) | (exfalso; simp_all; done) | (simp only [X_loose, bey, none3, bmp, c_2, ↓reduceIte] <;> rfl)) ((sI_ne _ _ (by decide)).trans h0) ((sI_ne _ _ (by decide)).trans h1) (sI_at _ _ _) (by decide) (by decide) (by decide) (fun k k0 k1 k6 => ((sI_ne _ _ k6).trans rfl)) rfl) dX4_loose_17
set_option maxHeartbeats 4000000 in
set_option maxRecDepth 100000 in
theorem c_X4_comes (l : Launch) (G : Geo) (u : Sg) (M F : Nat → Int32) (h0 : u.1 0 = M) (h6 : u.1 6 = F) (hM : Wf M) (T : Nat → Int32) (h1 : u.1 1 = T) (tT : ∀ k : Nat, 53 ≤ k → T k = 0) (x : Int32) : CtI l G yX4_comes wsX4_comes (rmO 6 134) [.ref (gad G 0), .int x] u (P3 u 0 1 6 (X_comes M F x)) := by
  refine CtI.of (cc := cX4_comes) (maxL := 2) (ret := (some .int)) (own := RX4) (by decide) rfl rfl ?_
  rintro pg ev s0 mm below meth cd ⟨hx, hb, hr, hml, hown, hts, hlocks⟩ hE hP ls hl
  have hS : va_S (gA G) s0.heap s0.heap [] := va_S.rf
  have hl : lv_has ls 2 [(0, .ref (gad G 0)), (1, .int x)] := hl
  have hn := hM.n
  have h8 := hM.n8
  refine lv_aload_n hx hb dX4_comes_0 rfl (lv_at hl 0 rfl) ?_
  refine lv_iload_n hx hb dX4_comes_1 rfl (lv_at hl 1 rfl) ?_
  refine hd_callVi (As := [.int x]) (rest := []) ⟨hx, hb, hml, hown, hts⟩ hE hP hS (c_X4_isPerson l G u M h0 x) rfl (cwV 1 hts gX4_comes_X4_isPerson rfl rfl rfl (by decide +kernel) ⟨Nat.le_of_ble_eq_true rfl, Nat.le_of_ble_eq_true rfl⟩) (do_recv hE hP) rfl hl.1 rfl (Nat.le_of_ble_eq_true rfl) dX4_comes_2 (fun rq_1 vq_1 H locs q_1 hP hS => ?_)
  have hP := hP.cast (q_1.2)
  refine lv_cast q_1.1 ?_
  refine bo_ne (tgt := 15) hx hb dX4_comes_5 (by decide) (fun c_2 => ?_) (fun c_2 => ?_)
  · skip
    obtain ⟨q, hq, rfl⟩ := pe_get hM c_2
    refine lv_aload_n hx hb dX4_comes_15 rfl (lv_at hl 0 rfl) ?_
    refine lv_aload_n hx hb dX4_comes_16 rfl (lv_at hl 0 rfl) ?_
    refine hd_callVr (As := []) (rest := [.ref (gad G 0)]) ⟨hx, hb, hml, hown, hts⟩ hE hP hS (c_X4_freshTrial l G u M T h0 h1 (hM).1 tT) rfl (cwV 0 hts gX4_comes_X4_freshTrial rfl rfl rfl (by decide +kernel) ⟨Nat.le_of_ble_eq_true rfl, Nat.le_of_ble_eq_true rfl⟩) (do_recv hE hP) rfl hl.1 rfl (Nat.le_of_ble_eq_true rfl) dX4_comes_17 (fun H locs hP hS => ?_)
    refine lv_iload_n hx hb dX4_comes_20 rfl (lv_at hl 1 rfl) ?_
    refine lv_sipush (v := 400) hx hb dX4_comes_21 (by decide) ?_
    refine hd_callVi (As := [.int (nI q), .int 400]) (rest := [.ref (gad G 0)]) ⟨hx, hb, hml, hown, hts⟩ hE hP hS (c_X1_firstIn l G u 1 (by decide) M hM q 400 (by omega) (by omega)) rfl (cwV 2 hts gX4_comes_X1_firstIn rfl rfl rfl (by decide +kernel) ⟨Nat.le_of_ble_eq_true rfl, Nat.le_of_ble_eq_true rfl⟩) (sc_recv hE hP (by decide)) rfl hl.1 rfl (Nat.le_of_ble_eq_true rfl) dX4_comes_24 (fun rq_4 vq_4 H locs q_4 hP hS => ?_)
    obtain ⟨q_4r, q_4N, q_4w, q_4v⟩ := q_4
    have hP := hP.cast q_4v
    refine lv_cast q_4r ?_
    refine hd_callVi (As := [.int (fst1 (inP M q) (400 + 1) 0)]) (rest := []) ⟨hx, hb, hml, hown, hts⟩ hE hP hS (c_X4_orNone l G (sI u 1 q_4N) F ((sI_ne _ _ (by decide)).trans h6) (fst1 (inP M q) (400 + 1) 0)) rfl (cwV 1 hts gX4_comes_X4_orNone rfl rfl rfl (by decide +kernel) ⟨Nat.le_of_ble_eq_true rfl, Nat.le_of_ble_eq_true rfl⟩) (do_recv hE hP) rfl hl.1 rfl (Nat.le_of_ble_eq_true rfl) dX4_comes_27 (fun rq_5 vq_5 H locs q_5 hP hS => ?_)
    have hP := hP.cast (q_5.2)
    refine lv_cast q_5.1 ?_
    exact hd_iret hx hb hr hlocks hP hS (P3.of (by first | (simp [X_comes, bey, bmp, c_2]; done) | (rw [X_comes, c_2, if_neg (by decide), nI_clamp (show q < 2 ^ 31 by omega), orN_eq])) ((sI_ne _ _ (by decide)).trans ((sI_ne _ _ (by decide)).trans h0)) ((sI_ne _ _ (by decide)).trans (sI_at _ _ _)) (sI_at _ _ _) (by decide) (by decide) (by decide) (fun k k0 k1 k6 => ((sI_ne _ _ k6).trans ((sI_ne _ _ k1).trans rfl))) rfl) dX4_comes_30
  · skip
    refine lv_aload_n hx hb dX4_comes_8 rfl (lv_at hl 0 rfl) ?_
    refine lv_ldc (v := (-1000000001)) hx hb hown (hts (.constant RX4 55 ((-1000000001))) (by decide +kernel)) dX4_comes_9 ?_
    refine hd_callVi (As := [.int (-1000000001)]) (rest := []) ⟨hx, hb, hml, hown, hts⟩ hE hP hS (c_X4_found_0 l G u F h6) rfl (cwV 1 hts gX4_comes_X4_found rfl rfl rfl (by decide +kernel) ⟨Nat.le_of_ble_eq_true rfl, Nat.le_of_ble_eq_true rfl⟩) (do_recv hE hP) rfl hl.1 rfl (Nat.le_of_ble_eq_true rfl) dX4_comes_11 (fun rq_6 vq_6 H locs q_6 hP hS => ?_)
    have hP := hP.cast (q_6.2)
    refine lv_cast q_6.1 ?_
    exact hd_iret hx hb hr hlocks hP hS (P3.of (by first | (simp [X_comes, bey, bmp, c_2]; done) | (rw [X_comes, c_2, if_neg (by decide), orN_eq])) ((sI_ne _ _ (by decide)).trans h0) ((sI_ne _ _ (by decide)).trans h1) (sI_at _ _ _) (by decide) (by decide) (by decide) (fun k k0 k1 k6 => ((sI_ne _ _ k6).trans rfl)) rfl) dX4_comes_14
set_option maxHeartbeats 4000000 in
set_option maxRecDepth 100000 in
theorem c_X4_shuts (l : Launch) (G : Geo) (u : Sg) (M F : Nat → Int32) (h0 : u.1 0 = M) (h6 : u.1 6 = F) (hM : Wf M) (T : Nat → Int32) (h1 : u.1 1 = T) (tT : ∀ k : Nat, 53 ≤ k → T k = 0) : CtI l G yX4_shuts wsX4_shuts (rmO 6 133) [.ref (gad G 0)] u (P3 u 0 1 6 (X_shuts M F)) := by
  refine CtI.of (cc := cX4_shuts) (maxL := 1) (ret := (some .int)) (own := RX4) (by decide) rfl rfl ?_
  rintro pg ev s0 mm below meth cd ⟨hx, hb, hr, hml, hown, hts, hlocks⟩ hE hP ls hl
  have hS : va_S (gA G) s0.heap s0.heap [] := va_S.rf
  have hl : lv_has ls 1 [(0, .ref (gad G 0))] := hl
  have hn := hM.n
  have h8 := hM.n8
  refine lv_aload_n hx hb dX4_shuts_0 rfl (lv_at hl 0 rfl) ?_
  refine lv_aload_n hx hb dX4_shuts_1 rfl (lv_at hl 0 rfl) ?_
  refine hd_callVr (As := []) (rest := [.ref (gad G 0)]) ⟨hx, hb, hml, hown, hts⟩ hE hP hS (c_X4_freshTrial l G u M T h0 h1 (hM).1 tT) rfl (cwV 0 hts gX4_shuts_X4_freshTrial rfl rfl rfl (by decide +kernel) ⟨Nat.le_of_ble_eq_true rfl, Nat.le_of_ble_eq_true rfl⟩) (do_recv hE hP) rfl hl.1 rfl (Nat.le_of_ble_eq_true rfl) dX4_shuts_2 (fun H locs hP hS => ?_)
  refine lv_sipush (v := 400) hx hb dX4_shuts_5 (by decide) ?_
  refine hd_callVi (As := [.int 400]) (rest := [.ref (gad G 0)]) ⟨hx, hb, hml, hown, hts⟩ hE hP hS (c_X1_firstShut l G u 1 (by decide) M hM 400 (by omega)) rfl (cwV 1 hts gX4_shuts_X1_firstShut rfl rfl rfl (by decide +kernel) ⟨Nat.le_of_ble_eq_true rfl, Nat.le_of_ble_eq_true rfl⟩) (sc_recv hE hP (by decide)) rfl hl.1 rfl (Nat.le_of_ble_eq_true rfl) dX4_shuts_8 (fun rq_2 vq_2 H locs q_2 hP hS => ?_)
  obtain ⟨q_2r, q_2N, q_2w, q_2v⟩ := q_2
  have hP := hP.cast q_2v
  refine lv_cast q_2r ?_
  refine hd_callVi (As := [.int (fst1 (shP M) (400 + 1) 0)]) (rest := []) ⟨hx, hb, hml, hown, hts⟩ hE hP hS (c_X4_orNone l G (sI u 1 q_2N) F ((sI_ne _ _ (by decide)).trans h6) (fst1 (shP M) (400 + 1) 0)) rfl (cwV 1 hts gX4_shuts_X4_orNone rfl rfl rfl (by decide +kernel) ⟨Nat.le_of_ble_eq_true rfl, Nat.le_of_ble_eq_true rfl⟩) (do_recv hE hP) rfl hl.1 rfl (Nat.le_of_ble_eq_true rfl) dX4_shuts_11 (fun rq_3 vq_3 H locs q_3 hP hS => ?_)
  have hP := hP.cast (q_3.2)
  refine lv_cast q_3.1 ?_
  exact hd_iret hx hb hr hlocks hP hS (P3.of (by first | (simp [X_shuts, bey, bmp, bey]; done) | (rw [X_shuts, orN_eq])) ((sI_ne _ _ (by decide)).trans ((sI_ne _ _ (by decide)).trans h0)) ((sI_ne _ _ (by decide)).trans (sI_at _ _ _)) (sI_at _ _ _) (by decide) (by decide) (by decide) (fun k k0 k1 k6 => ((sI_ne _ _ k6).trans ((sI_ne _ _ k1).trans rfl))) rfl) dX4_shuts_14
set_option maxHeartbeats 4000000 in
set_option maxRecDepth 100000 in
theorem c_X4_all (l : Launch) (G : Geo) (u : Sg) (M F : Nat → Int32) (h0 : u.1 0 = M) (h6 : u.1 6 = F) (hM : Wf M) (T : Nat → Int32) (h1 : u.1 1 = T) (tT : ∀ k : Nat, 53 ≤ k → T k = 0) : CtI l G yX4_all wsX4_all (rmO 6 133) [.ref (gad G 0)] u (P3 u 0 1 6 (X_all M F)) := by
  refine CtI.of (cc := cX4_all) (maxL := 1) (ret := (some .int)) (own := RX4) (by decide) rfl rfl ?_
  rintro pg ev s0 mm below meth cd ⟨hx, hb, hr, hml, hown, hts, hlocks⟩ hE hP ls hl
  have hS : va_S (gA G) s0.heap s0.heap [] := va_S.rf
  have hl : lv_has ls 1 [(0, .ref (gad G 0))] := hl
  have hn := hM.n
  have h8 := hM.n8
  refine lv_aload_n hx hb dX4_all_0 rfl (lv_at hl 0 rfl) ?_
  refine lv_aload_n hx hb dX4_all_1 rfl (lv_at hl 0 rfl) ?_
  refine hd_callVr (As := []) (rest := [.ref (gad G 0)]) ⟨hx, hb, hml, hown, hts⟩ hE hP hS (c_X4_freshTrial l G u M T h0 h1 (hM).1 tT) rfl (cwV 0 hts gX4_all_X4_freshTrial rfl rfl rfl (by decide +kernel) ⟨Nat.le_of_ble_eq_true rfl, Nat.le_of_ble_eq_true rfl⟩) (do_recv hE hP) rfl hl.1 rfl (Nat.le_of_ble_eq_true rfl) dX4_all_2 (fun H locs hP hS => ?_)
  refine lv_sipush (v := 400) hx hb dX4_all_5 (by decide) ?_
  refine hd_callVi (As := [.int 400]) (rest := [.ref (gad G 0)]) ⟨hx, hb, hml, hown, hts⟩ hE hP hS (c_X1_firstAllIn l G u 1 (by decide) M hM 400 (by omega)) rfl (cwV 1 hts gX4_all_X1_firstAllIn rfl rfl rfl (by decide +kernel) ⟨Nat.le_of_ble_eq_true rfl, Nat.le_of_ble_eq_true rfl⟩) (sc_recv hE hP (by decide)) rfl hl.1 rfl (Nat.le_of_ble_eq_true rfl) dX4_all_8 (fun rq_2 vq_2 H locs q_2 hP hS => ?_)
  obtain ⟨q_2r, q_2N, q_2w, q_2v⟩ := q_2
  have hP := hP.cast q_2v
  refine lv_cast q_2r ?_
  refine hd_callVi (As := [.int (fst1 (alP M) (400 + 1) 0)]) (rest := []) ⟨hx, hb, hml, hown, hts⟩ hE hP hS (c_X4_orNone l G (sI u 1 q_2N) F ((sI_ne _ _ (by decide)).trans h6) (fst1 (alP M) (400 + 1) 0)) rfl (cwV 1 hts gX4_all_X4_orNone rfl rfl rfl (by decide +kernel) ⟨Nat.le_of_ble_eq_true rfl, Nat.le_of_ble_eq_true rfl⟩) (do_recv hE hP) rfl hl.1 rfl (Nat.le_of_ble_eq_true rfl) dX4_all_11 (fun rq_3 vq_3 H locs q_3 hP hS => ?_)
  have hP := hP.cast (q_3.2)
  refine lv_cast q_3.1 ?_
  exact hd_iret hx hb hr hlocks hP hS (P3.of (by first | (simp [X_all, bey, bmp, bey]; done) | (rw [X_all, orN_eq])) ((sI_ne _ _ (by decide)).trans ((sI_ne _ _ (by decide)).trans h0)) ((sI_ne _ _ (by decide)).trans (sI_at _ _ _)) (sI_at _ _ _) (by decide) (by decide) (by decide) (fun k k0 k1 k6 => ((sI_ne _ _ k6).trans ((sI_ne _ _ k1).trans rfl))) rfl) dX4_all_14
