set_option maxHeartbeats 4000000 in
set_option maxRecDepth 100000 in
theorem c_X5_seconds (l : Launch) (G : Geo) (u : Sg) (M F : Nat → Int32) (h11 : u.1 11 = M) (h15 : u.1 15 = F) (hM : Wf M) (n : Int32) : CtI l G yX5_seconds wsX5_seconds (rmO 6 137) [.ref (gad G 34), .int n] u (P3 u 11 13 15 (X_seconds M F n)) := by
  refine CtI.of (cc := cX5_seconds) (maxL := 2) (ret := (some .int)) (own := RX5) (by decide) rfl rfl ?_
  rintro pg ev s0 mm below meth cd ⟨hx, hb, hr, hml, hown, hts, hlocks⟩ hE hP ls hl
  have hS : va_S (gA G) s0.heap s0.heap [] := va_S.rf
  have hl : lv_has ls 2 [(0, .ref (gad G 34)), (1, .int n)] := hl
  have hin5 : ∀ w ∈ wsX50, w ∈ wsX5_seconds := by decide +kernel
  have hn := hM.n
  have h8 := hM.n8
  refine lv_iload_n hx hb dX5_seconds_0 rfl (lv_at hl 1 rfl) ?_
  refine lv_i2l hx hb dX5_seconds_1 rfl ?_
  refine lv_iconst (v := 1) hx hb dX5_seconds_2 (by decide) ?_
  refine lv_sipush (v := 200) hx hb dX5_seconds_3 (by decide) ?_
  refine hd_callSi (As := [.long n.toInt64, .int 1, .int 200]) (rest := []) ⟨hx, hb, hml, hown, hts⟩ hE hP hS (c_X5_inI l G u n 1 200) rfl (va_cwS 3 hts gX5_seconds_X5_in rfl rfl rfl (by decide +kernel) ⟨Nat.le_of_ble_eq_true rfl, Nat.le_of_ble_eq_true rfl⟩) rfl hl.1 rfl (Nat.le_of_ble_eq_true rfl) dX5_seconds_6 (fun rq_1 vq_1 H locs q_1 hP hS => ?_)
  have hP := hP.cast (q_1.2)
  refine lv_cast q_1.1 ?_
  refine bo_ne (tgt := 19) hx hb dX5_seconds_9 (by decide) (fun c_2 => ?_) (fun c_2 => ?_)
  · skip
    obtain ⟨n9, hn9a, hn9b, rfl⟩ := inI_nat c_2 rfl rfl (na := 1) (nb := 200) (by decide) (by decide)
    refine lv_aload_n hx hb dX5_seconds_19 rfl (lv_at hl 0 rfl) ?_
    refine mo_get hx hb hts hin5 hown hE hP rfl 0 (by decide) (hts (.fieldLink RX5 9 "HeldDoorModel" "m" "[I") (by decide +kernel)) (v := .ref (gad G 35)) rfl dX5_seconds_20 ?_
    refine lv_iconst (v := 0) hx hb dX5_seconds_23 (by decide) ?_
    refine ar_ld hx hb hE hP 35 53 (by decide) (ar_at35 h11) 0 (by omega) dX5_seconds_24 ?_
    refine lv_iload_n hx hb dX5_seconds_25 rfl (lv_at hl 1 rfl) ?_
    refine lv_iadd hx hb dX5_seconds_26 ?_
    refine lv_ldc (v := 999999) hx hb hown (hts (.constant RX5 110 (999999)) (by decide +kernel)) dX5_seconds_27 ?_
    refine lv_icmp_le (tgt := 39) hx hb dX5_seconds_29 (by decide) (fun c_3 => ?_) (fun c_3 => ?_)
    · skip
      refine lv_aload_n hx hb dX5_seconds_39 rfl (lv_at hl 0 rfl) ?_
      refine lv_iload_n hx hb dX5_seconds_40 rfl (lv_at hl 1 rfl) ?_
      refine hd_callVv (As := [.int (nI n9)]) (rest := []) ⟨hx, hb, hml, hown, hts⟩ hE hP hS (c_X5_goesFor l G u M hM n9 (by omega)) ((sI_id h11).symm) (cwV 1 hts gX5_seconds_X5_goesFor rfl rfl rfl (by decide +kernel) ⟨Nat.le_of_ble_eq_true rfl, Nat.le_of_ble_eq_true rfl⟩) (mo_recv hE hP) rfl hl.1 rfl (Nat.le_of_ble_eq_true rfl) dX5_seconds_41 (fun vq_4 H locs q_4 hP hS => ?_)
      have hP := hP.cast (q_4)
      refine lv_aload_n hx hb dX5_seconds_44 rfl (lv_at hl 0 rfl) ?_
      refine hd_callVi (As := []) (rest := []) ⟨hx, hb, hml, hown, hts⟩ hE hP hS (c_X5_inside l G u (goN M n9) (Wf_goN hM _)) rfl (cwV 0 hts gX5_seconds_X5_inside rfl rfl rfl (by decide +kernel) ⟨Nat.le_of_ble_eq_true rfl, Nat.le_of_ble_eq_true rfl⟩) (mo_recv hE hP) rfl hl.1 rfl (Nat.le_of_ble_eq_true rfl) dX5_seconds_45 (fun rq_5 vq_5 H locs q_5 hP hS => ?_)
      have hP := hP.cast (q_5.2)
      refine lv_cast q_5.1 ?_
      exact hd_iret hx hb hr hlocks hP hS (P3.of (by rw [X_seconds, c_2, if_neg (by decide), if_neg (Int32.not_lt.mpr c_3), nI_clamp (by omega), nP_goN]) (sI_at _ _ _) ((sI_ne _ _ (by decide)).trans rfl) ((sI_ne _ _ (by decide)).trans h15) (by decide) (by decide) (by decide) (fun k k0 k1 k6 => ((sI_ne _ _ k0).trans rfl)) rfl) dX5_seconds_48
    · skip
      refine lv_aload_n hx hb dX5_seconds_32 rfl (lv_at hl 0 rfl) ?_
      refine lv_ldc (v := (-1000000005)) hx hb hown (hts (.constant RX5 111 ((-1000000005))) (by decide +kernel)) dX5_seconds_33 ?_
      refine hd_callVi (As := [.int (-1000000005)]) (rest := []) ⟨hx, hb, hml, hown, hts⟩ hE hP hS (c_X5_finds_4 l G u F h15) rfl (cwV 1 hts gX5_seconds_X5_finds rfl rfl rfl (by decide +kernel) ⟨Nat.le_of_ble_eq_true rfl, Nat.le_of_ble_eq_true rfl⟩) (mo_recv hE hP) rfl hl.1 rfl (Nat.le_of_ble_eq_true rfl) dX5_seconds_35 (fun rq_6 vq_6 H locs q_6 hP hS => ?_)
      have hP := hP.cast (q_6.2)
      refine lv_cast q_6.1 ?_
      exact hd_iret hx hb hr hlocks hP hS (P3.of (by rw [X_seconds, c_2, if_neg (by decide), if_pos (Int32.not_le.mp c_3)]) ((sI_ne _ _ (by decide)).trans h11) ((sI_ne _ _ (by decide)).trans rfl) (sI_at _ _ _) (by decide) (by decide) (by decide) (fun k k0 k1 k6 => ((sI_ne _ _ k6).trans rfl)) rfl) dX5_seconds_38
  · skip
    refine lv_aload_n hx hb dX5_seconds_12 rfl (lv_at hl 0 rfl) ?_
    refine lv_ldc (v := (-1000000001)) hx hb hown (hts (.constant RX5 35 ((-1000000001))) (by decide +kernel)) dX5_seconds_13 ?_
    refine hd_callVi (As := [.int (-1000000001)]) (rest := []) ⟨hx, hb, hml, hown, hts⟩ hE hP hS (c_X5_finds_0 l G u F h15) rfl (cwV 1 hts gX5_seconds_X5_finds rfl rfl rfl (by decide +kernel) ⟨Nat.le_of_ble_eq_true rfl, Nat.le_of_ble_eq_true rfl⟩) (mo_recv hE hP) rfl hl.1 rfl (Nat.le_of_ble_eq_true rfl) dX5_seconds_15 (fun rq_7 vq_7 H locs q_7 hP hS => ?_)
    have hP := hP.cast (q_7.2)
    refine lv_cast q_7.1 ?_
    exact hd_iret hx hb hr hlocks hP hS (P3.of (by simp [X_seconds, bey, bmp, c_2]) ((sI_ne _ _ (by decide)).trans h11) ((sI_ne _ _ (by decide)).trans rfl) (sI_at _ _ _) (by decide) (by decide) (by decide) (fun k k0 k1 k6 => ((sI_ne _ _ k6).trans rfl)) rfl) dX5_seconds_18
set_option maxHeartbeats 4000000 in
set_option maxRecDepth 100000 in
theorem c_X5_on_0 (l : Launch) (G : Geo) (u : Sg) (M F : Nat → Int32) (h11 : u.1 11 = M) (h15 : u.1 15 = F) (hM : Wf M) (T : Nat → Int32) (h13 : u.1 13 = T) (tT : ∀ k : Nat, 53 ≤ k → T k = 0) (x n : Int32) : CtI l G yX5_on wsX5_on (rmO 6 137) [.ref (gad G 34), .int x, .int n, .int 0] u (P3 u 11 13 15 (X_on M F x n 0)) := by
  refine CtI.of (cc := cX5_on) (maxL := 5) (ret := (some .int)) (own := RX5) (by decide) rfl rfl ?_
  rintro pg ev s0 mm below meth cd ⟨hx, hb, hr, hml, hown, hts, hlocks⟩ hE hP ls hl
  have hS : va_S (gA G) s0.heap s0.heap [] := va_S.rf
  have hl : lv_has ls 5 [(0, .ref (gad G 34)), (1, .int x), (2, .int n), (3, .int 0)] := hl
  have hn := hM.n
  have h8 := hM.n8
  refine lv_aload_n hx hb dX5_on_0 rfl (lv_at hl 0 rfl) ?_
  refine lv_iload_n hx hb dX5_on_1 rfl (lv_at hl 1 rfl) ?_
  refine hd_callVi (As := [.int x]) (rest := []) ⟨hx, hb, hml, hown, hts⟩ hE hP hS (c_X5_isPerson l G u M h11 x) rfl (cwV 1 hts gX5_on_X5_isPerson rfl rfl rfl (by decide +kernel) ⟨Nat.le_of_ble_eq_true rfl, Nat.le_of_ble_eq_true rfl⟩) (mo_recv hE hP) rfl hl.1 rfl (Nat.le_of_ble_eq_true rfl) dX5_on_2 (fun rq_1 vq_1 H locs q_1 hP hS => ?_)
  have hP := hP.cast (q_1.2)
  refine lv_cast q_1.1 ?_
  refine bo_eq (tgt := 30) hx hb dX5_on_5 (by decide) (fun c_2 => ?_) (fun c_2 => ?_)
  · skip
    refine lv_aload_n hx hb dX5_on_30 rfl (lv_at hl 0 rfl) ?_
    refine lv_ldc (v := (-1000000001)) hx hb hown (hts (.constant RX5 35 ((-1000000001))) (by decide +kernel)) dX5_on_31 ?_
    refine hd_callVi (As := [.int (-1000000001)]) (rest := []) ⟨hx, hb, hml, hown, hts⟩ hE hP hS (c_X5_finds_0 l G u F h15) rfl (cwV 1 hts gX5_on_X5_finds rfl rfl rfl (by decide +kernel) ⟨Nat.le_of_ble_eq_true rfl, Nat.le_of_ble_eq_true rfl⟩) (mo_recv hE hP) rfl hl.1 rfl (Nat.le_of_ble_eq_true rfl) dX5_on_33 (fun rq_3 vq_3 H locs q_3 hP hS => ?_)
    have hP := hP.cast (q_3.2)
    refine lv_cast q_3.1 ?_
    exact hd_iret hx hb hr hlocks hP hS (P3.of (by first | rfl | (simp [X_on, bey, none3, bmp, c_2]; done) | (exfalso; simp_all; done) | (simp only [X_on, bey, none3, bmp, c_2, ↓reduceIte] <;> rfl)) ((sI_ne _ _ (by decide)).trans h11) ((sI_ne _ _ (by decide)).trans h13) (sI_at _ _ _) (by decide) (by decide) (by decide) (fun k k0 k1 k6 => ((sI_ne _ _ k6).trans rfl)) rfl) dX5_on_36
  · skip
    obtain ⟨q, hq, rfl⟩ := pe_get hM c_2
    refine lv_iload_n hx hb dX5_on_8 rfl (lv_at hl 2 rfl) ?_
    refine lv_i2l hx hb dX5_on_9 rfl ?_
    refine lv_iconst (v := 0) hx hb dX5_on_10 (by decide) ?_
    refine lv_sipush (v := 400) hx hb dX5_on_11 (by decide) ?_
    refine hd_callSi (As := [.long n.toInt64, .int 0, .int 400]) (rest := []) ⟨hx, hb, hml, hown, hts⟩ hE hP hS (c_X5_inI l G u n 0 400) rfl (va_cwS 3 hts gX5_on_X5_in rfl rfl rfl (by decide +kernel) ⟨Nat.le_of_ble_eq_true rfl, Nat.le_of_ble_eq_true rfl⟩) rfl hl.1 rfl (Nat.le_of_ble_eq_true rfl) dX5_on_14 (fun rq_4 vq_4 H locs q_4 hP hS => ?_)
    have hP := hP.cast (q_4.2)
    refine lv_cast q_4.1 ?_
    refine bo_eq (tgt := 30) hx hb dX5_on_17 (by decide) (fun c_5 => ?_) (fun c_5 => ?_)
    · skip
      refine lv_aload_n hx hb dX5_on_30 rfl (lv_at hl 0 rfl) ?_
      refine lv_ldc (v := (-1000000001)) hx hb hown (hts (.constant RX5 35 ((-1000000001))) (by decide +kernel)) dX5_on_31 ?_
      refine hd_callVi (As := [.int (-1000000001)]) (rest := []) ⟨hx, hb, hml, hown, hts⟩ hE hP hS (c_X5_finds_0 l G u F h15) rfl (cwV 1 hts gX5_on_X5_finds rfl rfl rfl (by decide +kernel) ⟨Nat.le_of_ble_eq_true rfl, Nat.le_of_ble_eq_true rfl⟩) (mo_recv hE hP) rfl hl.1 rfl (Nat.le_of_ble_eq_true rfl) dX5_on_33 (fun rq_6 vq_6 H locs q_6 hP hS => ?_)
      have hP := hP.cast (q_6.2)
      refine lv_cast q_6.1 ?_
      exact hd_iret hx hb hr hlocks hP hS (P3.of (by first | rfl | (simp [X_on, bey, none3, bmp, nI_clamp (show q < 2 ^ 31 by omega), c_2, c_5]; done) | (exfalso; simp_all; done) | (simp only [X_on, bey, none3, bmp, nI_clamp (show q < 2 ^ 31 by omega), c_2, c_5, ↓reduceIte] <;> rfl)) ((sI_ne _ _ (by decide)).trans h11) ((sI_ne _ _ (by decide)).trans h13) (sI_at _ _ _) (by decide) (by decide) (by decide) (fun k k0 k1 k6 => ((sI_ne _ _ k6).trans rfl)) rfl) dX5_on_36
    · skip
      obtain ⟨n9, hn9a, hn9b, rfl⟩ := inI_nat c_5 rfl rfl (na := 0) (nb := 400) (by decide) (by decide)
      refine lv_iload_n hx hb dX5_on_20 rfl (lv_at hl 3 rfl) ?_
      refine lv_i2l hx hb dX5_on_21 rfl ?_
      refine lv_iconst (v := 0) hx hb dX5_on_22 (by decide) ?_
      refine lv_iconst (v := 2) hx hb dX5_on_23 (by decide) ?_
      refine hd_callSi (As := [.long ((0 : Int32).toInt64), .int 0, .int 2]) (rest := []) ⟨hx, hb, hml, hown, hts⟩ hE hP hS (c_X5_inI l G u 0 0 2) rfl (va_cwS 3 hts gX5_on_X5_in rfl rfl rfl (by decide +kernel) ⟨Nat.le_of_ble_eq_true rfl, Nat.le_of_ble_eq_true rfl⟩) rfl hl.1 rfl (Nat.le_of_ble_eq_true rfl) dX5_on_24 (fun rq_7 vq_7 H locs q_7 hP hS => ?_)
      have hP := hP.cast (q_7.2)
      refine lv_cast q_7.1 ?_
      refine bo_ne (tgt := 37) hx hb dX5_on_27 (by decide) (fun c_8 => ?_) (fun c_8 => absurd c_8 (by decide))
      refine lv_aload_n hx hb dX5_on_37 rfl (lv_at hl 0 rfl) ?_
      refine hd_callVv (As := []) (rest := []) ⟨hx, hb, hml, hown, hts⟩ hE hP hS (c_X5_thinks l G u M T h11 h13 (hM).1 tT) rfl (cwV 0 hts gX5_on_X5_thinks rfl rfl rfl (by decide +kernel) ⟨Nat.le_of_ble_eq_true rfl, Nat.le_of_ble_eq_true rfl⟩) (mo_recv hE hP) rfl hl.1 rfl (Nat.le_of_ble_eq_true rfl) dX5_on_38 (fun vq_9 H locs q_9 hP hS => ?_)
      have hP := hP.cast (q_9)
      refine lv_aload_n hx hb dX5_on_41 rfl (lv_at hl 0 rfl) ?_
      refine lv_iload_n hx hb dX5_on_42 rfl (lv_at hl 2 rfl) ?_
      refine hd_callVv (As := [.int (nI n9)]) (rest := []) ⟨hx, hb, hml, hown, hts⟩ hE hP hS (c_X5_goesFor l G (sI u 13 M) M hM n9 (by omega)) ((sI_id ((sI_ne _ _ (by decide)).trans h11)).symm) (cwV 1 hts gX5_on_X5_goesFor rfl rfl rfl (by decide +kernel) ⟨Nat.le_of_ble_eq_true rfl, Nat.le_of_ble_eq_true rfl⟩) (mo_recv hE hP) rfl hl.1 rfl (Nat.le_of_ble_eq_true rfl) dX5_on_43 (fun vq_10 H locs q_10 hP hS => ?_)
      have hP := hP.cast (q_10)
      refine lv_aload_n hx hb dX5_on_46 rfl (lv_at hl 0 rfl) ?_
      refine lv_iload_n hx hb dX5_on_47 rfl (lv_at hl 1 rfl) ?_
      refine lv_iconst (v := 3) hx hb dX5_on_48 (by decide) ?_
      refine lv_iload_n hx hb dX5_on_49 rfl (lv_at hl 3 rfl) ?_
      refine lv_iadd hx hb dX5_on_50 ?_
      refine lv_cast (y := 3) (by decide) ?_
      refine hd_callVi (As := [.int (nI q), .int 3]) (rest := []) ⟨hx, hb, hml, hown, hts⟩ hE hP hS (c_X5_it l G (sI u 13 M) (goN M n9) q 3 (by omega) (by omega)) rfl (cwV 2 hts gX5_on_X5_it rfl rfl rfl (by decide +kernel) ⟨Nat.le_of_ble_eq_true rfl, Nat.le_of_ble_eq_true rfl⟩) (mo_recv hE hP) rfl hl.1 rfl (Nat.le_of_ble_eq_true rfl) dX5_on_51 (fun rq_11 vq_11 H locs q_11 hP hS => ?_)
      have hP := hP.cast (q_11.2)
      refine lv_cast q_11.1 ?_
      refine lv_istore (lv' := [(4, .int ((goN M n9) (5 + 6 * q + 3))), (0, .ref (gad G 34)), (1, .int (nI q)), (2, .int (nI n9)), (3, .int 0)]) hx hb dX5_on_54 hl (by decide) rfl (fun ls hl => ?_)
      refine lv_aload_n hx hb dX5_on_56 rfl (lv_at hl 1 rfl) ?_
      refine hd_callVv (As := []) (rest := []) ⟨hx, hb, hml, hown, hts⟩ hE hP hS (c_X5_putsBack l G (sI (sI u 13 M) 11 (goN M n9)) M (goN M n9) ((sI_ne _ _ (by decide)).trans (sI_at _ _ _)) (sI_at _ _ _) (hM).1 ((Wf_goN hM _)).1) rfl (cwV 0 hts gX5_on_X5_putsBack rfl rfl rfl (by decide +kernel) ⟨Nat.le_of_ble_eq_true rfl, Nat.le_of_ble_eq_true rfl⟩) (mo_recv hE hP) rfl hl.1 rfl (Nat.le_of_ble_eq_true rfl) dX5_on_57 (fun vq_12 H locs q_12 hP hS => ?_)
      have q_12v := q_12
      have hP := hP.cast (q_12v.trans (sI_sI _ _ _ _))
      refine lv_iload hx hb dX5_on_60 (lv_at hl 0 rfl) ?_
      exact hd_iret hx hb hr hlocks hP hS (P3.of (by first | rfl | (simp [X_on, bey, none3, bmp, nI_clamp (show q < 2 ^ 31 by omega), nI_clamp (show n9 < 2 ^ 31 by omega), c_2, c_5, c_8]; done) | (exfalso; simp_all; done) | (simp only [X_on, bey, none3, bmp, nI_clamp (show q < 2 ^ 31 by omega), nI_clamp (show n9 < 2 ^ 31 by omega), c_2, c_5, c_8, ↓reduceIte] <;> rfl)) (sI_at _ _ _) ((sI_ne _ _ (by decide)).trans (sI_at _ _ _)) ((sI_ne _ _ (by decide)).trans ((sI_ne _ _ (by decide)).trans h15)) (by decide) (by decide) (by decide) (fun k k0 k1 k6 => ((sI_ne _ _ k0).trans ((sI_ne _ _ k1).trans rfl))) rfl) dX5_on_62
set_option maxHeartbeats 4000000 in
set_option maxRecDepth 100000 in
theorem c_X5_on_1 (l : Launch) (G : Geo) (u : Sg) (M F : Nat → Int32) (h11 : u.1 11 = M) (h15 : u.1 15 = F) (hM : Wf M) (T : Nat → Int32) (h13 : u.1 13 = T) (tT : ∀ k : Nat, 53 ≤ k → T k = 0) (x n : Int32) : CtI l G yX5_on wsX5_on (rmO 6 137) [.ref (gad G 34), .int x, .int n, .int 1] u (P3 u 11 13 15 (X_on M F x n 1)) := by
  refine CtI.of (cc := cX5_on) (maxL := 5) (ret := (some .int)) (own := RX5) (by decide) rfl rfl ?_
  rintro pg ev s0 mm below meth cd ⟨hx, hb, hr, hml, hown, hts, hlocks⟩ hE hP ls hl
  have hS : va_S (gA G) s0.heap s0.heap [] := va_S.rf
  have hl : lv_has ls 5 [(0, .ref (gad G 34)), (1, .int x), (2, .int n), (3, .int 1)] := hl
  have hn := hM.n
  have h8 := hM.n8
  refine lv_aload_n hx hb dX5_on_0 rfl (lv_at hl 0 rfl) ?_
  refine lv_iload_n hx hb dX5_on_1 rfl (lv_at hl 1 rfl) ?_
  refine hd_callVi (As := [.int x]) (rest := []) ⟨hx, hb, hml, hown, hts⟩ hE hP hS (c_X5_isPerson l G u M h11 x) rfl (cwV 1 hts gX5_on_X5_isPerson rfl rfl rfl (by decide +kernel) ⟨Nat.le_of_ble_eq_true rfl, Nat.le_of_ble_eq_true rfl⟩) (mo_recv hE hP) rfl hl.1 rfl (Nat.le_of_ble_eq_true rfl) dX5_on_2 (fun rq_1 vq_1 H locs q_1 hP hS => ?_)
  have hP := hP.cast (q_1.2)
  refine lv_cast q_1.1 ?_
  refine bo_eq (tgt := 30) hx hb dX5_on_5 (by decide) (fun c_2 => ?_) (fun c_2 => ?_)
  · skip
    refine lv_aload_n hx hb dX5_on_30 rfl (lv_at hl 0 rfl) ?_
    refine lv_ldc (v := (-1000000001)) hx hb hown (hts (.constant RX5 35 ((-1000000001))) (by decide +kernel)) dX5_on_31 ?_
    refine hd_callVi (As := [.int (-1000000001)]) (rest := []) ⟨hx, hb, hml, hown, hts⟩ hE hP hS (c_X5_finds_0 l G u F h15) rfl (cwV 1 hts gX5_on_X5_finds rfl rfl rfl (by decide +kernel) ⟨Nat.le_of_ble_eq_true rfl, Nat.le_of_ble_eq_true rfl⟩) (mo_recv hE hP) rfl hl.1 rfl (Nat.le_of_ble_eq_true rfl) dX5_on_33 (fun rq_3 vq_3 H locs q_3 hP hS => ?_)
    have hP := hP.cast (q_3.2)
    refine lv_cast q_3.1 ?_
    exact hd_iret hx hb hr hlocks hP hS (P3.of (by first | rfl | (simp [X_on, bey, none3, bmp, c_2]; done) | (exfalso; simp_all; done) | (simp only [X_on, bey, none3, bmp, c_2, ↓reduceIte] <;> rfl)) ((sI_ne _ _ (by decide)).trans h11) ((sI_ne _ _ (by decide)).trans h13) (sI_at _ _ _) (by decide) (by decide) (by decide) (fun k k0 k1 k6 => ((sI_ne _ _ k6).trans rfl)) rfl) dX5_on_36
  · skip
    obtain ⟨q, hq, rfl⟩ := pe_get hM c_2
    refine lv_iload_n hx hb dX5_on_8 rfl (lv_at hl 2 rfl) ?_
    refine lv_i2l hx hb dX5_on_9 rfl ?_
    refine lv_iconst (v := 0) hx hb dX5_on_10 (by decide) ?_
    refine lv_sipush (v := 400) hx hb dX5_on_11 (by decide) ?_
    refine hd_callSi (As := [.long n.toInt64, .int 0, .int 400]) (rest := []) ⟨hx, hb, hml, hown, hts⟩ hE hP hS (c_X5_inI l G u n 0 400) rfl (va_cwS 3 hts gX5_on_X5_in rfl rfl rfl (by decide +kernel) ⟨Nat.le_of_ble_eq_true rfl, Nat.le_of_ble_eq_true rfl⟩) rfl hl.1 rfl (Nat.le_of_ble_eq_true rfl) dX5_on_14 (fun rq_4 vq_4 H locs q_4 hP hS => ?_)
    have hP := hP.cast (q_4.2)
    refine lv_cast q_4.1 ?_
    refine bo_eq (tgt := 30) hx hb dX5_on_17 (by decide) (fun c_5 => ?_) (fun c_5 => ?_)
    · skip
      refine lv_aload_n hx hb dX5_on_30 rfl (lv_at hl 0 rfl) ?_
      refine lv_ldc (v := (-1000000001)) hx hb hown (hts (.constant RX5 35 ((-1000000001))) (by decide +kernel)) dX5_on_31 ?_
      refine hd_callVi (As := [.int (-1000000001)]) (rest := []) ⟨hx, hb, hml, hown, hts⟩ hE hP hS (c_X5_finds_0 l G u F h15) rfl (cwV 1 hts gX5_on_X5_finds rfl rfl rfl (by decide +kernel) ⟨Nat.le_of_ble_eq_true rfl, Nat.le_of_ble_eq_true rfl⟩) (mo_recv hE hP) rfl hl.1 rfl (Nat.le_of_ble_eq_true rfl) dX5_on_33 (fun rq_6 vq_6 H locs q_6 hP hS => ?_)
      have hP := hP.cast (q_6.2)
      refine lv_cast q_6.1 ?_
      exact hd_iret hx hb hr hlocks hP hS (P3.of (by first | rfl | (simp [X_on, bey, none3, bmp, nI_clamp (show q < 2 ^ 31 by omega), c_2, c_5]; done) | (exfalso; simp_all; done) | (simp only [X_on, bey, none3, bmp, nI_clamp (show q < 2 ^ 31 by omega), c_2, c_5, ↓reduceIte] <;> rfl)) ((sI_ne _ _ (by decide)).trans h11) ((sI_ne _ _ (by decide)).trans h13) (sI_at _ _ _) (by decide) (by decide) (by decide) (fun k k0 k1 k6 => ((sI_ne _ _ k6).trans rfl)) rfl) dX5_on_36
    · skip
      obtain ⟨n9, hn9a, hn9b, rfl⟩ := inI_nat c_5 rfl rfl (na := 0) (nb := 400) (by decide) (by decide)
      refine lv_iload_n hx hb dX5_on_20 rfl (lv_at hl 3 rfl) ?_
      refine lv_i2l hx hb dX5_on_21 rfl ?_
      refine lv_iconst (v := 0) hx hb dX5_on_22 (by decide) ?_
      refine lv_iconst (v := 2) hx hb dX5_on_23 (by decide) ?_
      refine hd_callSi (As := [.long ((1 : Int32).toInt64), .int 0, .int 2]) (rest := []) ⟨hx, hb, hml, hown, hts⟩ hE hP hS (c_X5_inI l G u 1 0 2) rfl (va_cwS 3 hts gX5_on_X5_in rfl rfl rfl (by decide +kernel) ⟨Nat.le_of_ble_eq_true rfl, Nat.le_of_ble_eq_true rfl⟩) rfl hl.1 rfl (Nat.le_of_ble_eq_true rfl) dX5_on_24 (fun rq_7 vq_7 H locs q_7 hP hS => ?_)
      have hP := hP.cast (q_7.2)
      refine lv_cast q_7.1 ?_
      refine bo_ne (tgt := 37) hx hb dX5_on_27 (by decide) (fun c_8 => ?_) (fun c_8 => absurd c_8 (by decide))
      refine lv_aload_n hx hb dX5_on_37 rfl (lv_at hl 0 rfl) ?_
      refine hd_callVv (As := []) (rest := []) ⟨hx, hb, hml, hown, hts⟩ hE hP hS (c_X5_thinks l G u M T h11 h13 (hM).1 tT) rfl (cwV 0 hts gX5_on_X5_thinks rfl rfl rfl (by decide +kernel) ⟨Nat.le_of_ble_eq_true rfl, Nat.le_of_ble_eq_true rfl⟩) (mo_recv hE hP) rfl hl.1 rfl (Nat.le_of_ble_eq_true rfl) dX5_on_38 (fun vq_9 H locs q_9 hP hS => ?_)
      have hP := hP.cast (q_9)
      refine lv_aload_n hx hb dX5_on_41 rfl (lv_at hl 0 rfl) ?_
      refine lv_iload_n hx hb dX5_on_42 rfl (lv_at hl 2 rfl) ?_
      refine hd_callVv (As := [.int (nI n9)]) (rest := []) ⟨hx, hb, hml, hown, hts⟩ hE hP hS (c_X5_goesFor l G (sI u 13 M) M hM n9 (by omega)) ((sI_id ((sI_ne _ _ (by decide)).trans h11)).symm) (cwV 1 hts gX5_on_X5_goesFor rfl rfl rfl (by decide +kernel) ⟨Nat.le_of_ble_eq_true rfl, Nat.le_of_ble_eq_true rfl⟩) (mo_recv hE hP) rfl hl.1 rfl (Nat.le_of_ble_eq_true rfl) dX5_on_43 (fun vq_10 H locs q_10 hP hS => ?_)
      have hP := hP.cast (q_10)
      refine lv_aload_n hx hb dX5_on_46 rfl (lv_at hl 0 rfl) ?_
      refine lv_iload_n hx hb dX5_on_47 rfl (lv_at hl 1 rfl) ?_
      refine lv_iconst (v := 3) hx hb dX5_on_48 (by decide) ?_
      refine lv_iload_n hx hb dX5_on_49 rfl (lv_at hl 3 rfl) ?_
      refine lv_iadd hx hb dX5_on_50 ?_
      refine lv_cast (y := 4) (by decide) ?_
      refine hd_callVi (As := [.int (nI q), .int 4]) (rest := []) ⟨hx, hb, hml, hown, hts⟩ hE hP hS (c_X5_it l G (sI u 13 M) (goN M n9) q 4 (by omega) (by omega)) rfl (cwV 2 hts gX5_on_X5_it rfl rfl rfl (by decide +kernel) ⟨Nat.le_of_ble_eq_true rfl, Nat.le_of_ble_eq_true rfl⟩) (mo_recv hE hP) rfl hl.1 rfl (Nat.le_of_ble_eq_true rfl) dX5_on_51 (fun rq_11 vq_11 H locs q_11 hP hS => ?_)
      have hP := hP.cast (q_11.2)
      refine lv_cast q_11.1 ?_
      refine lv_istore (lv' := [(4, .int ((goN M n9) (5 + 6 * q + 4))), (0, .ref (gad G 34)), (1, .int (nI q)), (2, .int (nI n9)), (3, .int 1)]) hx hb dX5_on_54 hl (by decide) rfl (fun ls hl => ?_)
      refine lv_aload_n hx hb dX5_on_56 rfl (lv_at hl 1 rfl) ?_
      refine hd_callVv (As := []) (rest := []) ⟨hx, hb, hml, hown, hts⟩ hE hP hS (c_X5_putsBack l G (sI (sI u 13 M) 11 (goN M n9)) M (goN M n9) ((sI_ne _ _ (by decide)).trans (sI_at _ _ _)) (sI_at _ _ _) (hM).1 ((Wf_goN hM _)).1) rfl (cwV 0 hts gX5_on_X5_putsBack rfl rfl rfl (by decide +kernel) ⟨Nat.le_of_ble_eq_true rfl, Nat.le_of_ble_eq_true rfl⟩) (mo_recv hE hP) rfl hl.1 rfl (Nat.le_of_ble_eq_true rfl) dX5_on_57 (fun vq_12 H locs q_12 hP hS => ?_)
      have q_12v := q_12
      have hP := hP.cast (q_12v.trans (sI_sI _ _ _ _))
      refine lv_iload hx hb dX5_on_60 (lv_at hl 0 rfl) ?_
      exact hd_iret hx hb hr hlocks hP hS (P3.of (by first | rfl | (simp [X_on, bey, none3, bmp, nI_clamp (show q < 2 ^ 31 by omega), nI_clamp (show n9 < 2 ^ 31 by omega), c_2, c_5, c_8]; done) | (exfalso; simp_all; done) | (simp only [X_on, bey, none3, bmp, nI_clamp (show q < 2 ^ 31 by omega), nI_clamp (show n9 < 2 ^ 31 by omega), c_2, c_5, c_8, ↓reduceIte] <;> rfl)) (sI_at _ _ _) ((sI_ne _ _ (by decide)).trans (sI_at _ _ _)) ((sI_ne _ _ (by decide)).trans ((sI_ne _ _ (by decide)).trans h15)) (by decide) (by decide) (by decide) (fun k k0 k1 k6 => ((sI_ne _ _ k0).trans ((sI_ne _ _ k1).trans rfl))) rfl) dX5_on_62
set_option maxHeartbeats 4000000 in
set_option maxRecDepth 100000 in
theorem c_X5_on_2 (l : Launch) (G : Geo) (u : Sg) (M F : Nat → Int32) (h11 : u.1 11 = M) (h15 : u.1 15 = F) (hM : Wf M) (T : Nat → Int32) (h13 : u.1 13 = T) (tT : ∀ k : Nat, 53 ≤ k → T k = 0) (x n : Int32) : CtI l G yX5_on wsX5_on (rmO 6 137) [.ref (gad G 34), .int x, .int n, .int 2] u (P3 u 11 13 15 (X_on M F x n 2)) := by
  refine CtI.of (cc := cX5_on) (maxL := 5) (ret := (some .int)) (own := RX5) (by decide) rfl rfl ?_
  rintro pg ev s0 mm below meth cd ⟨hx, hb, hr, hml, hown, hts, hlocks⟩ hE hP ls hl
  have hS : va_S (gA G) s0.heap s0.heap [] := va_S.rf
  have hl : lv_has ls 5 [(0, .ref (gad G 34)), (1, .int x), (2, .int n), (3, .int 2)] := hl
  have hn := hM.n
  have h8 := hM.n8
  refine lv_aload_n hx hb dX5_on_0 rfl (lv_at hl 0 rfl) ?_
  refine lv_iload_n hx hb dX5_on_1 rfl (lv_at hl 1 rfl) ?_
  refine hd_callVi (As := [.int x]) (rest := []) ⟨hx, hb, hml, hown, hts⟩ hE hP hS (c_X5_isPerson l G u M h11 x) rfl (cwV 1 hts gX5_on_X5_isPerson rfl rfl rfl (by decide +kernel) ⟨Nat.le_of_ble_eq_true rfl, Nat.le_of_ble_eq_true rfl⟩) (mo_recv hE hP) rfl hl.1 rfl (Nat.le_of_ble_eq_true rfl) dX5_on_2 (fun rq_1 vq_1 H locs q_1 hP hS => ?_)
  have hP := hP.cast (q_1.2)
  refine lv_cast q_1.1 ?_
  refine bo_eq (tgt := 30) hx hb dX5_on_5 (by decide) (fun c_2 => ?_) (fun c_2 => ?_)
  · skip
    refine lv_aload_n hx hb dX5_on_30 rfl (lv_at hl 0 rfl) ?_
    refine lv_ldc (v := (-1000000001)) hx hb hown (hts (.constant RX5 35 ((-1000000001))) (by decide +kernel)) dX5_on_31 ?_
    refine hd_callVi (As := [.int (-1000000001)]) (rest := []) ⟨hx, hb, hml, hown, hts⟩ hE hP hS (c_X5_finds_0 l G u F h15) rfl (cwV 1 hts gX5_on_X5_finds rfl rfl rfl (by decide +kernel) ⟨Nat.le_of_ble_eq_true rfl, Nat.le_of_ble_eq_true rfl⟩) (mo_recv hE hP) rfl hl.1 rfl (Nat.le_of_ble_eq_true rfl) dX5_on_33 (fun rq_3 vq_3 H locs q_3 hP hS => ?_)
    have hP := hP.cast (q_3.2)
    refine lv_cast q_3.1 ?_
    exact hd_iret hx hb hr hlocks hP hS (P3.of (by first | rfl | (simp [X_on, bey, none3, bmp, c_2]; done) | (exfalso; simp_all; done) | (simp only [X_on, bey, none3, bmp, c_2, ↓reduceIte] <;> rfl)) ((sI_ne _ _ (by decide)).trans h11) ((sI_ne _ _ (by decide)).trans h13) (sI_at _ _ _) (by decide) (by decide) (by decide) (fun k k0 k1 k6 => ((sI_ne _ _ k6).trans rfl)) rfl) dX5_on_36
  · skip
    obtain ⟨q, hq, rfl⟩ := pe_get hM c_2
    refine lv_iload_n hx hb dX5_on_8 rfl (lv_at hl 2 rfl) ?_
    refine lv_i2l hx hb dX5_on_9 rfl ?_
    refine lv_iconst (v := 0) hx hb dX5_on_10 (by decide) ?_
    refine lv_sipush (v := 400) hx hb dX5_on_11 (by decide) ?_
    refine hd_callSi (As := [.long n.toInt64, .int 0, .int 400]) (rest := []) ⟨hx, hb, hml, hown, hts⟩ hE hP hS (c_X5_inI l G u n 0 400) rfl (va_cwS 3 hts gX5_on_X5_in rfl rfl rfl (by decide +kernel) ⟨Nat.le_of_ble_eq_true rfl, Nat.le_of_ble_eq_true rfl⟩) rfl hl.1 rfl (Nat.le_of_ble_eq_true rfl) dX5_on_14 (fun rq_4 vq_4 H locs q_4 hP hS => ?_)
    have hP := hP.cast (q_4.2)
    refine lv_cast q_4.1 ?_
    refine bo_eq (tgt := 30) hx hb dX5_on_17 (by decide) (fun c_5 => ?_) (fun c_5 => ?_)
    · skip
      refine lv_aload_n hx hb dX5_on_30 rfl (lv_at hl 0 rfl) ?_
      refine lv_ldc (v := (-1000000001)) hx hb hown (hts (.constant RX5 35 ((-1000000001))) (by decide +kernel)) dX5_on_31 ?_
      refine hd_callVi (As := [.int (-1000000001)]) (rest := []) ⟨hx, hb, hml, hown, hts⟩ hE hP hS (c_X5_finds_0 l G u F h15) rfl (cwV 1 hts gX5_on_X5_finds rfl rfl rfl (by decide +kernel) ⟨Nat.le_of_ble_eq_true rfl, Nat.le_of_ble_eq_true rfl⟩) (mo_recv hE hP) rfl hl.1 rfl (Nat.le_of_ble_eq_true rfl) dX5_on_33 (fun rq_6 vq_6 H locs q_6 hP hS => ?_)
      have hP := hP.cast (q_6.2)
      refine lv_cast q_6.1 ?_
      exact hd_iret hx hb hr hlocks hP hS (P3.of (by first | rfl | (simp [X_on, bey, none3, bmp, nI_clamp (show q < 2 ^ 31 by omega), c_2, c_5]; done) | (exfalso; simp_all; done) | (simp only [X_on, bey, none3, bmp, nI_clamp (show q < 2 ^ 31 by omega), c_2, c_5, ↓reduceIte] <;> rfl)) ((sI_ne _ _ (by decide)).trans h11) ((sI_ne _ _ (by decide)).trans h13) (sI_at _ _ _) (by decide) (by decide) (by decide) (fun k k0 k1 k6 => ((sI_ne _ _ k6).trans rfl)) rfl) dX5_on_36
    · skip
      obtain ⟨n9, hn9a, hn9b, rfl⟩ := inI_nat c_5 rfl rfl (na := 0) (nb := 400) (by decide) (by decide)
      refine lv_iload_n hx hb dX5_on_20 rfl (lv_at hl 3 rfl) ?_
      refine lv_i2l hx hb dX5_on_21 rfl ?_
      refine lv_iconst (v := 0) hx hb dX5_on_22 (by decide) ?_
      refine lv_iconst (v := 2) hx hb dX5_on_23 (by decide) ?_
      refine hd_callSi (As := [.long ((2 : Int32).toInt64), .int 0, .int 2]) (rest := []) ⟨hx, hb, hml, hown, hts⟩ hE hP hS (c_X5_inI l G u 2 0 2) rfl (va_cwS 3 hts gX5_on_X5_in rfl rfl rfl (by decide +kernel) ⟨Nat.le_of_ble_eq_true rfl, Nat.le_of_ble_eq_true rfl⟩) rfl hl.1 rfl (Nat.le_of_ble_eq_true rfl) dX5_on_24 (fun rq_7 vq_7 H locs q_7 hP hS => ?_)
      have hP := hP.cast (q_7.2)
      refine lv_cast q_7.1 ?_
      refine bo_ne (tgt := 37) hx hb dX5_on_27 (by decide) (fun c_8 => ?_) (fun c_8 => absurd c_8 (by decide))
      refine lv_aload_n hx hb dX5_on_37 rfl (lv_at hl 0 rfl) ?_
      refine hd_callVv (As := []) (rest := []) ⟨hx, hb, hml, hown, hts⟩ hE hP hS (c_X5_thinks l G u M T h11 h13 (hM).1 tT) rfl (cwV 0 hts gX5_on_X5_thinks rfl rfl rfl (by decide +kernel) ⟨Nat.le_of_ble_eq_true rfl, Nat.le_of_ble_eq_true rfl⟩) (mo_recv hE hP) rfl hl.1 rfl (Nat.le_of_ble_eq_true rfl) dX5_on_38 (fun vq_9 H locs q_9 hP hS => ?_)
      have hP := hP.cast (q_9)
      refine lv_aload_n hx hb dX5_on_41 rfl (lv_at hl 0 rfl) ?_
      refine lv_iload_n hx hb dX5_on_42 rfl (lv_at hl 2 rfl) ?_
      refine hd_callVv (As := [.int (nI n9)]) (rest := []) ⟨hx, hb, hml, hown, hts⟩ hE hP hS (c_X5_goesFor l G (sI u 13 M) M hM n9 (by omega)) ((sI_id ((sI_ne _ _ (by decide)).trans h11)).symm) (cwV 1 hts gX5_on_X5_goesFor rfl rfl rfl (by decide +kernel) ⟨Nat.le_of_ble_eq_true rfl, Nat.le_of_ble_eq_true rfl⟩) (mo_recv hE hP) rfl hl.1 rfl (Nat.le_of_ble_eq_true rfl) dX5_on_43 (fun vq_10 H locs q_10 hP hS => ?_)
      have hP := hP.cast (q_10)
      refine lv_aload_n hx hb dX5_on_46 rfl (lv_at hl 0 rfl) ?_
      refine lv_iload_n hx hb dX5_on_47 rfl (lv_at hl 1 rfl) ?_
      refine lv_iconst (v := 3) hx hb dX5_on_48 (by decide) ?_
      refine lv_iload_n hx hb dX5_on_49 rfl (lv_at hl 3 rfl) ?_
      refine lv_iadd hx hb dX5_on_50 ?_
      refine lv_cast (y := 5) (by decide) ?_
      refine hd_callVi (As := [.int (nI q), .int 5]) (rest := []) ⟨hx, hb, hml, hown, hts⟩ hE hP hS (c_X5_it l G (sI u 13 M) (goN M n9) q 5 (by omega) (by omega)) rfl (cwV 2 hts gX5_on_X5_it rfl rfl rfl (by decide +kernel) ⟨Nat.le_of_ble_eq_true rfl, Nat.le_of_ble_eq_true rfl⟩) (mo_recv hE hP) rfl hl.1 rfl (Nat.le_of_ble_eq_true rfl) dX5_on_51 (fun rq_11 vq_11 H locs q_11 hP hS => ?_)
      have hP := hP.cast (q_11.2)
      refine lv_cast q_11.1 ?_
      refine lv_istore (lv' := [(4, .int ((goN M n9) (5 + 6 * q + 5))), (0, .ref (gad G 34)), (1, .int (nI q)), (2, .int (nI n9)), (3, .int 2)]) hx hb dX5_on_54 hl (by decide) rfl (fun ls hl => ?_)
      refine lv_aload_n hx hb dX5_on_56 rfl (lv_at hl 1 rfl) ?_
      refine hd_callVv (As := []) (rest := []) ⟨hx, hb, hml, hown, hts⟩ hE hP hS (c_X5_putsBack l G (sI (sI u 13 M) 11 (goN M n9)) M (goN M n9) ((sI_ne _ _ (by decide)).trans (sI_at _ _ _)) (sI_at _ _ _) (hM).1 ((Wf_goN hM _)).1) rfl (cwV 0 hts gX5_on_X5_putsBack rfl rfl rfl (by decide +kernel) ⟨Nat.le_of_ble_eq_true rfl, Nat.le_of_ble_eq_true rfl⟩) (mo_recv hE hP) rfl hl.1 rfl (Nat.le_of_ble_eq_true rfl) dX5_on_57 (fun vq_12 H locs q_12 hP hS => ?_)
      have q_12v := q_12
      have hP := hP.cast (q_12v.trans (sI_sI _ _ _ _))
      refine lv_iload hx hb dX5_on_60 (lv_at hl 0 rfl) ?_
      exact hd_iret hx hb hr hlocks hP hS (P3.of (by first | rfl | (simp [X_on, bey, none3, bmp, nI_clamp (show q < 2 ^ 31 by omega), nI_clamp (show n9 < 2 ^ 31 by omega), c_2, c_5, c_8]; done) | (exfalso; simp_all; done) | (simp only [X_on, bey, none3, bmp, nI_clamp (show q < 2 ^ 31 by omega), nI_clamp (show n9 < 2 ^ 31 by omega), c_2, c_5, c_8, ↓reduceIte] <;> rfl)) (sI_at _ _ _) ((sI_ne _ _ (by decide)).trans (sI_at _ _ _)) ((sI_ne _ _ (by decide)).trans ((sI_ne _ _ (by decide)).trans h15)) (by decide) (by decide) (by decide) (fun k k0 k1 k6 => ((sI_ne _ _ k0).trans ((sI_ne _ _ k1).trans rfl))) rfl) dX5_on_62
set_option maxHeartbeats 4000000 in
set_option maxRecDepth 100000 in
theorem c_X5_on_o (l : Launch) (G : Geo) (u : Sg) (M F : Nat → Int32) (h11 : u.1 11 = M) (h15 : u.1 15 = F) (hM : Wf M) (T : Nat → Int32) (h13 : u.1 13 = T) (tT : ∀ k : Nat, 53 ≤ k → T k = 0) (x n : Int32) (w : Int32) (h_0 : ¬ w = 0) (h_1 : ¬ w = 1) (h_2 : ¬ w = 2) : CtI l G yX5_on wsX5_on (rmO 6 137) [.ref (gad G 34), .int x, .int n, .int w] u (P3 u 11 13 15 (X_on M F x n w)) := by
  refine CtI.of (cc := cX5_on) (maxL := 5) (ret := (some .int)) (own := RX5) (by decide) rfl rfl ?_
  rintro pg ev s0 mm below meth cd ⟨hx, hb, hr, hml, hown, hts, hlocks⟩ hE hP ls hl
  have hS : va_S (gA G) s0.heap s0.heap [] := va_S.rf
  have hl : lv_has ls 5 [(0, .ref (gad G 34)), (1, .int x), (2, .int n), (3, .int w)] := hl
  have hn := hM.n
  have h8 := hM.n8
  refine lv_aload_n hx hb dX5_on_0 rfl (lv_at hl 0 rfl) ?_
  refine lv_iload_n hx hb dX5_on_1 rfl (lv_at hl 1 rfl) ?_
  refine hd_callVi (As := [.int x]) (rest := []) ⟨hx, hb, hml, hown, hts⟩ hE hP hS (c_X5_isPerson l G u M h11 x) rfl (cwV 1 hts gX5_on_X5_isPerson rfl rfl rfl (by decide +kernel) ⟨Nat.le_of_ble_eq_true rfl, Nat.le_of_ble_eq_true rfl⟩) (mo_recv hE hP) rfl hl.1 rfl (Nat.le_of_ble_eq_true rfl) dX5_on_2 (fun rq_1 vq_1 H locs q_1 hP hS => ?_)
  have hP := hP.cast (q_1.2)
  refine lv_cast q_1.1 ?_
  refine bo_eq (tgt := 30) hx hb dX5_on_5 (by decide) (fun c_2 => ?_) (fun c_2 => ?_)
  · skip
    refine lv_aload_n hx hb dX5_on_30 rfl (lv_at hl 0 rfl) ?_
    refine lv_ldc (v := (-1000000001)) hx hb hown (hts (.constant RX5 35 ((-1000000001))) (by decide +kernel)) dX5_on_31 ?_
    refine hd_callVi (As := [.int (-1000000001)]) (rest := []) ⟨hx, hb, hml, hown, hts⟩ hE hP hS (c_X5_finds_0 l G u F h15) rfl (cwV 1 hts gX5_on_X5_finds rfl rfl rfl (by decide +kernel) ⟨Nat.le_of_ble_eq_true rfl, Nat.le_of_ble_eq_true rfl⟩) (mo_recv hE hP) rfl hl.1 rfl (Nat.le_of_ble_eq_true rfl) dX5_on_33 (fun rq_3 vq_3 H locs q_3 hP hS => ?_)
    have hP := hP.cast (q_3.2)
    refine lv_cast q_3.1 ?_
    exact hd_iret hx hb hr hlocks hP hS (P3.of (by first | rfl | (simp [X_on, h_0, h_1, h_2, bey, none3, bmp, c_2]; done) | (exfalso; simp_all; done) | (simp only [X_on, h_0, h_1, h_2, bey, none3, bmp, c_2, ↓reduceIte] <;> rfl)) ((sI_ne _ _ (by decide)).trans h11) ((sI_ne _ _ (by decide)).trans h13) (sI_at _ _ _) (by decide) (by decide) (by decide) (fun k k0 k1 k6 => ((sI_ne _ _ k6).trans rfl)) rfl) dX5_on_36
  · skip
    obtain ⟨q, hq, rfl⟩ := pe_get hM c_2
    refine lv_iload_n hx hb dX5_on_8 rfl (lv_at hl 2 rfl) ?_
    refine lv_i2l hx hb dX5_on_9 rfl ?_
    refine lv_iconst (v := 0) hx hb dX5_on_10 (by decide) ?_
    refine lv_sipush (v := 400) hx hb dX5_on_11 (by decide) ?_
    refine hd_callSi (As := [.long n.toInt64, .int 0, .int 400]) (rest := []) ⟨hx, hb, hml, hown, hts⟩ hE hP hS (c_X5_inI l G u n 0 400) rfl (va_cwS 3 hts gX5_on_X5_in rfl rfl rfl (by decide +kernel) ⟨Nat.le_of_ble_eq_true rfl, Nat.le_of_ble_eq_true rfl⟩) rfl hl.1 rfl (Nat.le_of_ble_eq_true rfl) dX5_on_14 (fun rq_4 vq_4 H locs q_4 hP hS => ?_)
    have hP := hP.cast (q_4.2)
    refine lv_cast q_4.1 ?_
    refine bo_eq (tgt := 30) hx hb dX5_on_17 (by decide) (fun c_5 => ?_) (fun c_5 => ?_)
    · skip
      refine lv_aload_n hx hb dX5_on_30 rfl (lv_at hl 0 rfl) ?_
      refine lv_ldc (v := (-1000000001)) hx hb hown (hts (.constant RX5 35 ((-1000000001))) (by decide +kernel)) dX5_on_31 ?_
      refine hd_callVi (As := [.int (-1000000001)]) (rest := []) ⟨hx, hb, hml, hown, hts⟩ hE hP hS (c_X5_finds_0 l G u F h15) rfl (cwV 1 hts gX5_on_X5_finds rfl rfl rfl (by decide +kernel) ⟨Nat.le_of_ble_eq_true rfl, Nat.le_of_ble_eq_true rfl⟩) (mo_recv hE hP) rfl hl.1 rfl (Nat.le_of_ble_eq_true rfl) dX5_on_33 (fun rq_6 vq_6 H locs q_6 hP hS => ?_)
      have hP := hP.cast (q_6.2)
      refine lv_cast q_6.1 ?_
      exact hd_iret hx hb hr hlocks hP hS (P3.of (by first | rfl | (simp [X_on, h_0, h_1, h_2, bey, none3, bmp, nI_clamp (show q < 2 ^ 31 by omega), c_2, c_5]; done) | (exfalso; simp_all; done) | (simp only [X_on, h_0, h_1, h_2, bey, none3, bmp, nI_clamp (show q < 2 ^ 31 by omega), c_2, c_5, ↓reduceIte] <;> rfl)) ((sI_ne _ _ (by decide)).trans h11) ((sI_ne _ _ (by decide)).trans h13) (sI_at _ _ _) (by decide) (by decide) (by decide) (fun k k0 k1 k6 => ((sI_ne _ _ k6).trans rfl)) rfl) dX5_on_36
    · skip
      obtain ⟨n9, hn9a, hn9b, rfl⟩ := inI_nat c_5 rfl rfl (na := 0) (nb := 400) (by decide) (by decide)
      refine lv_iload_n hx hb dX5_on_20 rfl (lv_at hl 3 rfl) ?_
      refine lv_i2l hx hb dX5_on_21 rfl ?_
      refine lv_iconst (v := 0) hx hb dX5_on_22 (by decide) ?_
      refine lv_iconst (v := 2) hx hb dX5_on_23 (by decide) ?_
      refine hd_callSi (As := [.long w.toInt64, .int 0, .int 2]) (rest := []) ⟨hx, hb, hml, hown, hts⟩ hE hP hS (c_X5_inI l G u w 0 2) rfl (va_cwS 3 hts gX5_on_X5_in rfl rfl rfl (by decide +kernel) ⟨Nat.le_of_ble_eq_true rfl, Nat.le_of_ble_eq_true rfl⟩) rfl hl.1 rfl (Nat.le_of_ble_eq_true rfl) dX5_on_24 (fun rq_7 vq_7 H locs q_7 hP hS => ?_)
      have hP := hP.cast (q_7.2)
      refine lv_cast q_7.1 ?_
      refine bo_ne (tgt := 37) hx hb dX5_on_27 (by decide) (fun c_8 => absurd (in02 c_8) (by simp [h_0, h_1, h_2])) (fun c_8 => ?_)
      refine lv_aload_n hx hb dX5_on_30 rfl (lv_at hl 0 rfl) ?_
      refine lv_ldc (v := (-1000000001)) hx hb hown (hts (.constant RX5 35 ((-1000000001))) (by decide +kernel)) dX5_on_31 ?_
      refine hd_callVi (As := [.int (-1000000001)]) (rest := []) ⟨hx, hb, hml, hown, hts⟩ hE hP hS (c_X5_finds_0 l G u F h15) rfl (cwV 1 hts gX5_on_X5_finds rfl rfl rfl (by decide +kernel) ⟨Nat.le_of_ble_eq_true rfl, Nat.le_of_ble_eq_true rfl⟩) (mo_recv hE hP) rfl hl.1 rfl (Nat.le_of_ble_eq_true rfl) dX5_on_33 (fun rq_9 vq_9 H locs q_9 hP hS => ?_)
      have hP := hP.cast (q_9.2)
      refine lv_cast q_9.1 ?_
      exact hd_iret hx hb hr hlocks hP hS (P3.of (by first | rfl | (simp [X_on, h_0, h_1, h_2, bey, none3, bmp, nI_clamp (show q < 2 ^ 31 by omega), nI_clamp (show n9 < 2 ^ 31 by omega), c_2, c_5, c_8]; done) | (exfalso; simp_all; done) | (simp only [X_on, h_0, h_1, h_2, bey, none3, bmp, nI_clamp (show q < 2 ^ 31 by omega), nI_clamp (show n9 < 2 ^ 31 by omega), c_2, c_5, c_8, ↓reduceIte] <;> rfl)) ((sI_ne _ _ (by decide)).trans h11) ((sI_ne _ _ (by decide)).trans h13) (sI_at _ _ _) (by decide) (by decide) (by decide) (fun k k0 k1 k6 => ((sI_ne _ _ k6).trans rfl)) rfl) dX5_on_36
theorem c_X5_on (l : Launch) (G : Geo) (u : Sg) (M F : Nat → Int32) (h11 : u.1 11 = M) (h15 : u.1 15 = F) (hM : Wf M) (T : Nat → Int32) (h13 : u.1 13 = T) (tT : ∀ k : Nat, 53 ≤ k → T k = 0) (x n : Int32) (w : Int32) : CtI l G yX5_on wsX5_on (rmO 6 137) [.ref (gad G 34), .int x, .int n, .int w] u (P3 u 11 13 15 (X_on M F x n w)) := by
  by_cases h_0 : w = 0
  · subst h_0; exact c_X5_on_0 l G u M F h11 h15 hM T h13 tT x n
  by_cases h_1 : w = 1
  · subst h_1; exact c_X5_on_1 l G u M F h11 h15 hM T h13 tT x n
  by_cases h_2 : w = 2
  · subst h_2; exact c_X5_on_2 l G u M F h11 h15 hM T h13 tT x n
  exact c_X5_on_o l G u M F h11 h15 hM T h13 tT x n w h_0 h_1 h_2
set_option maxHeartbeats 4000000 in
set_option maxRecDepth 100000 in
theorem c_X5_loose (l : Launch) (G : Geo) (u : Sg) (M F : Nat → Int32) (h11 : u.1 11 = M) (h15 : u.1 15 = F) (hM : Wf M) (T : Nat → Int32) (h13 : u.1 13 = T) (tT : ∀ k : Nat, 53 ≤ k → T k = 0) (n : Int32) : CtI l G yX5_loose wsX5_loose (rmO 7 159) [.ref (gad G 34), .int n] u (P3 u 11 13 15 (X_loose M F n)) := by
  refine CtI.of (cc := cX5_loose) (maxL := 2) (ret := (some .int)) (own := RX5) (by decide) rfl rfl ?_
  rintro pg ev s0 mm below meth cd ⟨hx, hb, hr, hml, hown, hts, hlocks⟩ hE hP ls hl
  have hS : va_S (gA G) s0.heap s0.heap [] := va_S.rf
  have hl : lv_has ls 2 [(0, .ref (gad G 34)), (1, .int n)] := hl
  have hn := hM.n
  have h8 := hM.n8
  refine lv_iload_n hx hb dX5_loose_0 rfl (lv_at hl 1 rfl) ?_
  refine lv_i2l hx hb dX5_loose_1 rfl ?_
  refine lv_iconst (v := 0) hx hb dX5_loose_2 (by decide) ?_
  refine lv_sipush (v := 400) hx hb dX5_loose_3 (by decide) ?_
  refine hd_callSi (As := [.long n.toInt64, .int 0, .int 400]) (rest := []) ⟨hx, hb, hml, hown, hts⟩ hE hP hS (c_X5_inI l G u n 0 400) rfl (va_cwS 3 hts gX5_loose_X5_in rfl rfl rfl (by decide +kernel) ⟨Nat.le_of_ble_eq_true rfl, Nat.le_of_ble_eq_true rfl⟩) rfl hl.1 rfl (Nat.le_of_ble_eq_true rfl) dX5_loose_6 (fun rq_1 vq_1 H locs q_1 hP hS => ?_)
  have hP := hP.cast (q_1.2)
  refine lv_cast q_1.1 ?_
  refine bo_ne (tgt := 19) hx hb dX5_loose_9 (by decide) (fun c_2 => ?_) (fun c_2 => ?_)
  · skip
    obtain ⟨n9, hn9a, hn9b, rfl⟩ := inI_nat c_2 rfl rfl (na := 0) (nb := 400) (by decide) (by decide)
    refine lv_aload_n hx hb dX5_loose_19 rfl (lv_at hl 0 rfl) ?_
    refine hd_callVv (As := []) (rest := []) ⟨hx, hb, hml, hown, hts⟩ hE hP hS (c_X5_thinks l G u M T h11 h13 (hM).1 tT) rfl (cwV 0 hts gX5_loose_X5_thinks rfl rfl rfl (by decide +kernel) ⟨Nat.le_of_ble_eq_true rfl, Nat.le_of_ble_eq_true rfl⟩) (mo_recv hE hP) rfl hl.1 rfl (Nat.le_of_ble_eq_true rfl) dX5_loose_20 (fun vq_3 H locs q_3 hP hS => ?_)
    have hP := hP.cast (q_3)
    refine lv_aload_n hx hb dX5_loose_23 rfl (lv_at hl 0 rfl) ?_
    refine lv_iload_n hx hb dX5_loose_24 rfl (lv_at hl 1 rfl) ?_
    refine hd_callVi (As := [.int (nI n9)]) (rest := []) ⟨hx, hb, hml, hown, hts⟩ hE hP hS (c_X5_looseOn l G (sI u 13 M) M M ((sI_ne _ _ (by decide)).trans h11) (sI_at _ _ _) hM (hM).1 n9 (by omega)) rfl (cwV 1 hts gX5_loose_X5_looseOn rfl rfl rfl (by decide +kernel) ⟨Nat.le_of_ble_eq_true rfl, Nat.le_of_ble_eq_true rfl⟩) (mo_recv hE hP) rfl hl.1 rfl (Nat.le_of_ble_eq_true rfl) dX5_loose_25 (fun rq_4 vq_4 H locs q_4 hP hS => ?_)
    have hP := hP.cast (q_4.2)
    refine lv_cast q_4.1 ?_
    exact hd_iret hx hb hr hlocks hP hS (P3.of (by first | rfl | (simp [X_loose, bey, none3, bmp, nI_clamp (show n9 < 2 ^ 31 by omega), c_2]; done) | (exfalso; simp_all; done) | (simp only [X_loose, bey, none3, bmp, nI_clamp (show n9 < 2 ^ 31 by omega), c_2, ↓reduceIte] <;> rfl)) (sI_at _ _ _) ((sI_ne _ _ (by decide)).trans (sI_at _ _ _)) ((sI_ne _ _ (by decide)).trans ((sI_ne _ _ (by decide)).trans h15)) (by decide) (by decide) (by decide) (fun k k0 k1 k6 => ((sI_ne _ _ k0).trans ((sI_ne _ _ k1).trans rfl))) rfl) dX5_loose_28
  · skip
    refine lv_aload_n hx hb dX5_loose_12 rfl (lv_at hl 0 rfl) ?_
    refine lv_ldc (v := (-1000000001)) hx hb hown (hts (.constant RX5 35 ((-1000000001))) (by decide +kernel)) dX5_loose_13 ?_
    refine hd_callVi (As := [.int (-1000000001)]) (rest := []) ⟨hx, hb, hml, hown, hts⟩ hE hP hS (c_X5_finds_0 l G u F h15) rfl (cwV 1 hts gX5_loose_X5_finds rfl rfl rfl (by decide +kernel) ⟨Nat.le_of_ble_eq_true rfl, Nat.le_of_ble_eq_true rfl⟩) (mo_recv hE hP) rfl hl.1 rfl (Nat.le_of_ble_eq_true rfl) dX5_loose_15 (fun rq_5 vq_5 H locs q_5 hP hS => ?_)
    have hP := hP.cast (q_5.2)
    refine lv_cast q_5.1 ?_
    exact hd_iret hx hb hr hlocks hP hS (P3.of (by first | rfl | (simp [X_loose, bey, none3, bmp, c_2]; done) | (exfalso; simp_all; done) | (simp only [X_loose, bey, none3, bmp, c_2, ↓reduceIte] <;> rfl)) ((sI_ne _ _ (by decide)).trans h11) ((sI_ne _ _ (by decide)).trans h13) (sI_at _ _ _) (by decide) (by decide) (by decide) (fun k k0 k1 k6 => ((sI_ne _ _ k6).trans rfl)) rfl) dX5_loose_18
set_option maxHeartbeats 4000000 in
set_option maxRecDepth 100000 in
theorem c_X5_comes (l : Launch) (G : Geo) (u : Sg) (M F : Nat → Int32) (h11 : u.1 11 = M) (h15 : u.1 15 = F) (hM : Wf M) (T : Nat → Int32) (h13 : u.1 13 = T) (tT : ∀ k : Nat, 53 ≤ k → T k = 0) (x : Int32) : CtI l G yX5_comes wsX5_comes (rmO 5 115) [.ref (gad G 34), .int x] u (P3 u 11 13 15 (X_comes M F x)) := by
  refine CtI.of (cc := cX5_comes) (maxL := 3) (ret := (some .int)) (own := RX5) (by decide) rfl rfl ?_
  rintro pg ev s0 mm below meth cd ⟨hx, hb, hr, hml, hown, hts, hlocks⟩ hE hP ls hl
  have hS : va_S (gA G) s0.heap s0.heap [] := va_S.rf
  have hl : lv_has ls 3 [(0, .ref (gad G 34)), (1, .int x)] := hl
  have hn := hM.n
  have h8 := hM.n8
  refine lv_aload_n hx hb dX5_comes_0 rfl (lv_at hl 0 rfl) ?_
  refine lv_iload_n hx hb dX5_comes_1 rfl (lv_at hl 1 rfl) ?_
  refine hd_callVi (As := [.int x]) (rest := []) ⟨hx, hb, hml, hown, hts⟩ hE hP hS (c_X5_isPerson l G u M h11 x) rfl (cwV 1 hts gX5_comes_X5_isPerson rfl rfl rfl (by decide +kernel) ⟨Nat.le_of_ble_eq_true rfl, Nat.le_of_ble_eq_true rfl⟩) (mo_recv hE hP) rfl hl.1 rfl (Nat.le_of_ble_eq_true rfl) dX5_comes_2 (fun rq_1 vq_1 H locs q_1 hP hS => ?_)
  have hP := hP.cast (q_1.2)
  refine lv_cast q_1.1 ?_
  refine bo_ne (tgt := 15) hx hb dX5_comes_5 (by decide) (fun c_2 => ?_) (fun c_2 => ?_)
  · skip
    obtain ⟨q, hq, rfl⟩ := pe_get hM c_2
    refine lv_aload_n hx hb dX5_comes_15 rfl (lv_at hl 0 rfl) ?_
    refine hd_callVv (As := []) (rest := []) ⟨hx, hb, hml, hown, hts⟩ hE hP hS (c_X5_thinks l G u M T h11 h13 (hM).1 tT) rfl (cwV 0 hts gX5_comes_X5_thinks rfl rfl rfl (by decide +kernel) ⟨Nat.le_of_ble_eq_true rfl, Nat.le_of_ble_eq_true rfl⟩) (mo_recv hE hP) rfl hl.1 rfl (Nat.le_of_ble_eq_true rfl) dX5_comes_16 (fun vq_3 H locs q_3 hP hS => ?_)
    have hP := hP.cast (q_3)
    refine lv_iconst (v := 0) hx hb dX5_comes_19 (by decide) ?_
    refine lv_istore_n (lv' := [(2, .int 0), (0, .ref (gad G 34)), (1, .int (nI q))]) hx hb dX5_comes_20 rfl hl (by decide) rfl (fun ls hl => ?_)
    have J21 : ∀ (fu : Nat) (k : Nat) (d : Nat) (N : Nat → Int32) (hkd : k + d = 401) (hf : fst1 (inP M q) d k = fst1 (inP M q) 401 0) (hN : N = goN M k) (hrk : d < fu) (H : Heap) (locs : List Loc) (ls : Array Slot), WP G (sI (sI u 13 M) 11 N) H → va_S (gA G) s0.heap H locs → lv_has ls 3 [(0, .ref (gad G 34)), (1, .int (nI q)), (2, .int (nI k))] → W pg l ev (headSpec wsX5_comes (rmO 5 115)).room s0 mm ([.ref (gad G 34), .int (nI q)] : List Value).toArray below meth cd H locs 0 0 (MQ below (va_Qi (P3 u 11 13 15 (X_comes M F (nI q))) (fun v t => WP G v t.heap) (gA G)) ([.ref (gad G 34), .int (nI q)] : List Value).toArray s0 0 0 (gA G)) (F0 mm 21 ls []) := by
      intro fu
      induction fu with
      | zero => intro k d N hkd hf hN hrk; exact absurd hrk (Nat.not_lt_zero _)
      | succ fu ih21 =>
        intro k d N hkd hf hN hrk H locs ls hP hS hl
        have hWn : Wf N := by rw [hN]; exact Wf_goN hM k
        have hNp : nP N = nP M := by rw [hN, nP_goN]
        refine lv_iload_n hx hb dX5_comes_21 rfl (lv_at hl 2 rfl) ?_
        refine lv_sipush (v := 400) hx hb dX5_comes_22 (by decide) ?_
        refine nn_gt (a := k) (b := 400) (by omega) (by omega) (tgt := 47) hx hb dX5_comes_25 (by decide) (fun c_4 => ?_) (fun c_4 => ?_)
        · skip
          refine lv_aload_n hx hb dX5_comes_47 rfl (lv_at hl 0 rfl) ?_
          refine hd_callVv (As := []) (rest := []) ⟨hx, hb, hml, hown, hts⟩ hE hP hS (c_X5_putsBack l G (sI (sI u 13 M) 11 N) M N ((sI_ne _ _ (by decide)).trans (sI_at _ _ _)) (sI_at _ _ _) (hM).1 (hWn).1) rfl (cwV 0 hts gX5_comes_X5_putsBack rfl rfl rfl (by decide +kernel) ⟨Nat.le_of_ble_eq_true rfl, Nat.le_of_ble_eq_true rfl⟩) (mo_recv hE hP) rfl hl.1 rfl (Nat.le_of_ble_eq_true rfl) dX5_comes_48 (fun vq_5 H locs q_5 hP hS => ?_)
          have q_5v := q_5
          have hP := hP.cast (q_5v.trans (sI_sI _ _ _ _))
          refine lv_iload_n hx hb dX5_comes_51 rfl (lv_at hl 2 rfl) ?_
          refine lv_sipush (v := 400) hx hb dX5_comes_52 (by decide) ?_
          refine nn_le (a := k) (b := 400) (by omega) (by omega) (tgt := 67) hx hb dX5_comes_55 (by decide) (fun c_6 => ?_) (fun c_6 => ?_)
          · skip
            refine lv_iload_n hx hb dX5_comes_67 rfl (lv_at hl 2 rfl) ?_
            exact hd_iret hx hb hr hlocks hP hS (P3.of (by exfalso; omega) (sI_at _ _ _) ((sI_ne _ _ (by decide)).trans (sI_at _ _ _)) ((sI_ne _ _ (by decide)).trans ((sI_ne _ _ (by decide)).trans h15)) (by decide) (by decide) (by decide) (fun k k0 k1 k6 => ((sI_ne _ _ k0).trans ((sI_ne _ _ k1).trans rfl))) rfl) dX5_comes_68
          · skip
            refine lv_aload_n hx hb dX5_comes_58 rfl (lv_at hl 0 rfl) ?_
            refine lv_ldc (v := (-1000000004)) hx hb hown (hts (.constant RX5 36 ((-1000000004))) (by decide +kernel)) dX5_comes_59 ?_
            refine hd_callVi (As := [.int (-1000000004)]) (rest := []) ⟨hx, hb, hml, hown, hts⟩ hE hP hS (c_X5_finds_3 l G (sI (sI u 13 M) 11 M) F ((sI_ne _ _ (by decide)).trans ((sI_ne _ _ (by decide)).trans h15))) rfl (cwV 1 hts gX5_comes_X5_finds rfl rfl rfl (by decide +kernel) ⟨Nat.le_of_ble_eq_true rfl, Nat.le_of_ble_eq_true rfl⟩) (mo_recv hE hP) rfl hl.1 rfl (Nat.le_of_ble_eq_true rfl) dX5_comes_61 (fun rq_7 vq_7 H locs q_7 hP hS => ?_)
            have hP := hP.cast (q_7.2)
            refine lv_cast q_7.1 ?_
            refine lv_goto (tgt := 68) hx hb dX5_comes_64 (by decide) ?_
            exact hd_iret hx hb hr hlocks hP hS (P3.of (by rw [X_comes, c_2, if_neg (by decide), nI_clamp (show q < 2 ^ 31 by omega), ← hf, show d = 0 by omega, fst1, orN, if_pos (by decide)]; rfl) ((sI_ne _ _ (by decide)).trans (sI_at _ _ _)) ((sI_ne _ _ (by decide)).trans ((sI_ne _ _ (by decide)).trans (sI_at _ _ _))) (sI_at _ _ _) (by decide) (by decide) (by decide) (fun k k0 k1 k6 => ((sI_ne _ _ k6).trans ((sI_ne _ _ k0).trans ((sI_ne _ _ k1).trans rfl)))) rfl) dX5_comes_68
        · skip
          refine lv_aload_n hx hb dX5_comes_28 rfl (lv_at hl 0 rfl) ?_
          refine lv_iload_n hx hb dX5_comes_29 rfl (lv_at hl 1 rfl) ?_
          refine lv_iconst (v := 4) hx hb dX5_comes_30 (by decide) ?_
          refine hd_callVi (As := [.int (nI q), .int 4]) (rest := []) ⟨hx, hb, hml, hown, hts⟩ hE hP hS (c_X5_it l G (sI u 13 M) N q 4 (by omega) (by omega)) rfl (cwV 2 hts gX5_comes_X5_it rfl rfl rfl (by decide +kernel) ⟨Nat.le_of_ble_eq_true rfl, Nat.le_of_ble_eq_true rfl⟩) (mo_recv hE hP) rfl hl.1 rfl (Nat.le_of_ble_eq_true rfl) dX5_comes_31 (fun rq_8 vq_8 H locs q_8 hP hS => ?_)
          have hP := hP.cast (q_8.2)
          refine lv_cast q_8.1 ?_
          refine lv_if_ne (tgt := 47) hx hb dX5_comes_34 (by decide) (fun c_9 => ?_) (fun c_9 => ?_)
          · skip
            refine lv_aload_n hx hb dX5_comes_47 rfl (lv_at hl 0 rfl) ?_
            refine hd_callVv (As := []) (rest := []) ⟨hx, hb, hml, hown, hts⟩ hE hP hS (c_X5_putsBack l G (sI (sI u 13 M) 11 N) M N ((sI_ne _ _ (by decide)).trans (sI_at _ _ _)) (sI_at _ _ _) (hM).1 (hWn).1) rfl (cwV 0 hts gX5_comes_X5_putsBack rfl rfl rfl (by decide +kernel) ⟨Nat.le_of_ble_eq_true rfl, Nat.le_of_ble_eq_true rfl⟩) (mo_recv hE hP) rfl hl.1 rfl (Nat.le_of_ble_eq_true rfl) dX5_comes_48 (fun vq_10 H locs q_10 hP hS => ?_)
            have q_10v := q_10
            have hP := hP.cast (q_10v.trans (sI_sI _ _ _ _))
            refine lv_iload_n hx hb dX5_comes_51 rfl (lv_at hl 2 rfl) ?_
            refine lv_sipush (v := 400) hx hb dX5_comes_52 (by decide) ?_
            refine nn_le (a := k) (b := 400) (by omega) (by omega) (tgt := 67) hx hb dX5_comes_55 (by decide) (fun c_11 => ?_) (fun c_11 => ?_)
            · skip
              refine lv_iload_n hx hb dX5_comes_67 rfl (lv_at hl 2 rfl) ?_
              exact hd_iret hx hb hr hlocks hP hS (P3.of (by rw [X_comes, c_2, if_neg (by decide), nI_clamp (show q < 2 ^ 31 by omega), ← hf, fst1_s (by omega), if_pos (inP_yes hM (by omega) hN c_9), orN, if_neg (nI_pos (by omega))]) (sI_at _ _ _) ((sI_ne _ _ (by decide)).trans (sI_at _ _ _)) ((sI_ne _ _ (by decide)).trans ((sI_ne _ _ (by decide)).trans h15)) (by decide) (by decide) (by decide) (fun k k0 k1 k6 => ((sI_ne _ _ k0).trans ((sI_ne _ _ k1).trans rfl))) rfl) dX5_comes_68
            · skip
              refine lv_aload_n hx hb dX5_comes_58 rfl (lv_at hl 0 rfl) ?_
              refine lv_ldc (v := (-1000000004)) hx hb hown (hts (.constant RX5 36 ((-1000000004))) (by decide +kernel)) dX5_comes_59 ?_
              refine hd_callVi (As := [.int (-1000000004)]) (rest := []) ⟨hx, hb, hml, hown, hts⟩ hE hP hS (c_X5_finds_3 l G (sI (sI u 13 M) 11 M) F ((sI_ne _ _ (by decide)).trans ((sI_ne _ _ (by decide)).trans h15))) rfl (cwV 1 hts gX5_comes_X5_finds rfl rfl rfl (by decide +kernel) ⟨Nat.le_of_ble_eq_true rfl, Nat.le_of_ble_eq_true rfl⟩) (mo_recv hE hP) rfl hl.1 rfl (Nat.le_of_ble_eq_true rfl) dX5_comes_61 (fun rq_12 vq_12 H locs q_12 hP hS => ?_)
              have hP := hP.cast (q_12.2)
              refine lv_cast q_12.1 ?_
              refine lv_goto (tgt := 68) hx hb dX5_comes_64 (by decide) ?_
              exact hd_iret hx hb hr hlocks hP hS (P3.of (by exfalso; omega) ((sI_ne _ _ (by decide)).trans (sI_at _ _ _)) ((sI_ne _ _ (by decide)).trans ((sI_ne _ _ (by decide)).trans (sI_at _ _ _))) (sI_at _ _ _) (by decide) (by decide) (by decide) (fun k k0 k1 k6 => ((sI_ne _ _ k6).trans ((sI_ne _ _ k0).trans ((sI_ne _ _ k1).trans rfl)))) rfl) dX5_comes_68
          · skip
            refine lv_aload_n hx hb dX5_comes_37 rfl (lv_at hl 0 rfl) ?_
            refine hd_callVv (As := []) (rest := []) ⟨hx, hb, hml, hown, hts⟩ hE hP hS (c_X5_goes l G (sI u 13 M) N hWn) rfl (cwV 0 hts gX5_comes_X5_goes rfl rfl rfl (by decide +kernel) ⟨Nat.le_of_ble_eq_true rfl, Nat.le_of_ble_eq_true rfl⟩) (mo_recv hE hP) rfl hl.1 rfl (Nat.le_of_ble_eq_true rfl) dX5_comes_38 (fun vq_13 H locs q_13 hP hS => ?_)
            have hP := hP.cast (q_13)
            refine lv_iinc (v := nI (k + 1)) (lv' := [(2, .int (nI (k + 1))), (0, .ref (gad G 34)), (1, .int (nI q))]) hx hb dX5_comes_41 hl (k := 2) rfl (inc1 _) (by decide) rfl (fun ls hl => ?_)
            refine lv_goto (tgt := 21) hx hb dX5_comes_44 (by decide) ?_
            exact ih21 (k + 1) (d - 1) (tik N) (by omega) (by rw [← hf, fst1_s (d := d) (by omega), if_neg (inP_no hN c_9)]) (by rw [hN, tik_goN]) (by omega) _ _ _ hP hS (lv_sub hl [1, 2, 0] rfl)
    exact J21 _ 0 401 M (by omega) rfl ((goN_0 M).symm) (Nat.lt_succ_self _) _ _ _ (hP.cast ((sI_id ((sI_ne _ _ (by decide)).trans h11)).symm)) hS (lv_sub hl [1, 2, 0] rfl)
  · skip
    refine lv_aload_n hx hb dX5_comes_8 rfl (lv_at hl 0 rfl) ?_
    refine lv_ldc (v := (-1000000001)) hx hb hown (hts (.constant RX5 35 ((-1000000001))) (by decide +kernel)) dX5_comes_9 ?_
    refine hd_callVi (As := [.int (-1000000001)]) (rest := []) ⟨hx, hb, hml, hown, hts⟩ hE hP hS (c_X5_finds_0 l G u F h15) rfl (cwV 1 hts gX5_comes_X5_finds rfl rfl rfl (by decide +kernel) ⟨Nat.le_of_ble_eq_true rfl, Nat.le_of_ble_eq_true rfl⟩) (mo_recv hE hP) rfl hl.1 rfl (Nat.le_of_ble_eq_true rfl) dX5_comes_11 (fun rq_14 vq_14 H locs q_14 hP hS => ?_)
    have hP := hP.cast (q_14.2)
    refine lv_cast q_14.1 ?_
    exact hd_iret hx hb hr hlocks hP hS (P3.of (by simp [X_comes, bey, bmp, c_2]) ((sI_ne _ _ (by decide)).trans h11) ((sI_ne _ _ (by decide)).trans h13) (sI_at _ _ _) (by decide) (by decide) (by decide) (fun k k0 k1 k6 => ((sI_ne _ _ k6).trans rfl)) rfl) dX5_comes_14
set_option maxHeartbeats 4000000 in
set_option maxRecDepth 100000 in
theorem c_X5_shuts (l : Launch) (G : Geo) (u : Sg) (M F : Nat → Int32) (h11 : u.1 11 = M) (h15 : u.1 15 = F) (hM : Wf M) (T : Nat → Int32) (h13 : u.1 13 = T) (tT : ∀ k : Nat, 53 ≤ k → T k = 0) : CtI l G yX5_shuts wsX5_shuts (rmO 5 115) [.ref (gad G 34)] u (P3 u 11 13 15 (X_shuts M F)) := by
  refine CtI.of (cc := cX5_shuts) (maxL := 2) (ret := (some .int)) (own := RX5) (by decide) rfl rfl ?_
  rintro pg ev s0 mm below meth cd ⟨hx, hb, hr, hml, hown, hts, hlocks⟩ hE hP ls hl
  have hS : va_S (gA G) s0.heap s0.heap [] := va_S.rf
  have hl : lv_has ls 2 [(0, .ref (gad G 34))] := hl
  have hin5 : ∀ w ∈ wsX50, w ∈ wsX5_shuts := by decide +kernel
  have hn := hM.n
  have h8 := hM.n8
  refine lv_aload_n hx hb dX5_shuts_0 rfl (lv_at hl 0 rfl) ?_
  refine hd_callVv (As := []) (rest := []) ⟨hx, hb, hml, hown, hts⟩ hE hP hS (c_X5_thinks l G u M T h11 h13 (hM).1 tT) rfl (cwV 0 hts gX5_shuts_X5_thinks rfl rfl rfl (by decide +kernel) ⟨Nat.le_of_ble_eq_true rfl, Nat.le_of_ble_eq_true rfl⟩) (mo_recv hE hP) rfl hl.1 rfl (Nat.le_of_ble_eq_true rfl) dX5_shuts_1 (fun vq_1 H locs q_1 hP hS => ?_)
  have hP := hP.cast (q_1)
  refine lv_iconst (v := 0) hx hb dX5_shuts_4 (by decide) ?_
  refine lv_istore_n (lv' := [(1, .int 0), (0, .ref (gad G 34))]) hx hb dX5_shuts_5 rfl hl (by decide) rfl (fun ls hl => ?_)
  have J6 : ∀ (fu : Nat) (k : Nat) (d : Nat) (N : Nat → Int32) (hkd : k + d = 401) (hf : fst1 (shP M) d k = fst1 (shP M) 401 0) (hN : N = goN M k) (hrk : d < fu) (H : Heap) (locs : List Loc) (ls : Array Slot), WP G (sI (sI u 13 M) 11 N) H → va_S (gA G) s0.heap H locs → lv_has ls 2 [(0, .ref (gad G 34)), (1, .int (nI k))] → W pg l ev (headSpec wsX5_shuts (rmO 5 115)).room s0 mm ([.ref (gad G 34)] : List Value).toArray below meth cd H locs 0 0 (MQ below (va_Qi (P3 u 11 13 15 (X_shuts M F)) (fun v t => WP G v t.heap) (gA G)) ([.ref (gad G 34)] : List Value).toArray s0 0 0 (gA G)) (F0 mm 6 ls []) := by
    intro fu
    induction fu with
    | zero => intro k d N hkd hf hN hrk; exact absurd hrk (Nat.not_lt_zero _)
    | succ fu ih6 =>
      intro k d N hkd hf hN hrk H locs ls hP hS hl
      have hWn : Wf N := by rw [hN]; exact Wf_goN hM k
      have hNp : nP N = nP M := by rw [hN, nP_goN]
      refine lv_iload_n hx hb dX5_shuts_6 rfl (lv_at hl 1 rfl) ?_
      refine lv_sipush (v := 400) hx hb dX5_shuts_7 (by decide) ?_
      refine nn_gt (a := k) (b := 400) (by omega) (by omega) (tgt := 32) hx hb dX5_shuts_10 (by decide) (fun c_2 => ?_) (fun c_2 => ?_)
      · skip
        refine lv_aload_n hx hb dX5_shuts_32 rfl (lv_at hl 0 rfl) ?_
        refine hd_callVv (As := []) (rest := []) ⟨hx, hb, hml, hown, hts⟩ hE hP hS (c_X5_putsBack l G (sI (sI u 13 M) 11 N) M N ((sI_ne _ _ (by decide)).trans (sI_at _ _ _)) (sI_at _ _ _) (hM).1 (hWn).1) rfl (cwV 0 hts gX5_shuts_X5_putsBack rfl rfl rfl (by decide +kernel) ⟨Nat.le_of_ble_eq_true rfl, Nat.le_of_ble_eq_true rfl⟩) (mo_recv hE hP) rfl hl.1 rfl (Nat.le_of_ble_eq_true rfl) dX5_shuts_33 (fun vq_3 H locs q_3 hP hS => ?_)
        have q_3v := q_3
        have hP := hP.cast (q_3v.trans (sI_sI _ _ _ _))
        refine lv_iload_n hx hb dX5_shuts_36 rfl (lv_at hl 1 rfl) ?_
        refine lv_sipush (v := 400) hx hb dX5_shuts_37 (by decide) ?_
        refine nn_le (a := k) (b := 400) (by omega) (by omega) (tgt := 52) hx hb dX5_shuts_40 (by decide) (fun c_4 => ?_) (fun c_4 => ?_)
        · skip
          refine lv_iload_n hx hb dX5_shuts_52 rfl (lv_at hl 1 rfl) ?_
          exact hd_iret hx hb hr hlocks hP hS (P3.of (by exfalso; omega) (sI_at _ _ _) ((sI_ne _ _ (by decide)).trans (sI_at _ _ _)) ((sI_ne _ _ (by decide)).trans ((sI_ne _ _ (by decide)).trans h15)) (by decide) (by decide) (by decide) (fun k k0 k1 k6 => ((sI_ne _ _ k0).trans ((sI_ne _ _ k1).trans rfl))) rfl) dX5_shuts_53
        · skip
          refine lv_aload_n hx hb dX5_shuts_43 rfl (lv_at hl 0 rfl) ?_
          refine lv_ldc (v := (-1000000004)) hx hb hown (hts (.constant RX5 36 ((-1000000004))) (by decide +kernel)) dX5_shuts_44 ?_
          refine hd_callVi (As := [.int (-1000000004)]) (rest := []) ⟨hx, hb, hml, hown, hts⟩ hE hP hS (c_X5_finds_3 l G (sI (sI u 13 M) 11 M) F ((sI_ne _ _ (by decide)).trans ((sI_ne _ _ (by decide)).trans h15))) rfl (cwV 1 hts gX5_shuts_X5_finds rfl rfl rfl (by decide +kernel) ⟨Nat.le_of_ble_eq_true rfl, Nat.le_of_ble_eq_true rfl⟩) (mo_recv hE hP) rfl hl.1 rfl (Nat.le_of_ble_eq_true rfl) dX5_shuts_46 (fun rq_5 vq_5 H locs q_5 hP hS => ?_)
          have hP := hP.cast (q_5.2)
          refine lv_cast q_5.1 ?_
          refine lv_goto (tgt := 53) hx hb dX5_shuts_49 (by decide) ?_
          exact hd_iret hx hb hr hlocks hP hS (P3.of (by rw [X_shuts, ← hf, show d = 0 by omega, fst1, orN, if_pos (by decide)]; rfl) ((sI_ne _ _ (by decide)).trans (sI_at _ _ _)) ((sI_ne _ _ (by decide)).trans ((sI_ne _ _ (by decide)).trans (sI_at _ _ _))) (sI_at _ _ _) (by decide) (by decide) (by decide) (fun k k0 k1 k6 => ((sI_ne _ _ k6).trans ((sI_ne _ _ k0).trans ((sI_ne _ _ k1).trans rfl)))) rfl) dX5_shuts_53
      · skip
        refine lv_aload_n hx hb dX5_shuts_13 rfl (lv_at hl 0 rfl) ?_
        refine mo_get hx hb hts hin5 hown hE hP ((sI_ne _ _ (by decide)).trans ((sI_ne _ _ (by decide)).trans rfl)) 0 (by decide) (hts (.fieldLink RX5 9 "HeldDoorModel" "m" "[I") (by decide +kernel)) (v := .ref (gad G 35)) rfl dX5_shuts_14 ?_
        refine lv_iconst (v := 2) hx hb dX5_shuts_17 (by decide) ?_
        refine ar_ld hx hb hE hP 35 53 (by decide) (ar_at35 (sI_at _ _ _)) 2 (by omega) dX5_shuts_18 ?_
        refine lv_if_le (tgt := 32) hx hb dX5_shuts_19 (by decide) (fun c_6 => ?_) (fun c_6 => ?_)
        · skip
          refine lv_aload_n hx hb dX5_shuts_32 rfl (lv_at hl 0 rfl) ?_
          refine hd_callVv (As := []) (rest := []) ⟨hx, hb, hml, hown, hts⟩ hE hP hS (c_X5_putsBack l G (sI (sI u 13 M) 11 N) M N ((sI_ne _ _ (by decide)).trans (sI_at _ _ _)) (sI_at _ _ _) (hM).1 (hWn).1) rfl (cwV 0 hts gX5_shuts_X5_putsBack rfl rfl rfl (by decide +kernel) ⟨Nat.le_of_ble_eq_true rfl, Nat.le_of_ble_eq_true rfl⟩) (mo_recv hE hP) rfl hl.1 rfl (Nat.le_of_ble_eq_true rfl) dX5_shuts_33 (fun vq_7 H locs q_7 hP hS => ?_)
          have q_7v := q_7
          have hP := hP.cast (q_7v.trans (sI_sI _ _ _ _))
          refine lv_iload_n hx hb dX5_shuts_36 rfl (lv_at hl 1 rfl) ?_
          refine lv_sipush (v := 400) hx hb dX5_shuts_37 (by decide) ?_
          refine nn_le (a := k) (b := 400) (by omega) (by omega) (tgt := 52) hx hb dX5_shuts_40 (by decide) (fun c_8 => ?_) (fun c_8 => ?_)
          · skip
            refine lv_iload_n hx hb dX5_shuts_52 rfl (lv_at hl 1 rfl) ?_
            exact hd_iret hx hb hr hlocks hP hS (P3.of (by rw [X_shuts, ← hf, fst1_s (by omega), if_pos (shP_yes hM hN c_6), orN, if_neg (nI_pos (by omega))]) (sI_at _ _ _) ((sI_ne _ _ (by decide)).trans (sI_at _ _ _)) ((sI_ne _ _ (by decide)).trans ((sI_ne _ _ (by decide)).trans h15)) (by decide) (by decide) (by decide) (fun k k0 k1 k6 => ((sI_ne _ _ k0).trans ((sI_ne _ _ k1).trans rfl))) rfl) dX5_shuts_53
          · skip
            refine lv_aload_n hx hb dX5_shuts_43 rfl (lv_at hl 0 rfl) ?_
            refine lv_ldc (v := (-1000000004)) hx hb hown (hts (.constant RX5 36 ((-1000000004))) (by decide +kernel)) dX5_shuts_44 ?_
            refine hd_callVi (As := [.int (-1000000004)]) (rest := []) ⟨hx, hb, hml, hown, hts⟩ hE hP hS (c_X5_finds_3 l G (sI (sI u 13 M) 11 M) F ((sI_ne _ _ (by decide)).trans ((sI_ne _ _ (by decide)).trans h15))) rfl (cwV 1 hts gX5_shuts_X5_finds rfl rfl rfl (by decide +kernel) ⟨Nat.le_of_ble_eq_true rfl, Nat.le_of_ble_eq_true rfl⟩) (mo_recv hE hP) rfl hl.1 rfl (Nat.le_of_ble_eq_true rfl) dX5_shuts_46 (fun rq_9 vq_9 H locs q_9 hP hS => ?_)
            have hP := hP.cast (q_9.2)
            refine lv_cast q_9.1 ?_
            refine lv_goto (tgt := 53) hx hb dX5_shuts_49 (by decide) ?_
            exact hd_iret hx hb hr hlocks hP hS (P3.of (by exfalso; omega) ((sI_ne _ _ (by decide)).trans (sI_at _ _ _)) ((sI_ne _ _ (by decide)).trans ((sI_ne _ _ (by decide)).trans (sI_at _ _ _))) (sI_at _ _ _) (by decide) (by decide) (by decide) (fun k k0 k1 k6 => ((sI_ne _ _ k6).trans ((sI_ne _ _ k0).trans ((sI_ne _ _ k1).trans rfl)))) rfl) dX5_shuts_53
        · skip
          refine lv_aload_n hx hb dX5_shuts_22 rfl (lv_at hl 0 rfl) ?_
          refine hd_callVv (As := []) (rest := []) ⟨hx, hb, hml, hown, hts⟩ hE hP hS (c_X5_goes l G (sI u 13 M) N hWn) rfl (cwV 0 hts gX5_shuts_X5_goes rfl rfl rfl (by decide +kernel) ⟨Nat.le_of_ble_eq_true rfl, Nat.le_of_ble_eq_true rfl⟩) (mo_recv hE hP) rfl hl.1 rfl (Nat.le_of_ble_eq_true rfl) dX5_shuts_23 (fun vq_10 H locs q_10 hP hS => ?_)
          have hP := hP.cast (q_10)
          refine lv_iinc (v := nI (k + 1)) (lv' := [(1, .int (nI (k + 1))), (0, .ref (gad G 34))]) hx hb dX5_shuts_26 hl (k := 1) rfl (inc1 _) (by decide) rfl (fun ls hl => ?_)
          refine lv_goto (tgt := 6) hx hb dX5_shuts_29 (by decide) ?_
          exact ih6 (k + 1) (d - 1) (tik N) (by omega) (by rw [← hf, fst1_s (d := d) (by omega), if_neg (shP_no hN c_6)]) (by rw [hN, tik_goN]) (by omega) _ _ _ hP hS (lv_sub hl [1, 0] rfl)
  exact J6 _ 0 401 M (by omega) rfl ((goN_0 M).symm) (Nat.lt_succ_self _) _ _ _ (hP.cast ((sI_id ((sI_ne _ _ (by decide)).trans h11)).symm)) hS (lv_sub hl [1, 0] rfl)
set_option maxHeartbeats 4000000 in
set_option maxRecDepth 100000 in
theorem c_X5_all (l : Launch) (G : Geo) (u : Sg) (M F : Nat → Int32) (h11 : u.1 11 = M) (h15 : u.1 15 = F) (hM : Wf M) (T : Nat → Int32) (h13 : u.1 13 = T) (tT : ∀ k : Nat, 53 ≤ k → T k = 0) : CtI l G yX5_all wsX5_all (rmO 5 115) [.ref (gad G 34)] u (P3 u 11 13 15 (X_all M F)) := by
  refine CtI.of (cc := cX5_all) (maxL := 2) (ret := (some .int)) (own := RX5) (by decide) rfl rfl ?_
  rintro pg ev s0 mm below meth cd ⟨hx, hb, hr, hml, hown, hts, hlocks⟩ hE hP ls hl
  have hS : va_S (gA G) s0.heap s0.heap [] := va_S.rf
  have hl : lv_has ls 2 [(0, .ref (gad G 34))] := hl
  have hin5 : ∀ w ∈ wsX50, w ∈ wsX5_all := by decide +kernel
  have hn := hM.n
  have h8 := hM.n8
  refine lv_aload_n hx hb dX5_all_0 rfl (lv_at hl 0 rfl) ?_
  refine hd_callVv (As := []) (rest := []) ⟨hx, hb, hml, hown, hts⟩ hE hP hS (c_X5_thinks l G u M T h11 h13 (hM).1 tT) rfl (cwV 0 hts gX5_all_X5_thinks rfl rfl rfl (by decide +kernel) ⟨Nat.le_of_ble_eq_true rfl, Nat.le_of_ble_eq_true rfl⟩) (mo_recv hE hP) rfl hl.1 rfl (Nat.le_of_ble_eq_true rfl) dX5_all_1 (fun vq_1 H locs q_1 hP hS => ?_)
  have hP := hP.cast (q_1)
  refine lv_iconst (v := 0) hx hb dX5_all_4 (by decide) ?_
  refine lv_istore_n (lv' := [(1, .int 0), (0, .ref (gad G 34))]) hx hb dX5_all_5 rfl hl (by decide) rfl (fun ls hl => ?_)
  have J6 : ∀ (fu : Nat) (k : Nat) (d : Nat) (N : Nat → Int32) (hkd : k + d = 401) (hf : fst1 (alP M) d k = fst1 (alP M) 401 0) (hN : N = goN M k) (hrk : d < fu) (H : Heap) (locs : List Loc) (ls : Array Slot), WP G (sI (sI u 13 M) 11 N) H → va_S (gA G) s0.heap H locs → lv_has ls 2 [(0, .ref (gad G 34)), (1, .int (nI k))] → W pg l ev (headSpec wsX5_all (rmO 5 115)).room s0 mm ([.ref (gad G 34)] : List Value).toArray below meth cd H locs 0 0 (MQ below (va_Qi (P3 u 11 13 15 (X_all M F)) (fun v t => WP G v t.heap) (gA G)) ([.ref (gad G 34)] : List Value).toArray s0 0 0 (gA G)) (F0 mm 6 ls []) := by
    intro fu
    induction fu with
    | zero => intro k d N hkd hf hN hrk; exact absurd hrk (Nat.not_lt_zero _)
    | succ fu ih6 =>
      intro k d N hkd hf hN hrk H locs ls hP hS hl
      have hWn : Wf N := by rw [hN]; exact Wf_goN hM k
      have hNp : nP N = nP M := by rw [hN, nP_goN]
      refine lv_iload_n hx hb dX5_all_6 rfl (lv_at hl 1 rfl) ?_
      refine lv_sipush (v := 400) hx hb dX5_all_7 (by decide) ?_
      refine nn_gt (a := k) (b := 400) (by omega) (by omega) (tgt := 40) hx hb dX5_all_10 (by decide) (fun c_2 => ?_) (fun c_2 => ?_)
      · skip
        refine lv_aload_n hx hb dX5_all_40 rfl (lv_at hl 0 rfl) ?_
        refine hd_callVv (As := []) (rest := []) ⟨hx, hb, hml, hown, hts⟩ hE hP hS (c_X5_putsBack l G (sI (sI u 13 M) 11 N) M N ((sI_ne _ _ (by decide)).trans (sI_at _ _ _)) (sI_at _ _ _) (hM).1 (hWn).1) rfl (cwV 0 hts gX5_all_X5_putsBack rfl rfl rfl (by decide +kernel) ⟨Nat.le_of_ble_eq_true rfl, Nat.le_of_ble_eq_true rfl⟩) (mo_recv hE hP) rfl hl.1 rfl (Nat.le_of_ble_eq_true rfl) dX5_all_41 (fun vq_3 H locs q_3 hP hS => ?_)
        have q_3v := q_3
        have hP := hP.cast (q_3v.trans (sI_sI _ _ _ _))
        refine lv_iload_n hx hb dX5_all_44 rfl (lv_at hl 1 rfl) ?_
        refine lv_sipush (v := 400) hx hb dX5_all_45 (by decide) ?_
        refine nn_le (a := k) (b := 400) (by omega) (by omega) (tgt := 60) hx hb dX5_all_48 (by decide) (fun c_4 => ?_) (fun c_4 => ?_)
        · skip
          refine lv_iload_n hx hb dX5_all_60 rfl (lv_at hl 1 rfl) ?_
          exact hd_iret hx hb hr hlocks hP hS (P3.of (by exfalso; omega) (sI_at _ _ _) ((sI_ne _ _ (by decide)).trans (sI_at _ _ _)) ((sI_ne _ _ (by decide)).trans ((sI_ne _ _ (by decide)).trans h15)) (by decide) (by decide) (by decide) (fun k k0 k1 k6 => ((sI_ne _ _ k0).trans ((sI_ne _ _ k1).trans rfl))) rfl) dX5_all_61
        · skip
          refine lv_aload_n hx hb dX5_all_51 rfl (lv_at hl 0 rfl) ?_
          refine lv_ldc (v := (-1000000004)) hx hb hown (hts (.constant RX5 36 ((-1000000004))) (by decide +kernel)) dX5_all_52 ?_
          refine hd_callVi (As := [.int (-1000000004)]) (rest := []) ⟨hx, hb, hml, hown, hts⟩ hE hP hS (c_X5_finds_3 l G (sI (sI u 13 M) 11 M) F ((sI_ne _ _ (by decide)).trans ((sI_ne _ _ (by decide)).trans h15))) rfl (cwV 1 hts gX5_all_X5_finds rfl rfl rfl (by decide +kernel) ⟨Nat.le_of_ble_eq_true rfl, Nat.le_of_ble_eq_true rfl⟩) (mo_recv hE hP) rfl hl.1 rfl (Nat.le_of_ble_eq_true rfl) dX5_all_54 (fun rq_5 vq_5 H locs q_5 hP hS => ?_)
          have hP := hP.cast (q_5.2)
          refine lv_cast q_5.1 ?_
          refine lv_goto (tgt := 61) hx hb dX5_all_57 (by decide) ?_
          exact hd_iret hx hb hr hlocks hP hS (P3.of (by rw [X_all, ← hf, show d = 0 by omega, fst1, orN, if_pos (by decide)]; rfl) ((sI_ne _ _ (by decide)).trans (sI_at _ _ _)) ((sI_ne _ _ (by decide)).trans ((sI_ne _ _ (by decide)).trans (sI_at _ _ _))) (sI_at _ _ _) (by decide) (by decide) (by decide) (fun k k0 k1 k6 => ((sI_ne _ _ k6).trans ((sI_ne _ _ k0).trans ((sI_ne _ _ k1).trans rfl)))) rfl) dX5_all_61
      · skip
        refine lv_aload_n hx hb dX5_all_13 rfl (lv_at hl 0 rfl) ?_
        refine hd_callVi (As := []) (rest := []) ⟨hx, hb, hml, hown, hts⟩ hE hP hS (c_X5_inside l G (sI u 13 M) N hWn) rfl (cwV 0 hts gX5_all_X5_inside rfl rfl rfl (by decide +kernel) ⟨Nat.le_of_ble_eq_true rfl, Nat.le_of_ble_eq_true rfl⟩) (mo_recv hE hP) rfl hl.1 rfl (Nat.le_of_ble_eq_true rfl) dX5_all_14 (fun rq_6 vq_6 H locs q_6 hP hS => ?_)
        have hP := hP.cast (q_6.2)
        refine lv_cast q_6.1 ?_
        refine lv_cast (y := inS N (nP M)) (by rw [hNp]) ?_
        refine lv_iconst (v := 1) hx hb dX5_all_17 (by decide) ?_
        refine lv_aload_n hx hb dX5_all_18 rfl (lv_at hl 0 rfl) ?_
        refine mo_get hx hb hts hin5 hown hE hP ((sI_ne _ _ (by decide)).trans ((sI_ne _ _ (by decide)).trans rfl)) 0 (by decide) (hts (.fieldLink RX5 9 "HeldDoorModel" "m" "[I") (by decide +kernel)) (v := .ref (gad G 35)) rfl dX5_all_19 ?_
        refine lv_iconst (v := 4) hx hb dX5_all_22 (by decide) ?_
        refine ar_ld hx hb hE hP 35 53 (by decide) (ar_at35 (sI_at _ _ _)) 4 (by omega) dX5_all_23 ?_
        refine lv_cast (show N 4 = nI (nP M) by rw [hWn.n, hNp]) ?_
        refine lv_ishl hx hb dX5_all_24 ?_
        refine lv_iconst (v := 1) hx hb dX5_all_25 (by decide) ?_
        refine lv_isub hx hb dX5_all_26 ?_
        refine lv_icmp_eq (tgt := 40) hx hb dX5_all_27 (by decide) (fun c_7 => ?_) (fun c_7 => ?_)
        · skip
          refine lv_aload_n hx hb dX5_all_40 rfl (lv_at hl 0 rfl) ?_
          refine hd_callVv (As := []) (rest := []) ⟨hx, hb, hml, hown, hts⟩ hE hP hS (c_X5_putsBack l G (sI (sI u 13 M) 11 N) M N ((sI_ne _ _ (by decide)).trans (sI_at _ _ _)) (sI_at _ _ _) (hM).1 (hWn).1) rfl (cwV 0 hts gX5_all_X5_putsBack rfl rfl rfl (by decide +kernel) ⟨Nat.le_of_ble_eq_true rfl, Nat.le_of_ble_eq_true rfl⟩) (mo_recv hE hP) rfl hl.1 rfl (Nat.le_of_ble_eq_true rfl) dX5_all_41 (fun vq_8 H locs q_8 hP hS => ?_)
          have q_8v := q_8
          have hP := hP.cast (q_8v.trans (sI_sI _ _ _ _))
          refine lv_iload_n hx hb dX5_all_44 rfl (lv_at hl 1 rfl) ?_
          refine lv_sipush (v := 400) hx hb dX5_all_45 (by decide) ?_
          refine nn_le (a := k) (b := 400) (by omega) (by omega) (tgt := 60) hx hb dX5_all_48 (by decide) (fun c_9 => ?_) (fun c_9 => ?_)
          · skip
            refine lv_iload_n hx hb dX5_all_60 rfl (lv_at hl 1 rfl) ?_
            exact hd_iret hx hb hr hlocks hP hS (P3.of (by rw [X_all, ← hf, fst1_s (by omega), if_pos (alP_yes hM hN c_7), orN, if_neg (nI_pos (by omega))]) (sI_at _ _ _) ((sI_ne _ _ (by decide)).trans (sI_at _ _ _)) ((sI_ne _ _ (by decide)).trans ((sI_ne _ _ (by decide)).trans h15)) (by decide) (by decide) (by decide) (fun k k0 k1 k6 => ((sI_ne _ _ k0).trans ((sI_ne _ _ k1).trans rfl))) rfl) dX5_all_61
          · skip
            refine lv_aload_n hx hb dX5_all_51 rfl (lv_at hl 0 rfl) ?_
            refine lv_ldc (v := (-1000000004)) hx hb hown (hts (.constant RX5 36 ((-1000000004))) (by decide +kernel)) dX5_all_52 ?_
            refine hd_callVi (As := [.int (-1000000004)]) (rest := []) ⟨hx, hb, hml, hown, hts⟩ hE hP hS (c_X5_finds_3 l G (sI (sI u 13 M) 11 M) F ((sI_ne _ _ (by decide)).trans ((sI_ne _ _ (by decide)).trans h15))) rfl (cwV 1 hts gX5_all_X5_finds rfl rfl rfl (by decide +kernel) ⟨Nat.le_of_ble_eq_true rfl, Nat.le_of_ble_eq_true rfl⟩) (mo_recv hE hP) rfl hl.1 rfl (Nat.le_of_ble_eq_true rfl) dX5_all_54 (fun rq_10 vq_10 H locs q_10 hP hS => ?_)
            have hP := hP.cast (q_10.2)
            refine lv_cast q_10.1 ?_
            refine lv_goto (tgt := 61) hx hb dX5_all_57 (by decide) ?_
            exact hd_iret hx hb hr hlocks hP hS (P3.of (by exfalso; omega) ((sI_ne _ _ (by decide)).trans (sI_at _ _ _)) ((sI_ne _ _ (by decide)).trans ((sI_ne _ _ (by decide)).trans (sI_at _ _ _))) (sI_at _ _ _) (by decide) (by decide) (by decide) (fun k k0 k1 k6 => ((sI_ne _ _ k6).trans ((sI_ne _ _ k0).trans ((sI_ne _ _ k1).trans rfl)))) rfl) dX5_all_61
        · skip
          refine lv_aload_n hx hb dX5_all_30 rfl (lv_at hl 0 rfl) ?_
          refine hd_callVv (As := []) (rest := []) ⟨hx, hb, hml, hown, hts⟩ hE hP hS (c_X5_goes l G (sI u 13 M) N hWn) rfl (cwV 0 hts gX5_all_X5_goes rfl rfl rfl (by decide +kernel) ⟨Nat.le_of_ble_eq_true rfl, Nat.le_of_ble_eq_true rfl⟩) (mo_recv hE hP) rfl hl.1 rfl (Nat.le_of_ble_eq_true rfl) dX5_all_31 (fun vq_11 H locs q_11 hP hS => ?_)
          have hP := hP.cast (q_11)
          refine lv_iinc (v := nI (k + 1)) (lv' := [(1, .int (nI (k + 1))), (0, .ref (gad G 34))]) hx hb dX5_all_34 hl (k := 1) rfl (inc1 _) (by decide) rfl (fun ls hl => ?_)
          refine lv_goto (tgt := 6) hx hb dX5_all_37 (by decide) ?_
          exact ih6 (k + 1) (d - 1) (tik N) (by omega) (by rw [← hf, fst1_s (d := d) (by omega), if_neg (alP_no hM hN c_7)]) (by rw [hN, tik_goN]) (by omega) _ _ _ hP hS (lv_sub hl [1, 0] rfl)
  exact J6 _ 0 401 M (by omega) rfl ((goN_0 M).symm) (Nat.lt_succ_self _) _ _ _ (hP.cast ((sI_id ((sI_ne _ _ (by decide)).trans h11)).symm)) hS (lv_sub hl [1, 0] rfl)
