set_option maxHeartbeats 4000000 in
set_option maxRecDepth 100000 in
theorem c_X4_care (l : Launch) (G : Geo) (u : Sg) (M F : Nat → Int32) (h0 : u.1 0 = M) (h6 : u.1 6 = F) (hM : Wf M) (T : Nat → Int32) (h1 : u.1 1 = T) (tT : ∀ k : Nat, 53 ≤ k → T k = 0) (n : Int32) : CtI l G yX4_care wsX4_care (rmO 6 133) [.ref (gad G 0), .int n] u (P3 u 0 1 6 (X_care M F n)) := by
  refine CtI.of (cc := cX4_care) (maxL := 5) (ret := (some .int)) (own := RX4) (by decide) rfl rfl ?_
  rintro pg ev s0 mm below meth cd ⟨hx, hb, hr, hml, hown, hts, hlocks⟩ hE hP ls hl
  have hS : va_S (gA G) s0.heap s0.heap [] := va_S.rf
  have hl : lv_has ls 5 [(0, .ref (gad G 0)), (1, .int n)] := hl
  have hin1 : ∀ w ∈ wsX10, w ∈ wsX4_care := by decide +kernel
  have hin4 : ∀ w ∈ wsX40, w ∈ wsX4_care := by decide +kernel
  have hn := hM.n
  have h8 := hM.n8
  refine lv_iload_n hx hb dX4_care_0 rfl (lv_at hl 1 rfl) ?_
  refine hd_callSi (As := [.int n]) (rest := []) ⟨hx, hb, hml, hown, hts⟩ hE hP hS (c_X4_isWeighed l G u n) rfl (va_cwS 1 hts gX4_care_X4_isWeighed rfl rfl rfl (by decide +kernel) ⟨Nat.le_of_ble_eq_true rfl, Nat.le_of_ble_eq_true rfl⟩) rfl hl.1 rfl (Nat.le_of_ble_eq_true rfl) dX4_care_1 (fun rq_1 vq_1 H locs q_1 hP hS => ?_)
  have hP := hP.cast (q_1.2)
  refine lv_cast q_1.1 ?_
  refine bo_ne (tgt := 14) hx hb dX4_care_4 (by decide) (fun c_2 => ?_) (fun c_2 => ?_)
  · skip
    obtain ⟨n9, hn9a, hn9b, rfl⟩ := inI_nat c_2 rfl rfl (na := 1) (nb := 100) (by decide) (by decide)
    refine lv_aload_n hx hb dX4_care_14 rfl (lv_at hl 0 rfl) ?_
    refine do_get hx hb hts hin4 hown hE hP rfl 0 (by decide) (hts (.fieldLink RX4 10 "HeldDoor" "scene" "LHeldDoor$Scene;") (by decide +kernel)) (v := .ref (gS G 0)) rfl dX4_care_15 ?_
    refine hd_callVi (As := []) (rest := []) ⟨hx, hb, hml, hown, hts⟩ hE hP hS (c_X1_countLoose l G u 0 (by decide) M hM) ((sI_id h0).symm) (cwV 0 hts gX4_care_X1_countLoose rfl rfl rfl (by decide +kernel) ⟨Nat.le_of_ble_eq_true rfl, Nat.le_of_ble_eq_true rfl⟩) (sc_recv hE hP (by decide)) rfl hl.1 rfl (Nat.le_of_ble_eq_true rfl) dX4_care_18 (fun rq_3 vq_3 H locs q_3 hP hS => ?_)
    have hP := hP.cast (q_3.2.trans ((sI_id h0).symm).symm)
    refine lv_cast q_3.1 ?_
    refine lv_istore_n (lv' := [(2, .int (loC M)), (0, .ref (gad G 0)), (1, .int (nI n9))]) hx hb dX4_care_21 rfl hl (by decide) rfl (fun ls hl => ?_)
    refine lv_iconst (v := 0) hx hb dX4_care_22 (by decide) ?_
    refine lv_istore_n (lv' := [(3, .int 0), (2, .int (loC M)), (0, .ref (gad G 0)), (1, .int (nI n9))]) hx hb dX4_care_23 rfl hl (by decide) rfl (fun ls hl => ?_)
    have J24 : ∀ (fu : Nat) (c9 : Nat) (T9 : Nat → Int32) (hc : c9 ≤ 100) (hf : fst1 (caP M n9) (100 - c9) c9 = fst1 (caP M n9) 100 0) (tT9 : ∀ k : Nat, 53 ≤ k → T9 k = 0) (hrk : 100 - c9 < fu) (H : Heap) (locs : List Loc) (ls : Array Slot), WP G (sI u 1 T9) H → va_S (gA G) s0.heap H locs → lv_has ls 5 [(0, .ref (gad G 0)), (1, .int (nI n9)), (2, .int (loC M)), (3, .int (nI c9))] → W pg l ev (headSpec wsX4_care (rmO 6 133)).room s0 mm ([.ref (gad G 0), .int (nI n9)] : List Value).toArray below meth cd H locs 0 0 (MQ below (va_Qi (P3 u 0 1 6 (X_care M F (nI n9))) (fun v t => WP G v t.heap) (gA G)) ([.ref (gad G 0), .int (nI n9)] : List Value).toArray s0 0 0 (gA G)) (F0 mm 24 ls []) := by
      intro fu
      induction fu with
      | zero => intro c9 T9 hc hf tT9 hrk; exact absurd hrk (Nat.not_lt_zero _)
      | succ fu ih24 =>
        intro c9 T9 hc hf tT9 hrk H locs ls hP hS hl
        refine lv_iload_n hx hb dX4_care_24 rfl (lv_at hl 3 rfl) ?_
        refine lv_bipush (v := 99) hx hb dX4_care_25 (by decide) ?_
        refine nn_gt (a := c9) (b := 99) (by omega) (by omega) (tgt := 65) hx hb dX4_care_27 (by decide) (fun c_4 => ?_) (fun c_4 => ?_)
        · skip
          refine lv_aload_n hx hb dX4_care_65 rfl (lv_at hl 0 rfl) ?_
          refine lv_ldc (v := (-1000000004)) hx hb hown (hts (.constant RX4 156 ((-1000000004))) (by decide +kernel)) dX4_care_66 ?_
          refine hd_callVi (As := [.int (-1000000004)]) (rest := []) ⟨hx, hb, hml, hown, hts⟩ hE hP hS (c_X4_found_3 l G (sI u 1 T9) F ((sI_ne _ _ (by decide)).trans h6)) rfl (cwV 1 hts gX4_care_X4_found rfl rfl rfl (by decide +kernel) ⟨Nat.le_of_ble_eq_true rfl, Nat.le_of_ble_eq_true rfl⟩) (do_recv hE hP) rfl hl.1 rfl (Nat.le_of_ble_eq_true rfl) dX4_care_68 (fun rq_5 vq_5 H locs q_5 hP hS => ?_)
          have hP := hP.cast (q_5.2)
          refine lv_cast q_5.1 ?_
          exact hd_iret hx hb hr hlocks hP hS (P3.of (by rw [X_care, c_2, if_neg (by decide), nI_clamp (show n9 < 2 ^ 31 by omega), ← hf, show 100 - c9 = 0 by omega, fst1, orN, if_pos (by decide)]; rfl) ((sI_ne _ _ (by decide)).trans ((sI_ne _ _ (by decide)).trans h0)) ((sI_ne _ _ (by decide)).trans (sI_at _ _ _)) (sI_at _ _ _) (by decide) (by decide) (by decide) (fun k k0 k1 k6 => ((sI_ne _ _ k6).trans ((sI_ne _ _ k1).trans rfl))) rfl) dX4_care_71
        · skip
          refine lv_aload_n hx hb dX4_care_30 rfl (lv_at hl 0 rfl) ?_
          refine hd_callVr (As := []) (rest := []) ⟨hx, hb, hml, hown, hts⟩ hE hP hS (c_X4_freshTrial l G (sI u 1 T9) M T9 ((sI_ne _ _ (by decide)).trans h0) (sI_at _ _ _) (hM).1 tT9) rfl (cwV 0 hts gX4_care_X4_freshTrial rfl rfl rfl (by decide +kernel) ⟨Nat.le_of_ble_eq_true rfl, Nat.le_of_ble_eq_true rfl⟩) (do_recv hE hP) rfl hl.1 rfl (Nat.le_of_ble_eq_true rfl) dX4_care_31 (fun H locs hP hS => ?_)
          have hP := hP.cast (sI_sI _ _ _ _)
          refine lv_astore (lv' := [(4, .ref (gS G 1)), (0, .ref (gad G 0)), (1, .int (nI n9)), (2, .int (loC M)), (3, .int (nI c9))]) hx hb dX4_care_34 hl (by decide) rfl (fun ls hl => ?_)
          refine lv_aload hx hb dX4_care_36 (lv_at hl 0 rfl) ?_
          refine lv_iload_n hx hb dX4_care_38 rfl (lv_at hl 4 rfl) ?_
          refine sc_put hx hb hts hin1 hown hE hP hS (by decide) (sI_at _ _ _) 1 (by decide) (hts (.fieldLink RX4 48 "HeldDoor$Scene" "care" "I") (by decide +kernel)) (sI_sI _ _ _ _) dX4_care_39 (fun H locs hP hS => ?_)
          refine lv_aload hx hb dX4_care_42 (lv_at hl 0 rfl) ?_
          refine lv_iload_n hx hb dX4_care_44 rfl (lv_at hl 2 rfl) ?_
          refine hd_callVv (As := [.int (nI n9)]) (rest := []) ⟨hx, hb, hml, hown, hts⟩ hE hP hS (c_X1_goOn l G u 1 (by decide) (upd M 1 (nI c9)) (Wf.put1 hM (by first | decide | (rw [ti_nI (by omega)]; omega)) (by first | decide | (rw [ti_nI (by omega)]; omega))) n9 (by omega)) rfl (cwV 1 hts gX4_care_X1_goOn rfl rfl rfl (by decide +kernel) ⟨Nat.le_of_ble_eq_true rfl, Nat.le_of_ble_eq_true rfl⟩) (sc_recv hE hP (by decide)) rfl hl.1 rfl (Nat.le_of_ble_eq_true rfl) dX4_care_45 (fun vq_7 H locs q_7 hP hS => ?_)
          have hP := hP.cast (q_7)
          refine lv_aload hx hb dX4_care_48 (lv_at hl 0 rfl) ?_
          refine hd_callVi (As := []) (rest := []) ⟨hx, hb, hml, hown, hts⟩ hE hP hS (c_X1_countLoose l G u 1 (by decide) (goN (upd M 1 (nI c9)) n9) (Wf_goN (Wf.put1 hM (by first | decide | (rw [ti_nI (by omega)]; omega)) (by first | decide | (rw [ti_nI (by omega)]; omega))) _)) rfl (cwV 0 hts gX4_care_X1_countLoose rfl rfl rfl (by decide +kernel) ⟨Nat.le_of_ble_eq_true rfl, Nat.le_of_ble_eq_true rfl⟩) (sc_recv hE hP (by decide)) rfl hl.1 rfl (Nat.le_of_ble_eq_true rfl) dX4_care_50 (fun rq_8 vq_8 H locs q_8 hP hS => ?_)
          have hP := hP.cast (q_8.2)
          refine lv_cast q_8.1 ?_
          refine lv_iload_n hx hb dX4_care_53 rfl (lv_at hl 3 rfl) ?_
          refine lv_icmp_gt (tgt := 59) hx hb dX4_care_54 (by decide) (fun c_9 => ?_) (fun c_9 => ?_)
          · skip
            refine lv_iinc (v := nI (c9 + 1)) (lv' := [(3, .int (nI (c9 + 1))), (4, .ref (gS G 1)), (0, .ref (gad G 0)), (1, .int (nI n9)), (2, .int (loC M))]) hx hb dX4_care_59 hl (k := 4) rfl (inc1 _) (by decide) rfl (fun ls hl => ?_)
            refine lv_goto (tgt := 24) hx hb dX4_care_62 (by decide) ?_
            exact ih24 (c9 + 1) (goN (upd M 1 (nI c9)) n9) (by omega) (by rw [← hf, fst1_s (d := 100 - c9) (by omega), if_neg (by simp only [caP]; exact fun q => absurd (of_decide_eq_true q) (Int32.not_le.mpr c_9))]; rfl) (((Wf_goN (Wf.put1 hM (by first | decide | (rw [ti_nI (by omega)]; omega)) (by first | decide | (rw [ti_nI (by omega)]; omega))) _)).1) (by omega) _ _ _ hP hS (lv_sub hl [2, 3, 4, 0] rfl)
          · skip
            refine lv_iload_n hx hb dX4_care_57 rfl (lv_at hl 4 rfl) ?_
            exact hd_iret hx hb hr hlocks hP hS (P3.of (by rw [X_care, c_2, if_neg (by decide), nI_clamp (show n9 < 2 ^ 31 by omega), ← hf, fst1_s (by omega), if_pos (by simp only [caP]; exact decide_eq_true (Int32.not_lt.mp c_9)), orN, if_neg (nI_pos (by omega))]) ((sI_ne _ _ (by decide)).trans h0) (sI_at _ _ _) ((sI_ne _ _ (by decide)).trans h6) (by decide) (by decide) (by decide) (fun k k0 k1 k6 => ((sI_ne _ _ k1).trans rfl)) rfl) dX4_care_58
    exact J24 _ 0 T (by omega) rfl tT (Nat.lt_succ_self _) _ _ _ (hP.cast ((sI_id h1).symm)) hS (lv_sub hl [2, 3, 1, 0] rfl)
  · skip
    refine lv_aload_n hx hb dX4_care_7 rfl (lv_at hl 0 rfl) ?_
    refine lv_ldc (v := (-1000000001)) hx hb hown (hts (.constant RX4 55 ((-1000000001))) (by decide +kernel)) dX4_care_8 ?_
    refine hd_callVi (As := [.int (-1000000001)]) (rest := []) ⟨hx, hb, hml, hown, hts⟩ hE hP hS (c_X4_found_0 l G u F h6) rfl (cwV 1 hts gX4_care_X4_found rfl rfl rfl (by decide +kernel) ⟨Nat.le_of_ble_eq_true rfl, Nat.le_of_ble_eq_true rfl⟩) (do_recv hE hP) rfl hl.1 rfl (Nat.le_of_ble_eq_true rfl) dX4_care_10 (fun rq_10 vq_10 H locs q_10 hP hS => ?_)
    have hP := hP.cast (q_10.2)
    refine lv_cast q_10.1 ?_
    exact hd_iret hx hb hr hlocks hP hS (P3.of (by simp [X_care, bey, bmp, c_2]) ((sI_ne _ _ (by decide)).trans h0) ((sI_ne _ _ (by decide)).trans h1) (sI_at _ _ _) (by decide) (by decide) (by decide) (fun k k0 k1 k6 => ((sI_ne _ _ k6).trans rfl)) rfl) dX4_care_13
set_option maxHeartbeats 4000000 in
set_option maxRecDepth 100000 in
theorem c_X4_kind (l : Launch) (G : Geo) (u : Sg) (M F : Nat → Int32) (h0 : u.1 0 = M) (h6 : u.1 6 = F) (hM : Wf M) (T : Nat → Int32) (h1 : u.1 1 = T) (tT : ∀ k : Nat, 53 ≤ k → T k = 0) (x n : Int32) : CtI l G yX4_kind wsX4_kind (rmO 6 133) [.ref (gad G 0), .int x, .int n] u (P3 u 0 1 6 (X_kind M F x n)) := by
  refine CtI.of (cc := cX4_kind) (maxL := 8) (ret := (some .int)) (own := RX4) (by decide) rfl rfl ?_
  rintro pg ev s0 mm below meth cd ⟨hx, hb, hr, hml, hown, hts, hlocks⟩ hE hP ls hl
  have hS : va_S (gA G) s0.heap s0.heap [] := va_S.rf
  have hl : lv_has ls 8 [(0, .ref (gad G 0)), (1, .int x), (2, .int n)] := hl
  have hin1 : ∀ w ∈ wsX10, w ∈ wsX4_kind := by decide +kernel
  have hn := hM.n
  have h8 := hM.n8
  refine lv_aload_n hx hb dX4_kind_0 rfl (lv_at hl 0 rfl) ?_
  refine lv_iload_n hx hb dX4_kind_1 rfl (lv_at hl 1 rfl) ?_
  refine hd_callVi (As := [.int x]) (rest := []) ⟨hx, hb, hml, hown, hts⟩ hE hP hS (c_X4_isPerson l G u M h0 x) rfl (cwV 1 hts gX4_kind_X4_isPerson rfl rfl rfl (by decide +kernel) ⟨Nat.le_of_ble_eq_true rfl, Nat.le_of_ble_eq_true rfl⟩) (do_recv hE hP) rfl hl.1 rfl (Nat.le_of_ble_eq_true rfl) dX4_kind_2 (fun rq_1 vq_1 H locs q_1 hP hS => ?_)
  have hP := hP.cast (q_1.2)
  refine lv_cast q_1.1 ?_
  refine bo_eq (tgt := 15) hx hb dX4_kind_5 (by decide) (fun c_2 => ?_) (fun c_2 => ?_)
  · skip
    refine lv_aload_n hx hb dX4_kind_15 rfl (lv_at hl 0 rfl) ?_
    refine lv_ldc (v := (-1000000001)) hx hb hown (hts (.constant RX4 55 ((-1000000001))) (by decide +kernel)) dX4_kind_16 ?_
    refine hd_callVi (As := [.int (-1000000001)]) (rest := []) ⟨hx, hb, hml, hown, hts⟩ hE hP hS (c_X4_found_0 l G u F h6) rfl (cwV 1 hts gX4_kind_X4_found rfl rfl rfl (by decide +kernel) ⟨Nat.le_of_ble_eq_true rfl, Nat.le_of_ble_eq_true rfl⟩) (do_recv hE hP) rfl hl.1 rfl (Nat.le_of_ble_eq_true rfl) dX4_kind_18 (fun rq_3 vq_3 H locs q_3 hP hS => ?_)
    have hP := hP.cast (q_3.2)
    refine lv_cast q_3.1 ?_
    exact hd_iret hx hb hr hlocks hP hS (P3.of (by first | (simp [X_kind, bey, bmp, c_2]; done)) ((sI_ne _ _ (by decide)).trans h0) ((sI_ne _ _ (by decide)).trans h1) (sI_at _ _ _) (by decide) (by decide) (by decide) (fun k k0 k1 k6 => ((sI_ne _ _ k6).trans rfl)) rfl) dX4_kind_21
  · skip
    obtain ⟨q, hq, rfl⟩ := pe_get hM c_2
    refine lv_iload_n hx hb dX4_kind_8 rfl (lv_at hl 2 rfl) ?_
    refine hd_callSi (As := [.int n]) (rest := []) ⟨hx, hb, hml, hown, hts⟩ hE hP hS (c_X4_isWeighed l G u n) rfl (va_cwS 1 hts gX4_kind_X4_isWeighed rfl rfl rfl (by decide +kernel) ⟨Nat.le_of_ble_eq_true rfl, Nat.le_of_ble_eq_true rfl⟩) rfl hl.1 rfl (Nat.le_of_ble_eq_true rfl) dX4_kind_9 (fun rq_4 vq_4 H locs q_4 hP hS => ?_)
    have hP := hP.cast (q_4.2)
    refine lv_cast q_4.1 ?_
    refine bo_ne (tgt := 22) hx hb dX4_kind_12 (by decide) (fun c_5 => ?_) (fun c_5 => ?_)
    · skip
      obtain ⟨n9, hn9a, hn9b, rfl⟩ := inI_nat c_5 rfl rfl (na := 1) (nb := 100) (by decide) (by decide)
      refine lv_iconst (v := 0) hx hb dX4_kind_22 (by decide) ?_
      refine lv_istore_n (lv' := [(3, .int 0), (0, .ref (gad G 0)), (1, .int (nI q)), (2, .int (nI n9))]) hx hb dX4_kind_23 rfl hl (by decide) rfl (fun ls hl => ?_)
      refine lv_bipush (v := 9) hx hb dX4_kind_24 (by decide) ?_
      refine lv_istore (lv' := [(4, .int 9), (3, .int 0), (0, .ref (gad G 0)), (1, .int (nI q)), (2, .int (nI n9))]) hx hb dX4_kind_26 hl (by decide) rfl (fun ls hl => ?_)
      refine lv_iconst (v := 0) hx hb dX4_kind_28 (by decide) ?_
      refine lv_istore (lv' := [(5, .int 0), (4, .int 9), (3, .int 0), (0, .ref (gad G 0)), (1, .int (nI q)), (2, .int (nI n9))]) hx hb dX4_kind_29 hl (by decide) rfl (fun ls hl => ?_)
      have J31 : ∀ (fu : Nat) (k9 : Nat) (b9 : Int32) (l9 : Int32) (T9 : Nat → Int32) (hk : k9 ≤ 6) (hbb : (b9, l9) = kdN M q n9 k9) (tT9 : ∀ k : Nat, 53 ≤ k → T9 k = 0) (hrk : 6 - k9 < fu) (H : Heap) (locs : List Loc) (ls : Array Slot), WP G (sI u 1 T9) H → va_S (gA G) s0.heap H locs → lv_has ls 8 [(0, .ref (gad G 0)), (1, .int (nI q)), (2, .int (nI n9)), (3, .int b9), (4, .int l9), (5, .int (nI k9))] → W pg l ev (headSpec wsX4_kind (rmO 6 133)).room s0 mm ([.ref (gad G 0), .int (nI q), .int (nI n9)] : List Value).toArray below meth cd H locs 0 0 (MQ below (va_Qi (P3 u 0 1 6 (X_kind M F (nI q) (nI n9))) (fun v t => WP G v t.heap) (gA G)) ([.ref (gad G 0), .int (nI q), .int (nI n9)] : List Value).toArray s0 0 0 (gA G)) (F0 mm 31 ls []) := by
        intro fu
        induction fu with
        | zero => intro k9 b9 l9 T9 hk hbb tT9 hrk; exact absurd hrk (Nat.not_lt_zero _)
        | succ fu ih31 =>
          intro k9 b9 l9 T9 hk hbb tT9 hrk H locs ls hP hS hl
          refine lv_iload hx hb dX4_kind_31 (lv_at hl 5 rfl) ?_
          refine lv_bipush (v := 6) hx hb dX4_kind_33 (by decide) ?_
          refine nn_ge (a := k9) (b := 6) (by omega) (by omega) (tgt := 86) hx hb dX4_kind_35 (by decide) (fun c_6 => ?_) (fun c_6 => ?_)
          · skip
            refine lv_iload_n hx hb dX4_kind_86 rfl (lv_at hl 3 rfl) ?_
            exact hd_iret hx hb hr hlocks hP hS (P3.of (by rw [X_kind, c_2, if_neg (by decide), c_5, if_neg (by decide), nI_clamp (show q < 2 ^ 31 by omega), nI_clamp (show n9 < 2 ^ 31 by omega), show 6 = k9 by omega, ← hbb]) ((sI_ne _ _ (by decide)).trans h0) (sI_at _ _ _) ((sI_ne _ _ (by decide)).trans h6) (by decide) (by decide) (by decide) (fun k k0 k1 k6 => ((sI_ne _ _ k1).trans rfl)) rfl) dX4_kind_87
          · skip
            refine lv_aload_n hx hb dX4_kind_38 rfl (lv_at hl 0 rfl) ?_
            refine hd_callVr (As := []) (rest := []) ⟨hx, hb, hml, hown, hts⟩ hE hP hS (c_X4_freshTrial l G (sI u 1 T9) M T9 ((sI_ne _ _ (by decide)).trans h0) (sI_at _ _ _) (hM).1 tT9) rfl (cwV 0 hts gX4_kind_X4_freshTrial rfl rfl rfl (by decide +kernel) ⟨Nat.le_of_ble_eq_true rfl, Nat.le_of_ble_eq_true rfl⟩) (do_recv hE hP) rfl hl.1 rfl (Nat.le_of_ble_eq_true rfl) dX4_kind_39 (fun H locs hP hS => ?_)
            have hP := hP.cast (sI_sI _ _ _ _)
            refine lv_astore (lv' := [(6, .ref (gS G 1)), (0, .ref (gad G 0)), (1, .int (nI q)), (2, .int (nI n9)), (3, .int b9), (4, .int l9), (5, .int (nI k9))]) hx hb dX4_kind_42 hl (by decide) rfl (fun ls hl => ?_)
            refine lv_aload hx hb dX4_kind_44 (lv_at hl 0 rfl) ?_
            refine sc_get hx hb hts hin1 hown hE hP (by decide) (sI_at _ _ _) 5 (by decide) (hts (.fieldLink RX4 108 "HeldDoor$Scene" "kinds" "[I") (by decide +kernel)) (v := .ref (gSA G 1 0)) rfl dX4_kind_46 ?_
            refine lv_iload_n hx hb dX4_kind_49 rfl (lv_at hl 2 rfl) ?_
            refine lv_iload hx hb dX4_kind_50 (lv_at hl 6 rfl) ?_
            refine sc_ast hx hb hE hP hS (by decide) (sI_at _ _ _) 0 (by decide) q (by omega) (sI_sI _ _ _ _) dX4_kind_52 (fun H locs hP hS => ?_)
            refine lv_aload hx hb dX4_kind_53 (lv_at hl 0 rfl) ?_
            refine lv_iload_n hx hb dX4_kind_55 rfl (lv_at hl 3 rfl) ?_
            refine hd_callVv (As := [.int (nI n9)]) (rest := []) ⟨hx, hb, hml, hown, hts⟩ hE hP hS (c_X1_goOn l G u 1 (by decide) (upd M (5 + 6 * q + 0) (nI k9)) (Wf.put hM (w := 0) (by omega) (by decide) (by first | decide | (rw [ti_nI (by omega)]; first | omega | (show _ ≤ hiW _; rw [hiW]; simp; omega))) (by first | decide | (rw [ti_nI (by omega)]; first | omega | (show _ ≤ hiW _; rw [hiW]; simp; omega)))) n9 (by omega)) rfl (cwV 1 hts gX4_kind_X1_goOn rfl rfl rfl (by decide +kernel) ⟨Nat.le_of_ble_eq_true rfl, Nat.le_of_ble_eq_true rfl⟩) (sc_recv hE hP (by decide)) rfl hl.1 rfl (Nat.le_of_ble_eq_true rfl) dX4_kind_56 (fun vq_8 H locs q_8 hP hS => ?_)
            have hP := hP.cast (q_8)
            refine lv_aload hx hb dX4_kind_59 (lv_at hl 0 rfl) ?_
            refine hd_callVi (As := []) (rest := []) ⟨hx, hb, hml, hown, hts⟩ hE hP hS (c_X1_countLoose l G u 1 (by decide) (goN (upd M (5 + 6 * q + 0) (nI k9)) n9) (Wf_goN (Wf.put hM (w := 0) (by omega) (by decide) (by first | decide | (rw [ti_nI (by omega)]; first | omega | (show _ ≤ hiW _; rw [hiW]; simp; omega))) (by first | decide | (rw [ti_nI (by omega)]; first | omega | (show _ ≤ hiW _; rw [hiW]; simp; omega)))) _)) rfl (cwV 0 hts gX4_kind_X1_countLoose rfl rfl rfl (by decide +kernel) ⟨Nat.le_of_ble_eq_true rfl, Nat.le_of_ble_eq_true rfl⟩) (sc_recv hE hP (by decide)) rfl hl.1 rfl (Nat.le_of_ble_eq_true rfl) dX4_kind_61 (fun rq_9 vq_9 H locs q_9 hP hS => ?_)
            have hP := hP.cast (q_9.2)
            refine lv_cast q_9.1 ?_
            refine lv_istore (lv' := [(7, .int (loC (goN (upd M (5 + 6 * q + 0) (nI k9)) n9))), (6, .ref (gS G 1)), (0, .ref (gad G 0)), (1, .int (nI q)), (2, .int (nI n9)), (3, .int b9), (4, .int l9), (5, .int (nI k9))]) hx hb dX4_kind_64 hl (by decide) rfl (fun ls hl => ?_)
            refine lv_iload hx hb dX4_kind_66 (lv_at hl 0 rfl) ?_
            refine lv_iload hx hb dX4_kind_68 (lv_at hl 6 rfl) ?_
            refine lv_icmp_ge (tgt := 80) hx hb dX4_kind_70 (by decide) (fun c_10 => ?_) (fun c_10 => ?_)
            · skip
              refine lv_iinc (v := nI (k9 + 1)) (lv' := [(5, .int (nI (k9 + 1))), (7, .int (loC (goN (upd M (5 + 6 * q + 0) (nI k9)) n9))), (6, .ref (gS G 1)), (0, .ref (gad G 0)), (1, .int (nI q)), (2, .int (nI n9)), (3, .int b9), (4, .int l9)]) hx hb dX4_kind_80 hl (k := 7) rfl (inc1 _) (by decide) rfl (fun ls hl => ?_)
              refine lv_goto (tgt := 31) hx hb dX4_kind_83 (by decide) ?_
              exact ih31 (k9 + 1) b9 l9 (goN (upd M (5 + 6 * q + 0) (nI k9)) n9) (by omega) (by rw [kdN, bst, ← hbb, if_neg (Int32.not_lt.mpr c_10)]) (((Wf_goN (Wf.put hM (w := 0) (by omega) (by decide) (by first | decide | (rw [ti_nI (by omega)]; first | omega | (show _ ≤ hiW _; rw [hiW]; simp; omega))) (by first | decide | (rw [ti_nI (by omega)]; first | omega | (show _ ≤ hiW _; rw [hiW]; simp; omega)))) _)).1) (by omega) _ _ _ hP hS (lv_sub hl [3, 4, 5, 6, 7, 0] rfl)
            · skip
              refine lv_iload hx hb dX4_kind_73 (lv_at hl 0 rfl) ?_
              refine lv_istore (lv' := [(4, .int (loC (goN (upd M (5 + 6 * q + 0) (nI k9)) n9))), (7, .int (loC (goN (upd M (5 + 6 * q + 0) (nI k9)) n9))), (6, .ref (gS G 1)), (0, .ref (gad G 0)), (1, .int (nI q)), (2, .int (nI n9)), (3, .int b9), (5, .int (nI k9))]) hx hb dX4_kind_75 hl (by decide) rfl (fun ls hl => ?_)
              refine lv_iload hx hb dX4_kind_77 (lv_at hl 7 rfl) ?_
              refine lv_istore_n (lv' := [(3, .int (nI k9)), (4, .int (loC (goN (upd M (5 + 6 * q + 0) (nI k9)) n9))), (7, .int (loC (goN (upd M (5 + 6 * q + 0) (nI k9)) n9))), (6, .ref (gS G 1)), (0, .ref (gad G 0)), (1, .int (nI q)), (2, .int (nI n9)), (5, .int (nI k9))]) hx hb dX4_kind_79 rfl hl (by decide) rfl (fun ls hl => ?_)
              refine lv_iinc (v := nI (k9 + 1)) (lv' := [(5, .int (nI (k9 + 1))), (3, .int (nI k9)), (4, .int (loC (goN (upd M (5 + 6 * q + 0) (nI k9)) n9))), (7, .int (loC (goN (upd M (5 + 6 * q + 0) (nI k9)) n9))), (6, .ref (gS G 1)), (0, .ref (gad G 0)), (1, .int (nI q)), (2, .int (nI n9))]) hx hb dX4_kind_80 hl (k := 7) rfl (inc1 _) (by decide) rfl (fun ls hl => ?_)
              refine lv_goto (tgt := 31) hx hb dX4_kind_83 (by decide) ?_
              exact ih31 (k9 + 1) (nI k9) (loC (goN (upd M (5 + 6 * q + 0) (nI k9)) n9)) (goN (upd M (5 + 6 * q + 0) (nI k9)) n9) (by omega) (by rw [kdN, bst, ← hbb, if_pos (Int32.not_le.mp c_10)]) (((Wf_goN (Wf.put hM (w := 0) (by omega) (by decide) (by first | decide | (rw [ti_nI (by omega)]; first | omega | (show _ ≤ hiW _; rw [hiW]; simp; omega))) (by first | decide | (rw [ti_nI (by omega)]; first | omega | (show _ ≤ hiW _; rw [hiW]; simp; omega)))) _)).1) (by omega) _ _ _ hP hS (lv_sub hl [5, 6, 7, 1, 2, 0] rfl)
      exact J31 _ 0 0 9 T (by omega) rfl tT (Nat.lt_succ_self _) _ _ _ (hP.cast ((sI_id h1).symm)) hS (lv_sub hl [3, 4, 5, 2, 1, 0] rfl)
    · skip
      refine lv_aload_n hx hb dX4_kind_15 rfl (lv_at hl 0 rfl) ?_
      refine lv_ldc (v := (-1000000001)) hx hb hown (hts (.constant RX4 55 ((-1000000001))) (by decide +kernel)) dX4_kind_16 ?_
      refine hd_callVi (As := [.int (-1000000001)]) (rest := []) ⟨hx, hb, hml, hown, hts⟩ hE hP hS (c_X4_found_0 l G u F h6) rfl (cwV 1 hts gX4_kind_X4_found rfl rfl rfl (by decide +kernel) ⟨Nat.le_of_ble_eq_true rfl, Nat.le_of_ble_eq_true rfl⟩) (do_recv hE hP) rfl hl.1 rfl (Nat.le_of_ble_eq_true rfl) dX4_kind_18 (fun rq_11 vq_11 H locs q_11 hP hS => ?_)
      have hP := hP.cast (q_11.2)
      refine lv_cast q_11.1 ?_
      exact hd_iret hx hb hr hlocks hP hS (P3.of (by first | (simp [X_kind, bey, bmp, c_2, c_5]; done)) ((sI_ne _ _ (by decide)).trans h0) ((sI_ne _ _ (by decide)).trans h1) (sI_at _ _ _) (by decide) (by decide) (by decide) (fun k k0 k1 k6 => ((sI_ne _ _ k6).trans rfl)) rfl) dX4_kind_21
set_option maxHeartbeats 4000000 in
set_option maxRecDepth 100000 in
theorem c_X4_far (l : Launch) (G : Geo) (u : Sg) (M F : Nat → Int32) (h0 : u.1 0 = M) (h6 : u.1 6 = F) (hM : Wf M) (T : Nat → Int32) (h1 : u.1 1 = T) (tT : ∀ k : Nat, 53 ≤ k → T k = 0) (x n : Int32) : CtI l G yX4_far wsX4_far (rmO 6 134) [.ref (gad G 0), .int x, .int n] u (P3 u 0 1 6 (X_far M F x n)) := by
  refine CtI.of (cc := cX4_far) (maxL := 5) (ret := (some .int)) (own := RX4) (by decide) rfl rfl ?_
  rintro pg ev s0 mm below meth cd ⟨hx, hb, hr, hml, hown, hts, hlocks⟩ hE hP ls hl
  have hS : va_S (gA G) s0.heap s0.heap [] := va_S.rf
  have hl : lv_has ls 5 [(0, .ref (gad G 0)), (1, .int x), (2, .int n)] := hl
  have hin1 : ∀ w ∈ wsX10, w ∈ wsX4_far := by decide +kernel
  have hn := hM.n
  have h8 := hM.n8
  refine lv_aload_n hx hb dX4_far_0 rfl (lv_at hl 0 rfl) ?_
  refine lv_iload_n hx hb dX4_far_1 rfl (lv_at hl 1 rfl) ?_
  refine hd_callVi (As := [.int x]) (rest := []) ⟨hx, hb, hml, hown, hts⟩ hE hP hS (c_X4_isPerson l G u M h0 x) rfl (cwV 1 hts gX4_far_X4_isPerson rfl rfl rfl (by decide +kernel) ⟨Nat.le_of_ble_eq_true rfl, Nat.le_of_ble_eq_true rfl⟩) (do_recv hE hP) rfl hl.1 rfl (Nat.le_of_ble_eq_true rfl) dX4_far_2 (fun rq_1 vq_1 H locs q_1 hP hS => ?_)
  have hP := hP.cast (q_1.2)
  refine lv_cast q_1.1 ?_
  refine bo_eq (tgt := 15) hx hb dX4_far_5 (by decide) (fun c_2 => ?_) (fun c_2 => ?_)
  · skip
    refine lv_aload_n hx hb dX4_far_15 rfl (lv_at hl 0 rfl) ?_
    refine lv_ldc (v := (-1000000001)) hx hb hown (hts (.constant RX4 55 ((-1000000001))) (by decide +kernel)) dX4_far_16 ?_
    refine hd_callVi (As := [.int (-1000000001)]) (rest := []) ⟨hx, hb, hml, hown, hts⟩ hE hP hS (c_X4_found_0 l G u F h6) rfl (cwV 1 hts gX4_far_X4_found rfl rfl rfl (by decide +kernel) ⟨Nat.le_of_ble_eq_true rfl, Nat.le_of_ble_eq_true rfl⟩) (do_recv hE hP) rfl hl.1 rfl (Nat.le_of_ble_eq_true rfl) dX4_far_18 (fun rq_3 vq_3 H locs q_3 hP hS => ?_)
    have hP := hP.cast (q_3.2)
    refine lv_cast q_3.1 ?_
    exact hd_iret hx hb hr hlocks hP hS (P3.of (by first | (simp [X_far, bey, bmp, c_2]; done)) ((sI_ne _ _ (by decide)).trans h0) ((sI_ne _ _ (by decide)).trans h1) (sI_at _ _ _) (by decide) (by decide) (by decide) (fun k k0 k1 k6 => ((sI_ne _ _ k6).trans rfl)) rfl) dX4_far_21
  · skip
    obtain ⟨q, hq, rfl⟩ := pe_get hM c_2
    refine lv_iload_n hx hb dX4_far_8 rfl (lv_at hl 2 rfl) ?_
    refine hd_callSi (As := [.int n]) (rest := []) ⟨hx, hb, hml, hown, hts⟩ hE hP hS (c_X4_isWeighed l G u n) rfl (va_cwS 1 hts gX4_far_X4_isWeighed rfl rfl rfl (by decide +kernel) ⟨Nat.le_of_ble_eq_true rfl, Nat.le_of_ble_eq_true rfl⟩) rfl hl.1 rfl (Nat.le_of_ble_eq_true rfl) dX4_far_9 (fun rq_4 vq_4 H locs q_4 hP hS => ?_)
    have hP := hP.cast (q_4.2)
    refine lv_cast q_4.1 ?_
    refine bo_ne (tgt := 22) hx hb dX4_far_12 (by decide) (fun c_5 => ?_) (fun c_5 => ?_)
    · skip
      obtain ⟨n9, hn9a, hn9b, rfl⟩ := inI_nat c_5 rfl rfl (na := 1) (nb := 100) (by decide) (by decide)
      refine lv_sipush (v := 199) hx hb dX4_far_22 (by decide) ?_
      refine lv_istore_n (lv' := [(3, .int 199), (0, .ref (gad G 0)), (1, .int (nI q)), (2, .int (nI n9))]) hx hb dX4_far_25 rfl hl (by decide) rfl (fun ls hl => ?_)
      have J26 : ∀ (fu : Nat) (k9 : Nat) (f9 : Int32) (T9 : Nat → Int32) (hk : k9 ≤ 200) (hf9 : f9 = fI k9) (hd : dnF (fun f => onIn (upd M (5 + 6 * q + 3) (nI f)) q n9) k9 = dnF (fun f => onIn (upd M (5 + 6 * q + 3) (nI f)) q n9) 200) (tT9 : ∀ k : Nat, 53 ≤ k → T9 k = 0) (hrk : k9 < fu) (H : Heap) (locs : List Loc) (ls : Array Slot), WP G (sI u 1 T9) H → va_S (gA G) s0.heap H locs → lv_has ls 5 [(0, .ref (gad G 0)), (1, .int (nI q)), (2, .int (nI n9)), (3, .int f9)] → W pg l ev (headSpec wsX4_far (rmO 6 134)).room s0 mm ([.ref (gad G 0), .int (nI q), .int (nI n9)] : List Value).toArray below meth cd H locs 0 0 (MQ below (va_Qi (P3 u 0 1 6 (X_far M F (nI q) (nI n9))) (fun v t => WP G v t.heap) (gA G)) ([.ref (gad G 0), .int (nI q), .int (nI n9)] : List Value).toArray s0 0 0 (gA G)) (F0 mm 26 ls []) := by
        intro fu
        induction fu with
        | zero => intro k9 f9 T9 hk hf9 hd tT9 hrk; exact absurd hrk (Nat.not_lt_zero _)
        | succ fu ih26 =>
          intro k9 f9 T9 hk hf9 hd tT9 hrk H locs ls hP hS hl
          refine lv_iload_n hx hb dX4_far_26 rfl (lv_at hl 3 rfl) ?_
          refine lv_if_lt (tgt := 62) hx hb dX4_far_27 (by decide) (fun c_6 => ?_) (fun c_6 => ?_)
          · skip
            refine lv_aload_n hx hb dX4_far_62 rfl (lv_at hl 0 rfl) ?_
            refine lv_ldc (v := (-1000000004)) hx hb hown (hts (.constant RX4 156 ((-1000000004))) (by decide +kernel)) dX4_far_63 ?_
            refine hd_callVi (As := [.int (-1000000004)]) (rest := []) ⟨hx, hb, hml, hown, hts⟩ hE hP hS (c_X4_found_3 l G (sI u 1 T9) F ((sI_ne _ _ (by decide)).trans h6)) rfl (cwV 1 hts gX4_far_X4_found rfl rfl rfl (by decide +kernel) ⟨Nat.le_of_ble_eq_true rfl, Nat.le_of_ble_eq_true rfl⟩) (do_recv hE hP) rfl hl.1 rfl (Nat.le_of_ble_eq_true rfl) dX4_far_65 (fun rq_7 vq_7 H locs q_7 hP hS => ?_)
            have hP := hP.cast (q_7.2)
            refine lv_cast q_7.1 ?_
            exact hd_iret hx hb hr hlocks hP hS (P3.of (by rw [X_far, c_2, if_neg (by decide), c_5, if_neg (by decide), nI_clamp (show q < 2 ^ 31 by omega), nI_clamp (show n9 < 2 ^ 31 by omega), ← hd, show k9 = 0 from (fI_lt (by omega)).mp (hf9 ▸ c_6), dnF, orN, if_pos (by decide)]; rfl) ((sI_ne _ _ (by decide)).trans ((sI_ne _ _ (by decide)).trans h0)) ((sI_ne _ _ (by decide)).trans (sI_at _ _ _)) (sI_at _ _ _) (by decide) (by decide) (by decide) (fun k k0 k1 k6 => ((sI_ne _ _ k6).trans ((sI_ne _ _ k1).trans rfl))) rfl) dX4_far_68
          · skip
            have hk0 : 0 < k9 := Nat.pos_of_ne_zero (fun z => c_6 (hf9 ▸ (fI_lt (by omega)).mpr z))
            have hf2 : f9 = nI (k9 - 1) := hf9.trans (fI_m hk0)
            refine lv_aload_n hx hb dX4_far_30 rfl (lv_at hl 0 rfl) ?_
            refine hd_callVr (As := []) (rest := []) ⟨hx, hb, hml, hown, hts⟩ hE hP hS (c_X4_freshTrial l G (sI u 1 T9) M T9 ((sI_ne _ _ (by decide)).trans h0) (sI_at _ _ _) (hM).1 tT9) rfl (cwV 0 hts gX4_far_X4_freshTrial rfl rfl rfl (by decide +kernel) ⟨Nat.le_of_ble_eq_true rfl, Nat.le_of_ble_eq_true rfl⟩) (do_recv hE hP) rfl hl.1 rfl (Nat.le_of_ble_eq_true rfl) dX4_far_31 (fun H locs hP hS => ?_)
            have hP := hP.cast (sI_sI _ _ _ _)
            refine lv_astore (lv' := [(4, .ref (gS G 1)), (0, .ref (gad G 0)), (1, .int (nI q)), (2, .int (nI n9)), (3, .int f9)]) hx hb dX4_far_34 hl (by decide) rfl (fun ls hl => ?_)
            refine lv_aload hx hb dX4_far_36 (lv_at hl 0 rfl) ?_
            refine sc_get hx hb hts hin1 hown hE hP (by decide) (sI_at _ _ _) 8 (by decide) (hts (.fieldLink RX4 116 "HeldDoor$Scene" "feet" "[I") (by decide +kernel)) (v := .ref (gSA G 1 3)) rfl dX4_far_38 ?_
            refine lv_iload_n hx hb dX4_far_41 rfl (lv_at hl 2 rfl) ?_
            refine lv_iload_n hx hb dX4_far_42 rfl (lv_at hl 4 rfl) ?_
            refine lv_cast hf2 ?_
            refine sc_ast hx hb hE hP hS (by decide) (sI_at _ _ _) 3 (by decide) q (by omega) (sI_sI _ _ _ _) dX4_far_43 (fun H locs hP hS => ?_)
            refine lv_aload hx hb dX4_far_44 (lv_at hl 0 rfl) ?_
            refine lv_iload_n hx hb dX4_far_46 rfl (lv_at hl 2 rfl) ?_
            refine lv_iload_n hx hb dX4_far_47 rfl (lv_at hl 3 rfl) ?_
            refine hd_callVi (As := [.int (nI q), .int (nI n9)]) (rest := []) ⟨hx, hb, hml, hown, hts⟩ hE hP hS (c_X1_firstIn l G u 1 (by decide) (upd M (5 + 6 * q + 3) (nI (k9 - 1))) (Wf.put hM (w := 3) (by omega) (by decide) (by first | decide | (rw [ti_nI (by omega)]; first | omega | (show _ ≤ hiW _; rw [hiW]; simp; omega))) (by first | decide | (rw [ti_nI (by omega)]; first | omega | (show _ ≤ hiW _; rw [hiW]; simp; omega)))) q n9 (by omega) (by omega)) rfl (cwV 2 hts gX4_far_X1_firstIn rfl rfl rfl (by decide +kernel) ⟨Nat.le_of_ble_eq_true rfl, Nat.le_of_ble_eq_true rfl⟩) (sc_recv hE hP (by decide)) rfl hl.1 rfl (Nat.le_of_ble_eq_true rfl) dX4_far_48 (fun rq_9 vq_9 H locs q_9 hP hS => ?_)
            obtain ⟨q_9r, q_9N, q_9w, q_9v⟩ := q_9
            have hP := hP.cast q_9v
            refine lv_cast q_9r ?_
            refine lv_if_lt (tgt := 56) hx hb dX4_far_51 (by decide) (fun c_10 => ?_) (fun c_10 => ?_)
            · skip
              refine lv_iinc (v := f9 + (-1)) (lv' := [(3, .int (f9 + (-1))), (4, .ref (gS G 1)), (0, .ref (gad G 0)), (1, .int (nI q)), (2, .int (nI n9))]) hx hb dX4_far_56 hl (k := 4) rfl rfl (by decide) rfl (fun ls hl => ?_)
              refine lv_goto (tgt := 26) hx hb dX4_far_59 (by decide) ?_
              exact ih26 (k9 - 1) (f9 + (-1)) q_9N (by omega) (by rw [hf9]; exact fI_d hk0) (by rw [← hd, dnF_s hk0, if_neg (on_f ((fst_on (by omega)).mp c_10))]) ((q_9w).1) (by omega) _ _ _ hP hS (lv_sub hl [2, 3, 4, 0] rfl)
            · skip
              refine lv_iload_n hx hb dX4_far_54 rfl (lv_at hl 4 rfl) ?_
              refine lv_cast hf2 ?_
              exact hd_iret hx hb hr hlocks hP hS (P3.of (by rw [X_far, c_2, if_neg (by decide), c_5, if_neg (by decide), nI_clamp (show q < 2 ^ 31 by omega), nI_clamp (show n9 < 2 ^ 31 by omega), ← hd, dnF_s hk0, if_pos (on_t (fun z => c_10 ((fst_on (by omega)).mpr z))), orN, if_neg (nI_pos (by omega))]) ((sI_ne _ _ (by decide)).trans h0) (sI_at _ _ _) ((sI_ne _ _ (by decide)).trans h6) (by decide) (by decide) (by decide) (fun k k0 k1 k6 => ((sI_ne _ _ k1).trans rfl)) rfl) dX4_far_55
      exact J26 _ 200 199 T (by omega) (by decide) rfl tT (Nat.lt_succ_self _) _ _ _ (hP.cast ((sI_id h1).symm)) hS (lv_sub hl [1, 2, 3, 0] rfl)
    · skip
      refine lv_aload_n hx hb dX4_far_15 rfl (lv_at hl 0 rfl) ?_
      refine lv_ldc (v := (-1000000001)) hx hb hown (hts (.constant RX4 55 ((-1000000001))) (by decide +kernel)) dX4_far_16 ?_
      refine hd_callVi (As := [.int (-1000000001)]) (rest := []) ⟨hx, hb, hml, hown, hts⟩ hE hP hS (c_X4_found_0 l G u F h6) rfl (cwV 1 hts gX4_far_X4_found rfl rfl rfl (by decide +kernel) ⟨Nat.le_of_ble_eq_true rfl, Nat.le_of_ble_eq_true rfl⟩) (do_recv hE hP) rfl hl.1 rfl (Nat.le_of_ble_eq_true rfl) dX4_far_18 (fun rq_11 vq_11 H locs q_11 hP hS => ?_)
      have hP := hP.cast (q_11.2)
      refine lv_cast q_11.1 ?_
      exact hd_iret hx hb hr hlocks hP hS (P3.of (by first | (simp [X_far, bey, bmp, c_2, c_5]; done)) ((sI_ne _ _ (by decide)).trans h0) ((sI_ne _ _ (by decide)).trans h1) (sI_at _ _ _) (by decide) (by decide) (by decide) (fun k k0 k1 k6 => ((sI_ne _ _ k6).trans rfl)) rfl) dX4_far_21
set_option maxHeartbeats 4000000 in
set_option maxRecDepth 100000 in
theorem c_X4_load (l : Launch) (G : Geo) (u : Sg) (M F : Nat → Int32) (h0 : u.1 0 = M) (h6 : u.1 6 = F) (hM : Wf M) (T : Nat → Int32) (h1 : u.1 1 = T) (tT : ∀ k : Nat, 53 ≤ k → T k = 0) (x n : Int32) : CtI l G yX4_load wsX4_load (rmO 6 134) [.ref (gad G 0), .int x, .int n] u (P3 u 0 1 6 (X_load M F x n)) := by
  refine CtI.of (cc := cX4_load) (maxL := 5) (ret := (some .int)) (own := RX4) (by decide) rfl rfl ?_
  rintro pg ev s0 mm below meth cd ⟨hx, hb, hr, hml, hown, hts, hlocks⟩ hE hP ls hl
  have hS : va_S (gA G) s0.heap s0.heap [] := va_S.rf
  have hl : lv_has ls 5 [(0, .ref (gad G 0)), (1, .int x), (2, .int n)] := hl
  have hin1 : ∀ w ∈ wsX10, w ∈ wsX4_load := by decide +kernel
  have hn := hM.n
  have h8 := hM.n8
  refine lv_aload_n hx hb dX4_load_0 rfl (lv_at hl 0 rfl) ?_
  refine lv_iload_n hx hb dX4_load_1 rfl (lv_at hl 1 rfl) ?_
  refine hd_callVi (As := [.int x]) (rest := []) ⟨hx, hb, hml, hown, hts⟩ hE hP hS (c_X4_isPerson l G u M h0 x) rfl (cwV 1 hts gX4_load_X4_isPerson rfl rfl rfl (by decide +kernel) ⟨Nat.le_of_ble_eq_true rfl, Nat.le_of_ble_eq_true rfl⟩) (do_recv hE hP) rfl hl.1 rfl (Nat.le_of_ble_eq_true rfl) dX4_load_2 (fun rq_1 vq_1 H locs q_1 hP hS => ?_)
  have hP := hP.cast (q_1.2)
  refine lv_cast q_1.1 ?_
  refine bo_eq (tgt := 15) hx hb dX4_load_5 (by decide) (fun c_2 => ?_) (fun c_2 => ?_)
  · skip
    refine lv_aload_n hx hb dX4_load_15 rfl (lv_at hl 0 rfl) ?_
    refine lv_ldc (v := (-1000000001)) hx hb hown (hts (.constant RX4 55 ((-1000000001))) (by decide +kernel)) dX4_load_16 ?_
    refine hd_callVi (As := [.int (-1000000001)]) (rest := []) ⟨hx, hb, hml, hown, hts⟩ hE hP hS (c_X4_found_0 l G u F h6) rfl (cwV 1 hts gX4_load_X4_found rfl rfl rfl (by decide +kernel) ⟨Nat.le_of_ble_eq_true rfl, Nat.le_of_ble_eq_true rfl⟩) (do_recv hE hP) rfl hl.1 rfl (Nat.le_of_ble_eq_true rfl) dX4_load_18 (fun rq_3 vq_3 H locs q_3 hP hS => ?_)
    have hP := hP.cast (q_3.2)
    refine lv_cast q_3.1 ?_
    exact hd_iret hx hb hr hlocks hP hS (P3.of (by first | (simp [X_load, bey, bmp, c_2]; done)) ((sI_ne _ _ (by decide)).trans h0) ((sI_ne _ _ (by decide)).trans h1) (sI_at _ _ _) (by decide) (by decide) (by decide) (fun k k0 k1 k6 => ((sI_ne _ _ k6).trans rfl)) rfl) dX4_load_21
  · skip
    obtain ⟨q, hq, rfl⟩ := pe_get hM c_2
    refine lv_iload_n hx hb dX4_load_8 rfl (lv_at hl 2 rfl) ?_
    refine hd_callSi (As := [.int n]) (rest := []) ⟨hx, hb, hml, hown, hts⟩ hE hP hS (c_X4_isWeighed l G u n) rfl (va_cwS 1 hts gX4_load_X4_isWeighed rfl rfl rfl (by decide +kernel) ⟨Nat.le_of_ble_eq_true rfl, Nat.le_of_ble_eq_true rfl⟩) rfl hl.1 rfl (Nat.le_of_ble_eq_true rfl) dX4_load_9 (fun rq_4 vq_4 H locs q_4 hP hS => ?_)
    have hP := hP.cast (q_4.2)
    refine lv_cast q_4.1 ?_
    refine bo_ne (tgt := 22) hx hb dX4_load_12 (by decide) (fun c_5 => ?_) (fun c_5 => ?_)
    · skip
      obtain ⟨n9, hn9a, hn9b, rfl⟩ := inI_nat c_5 rfl rfl (na := 1) (nb := 100) (by decide) (by decide)
      refine lv_iconst (v := 0) hx hb dX4_load_22 (by decide) ?_
      refine lv_istore_n (lv' := [(3, .int 0), (0, .ref (gad G 0)), (1, .int (nI q)), (2, .int (nI n9))]) hx hb dX4_load_23 rfl hl (by decide) rfl (fun ls hl => ?_)
      have J24 : ∀ (fu : Nat) (c9 : Nat) (T9 : Nat → Int32) (hc : c9 ≤ 10) (hf : fst1 (fun f => onIn (upd M (5 + 6 * q + 2) (nI f)) q n9) (10 - c9) c9 = fst1 (fun f => onIn (upd M (5 + 6 * q + 2) (nI f)) q n9) 10 0) (tT9 : ∀ k : Nat, 53 ≤ k → T9 k = 0) (hrk : 10 - c9 < fu) (H : Heap) (locs : List Loc) (ls : Array Slot), WP G (sI u 1 T9) H → va_S (gA G) s0.heap H locs → lv_has ls 5 [(0, .ref (gad G 0)), (1, .int (nI q)), (2, .int (nI n9)), (3, .int (nI c9))] → W pg l ev (headSpec wsX4_load (rmO 6 134)).room s0 mm ([.ref (gad G 0), .int (nI q), .int (nI n9)] : List Value).toArray below meth cd H locs 0 0 (MQ below (va_Qi (P3 u 0 1 6 (X_load M F (nI q) (nI n9))) (fun v t => WP G v t.heap) (gA G)) ([.ref (gad G 0), .int (nI q), .int (nI n9)] : List Value).toArray s0 0 0 (gA G)) (F0 mm 24 ls []) := by
        intro fu
        induction fu with
        | zero => intro c9 T9 hc hf tT9 hrk; exact absurd hrk (Nat.not_lt_zero _)
        | succ fu ih24 =>
          intro c9 T9 hc hf tT9 hrk H locs ls hP hS hl
          refine lv_iload_n hx hb dX4_load_24 rfl (lv_at hl 3 rfl) ?_
          refine lv_bipush (v := 9) hx hb dX4_load_25 (by decide) ?_
          refine nn_gt (a := c9) (b := 9) (by omega) (by omega) (tgt := 62) hx hb dX4_load_27 (by decide) (fun c_6 => ?_) (fun c_6 => ?_)
          · skip
            refine lv_aload_n hx hb dX4_load_62 rfl (lv_at hl 0 rfl) ?_
            refine lv_ldc (v := (-1000000004)) hx hb hown (hts (.constant RX4 156 ((-1000000004))) (by decide +kernel)) dX4_load_63 ?_
            refine hd_callVi (As := [.int (-1000000004)]) (rest := []) ⟨hx, hb, hml, hown, hts⟩ hE hP hS (c_X4_found_3 l G (sI u 1 T9) F ((sI_ne _ _ (by decide)).trans h6)) rfl (cwV 1 hts gX4_load_X4_found rfl rfl rfl (by decide +kernel) ⟨Nat.le_of_ble_eq_true rfl, Nat.le_of_ble_eq_true rfl⟩) (do_recv hE hP) rfl hl.1 rfl (Nat.le_of_ble_eq_true rfl) dX4_load_65 (fun rq_7 vq_7 H locs q_7 hP hS => ?_)
            have hP := hP.cast (q_7.2)
            refine lv_cast q_7.1 ?_
            exact hd_iret hx hb hr hlocks hP hS (P3.of (by rw [X_load, c_2, if_neg (by decide), c_5, if_neg (by decide), nI_clamp (show q < 2 ^ 31 by omega), nI_clamp (show n9 < 2 ^ 31 by omega), ← hf, show 10 - c9 = 0 by omega, fst1, orN, if_pos (by decide)]; rfl) ((sI_ne _ _ (by decide)).trans ((sI_ne _ _ (by decide)).trans h0)) ((sI_ne _ _ (by decide)).trans (sI_at _ _ _)) (sI_at _ _ _) (by decide) (by decide) (by decide) (fun k k0 k1 k6 => ((sI_ne _ _ k6).trans ((sI_ne _ _ k1).trans rfl))) rfl) dX4_load_68
          · skip
            refine lv_aload_n hx hb dX4_load_30 rfl (lv_at hl 0 rfl) ?_
            refine hd_callVr (As := []) (rest := []) ⟨hx, hb, hml, hown, hts⟩ hE hP hS (c_X4_freshTrial l G (sI u 1 T9) M T9 ((sI_ne _ _ (by decide)).trans h0) (sI_at _ _ _) (hM).1 tT9) rfl (cwV 0 hts gX4_load_X4_freshTrial rfl rfl rfl (by decide +kernel) ⟨Nat.le_of_ble_eq_true rfl, Nat.le_of_ble_eq_true rfl⟩) (do_recv hE hP) rfl hl.1 rfl (Nat.le_of_ble_eq_true rfl) dX4_load_31 (fun H locs hP hS => ?_)
            have hP := hP.cast (sI_sI _ _ _ _)
            refine lv_astore (lv' := [(4, .ref (gS G 1)), (0, .ref (gad G 0)), (1, .int (nI q)), (2, .int (nI n9)), (3, .int (nI c9))]) hx hb dX4_load_34 hl (by decide) rfl (fun ls hl => ?_)
            refine lv_aload hx hb dX4_load_36 (lv_at hl 0 rfl) ?_
            refine sc_get hx hb hts hin1 hown hE hP (by decide) (sI_at _ _ _) 7 (by decide) (hts (.fieldLink RX4 170 "HeldDoor$Scene" "loads" "[I") (by decide +kernel)) (v := .ref (gSA G 1 2)) rfl dX4_load_38 ?_
            refine lv_iload_n hx hb dX4_load_41 rfl (lv_at hl 2 rfl) ?_
            refine lv_iload_n hx hb dX4_load_42 rfl (lv_at hl 4 rfl) ?_
            refine sc_ast hx hb hE hP hS (by decide) (sI_at _ _ _) 2 (by decide) q (by omega) (sI_sI _ _ _ _) dX4_load_43 (fun H locs hP hS => ?_)
            refine lv_aload hx hb dX4_load_44 (lv_at hl 0 rfl) ?_
            refine lv_iload_n hx hb dX4_load_46 rfl (lv_at hl 2 rfl) ?_
            refine lv_iload_n hx hb dX4_load_47 rfl (lv_at hl 3 rfl) ?_
            refine hd_callVi (As := [.int (nI q), .int (nI n9)]) (rest := []) ⟨hx, hb, hml, hown, hts⟩ hE hP hS (c_X1_firstIn l G u 1 (by decide) (upd M (5 + 6 * q + 2) (nI c9)) (Wf.put hM (w := 2) (by omega) (by decide) (by first | decide | (rw [ti_nI (by omega)]; first | omega | (show _ ≤ hiW _; rw [hiW]; simp; omega))) (by first | decide | (rw [ti_nI (by omega)]; first | omega | (show _ ≤ hiW _; rw [hiW]; simp; omega)))) q n9 (by omega) (by omega)) rfl (cwV 2 hts gX4_load_X1_firstIn rfl rfl rfl (by decide +kernel) ⟨Nat.le_of_ble_eq_true rfl, Nat.le_of_ble_eq_true rfl⟩) (sc_recv hE hP (by decide)) rfl hl.1 rfl (Nat.le_of_ble_eq_true rfl) dX4_load_48 (fun rq_9 vq_9 H locs q_9 hP hS => ?_)
            obtain ⟨q_9r, q_9N, q_9w, q_9v⟩ := q_9
            have hP := hP.cast q_9v
            refine lv_cast q_9r ?_
            refine lv_if_lt (tgt := 56) hx hb dX4_load_51 (by decide) (fun c_10 => ?_) (fun c_10 => ?_)
            · skip
              refine lv_iinc (v := nI (c9 + 1)) (lv' := [(3, .int (nI (c9 + 1))), (4, .ref (gS G 1)), (0, .ref (gad G 0)), (1, .int (nI q)), (2, .int (nI n9))]) hx hb dX4_load_56 hl (k := 4) rfl (inc1 _) (by decide) rfl (fun ls hl => ?_)
              refine lv_goto (tgt := 24) hx hb dX4_load_59 (by decide) ?_
              exact ih24 (c9 + 1) q_9N (by omega) (by rw [← hf, fst1_s (d := 10 - c9) (by omega), if_neg (on_f ((fst_on (by omega)).mp c_10))]; rfl) ((q_9w).1) (by omega) _ _ _ hP hS (lv_sub hl [2, 3, 4, 0] rfl)
            · skip
              refine lv_iload_n hx hb dX4_load_54 rfl (lv_at hl 4 rfl) ?_
              exact hd_iret hx hb hr hlocks hP hS (P3.of (by rw [X_load, c_2, if_neg (by decide), c_5, if_neg (by decide), nI_clamp (show q < 2 ^ 31 by omega), nI_clamp (show n9 < 2 ^ 31 by omega), ← hf, fst1_s (by omega), if_pos (on_t (fun z => c_10 ((fst_on (by omega)).mpr z))), orN, if_neg (nI_pos (by omega))]) ((sI_ne _ _ (by decide)).trans h0) (sI_at _ _ _) ((sI_ne _ _ (by decide)).trans h6) (by decide) (by decide) (by decide) (fun k k0 k1 k6 => ((sI_ne _ _ k1).trans rfl)) rfl) dX4_load_55
      exact J24 _ 0 T (by omega) rfl tT (Nat.lt_succ_self _) _ _ _ (hP.cast ((sI_id h1).symm)) hS (lv_sub hl [1, 2, 3, 0] rfl)
    · skip
      refine lv_aload_n hx hb dX4_load_15 rfl (lv_at hl 0 rfl) ?_
      refine lv_ldc (v := (-1000000001)) hx hb hown (hts (.constant RX4 55 ((-1000000001))) (by decide +kernel)) dX4_load_16 ?_
      refine hd_callVi (As := [.int (-1000000001)]) (rest := []) ⟨hx, hb, hml, hown, hts⟩ hE hP hS (c_X4_found_0 l G u F h6) rfl (cwV 1 hts gX4_load_X4_found rfl rfl rfl (by decide +kernel) ⟨Nat.le_of_ble_eq_true rfl, Nat.le_of_ble_eq_true rfl⟩) (do_recv hE hP) rfl hl.1 rfl (Nat.le_of_ble_eq_true rfl) dX4_load_18 (fun rq_11 vq_11 H locs q_11 hP hS => ?_)
      have hP := hP.cast (q_11.2)
      refine lv_cast q_11.1 ?_
      exact hd_iret hx hb hr hlocks hP hS (P3.of (by first | (simp [X_load, bey, bmp, c_2, c_5]; done)) ((sI_ne _ _ (by decide)).trans h0) ((sI_ne _ _ (by decide)).trans h1) (sI_at _ _ _) (by decide) (by decide) (by decide) (fun k k0 k1 k6 => ((sI_ne _ _ k6).trans rfl)) rfl) dX4_load_21
set_option maxHeartbeats 4000000 in
set_option maxRecDepth 100000 in
theorem c_X4_take (l : Launch) (G : Geo) (u : Sg) (M F : Nat → Int32) (h0 : u.1 0 = M) (h6 : u.1 6 = F) (hM : Wf M) (T : Nat → Int32) (h1 : u.1 1 = T) (tT : ∀ k : Nat, 53 ≤ k → T k = 0) (n : Int32) : CtI l G yX4_take wsX4_take (rmO 6 133) [.ref (gad G 0), .int n] u (P3 u 0 1 6 (X_take M F n)) := by
  refine CtI.of (cc := cX4_take) (maxL := 7) (ret := (some .int)) (own := RX4) (by decide) rfl rfl ?_
  rintro pg ev s0 mm below meth cd ⟨hx, hb, hr, hml, hown, hts, hlocks⟩ hE hP ls hl
  have hS : va_S (gA G) s0.heap s0.heap [] := va_S.rf
  have hl : lv_has ls 7 [(0, .ref (gad G 0)), (1, .int n)] := hl
  have hin1 : ∀ w ∈ wsX10, w ∈ wsX4_take := by decide +kernel
  have hin4 : ∀ w ∈ wsX40, w ∈ wsX4_take := by decide +kernel
  have hn := hM.n
  have h8 := hM.n8
  refine lv_iload_n hx hb dX4_take_0 rfl (lv_at hl 1 rfl) ?_
  refine hd_callSi (As := [.int n]) (rest := []) ⟨hx, hb, hml, hown, hts⟩ hE hP hS (c_X4_isWeighed l G u n) rfl (va_cwS 1 hts gX4_take_X4_isWeighed rfl rfl rfl (by decide +kernel) ⟨Nat.le_of_ble_eq_true rfl, Nat.le_of_ble_eq_true rfl⟩) rfl hl.1 rfl (Nat.le_of_ble_eq_true rfl) dX4_take_1 (fun rq_1 vq_1 H locs q_1 hP hS => ?_)
  have hP := hP.cast (q_1.2)
  refine lv_cast q_1.1 ?_
  refine bo_ne (tgt := 14) hx hb dX4_take_4 (by decide) (fun c_2 => ?_) (fun c_2 => ?_)
  · skip
    obtain ⟨n9, hn9a, hn9b, rfl⟩ := inI_nat c_2 rfl rfl (na := 1) (nb := 100) (by decide) (by decide)
    refine lv_iconst (v := (-1)) hx hb dX4_take_14 (by decide) ?_
    refine lv_istore_n (lv' := [(2, .int (-1)), (0, .ref (gad G 0)), (1, .int (nI n9))]) hx hb dX4_take_15 rfl hl (by decide) rfl (fun ls hl => ?_)
    refine lv_bipush (v := 9) hx hb dX4_take_16 (by decide) ?_
    refine lv_istore_n (lv' := [(3, .int 9), (2, .int (-1)), (0, .ref (gad G 0)), (1, .int (nI n9))]) hx hb dX4_take_18 rfl hl (by decide) rfl (fun ls hl => ?_)
    refine lv_iconst (v := 0) hx hb dX4_take_19 (by decide) ?_
    refine lv_istore (lv' := [(4, .int 0), (3, .int 9), (2, .int (-1)), (0, .ref (gad G 0)), (1, .int (nI n9))]) hx hb dX4_take_20 hl (by decide) rfl (fun ls hl => ?_)
    have J22 : ∀ (fu : Nat) (p9 : Nat) (b9 : Int32) (l9 : Int32) (T9 : Nat → Int32) (hp : p9 ≤ nP M) (hbb : (b9, l9) = tkN M n9 p9) (tT9 : ∀ k : Nat, 53 ≤ k → T9 k = 0) (hrk : nP M - p9 < fu) (H : Heap) (locs : List Loc) (ls : Array Slot), WP G (sI u 1 T9) H → va_S (gA G) s0.heap H locs → lv_has ls 7 [(0, .ref (gad G 0)), (1, .int (nI n9)), (2, .int b9), (3, .int l9), (4, .int (nI p9))] → W pg l ev (headSpec wsX4_take (rmO 6 133)).room s0 mm ([.ref (gad G 0), .int (nI n9)] : List Value).toArray below meth cd H locs 0 0 (MQ below (va_Qi (P3 u 0 1 6 (X_take M F (nI n9))) (fun v t => WP G v t.heap) (gA G)) ([.ref (gad G 0), .int (nI n9)] : List Value).toArray s0 0 0 (gA G)) (F0 mm 22 ls []) := by
      intro fu
      induction fu with
      | zero => intro p9 b9 l9 T9 hp hbb tT9 hrk; exact absurd hrk (Nat.not_lt_zero _)
      | succ fu ih22 =>
        intro p9 b9 l9 T9 hp hbb tT9 hrk H locs ls hP hS hl
        refine lv_iload hx hb dX4_take_22 (lv_at hl 4 rfl) ?_
        refine lv_aload_n hx hb dX4_take_24 rfl (lv_at hl 0 rfl) ?_
        refine do_get hx hb hts hin4 hown hE hP ((sI_ne _ _ (by decide)).trans rfl) 0 (by decide) (hts (.fieldLink RX4 10 "HeldDoor" "scene" "LHeldDoor$Scene;") (by decide +kernel)) (v := .ref (gS G 0)) rfl dX4_take_25 ?_
        refine sc_get hx hb hts hin1 hown hE hP (by decide) ((sI_ne _ _ (by decide)).trans h0) 4 (by decide) (hts (.fieldLink RX4 157 "HeldDoor$Scene" "people" "I") (by decide +kernel)) (v := .int (M 4)) rfl dX4_take_28 ?_
        refine lv_cast hn ?_
        refine nn_ge (a := p9) (b := nP M) (by omega) (by omega) (tgt := 99) hx hb dX4_take_31 (by decide) (fun c_3 => ?_) (fun c_3 => ?_)
        · skip
          refine lv_aload_n hx hb dX4_take_99 rfl (lv_at hl 0 rfl) ?_
          refine lv_iload_n hx hb dX4_take_100 rfl (lv_at hl 2 rfl) ?_
          refine hd_callVi (As := [.int b9]) (rest := []) ⟨hx, hb, hml, hown, hts⟩ hE hP hS (c_X4_orNone l G (sI u 1 T9) F ((sI_ne _ _ (by decide)).trans h6) b9) rfl (cwV 1 hts gX4_take_X4_orNone rfl rfl rfl (by decide +kernel) ⟨Nat.le_of_ble_eq_true rfl, Nat.le_of_ble_eq_true rfl⟩) (do_recv hE hP) rfl hl.1 rfl (Nat.le_of_ble_eq_true rfl) dX4_take_101 (fun rq_4 vq_4 H locs q_4 hP hS => ?_)
          have hP := hP.cast (q_4.2)
          refine lv_cast q_4.1 ?_
          exact hd_iret hx hb hr hlocks hP hS (P3.of (by rw [X_take, c_2, if_neg (by decide), nI_clamp (show n9 < 2 ^ 31 by omega), show nP M = p9 by omega, ← hbb, orN_eq]) ((sI_ne _ _ (by decide)).trans ((sI_ne _ _ (by decide)).trans h0)) ((sI_ne _ _ (by decide)).trans (sI_at _ _ _)) (sI_at _ _ _) (by decide) (by decide) (by decide) (fun k k0 k1 k6 => ((sI_ne _ _ k6).trans ((sI_ne _ _ k1).trans rfl))) rfl) dX4_take_104
        · skip
          refine lv_aload_n hx hb dX4_take_34 rfl (lv_at hl 0 rfl) ?_
          refine do_get hx hb hts hin4 hown hE hP ((sI_ne _ _ (by decide)).trans rfl) 0 (by decide) (hts (.fieldLink RX4 10 "HeldDoor" "scene" "LHeldDoor$Scene;") (by decide +kernel)) (v := .ref (gS G 0)) rfl dX4_take_35 ?_
          refine sc_get hx hb hts hin1 hown hE hP (by decide) ((sI_ne _ _ (by decide)).trans h0) 6 (by decide) (hts (.fieldLink RX4 164 "HeldDoor$Scene" "badges" "[I") (by decide +kernel)) (v := .ref (gSA G 0 1)) rfl dX4_take_38 ?_
          refine lv_iload hx hb dX4_take_41 (lv_at hl 4 rfl) ?_
          refine sc_ald hx hb hE hP (by decide) ((sI_ne _ _ (by decide)).trans h0) 1 (by decide) p9 (by omega) dX4_take_43 ?_
          refine lv_iconst (v := 1) hx hb dX4_take_44 (by decide) ?_
          refine lv_icmp_ne (tgt := 93) hx hb dX4_take_45 (by decide) (fun c_5 => ?_) (fun c_5 => ?_)
          · skip
            refine lv_iinc (v := nI (p9 + 1)) (lv' := [(4, .int (nI (p9 + 1))), (0, .ref (gad G 0)), (1, .int (nI n9)), (2, .int b9), (3, .int l9)]) hx hb dX4_take_93 hl (k := 4) rfl (inc1 _) (by decide) rfl (fun ls hl => ?_)
            refine lv_goto (tgt := 22) hx hb dX4_take_96 (by decide) ?_
            exact ih22 (p9 + 1) b9 l9 T9 (by omega) (by rw [tkN, if_neg c_5]; exact hbb) tT9 (by omega) _ _ _ hP hS (lv_sub hl [1, 2, 3, 4, 0] rfl)
          · skip
            refine lv_aload_n hx hb dX4_take_48 rfl (lv_at hl 0 rfl) ?_
            refine hd_callVr (As := []) (rest := []) ⟨hx, hb, hml, hown, hts⟩ hE hP hS (c_X4_freshTrial l G (sI u 1 T9) M T9 ((sI_ne _ _ (by decide)).trans h0) (sI_at _ _ _) (hM).1 tT9) rfl (cwV 0 hts gX4_take_X4_freshTrial rfl rfl rfl (by decide +kernel) ⟨Nat.le_of_ble_eq_true rfl, Nat.le_of_ble_eq_true rfl⟩) (do_recv hE hP) rfl hl.1 rfl (Nat.le_of_ble_eq_true rfl) dX4_take_49 (fun H locs hP hS => ?_)
            have hP := hP.cast (sI_sI _ _ _ _)
            refine lv_astore (lv' := [(5, .ref (gS G 1)), (0, .ref (gad G 0)), (1, .int (nI n9)), (2, .int b9), (3, .int l9), (4, .int (nI p9))]) hx hb dX4_take_52 hl (by decide) rfl (fun ls hl => ?_)
            refine lv_aload hx hb dX4_take_54 (lv_at hl 0 rfl) ?_
            refine sc_get hx hb hts hin1 hown hE hP (by decide) (sI_at _ _ _) 6 (by decide) (hts (.fieldLink RX4 164 "HeldDoor$Scene" "badges" "[I") (by decide +kernel)) (v := .ref (gSA G 1 1)) rfl dX4_take_56 ?_
            refine lv_iload hx hb dX4_take_59 (lv_at hl 5 rfl) ?_
            refine lv_iconst (v := 0) hx hb dX4_take_61 (by decide) ?_
            refine sc_ast hx hb hE hP hS (by decide) (sI_at _ _ _) 1 (by decide) p9 (by omega) (sI_sI _ _ _ _) dX4_take_62 (fun H locs hP hS => ?_)
            refine lv_aload hx hb dX4_take_63 (lv_at hl 0 rfl) ?_
            refine lv_iload_n hx hb dX4_take_65 rfl (lv_at hl 2 rfl) ?_
            refine hd_callVv (As := [.int (nI n9)]) (rest := []) ⟨hx, hb, hml, hown, hts⟩ hE hP hS (c_X1_goOn l G u 1 (by decide) (upd M (5 + 6 * p9 + 1) 0) (Wf.put hM (w := 1) (by omega) (by decide) (by first | decide | (rw [ti_nI (by omega)]; first | omega | (show _ ≤ hiW _; rw [hiW]; simp; omega))) (by first | decide | (rw [ti_nI (by omega)]; first | omega | (show _ ≤ hiW _; rw [hiW]; simp; omega)))) n9 (by omega)) rfl (cwV 1 hts gX4_take_X1_goOn rfl rfl rfl (by decide +kernel) ⟨Nat.le_of_ble_eq_true rfl, Nat.le_of_ble_eq_true rfl⟩) (sc_recv hE hP (by decide)) rfl hl.1 rfl (Nat.le_of_ble_eq_true rfl) dX4_take_66 (fun vq_7 H locs q_7 hP hS => ?_)
            have hP := hP.cast (q_7)
            refine lv_aload hx hb dX4_take_69 (lv_at hl 0 rfl) ?_
            refine lv_aload hx hb dX4_take_71 (lv_at hl 0 rfl) ?_
            refine sc_get hx hb hts hin1 hown hE hP (by decide) (sI_at _ _ _) 9 (by decide) (hts (.fieldLink RX4 167 "HeldDoor$Scene" "in" "[I") (by decide +kernel)) (v := .ref (gSA G 1 4)) rfl dX4_take_73 ?_
            refine hd_callVi (As := [.ref (gSA G 1 4)]) (rest := []) ⟨hx, hb, hml, hown, hts⟩ hE hP hS (c_X1_sumOf l G u 1 (by decide) (goN (upd M (5 + 6 * p9 + 1) 0) n9) (Wf_goN (Wf.put hM (w := 1) (by omega) (by decide) (by first | decide | (rw [ti_nI (by omega)]; first | omega | (show _ ≤ hiW _; rw [hiW]; simp; omega))) (by first | decide | (rw [ti_nI (by omega)]; first | omega | (show _ ≤ hiW _; rw [hiW]; simp; omega)))) _) 4 (by decide)) rfl (cwV 1 hts gX4_take_X1_sumOf rfl rfl rfl (by decide +kernel) ⟨Nat.le_of_ble_eq_true rfl, Nat.le_of_ble_eq_true rfl⟩) (sc_recv hE hP (by decide)) rfl hl.1 rfl (Nat.le_of_ble_eq_true rfl) dX4_take_76 (fun rq_8 vq_8 H locs q_8 hP hS => ?_)
            have hP := hP.cast (q_8.2)
            refine lv_cast q_8.1 ?_
            refine lv_istore (lv' := [(6, .int (smN (goN (upd M (5 + 6 * p9 + 1) 0) n9) 4 (nP (goN (upd M (5 + 6 * p9 + 1) 0) n9)))), (5, .ref (gS G 1)), (0, .ref (gad G 0)), (1, .int (nI n9)), (2, .int b9), (3, .int l9), (4, .int (nI p9))]) hx hb dX4_take_79 hl (by decide) rfl (fun ls hl => ?_)
            refine lv_iload hx hb dX4_take_81 (lv_at hl 0 rfl) ?_
            refine lv_iload_n hx hb dX4_take_83 rfl (lv_at hl 5 rfl) ?_
            refine lv_icmp_ge (tgt := 93) hx hb dX4_take_84 (by decide) (fun c_9 => ?_) (fun c_9 => ?_)
            · skip
              refine lv_iinc (v := nI (p9 + 1)) (lv' := [(4, .int (nI (p9 + 1))), (6, .int (smN (goN (upd M (5 + 6 * p9 + 1) 0) n9) 4 (nP (goN (upd M (5 + 6 * p9 + 1) 0) n9)))), (5, .ref (gS G 1)), (0, .ref (gad G 0)), (1, .int (nI n9)), (2, .int b9), (3, .int l9)]) hx hb dX4_take_93 hl (k := 6) rfl (inc1 _) (by decide) rfl (fun ls hl => ?_)
              refine lv_goto (tgt := 22) hx hb dX4_take_96 (by decide) ?_
              exact ih22 (p9 + 1) b9 l9 (goN (upd M (5 + 6 * p9 + 1) 0) n9) (by omega) (by rw [tkN, if_pos c_5, bst, ← hbb, ← nP_take M p9 n9, if_neg (Int32.not_lt.mpr c_9)]) (((Wf_goN (Wf.put hM (w := 1) (by omega) (by decide) (by first | decide | (rw [ti_nI (by omega)]; first | omega | (show _ ≤ hiW _; rw [hiW]; simp; omega))) (by first | decide | (rw [ti_nI (by omega)]; first | omega | (show _ ≤ hiW _; rw [hiW]; simp; omega)))) _)).1) (by omega) _ _ _ hP hS (lv_sub hl [3, 4, 5, 6, 0] rfl)
            · skip
              refine lv_iload hx hb dX4_take_87 (lv_at hl 0 rfl) ?_
              refine lv_istore_n (lv' := [(3, .int (smN (goN (upd M (5 + 6 * p9 + 1) 0) n9) 4 (nP (goN (upd M (5 + 6 * p9 + 1) 0) n9)))), (6, .int (smN (goN (upd M (5 + 6 * p9 + 1) 0) n9) 4 (nP (goN (upd M (5 + 6 * p9 + 1) 0) n9)))), (5, .ref (gS G 1)), (0, .ref (gad G 0)), (1, .int (nI n9)), (2, .int b9), (4, .int (nI p9))]) hx hb dX4_take_89 rfl hl (by decide) rfl (fun ls hl => ?_)
              refine lv_iload hx hb dX4_take_90 (lv_at hl 6 rfl) ?_
              refine lv_istore_n (lv' := [(2, .int (nI p9)), (3, .int (smN (goN (upd M (5 + 6 * p9 + 1) 0) n9) 4 (nP (goN (upd M (5 + 6 * p9 + 1) 0) n9)))), (6, .int (smN (goN (upd M (5 + 6 * p9 + 1) 0) n9) 4 (nP (goN (upd M (5 + 6 * p9 + 1) 0) n9)))), (5, .ref (gS G 1)), (0, .ref (gad G 0)), (1, .int (nI n9)), (4, .int (nI p9))]) hx hb dX4_take_92 rfl hl (by decide) rfl (fun ls hl => ?_)
              refine lv_iinc (v := nI (p9 + 1)) (lv' := [(4, .int (nI (p9 + 1))), (2, .int (nI p9)), (3, .int (smN (goN (upd M (5 + 6 * p9 + 1) 0) n9) 4 (nP (goN (upd M (5 + 6 * p9 + 1) 0) n9)))), (6, .int (smN (goN (upd M (5 + 6 * p9 + 1) 0) n9) 4 (nP (goN (upd M (5 + 6 * p9 + 1) 0) n9)))), (5, .ref (gS G 1)), (0, .ref (gad G 0)), (1, .int (nI n9))]) hx hb dX4_take_93 hl (k := 6) rfl (inc1 _) (by decide) rfl (fun ls hl => ?_)
              refine lv_goto (tgt := 22) hx hb dX4_take_96 (by decide) ?_
              exact ih22 (p9 + 1) (nI p9) (smN (goN (upd M (5 + 6 * p9 + 1) 0) n9) 4 (nP (goN (upd M (5 + 6 * p9 + 1) 0) n9))) (goN (upd M (5 + 6 * p9 + 1) 0) n9) (by omega) (by rw [tkN, if_pos c_5, bst, ← hbb, ← nP_take M p9 n9, if_pos (Int32.not_le.mp c_9)]) (((Wf_goN (Wf.put hM (w := 1) (by omega) (by decide) (by first | decide | (rw [ti_nI (by omega)]; first | omega | (show _ ≤ hiW _; rw [hiW]; simp; omega))) (by first | decide | (rw [ti_nI (by omega)]; first | omega | (show _ ≤ hiW _; rw [hiW]; simp; omega)))) _)).1) (by omega) _ _ _ hP hS (lv_sub hl [5, 6, 1, 2, 0] rfl)
    exact J22 _ 0 (-1) 9 T (by omega) rfl tT (Nat.lt_succ_self _) _ _ _ (hP.cast ((sI_id h1).symm)) hS (lv_sub hl [3, 4, 2, 1, 0] rfl)
  · skip
    refine lv_aload_n hx hb dX4_take_7 rfl (lv_at hl 0 rfl) ?_
    refine lv_ldc (v := (-1000000001)) hx hb hown (hts (.constant RX4 55 ((-1000000001))) (by decide +kernel)) dX4_take_8 ?_
    refine hd_callVi (As := [.int (-1000000001)]) (rest := []) ⟨hx, hb, hml, hown, hts⟩ hE hP hS (c_X4_found_0 l G u F h6) rfl (cwV 1 hts gX4_take_X4_found rfl rfl rfl (by decide +kernel) ⟨Nat.le_of_ble_eq_true rfl, Nat.le_of_ble_eq_true rfl⟩) (do_recv hE hP) rfl hl.1 rfl (Nat.le_of_ble_eq_true rfl) dX4_take_10 (fun rq_10 vq_10 H locs q_10 hP hS => ?_)
    have hP := hP.cast (q_10.2)
    refine lv_cast q_10.1 ?_
    exact hd_iret hx hb hr hlocks hP hS (P3.of (by first | (simp [X_take, bey, bmp, c_2]; done)) ((sI_ne _ _ (by decide)).trans h0) ((sI_ne _ _ (by decide)).trans h1) (sI_at _ _ _) (by decide) (by decide) (by decide) (fun k k0 k1 k6 => ((sI_ne _ _ k6).trans rfl)) rfl) dX4_take_13
set_option maxHeartbeats 4000000 in
set_option maxRecDepth 100000 in
theorem c_X4_order (l : Launch) (G : Geo) (u : Sg) (M F : Nat → Int32) (h0 : u.1 0 = M) (h6 : u.1 6 = F) (hM : Wf M) (T : Nat → Int32) (h1 : u.1 1 = T) (tT : ∀ k : Nat, 53 ≤ k → T k = 0) (n : Int32) : CtI l G yX4_order wsX4_order (rmO 6 133) [.ref (gad G 0), .int n] u (P3 u 0 1 6 (X_order M F n)) := by
  refine CtI.of (cc := cX4_order) (maxL := 9) (ret := (some .int)) (own := RX4) (by decide) rfl rfl ?_
  rintro pg ev s0 mm below meth cd ⟨hx, hb, hr, hml, hown, hts, hlocks⟩ hE hP ls hl
  have hS : va_S (gA G) s0.heap s0.heap [] := va_S.rf
  have hl : lv_has ls 9 [(0, .ref (gad G 0)), (1, .int n)] := hl
  have hin1 : ∀ w ∈ wsX10, w ∈ wsX4_order := by decide +kernel
  have hin4 : ∀ w ∈ wsX40, w ∈ wsX4_order := by decide +kernel
  have hn := hM.n
  have h8 := hM.n8
  refine lv_iload_n hx hb dX4_order_0 rfl (lv_at hl 1 rfl) ?_
  refine hd_callSi (As := [.int n]) (rest := []) ⟨hx, hb, hml, hown, hts⟩ hE hP hS (c_X4_isWeighed l G u n) rfl (va_cwS 1 hts gX4_order_X4_isWeighed rfl rfl rfl (by decide +kernel) ⟨Nat.le_of_ble_eq_true rfl, Nat.le_of_ble_eq_true rfl⟩) rfl hl.1 rfl (Nat.le_of_ble_eq_true rfl) dX4_order_1 (fun rq_1 vq_1 H locs q_1 hP hS => ?_)
  have hP := hP.cast (q_1.2)
  refine lv_cast q_1.1 ?_
  refine bo_ne (tgt := 14) hx hb dX4_order_4 (by decide) (fun c_2 => ?_) (fun c_2 => ?_)
  · skip
    obtain ⟨n9, hn9a, hn9b, rfl⟩ := inI_nat c_2 rfl rfl (na := 1) (nb := 100) (by decide) (by decide)
    refine lv_iconst (v := (-1)) hx hb dX4_order_14 (by decide) ?_
    refine lv_istore_n (lv' := [(2, .int (-1)), (0, .ref (gad G 0)), (1, .int (nI n9))]) hx hb dX4_order_15 rfl hl (by decide) rfl (fun ls hl => ?_)
    refine lv_aload_n hx hb dX4_order_16 rfl (lv_at hl 1 rfl) ?_
    refine hd_callVr (As := []) (rest := []) ⟨hx, hb, hml, hown, hts⟩ hE hP hS (c_X4_freshTrial l G u M T h0 h1 (hM).1 tT) rfl (cwV 0 hts gX4_order_X4_freshTrial rfl rfl rfl (by decide +kernel) ⟨Nat.le_of_ble_eq_true rfl, Nat.le_of_ble_eq_true rfl⟩) (do_recv hE hP) rfl hl.1 rfl (Nat.le_of_ble_eq_true rfl) dX4_order_17 (fun H locs hP hS => ?_)
    refine lv_astore_n (lv' := [(3, .ref (gS G 1)), (2, .int (-1)), (0, .ref (gad G 0)), (1, .int (nI n9))]) hx hb dX4_order_20 rfl hl (by decide) rfl (fun ls hl => ?_)
    refine lv_aload_n hx hb dX4_order_21 rfl (lv_at hl 0 rfl) ?_
    refine lv_iload_n hx hb dX4_order_22 rfl (lv_at hl 3 rfl) ?_
    refine hd_callVv (As := [.int (nI n9)]) (rest := []) ⟨hx, hb, hml, hown, hts⟩ hE hP hS (c_X1_goOn l G u 1 (by decide) M hM n9 (by omega)) rfl (cwV 1 hts gX4_order_X1_goOn rfl rfl rfl (by decide +kernel) ⟨Nat.le_of_ble_eq_true rfl, Nat.le_of_ble_eq_true rfl⟩) (sc_recv hE hP (by decide)) rfl hl.1 rfl (Nat.le_of_ble_eq_true rfl) dX4_order_23 (fun vq_4 H locs q_4 hP hS => ?_)
    have hP := hP.cast (q_4)
    refine lv_aload_n hx hb dX4_order_26 rfl (lv_at hl 0 rfl) ?_
    refine hd_callVi (As := []) (rest := []) ⟨hx, hb, hml, hown, hts⟩ hE hP hS (c_X1_countLoose l G u 1 (by decide) (goN M n9) (Wf_goN hM _)) rfl (cwV 0 hts gX4_order_X1_countLoose rfl rfl rfl (by decide +kernel) ⟨Nat.le_of_ble_eq_true rfl, Nat.le_of_ble_eq_true rfl⟩) (sc_recv hE hP (by decide)) rfl hl.1 rfl (Nat.le_of_ble_eq_true rfl) dX4_order_27 (fun rq_5 vq_5 H locs q_5 hP hS => ?_)
    have hP := hP.cast (q_5.2)
    refine lv_cast q_5.1 ?_
    refine lv_istore (lv' := [(4, .int (loC (goN M n9))), (3, .ref (gS G 1)), (2, .int (-1)), (0, .ref (gad G 0)), (1, .int (nI n9))]) hx hb dX4_order_30 hl (by decide) rfl (fun ls hl => ?_)
    refine lv_iconst (v := 0) hx hb dX4_order_32 (by decide) ?_
    refine lv_istore (lv' := [(5, .int 0), (4, .int (loC (goN M n9))), (3, .ref (gS G 1)), (2, .int (-1)), (0, .ref (gad G 0)), (1, .int (nI n9))]) hx hb dX4_order_33 hl (by decide) rfl (fun ls hl => ?_)
    have J35 : ∀ (fu : Nat) (a9 : Nat) (b9 : Int32) (l9 : Int32) (T9 : Nat → Int32) (ha : a9 ≤ nP M) (hbb : (b9, l9) = orA M n9 a9) (tT9 : ∀ k : Nat, 53 ≤ k → T9 k = 0) (hrk : nP M - a9 < fu) (H : Heap) (locs : List Loc) (ls : Array Slot), WP G (sI u 1 T9) H → va_S (gA G) s0.heap H locs → lv_has ls 9 [(0, .ref (gad G 0)), (1, .int (nI n9)), (2, .int b9), (3, .ref (gS G 1)), (4, .int l9), (5, .int (nI a9))] → W pg l ev (headSpec wsX4_order (rmO 6 133)).room s0 mm ([.ref (gad G 0), .int (nI n9)] : List Value).toArray below meth cd H locs 0 0 (MQ below (va_Qi (P3 u 0 1 6 (X_order M F (nI n9))) (fun v t => WP G v t.heap) (gA G)) ([.ref (gad G 0), .int (nI n9)] : List Value).toArray s0 0 0 (gA G)) (F0 mm 35 ls []) := by
      intro fu
      induction fu with
      | zero => intro a9 b9 l9 T9 ha hbb tT9 hrk; exact absurd hrk (Nat.not_lt_zero _)
      | succ fu ih35 =>
        intro a9 b9 l9 T9 ha hbb tT9 hrk H locs ls hP hS hl
        refine lv_iload hx hb dX4_order_35 (lv_at hl 5 rfl) ?_
        refine lv_aload_n hx hb dX4_order_37 rfl (lv_at hl 0 rfl) ?_
        refine do_get hx hb hts hin4 hown hE hP ((sI_ne _ _ (by decide)).trans rfl) 0 (by decide) (hts (.fieldLink RX4 10 "HeldDoor" "scene" "LHeldDoor$Scene;") (by decide +kernel)) (v := .ref (gS G 0)) rfl dX4_order_38 ?_
        refine sc_get hx hb hts hin1 hown hE hP (by decide) ((sI_ne _ _ (by decide)).trans h0) 4 (by decide) (hts (.fieldLink RX4 157 "HeldDoor$Scene" "people" "I") (by decide +kernel)) (v := .int (M 4)) rfl dX4_order_41 ?_
        refine lv_cast hn ?_
        refine nn_ge (a := a9) (b := nP M) (by omega) (by omega) (tgt := 125) hx hb dX4_order_44 (by decide) (fun c_6 => ?_) (fun c_6 => ?_)
        · skip
          refine lv_aload_n hx hb dX4_order_125 rfl (lv_at hl 0 rfl) ?_
          refine lv_iload_n hx hb dX4_order_126 rfl (lv_at hl 2 rfl) ?_
          refine hd_callVi (As := [.int b9]) (rest := []) ⟨hx, hb, hml, hown, hts⟩ hE hP hS (c_X4_orNone l G (sI u 1 T9) F ((sI_ne _ _ (by decide)).trans h6) b9) rfl (cwV 1 hts gX4_order_X4_orNone rfl rfl rfl (by decide +kernel) ⟨Nat.le_of_ble_eq_true rfl, Nat.le_of_ble_eq_true rfl⟩) (do_recv hE hP) rfl hl.1 rfl (Nat.le_of_ble_eq_true rfl) dX4_order_127 (fun rq_7 vq_7 H locs q_7 hP hS => ?_)
          have hP := hP.cast (q_7.2)
          refine lv_cast q_7.1 ?_
          exact hd_iret hx hb hr hlocks hP hS (P3.of (by rw [X_order, c_2, if_neg (by decide), nI_clamp (show n9 < 2 ^ 31 by omega), show nP M = a9 by omega, ← hbb, orN_eq]) ((sI_ne _ _ (by decide)).trans ((sI_ne _ _ (by decide)).trans h0)) ((sI_ne _ _ (by decide)).trans (sI_at _ _ _)) (sI_at _ _ _) (by decide) (by decide) (by decide) (fun k k0 k1 k6 => ((sI_ne _ _ k6).trans ((sI_ne _ _ k1).trans rfl))) rfl) dX4_order_130
        · skip
          refine lv_iload hx hb dX4_order_47 (lv_at hl 5 rfl) ?_
          refine lv_iconst (v := 1) hx hb dX4_order_49 (by decide) ?_
          refine nn_iadd (a := a9) (b := 1) hx hb dX4_order_50 ?_
          refine lv_istore (lv' := [(6, .int (nI (a9 + 1))), (0, .ref (gad G 0)), (1, .int (nI n9)), (2, .int b9), (3, .ref (gS G 1)), (4, .int l9), (5, .int (nI a9))]) hx hb dX4_order_51 hl (by decide) rfl (fun ls hl => ?_)
          have J53 : ∀ (fu : Nat) (e9 : Nat) (b8 : Int32) (l8 : Int32) (T8 : Nat → Int32) (he : e9 ≤ nP M - (a9 + 1)) (hb8 : (b8, l8) = orB M n9 a9 (b9, l9) e9) (tT8 : ∀ k : Nat, 53 ≤ k → T8 k = 0) (hrk : nP M - (a9 + 1) - e9 < fu) (H : Heap) (locs : List Loc) (ls : Array Slot), WP G (sI u 1 T8) H → va_S (gA G) s0.heap H locs → lv_has ls 9 [(0, .ref (gad G 0)), (1, .int (nI n9)), (2, .int b8), (3, .ref (gS G 1)), (4, .int l8), (5, .int (nI a9)), (6, .int (nI (a9 + 1 + e9)))] → W pg l ev (headSpec wsX4_order (rmO 6 133)).room s0 mm ([.ref (gad G 0), .int (nI n9)] : List Value).toArray below meth cd H locs 0 0 (MQ below (va_Qi (P3 u 0 1 6 (X_order M F (nI n9))) (fun v t => WP G v t.heap) (gA G)) ([.ref (gad G 0), .int (nI n9)] : List Value).toArray s0 0 0 (gA G)) (F0 mm 53 ls []) := by
            intro fu
            induction fu with
            | zero => intro e9 b8 l8 T8 he hb8 tT8 hrk; exact absurd hrk (Nat.not_lt_zero _)
            | succ fu ih53 =>
              intro e9 b8 l8 T8 he hb8 tT8 hrk H locs ls hP hS hl
              refine lv_iload hx hb dX4_order_53 (lv_at hl 6 rfl) ?_
              refine lv_aload_n hx hb dX4_order_55 rfl (lv_at hl 0 rfl) ?_
              refine do_get hx hb hts hin4 hown hE hP ((sI_ne _ _ (by decide)).trans rfl) 0 (by decide) (hts (.fieldLink RX4 10 "HeldDoor" "scene" "LHeldDoor$Scene;") (by decide +kernel)) (v := .ref (gS G 0)) rfl dX4_order_56 ?_
              refine sc_get hx hb hts hin1 hown hE hP (by decide) ((sI_ne _ _ (by decide)).trans h0) 4 (by decide) (hts (.fieldLink RX4 157 "HeldDoor$Scene" "people" "I") (by decide +kernel)) (v := .int (M 4)) rfl dX4_order_59 ?_
              refine lv_cast hn ?_
              refine nn_ge (a := a9 + 1 + e9) (b := nP M) (by omega) (by omega) (tgt := 119) hx hb dX4_order_62 (by decide) (fun c_8 => ?_) (fun c_8 => ?_)
              · skip
                refine lv_iinc (v := nI (a9 + 1)) (lv' := [(5, .int (nI (a9 + 1))), (0, .ref (gad G 0)), (1, .int (nI n9)), (2, .int b8), (3, .ref (gS G 1)), (4, .int l8), (6, .int (nI (a9 + 1 + e9)))]) hx hb dX4_order_119 hl (k := 5) rfl (inc1 _) (by decide) rfl (fun ls hl => ?_)
                refine lv_goto (tgt := 35) hx hb dX4_order_122 (by decide) ?_
                exact ih35 (a9 + 1) b8 l8 T8 (by omega) (by rw [orA, ← hbb, show nP M - (a9 + 1) = e9 by omega]; exact hb8) tT8 (by omega) _ _ _ hP hS (lv_sub hl [1, 2, 3, 4, 5, 0] rfl)
              · skip
                refine lv_aload_n hx hb dX4_order_65 rfl (lv_at hl 0 rfl) ?_
                refine hd_callVr (As := []) (rest := []) ⟨hx, hb, hml, hown, hts⟩ hE hP hS (c_X4_freshTrial l G (sI u 1 T8) M T8 ((sI_ne _ _ (by decide)).trans h0) (sI_at _ _ _) (hM).1 tT8) rfl (cwV 0 hts gX4_order_X4_freshTrial rfl rfl rfl (by decide +kernel) ⟨Nat.le_of_ble_eq_true rfl, Nat.le_of_ble_eq_true rfl⟩) (do_recv hE hP) rfl hl.1 rfl (Nat.le_of_ble_eq_true rfl) dX4_order_66 (fun H locs hP hS => ?_)
                have hP := hP.cast (sI_sI _ _ _ _)
                refine lv_astore (lv' := [(7, .ref (gS G 1)), (0, .ref (gad G 0)), (1, .int (nI n9)), (2, .int b8), (3, .ref (gS G 1)), (4, .int l8), (5, .int (nI a9)), (6, .int (nI (a9 + 1 + e9)))]) hx hb dX4_order_69 hl (by decide) rfl (fun ls hl => ?_)
                refine lv_aload hx hb dX4_order_71 (lv_at hl 0 rfl) ?_
                refine lv_iload hx hb dX4_order_73 (lv_at hl 6 rfl) ?_
                refine lv_iload hx hb dX4_order_75 (lv_at hl 7 rfl) ?_
                refine hd_callVv (As := [.int (nI a9), .int (nI (a9 + 1 + e9))]) (rest := []) ⟨hx, hb, hml, hown, hts⟩ hE hP hS (c_X1_changePlaces l G u 1 (by decide) M a9 (a9 + 1 + e9) (by omega) (by omega) (by omega)) rfl (cwV 2 hts gX4_order_X1_changePlaces rfl rfl rfl (by decide +kernel) ⟨Nat.le_of_ble_eq_true rfl, Nat.le_of_ble_eq_true rfl⟩) (sc_recv hE hP (by decide)) rfl hl.1 rfl (Nat.le_of_ble_eq_true rfl) dX4_order_77 (fun vq_10 H locs q_10 hP hS => ?_)
                have hP := hP.cast (q_10)
                refine lv_aload hx hb dX4_order_80 (lv_at hl 0 rfl) ?_
                refine lv_iload_n hx hb dX4_order_82 rfl (lv_at hl 2 rfl) ?_
                refine hd_callVv (As := [.int (nI n9)]) (rest := []) ⟨hx, hb, hml, hown, hts⟩ hE hP hS (c_X1_goOn l G u 1 (by decide) (swp M a9 (a9 + 1 + e9)) (Wf_swp hM (by omega) (by omega)) n9 (by omega)) rfl (cwV 1 hts gX4_order_X1_goOn rfl rfl rfl (by decide +kernel) ⟨Nat.le_of_ble_eq_true rfl, Nat.le_of_ble_eq_true rfl⟩) (sc_recv hE hP (by decide)) rfl hl.1 rfl (Nat.le_of_ble_eq_true rfl) dX4_order_83 (fun vq_11 H locs q_11 hP hS => ?_)
                have hP := hP.cast (q_11)
                refine lv_aload hx hb dX4_order_86 (lv_at hl 0 rfl) ?_
                refine hd_callVi (As := []) (rest := []) ⟨hx, hb, hml, hown, hts⟩ hE hP hS (c_X1_countLoose l G u 1 (by decide) (goN (swp M a9 (a9 + 1 + e9)) n9) (Wf_goN (Wf_swp hM (by omega) (by omega)) _)) rfl (cwV 0 hts gX4_order_X1_countLoose rfl rfl rfl (by decide +kernel) ⟨Nat.le_of_ble_eq_true rfl, Nat.le_of_ble_eq_true rfl⟩) (sc_recv hE hP (by decide)) rfl hl.1 rfl (Nat.le_of_ble_eq_true rfl) dX4_order_88 (fun rq_12 vq_12 H locs q_12 hP hS => ?_)
                have hP := hP.cast (q_12.2)
                refine lv_cast q_12.1 ?_
                refine lv_istore (lv' := [(8, .int (loC (goN (swp M a9 (a9 + 1 + e9)) n9))), (7, .ref (gS G 1)), (0, .ref (gad G 0)), (1, .int (nI n9)), (2, .int b8), (3, .ref (gS G 1)), (4, .int l8), (5, .int (nI a9)), (6, .int (nI (a9 + 1 + e9)))]) hx hb dX4_order_91 hl (by decide) rfl (fun ls hl => ?_)
                refine lv_iload hx hb dX4_order_93 (lv_at hl 0 rfl) ?_
                refine lv_iload hx hb dX4_order_95 (lv_at hl 6 rfl) ?_
                refine lv_icmp_ge (tgt := 113) hx hb dX4_order_97 (by decide) (fun c_13 => ?_) (fun c_13 => ?_)
                · skip
                  refine lv_iinc (v := nI ((a9 + 1 + e9) + 1)) (lv' := [(6, .int (nI ((a9 + 1 + e9) + 1))), (8, .int (loC (goN (swp M a9 (a9 + 1 + e9)) n9))), (7, .ref (gS G 1)), (0, .ref (gad G 0)), (1, .int (nI n9)), (2, .int b8), (3, .ref (gS G 1)), (4, .int l8), (5, .int (nI a9))]) hx hb dX4_order_113 hl (k := 8) rfl (inc1 _) (by decide) rfl (fun ls hl => ?_)
                  refine lv_goto (tgt := 53) hx hb dX4_order_116 (by decide) ?_
                  exact ih53 (e9 + 1) b8 l8 (goN (swp M a9 (a9 + 1 + e9)) n9) (by omega) (by rw [orB, bst, ← hb8, if_neg (Int32.not_lt.mpr c_13)]) (((Wf_goN (Wf_swp hM (by omega) (by omega)) _)).1) (by omega) _ _ _ hP hS (lv_sub hl [3, 4, 5, 6, 7, 8, 0] rfl)
                · skip
                  refine lv_iload hx hb dX4_order_100 (lv_at hl 0 rfl) ?_
                  refine lv_istore (lv' := [(4, .int (loC (goN (swp M a9 (a9 + 1 + e9)) n9))), (8, .int (loC (goN (swp M a9 (a9 + 1 + e9)) n9))), (7, .ref (gS G 1)), (0, .ref (gad G 0)), (1, .int (nI n9)), (2, .int b8), (3, .ref (gS G 1)), (5, .int (nI a9)), (6, .int (nI (a9 + 1 + e9)))]) hx hb dX4_order_102 hl (by decide) rfl (fun ls hl => ?_)
                  refine lv_bipush (v := 10) hx hb dX4_order_104 (by decide) ?_
                  refine lv_iload hx hb dX4_order_106 (lv_at hl 7 rfl) ?_
                  refine nn_imul (a := 10) (b := a9) hx hb dX4_order_108 ?_
                  refine lv_iload hx hb dX4_order_109 (lv_at hl 8 rfl) ?_
                  refine nn_iadd (a := 10 * a9) (b := a9 + 1 + e9) hx hb dX4_order_111 ?_
                  refine lv_istore_n (lv' := [(2, .int (nI (10 * a9 + (a9 + 1 + e9)))), (4, .int (loC (goN (swp M a9 (a9 + 1 + e9)) n9))), (8, .int (loC (goN (swp M a9 (a9 + 1 + e9)) n9))), (7, .ref (gS G 1)), (0, .ref (gad G 0)), (1, .int (nI n9)), (3, .ref (gS G 1)), (5, .int (nI a9)), (6, .int (nI (a9 + 1 + e9)))]) hx hb dX4_order_112 rfl hl (by decide) rfl (fun ls hl => ?_)
                  refine lv_iinc (v := nI ((a9 + 1 + e9) + 1)) (lv' := [(6, .int (nI ((a9 + 1 + e9) + 1))), (2, .int (nI (10 * a9 + (a9 + 1 + e9)))), (4, .int (loC (goN (swp M a9 (a9 + 1 + e9)) n9))), (8, .int (loC (goN (swp M a9 (a9 + 1 + e9)) n9))), (7, .ref (gS G 1)), (0, .ref (gad G 0)), (1, .int (nI n9)), (3, .ref (gS G 1)), (5, .int (nI a9))]) hx hb dX4_order_113 hl (k := 8) rfl (inc1 _) (by decide) rfl (fun ls hl => ?_)
                  refine lv_goto (tgt := 53) hx hb dX4_order_116 (by decide) ?_
                  exact ih53 (e9 + 1) (nI (10 * a9 + (a9 + 1 + e9))) (loC (goN (swp M a9 (a9 + 1 + e9)) n9)) (goN (swp M a9 (a9 + 1 + e9)) n9) (by omega) (by rw [orB, bst, ← hb8, if_pos (Int32.not_le.mp c_13)]) (((Wf_goN (Wf_swp hM (by omega) (by omega)) _)).1) (by omega) _ _ _ hP hS (lv_sub hl [5, 6, 1, 7, 2, 8, 0] rfl)
          exact J53 _ 0 b9 l9 T9 (by omega) rfl tT9 (Nat.lt_succ_self _) _ _ _ hP hS (lv_sub hl [1, 2, 3, 4, 5, 6, 0] rfl)
    exact J35 _ 0 (-1) (loC (goN M n9)) (goN M n9) (by omega) rfl (((Wf_goN hM _)).1) (Nat.lt_succ_self _) _ _ _ hP hS (lv_sub hl [4, 5, 3, 2, 1, 0] rfl)
  · skip
    refine lv_aload_n hx hb dX4_order_7 rfl (lv_at hl 0 rfl) ?_
    refine lv_ldc (v := (-1000000001)) hx hb hown (hts (.constant RX4 55 ((-1000000001))) (by decide +kernel)) dX4_order_8 ?_
    refine hd_callVi (As := [.int (-1000000001)]) (rest := []) ⟨hx, hb, hml, hown, hts⟩ hE hP hS (c_X4_found_0 l G u F h6) rfl (cwV 1 hts gX4_order_X4_found rfl rfl rfl (by decide +kernel) ⟨Nat.le_of_ble_eq_true rfl, Nat.le_of_ble_eq_true rfl⟩) (do_recv hE hP) rfl hl.1 rfl (Nat.le_of_ble_eq_true rfl) dX4_order_10 (fun rq_14 vq_14 H locs q_14 hP hS => ?_)
    have hP := hP.cast (q_14.2)
    refine lv_cast q_14.1 ?_
    exact hd_iret hx hb hr hlocks hP hS (P3.of (by first | (simp [X_order, bey, bmp, c_2]; done)) ((sI_ne _ _ (by decide)).trans h0) ((sI_ne _ _ (by decide)).trans h1) (sI_at _ _ _) (by decide) (by decide) (by decide) (fun k k0 k1 k6 => ((sI_ne _ _ k6).trans rfl)) rfl) dX4_order_13
set_option maxHeartbeats 4000000 in
set_option maxRecDepth 100000 in
theorem c_X4_count (l : Launch) (G : Geo) (u : Sg) (M F : Nat → Int32) (h0 : u.1 0 = M) (h6 : u.1 6 = F) (hM : Wf M) (w : Int32) : CtI l G yX4_count wsX4_count (rmO 2 44) [.ref (gad G 0), .int w] u (P3 u 0 1 6 (X_count M F (u.1 4 1) w)) := by
  refine CtI.of (cc := cX4_count) (maxL := 2) (ret := (some .int)) (own := RX4) (by decide) rfl rfl ?_
  rintro pg ev s0 mm below meth cd ⟨hx, hb, hr, hml, hown, hts, hlocks⟩ hE hP ls hl
  have hS : va_S (gA G) s0.heap s0.heap [] := va_S.rf
  have hl : lv_has ls 2 [(0, .ref (gad G 0)), (1, .int w)] := hl
  have hin1 : ∀ w ∈ wsX10, w ∈ wsX4_count := by decide +kernel
  have hin3 : ∀ w ∈ wsX30, w ∈ wsX4_count := by decide +kernel
  have hin4 : ∀ w ∈ wsX40, w ∈ wsX4_count := by decide +kernel
  have hn := hM.n
  have h8 := hM.n8
  refine lv_iload_n hx hb dX4_count_0 rfl (lv_at hl 1 rfl) ?_
  by_cases k_1 : w = 0
  · refine lv_cast k_1 ?_
    refine lv_tableIn (tgt := 32) hx hb dX4_count_1 (by decide) (by decide) rfl (by decide) ?_
    refine lv_aload_n hx hb dX4_count_32 rfl (lv_at hl 0 rfl) ?_
    refine do_get hx hb hts hin4 hown hE hP rfl 0 (by decide) (hts (.fieldLink RX4 10 "HeldDoor" "scene" "LHeldDoor$Scene;") (by decide +kernel)) (v := .ref (gS G 0)) rfl dX4_count_33 ?_
    refine sc_get hx hb hts hin1 hown hE hP (by decide) h0 4 (by decide) (hts (.fieldLink RX4 157 "HeldDoor$Scene" "people" "I") (by decide +kernel)) (v := .int (M 4)) rfl dX4_count_36 ?_
    exact hd_iret hx hb hr hlocks hP hS (P3.of (by first | rfl | (simp [X_count, bey, none3, bmp, k_1]; done) | (exfalso; simp_all; done) | (simp only [X_count, bey, none3, bmp, k_1, ↓reduceIte] <;> rfl)) h0 rfl h6 (by decide) (by decide) (by decide) (fun k k0 k1 k6 => rfl) rfl) dX4_count_39
  by_cases k_2 : w = 1
  · refine lv_cast k_2 ?_
    refine lv_tableIn (tgt := 40) hx hb dX4_count_1 (by decide) (by decide) rfl (by decide) ?_
    refine lv_aload_n hx hb dX4_count_40 rfl (lv_at hl 0 rfl) ?_
    refine do_get hx hb hts hin4 hown hE hP rfl 4 (by decide) (hts (.fieldLink RX4 29 "HeldDoor" "text" "LHeldDoor$Text;") (by decide +kernel)) (v := .ref (gad G 22)) rfl dX4_count_41 ?_
    refine tx_get hx hb hts hin3 hown hE hP rfl 1 (by decide) (hts (.fieldLink RX4 173 "HeldDoor$Text" "length" "I") (by decide +kernel)) (v := .int ((u.1 4) 1)) rfl dX4_count_44 ?_
    exact hd_iret hx hb hr hlocks hP hS (P3.of (by first | rfl | (simp [X_count, bey, none3, bmp, k_1, k_2]; done) | (exfalso; simp_all; done) | (simp only [X_count, bey, none3, bmp, k_1, k_2, ↓reduceIte] <;> rfl)) h0 rfl h6 (by decide) (by decide) (by decide) (fun k k0 k1 k6 => rfl) rfl) dX4_count_47
  by_cases k_3 : w = 2
  · refine lv_cast k_3 ?_
    refine lv_tableIn (tgt := 48) hx hb dX4_count_1 (by decide) (by decide) rfl (by decide) ?_
    refine lv_aload_n hx hb dX4_count_48 rfl (lv_at hl 0 rfl) ?_
    refine do_get hx hb hts hin4 hown hE hP rfl 0 (by decide) (hts (.fieldLink RX4 10 "HeldDoor" "scene" "LHeldDoor$Scene;") (by decide +kernel)) (v := .ref (gS G 0)) rfl dX4_count_49 ?_
    refine sc_get hx hb hts hin1 hown hE hP (by decide) h0 4 (by decide) (hts (.fieldLink RX4 157 "HeldDoor$Scene" "people" "I") (by decide +kernel)) (v := .int (M 4)) rfl dX4_count_52 ?_
    refine lv_aload_n hx hb dX4_count_55 rfl (lv_at hl 0 rfl) ?_
    refine do_get hx hb hts hin4 hown hE hP rfl 0 (by decide) (hts (.fieldLink RX4 10 "HeldDoor" "scene" "LHeldDoor$Scene;") (by decide +kernel)) (v := .ref (gS G 0)) rfl dX4_count_56 ?_
    refine lv_aload_n hx hb dX4_count_59 rfl (lv_at hl 0 rfl) ?_
    refine do_get hx hb hts hin4 hown hE hP rfl 0 (by decide) (hts (.fieldLink RX4 10 "HeldDoor" "scene" "LHeldDoor$Scene;") (by decide +kernel)) (v := .ref (gS G 0)) rfl dX4_count_60 ?_
    refine sc_get hx hb hts hin1 hown hE hP (by decide) h0 6 (by decide) (hts (.fieldLink RX4 164 "HeldDoor$Scene" "badges" "[I") (by decide +kernel)) (v := .ref (gSA G 0 1)) rfl dX4_count_63 ?_
    refine hd_callVi (As := [.ref (gSA G 0 1)]) (rest := [.int (M 4)]) ⟨hx, hb, hml, hown, hts⟩ hE hP hS (c_X1_sumOf l G u 0 (by decide) M hM 1 (by decide)) ((sI_id h0).symm) (cwV 1 hts gX4_count_X1_sumOf rfl rfl rfl (by decide +kernel) ⟨Nat.le_of_ble_eq_true rfl, Nat.le_of_ble_eq_true rfl⟩) (sc_recv hE hP (by decide)) rfl hl.1 rfl (Nat.le_of_ble_eq_true rfl) dX4_count_66 (fun rq_4 vq_4 H locs q_4 hP hS => ?_)
    have hP := hP.cast (q_4.2.trans ((sI_id h0).symm).symm)
    refine lv_cast q_4.1 ?_
    refine lv_isub hx hb dX4_count_69 ?_
    exact hd_iret hx hb hr hlocks hP hS (P3.of (by first | rfl | (simp [X_count, bey, none3, bmp, k_1, k_2, k_3]; done) | (exfalso; simp_all; done) | (simp only [X_count, bey, none3, bmp, k_1, k_2, k_3, ↓reduceIte] <;> rfl)) h0 rfl h6 (by decide) (by decide) (by decide) (fun k k0 k1 k6 => rfl) rfl) dX4_count_70
  by_cases k_5 : w = 3
  · refine lv_cast k_5 ?_
    refine lv_tableIn (tgt := 71) hx hb dX4_count_1 (by decide) (by decide) rfl (by decide) ?_
    refine lv_aload_n hx hb dX4_count_71 rfl (lv_at hl 0 rfl) ?_
    refine do_get hx hb hts hin4 hown hE hP rfl 0 (by decide) (hts (.fieldLink RX4 10 "HeldDoor" "scene" "LHeldDoor$Scene;") (by decide +kernel)) (v := .ref (gS G 0)) rfl dX4_count_72 ?_
    refine lv_aload_n hx hb dX4_count_75 rfl (lv_at hl 0 rfl) ?_
    refine do_get hx hb hts hin4 hown hE hP rfl 0 (by decide) (hts (.fieldLink RX4 10 "HeldDoor" "scene" "LHeldDoor$Scene;") (by decide +kernel)) (v := .ref (gS G 0)) rfl dX4_count_76 ?_
    refine sc_get hx hb hts hin1 hown hE hP (by decide) h0 7 (by decide) (hts (.fieldLink RX4 170 "HeldDoor$Scene" "loads" "[I") (by decide +kernel)) (v := .ref (gSA G 0 2)) rfl dX4_count_79 ?_
    refine hd_callVi (As := [.ref (gSA G 0 2)]) (rest := []) ⟨hx, hb, hml, hown, hts⟩ hE hP hS (c_X1_sumOf l G u 0 (by decide) M hM 2 (by decide)) ((sI_id h0).symm) (cwV 1 hts gX4_count_X1_sumOf rfl rfl rfl (by decide +kernel) ⟨Nat.le_of_ble_eq_true rfl, Nat.le_of_ble_eq_true rfl⟩) (sc_recv hE hP (by decide)) rfl hl.1 rfl (Nat.le_of_ble_eq_true rfl) dX4_count_82 (fun rq_6 vq_6 H locs q_6 hP hS => ?_)
    have hP := hP.cast (q_6.2.trans ((sI_id h0).symm).symm)
    refine lv_cast q_6.1 ?_
    exact hd_iret hx hb hr hlocks hP hS (P3.of (by first | rfl | (simp [X_count, bey, none3, bmp, k_1, k_2, k_3, k_5]; done) | (exfalso; simp_all; done) | (simp only [X_count, bey, none3, bmp, k_1, k_2, k_3, k_5, ↓reduceIte] <;> rfl)) h0 rfl h6 (by decide) (by decide) (by decide) (fun k k0 k1 k6 => rfl) rfl) dX4_count_85
  refine lv_tableOut (tgt := 86) hx hb dX4_count_1 (sw_out (lo := 0) (hi := 3) (by decide) (by decide) (fun k h1 h2 => by
    rcases (show k = 0 ∨ k = 1 ∨ k = 2 ∨ k = 3 by omega) with rfl | rfl | rfl | rfl
    · exact k_1
    · exact k_2
    · exact k_3
    · exact k_5
    )) (by decide) ?_
  refine lv_aload_n hx hb dX4_count_86 rfl (lv_at hl 0 rfl) ?_
  refine lv_ldc (v := (-1000000001)) hx hb hown (hts (.constant RX4 55 ((-1000000001))) (by decide +kernel)) dX4_count_87 ?_
  refine hd_callVi (As := [.int (-1000000001)]) (rest := []) ⟨hx, hb, hml, hown, hts⟩ hE hP hS (c_X4_found_0 l G u F h6) rfl (cwV 1 hts gX4_count_X4_found rfl rfl rfl (by decide +kernel) ⟨Nat.le_of_ble_eq_true rfl, Nat.le_of_ble_eq_true rfl⟩) (do_recv hE hP) rfl hl.1 rfl (Nat.le_of_ble_eq_true rfl) dX4_count_89 (fun rq_7 vq_7 H locs q_7 hP hS => ?_)
  have hP := hP.cast (q_7.2)
  refine lv_cast q_7.1 ?_
  exact hd_iret hx hb hr hlocks hP hS (P3.of (by first | rfl | (simp [X_count, bey, none3, bmp, k_1, k_2, k_3, k_5]; done) | (exfalso; simp_all; done) | (simp only [X_count, bey, none3, bmp, k_1, k_2, k_3, k_5, ↓reduceIte] <;> rfl)) ((sI_ne _ _ (by decide)).trans h0) ((sI_ne _ _ (by decide)).trans rfl) (sI_at _ _ _) (by decide) (by decide) (by decide) (fun k k0 k1 k6 => ((sI_ne _ _ k6).trans rfl)) rfl) dX4_count_92
set_option maxHeartbeats 4000000 in
set_option maxRecDepth 100000 in
theorem c_X4_status (l : Launch) (G : Geo) (u : Sg) (M F : Nat → Int32) (h0 : u.1 0 = M) (h6 : u.1 6 = F) (hM : Wf M) (w : Int32) : CtI l G yX4_status wsX4_status (rmO 2 44) [.ref (gad G 0), .int w] u (P3 u 0 1 6 (X_status M F w)) := by
  refine CtI.of (cc := cX4_status) (maxL := 4) (ret := (some .int)) (own := RX4) (by decide) rfl rfl ?_
  rintro pg ev s0 mm below meth cd ⟨hx, hb, hr, hml, hown, hts, hlocks⟩ hE hP ls hl
  have hS : va_S (gA G) s0.heap s0.heap [] := va_S.rf
  have hl : lv_has ls 4 [(0, .ref (gad G 0)), (1, .int w)] := hl
  have hin4 : ∀ w ∈ wsX40, w ∈ wsX4_status := by decide +kernel
  have hn := hM.n
  have h8 := hM.n8
  refine lv_iload_n hx hb dX4_status_0 rfl (lv_at hl 1 rfl) ?_
  refine lv_iconst (v := (-1)) hx hb dX4_status_1 (by decide) ?_
  refine lv_icmp_ne (tgt := 32) hx hb dX4_status_2 (by decide) (fun c_1 => ?_) (fun c_1 => ?_)
  · skip
    refine lv_iconst (v := 0) hx hb dX4_status_32 (by decide) ?_
    refine lv_bipush (v := 6) hx hb dX4_status_33 (by decide) ?_
    refine lv_iload_n hx hb dX4_status_35 rfl (lv_at hl 1 rfl) ?_
    refine hd_callSi (As := [.int 0, .int 6, .int w]) (rest := []) ⟨hx, hb, hml, hown, hts⟩ hE hP hS (c_X4_isFrom l G u 0 6 w) rfl (va_cwS 3 hts gX4_status_X4_isFrom rfl rfl rfl (by decide +kernel) ⟨Nat.le_of_ble_eq_true rfl, Nat.le_of_ble_eq_true rfl⟩) rfl hl.1 rfl (Nat.le_of_ble_eq_true rfl) dX4_status_36 (fun rq_2 vq_2 H locs q_2 hP hS => ?_)
    have hP := hP.cast (q_2.2)
    refine lv_cast q_2.1 ?_
    refine bo_ne (tgt := 49) hx hb dX4_status_39 (by decide) (fun c_3 => ?_) (fun c_3 => ?_)
    · skip
      obtain ⟨j9, hj9a, hj9b, rfl⟩ := inI_nat c_3 rfl rfl (na := 0) (nb := 6) (by decide) (by decide)
      refine lv_aload_n hx hb dX4_status_49 rfl (lv_at hl 0 rfl) ?_
      refine do_get hx hb hts hin4 hown hE hP rfl 6 (by decide) (hts (.fieldLink RX4 40 "HeldDoor" "findings" "[I") (by decide +kernel)) (v := .ref (gad G 25)) rfl dX4_status_50 ?_
      refine lv_iload_n hx hb dX4_status_53 rfl (lv_at hl 1 rfl) ?_
      refine ar_ld hx hb hE hP 25 7 (by decide) (ar_at25 h6) j9 (by omega) dX4_status_54 ?_
      exact hd_iret hx hb hr hlocks hP hS (P3.of (by simp [X_status, bey, bmp, c_1, c_3, nI_clamp (show j9 < 2 ^ 31 by omega)]) h0 rfl h6 (by decide) (by decide) (by decide) (fun k k0 k1 k6 => rfl) rfl) dX4_status_55
    · skip
      refine lv_aload_n hx hb dX4_status_42 rfl (lv_at hl 0 rfl) ?_
      refine lv_ldc (v := (-1000000001)) hx hb hown (hts (.constant RX4 55 ((-1000000001))) (by decide +kernel)) dX4_status_43 ?_
      refine hd_callVi (As := [.int (-1000000001)]) (rest := []) ⟨hx, hb, hml, hown, hts⟩ hE hP hS (c_X4_found_0 l G u F h6) rfl (cwV 1 hts gX4_status_X4_found rfl rfl rfl (by decide +kernel) ⟨Nat.le_of_ble_eq_true rfl, Nat.le_of_ble_eq_true rfl⟩) (do_recv hE hP) rfl hl.1 rfl (Nat.le_of_ble_eq_true rfl) dX4_status_45 (fun rq_4 vq_4 H locs q_4 hP hS => ?_)
      have hP := hP.cast (q_4.2)
      refine lv_cast q_4.1 ?_
      exact hd_iret hx hb hr hlocks hP hS (P3.of (by simp [X_status, bey, bmp, c_1, c_3]) ((sI_ne _ _ (by decide)).trans h0) ((sI_ne _ _ (by decide)).trans rfl) (sI_at _ _ _) (by decide) (by decide) (by decide) (fun k k0 k1 k6 => ((sI_ne _ _ k6).trans rfl)) rfl) dX4_status_48
  · skip
    refine lv_iconst (v := 0) hx hb dX4_status_5 (by decide) ?_
    refine lv_istore_n (lv' := [(2, .int 0), (0, .ref (gad G 0)), (1, .int w)]) hx hb dX4_status_6 rfl hl (by decide) rfl (fun ls hl => ?_)
    refine lv_iconst (v := 0) hx hb dX4_status_7 (by decide) ?_
    refine lv_istore_n (lv' := [(3, .int 0), (2, .int 0), (0, .ref (gad G 0)), (1, .int w)]) hx hb dX4_status_8 rfl hl (by decide) rfl (fun ls hl => ?_)
    have J9 : ∀ (fu : Nat) (k9 : Nat) (a9 : Int32) (hk : k9 ≤ 7) (ha : a9 = fS F k9) (hrk : 7 - k9 < fu) (H : Heap) (locs : List Loc) (ls : Array Slot), WP G u H → va_S (gA G) s0.heap H locs → lv_has ls 4 [(0, .ref (gad G 0)), (1, .int w), (2, .int a9), (3, .int (nI k9))] → W pg l ev (headSpec wsX4_status (rmO 2 44)).room s0 mm ([.ref (gad G 0), .int w] : List Value).toArray below meth cd H locs 0 0 (MQ below (va_Qi (P3 u 0 1 6 (X_status M F w)) (fun v t => WP G v t.heap) (gA G)) ([.ref (gad G 0), .int w] : List Value).toArray s0 0 0 (gA G)) (F0 mm 9 ls []) := by
      intro fu
      induction fu with
      | zero => intro k9 a9 hk ha hrk; exact absurd hrk (Nat.not_lt_zero _)
      | succ fu ih9 =>
        intro k9 a9 hk ha hrk H locs ls hP hS hl
        refine lv_iload_n hx hb dX4_status_9 rfl (lv_at hl 3 rfl) ?_
        refine lv_bipush (v := 7) hx hb dX4_status_10 (by decide) ?_
        refine nn_ge (a := k9) (b := 7) (by omega) (by omega) (tgt := 30) hx hb dX4_status_12 (by decide) (fun c_5 => ?_) (fun c_5 => ?_)
        · skip
          refine lv_iload_n hx hb dX4_status_30 rfl (lv_at hl 2 rfl) ?_
          exact hd_iret hx hb hr hlocks hP hS (P3.of (by rw [X_status, if_pos c_1, show 7 = k9 by omega, ← ha]) h0 rfl h6 (by decide) (by decide) (by decide) (fun k k0 k1 k6 => rfl) rfl) dX4_status_31
        · skip
          refine lv_iload_n hx hb dX4_status_15 rfl (lv_at hl 2 rfl) ?_
          refine lv_aload_n hx hb dX4_status_16 rfl (lv_at hl 0 rfl) ?_
          refine do_get hx hb hts hin4 hown hE hP rfl 6 (by decide) (hts (.fieldLink RX4 40 "HeldDoor" "findings" "[I") (by decide +kernel)) (v := .ref (gad G 25)) rfl dX4_status_17 ?_
          refine lv_iload_n hx hb dX4_status_20 rfl (lv_at hl 3 rfl) ?_
          refine ar_ld hx hb hE hP 25 7 (by decide) (ar_at25 h6) k9 (by omega) dX4_status_21 ?_
          refine lv_iadd hx hb dX4_status_22 ?_
          refine lv_istore_n (lv' := [(2, .int (a9 + (F k9))), (0, .ref (gad G 0)), (1, .int w), (3, .int (nI k9))]) hx hb dX4_status_23 rfl hl (by decide) rfl (fun ls hl => ?_)
          refine lv_iinc (v := nI (k9 + 1)) (lv' := [(3, .int (nI (k9 + 1))), (2, .int (a9 + (F k9))), (0, .ref (gad G 0)), (1, .int w)]) hx hb dX4_status_24 hl (k := 3) rfl (inc1 _) (by decide) rfl (fun ls hl => ?_)
          refine lv_goto (tgt := 9) hx hb dX4_status_27 (by decide) ?_
          exact ih9 (k9 + 1) (a9 + (F k9)) (by omega) (by rw [ha]; rfl) (by omega) _ _ _ hP hS (lv_sub hl [2, 3, 1, 0] rfl)
    exact J9 _ 0 0 (by omega) rfl (Nat.lt_succ_self _) _ _ _ hP hS (lv_sub hl [2, 3, 1, 0] rfl)
