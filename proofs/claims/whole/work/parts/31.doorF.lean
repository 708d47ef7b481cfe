set_option maxHeartbeats 4000000 in
set_option maxRecDepth 100000 in
theorem c_X4_lays (l : Launch) (G : Geo) (u : Sg) (M F : Nat → Int32) (h0 : u.1 0 = M) (h6 : u.1 6 = F) (hM : Wf M) (hsz : ∀ j : Nat, j < 4 → ∃ z : Nat, z ≤ 40 ∧ u.1 (7 + j) 1 = nI z) (s : Int32) : CtI l G yX4_lays wsX4_lays (rmO 2 44) [.ref (gad G 0), .int s] u (PS u 6 F (f_there s (shB u)) (fun r v => ∀ z : Nat, u.1 (7 + s.toNatClampNeg) 1 = nI z ∧ z < 2147483648 → r = (laN (u.2 s.toNatClampNeg) M (min z (nP M))).2 ∧ v = sI u 0 (laN (u.2 s.toNatClampNeg) M (min z (nP M))).1)) := by
  refine CtI.of (cc := cX4_lays) (maxL := 8) (ret := (some .int)) (own := RX4) (by decide) rfl rfl ?_
  rintro pg ev s0 mm below meth cd ⟨hx, hb, hr, hml, hown, hts, hlocks⟩ hE hP ls hl
  have hS : va_S (gA G) s0.heap s0.heap [] := va_S.rf
  have hl : lv_has ls 8 [(0, .ref (gad G 0)), (1, .int s)] := hl
  have hin1 : ∀ w ∈ wsX10, w ∈ wsX4_lays := by decide +kernel
  have hin2 : ∀ w ∈ wsX20, w ∈ wsX4_lays := by decide +kernel
  have hin4 : ∀ w ∈ wsX40, w ∈ wsX4_lays := by decide +kernel
  have hn := hM.n
  have h8 := hM.n8
  refine lv_iload_n hx hb dX4_lays_0 rfl (lv_at hl 1 rfl) ?_
  refine hd_callSi (As := [.int s]) (rest := []) ⟨hx, hb, hml, hown, hts⟩ hE hP hS (c_X4_isSheet l G u s) rfl (va_cwS 1 hts gX4_lays_X4_isSheet rfl rfl rfl (by decide +kernel) ⟨Nat.le_of_ble_eq_true rfl, Nat.le_of_ble_eq_true rfl⟩) rfl hl.1 rfl (Nat.le_of_ble_eq_true rfl) dX4_lays_1 (fun rq_1 vq_1 H locs q_1 hP hS => ?_)
  have hP := hP.cast (q_1.2)
  refine lv_cast q_1.1 ?_
  refine bo_ne (tgt := 14) hx hb dX4_lays_4 (by decide) (fun c_2 => ?_) (fun c_2 => ?_)
  · skip
    obtain ⟨j9, hj9a, hj9b, rfl⟩ := inI_nat c_2 rfl rfl (na := 0) (nb := 3) (by decide) (by decide)
    obtain ⟨z9, hz9, hz8⟩ := hsz j9 (by omega)
    refine lv_aload_n hx hb dX4_lays_14 rfl (lv_at hl 0 rfl) ?_
    refine do_get hx hb hts hin4 hown hE hP rfl 5 (by decide) (hts (.fieldLink RX4 35 "HeldDoor" "sheets" "[LHeldDoor$Sheet;") (by decide +kernel)) (v := .ref (gad G 24)) rfl dX4_lays_15 ?_
    refine lv_iload_n hx hb dX4_lays_18 rfl (lv_at hl 1 rfl) ?_
    refine ss_ld hx hb hE hP j9 (by omega) dX4_lays_19 ?_
    refine lv_astore_n (lv' := [(2, .ref (gH G j9)), (0, .ref (gad G 0)), (1, .int (nI j9))]) hx hb dX4_lays_20 rfl hl (by decide) rfl (fun ls hl => ?_)
    refine lv_aload_n hx hb dX4_lays_21 rfl (lv_at hl 0 rfl) ?_
    refine hd_callVi (As := []) (rest := []) ⟨hx, hb, hml, hown, hts⟩ hE hP hS (c_X2_isMissing l G u j9 (by omega) (u.1 (7 + j9)) rfl) rfl (cwV 0 hts gX4_lays_X2_isMissing rfl rfl rfl (by decide +kernel) ⟨Nat.le_of_ble_eq_true rfl, Nat.le_of_ble_eq_true rfl⟩) (sh_recv hE hP (by omega)) rfl hl.1 rfl (Nat.le_of_ble_eq_true rfl) dX4_lays_22 (fun rq_3 vq_3 H locs q_3 hP hS => ?_)
    have hP := hP.cast (q_3.2)
    refine lv_cast q_3.1 ?_
    refine bo_eq (tgt := 35) hx hb dX4_lays_25 (by decide) (fun c_4 => ?_) (fun c_4 => ?_)
    · skip
      refine lv_iconst (v := 0) hx hb dX4_lays_35 (by decide) ?_
      refine lv_istore_n (lv' := [(3, .int 0), (2, .ref (gH G j9)), (0, .ref (gad G 0)), (1, .int (nI j9))]) hx hb dX4_lays_36 rfl hl (by decide) rfl (fun ls hl => ?_)
      refine lv_aload_n hx hb dX4_lays_37 rfl (lv_at hl 1 rfl) ?_
      refine sh_get hx hb hts hin2 hown hE hP (by omega) rfl 1 (by decide) (hts (.fieldLink RX4 197 "HeldDoor$Sheet" "size" "I") (by decide +kernel)) (v := .int ((u.1 (7 + j9)) 1)) rfl dX4_lays_38 ?_
      refine lv_cast hz8 ?_
      refine lv_aload_n hx hb dX4_lays_41 rfl (lv_at hl 2 rfl) ?_
      refine do_get hx hb hts hin4 hown hE hP rfl 0 (by decide) (hts (.fieldLink RX4 10 "HeldDoor" "scene" "LHeldDoor$Scene;") (by decide +kernel)) (v := .ref (gS G 0)) rfl dX4_lays_42 ?_
      refine sc_get hx hb hts hin1 hown hE hP (by decide) h0 4 (by decide) (hts (.fieldLink RX4 157 "HeldDoor$Scene" "people" "I") (by decide +kernel)) (v := .int (M 4)) rfl dX4_lays_45 ?_
      refine lv_cast hn ?_
      refine va_mmin hx hb (hml.trans hl.1.symm) hown (hts (.methodLink RX4 224 Lib.Math.min.name) (by decide +kernel)) (hts (.static Lib.Math.min.name) (by decide +kernel)) (hts (.initialized "java/lang/Math") (by decide +kernel)) (hts (.code Lib.Math.min.name Lib.Math.min.code 2 (some .int)) (by decide +kernel)) (Nat.le_of_ble_eq_true rfl) (Nat.le_of_ble_eq_true rfl) (Nat.zero_le _) (Nat.zero_le _) dX4_lays_48 ?_
      refine lv_cast (mn_nat hz9 h8) ?_
      refine lv_istore (lv' := [(4, .int (nI (min z9 (nP M)))), (3, .int 0), (2, .ref (gH G j9)), (0, .ref (gad G 0)), (1, .int (nI j9))]) hx hb dX4_lays_51 hl (by decide) rfl (fun ls hl => ?_)
      refine lv_iconst (v := 0) hx hb dX4_lays_53 (by decide) ?_
      refine lv_istore (lv' := [(5, .int 0), (4, .int (nI (min z9 (nP M)))), (3, .int 0), (2, .ref (gH G j9)), (0, .ref (gad G 0)), (1, .int (nI j9))]) hx hb dX4_lays_54 hl (by decide) rfl (fun ls hl => ?_)
      have J56 : ∀ (fu : Nat) (k9 : Nat) (N : Nat → Int32) (a9 : Int32) (hk : k9 ≤ min z9 (nP M)) (hN : (N, a9) = laN (u.2 j9) M k9) (hrk : min z9 (nP M) - k9 < fu) (H : Heap) (locs : List Loc) (ls : Array Slot), WP G (sI u 0 N) H → va_S (gA G) s0.heap H locs → lv_has ls 8 [(0, .ref (gad G 0)), (1, .int (nI j9)), (2, .ref (gH G j9)), (3, .int a9), (4, .int (nI (min z9 (nP M)))), (5, .int (nI k9))] → W pg l ev (headSpec wsX4_lays (rmO 2 44)).room s0 mm ([.ref (gad G 0), .int (nI j9)] : List Value).toArray below meth cd H locs 0 0 (MQ below (va_Qi (PS u 6 F (f_there (nI j9) (shB u)) (fun r v => ∀ z : Nat, u.1 (7 + (nI j9).toNatClampNeg) 1 = nI z ∧ z < 2147483648 → r = (laN (u.2 (nI j9).toNatClampNeg) M (min z (nP M))).2 ∧ v = sI u 0 (laN (u.2 (nI j9).toNatClampNeg) M (min z (nP M))).1)) (fun v t => WP G v t.heap) (gA G)) ([.ref (gad G 0), .int (nI j9)] : List Value).toArray s0 0 0 (gA G)) (F0 mm 56 ls []) := by
        intro fu
        induction fu with
        | zero => intro k9 N a9 hk hN hrk; exact absurd hrk (Nat.not_lt_zero _)
        | succ fu ih56 =>
          intro k9 N a9 hk hN hrk H locs ls hP hS hl
          refine lv_iload hx hb dX4_lays_56 (lv_at hl 5 rfl) ?_
          refine lv_iload hx hb dX4_lays_58 (lv_at hl 4 rfl) ?_
          refine nn_ge (a := k9) (b := min z9 (nP M)) (by omega) (by omega) (tgt := 110) hx hb dX4_lays_60 (by decide) (fun c_5 => ?_) (fun c_5 => ?_)
          · skip
            refine lv_iload_n hx hb dX4_lays_110 rfl (lv_at hl 3 rfl) ?_
            exact hd_iret hx hb hr hlocks hP hS (PS.ok (by simp [f_there, shB, c_2, c_4, c_5, nI_clamp (show j9 < 2 ^ 31 by omega)]) (by intro z hz; rw [nI_clamp (show j9 < 2 ^ 31 by omega)] at hz ⊢; rw [hz8] at hz; rw [← (nI_eq (show z9 < 2147483648 by omega) hz.2).mp hz.1, show min z9 (nP M) = k9 by omega, ← hN]; exact ⟨rfl, rfl⟩)) dX4_lays_111
          · skip
            refine lv_aload_n hx hb dX4_lays_63 rfl (lv_at hl 2 rfl) ?_
            refine sh_get hx hb hts hin2 hown hE hP (by omega) ((sI_ne _ _ (by omega)).trans rfl) 2 (by decide) (hts (.fieldLink RX4 204 "HeldDoor$Sheet" "numbers" "[J") (by decide +kernel)) (v := .ref (gHN G j9)) rfl dX4_lays_64 ?_
            refine lv_iload hx hb dX4_lays_67 (lv_at hl 5 rfl) ?_
            refine sn_ld hx hb hE hP (by omega) rfl k9 (by omega) dX4_lays_69 ?_
            refine lv_lstore (lv' := [(6, .long ((u.2 j9) k9)), (0, .ref (gad G 0)), (1, .int (nI j9)), (2, .ref (gH G j9)), (3, .int a9), (4, .int (nI (min z9 (nP M)))), (5, .int (nI k9))]) hx hb dX4_lays_70 hl (by decide) rfl (fun ls hl => ?_)
            refine lv_lload hx hb dX4_lays_72 (lv_at hl 0 rfl) ?_
            refine lv_lconst (v := 0) hx hb dX4_lays_74 (by decide) ?_
            refine W.lcmp hx hb dX4_lays_75 ?_
            refine lc_lt (tgt := 104) hx hb dX4_lays_76 (by decide) (fun c_6 => ?_) (fun c_6 => ?_)
            · skip
              refine lv_iinc (v := nI (k9 + 1)) (lv' := [(5, .int (nI (k9 + 1))), (6, .long ((u.2 j9) k9)), (0, .ref (gad G 0)), (1, .int (nI j9)), (2, .ref (gH G j9)), (3, .int a9), (4, .int (nI (min z9 (nP M))))]) hx hb dX4_lays_104 hl (k := 6) rfl (inc1 _) (by decide) rfl (fun ls hl => ?_)
              refine lv_goto (tgt := 56) hx hb dX4_lays_107 (by decide) ?_
              exact ih56 (k9 + 1) N a9 (by omega) (by rw [laN, if_pos c_6]; exact hN) (by omega) _ _ _ hP hS (lv_sub hl [2, 3, 4, 5, 6, 0] rfl)
            · skip
              refine lv_lload hx hb dX4_lays_79 (lv_at hl 0 rfl) ?_
              refine lv_ldc2 (v := 999) hx hb hown (hts (.constantLong RX4 229 (999)) (by decide +kernel)) dX4_lays_81 ?_
              refine W.lcmp hx hb dX4_lays_84 ?_
              refine lc_gt (tgt := 104) hx hb dX4_lays_85 (by decide) (fun c_7 => ?_) (fun c_7 => ?_)
              · skip
                refine lv_iinc (v := nI (k9 + 1)) (lv' := [(5, .int (nI (k9 + 1))), (6, .long ((u.2 j9) k9)), (0, .ref (gad G 0)), (1, .int (nI j9)), (2, .ref (gH G j9)), (3, .int a9), (4, .int (nI (min z9 (nP M))))]) hx hb dX4_lays_104 hl (k := 6) rfl (inc1 _) (by decide) rfl (fun ls hl => ?_)
                refine lv_goto (tgt := 56) hx hb dX4_lays_107 (by decide) ?_
                exact ih56 (k9 + 1) N a9 (by omega) (by rw [laN, if_neg c_6, if_pos c_7]; exact hN) (by omega) _ _ _ hP hS (lv_sub hl [2, 3, 4, 5, 6, 0] rfl)
              · skip
                refine lv_aload_n hx hb dX4_lays_88 rfl (lv_at hl 1 rfl) ?_
                refine do_get hx hb hts hin4 hown hE hP ((sI_ne _ _ (by decide)).trans rfl) 0 (by decide) (hts (.fieldLink RX4 10 "HeldDoor" "scene" "LHeldDoor$Scene;") (by decide +kernel)) (v := .ref (gS G 0)) rfl dX4_lays_89 ?_
                refine sc_get hx hb hts hin1 hown hE hP (by decide) (sI_at _ _ _) 8 (by decide) (hts (.fieldLink RX4 116 "HeldDoor$Scene" "feet" "[I") (by decide +kernel)) (v := .ref (gSA G 0 3)) rfl dX4_lays_92 ?_
                refine lv_iload hx hb dX4_lays_95 (lv_at hl 6 rfl) ?_
                refine lv_lload hx hb dX4_lays_97 (lv_at hl 0 rfl) ?_
                refine lv_l2i hx hb dX4_lays_99 rfl ?_
                refine sc_ast hx hb hE hP hS (by decide) (sI_at _ _ _) 3 (by decide) k9 (by omega) (sI_sI _ _ _ _) dX4_lays_100 (fun H locs hP hS => ?_)
                refine lv_iinc (v := a9 + (1)) (lv' := [(3, .int (a9 + (1))), (6, .long ((u.2 j9) k9)), (0, .ref (gad G 0)), (1, .int (nI j9)), (2, .ref (gH G j9)), (4, .int (nI (min z9 (nP M)))), (5, .int (nI k9))]) hx hb dX4_lays_101 hl (k := 4) rfl rfl (by decide) rfl (fun ls hl => ?_)
                refine lv_iinc (v := nI (k9 + 1)) (lv' := [(5, .int (nI (k9 + 1))), (3, .int (a9 + (1))), (6, .long ((u.2 j9) k9)), (0, .ref (gad G 0)), (1, .int (nI j9)), (2, .ref (gH G j9)), (4, .int (nI (min z9 (nP M))))]) hx hb dX4_lays_104 hl (k := 6) rfl (inc1 _) (by decide) rfl (fun ls hl => ?_)
                refine lv_goto (tgt := 56) hx hb dX4_lays_107 (by decide) ?_
                exact ih56 (k9 + 1) (upd N (5 + 6 * k9 + 3) (((u.2 j9) k9).toInt32)) (a9 + (1)) (by omega) (by rw [laN, if_neg c_6, if_neg c_7, ← hN]) (by omega) _ _ _ hP hS (lv_sub hl [3, 4, 5, 1, 6, 0] rfl)
      exact J56 _ 0 M 0 (Nat.zero_le _) rfl (Nat.lt_succ_self _) _ _ _ (hP.cast ((sI_id h0).symm)) hS (lv_sub hl [4, 5, 3, 2, 1, 0] rfl)
    · skip
      refine lv_aload_n hx hb dX4_lays_28 rfl (lv_at hl 1 rfl) ?_
      refine lv_ldc (v := (-1000000006)) hx hb hown (hts (.constant RX4 203 ((-1000000006))) (by decide +kernel)) dX4_lays_29 ?_
      refine hd_callVi (As := [.int (-1000000006)]) (rest := []) ⟨hx, hb, hml, hown, hts⟩ hE hP hS (c_X4_found_5 l G u F h6) rfl (cwV 1 hts gX4_lays_X4_found rfl rfl rfl (by decide +kernel) ⟨Nat.le_of_ble_eq_true rfl, Nat.le_of_ble_eq_true rfl⟩) (do_recv hE hP) rfl hl.1 rfl (Nat.le_of_ble_eq_true rfl) dX4_lays_31 (fun rq_8 vq_8 H locs q_8 hP hS => ?_)
      have hP := hP.cast (q_8.2)
      refine lv_cast q_8.1 ?_
      exact hd_iret hx hb hr hlocks hP hS (PS.bad (-1000000006) (by simp [f_there, shB, c_2, c_4, nI_clamp (show j9 < 2 ^ 31 by omega)]) (by decide) rfl rfl) dX4_lays_34
  · skip
    refine lv_aload_n hx hb dX4_lays_7 rfl (lv_at hl 0 rfl) ?_
    refine lv_ldc (v := (-1000000001)) hx hb hown (hts (.constant RX4 55 ((-1000000001))) (by decide +kernel)) dX4_lays_8 ?_
    refine hd_callVi (As := [.int (-1000000001)]) (rest := []) ⟨hx, hb, hml, hown, hts⟩ hE hP hS (c_X4_found_0 l G u F h6) rfl (cwV 1 hts gX4_lays_X4_found rfl rfl rfl (by decide +kernel) ⟨Nat.le_of_ble_eq_true rfl, Nat.le_of_ble_eq_true rfl⟩) (do_recv hE hP) rfl hl.1 rfl (Nat.le_of_ble_eq_true rfl) dX4_lays_10 (fun rq_9 vq_9 H locs q_9 hP hS => ?_)
    have hP := hP.cast (q_9.2)
    refine lv_cast q_9.1 ?_
    exact hd_iret hx hb hr hlocks hP hS (PS.bad (-1000000001) (by simp [f_there, shB, c_2]) (by decide) rfl rfl) dX4_lays_13
set_option maxHeartbeats 4000000 in
set_option maxRecDepth 100000 in
theorem c_X4_faultOfBook (l : Launch) (G : Geo) (u : Sg) (M : Nat → Int32) (h0 : u.1 0 = M) (s p : Int32) : CtI l G yX4_faultOfBook wsX4_faultOfBook (rmO 2 43) [.ref (gad G 0), .int s, .int p] u (fun r v => r = f_book s p (shB u) M ∧ v = u) := by
  refine CtI.of (cc := cX4_faultOfBook) (maxL := 3) (ret := (some .int)) (own := RX4) (by decide) rfl rfl ?_
  rintro pg ev s0 mm below meth cd ⟨hx, hb, hr, hml, hown, hts, hlocks⟩ hE hP ls hl
  have hS : va_S (gA G) s0.heap s0.heap [] := va_S.rf
  have hl : lv_has ls 3 [(0, .ref (gad G 0)), (1, .int s), (2, .int p)] := hl
  have hin4 : ∀ w ∈ wsX40, w ∈ wsX4_faultOfBook := by decide +kernel
  refine lv_iload_n hx hb dX4_faultOfBook_0 rfl (lv_at hl 1 rfl) ?_
  refine hd_callSi (As := [.int s]) (rest := []) ⟨hx, hb, hml, hown, hts⟩ hE hP hS (c_X4_isSheet l G u s) rfl (va_cwS 1 hts gX4_faultOfBook_X4_isSheet rfl rfl rfl (by decide +kernel) ⟨Nat.le_of_ble_eq_true rfl, Nat.le_of_ble_eq_true rfl⟩) rfl hl.1 rfl (Nat.le_of_ble_eq_true rfl) dX4_faultOfBook_1 (fun rq_1 vq_1 H locs q_1 hP hS => ?_)
  have hP := hP.cast (q_1.2)
  refine lv_cast q_1.1 ?_
  refine bo_ne (tgt := 10) hx hb dX4_faultOfBook_4 (by decide) (fun c_2 => ?_) (fun c_2 => ?_)
  · skip
    obtain ⟨j9, hj9a, hj9b, rfl⟩ := inI_nat c_2 rfl rfl (na := 0) (nb := 3) (by decide) (by decide)
    refine lv_aload_n hx hb dX4_faultOfBook_10 rfl (lv_at hl 0 rfl) ?_
    refine do_get hx hb hts hin4 hown hE hP rfl 5 (by decide) (hts (.fieldLink RX4 35 "HeldDoor" "sheets" "[LHeldDoor$Sheet;") (by decide +kernel)) (v := .ref (gad G 24)) rfl dX4_faultOfBook_11 ?_
    refine lv_iload_n hx hb dX4_faultOfBook_14 rfl (lv_at hl 1 rfl) ?_
    refine ss_ld hx hb hE hP j9 (by omega) dX4_faultOfBook_15 ?_
    refine hd_callVi (As := []) (rest := []) ⟨hx, hb, hml, hown, hts⟩ hE hP hS (c_X2_isMissing l G u j9 (by omega) (u.1 (7 + j9)) rfl) rfl (cwV 0 hts gX4_faultOfBook_X2_isMissing rfl rfl rfl (by decide +kernel) ⟨Nat.le_of_ble_eq_true rfl, Nat.le_of_ble_eq_true rfl⟩) (sh_recv hE hP (by omega)) rfl hl.1 rfl (Nat.le_of_ble_eq_true rfl) dX4_faultOfBook_16 (fun rq_3 vq_3 H locs q_3 hP hS => ?_)
    have hP := hP.cast (q_3.2)
    refine lv_cast q_3.1 ?_
    refine bo_eq (tgt := 25) hx hb dX4_faultOfBook_19 (by decide) (fun c_4 => ?_) (fun c_4 => ?_)
    · skip
      refine lv_aload_n hx hb dX4_faultOfBook_25 rfl (lv_at hl 0 rfl) ?_
      refine lv_iload_n hx hb dX4_faultOfBook_26 rfl (lv_at hl 2 rfl) ?_
      refine hd_callVi (As := [.int p]) (rest := []) ⟨hx, hb, hml, hown, hts⟩ hE hP hS (c_X4_isPerson l G u M h0 p) rfl (cwV 1 hts gX4_faultOfBook_X4_isPerson rfl rfl rfl (by decide +kernel) ⟨Nat.le_of_ble_eq_true rfl, Nat.le_of_ble_eq_true rfl⟩) (do_recv hE hP) rfl hl.1 rfl (Nat.le_of_ble_eq_true rfl) dX4_faultOfBook_27 (fun rq_5 vq_5 H locs q_5 hP hS => ?_)
      have hP := hP.cast (q_5.2)
      refine lv_cast q_5.1 ?_
      refine bo_eq (tgt := 37) hx hb dX4_faultOfBook_30 (by decide) (fun c_6 => ?_) (fun c_6 => ?_)
      · skip
        refine lv_ldc (v := (-1000000001)) hx hb hown (hts (.constant RX4 55 ((-1000000001))) (by decide +kernel)) dX4_faultOfBook_37 ?_
        exact hd_iret hx hb hr hlocks hP hS ⟨(by simp [f_book, shB, c_2, c_4, c_6, nI_clamp (show j9 < 2 ^ 31 by omega)]), rfl⟩ dX4_faultOfBook_39
      · skip
        refine lv_iconst (v := 0) hx hb dX4_faultOfBook_33 (by decide) ?_
        refine lv_goto (tgt := 39) hx hb dX4_faultOfBook_34 (by decide) ?_
        exact hd_iret hx hb hr hlocks hP hS ⟨(by simp [f_book, shB, c_2, c_4, c_6, nI_clamp (show j9 < 2 ^ 31 by omega)]), rfl⟩ dX4_faultOfBook_39
    · skip
      refine lv_ldc (v := (-1000000006)) hx hb hown (hts (.constant RX4 203 ((-1000000006))) (by decide +kernel)) dX4_faultOfBook_22 ?_
      exact hd_iret hx hb hr hlocks hP hS ⟨(by simp [f_book, shB, c_2, c_4, nI_clamp (show j9 < 2 ^ 31 by omega)]), rfl⟩ dX4_faultOfBook_24
  · skip
    refine lv_ldc (v := (-1000000001)) hx hb hown (hts (.constant RX4 55 ((-1000000001))) (by decide +kernel)) dX4_faultOfBook_7 ?_
    exact hd_iret hx hb hr hlocks hP hS ⟨(by simp [f_book, shB, c_2]), rfl⟩ dX4_faultOfBook_9
set_option maxHeartbeats 4000000 in
set_option maxRecDepth 100000 in
theorem c_X4_book_b (l : Launch) (G : Geo) (u : Sg) (M F : Nat → Int32) (h0 : u.1 0 = M) (h6 : u.1 6 = F) (hM : Wf M) (hsz : ∀ j : Nat, j < 4 → ∃ z : Nat, z ≤ 40 ∧ u.1 (7 + j) 1 = nI z) (T : Nat → Int32) (h1 : u.1 1 = T) (tT : ∀ k : Nat, 53 ≤ k → T k = 0) (s p : Int32) (hflt : f_book s p (shB u) M = -1000000001) : CtI l G yX4_book wsX4_book (rmO 5 111) [.ref (gad G 0), .int s, .int p] u (PS u 6 F (f_book s p (shB u) M) (fun r v => r = u.1 (7 + s.toNatClampNeg) 1 ∧ ∃ T2, Wf T2 ∧ ∀ z : Nat, u.1 (7 + s.toNatClampNeg) 1 = nI z ∧ z < 2147483648 → v = sL (sI u 1 T2) s.toNatClampNeg (bkN (u.2 s.toNatClampNeg) M p.toNatClampNeg (u.1 (7 + s.toNatClampNeg) 0) z))) := by
  refine CtI.of (cc := cX4_book) (maxL := 7) (ret := (some .int)) (own := RX4) (by decide) rfl rfl ?_
  rintro pg ev s0 mm below meth cd ⟨hx, hb, hr, hml, hown, hts, hlocks⟩ hE hP ls hl
  have hS : va_S (gA G) s0.heap s0.heap [] := va_S.rf
  have hl : lv_has ls 7 [(0, .ref (gad G 0)), (1, .int s), (2, .int p)] := hl
  refine lv_aload_n hx hb dX4_book_0 rfl (lv_at hl 0 rfl) ?_
  refine lv_iload_n hx hb dX4_book_1 rfl (lv_at hl 1 rfl) ?_
  refine lv_iload_n hx hb dX4_book_2 rfl (lv_at hl 2 rfl) ?_
  refine hd_callVi (As := [.int s, .int p]) (rest := []) ⟨hx, hb, hml, hown, hts⟩ hE hP hS (c_X4_faultOfBook l G u M h0 s p) rfl (cwV 2 hts gX4_book_X4_faultOfBook rfl rfl rfl (by decide +kernel) ⟨Nat.le_of_ble_eq_true rfl, Nat.le_of_ble_eq_true rfl⟩) (do_recv hE hP) rfl hl.1 rfl (Nat.le_of_ble_eq_true rfl) dX4_book_3 (fun rq_1 vq_1 H locs q_1 hP hS => ?_)
  have hP := hP.cast (q_1.2)
  refine lv_cast q_1.1 ?_
  refine lv_cast hflt ?_
  refine lv_istore_n (lv' := [(3, .int (-1000000001)), (0, .ref (gad G 0)), (1, .int s), (2, .int p)]) hx hb dX4_book_6 rfl hl (by decide) rfl (fun ls hl => ?_)
  refine lv_iload_n hx hb dX4_book_7 rfl (lv_at hl 0 rfl) ?_
  refine lv_if_eq (tgt := 17) hx hb dX4_book_8 (by decide) (fun h => False.elim (by revert h; decide)) (fun _ => ?_)
  refine lv_aload_n hx hb dX4_book_11 rfl (lv_at hl 1 rfl) ?_
  refine lv_iload_n hx hb dX4_book_12 rfl (lv_at hl 0 rfl) ?_
  refine hd_callVi (As := [.int (-1000000001)]) (rest := []) ⟨hx, hb, hml, hown, hts⟩ hE hP hS (c_X4_found_0 l G u F h6) rfl (cwV 1 hts gX4_book_X4_found rfl rfl rfl (by decide +kernel) ⟨Nat.le_of_ble_eq_true rfl, Nat.le_of_ble_eq_true rfl⟩) (do_recv hE hP) rfl hl.1 rfl (Nat.le_of_ble_eq_true rfl) dX4_book_13 (fun rq_2 vq_2 H locs q_2 hP hS => ?_)
  have hP := hP.cast (q_2.2)
  refine lv_cast q_2.1 ?_
  exact hd_iret hx hb hr hlocks hP hS (PS.bad (-1000000001) hflt (by decide) rfl rfl) dX4_book_16
set_option maxHeartbeats 4000000 in
set_option maxRecDepth 100000 in
theorem c_X4_book_m (l : Launch) (G : Geo) (u : Sg) (M F : Nat → Int32) (h0 : u.1 0 = M) (h6 : u.1 6 = F) (hM : Wf M) (hsz : ∀ j : Nat, j < 4 → ∃ z : Nat, z ≤ 40 ∧ u.1 (7 + j) 1 = nI z) (T : Nat → Int32) (h1 : u.1 1 = T) (tT : ∀ k : Nat, 53 ≤ k → T k = 0) (s p : Int32) (hflt : f_book s p (shB u) M = -1000000006) : CtI l G yX4_book wsX4_book (rmO 5 111) [.ref (gad G 0), .int s, .int p] u (PS u 6 F (f_book s p (shB u) M) (fun r v => r = u.1 (7 + s.toNatClampNeg) 1 ∧ ∃ T2, Wf T2 ∧ ∀ z : Nat, u.1 (7 + s.toNatClampNeg) 1 = nI z ∧ z < 2147483648 → v = sL (sI u 1 T2) s.toNatClampNeg (bkN (u.2 s.toNatClampNeg) M p.toNatClampNeg (u.1 (7 + s.toNatClampNeg) 0) z))) := by
  refine CtI.of (cc := cX4_book) (maxL := 7) (ret := (some .int)) (own := RX4) (by decide) rfl rfl ?_
  rintro pg ev s0 mm below meth cd ⟨hx, hb, hr, hml, hown, hts, hlocks⟩ hE hP ls hl
  have hS : va_S (gA G) s0.heap s0.heap [] := va_S.rf
  have hl : lv_has ls 7 [(0, .ref (gad G 0)), (1, .int s), (2, .int p)] := hl
  refine lv_aload_n hx hb dX4_book_0 rfl (lv_at hl 0 rfl) ?_
  refine lv_iload_n hx hb dX4_book_1 rfl (lv_at hl 1 rfl) ?_
  refine lv_iload_n hx hb dX4_book_2 rfl (lv_at hl 2 rfl) ?_
  refine hd_callVi (As := [.int s, .int p]) (rest := []) ⟨hx, hb, hml, hown, hts⟩ hE hP hS (c_X4_faultOfBook l G u M h0 s p) rfl (cwV 2 hts gX4_book_X4_faultOfBook rfl rfl rfl (by decide +kernel) ⟨Nat.le_of_ble_eq_true rfl, Nat.le_of_ble_eq_true rfl⟩) (do_recv hE hP) rfl hl.1 rfl (Nat.le_of_ble_eq_true rfl) dX4_book_3 (fun rq_1 vq_1 H locs q_1 hP hS => ?_)
  have hP := hP.cast (q_1.2)
  refine lv_cast q_1.1 ?_
  refine lv_cast hflt ?_
  refine lv_istore_n (lv' := [(3, .int (-1000000006)), (0, .ref (gad G 0)), (1, .int s), (2, .int p)]) hx hb dX4_book_6 rfl hl (by decide) rfl (fun ls hl => ?_)
  refine lv_iload_n hx hb dX4_book_7 rfl (lv_at hl 0 rfl) ?_
  refine lv_if_eq (tgt := 17) hx hb dX4_book_8 (by decide) (fun h => False.elim (by revert h; decide)) (fun _ => ?_)
  refine lv_aload_n hx hb dX4_book_11 rfl (lv_at hl 1 rfl) ?_
  refine lv_iload_n hx hb dX4_book_12 rfl (lv_at hl 0 rfl) ?_
  refine hd_callVi (As := [.int (-1000000006)]) (rest := []) ⟨hx, hb, hml, hown, hts⟩ hE hP hS (c_X4_found_5 l G u F h6) rfl (cwV 1 hts gX4_book_X4_found rfl rfl rfl (by decide +kernel) ⟨Nat.le_of_ble_eq_true rfl, Nat.le_of_ble_eq_true rfl⟩) (do_recv hE hP) rfl hl.1 rfl (Nat.le_of_ble_eq_true rfl) dX4_book_13 (fun rq_2 vq_2 H locs q_2 hP hS => ?_)
  have hP := hP.cast (q_2.2)
  refine lv_cast q_2.1 ?_
  exact hd_iret hx hb hr hlocks hP hS (PS.bad (-1000000006) hflt (by decide) rfl rfl) dX4_book_16
set_option maxHeartbeats 4000000 in
set_option maxRecDepth 100000 in
theorem c_X4_book_0 (l : Launch) (G : Geo) (u : Sg) (M F : Nat → Int32) (h0 : u.1 0 = M) (h6 : u.1 6 = F) (hM : Wf M) (hsz : ∀ j : Nat, j < 4 → ∃ z : Nat, z ≤ 40 ∧ u.1 (7 + j) 1 = nI z) (T : Nat → Int32) (h1 : u.1 1 = T) (tT : ∀ k : Nat, 53 ≤ k → T k = 0) (j9 q z9 : Nat) (hj : j9 < 4) (hz9 : z9 ≤ 40) (hz8 : u.1 (7 + j9) 1 = nI z9) (hq : q < nP M) (hflt : f_book (nI j9) (nI q) (shB u) M = 0) : CtI l G yX4_book wsX4_book (rmO 5 111) [.ref (gad G 0), .int (nI j9), .int (nI q)] u (PS u 6 F (f_book (nI j9) (nI q) (shB u) M) (fun r v => r = u.1 (7 + (nI j9).toNatClampNeg) 1 ∧ ∃ T2, Wf T2 ∧ ∀ z : Nat, u.1 (7 + (nI j9).toNatClampNeg) 1 = nI z ∧ z < 2147483648 → v = sL (sI u 1 T2) (nI j9).toNatClampNeg (bkN (u.2 (nI j9).toNatClampNeg) M (nI q).toNatClampNeg (u.1 (7 + (nI j9).toNatClampNeg) 0) z))) := by
  refine CtI.of (cc := cX4_book) (maxL := 7) (ret := (some .int)) (own := RX4) (by decide) rfl rfl ?_
  rintro pg ev s0 mm below meth cd ⟨hx, hb, hr, hml, hown, hts, hlocks⟩ hE hP ls hl
  have hS : va_S (gA G) s0.heap s0.heap [] := va_S.rf
  have hl : lv_has ls 7 [(0, .ref (gad G 0)), (1, .int (nI j9)), (2, .int (nI q))] := hl
  have hin1 : ∀ w ∈ wsX10, w ∈ wsX4_book := by decide +kernel
  have hin2 : ∀ w ∈ wsX20, w ∈ wsX4_book := by decide +kernel
  have hin4 : ∀ w ∈ wsX40, w ∈ wsX4_book := by decide +kernel
  have hn := hM.n
  have h8 := hM.n8
  refine lv_aload_n hx hb dX4_book_0 rfl (lv_at hl 0 rfl) ?_
  refine lv_iload_n hx hb dX4_book_1 rfl (lv_at hl 1 rfl) ?_
  refine lv_iload_n hx hb dX4_book_2 rfl (lv_at hl 2 rfl) ?_
  refine hd_callVi (As := [.int (nI j9), .int (nI q)]) (rest := []) ⟨hx, hb, hml, hown, hts⟩ hE hP hS (c_X4_faultOfBook l G u M h0 (nI j9) (nI q)) rfl (cwV 2 hts gX4_book_X4_faultOfBook rfl rfl rfl (by decide +kernel) ⟨Nat.le_of_ble_eq_true rfl, Nat.le_of_ble_eq_true rfl⟩) (do_recv hE hP) rfl hl.1 rfl (Nat.le_of_ble_eq_true rfl) dX4_book_3 (fun rq_1 vq_1 H locs q_1 hP hS => ?_)
  have hP := hP.cast (q_1.2)
  refine lv_cast q_1.1 ?_
  refine lv_cast hflt ?_
  refine lv_istore_n (lv' := [(3, .int 0), (0, .ref (gad G 0)), (1, .int (nI j9)), (2, .int (nI q))]) hx hb dX4_book_6 rfl hl (by decide) rfl (fun ls hl => ?_)
  refine lv_iload_n hx hb dX4_book_7 rfl (lv_at hl 0 rfl) ?_
  refine lv_if_eq (tgt := 17) hx hb dX4_book_8 (by decide) (fun _ => ?_) (fun h => False.elim (by revert h; decide))
  refine lv_aload_n hx hb dX4_book_17 rfl (lv_at hl 1 rfl) ?_
  refine do_get hx hb hts hin4 hown hE hP rfl 5 (by decide) (hts (.fieldLink RX4 35 "HeldDoor" "sheets" "[LHeldDoor$Sheet;") (by decide +kernel)) (v := .ref (gad G 24)) rfl dX4_book_18 ?_
  refine lv_iload_n hx hb dX4_book_21 rfl (lv_at hl 2 rfl) ?_
  refine ss_ld hx hb hE hP j9 (by omega) dX4_book_22 ?_
  refine lv_astore (lv' := [(4, .ref (gH G j9)), (3, .int 0), (0, .ref (gad G 0)), (1, .int (nI j9)), (2, .int (nI q))]) hx hb dX4_book_23 hl (by decide) rfl (fun ls hl => ?_)
  refine lv_aload_n hx hb dX4_book_25 rfl (lv_at hl 2 rfl) ?_
  refine hd_callVr (As := []) (rest := []) ⟨hx, hb, hml, hown, hts⟩ hE hP hS (c_X4_freshTrial l G u M T h0 h1 (hM).1 tT) rfl (cwV 0 hts gX4_book_X4_freshTrial rfl rfl rfl (by decide +kernel) ⟨Nat.le_of_ble_eq_true rfl, Nat.le_of_ble_eq_true rfl⟩) (do_recv hE hP) rfl hl.1 rfl (Nat.le_of_ble_eq_true rfl) dX4_book_26 (fun H locs hP hS => ?_)
  refine lv_astore (lv' := [(5, .ref (gS G 1)), (4, .ref (gH G j9)), (3, .int 0), (0, .ref (gad G 0)), (1, .int (nI j9)), (2, .int (nI q))]) hx hb dX4_book_29 hl (by decide) rfl (fun ls hl => ?_)
  refine lv_iconst (v := 0) hx hb dX4_book_31 (by decide) ?_
  refine lv_istore (lv' := [(6, .int 0), (5, .ref (gS G 1)), (4, .ref (gH G j9)), (3, .int 0), (0, .ref (gad G 0)), (1, .int (nI j9)), (2, .int (nI q))]) hx hb dX4_book_32 hl (by decide) rfl (fun ls hl => ?_)
  have J34 : ∀ (fu : Nat) (k9 : Nat) (N : Nat → Int32) (E : Nat → Int64) (hk : k9 ≤ z9) (hN : N = secN M k9) (hG : E = bkN (u.2 j9) M q (u.1 (7 + j9) 0) k9) (hrk : z9 - k9 < fu) (H : Heap) (locs : List Loc) (ls : Array Slot), WP G (sL (sI u 1 N) j9 E) H → va_S (gA G) s0.heap H locs → lv_has ls 7 [(0, .ref (gad G 0)), (1, .int (nI j9)), (2, .int (nI q)), (4, .ref (gH G j9)), (5, .ref (gS G 1)), (6, .int (nI k9))] → W pg l ev (headSpec wsX4_book (rmO 5 111)).room s0 mm ([.ref (gad G 0), .int (nI j9), .int (nI q)] : List Value).toArray below meth cd H locs 0 0 (MQ below (va_Qi (PS u 6 F (f_book (nI j9) (nI q) (shB u) M) (fun r v => r = u.1 (7 + (nI j9).toNatClampNeg) 1 ∧ ∃ T2, Wf T2 ∧ ∀ z : Nat, u.1 (7 + (nI j9).toNatClampNeg) 1 = nI z ∧ z < 2147483648 → v = sL (sI u 1 T2) (nI j9).toNatClampNeg (bkN (u.2 (nI j9).toNatClampNeg) M (nI q).toNatClampNeg (u.1 (7 + (nI j9).toNatClampNeg) 0) z))) (fun v t => WP G v t.heap) (gA G)) ([.ref (gad G 0), .int (nI j9), .int (nI q)] : List Value).toArray s0 0 0 (gA G)) (F0 mm 34 ls []) := by
    intro fu
    induction fu with
    | zero => intro k9 N E hk hN hG hrk; exact absurd hrk (Nat.not_lt_zero _)
    | succ fu ih34 =>
      intro k9 N E hk hN hG hrk H locs ls hP hS hl
      have hWn : Wf N := by rw [hN]; exact Wf_secN hM k9
      refine lv_iload hx hb dX4_book_34 (lv_at hl 5 rfl) ?_
      refine lv_aload hx hb dX4_book_36 (lv_at hl 3 rfl) ?_
      refine sh_get hx hb hts hin2 hown hE hP (by omega) (sL_1r ((sI_ne _ _ (by omega)).trans rfl)) 1 (by decide) (hts (.fieldLink RX4 197 "HeldDoor$Sheet" "size" "I") (by decide +kernel)) (v := .int ((u.1 (7 + j9)) 1)) rfl dX4_book_38 ?_
      refine lv_cast hz8 ?_
      refine nn_ge (a := k9) (b := z9) (by omega) (by omega) (tgt := 70) hx hb dX4_book_41 (by decide) (fun c_3 => ?_) (fun c_3 => ?_)
      · skip
        refine lv_aload hx hb dX4_book_70 (lv_at hl 3 rfl) ?_
        refine sh_get hx hb hts hin2 hown hE hP (by omega) (sL_1r ((sI_ne _ _ (by omega)).trans rfl)) 1 (by decide) (hts (.fieldLink RX4 197 "HeldDoor$Sheet" "size" "I") (by decide +kernel)) (v := .int ((u.1 (7 + j9)) 1)) rfl dX4_book_72 ?_
        refine lv_cast hz8 ?_
        exact hd_iret hx hb hr hlocks hP hS (PS.ok hflt (by rw [nI_clamp (show j9 < 2 ^ 31 by omega), nI_clamp (show q < 2 ^ 31 by omega)]; refine ⟨hz8.symm, N, hWn, fun z hz => ?_⟩; rw [hz8] at hz; rw [← (nI_eq (show z9 < 2147483648 by omega) hz.2).mp hz.1, show z9 = k9 by omega, ← hG])) dX4_book_75
      · skip
        refine lv_aload hx hb dX4_book_44 (lv_at hl 3 rfl) ?_
        refine lv_iload hx hb dX4_book_46 (lv_at hl 5 rfl) ?_
        refine lv_aload hx hb dX4_book_48 (lv_at hl 4 rfl) ?_
        refine sc_get hx hb hts hin1 hown hE hP (by decide) (sL_1r (sI_at _ _ _)) 8 (by decide) (hts (.fieldLink RX4 116 "HeldDoor$Scene" "feet" "[I") (by decide +kernel)) (v := .ref (gSA G 1 3)) rfl dX4_book_50 ?_
        refine lv_iload_n hx hb dX4_book_53 rfl (lv_at hl 2 rfl) ?_
        refine sc_ald hx hb hE hP (by decide) (sL_1r (sI_at _ _ _)) 3 (by decide) q (by omega) dX4_book_54 ?_
        refine lv_i2l hx hb dX4_book_55 rfl ?_
        refine hd_callVv (As := [.int (nI k9), .long ((N (5 + 6 * q + 3)).toInt64)]) (rest := []) ⟨hx, hb, hml, hown, hts⟩ hE hP hS (c_X2_put l G (sL (sI u 1 N) j9 E) j9 (by omega) (u.1 (7 + j9)) (sL_1r ((sI_ne _ _ (by omega)).trans rfl)) E (sL_at _ _ _) k9 (by omega) ((N (5 + 6 * q + 3)).toInt64)) rfl (cwV 2 hts gX4_book_X2_put rfl rfl rfl (by decide +kernel) ⟨Nat.le_of_ble_eq_true rfl, Nat.le_of_ble_eq_true rfl⟩) (sh_recv hE hP (by omega)) rfl hl.1 rfl (Nat.le_of_ble_eq_true rfl) dX4_book_56 (fun vq_4 H locs q_4 hP hS => ?_)
        have hP := hP.cast (q_4.trans (sL_sL _ _ _ _))
        refine lv_aload hx hb dX4_book_59 (lv_at hl 4 rfl) ?_
        refine hd_callVv (As := []) (rest := []) ⟨hx, hb, hml, hown, hts⟩ hE hP hS (c_X1_goOneSecond l G (sL (sI u 1 N) j9 (vp_updL E k9 (cutL ((u.1 (7 + j9)) 0) ((N (5 + 6 * q + 3)).toInt64)))) 1 (by decide) N hWn) ((sI_id (sL_1r (sI_at _ _ _))).symm) (cwV 0 hts gX4_book_X1_goOneSecond rfl rfl rfl (by decide +kernel) ⟨Nat.le_of_ble_eq_true rfl, Nat.le_of_ble_eq_true rfl⟩) (sc_recv hE hP (by decide)) rfl hl.1 rfl (Nat.le_of_ble_eq_true rfl) dX4_book_61 (fun vq_5 H locs q_5 hP hS => ?_)
        have hP := hP.cast (q_5)
        refine lv_iinc (v := nI (k9 + 1)) (lv' := [(6, .int (nI (k9 + 1))), (0, .ref (gad G 0)), (1, .int (nI j9)), (2, .int (nI q)), (4, .ref (gH G j9)), (5, .ref (gS G 1))]) hx hb dX4_book_64 hl (k := 5) rfl (inc1 _) (by decide) rfl (fun ls hl => ?_)
        refine lv_goto (tgt := 34) hx hb dX4_book_67 (by decide) ?_
        exact ih34 (k9 + 1) (sec1 N) (vp_updL E k9 (cutL ((u.1 (7 + j9)) 0) ((N (5 + 6 * q + 3)).toInt64))) (by omega) (by rw [secN, ← hN]) (by rw [bkN, ← hG, ← hN]) (by omega) _ _ _ hP hS (lv_sub hl [1, 2, 3, 4, 5, 0] rfl)
  exact J34 _ 0 M (u.2 j9) (Nat.zero_le _) rfl rfl (Nat.lt_succ_self _) _ _ _ (hP.cast (show sI u 1 M = sL (sI u 1 M) j9 (u.2 j9) from (sL_self (sI u 1 M) j9).symm)) hS (lv_sub hl [4, 5, 6, 2, 1, 0] rfl)
theorem c_X4_book (l : Launch) (G : Geo) (u : Sg) (M F : Nat → Int32) (h0 : u.1 0 = M) (h6 : u.1 6 = F) (hM : Wf M) (hsz : ∀ j : Nat, j < 4 → ∃ z : Nat, z ≤ 40 ∧ u.1 (7 + j) 1 = nI z) (T : Nat → Int32) (h1 : u.1 1 = T) (tT : ∀ k : Nat, 53 ≤ k → T k = 0) (s p : Int32) : CtI l G yX4_book wsX4_book (rmO 5 111) [.ref (gad G 0), .int s, .int p] u (PS u 6 F (f_book s p (shB u) M) (fun r v => r = u.1 (7 + s.toNatClampNeg) 1 ∧ ∃ T2, Wf T2 ∧ ∀ z : Nat, u.1 (7 + s.toNatClampNeg) 1 = nI z ∧ z < 2147483648 → v = sL (sI u 1 T2) s.toNatClampNeg (bkN (u.2 s.toNatClampNeg) M p.toNatClampNeg (u.1 (7 + s.toNatClampNeg) 0) z))) := by
  rcases f_book_v s p (shB u) M with hf | hf | hf
  · obtain ⟨e1, e2, e3⟩ := f_book_ok hf
    obtain ⟨j9, -, hj9, rfl⟩ := inI_nat e1 rfl rfl (na := 0) (nb := 3) (by decide) (by decide)
    obtain ⟨q, hq, rfl⟩ := pe_get hM e3
    obtain ⟨z9, hz9, hz8⟩ := hsz j9 (by omega)
    exact c_X4_book_0 l G u M F h0 h6 hM hsz T h1 tT j9 q z9 (by omega) hz9 hz8 hq hf
  · exact c_X4_book_b l G u M F h0 h6 hM hsz T h1 tT s p hf
  · exact c_X4_book_m l G u M F h0 h6 hM hsz T h1 tT s p hf
set_option maxHeartbeats 4000000 in
set_option maxRecDepth 100000 in
theorem c_X4_read_b (l : Launch) (G : Geo) (u : Sg) (M F : Nat → Int32) (h0 : u.1 0 = M) (h6 : u.1 6 = F) (hM : Wf M) (hsz : ∀ j : Nat, j < 4 → ∃ z : Nat, z ≤ 40 ∧ u.1 (7 + j) 1 = nI z) (T : Nat → Int32) (h1 : u.1 1 = T) (tT : ∀ k : Nat, 53 ≤ k → T k = 0) (s p : Int32) (hflt : f_book s p (shB u) M = -1000000001) : CtI l G yX4_read wsX4_read (rmO 6 134) [.ref (gad G 0), .int s, .int p] u (PS u 6 F (f_book s p (shB u) M) (fun r v => ∃ T2, (∀ k : Nat, 53 ≤ k → T2 k = 0) ∧ v = sI u 1 T2 ∧ ∀ z : Nat, u.1 (7 + s.toNatClampNeg) 1 = nI z ∧ z < 2147483648 → r = nI (rdN (u.2 s.toNatClampNeg) M p.toNatClampNeg z 60))) := by
  refine CtI.of (cc := cX4_read) (maxL := 8) (ret := (some .int)) (own := RX4) (by decide) rfl rfl ?_
  rintro pg ev s0 mm below meth cd ⟨hx, hb, hr, hml, hown, hts, hlocks⟩ hE hP ls hl
  have hS : va_S (gA G) s0.heap s0.heap [] := va_S.rf
  have hl : lv_has ls 8 [(0, .ref (gad G 0)), (1, .int s), (2, .int p)] := hl
  refine lv_aload_n hx hb dX4_read_0 rfl (lv_at hl 0 rfl) ?_
  refine lv_iload_n hx hb dX4_read_1 rfl (lv_at hl 1 rfl) ?_
  refine lv_iload_n hx hb dX4_read_2 rfl (lv_at hl 2 rfl) ?_
  refine hd_callVi (As := [.int s, .int p]) (rest := []) ⟨hx, hb, hml, hown, hts⟩ hE hP hS (c_X4_faultOfBook l G u M h0 s p) rfl (cwV 2 hts gX4_read_X4_faultOfBook rfl rfl rfl (by decide +kernel) ⟨Nat.le_of_ble_eq_true rfl, Nat.le_of_ble_eq_true rfl⟩) (do_recv hE hP) rfl hl.1 rfl (Nat.le_of_ble_eq_true rfl) dX4_read_3 (fun rq_1 vq_1 H locs q_1 hP hS => ?_)
  have hP := hP.cast (q_1.2)
  refine lv_cast q_1.1 ?_
  refine lv_cast hflt ?_
  refine lv_istore_n (lv' := [(3, .int (-1000000001)), (0, .ref (gad G 0)), (1, .int s), (2, .int p)]) hx hb dX4_read_6 rfl hl (by decide) rfl (fun ls hl => ?_)
  refine lv_iload_n hx hb dX4_read_7 rfl (lv_at hl 0 rfl) ?_
  refine lv_if_eq (tgt := 17) hx hb dX4_read_8 (by decide) (fun h => False.elim (by revert h; decide)) (fun _ => ?_)
  refine lv_aload_n hx hb dX4_read_11 rfl (lv_at hl 1 rfl) ?_
  refine lv_iload_n hx hb dX4_read_12 rfl (lv_at hl 0 rfl) ?_
  refine hd_callVi (As := [.int (-1000000001)]) (rest := []) ⟨hx, hb, hml, hown, hts⟩ hE hP hS (c_X4_found_0 l G u F h6) rfl (cwV 1 hts gX4_read_X4_found rfl rfl rfl (by decide +kernel) ⟨Nat.le_of_ble_eq_true rfl, Nat.le_of_ble_eq_true rfl⟩) (do_recv hE hP) rfl hl.1 rfl (Nat.le_of_ble_eq_true rfl) dX4_read_13 (fun rq_2 vq_2 H locs q_2 hP hS => ?_)
  have hP := hP.cast (q_2.2)
  refine lv_cast q_2.1 ?_
  exact hd_iret hx hb hr hlocks hP hS (PS.bad (-1000000001) hflt (by decide) rfl rfl) dX4_read_16
set_option maxHeartbeats 4000000 in
set_option maxRecDepth 100000 in
theorem c_X4_read_m (l : Launch) (G : Geo) (u : Sg) (M F : Nat → Int32) (h0 : u.1 0 = M) (h6 : u.1 6 = F) (hM : Wf M) (hsz : ∀ j : Nat, j < 4 → ∃ z : Nat, z ≤ 40 ∧ u.1 (7 + j) 1 = nI z) (T : Nat → Int32) (h1 : u.1 1 = T) (tT : ∀ k : Nat, 53 ≤ k → T k = 0) (s p : Int32) (hflt : f_book s p (shB u) M = -1000000006) : CtI l G yX4_read wsX4_read (rmO 6 134) [.ref (gad G 0), .int s, .int p] u (PS u 6 F (f_book s p (shB u) M) (fun r v => ∃ T2, (∀ k : Nat, 53 ≤ k → T2 k = 0) ∧ v = sI u 1 T2 ∧ ∀ z : Nat, u.1 (7 + s.toNatClampNeg) 1 = nI z ∧ z < 2147483648 → r = nI (rdN (u.2 s.toNatClampNeg) M p.toNatClampNeg z 60))) := by
  refine CtI.of (cc := cX4_read) (maxL := 8) (ret := (some .int)) (own := RX4) (by decide) rfl rfl ?_
  rintro pg ev s0 mm below meth cd ⟨hx, hb, hr, hml, hown, hts, hlocks⟩ hE hP ls hl
  have hS : va_S (gA G) s0.heap s0.heap [] := va_S.rf
  have hl : lv_has ls 8 [(0, .ref (gad G 0)), (1, .int s), (2, .int p)] := hl
  refine lv_aload_n hx hb dX4_read_0 rfl (lv_at hl 0 rfl) ?_
  refine lv_iload_n hx hb dX4_read_1 rfl (lv_at hl 1 rfl) ?_
  refine lv_iload_n hx hb dX4_read_2 rfl (lv_at hl 2 rfl) ?_
  refine hd_callVi (As := [.int s, .int p]) (rest := []) ⟨hx, hb, hml, hown, hts⟩ hE hP hS (c_X4_faultOfBook l G u M h0 s p) rfl (cwV 2 hts gX4_read_X4_faultOfBook rfl rfl rfl (by decide +kernel) ⟨Nat.le_of_ble_eq_true rfl, Nat.le_of_ble_eq_true rfl⟩) (do_recv hE hP) rfl hl.1 rfl (Nat.le_of_ble_eq_true rfl) dX4_read_3 (fun rq_1 vq_1 H locs q_1 hP hS => ?_)
  have hP := hP.cast (q_1.2)
  refine lv_cast q_1.1 ?_
  refine lv_cast hflt ?_
  refine lv_istore_n (lv' := [(3, .int (-1000000006)), (0, .ref (gad G 0)), (1, .int s), (2, .int p)]) hx hb dX4_read_6 rfl hl (by decide) rfl (fun ls hl => ?_)
  refine lv_iload_n hx hb dX4_read_7 rfl (lv_at hl 0 rfl) ?_
  refine lv_if_eq (tgt := 17) hx hb dX4_read_8 (by decide) (fun h => False.elim (by revert h; decide)) (fun _ => ?_)
  refine lv_aload_n hx hb dX4_read_11 rfl (lv_at hl 1 rfl) ?_
  refine lv_iload_n hx hb dX4_read_12 rfl (lv_at hl 0 rfl) ?_
  refine hd_callVi (As := [.int (-1000000006)]) (rest := []) ⟨hx, hb, hml, hown, hts⟩ hE hP hS (c_X4_found_5 l G u F h6) rfl (cwV 1 hts gX4_read_X4_found rfl rfl rfl (by decide +kernel) ⟨Nat.le_of_ble_eq_true rfl, Nat.le_of_ble_eq_true rfl⟩) (do_recv hE hP) rfl hl.1 rfl (Nat.le_of_ble_eq_true rfl) dX4_read_13 (fun rq_2 vq_2 H locs q_2 hP hS => ?_)
  have hP := hP.cast (q_2.2)
  refine lv_cast q_2.1 ?_
  exact hd_iret hx hb hr hlocks hP hS (PS.bad (-1000000006) hflt (by decide) rfl rfl) dX4_read_16
set_option maxHeartbeats 4000000 in
set_option maxRecDepth 100000 in
theorem c_X4_read_0 (l : Launch) (G : Geo) (u : Sg) (M F : Nat → Int32) (h0 : u.1 0 = M) (h6 : u.1 6 = F) (hM : Wf M) (hsz : ∀ j : Nat, j < 4 → ∃ z : Nat, z ≤ 40 ∧ u.1 (7 + j) 1 = nI z) (T : Nat → Int32) (h1 : u.1 1 = T) (tT : ∀ k : Nat, 53 ≤ k → T k = 0) (j9 q z9 : Nat) (hj : j9 < 4) (hz9 : z9 ≤ 40) (hz8 : u.1 (7 + j9) 1 = nI z9) (hq : q < nP M) (hflt : f_book (nI j9) (nI q) (shB u) M = 0) : CtI l G yX4_read wsX4_read (rmO 6 134) [.ref (gad G 0), .int (nI j9), .int (nI q)] u (PS u 6 F (f_book (nI j9) (nI q) (shB u) M) (fun r v => ∃ T2, (∀ k : Nat, 53 ≤ k → T2 k = 0) ∧ v = sI u 1 T2 ∧ ∀ z : Nat, u.1 (7 + (nI j9).toNatClampNeg) 1 = nI z ∧ z < 2147483648 → r = nI (rdN (u.2 (nI j9).toNatClampNeg) M (nI q).toNatClampNeg z 60))) := by
  refine CtI.of (cc := cX4_read) (maxL := 8) (ret := (some .int)) (own := RX4) (by decide) rfl rfl ?_
  rintro pg ev s0 mm below meth cd ⟨hx, hb, hr, hml, hown, hts, hlocks⟩ hE hP ls hl
  have hS : va_S (gA G) s0.heap s0.heap [] := va_S.rf
  have hl : lv_has ls 8 [(0, .ref (gad G 0)), (1, .int (nI j9)), (2, .int (nI q))] := hl
  have hin1 : ∀ w ∈ wsX10, w ∈ wsX4_read := by decide +kernel
  have hin4 : ∀ w ∈ wsX40, w ∈ wsX4_read := by decide +kernel
  have hn := hM.n
  have h8 := hM.n8
  refine lv_aload_n hx hb dX4_read_0 rfl (lv_at hl 0 rfl) ?_
  refine lv_iload_n hx hb dX4_read_1 rfl (lv_at hl 1 rfl) ?_
  refine lv_iload_n hx hb dX4_read_2 rfl (lv_at hl 2 rfl) ?_
  refine hd_callVi (As := [.int (nI j9), .int (nI q)]) (rest := []) ⟨hx, hb, hml, hown, hts⟩ hE hP hS (c_X4_faultOfBook l G u M h0 (nI j9) (nI q)) rfl (cwV 2 hts gX4_read_X4_faultOfBook rfl rfl rfl (by decide +kernel) ⟨Nat.le_of_ble_eq_true rfl, Nat.le_of_ble_eq_true rfl⟩) (do_recv hE hP) rfl hl.1 rfl (Nat.le_of_ble_eq_true rfl) dX4_read_3 (fun rq_1 vq_1 H locs q_1 hP hS => ?_)
  have hP := hP.cast (q_1.2)
  refine lv_cast q_1.1 ?_
  refine lv_cast hflt ?_
  refine lv_istore_n (lv' := [(3, .int 0), (0, .ref (gad G 0)), (1, .int (nI j9)), (2, .int (nI q))]) hx hb dX4_read_6 rfl hl (by decide) rfl (fun ls hl => ?_)
  refine lv_iload_n hx hb dX4_read_7 rfl (lv_at hl 0 rfl) ?_
  refine lv_if_eq (tgt := 17) hx hb dX4_read_8 (by decide) (fun _ => ?_) (fun h => False.elim (by revert h; decide))
  refine lv_iconst (v := 0) hx hb dX4_read_17 (by decide) ?_
  refine lv_istore (lv' := [(4, .int 0), (3, .int 0), (0, .ref (gad G 0)), (1, .int (nI j9)), (2, .int (nI q))]) hx hb dX4_read_18 hl (by decide) rfl (fun ls hl => ?_)
  refine lv_iconst (v := 0) hx hb dX4_read_20 (by decide) ?_
  refine lv_istore (lv' := [(5, .int 0), (4, .int 0), (3, .int 0), (0, .ref (gad G 0)), (1, .int (nI j9)), (2, .int (nI q))]) hx hb dX4_read_21 hl (by decide) rfl (fun ls hl => ?_)
  have J23 : ∀ (fu : Nat) (k9 : Nat) (c9 : Nat) (T9 : Nat → Int32) (hk : k9 ≤ 6) (hc : c9 = rdN (u.2 j9) M q z9 (10 * k9)) (tT9 : ∀ k : Nat, 53 ≤ k → T9 k = 0) (hrk : 6 - k9 < fu) (H : Heap) (locs : List Loc) (ls : Array Slot), WP G (sI u 1 T9) H → va_S (gA G) s0.heap H locs → lv_has ls 8 [(0, .ref (gad G 0)), (1, .int (nI j9)), (2, .int (nI q)), (4, .int (nI c9)), (5, .int (nI k9))] → W pg l ev (headSpec wsX4_read (rmO 6 134)).room s0 mm ([.ref (gad G 0), .int (nI j9), .int (nI q)] : List Value).toArray below meth cd H locs 0 0 (MQ below (va_Qi (PS u 6 F (f_book (nI j9) (nI q) (shB u) M) (fun r v => ∃ T2, (∀ k : Nat, 53 ≤ k → T2 k = 0) ∧ v = sI u 1 T2 ∧ ∀ z : Nat, u.1 (7 + (nI j9).toNatClampNeg) 1 = nI z ∧ z < 2147483648 → r = nI (rdN (u.2 (nI j9).toNatClampNeg) M (nI q).toNatClampNeg z 60))) (fun v t => WP G v t.heap) (gA G)) ([.ref (gad G 0), .int (nI j9), .int (nI q)] : List Value).toArray s0 0 0 (gA G)) (F0 mm 23 ls []) := by
    intro fu
    induction fu with
    | zero => intro k9 c9 T9 hk hc tT9 hrk; exact absurd hrk (Nat.not_lt_zero _)
    | succ fu ih23 =>
      intro k9 c9 T9 hk hc tT9 hrk H locs ls hP hS hl
      refine lv_iload hx hb dX4_read_23 (lv_at hl 4 rfl) ?_
      refine lv_bipush (v := 6) hx hb dX4_read_25 (by decide) ?_
      refine nn_ge (a := k9) (b := 6) (by omega) (by omega) (tgt := 94) hx hb dX4_read_27 (by decide) (fun c_2 => ?_) (fun c_2 => ?_)
      · skip
        refine lv_iload hx hb dX4_read_94 (lv_at hl 3 rfl) ?_
        exact hd_iret hx hb hr hlocks hP hS (PS.ok hflt (by rw [nI_clamp (show j9 < 2 ^ 31 by omega), nI_clamp (show q < 2 ^ 31 by omega)]; refine ⟨T9, tT9, rfl, fun z hz => ?_⟩; rw [hz8] at hz; rw [← (nI_eq (show z9 < 2147483648 by omega) hz.2).mp hz.1, hc, show 10 * k9 = 60 by omega])) dX4_read_96
      · skip
        refine lv_iconst (v := 0) hx hb dX4_read_30 (by decide) ?_
        refine lv_istore (lv' := [(6, .int 0), (0, .ref (gad G 0)), (1, .int (nI j9)), (2, .int (nI q)), (4, .int (nI c9)), (5, .int (nI k9))]) hx hb dX4_read_31 hl (by decide) rfl (fun ls hl => ?_)
        have J33 : ∀ (fu : Nat) (l9 : Nat) (c8 : Nat) (T8 : Nat → Int32) (hl9 : l9 ≤ 10) (hc8 : c8 = rdN (u.2 j9) M q z9 (10 * k9 + l9)) (tT8 : ∀ k : Nat, 53 ≤ k → T8 k = 0) (hrk : 10 - l9 < fu) (H : Heap) (locs : List Loc) (ls : Array Slot), WP G (sI u 1 T8) H → va_S (gA G) s0.heap H locs → lv_has ls 8 [(0, .ref (gad G 0)), (1, .int (nI j9)), (2, .int (nI q)), (4, .int (nI c8)), (5, .int (nI k9)), (6, .int (nI l9))] → W pg l ev (headSpec wsX4_read (rmO 6 134)).room s0 mm ([.ref (gad G 0), .int (nI j9), .int (nI q)] : List Value).toArray below meth cd H locs 0 0 (MQ below (va_Qi (PS u 6 F (f_book (nI j9) (nI q) (shB u) M) (fun r v => ∃ T2, (∀ k : Nat, 53 ≤ k → T2 k = 0) ∧ v = sI u 1 T2 ∧ ∀ z : Nat, u.1 (7 + (nI j9).toNatClampNeg) 1 = nI z ∧ z < 2147483648 → r = nI (rdN (u.2 (nI j9).toNatClampNeg) M (nI q).toNatClampNeg z 60))) (fun v t => WP G v t.heap) (gA G)) ([.ref (gad G 0), .int (nI j9), .int (nI q)] : List Value).toArray s0 0 0 (gA G)) (F0 mm 33 ls []) := by
          intro fu
          induction fu with
          | zero => intro l9 c8 T8 hl9 hc8 tT8 hrk; exact absurd hrk (Nat.not_lt_zero _)
          | succ fu ih33 =>
            intro l9 c8 T8 hl9 hc8 tT8 hrk H locs ls hP hS hl
            refine lv_iload hx hb dX4_read_33 (lv_at hl 5 rfl) ?_
            refine lv_bipush (v := 9) hx hb dX4_read_35 (by decide) ?_
            refine nn_gt (a := l9) (b := 9) (by omega) (by omega) (tgt := 88) hx hb dX4_read_37 (by decide) (fun c_3 => ?_) (fun c_3 => ?_)
            · skip
              refine lv_iinc (v := nI (k9 + 1)) (lv' := [(5, .int (nI (k9 + 1))), (0, .ref (gad G 0)), (1, .int (nI j9)), (2, .int (nI q)), (4, .int (nI c8)), (6, .int (nI l9))]) hx hb dX4_read_88 hl (k := 4) rfl (inc1 _) (by decide) rfl (fun ls hl => ?_)
              refine lv_goto (tgt := 23) hx hb dX4_read_91 (by decide) ?_
              exact ih23 (k9 + 1) c8 T8 (by omega) (by rw [hc8, show 10 * (k9 + 1) = 10 * k9 + l9 by omega]) tT8 (by omega) _ _ _ hP hS (lv_sub hl [1, 2, 3, 4, 0] rfl)
            · skip
              refine lv_aload_n hx hb dX4_read_40 rfl (lv_at hl 0 rfl) ?_
              refine hd_callVr (As := []) (rest := []) ⟨hx, hb, hml, hown, hts⟩ hE hP hS (c_X4_freshTrial l G (sI u 1 T8) M T8 ((sI_ne _ _ (by decide)).trans h0) (sI_at _ _ _) (hM).1 tT8) rfl (cwV 0 hts gX4_read_X4_freshTrial rfl rfl rfl (by decide +kernel) ⟨Nat.le_of_ble_eq_true rfl, Nat.le_of_ble_eq_true rfl⟩) (do_recv hE hP) rfl hl.1 rfl (Nat.le_of_ble_eq_true rfl) dX4_read_41 (fun H locs hP hS => ?_)
              have hP := hP.cast (sI_sI _ _ _ _)
              refine lv_astore (lv' := [(7, .ref (gS G 1)), (0, .ref (gad G 0)), (1, .int (nI j9)), (2, .int (nI q)), (4, .int (nI c8)), (5, .int (nI k9)), (6, .int (nI l9))]) hx hb dX4_read_44 hl (by decide) rfl (fun ls hl => ?_)
              refine lv_aload hx hb dX4_read_46 (lv_at hl 0 rfl) ?_
              refine sc_get hx hb hts hin1 hown hE hP (by decide) (sI_at _ _ _) 5 (by decide) (hts (.fieldLink RX4 108 "HeldDoor$Scene" "kinds" "[I") (by decide +kernel)) (v := .ref (gSA G 1 0)) rfl dX4_read_48 ?_
              refine lv_iload_n hx hb dX4_read_51 rfl (lv_at hl 3 rfl) ?_
              refine lv_iload hx hb dX4_read_52 (lv_at hl 5 rfl) ?_
              refine sc_ast hx hb hE hP hS (by decide) (sI_at _ _ _) 0 (by decide) q (by omega) (sI_sI _ _ _ _) dX4_read_54 (fun H locs hP hS => ?_)
              refine lv_aload hx hb dX4_read_55 (lv_at hl 0 rfl) ?_
              refine sc_get hx hb hts hin1 hown hE hP (by decide) (sI_at _ _ _) 7 (by decide) (hts (.fieldLink RX4 170 "HeldDoor$Scene" "loads" "[I") (by decide +kernel)) (v := .ref (gSA G 1 2)) rfl dX4_read_57 ?_
              refine lv_iload_n hx hb dX4_read_60 rfl (lv_at hl 3 rfl) ?_
              refine lv_iload hx hb dX4_read_61 (lv_at hl 6 rfl) ?_
              refine sc_ast hx hb hE hP hS (by decide) (sI_at _ _ _) 2 (by decide) q (by omega) (sI_sI _ _ _ _) dX4_read_63 (fun H locs hP hS => ?_)
              refine lv_aload hx hb dX4_read_64 (lv_at hl 0 rfl) ?_
              refine lv_aload_n hx hb dX4_read_66 rfl (lv_at hl 1 rfl) ?_
              refine do_get hx hb hts hin4 hown hE hP ((sI_ne _ _ (by decide)).trans rfl) 5 (by decide) (hts (.fieldLink RX4 35 "HeldDoor" "sheets" "[LHeldDoor$Sheet;") (by decide +kernel)) (v := .ref (gad G 24)) rfl dX4_read_67 ?_
              refine lv_iload_n hx hb dX4_read_70 rfl (lv_at hl 2 rfl) ?_
              refine ss_ld hx hb hE hP j9 (by omega) dX4_read_71 ?_
              refine lv_iload_n hx hb dX4_read_72 rfl (lv_at hl 3 rfl) ?_
              refine hd_callVi (As := [.ref (gH G j9), .int (nI q)]) (rest := []) ⟨hx, hb, hml, hown, hts⟩ hE hP hS (c_X1_walksAs l G u 1 (by decide) (upd (upd M (5 + 6 * q + 0) (nI k9)) (5 + 6 * q + 2) (nI l9)) j9 (by omega) (u.1 (7 + j9)) (u.2 j9) rfl rfl z9 hz8 (by omega) (Wf.put (Wf.put hM (w := 0) (by omega) (by decide) (by first | decide | (rw [ti_nI (by omega)]; first | omega | (show _ ≤ hiW _; rw [hiW]; simp; omega))) (by first | decide | (rw [ti_nI (by omega)]; first | omega | (show _ ≤ hiW _; rw [hiW]; simp; omega)))) (w := 2) (by omega) (by decide) (by first | decide | (rw [ti_nI (by omega)]; first | omega | (show _ ≤ hiW _; rw [hiW]; simp; omega))) (by first | decide | (rw [ti_nI (by omega)]; first | omega | (show _ ≤ hiW _; rw [hiW]; simp; omega)))) q (by omega)) rfl (cwV 2 hts gX4_read_X1_walksAs rfl rfl rfl (by decide +kernel) ⟨Nat.le_of_ble_eq_true rfl, Nat.le_of_ble_eq_true rfl⟩) (sc_recv hE hP (by decide)) rfl hl.1 rfl (Nat.le_of_ble_eq_true rfl) dX4_read_73 (fun rq_5 vq_5 H locs q_5 hP hS => ?_)
              obtain ⟨q_5r, q_5N, q_5w, q_5v⟩ := q_5
              have hP := hP.cast q_5v
              refine lv_cast q_5r ?_
              refine bo_eq (tgt := 82) hx hb dX4_read_76 (by decide) (fun c_6 => ?_) (fun c_6 => ?_)
              · skip
                refine lv_iinc (v := nI (l9 + 1)) (lv' := [(6, .int (nI (l9 + 1))), (7, .ref (gS G 1)), (0, .ref (gad G 0)), (1, .int (nI j9)), (2, .int (nI q)), (4, .int (nI c8)), (5, .int (nI k9))]) hx hb dX4_read_82 hl (k := 6) rfl (inc1 _) (by decide) rfl (fun ls hl => ?_)
                refine lv_goto (tgt := 33) hx hb dX4_read_85 (by decide) ?_
                exact ih33 (l9 + 1) c8 q_5N (by omega) (by rw [show 10 * k9 + (l9 + 1) = (10 * k9 + l9) + 1 from rfl, rdN, ← hc8, show (10 * k9 + l9) / 10 = k9 by omega, show (10 * k9 + l9) % 10 = l9 by omega, c_6, if_neg (by decide)]; rfl) ((q_5w).1) (by omega) _ _ _ hP hS (lv_sub hl [2, 3, 4, 5, 6, 0] rfl)
              · skip
                refine lv_iinc (v := nI (c8 + 1)) (lv' := [(4, .int (nI (c8 + 1))), (7, .ref (gS G 1)), (0, .ref (gad G 0)), (1, .int (nI j9)), (2, .int (nI q)), (5, .int (nI k9)), (6, .int (nI l9))]) hx hb dX4_read_79 hl (k := 4) rfl (inc1 _) (by decide) rfl (fun ls hl => ?_)
                refine lv_iinc (v := nI (l9 + 1)) (lv' := [(6, .int (nI (l9 + 1))), (4, .int (nI (c8 + 1))), (7, .ref (gS G 1)), (0, .ref (gad G 0)), (1, .int (nI j9)), (2, .int (nI q)), (5, .int (nI k9))]) hx hb dX4_read_82 hl (k := 6) rfl (inc1 _) (by decide) rfl (fun ls hl => ?_)
                refine lv_goto (tgt := 33) hx hb dX4_read_85 (by decide) ?_
                exact ih33 (l9 + 1) (c8 + 1) q_5N (by omega) (by rw [show 10 * k9 + (l9 + 1) = (10 * k9 + l9) + 1 from rfl, rdN, ← hc8, show (10 * k9 + l9) / 10 = k9 by omega, show (10 * k9 + l9) % 10 = l9 by omega, c_6, if_pos rfl]) ((q_5w).1) (by omega) _ _ _ hP hS (lv_sub hl [3, 4, 5, 1, 6, 0] rfl)
        exact J33 _ 0 c9 T9 (by omega) hc tT9 (Nat.lt_succ_self _) _ _ _ hP hS (lv_sub hl [1, 2, 3, 4, 5, 0] rfl)
  exact J23 _ 0 0 T (by omega) rfl tT (Nat.lt_succ_self _) _ _ _ (hP.cast ((sI_id h1).symm)) hS (lv_sub hl [3, 4, 5, 1, 0] rfl)
theorem c_X4_read (l : Launch) (G : Geo) (u : Sg) (M F : Nat → Int32) (h0 : u.1 0 = M) (h6 : u.1 6 = F) (hM : Wf M) (hsz : ∀ j : Nat, j < 4 → ∃ z : Nat, z ≤ 40 ∧ u.1 (7 + j) 1 = nI z) (T : Nat → Int32) (h1 : u.1 1 = T) (tT : ∀ k : Nat, 53 ≤ k → T k = 0) (s p : Int32) : CtI l G yX4_read wsX4_read (rmO 6 134) [.ref (gad G 0), .int s, .int p] u (PS u 6 F (f_book s p (shB u) M) (fun r v => ∃ T2, (∀ k : Nat, 53 ≤ k → T2 k = 0) ∧ v = sI u 1 T2 ∧ ∀ z : Nat, u.1 (7 + s.toNatClampNeg) 1 = nI z ∧ z < 2147483648 → r = nI (rdN (u.2 s.toNatClampNeg) M p.toNatClampNeg z 60))) := by
  rcases f_book_v s p (shB u) M with hf | hf | hf
  · obtain ⟨e1, e2, e3⟩ := f_book_ok hf
    obtain ⟨j9, -, hj9, rfl⟩ := inI_nat e1 rfl rfl (na := 0) (nb := 3) (by decide) (by decide)
    obtain ⟨q, hq, rfl⟩ := pe_get hM e3
    obtain ⟨z9, hz9, hz8⟩ := hsz j9 (by omega)
    exact c_X4_read_0 l G u M F h0 h6 hM hsz T h1 tT j9 q z9 (by omega) hz9 hz8 hq hf
  · exact c_X4_read_b l G u M F h0 h6 hM hsz T h1 tT s p hf
  · exact c_X4_read_m l G u M F h0 h6 hM hsz T h1 tT s p hf
