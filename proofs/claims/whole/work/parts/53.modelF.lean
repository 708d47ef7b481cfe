set_option maxHeartbeats 4000000 in
set_option maxRecDepth 100000 in
theorem c_X5_lays_b (l : Launch) (G : Geo) (u : Sg) (M F : Nat → Int32) (h11 : u.1 11 = M) (h15 : u.1 15 = F) (hM : Wf M) (s : Int32) (hflt : f_there s (moB u) = -1000000001) : CtI l G yX5_lays wsX5_lays (rmO 3 64) [.ref (gad G 34), .int s] u (PS u 15 F (f_there s (moB u)) (fun r v => ∀ z : Nat, u.1 18 s.toNatClampNeg = nI z ∧ z < 2147483648 → r = (laN (fun k => u.2 4 (40 * s.toNatClampNeg + k)) M (min z (nP M))).2 ∧ v = sI u 11 (laN (fun k => u.2 4 (40 * s.toNatClampNeg + k)) M (min z (nP M))).1)) := by
  refine CtI.of (cc := cX5_lays) (maxL := 5) (ret := (some .int)) (own := RX5) (by decide) rfl rfl ?_
  rintro pg ev s0 mm below meth cd ⟨hx, hb, hr, hml, hown, hts, hlocks⟩ hE hP ls hl
  have hS : va_S (gA G) s0.heap s0.heap [] := va_S.rf
  have hl : lv_has ls 5 [(0, .ref (gad G 34)), (1, .int s)] := hl
  refine lv_aload_n hx hb dX5_lays_0 rfl (lv_at hl 0 rfl) ?_
  refine lv_iload_n hx hb dX5_lays_1 rfl (lv_at hl 1 rfl) ?_
  refine hd_callVi (As := [.int s]) (rest := []) ⟨hx, hb, hml, hown, hts⟩ hE hP hS (c_X5_notThere l G u s) rfl (cwV 1 hts gX5_lays_X5_notThere rfl rfl rfl (by decide +kernel) ⟨Nat.le_of_ble_eq_true rfl, Nat.le_of_ble_eq_true rfl⟩) (mo_recv hE hP) rfl hl.1 rfl (Nat.le_of_ble_eq_true rfl) dX5_lays_2 (fun rq_1 vq_1 H locs q_1 hP hS => ?_)
  have hP := hP.cast (q_1.2)
  refine lv_cast q_1.1 ?_
  refine lv_cast hflt ?_
  refine lv_istore_n (lv' := [(2, .int (-1000000001)), (0, .ref (gad G 34)), (1, .int s)]) hx hb dX5_lays_5 rfl hl (by decide) rfl (fun ls hl => ?_)
  refine lv_iload_n hx hb dX5_lays_6 rfl (lv_at hl 0 rfl) ?_
  refine lv_if_eq (tgt := 16) hx hb dX5_lays_7 (by decide) (fun h => False.elim (by revert h; decide)) (fun _ => ?_)
  refine lv_aload_n hx hb dX5_lays_10 rfl (lv_at hl 1 rfl) ?_
  refine lv_iload_n hx hb dX5_lays_11 rfl (lv_at hl 0 rfl) ?_
  refine hd_callVi (As := [.int (-1000000001)]) (rest := []) ⟨hx, hb, hml, hown, hts⟩ hE hP hS (c_X5_finds_0 l G u F h15) rfl (cwV 1 hts gX5_lays_X5_finds rfl rfl rfl (by decide +kernel) ⟨Nat.le_of_ble_eq_true rfl, Nat.le_of_ble_eq_true rfl⟩) (mo_recv hE hP) rfl hl.1 rfl (Nat.le_of_ble_eq_true rfl) dX5_lays_12 (fun rq_2 vq_2 H locs q_2 hP hS => ?_)
  have hP := hP.cast (q_2.2)
  refine lv_cast q_2.1 ?_
  exact hd_iret hx hb hr hlocks hP hS (PS.bad (-1000000001) hflt (by decide) rfl rfl) dX5_lays_15
set_option maxHeartbeats 4000000 in
set_option maxRecDepth 100000 in
theorem c_X5_lays_m (l : Launch) (G : Geo) (u : Sg) (M F : Nat → Int32) (h11 : u.1 11 = M) (h15 : u.1 15 = F) (hM : Wf M) (s : Int32) (hflt : f_there s (moB u) = -1000000006) : CtI l G yX5_lays wsX5_lays (rmO 3 64) [.ref (gad G 34), .int s] u (PS u 15 F (f_there s (moB u)) (fun r v => ∀ z : Nat, u.1 18 s.toNatClampNeg = nI z ∧ z < 2147483648 → r = (laN (fun k => u.2 4 (40 * s.toNatClampNeg + k)) M (min z (nP M))).2 ∧ v = sI u 11 (laN (fun k => u.2 4 (40 * s.toNatClampNeg + k)) M (min z (nP M))).1)) := by
  refine CtI.of (cc := cX5_lays) (maxL := 5) (ret := (some .int)) (own := RX5) (by decide) rfl rfl ?_
  rintro pg ev s0 mm below meth cd ⟨hx, hb, hr, hml, hown, hts, hlocks⟩ hE hP ls hl
  have hS : va_S (gA G) s0.heap s0.heap [] := va_S.rf
  have hl : lv_has ls 5 [(0, .ref (gad G 34)), (1, .int s)] := hl
  refine lv_aload_n hx hb dX5_lays_0 rfl (lv_at hl 0 rfl) ?_
  refine lv_iload_n hx hb dX5_lays_1 rfl (lv_at hl 1 rfl) ?_
  refine hd_callVi (As := [.int s]) (rest := []) ⟨hx, hb, hml, hown, hts⟩ hE hP hS (c_X5_notThere l G u s) rfl (cwV 1 hts gX5_lays_X5_notThere rfl rfl rfl (by decide +kernel) ⟨Nat.le_of_ble_eq_true rfl, Nat.le_of_ble_eq_true rfl⟩) (mo_recv hE hP) rfl hl.1 rfl (Nat.le_of_ble_eq_true rfl) dX5_lays_2 (fun rq_1 vq_1 H locs q_1 hP hS => ?_)
  have hP := hP.cast (q_1.2)
  refine lv_cast q_1.1 ?_
  refine lv_cast hflt ?_
  refine lv_istore_n (lv' := [(2, .int (-1000000006)), (0, .ref (gad G 34)), (1, .int s)]) hx hb dX5_lays_5 rfl hl (by decide) rfl (fun ls hl => ?_)
  refine lv_iload_n hx hb dX5_lays_6 rfl (lv_at hl 0 rfl) ?_
  refine lv_if_eq (tgt := 16) hx hb dX5_lays_7 (by decide) (fun h => False.elim (by revert h; decide)) (fun _ => ?_)
  refine lv_aload_n hx hb dX5_lays_10 rfl (lv_at hl 1 rfl) ?_
  refine lv_iload_n hx hb dX5_lays_11 rfl (lv_at hl 0 rfl) ?_
  refine hd_callVi (As := [.int (-1000000006)]) (rest := []) ⟨hx, hb, hml, hown, hts⟩ hE hP hS (c_X5_finds_5 l G u F h15) rfl (cwV 1 hts gX5_lays_X5_finds rfl rfl rfl (by decide +kernel) ⟨Nat.le_of_ble_eq_true rfl, Nat.le_of_ble_eq_true rfl⟩) (mo_recv hE hP) rfl hl.1 rfl (Nat.le_of_ble_eq_true rfl) dX5_lays_12 (fun rq_2 vq_2 H locs q_2 hP hS => ?_)
  have hP := hP.cast (q_2.2)
  refine lv_cast q_2.1 ?_
  exact hd_iret hx hb hr hlocks hP hS (PS.bad (-1000000006) hflt (by decide) rfl rfl) dX5_lays_15
set_option maxHeartbeats 4000000 in
set_option maxRecDepth 100000 in
theorem c_X5_lays_0 (l : Launch) (G : Geo) (u : Sg) (M F : Nat → Int32) (h11 : u.1 11 = M) (h15 : u.1 15 = F) (hM : Wf M) (j9 z9 : Nat) (hj : j9 < 4) (hz9 : z9 ≤ 40) (hz8 : u.1 18 j9 = nI z9) (hflt : f_there (nI j9) (moB u) = 0) : CtI l G yX5_lays wsX5_lays (rmO 3 64) [.ref (gad G 34), .int (nI j9)] u (PS u 15 F (f_there (nI j9) (moB u)) (fun r v => ∀ z : Nat, u.1 18 (nI j9).toNatClampNeg = nI z ∧ z < 2147483648 → r = (laN (fun k => u.2 4 (40 * (nI j9).toNatClampNeg + k)) M (min z (nP M))).2 ∧ v = sI u 11 (laN (fun k => u.2 4 (40 * (nI j9).toNatClampNeg + k)) M (min z (nP M))).1)) := by
  refine CtI.of (cc := cX5_lays) (maxL := 5) (ret := (some .int)) (own := RX5) (by decide) rfl rfl ?_
  rintro pg ev s0 mm below meth cd ⟨hx, hb, hr, hml, hown, hts, hlocks⟩ hE hP ls hl
  have hS : va_S (gA G) s0.heap s0.heap [] := va_S.rf
  have hl : lv_has ls 5 [(0, .ref (gad G 34)), (1, .int (nI j9))] := hl
  have hin5 : ∀ w ∈ wsX50, w ∈ wsX5_lays := by decide +kernel
  have hn := hM.n
  have h8 := hM.n8
  refine lv_aload_n hx hb dX5_lays_0 rfl (lv_at hl 0 rfl) ?_
  refine lv_iload_n hx hb dX5_lays_1 rfl (lv_at hl 1 rfl) ?_
  refine hd_callVi (As := [.int (nI j9)]) (rest := []) ⟨hx, hb, hml, hown, hts⟩ hE hP hS (c_X5_notThere l G u (nI j9)) rfl (cwV 1 hts gX5_lays_X5_notThere rfl rfl rfl (by decide +kernel) ⟨Nat.le_of_ble_eq_true rfl, Nat.le_of_ble_eq_true rfl⟩) (mo_recv hE hP) rfl hl.1 rfl (Nat.le_of_ble_eq_true rfl) dX5_lays_2 (fun rq_1 vq_1 H locs q_1 hP hS => ?_)
  have hP := hP.cast (q_1.2)
  refine lv_cast q_1.1 ?_
  refine lv_cast hflt ?_
  refine lv_istore_n (lv' := [(2, .int 0), (0, .ref (gad G 34)), (1, .int (nI j9))]) hx hb dX5_lays_5 rfl hl (by decide) rfl (fun ls hl => ?_)
  refine lv_iload_n hx hb dX5_lays_6 rfl (lv_at hl 0 rfl) ?_
  refine lv_if_eq (tgt := 16) hx hb dX5_lays_7 (by decide) (fun _ => ?_) (fun h => False.elim (by revert h; decide))
  refine lv_iconst (v := 0) hx hb dX5_lays_16 (by decide) ?_
  refine lv_istore_n (lv' := [(3, .int 0), (2, .int 0), (0, .ref (gad G 34)), (1, .int (nI j9))]) hx hb dX5_lays_17 rfl hl (by decide) rfl (fun ls hl => ?_)
  refine lv_iconst (v := 0) hx hb dX5_lays_18 (by decide) ?_
  refine lv_istore (lv' := [(4, .int 0), (3, .int 0), (2, .int 0), (0, .ref (gad G 34)), (1, .int (nI j9))]) hx hb dX5_lays_19 hl (by decide) rfl (fun ls hl => ?_)
  have J21 : ∀ (fu : Nat) (k9 : Nat) (N : Nat → Int32) (a9 : Int32) (hk : k9 ≤ min z9 (nP M)) (hN : (N, a9) = laN (fun k => u.2 4 (40 * j9 + k)) M k9) (hrk : min z9 (nP M) - k9 < fu) (H : Heap) (locs : List Loc) (ls : Array Slot), WP G (sI u 11 N) H → va_S (gA G) s0.heap H locs → lv_has ls 5 [(0, .ref (gad G 34)), (1, .int (nI j9)), (3, .int a9), (4, .int (nI k9))] → W pg l ev (headSpec wsX5_lays (rmO 3 64)).room s0 mm ([.ref (gad G 34), .int (nI j9)] : List Value).toArray below meth cd H locs 0 0 (MQ below (va_Qi (PS u 15 F (f_there (nI j9) (moB u)) (fun r v => ∀ z : Nat, u.1 18 (nI j9).toNatClampNeg = nI z ∧ z < 2147483648 → r = (laN (fun k => u.2 4 (40 * (nI j9).toNatClampNeg + k)) M (min z (nP M))).2 ∧ v = sI u 11 (laN (fun k => u.2 4 (40 * (nI j9).toNatClampNeg + k)) M (min z (nP M))).1)) (fun v t => WP G v t.heap) (gA G)) ([.ref (gad G 34), .int (nI j9)] : List Value).toArray s0 0 0 (gA G)) (F0 mm 21 ls []) := by
    intro fu
    induction fu with
    | zero => intro k9 N a9 hk hN hrk; exact absurd hrk (Nat.not_lt_zero _)
    | succ fu ih21 =>
      intro k9 N a9 hk hN hrk H locs ls hP hS hl
      refine lv_iload hx hb dX5_lays_21 (lv_at hl 3 rfl) ?_
      refine lv_aload_n hx hb dX5_lays_23 rfl (lv_at hl 0 rfl) ?_
      refine mo_get hx hb hts hin5 hown hE hP ((sI_ne _ _ (by decide)).trans rfl) 13 (by decide) (hts (.fieldLink RX5 28 "HeldDoorModel" "sizeOf" "[I") (by decide +kernel)) (v := .ref (gad G 41)) rfl dX5_lays_24 ?_
      refine lv_iload_n hx hb dX5_lays_27 rfl (lv_at hl 1 rfl) ?_
      refine ar_ld hx hb hE hP 41 4 (by decide) (ar_at41 ((sI_ne _ _ (by decide)).trans rfl)) j9 (by omega) dX5_lays_28 ?_
      refine lv_cast hz8 ?_
      refine nn_ge (a := k9) (b := z9) (by omega) (by omega) (tgt := 94) hx hb dX5_lays_29 (by decide) (fun c_2 => ?_) (fun c_2 => ?_)
      · skip
        refine lv_iload_n hx hb dX5_lays_94 rfl (lv_at hl 2 rfl) ?_
        exact hd_iret hx hb hr hlocks hP hS (PS.ok hflt (by intro z hz; rw [nI_clamp (show j9 < 2 ^ 31 by omega)] at hz ⊢; rw [hz8] at hz; rw [← (nI_eq (show z9 < 2147483648 by omega) hz.2).mp hz.1, show min z9 (nP M) = k9 by omega, ← hN]; exact ⟨rfl, rfl⟩)) dX5_lays_95
      · skip
        refine lv_iload hx hb dX5_lays_32 (lv_at hl 3 rfl) ?_
        refine lv_aload_n hx hb dX5_lays_34 rfl (lv_at hl 0 rfl) ?_
        refine mo_get hx hb hts hin5 hown hE hP ((sI_ne _ _ (by decide)).trans rfl) 0 (by decide) (hts (.fieldLink RX5 9 "HeldDoorModel" "m" "[I") (by decide +kernel)) (v := .ref (gad G 35)) rfl dX5_lays_35 ?_
        refine lv_iconst (v := 4) hx hb dX5_lays_38 (by decide) ?_
        refine ar_ld hx hb hE hP 35 53 (by decide) (ar_at35 (sI_at _ _ _)) 4 (by omega) dX5_lays_39 ?_
        refine lv_cast (laN_4 hn hN) ?_
        refine nn_ge (a := k9) (b := nP M) (by omega) (by omega) (tgt := 94) hx hb dX5_lays_40 (by decide) (fun c_3 => ?_) (fun c_3 => ?_)
        · skip
          refine lv_iload_n hx hb dX5_lays_94 rfl (lv_at hl 2 rfl) ?_
          exact hd_iret hx hb hr hlocks hP hS (PS.ok hflt (by intro z hz; rw [nI_clamp (show j9 < 2 ^ 31 by omega)] at hz ⊢; rw [hz8] at hz; rw [← (nI_eq (show z9 < 2147483648 by omega) hz.2).mp hz.1, show min z9 (nP M) = k9 by omega, ← hN]; exact ⟨rfl, rfl⟩)) dX5_lays_95
        · skip
          refine lv_aload_n hx hb dX5_lays_43 rfl (lv_at hl 0 rfl) ?_
          refine mo_get hx hb hts hin5 hown hE hP ((sI_ne _ _ (by decide)).trans rfl) 14 (by decide) (hts (.fieldLink RX5 31 "HeldDoorModel" "cells" "[J") (by decide +kernel)) (v := .ref (gad G 42)) rfl dX5_lays_44 ?_
          refine lv_bipush (v := 40) hx hb dX5_lays_47 (by decide) ?_
          refine lv_iload_n hx hb dX5_lays_49 rfl (lv_at hl 1 rfl) ?_
          refine nn_imul (a := 40) (b := j9) hx hb dX5_lays_50 ?_
          refine lv_iload hx hb dX5_lays_51 (lv_at hl 3 rfl) ?_
          refine nn_iadd (a := 40 * j9) (b := k9) hx hb dX5_lays_53 ?_
          refine ce_ld hx hb hE hP rfl (40 * j9 + k9) (by omega) dX5_lays_54 ?_
          refine lv_iconst (v := 0) hx hb dX5_lays_55 (by decide) ?_
          refine lv_sipush (v := 999) hx hb dX5_lays_56 (by decide) ?_
          refine hd_callSi (As := [.long ((u.2 4) (40 * j9 + k9)), .int 0, .int 999]) (rest := []) ⟨hx, hb, hml, hown, hts⟩ hE hP hS (c_X5_in l G (sI u 11 N) ((u.2 4) (40 * j9 + k9)) 0 999) rfl (va_cwS 3 hts gX5_lays_X5_in rfl rfl rfl (by decide +kernel) ⟨Nat.le_of_ble_eq_true rfl, Nat.le_of_ble_eq_true rfl⟩) rfl hl.1 rfl (Nat.le_of_ble_eq_true rfl) dX5_lays_59 (fun rq_4 vq_4 H locs q_4 hP hS => ?_)
          have hP := hP.cast (q_4.2)
          refine lv_cast q_4.1 ?_
          refine bo_eq (tgt := 88) hx hb dX5_lays_62 (by decide) (fun c_5 => ?_) (fun c_5 => ?_)
          · skip
            refine lv_iinc (v := nI (k9 + 1)) (lv' := [(4, .int (nI (k9 + 1))), (0, .ref (gad G 34)), (1, .int (nI j9)), (3, .int a9)]) hx hb dX5_lays_88 hl (k := 3) rfl (inc1 _) (by decide) rfl (fun ls hl => ?_)
            refine lv_goto (tgt := 21) hx hb dX5_lays_91 (by decide) ?_
            exact ih21 (k9 + 1) N a9 (by omega) (laN_no hN c_5) (by omega) _ _ _ hP hS (lv_sub hl [1, 2, 3, 0] rfl)
          · skip
            refine lv_aload_n hx hb dX5_lays_65 rfl (lv_at hl 0 rfl) ?_
            refine lv_iload hx hb dX5_lays_66 (lv_at hl 3 rfl) ?_
            refine lv_iconst (v := 3) hx hb dX5_lays_68 (by decide) ?_
            refine lv_aload_n hx hb dX5_lays_69 rfl (lv_at hl 0 rfl) ?_
            refine mo_get hx hb hts hin5 hown hE hP ((sI_ne _ _ (by decide)).trans rfl) 14 (by decide) (hts (.fieldLink RX5 31 "HeldDoorModel" "cells" "[J") (by decide +kernel)) (v := .ref (gad G 42)) rfl dX5_lays_70 ?_
            refine lv_bipush (v := 40) hx hb dX5_lays_73 (by decide) ?_
            refine lv_iload_n hx hb dX5_lays_75 rfl (lv_at hl 1 rfl) ?_
            refine nn_imul (a := 40) (b := j9) hx hb dX5_lays_76 ?_
            refine lv_iload hx hb dX5_lays_77 (lv_at hl 3 rfl) ?_
            refine nn_iadd (a := 40 * j9) (b := k9) hx hb dX5_lays_79 ?_
            refine ce_ld hx hb hE hP rfl (40 * j9 + k9) (by omega) dX5_lays_80 ?_
            refine lv_l2i hx hb dX5_lays_81 rfl ?_
            refine hd_callVv (As := [.int (nI k9), .int 3, .int (((u.2 4) (40 * j9 + k9)).toInt32)]) (rest := []) ⟨hx, hb, hml, hown, hts⟩ hE hP hS (c_X5_put l G u N k9 3 (by omega) (by omega) (((u.2 4) (40 * j9 + k9)).toInt32)) rfl (cwV 3 hts gX5_lays_X5_put rfl rfl rfl (by decide +kernel) ⟨Nat.le_of_ble_eq_true rfl, Nat.le_of_ble_eq_true rfl⟩) (mo_recv hE hP) rfl hl.1 rfl (Nat.le_of_ble_eq_true rfl) dX5_lays_82 (fun vq_6 H locs q_6 hP hS => ?_)
            have hP := hP.cast (q_6)
            refine lv_iinc (v := a9 + (1)) (lv' := [(3, .int (a9 + (1))), (0, .ref (gad G 34)), (1, .int (nI j9)), (4, .int (nI k9))]) hx hb dX5_lays_85 hl (k := 2) rfl rfl (by decide) rfl (fun ls hl => ?_)
            refine lv_iinc (v := nI (k9 + 1)) (lv' := [(4, .int (nI (k9 + 1))), (3, .int (a9 + (1))), (0, .ref (gad G 34)), (1, .int (nI j9))]) hx hb dX5_lays_88 hl (k := 3) rfl (inc1 _) (by decide) rfl (fun ls hl => ?_)
            refine lv_goto (tgt := 21) hx hb dX5_lays_91 (by decide) ?_
            exact ih21 (k9 + 1) (upd N (5 + 6 * k9 + 3) (((u.2 4) (40 * j9 + k9)).toInt32)) (a9 + (1)) (by omega) (laN_yes hN c_5) (by omega) _ _ _ hP hS (lv_sub hl [2, 3, 1, 0] rfl)
  exact J21 _ 0 M 0 (Nat.zero_le _) rfl (Nat.lt_succ_self _) _ _ _ (hP.cast ((sI_id h11).symm)) hS (lv_sub hl [3, 4, 1, 0] rfl)
theorem c_X5_lays (l : Launch) (G : Geo) (u : Sg) (M F : Nat → Int32) (h11 : u.1 11 = M) (h15 : u.1 15 = F) (hM : Wf M) (hsz : ∀ j : Nat, j < 4 → ∃ z : Nat, z ≤ 40 ∧ u.1 18 j = nI z) (s : Int32) : CtI l G yX5_lays wsX5_lays (rmO 3 64) [.ref (gad G 34), .int s] u (PS u 15 F (f_there s (moB u)) (fun r v => ∀ z : Nat, u.1 18 s.toNatClampNeg = nI z ∧ z < 2147483648 → r = (laN (fun k => u.2 4 (40 * s.toNatClampNeg + k)) M (min z (nP M))).2 ∧ v = sI u 11 (laN (fun k => u.2 4 (40 * s.toNatClampNeg + k)) M (min z (nP M))).1)) := by
  rcases f_there_v s (moB u) with hf | hf | hf
  · obtain ⟨e1, e2⟩ := f_there_ok hf
    obtain ⟨j9, -, hj9, rfl⟩ := inI_nat e1 rfl rfl (na := 0) (nb := 3) (by decide) (by decide)
    obtain ⟨z9, hz9, hz8⟩ := hsz j9 (by omega)
    exact c_X5_lays_0 l G u M F h11 h15 hM j9 z9 (by omega) hz9 hz8 hf
  · exact c_X5_lays_b l G u M F h11 h15 hM s hf
  · exact c_X5_lays_m l G u M F h11 h15 hM s hf
set_option maxHeartbeats 4000000 in
set_option maxRecDepth 100000 in
theorem c_X5_notAsked_b (l : Launch) (G : Geo) (u : Sg) (M : Nat → Int32) (h11 : u.1 11 = M) (s p : Int32) (hflt : f_there s (moB u) = -1000000001) : CtI l G yX5_notAsked wsX5_notAsked (rmO 3 64) [.ref (gad G 34), .int s, .int p] u (fun r v => r = f_book s p (moB u) M ∧ v = u) := by
  refine CtI.of (cc := cX5_notAsked) (maxL := 4) (ret := (some .int)) (own := RX5) (by decide) rfl rfl ?_
  rintro pg ev s0 mm below meth cd ⟨hx, hb, hr, hml, hown, hts, hlocks⟩ hE hP ls hl
  have hS : va_S (gA G) s0.heap s0.heap [] := va_S.rf
  have hl : lv_has ls 4 [(0, .ref (gad G 34)), (1, .int s), (2, .int p)] := hl
  refine lv_aload_n hx hb dX5_notAsked_0 rfl (lv_at hl 0 rfl) ?_
  refine lv_iload_n hx hb dX5_notAsked_1 rfl (lv_at hl 1 rfl) ?_
  refine hd_callVi (As := [.int s]) (rest := []) ⟨hx, hb, hml, hown, hts⟩ hE hP hS (c_X5_notThere l G u s) rfl (cwV 1 hts gX5_notAsked_X5_notThere rfl rfl rfl (by decide +kernel) ⟨Nat.le_of_ble_eq_true rfl, Nat.le_of_ble_eq_true rfl⟩) (mo_recv hE hP) rfl hl.1 rfl (Nat.le_of_ble_eq_true rfl) dX5_notAsked_2 (fun rq_1 vq_1 H locs q_1 hP hS => ?_)
  have hP := hP.cast (q_1.2)
  refine lv_cast q_1.1 ?_
  refine lv_cast hflt ?_
  refine lv_istore_n (lv' := [(3, .int (-1000000001)), (0, .ref (gad G 34)), (1, .int s), (2, .int p)]) hx hb dX5_notAsked_5 rfl hl (by decide) rfl (fun ls hl => ?_)
  refine lv_iload_n hx hb dX5_notAsked_6 rfl (lv_at hl 0 rfl) ?_
  refine lv_if_ne (tgt := 23) hx hb dX5_notAsked_7 (by decide) (fun _ => ?_) (fun h => False.elim (by revert h; decide))
  refine lv_iload_n hx hb dX5_notAsked_23 rfl (lv_at hl 0 rfl) ?_
  exact hd_iret hx hb hr hlocks hP hS ⟨(by rw [f_book_there, if_neg (by rw [hflt]; decide), hflt]), rfl⟩ dX5_notAsked_24
set_option maxHeartbeats 4000000 in
set_option maxRecDepth 100000 in
theorem c_X5_notAsked_m (l : Launch) (G : Geo) (u : Sg) (M : Nat → Int32) (h11 : u.1 11 = M) (s p : Int32) (hflt : f_there s (moB u) = -1000000006) : CtI l G yX5_notAsked wsX5_notAsked (rmO 3 64) [.ref (gad G 34), .int s, .int p] u (fun r v => r = f_book s p (moB u) M ∧ v = u) := by
  refine CtI.of (cc := cX5_notAsked) (maxL := 4) (ret := (some .int)) (own := RX5) (by decide) rfl rfl ?_
  rintro pg ev s0 mm below meth cd ⟨hx, hb, hr, hml, hown, hts, hlocks⟩ hE hP ls hl
  have hS : va_S (gA G) s0.heap s0.heap [] := va_S.rf
  have hl : lv_has ls 4 [(0, .ref (gad G 34)), (1, .int s), (2, .int p)] := hl
  refine lv_aload_n hx hb dX5_notAsked_0 rfl (lv_at hl 0 rfl) ?_
  refine lv_iload_n hx hb dX5_notAsked_1 rfl (lv_at hl 1 rfl) ?_
  refine hd_callVi (As := [.int s]) (rest := []) ⟨hx, hb, hml, hown, hts⟩ hE hP hS (c_X5_notThere l G u s) rfl (cwV 1 hts gX5_notAsked_X5_notThere rfl rfl rfl (by decide +kernel) ⟨Nat.le_of_ble_eq_true rfl, Nat.le_of_ble_eq_true rfl⟩) (mo_recv hE hP) rfl hl.1 rfl (Nat.le_of_ble_eq_true rfl) dX5_notAsked_2 (fun rq_1 vq_1 H locs q_1 hP hS => ?_)
  have hP := hP.cast (q_1.2)
  refine lv_cast q_1.1 ?_
  refine lv_cast hflt ?_
  refine lv_istore_n (lv' := [(3, .int (-1000000006)), (0, .ref (gad G 34)), (1, .int s), (2, .int p)]) hx hb dX5_notAsked_5 rfl hl (by decide) rfl (fun ls hl => ?_)
  refine lv_iload_n hx hb dX5_notAsked_6 rfl (lv_at hl 0 rfl) ?_
  refine lv_if_ne (tgt := 23) hx hb dX5_notAsked_7 (by decide) (fun _ => ?_) (fun h => False.elim (by revert h; decide))
  refine lv_iload_n hx hb dX5_notAsked_23 rfl (lv_at hl 0 rfl) ?_
  exact hd_iret hx hb hr hlocks hP hS ⟨(by rw [f_book_there, if_neg (by rw [hflt]; decide), hflt]), rfl⟩ dX5_notAsked_24
set_option maxHeartbeats 4000000 in
set_option maxRecDepth 100000 in
theorem c_X5_notAsked_0 (l : Launch) (G : Geo) (u : Sg) (M : Nat → Int32) (h11 : u.1 11 = M) (s p : Int32) (hflt : f_there s (moB u) = 0) : CtI l G yX5_notAsked wsX5_notAsked (rmO 3 64) [.ref (gad G 34), .int s, .int p] u (fun r v => r = f_book s p (moB u) M ∧ v = u) := by
  refine CtI.of (cc := cX5_notAsked) (maxL := 4) (ret := (some .int)) (own := RX5) (by decide) rfl rfl ?_
  rintro pg ev s0 mm below meth cd ⟨hx, hb, hr, hml, hown, hts, hlocks⟩ hE hP ls hl
  have hS : va_S (gA G) s0.heap s0.heap [] := va_S.rf
  have hl : lv_has ls 4 [(0, .ref (gad G 34)), (1, .int s), (2, .int p)] := hl
  refine lv_aload_n hx hb dX5_notAsked_0 rfl (lv_at hl 0 rfl) ?_
  refine lv_iload_n hx hb dX5_notAsked_1 rfl (lv_at hl 1 rfl) ?_
  refine hd_callVi (As := [.int s]) (rest := []) ⟨hx, hb, hml, hown, hts⟩ hE hP hS (c_X5_notThere l G u s) rfl (cwV 1 hts gX5_notAsked_X5_notThere rfl rfl rfl (by decide +kernel) ⟨Nat.le_of_ble_eq_true rfl, Nat.le_of_ble_eq_true rfl⟩) (mo_recv hE hP) rfl hl.1 rfl (Nat.le_of_ble_eq_true rfl) dX5_notAsked_2 (fun rq_1 vq_1 H locs q_1 hP hS => ?_)
  have hP := hP.cast (q_1.2)
  refine lv_cast q_1.1 ?_
  refine lv_cast hflt ?_
  refine lv_istore_n (lv' := [(3, .int 0), (0, .ref (gad G 34)), (1, .int s), (2, .int p)]) hx hb dX5_notAsked_5 rfl hl (by decide) rfl (fun ls hl => ?_)
  refine lv_iload_n hx hb dX5_notAsked_6 rfl (lv_at hl 0 rfl) ?_
  refine lv_if_ne (tgt := 23) hx hb dX5_notAsked_7 (by decide) (fun h => False.elim (by revert h; decide)) (fun _ => ?_)
  refine lv_aload_n hx hb dX5_notAsked_10 rfl (lv_at hl 1 rfl) ?_
  refine lv_iload_n hx hb dX5_notAsked_11 rfl (lv_at hl 3 rfl) ?_
  refine hd_callVi (As := [.int p]) (rest := []) ⟨hx, hb, hml, hown, hts⟩ hE hP hS (c_X5_isPerson l G u M h11 p) rfl (cwV 1 hts gX5_notAsked_X5_isPerson rfl rfl rfl (by decide +kernel) ⟨Nat.le_of_ble_eq_true rfl, Nat.le_of_ble_eq_true rfl⟩) (mo_recv hE hP) rfl hl.1 rfl (Nat.le_of_ble_eq_true rfl) dX5_notAsked_12 (fun rq_2 vq_2 H locs q_2 hP hS => ?_)
  have hP := hP.cast (q_2.2)
  refine lv_cast q_2.1 ?_
  refine bo_ne (tgt := 23) hx hb dX5_notAsked_15 (by decide) (fun c_3 => ?_) (fun c_3 => ?_)
  · skip
    refine lv_iload_n hx hb dX5_notAsked_23 rfl (lv_at hl 0 rfl) ?_
    exact hd_iret hx hb hr hlocks hP hS ⟨(by rw [f_book_there, if_pos hflt, c_3]; rfl), rfl⟩ dX5_notAsked_24
  · skip
    refine lv_ldc (v := (-1000000001)) hx hb hown (hts (.constant RX5 35 ((-1000000001))) (by decide +kernel)) dX5_notAsked_18 ?_
    refine lv_goto (tgt := 24) hx hb dX5_notAsked_20 (by decide) ?_
    exact hd_iret hx hb hr hlocks hP hS ⟨(by rw [f_book_there, if_pos hflt, c_3]; rfl), rfl⟩ dX5_notAsked_24
theorem c_X5_notAsked (l : Launch) (G : Geo) (u : Sg) (M : Nat → Int32) (h11 : u.1 11 = M) (s p : Int32) : CtI l G yX5_notAsked wsX5_notAsked (rmO 3 64) [.ref (gad G 34), .int s, .int p] u (fun r v => r = f_book s p (moB u) M ∧ v = u) := by
  rcases f_there_v s (moB u) with hf | hf | hf
  · exact c_X5_notAsked_0 l G u M h11 s p hf
  · exact c_X5_notAsked_b l G u M h11 s p hf
  · exact c_X5_notAsked_m l G u M h11 s p hf
