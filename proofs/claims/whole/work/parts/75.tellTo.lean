set_option maxHeartbeats 4000000 in
set_option maxRecDepth 100000 in
theorem c_X3_tellToR (l : Launch) (G : Geo) (u : Sg) (F T : Nat → Int32) (ln : Nat) (hl9 : ln ≤ 120) (h4 : u.1 4 = F) (h5 : u.1 5 = T) (hln : F 1 = nI ln) (M : Nat → Int32) (h1 : u.1 1 = M) (hM : NT M) (R : TS) (hRe : R = ttS T ln 120 (ntF T ln (upd F 4 0)) M 1) : CtI l G yX3_tellTo wsX3_tellTo (rmO 6 131) [.ref (gad G 22), .ref (gS G 1)] u (fun r v => r = R.1 ∧ v = sI (sI u 4 R.2.1) 1 R.2.2) := by
  refine CtI.of (cc := cX3_tellTo) (maxL := 5) (ret := (some .int)) (own := RX3) (by decide) rfl rfl ?_
  rintro pg ev s0 mm below meth cd ⟨hx, hb, hr, hml, hown, hts, hlocks⟩ hE hP ls hl
  have hS : va_S (gA G) s0.heap s0.heap [] := va_S.rf
  have hl : lv_has ls 5 [(0, .ref (gad G 22)), (1, .ref (gS G 1))] := hl
  have hin3 : ∀ w ∈ wsX30, w ∈ wsX3_tellTo := by decide +kernel
  have hA0 : TA ln (upd F 4 0) := ⟨by rw [up_ne _ _ (by decide)]; exact hln, 0, Nat.zero_le _, by rw [up_at]; exact nI_0.symm⟩
  refine lv_aload_n hx hb dX3_tellTo_0 rfl (lv_at hl 0 rfl) ?_
  refine lv_iconst (v := 0) hx hb dX3_tellTo_1 (by decide) ?_
  refine tx_put hx hb hts hin3 hown hE hP hS h4 4 (by decide) (hts (.fieldLink RX3 25 "HeldDoor$Text" "place" "I") (by decide +kernel)) rfl dX3_tellTo_2 (fun H locs hP hS => ?_)
  refine lv_aload_n hx hb dX3_tellTo_5 rfl (lv_at hl 0 rfl) ?_
  refine hd_callVv (As := []) (rest := []) ⟨hx, hb, hml, hown, hts⟩ hE hP hS (c_X3_nextToken2 l G (sI u 4 (upd F 4 0)) (upd F 4 0) T ln hl9 (sI_at _ _ _) ((sI_ne _ _ (by decide)).trans h5) hA0) rfl (cwV 0 hts gX3_tellTo_X3_nextToken rfl rfl rfl (by decide +kernel) ⟨Nat.le_of_ble_eq_true rfl, Nat.le_of_ble_eq_true rfl⟩) (tx_recv hE hP) rfl hl.1 rfl (Nat.le_of_ble_eq_true rfl) dX3_tellTo_6 (fun vq_1 H locs q_1 hP hS => ?_)
  have q_1v := q_1
  have hP := hP.cast (q_1v.trans (sI_sI _ _ _ _))
  refine lv_iconst (v := 1) hx hb dX3_tellTo_9 (by decide) ?_
  refine lv_istore_n (lv' := [(2, .int 1), (0, .ref (gad G 22)), (1, .ref (gS G 1))]) hx hb dX3_tellTo_10 rfl hl (by decide) rfl (fun ls hl => ?_)
  have J11 : ∀ (fu : Nat) (F9 : Nat → Int32) (N9 : Nat → Int32) (i9 : Nat) (f9 : Nat) (hF9 : TF ln F9) (hN9 : NT N9) (hif : i9 + f9 = 121) (hR : R = ttS T ln f9 F9 N9 i9) (hrk : f9 < fu) (H : Heap) (locs : List Loc) (ls : Array Slot), WP G (sI (sI u 4 F9) 1 N9) H → va_S (gA G) s0.heap H locs → lv_has ls 5 [(0, .ref (gad G 22)), (1, .ref (gS G 1)), (2, .int (nI i9))] → W pg l ev (headSpec wsX3_tellTo (rmO 6 131)).room s0 mm ([.ref (gad G 22), .ref (gS G 1)] : List Value).toArray below meth cd H locs 0 0 (MQ below (va_Qi (fun r v => r = R.1 ∧ v = sI (sI u 4 R.2.1) 1 R.2.2) (fun v t => WP G v t.heap) (gA G)) ([.ref (gad G 22), .ref (gS G 1)] : List Value).toArray s0 0 0 (gA G)) (F0 mm 11 ls []) := by
    intro fu
    induction fu with
    | zero => intro F9 N9 i9 f9 hF9 hN9 hif hR hrk; exact absurd hrk (Nat.not_lt_zero _)
    | succ fu ih11 =>
      intro F9 N9 i9 f9 hF9 hN9 hif hR hrk H locs ls hP hS hl
      refine lv_iload_n hx hb dX3_tellTo_11 rfl (lv_at hl 2 rfl) ?_
      refine lv_bipush (v := 120) hx hb dX3_tellTo_12 (by decide) ?_
      refine nn_gt (a := i9) (b := 120) (by omega) (by omega) (tgt := 88) hx hb dX3_tellTo_14 (by decide) (fun c_2 => ?_) (fun c_2 => ?_)
      · skip
        refine lv_iconst (v := (-1)) hx hb dX3_tellTo_88 (by decide) ?_
        refine lv_aload_n hx hb dX3_tellTo_89 rfl (lv_at hl 0 rfl) ?_
        refine tx_get hx hb hts hin3 hown hE hP ((sI_ne _ _ (by decide)).trans (sI_at _ _ _)) 3 (by decide) (hts (.fieldLink RX3 22 "HeldDoor$Text" "start" "I") (by decide +kernel)) (v := .int (F9 3)) rfl dX3_tellTo_90 ?_
        refine lv_isub hx hb dX3_tellTo_93 ?_
        exact hd_iret hx hb hr hlocks hP hS (tt_of (hR.trans (tt_0 (by omega))) rfl) dX3_tellTo_94
      · skip
        refine lv_aload_n hx hb dX3_tellTo_17 rfl (lv_at hl 0 rfl) ?_
        refine hd_callVi (As := []) (rest := []) ⟨hx, hb, hml, hown, hts⟩ hE hP hS (c_X3_kindNamed l G (sI (sI u 4 F9) 1 N9) F9 T ln hl9 ((sI_ne _ _ (by decide)).trans (sI_at _ _ _)) ((sI_ne _ _ (by decide)).trans ((sI_ne _ _ (by decide)).trans h5)) hF9) rfl (cwV 0 hts gX3_tellTo_X3_kindNamed rfl rfl rfl (by decide +kernel) ⟨Nat.le_of_ble_eq_true rfl, Nat.le_of_ble_eq_true rfl⟩) (tx_recv hE hP) rfl hl.1 rfl (Nat.le_of_ble_eq_true rfl) dX3_tellTo_18 (fun rq_3 vq_3 H locs q_3 hP hS => ?_)
        have hP := hP.cast (q_3.2)
        refine lv_cast q_3.1 ?_
        refine lv_istore_n (lv' := [(3, .int (knV T F9)), (0, .ref (gad G 22)), (1, .ref (gS G 1)), (2, .int (nI i9))]) hx hb dX3_tellTo_21 rfl hl (by decide) rfl (fun ls hl => ?_)
        refine lv_iload_n hx hb dX3_tellTo_22 rfl (lv_at hl 0 rfl) ?_
        refine lv_if_ge (tgt := 34) hx hb dX3_tellTo_23 (by decide) (fun c_4 => ?_) (fun c_4 => ?_)
        · skip
          refine lv_aload_n hx hb dX3_tellTo_34 rfl (lv_at hl 1 rfl) ?_
          refine lv_aload_n hx hb dX3_tellTo_35 rfl (lv_at hl 2 rfl) ?_
          refine lv_iload_n hx hb dX3_tellTo_36 rfl (lv_at hl 0 rfl) ?_
          refine hd_callVi (As := [.ref (gS G 1), .int (knV T F9)]) (rest := []) ⟨hx, hb, hml, hown, hts⟩ hE hP hS (c_X3_tellPerson2 l G (sI (sI u 4 F9) 1 N9) F9 T ln hl9 ((sI_ne _ _ (by decide)).trans (sI_at _ _ _)) ((sI_ne _ _ (by decide)).trans ((sI_ne _ _ (by decide)).trans h5)) hF9 N9 (sI_at _ _ _) (nP N9) hN9.n.2 hN9.n.1 (Int32.not_lt.mpr c_4)) rfl (cwV 2 hts gX3_tellTo_X3_tellPerson rfl rfl rfl (by decide +kernel) ⟨Nat.le_of_ble_eq_true rfl, Nat.le_of_ble_eq_true rfl⟩) (tx_recv hE hP) rfl hl.1 rfl (Nat.le_of_ble_eq_true rfl) dX3_tellTo_37 (fun rq_5 vq_5 H locs q_5 hP hS => ?_)
          obtain ⟨q_5r, q_5v⟩ := q_5
          have hP := hP.cast (q_5v.trans (ti_st _ _ _ _ _))
          refine lv_cast q_5r ?_
          refine lv_istore (lv' := [(4, .int (bI ((tiR T ln F9 N9 (nP N9)).1))), (3, .int (knV T F9)), (0, .ref (gad G 22)), (1, .ref (gS G 1)), (2, .int (nI i9))]) hx hb dX3_tellTo_40 hl (by decide) rfl (fun ls hl => ?_)
          refine lv_iload hx hb dX3_tellTo_42 (lv_at hl 0 rfl) ?_
          refine bo_ne (tgt := 54) hx hb dX3_tellTo_44 (by decide) (fun c_6 => ?_) (fun c_6 => ?_)
          · skip
            refine lv_aload_n hx hb dX3_tellTo_54 rfl (lv_at hl 2 rfl) ?_
            refine tx_get hx hb hts hin3 hown hE hP ((sI_ne _ _ (by decide)).trans (sI_at _ _ _)) 2 (by decide) (hts (.fieldLink RX3 19 "HeldDoor$Text" "token" "I") (by decide +kernel)) (v := .int (((tiR T ln F9 N9 (nP N9)).2.1) 2)) rfl dX3_tellTo_55 ?_
            refine lv_if_ne (tgt := 63) hx hb dX3_tellTo_58 (by decide) (fun c_7 => ?_) (fun c_7 => ?_)
            · skip
              refine lv_aload_n hx hb dX3_tellTo_63 rfl (lv_at hl 2 rfl) ?_
              refine tx_get hx hb hts hin3 hown hE hP ((sI_ne _ _ (by decide)).trans (sI_at _ _ _)) 2 (by decide) (hts (.fieldLink RX3 19 "HeldDoor$Text" "token" "I") (by decide +kernel)) (v := .int (((tiR T ln F9 N9 (nP N9)).2.1) 2)) rfl dX3_tellTo_64 ?_
              refine lv_iconst (v := 3) hx hb dX3_tellTo_67 (by decide) ?_
              refine lv_icmp_eq (tgt := 78) hx hb dX3_tellTo_68 (by decide) (fun c_8 => ?_) (fun c_8 => ?_)
              · skip
                refine lv_aload_n hx hb dX3_tellTo_78 rfl (lv_at hl 2 rfl) ?_
                refine hd_callVv (As := []) (rest := []) ⟨hx, hb, hml, hown, hts⟩ hE hP hS (c_X3_nextToken2 l G (sI (sI u 4 ((tiR T ln F9 N9 (nP N9)).2.1)) 1 ((tiR T ln F9 N9 (nP N9)).2.2)) ((tiR T ln F9 N9 (nP N9)).2.1) T ln hl9 ((sI_ne _ _ (by decide)).trans (sI_at _ _ _)) ((sI_ne _ _ (by decide)).trans ((sI_ne _ _ (by decide)).trans h5)) (TF_ti hl9 hF9).A) rfl (cwV 0 hts gX3_tellTo_X3_nextToken rfl rfl rfl (by decide +kernel) ⟨Nat.le_of_ble_eq_true rfl, Nat.le_of_ble_eq_true rfl⟩) (tx_recv hE hP) rfl hl.1 rfl (Nat.le_of_ble_eq_true rfl) dX3_tellTo_79 (fun vq_9 H locs q_9 hP hS => ?_)
                have q_9v := q_9
                have hP := hP.cast (q_9v.trans (nt_st _ _ _ _))
                refine lv_iinc (v := nI (i9 + 1)) (lv' := [(2, .int (nI (i9 + 1))), (4, .int (bI ((tiR T ln F9 N9 (nP N9)).1))), (3, .int (knV T F9)), (0, .ref (gad G 22)), (1, .ref (gS G 1))]) hx hb dX3_tellTo_82 hl (k := 4) rfl (inc1 _) (by decide) rfl (fun ls hl => ?_)
                refine lv_goto (tgt := 11) hx hb dX3_tellTo_85 (by decide) ?_
                exact ih11 (ntF T ln ((tiR T ln F9 N9 (nP N9)).2.1)) ((tiR T ln F9 N9 (nP N9)).2.2) (i9 + 1) (f9 - 1) (TF_nt hl9 (TF_ti hl9 hF9).A) (NT_ti hN9) (by omega) (tt_next hR (by omega) c_6 c_7 c_8) (by omega) _ _ _ hP hS (lv_sub hl [3, 4, 0] rfl)
              · skip
                refine lv_iconst (v := (-1)) hx hb dX3_tellTo_71 (by decide) ?_
                refine lv_aload_n hx hb dX3_tellTo_72 rfl (lv_at hl 2 rfl) ?_
                refine tx_get hx hb hts hin3 hown hE hP ((sI_ne _ _ (by decide)).trans (sI_at _ _ _)) 3 (by decide) (hts (.fieldLink RX3 22 "HeldDoor$Text" "start" "I") (by decide +kernel)) (v := .int (((tiR T ln F9 N9 (nP N9)).2.1) 3)) rfl dX3_tellTo_73 ?_
                refine lv_isub hx hb dX3_tellTo_76 ?_
                exact hd_iret hx hb hr hlocks hP hS (tt_of (tt_other hR (by omega) c_6 c_7 c_8) rfl) dX3_tellTo_77
            · skip
              refine lv_iload_n hx hb dX3_tellTo_61 rfl (lv_at hl 4 rfl) ?_
              exact hd_iret hx hb hr hlocks hP hS (tt_of (tt_end hR (by omega) c_6 (by first | exact c_7 | simpa using c_7)) rfl) dX3_tellTo_62
          · skip
            refine lv_iconst (v := (-1)) hx hb dX3_tellTo_47 (by decide) ?_
            refine lv_aload_n hx hb dX3_tellTo_48 rfl (lv_at hl 2 rfl) ?_
            refine tx_get hx hb hts hin3 hown hE hP ((sI_ne _ _ (by decide)).trans (sI_at _ _ _)) 3 (by decide) (hts (.fieldLink RX3 22 "HeldDoor$Text" "start" "I") (by decide +kernel)) (v := .int (((tiR T ln F9 N9 (nP N9)).2.1) 3)) rfl dX3_tellTo_49 ?_
            refine lv_isub hx hb dX3_tellTo_52 ?_
            exact hd_iret hx hb hr hlocks hP hS (tt_of (tt_fail hR (by omega) c_6) rfl) dX3_tellTo_53
        · skip
          refine lv_aload_n hx hb dX3_tellTo_26 rfl (lv_at hl 1 rfl) ?_
          refine lv_aload_n hx hb dX3_tellTo_27 rfl (lv_at hl 2 rfl) ?_
          refine hd_callVi (As := [.ref (gS G 1)]) (rest := []) ⟨hx, hb, hml, hown, hts⟩ hE hP hS (c_X3_tellDoor2 l G (sI (sI u 4 F9) 1 N9) F9 T ln hl9 ((sI_ne _ _ (by decide)).trans (sI_at _ _ _)) ((sI_ne _ _ (by decide)).trans ((sI_ne _ _ (by decide)).trans h5)) hF9 N9 (sI_at _ _ _) (nP N9) hN9.n.2 hN9.n.1 (Int32.not_le.mp c_4)) rfl (cwV 1 hts gX3_tellTo_X3_tellDoor rfl rfl rfl (by decide +kernel) ⟨Nat.le_of_ble_eq_true rfl, Nat.le_of_ble_eq_true rfl⟩) (tx_recv hE hP) rfl hl.1 rfl (Nat.le_of_ble_eq_true rfl) dX3_tellTo_28 (fun rq_10 vq_10 H locs q_10 hP hS => ?_)
          obtain ⟨q_10r, q_10v⟩ := q_10
          have hP := hP.cast (q_10v.trans (ti_st _ _ _ _ _))
          refine lv_cast q_10r ?_
          refine lv_goto (tgt := 40) hx hb dX3_tellTo_31 (by decide) ?_
          refine lv_istore (lv' := [(4, .int (bI ((tiR T ln F9 N9 (nP N9)).1))), (3, .int (knV T F9)), (0, .ref (gad G 22)), (1, .ref (gS G 1)), (2, .int (nI i9))]) hx hb dX3_tellTo_40 hl (by decide) rfl (fun ls hl => ?_)
          refine lv_iload hx hb dX3_tellTo_42 (lv_at hl 0 rfl) ?_
          refine bo_ne (tgt := 54) hx hb dX3_tellTo_44 (by decide) (fun c_11 => ?_) (fun c_11 => ?_)
          · skip
            refine lv_aload_n hx hb dX3_tellTo_54 rfl (lv_at hl 2 rfl) ?_
            refine tx_get hx hb hts hin3 hown hE hP ((sI_ne _ _ (by decide)).trans (sI_at _ _ _)) 2 (by decide) (hts (.fieldLink RX3 19 "HeldDoor$Text" "token" "I") (by decide +kernel)) (v := .int (((tiR T ln F9 N9 (nP N9)).2.1) 2)) rfl dX3_tellTo_55 ?_
            refine lv_if_ne (tgt := 63) hx hb dX3_tellTo_58 (by decide) (fun c_12 => ?_) (fun c_12 => ?_)
            · skip
              refine lv_aload_n hx hb dX3_tellTo_63 rfl (lv_at hl 2 rfl) ?_
              refine tx_get hx hb hts hin3 hown hE hP ((sI_ne _ _ (by decide)).trans (sI_at _ _ _)) 2 (by decide) (hts (.fieldLink RX3 19 "HeldDoor$Text" "token" "I") (by decide +kernel)) (v := .int (((tiR T ln F9 N9 (nP N9)).2.1) 2)) rfl dX3_tellTo_64 ?_
              refine lv_iconst (v := 3) hx hb dX3_tellTo_67 (by decide) ?_
              refine lv_icmp_eq (tgt := 78) hx hb dX3_tellTo_68 (by decide) (fun c_13 => ?_) (fun c_13 => ?_)
              · skip
                refine lv_aload_n hx hb dX3_tellTo_78 rfl (lv_at hl 2 rfl) ?_
                refine hd_callVv (As := []) (rest := []) ⟨hx, hb, hml, hown, hts⟩ hE hP hS (c_X3_nextToken2 l G (sI (sI u 4 ((tiR T ln F9 N9 (nP N9)).2.1)) 1 ((tiR T ln F9 N9 (nP N9)).2.2)) ((tiR T ln F9 N9 (nP N9)).2.1) T ln hl9 ((sI_ne _ _ (by decide)).trans (sI_at _ _ _)) ((sI_ne _ _ (by decide)).trans ((sI_ne _ _ (by decide)).trans h5)) (TF_ti hl9 hF9).A) rfl (cwV 0 hts gX3_tellTo_X3_nextToken rfl rfl rfl (by decide +kernel) ⟨Nat.le_of_ble_eq_true rfl, Nat.le_of_ble_eq_true rfl⟩) (tx_recv hE hP) rfl hl.1 rfl (Nat.le_of_ble_eq_true rfl) dX3_tellTo_79 (fun vq_14 H locs q_14 hP hS => ?_)
                have q_14v := q_14
                have hP := hP.cast (q_14v.trans (nt_st _ _ _ _))
                refine lv_iinc (v := nI (i9 + 1)) (lv' := [(2, .int (nI (i9 + 1))), (4, .int (bI ((tiR T ln F9 N9 (nP N9)).1))), (3, .int (knV T F9)), (0, .ref (gad G 22)), (1, .ref (gS G 1))]) hx hb dX3_tellTo_82 hl (k := 4) rfl (inc1 _) (by decide) rfl (fun ls hl => ?_)
                refine lv_goto (tgt := 11) hx hb dX3_tellTo_85 (by decide) ?_
                exact ih11 (ntF T ln ((tiR T ln F9 N9 (nP N9)).2.1)) ((tiR T ln F9 N9 (nP N9)).2.2) (i9 + 1) (f9 - 1) (TF_nt hl9 (TF_ti hl9 hF9).A) (NT_ti hN9) (by omega) (tt_next hR (by omega) c_11 c_12 c_13) (by omega) _ _ _ hP hS (lv_sub hl [3, 4, 0] rfl)
              · skip
                refine lv_iconst (v := (-1)) hx hb dX3_tellTo_71 (by decide) ?_
                refine lv_aload_n hx hb dX3_tellTo_72 rfl (lv_at hl 2 rfl) ?_
                refine tx_get hx hb hts hin3 hown hE hP ((sI_ne _ _ (by decide)).trans (sI_at _ _ _)) 3 (by decide) (hts (.fieldLink RX3 22 "HeldDoor$Text" "start" "I") (by decide +kernel)) (v := .int (((tiR T ln F9 N9 (nP N9)).2.1) 3)) rfl dX3_tellTo_73 ?_
                refine lv_isub hx hb dX3_tellTo_76 ?_
                exact hd_iret hx hb hr hlocks hP hS (tt_of (tt_other hR (by omega) c_11 c_12 c_13) rfl) dX3_tellTo_77
            · skip
              refine lv_iload_n hx hb dX3_tellTo_61 rfl (lv_at hl 4 rfl) ?_
              exact hd_iret hx hb hr hlocks hP hS (tt_of (tt_end hR (by omega) c_11 (by first | exact c_12 | simpa using c_12)) rfl) dX3_tellTo_62
          · skip
            refine lv_iconst (v := (-1)) hx hb dX3_tellTo_47 (by decide) ?_
            refine lv_aload_n hx hb dX3_tellTo_48 rfl (lv_at hl 2 rfl) ?_
            refine tx_get hx hb hts hin3 hown hE hP ((sI_ne _ _ (by decide)).trans (sI_at _ _ _)) 3 (by decide) (hts (.fieldLink RX3 22 "HeldDoor$Text" "start" "I") (by decide +kernel)) (v := .int (((tiR T ln F9 N9 (nP N9)).2.1) 3)) rfl dX3_tellTo_49 ?_
            refine lv_isub hx hb dX3_tellTo_52 ?_
            exact hd_iret hx hb hr hlocks hP hS (tt_of (tt_fail hR (by omega) c_11) rfl) dX3_tellTo_53
  exact J11 _ (ntF T ln (upd F 4 0)) M 1 120 (TF_nt hl9 hA0) hM (by omega) hRe (Nat.lt_succ_self _) _ _ _ (hP.cast (show sI u 4 (ntF T ln (upd F 4 0)) = sI (sI u 4 (ntF T ln (upd F 4 0))) 1 M from (sI_id ((sI_ne _ _ (by decide)).trans h1)).symm)) hS (lv_sub hl [1, 2, 0] rfl)
