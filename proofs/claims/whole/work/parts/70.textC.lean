set_option maxHeartbeats 4000000 in
set_option maxRecDepth 100000 in
theorem c_X3_tellPerson (l : Launch) (G : Geo) (u : Sg) (F T : Nat → Int32) (ln : Nat) (hl9 : ln ≤ 120) (h4 : u.1 4 = F) (h5 : u.1 5 = T) (hF : TF ln F) (M : Nat → Int32) (h1 : u.1 1 = M) (n9 : Nat) (hn9 : n9 ≤ 8) (hn : M 4 = nI n9) (k9 : Int32) : CtI l G yX3_tellPerson wsX3_tellPerson (rmO 5 108) [.ref (gad G 22), .ref (gS G 1), .int k9] u (fun r v => r = bI (tpR T ln F M n9 k9).1 ∧ v = sI (sI u 4 (tpR T ln F M n9 k9).2.1) 1 (tpR T ln F M n9 k9).2.2) := by
  refine CtI.of (cc := cX3_tellPerson) (maxL := 4) (ret := (some .boolean)) (own := RX3) (by decide) rfl rfl ?_
  rintro pg ev s0 mm below meth cd ⟨hx, hb, hr, hml, hown, hts, hlocks⟩ hE hP ls hl
  have hS : va_S (gA G) s0.heap s0.heap [] := va_S.rf
  have hl : lv_has ls 4 [(0, .ref (gad G 22)), (1, .ref (gS G 1)), (2, .int k9)] := hl
  have hin1 : ∀ w ∈ wsX10, w ∈ wsX3_tellPerson := by decide +kernel
  have hin3 : ∀ w ∈ wsX30, w ∈ wsX3_tellPerson := by decide +kernel
  refine lv_aload_n hx hb dX3_tellPerson_0 rfl (lv_at hl 1 rfl) ?_
  refine hd_callVi (As := []) (rest := []) ⟨hx, hb, hml, hown, hts⟩ hE hP hS (c_X1_isFull l G u 1 (by decide) M) ((sI_id h1).symm) (cwV 0 hts gX3_tellPerson_X1_isFull rfl rfl rfl (by decide +kernel) ⟨Nat.le_of_ble_eq_true rfl, Nat.le_of_ble_eq_true rfl⟩) (sc_recv hE hP (by decide)) rfl hl.1 rfl (Nat.le_of_ble_eq_true rfl) dX3_tellPerson_1 (fun rq_1 vq_1 H locs q_1 hP hS => ?_)
  have hP := hP.cast (q_1.2.trans ((sI_id h1).symm).symm)
  refine lv_cast q_1.1 ?_
  refine bo_ne (tgt := 17) hx hb dX3_tellPerson_4 (by decide) (fun c_2 => ?_) (fun c_2 => ?_)
  · skip
    refine lv_iconst (v := 0) hx hb dX3_tellPerson_17 (by decide) ?_
    exact hd_zret hx hb hr hlocks hP hS (tp_ofi (b := false) (A := F) (B := M) (by first | (simp only [tpR, tpL, tpT, c_2, ↓reduceIte]; done) | (simp [tpR, tpL, tpT, c_2]; done)) rfl (by rw [sI_id h4, sI_id h1])) rfl dX3_tellPerson_18
  · skip
    have hn8 : n9 < 8 := full_m hn hn9 c_2
    refine lv_aload_n hx hb dX3_tellPerson_7 rfl (lv_at hl 0 rfl) ?_
    refine lv_sipush (v := 999) hx hb dX3_tellPerson_8 (by decide) ?_
    refine hd_callVi (As := [.int 999]) (rest := []) ⟨hx, hb, hml, hown, hts⟩ hE hP hS (c_X3_isNumberNext l G u F T ln hl9 h4 h5 hF.A 999) rfl (cwV 1 hts gX3_tellPerson_X3_isNumberNext rfl rfl rfl (by decide +kernel) ⟨Nat.le_of_ble_eq_true rfl, Nat.le_of_ble_eq_true rfl⟩) (tx_recv hE hP) rfl hl.1 rfl (Nat.le_of_ble_eq_true rfl) dX3_tellPerson_11 (fun rq_3 vq_3 H locs q_3 hP hS => ?_)
    have hP := hP.cast (q_3.2)
    refine lv_cast q_3.1 ?_
    refine bo_ne (tgt := 19) hx hb dX3_tellPerson_14 (by decide) (fun c_4 => ?_) (fun c_4 => ?_)
    · skip
      refine lv_aload_n hx hb dX3_tellPerson_19 rfl (lv_at hl 1 rfl) ?_
      refine lv_iload_n hx hb dX3_tellPerson_20 rfl (lv_at hl 2 rfl) ?_
      refine lv_aload_n hx hb dX3_tellPerson_21 rfl (lv_at hl 0 rfl) ?_
      refine tx_get hx hb hts hin3 hown hE hP (sI_at _ _ _) 5 (by decide) (hts (.fieldLink RX3 28 "HeldDoor$Text" "number" "I") (by decide +kernel)) (v := .int ((ntF T ln F) 5)) rfl dX3_tellPerson_22 ?_
      refine hd_callVi (As := [.int k9, .int ((ntF T ln F) 5)]) (rest := []) ⟨hx, hb, hml, hown, hts⟩ hE hP hS (c_X1_add l G (sI u 4 (ntF T ln F)) 1 (by decide) M n9 hn (by omega) k9 ((ntF T ln F) 5)) ((sI_id ((sI_ne _ _ (by decide)).trans h1)).symm) (cwV 2 hts gX3_tellPerson_X1_add rfl rfl rfl (by decide +kernel) ⟨Nat.le_of_ble_eq_true rfl, Nat.le_of_ble_eq_true rfl⟩) (sc_recv hE hP (by decide)) rfl hl.1 rfl (Nat.le_of_ble_eq_true rfl) dX3_tellPerson_25 (fun rq_5 vq_5 H locs q_5 hP hS => ?_)
      have hP := hP.cast (q_5.2)
      refine lv_cast q_5.1 ?_
      refine lv_istore_n (lv' := [(3, .int (nI n9)), (0, .ref (gad G 22)), (1, .ref (gS G 1)), (2, .int k9)]) hx hb dX3_tellPerson_28 rfl hl (by decide) rfl (fun ls hl => ?_)
      refine lv_aload_n hx hb dX3_tellPerson_29 rfl (lv_at hl 1 rfl) ?_
      refine hd_callVv (As := []) (rest := []) ⟨hx, hb, hml, hown, hts⟩ hE hP hS (c_X3_nextToken2 l G (sI (sI u 4 (ntF T ln F)) 1 (adC M n9 k9 ((ntF T ln F) 5))) (ntF T ln F) T ln hl9 ((sI_ne _ _ (by decide)).trans (sI_at _ _ _)) ((sI_ne _ _ (by decide)).trans ((sI_ne _ _ (by decide)).trans h5)) (TF_nt hl9 hF.A).A) rfl (cwV 0 hts gX3_tellPerson_X3_nextToken rfl rfl rfl (by decide +kernel) ⟨Nat.le_of_ble_eq_true rfl, Nat.le_of_ble_eq_true rfl⟩) (tx_recv hE hP) rfl hl.1 rfl (Nat.le_of_ble_eq_true rfl) dX3_tellPerson_30 (fun vq_6 H locs q_6 hP hS => ?_)
      have q_6v := q_6
      have hP := hP.cast (q_6v.trans (sI_mid _ _ _ _ (by decide)))
      refine lv_aload_n hx hb dX3_tellPerson_33 rfl (lv_at hl 1 rfl) ?_
      refine va_ldcS hx hb hown (hE.2.2.1.2 6 (by decide)) dX3_tellPerson_34 ?_
      refine hd_callVi (As := [.ref (gK G 6)]) (rest := []) ⟨hx, hb, hml, hown, hts⟩ hE hP hS (c_X3_isWord l G (sI (sI u 1 (adC M n9 k9 ((ntF T ln F) 5))) 4 (ntF T ln (ntF T ln F))) (ntF T ln (ntF T ln F)) T ln hl9 (sI_at _ _ _) ((sI_ne _ _ (by decide)).trans ((sI_ne _ _ (by decide)).trans h5)) (TF_nt hl9 (TF_nt hl9 hF.A).A) 6 (by decide)) rfl (cwV 1 hts gX3_tellPerson_X3_isWord rfl rfl rfl (by decide +kernel) ⟨Nat.le_of_ble_eq_true rfl, Nat.le_of_ble_eq_true rfl⟩) (tx_recv hE hP) rfl hl.1 rfl (Nat.le_of_ble_eq_true rfl) dX3_tellPerson_36 (fun rq_7 vq_7 H locs q_7 hP hS => ?_)
      have hP := hP.cast (q_7.2)
      refine lv_cast q_7.1 ?_
      refine bo_eq (tgt := 67) hx hb dX3_tellPerson_39 (by decide) (fun c_8 => ?_) (fun c_8 => ?_)
      · skip
        refine lv_aload_n hx hb dX3_tellPerson_67 rfl (lv_at hl 1 rfl) ?_
        refine va_ldcS hx hb hown (hE.2.2.1.2 7 (by decide)) dX3_tellPerson_68 ?_
        refine hd_callVi (As := [.ref (gK G 7)]) (rest := []) ⟨hx, hb, hml, hown, hts⟩ hE hP hS (c_X3_isWord l G (sI (sI u 1 (adC M n9 k9 ((ntF T ln F) 5))) 4 (ntF T ln (ntF T ln F))) (ntF T ln (ntF T ln F)) T ln hl9 (sI_at _ _ _) ((sI_ne _ _ (by decide)).trans ((sI_ne _ _ (by decide)).trans h5)) (TF_nt hl9 (TF_nt hl9 hF.A).A) 7 (by decide)) rfl (cwV 1 hts gX3_tellPerson_X3_isWord rfl rfl rfl (by decide +kernel) ⟨Nat.le_of_ble_eq_true rfl, Nat.le_of_ble_eq_true rfl⟩) (tx_recv hE hP) rfl hl.1 rfl (Nat.le_of_ble_eq_true rfl) dX3_tellPerson_70 (fun rq_9 vq_9 H locs q_9 hP hS => ?_)
        have hP := hP.cast (q_9.2)
        refine lv_cast q_9.1 ?_
        refine bo_eq (tgt := 87) hx hb dX3_tellPerson_73 (by decide) (fun c_10 => ?_) (fun c_10 => ?_)
        · skip
          refine lv_iconst (v := 1) hx hb dX3_tellPerson_87 (by decide) ?_
          exact hd_zret hx hb hr hlocks hP hS (tp_ofi (b := true) (A := ntF T ln (ntF T ln F)) (B := adC M n9 k9 ((ntF T ln F) 5)) (by first | (simp only [tpR, tpL, tpT, c_2, c_4, c_8, c_10, ↓reduceIte]; done) | (simp [tpR, tpL, tpT, c_2, c_4, c_8, c_10]; done)) rfl (sI_comm _ _ _ (by decide))) rfl dX3_tellPerson_88
        · skip
          refine lv_aload_n hx hb dX3_tellPerson_76 rfl (lv_at hl 2 rfl) ?_
          refine sc_get hx hb hts hin1 hown hE hP (by decide) ((sI_ne _ _ (by decide)).trans (sI_at _ _ _)) 6 (by decide) (hts (.fieldLink RX3 80 "HeldDoor$Scene" "badges" "[I") (by decide +kernel)) (v := .ref (gSA G 1 1)) rfl dX3_tellPerson_77 ?_
          refine lv_iload_n hx hb dX3_tellPerson_80 rfl (lv_at hl 0 rfl) ?_
          refine lv_iconst (v := 0) hx hb dX3_tellPerson_81 (by decide) ?_
          refine sc_ast hx hb hE hP hS (by decide) ((sI_ne _ _ (by decide)).trans (sI_at _ _ _)) 1 (by decide) n9 (by omega) (sI_mid _ _ _ _ (by decide)) dX3_tellPerson_82 (fun H locs hP hS => ?_)
          refine lv_aload_n hx hb dX3_tellPerson_83 rfl (lv_at hl 1 rfl) ?_
          refine hd_callVv (As := []) (rest := []) ⟨hx, hb, hml, hown, hts⟩ hE hP hS (c_X3_nextToken2 l G (sI (sI u 4 (ntF T ln (ntF T ln F))) 1 (upd (adC M n9 k9 ((ntF T ln F) 5)) (5 + 6 * n9 + 1) 0)) (ntF T ln (ntF T ln F)) T ln hl9 ((sI_ne _ _ (by decide)).trans (sI_at _ _ _)) ((sI_ne _ _ (by decide)).trans ((sI_ne _ _ (by decide)).trans h5)) (TF_nt hl9 (TF_nt hl9 hF.A).A).A) rfl (cwV 0 hts gX3_tellPerson_X3_nextToken rfl rfl rfl (by decide +kernel) ⟨Nat.le_of_ble_eq_true rfl, Nat.le_of_ble_eq_true rfl⟩) (tx_recv hE hP) rfl hl.1 rfl (Nat.le_of_ble_eq_true rfl) dX3_tellPerson_84 (fun vq_11 H locs q_11 hP hS => ?_)
          have q_11v := q_11
          have hP := hP.cast (q_11v.trans (sI_mid _ _ _ _ (by decide)))
          refine lv_iconst (v := 1) hx hb dX3_tellPerson_87 (by decide) ?_
          exact hd_zret hx hb hr hlocks hP hS (tp_ofi (b := true) (A := ntF T ln (ntF T ln (ntF T ln F))) (B := upd (adC M n9 k9 ((ntF T ln F) 5)) (5 + 6 * n9 + 1) 0) (by first | (simp only [tpR, tpL, tpT, c_2, c_4, c_8, c_10, ↓reduceIte]; done) | (simp [tpR, tpL, tpT, c_2, c_4, c_8, c_10]; done)) rfl (sI_comm _ _ _ (by decide))) rfl dX3_tellPerson_88
      · skip
        refine lv_aload_n hx hb dX3_tellPerson_42 rfl (lv_at hl 1 rfl) ?_
        refine lv_bipush (v := 9) hx hb dX3_tellPerson_43 (by decide) ?_
        refine hd_callVi (As := [.int 9]) (rest := []) ⟨hx, hb, hml, hown, hts⟩ hE hP hS (c_X3_isNumberNext l G (sI (sI u 1 (adC M n9 k9 ((ntF T ln F) 5))) 4 (ntF T ln (ntF T ln F))) (ntF T ln (ntF T ln F)) T ln hl9 (sI_at _ _ _) ((sI_ne _ _ (by decide)).trans ((sI_ne _ _ (by decide)).trans h5)) (TF_nt hl9 (TF_nt hl9 hF.A).A).A 9) rfl (cwV 1 hts gX3_tellPerson_X3_isNumberNext rfl rfl rfl (by decide +kernel) ⟨Nat.le_of_ble_eq_true rfl, Nat.le_of_ble_eq_true rfl⟩) (tx_recv hE hP) rfl hl.1 rfl (Nat.le_of_ble_eq_true rfl) dX3_tellPerson_45 (fun rq_12 vq_12 H locs q_12 hP hS => ?_)
        obtain ⟨q_12r, q_12v⟩ := q_12
        have hP := hP.cast (q_12v.trans (sI_sI _ _ _ _))
        refine lv_cast q_12r ?_
        refine bo_ne (tgt := 53) hx hb dX3_tellPerson_48 (by decide) (fun c_13 => ?_) (fun c_13 => ?_)
        · skip
          refine lv_aload_n hx hb dX3_tellPerson_53 rfl (lv_at hl 2 rfl) ?_
          refine sc_get hx hb hts hin1 hown hE hP (by decide) ((sI_ne _ _ (by decide)).trans (sI_at _ _ _)) 7 (by decide) (hts (.fieldLink RX3 74 "HeldDoor$Scene" "loads" "[I") (by decide +kernel)) (v := .ref (gSA G 1 2)) rfl dX3_tellPerson_54 ?_
          refine lv_iload_n hx hb dX3_tellPerson_57 rfl (lv_at hl 0 rfl) ?_
          refine lv_aload_n hx hb dX3_tellPerson_58 rfl (lv_at hl 1 rfl) ?_
          refine tx_get hx hb hts hin3 hown hE hP (sI_at _ _ _) 5 (by decide) (hts (.fieldLink RX3 28 "HeldDoor$Text" "number" "I") (by decide +kernel)) (v := .int ((ntF T ln (ntF T ln (ntF T ln F))) 5)) rfl dX3_tellPerson_59 ?_
          refine sc_ast hx hb hE hP hS (by decide) ((sI_ne _ _ (by decide)).trans (sI_at _ _ _)) 2 (by decide) n9 (by omega) (sI_mid _ _ _ _ (by decide)) dX3_tellPerson_62 (fun H locs hP hS => ?_)
          refine lv_aload_n hx hb dX3_tellPerson_63 rfl (lv_at hl 1 rfl) ?_
          refine hd_callVv (As := []) (rest := []) ⟨hx, hb, hml, hown, hts⟩ hE hP hS (c_X3_nextToken2 l G (sI (sI u 4 (ntF T ln (ntF T ln (ntF T ln F)))) 1 (upd (adC M n9 k9 ((ntF T ln F) 5)) (5 + 6 * n9 + 2) ((ntF T ln (ntF T ln (ntF T ln F))) 5))) (ntF T ln (ntF T ln (ntF T ln F))) T ln hl9 ((sI_ne _ _ (by decide)).trans (sI_at _ _ _)) ((sI_ne _ _ (by decide)).trans ((sI_ne _ _ (by decide)).trans h5)) (TF_nt hl9 (TF_nt hl9 (TF_nt hl9 hF.A).A).A).A) rfl (cwV 0 hts gX3_tellPerson_X3_nextToken rfl rfl rfl (by decide +kernel) ⟨Nat.le_of_ble_eq_true rfl, Nat.le_of_ble_eq_true rfl⟩) (tx_recv hE hP) rfl hl.1 rfl (Nat.le_of_ble_eq_true rfl) dX3_tellPerson_64 (fun vq_14 H locs q_14 hP hS => ?_)
          have q_14v := q_14
          have hP := hP.cast (q_14v.trans (sI_mid _ _ _ _ (by decide)))
          refine lv_aload_n hx hb dX3_tellPerson_67 rfl (lv_at hl 1 rfl) ?_
          refine va_ldcS hx hb hown (hE.2.2.1.2 7 (by decide)) dX3_tellPerson_68 ?_
          refine hd_callVi (As := [.ref (gK G 7)]) (rest := []) ⟨hx, hb, hml, hown, hts⟩ hE hP hS (c_X3_isWord l G (sI (sI u 1 (upd (adC M n9 k9 ((ntF T ln F) 5)) (5 + 6 * n9 + 2) ((ntF T ln (ntF T ln (ntF T ln F))) 5))) 4 (ntF T ln (ntF T ln (ntF T ln (ntF T ln F))))) (ntF T ln (ntF T ln (ntF T ln (ntF T ln F)))) T ln hl9 (sI_at _ _ _) ((sI_ne _ _ (by decide)).trans ((sI_ne _ _ (by decide)).trans h5)) (TF_nt hl9 (TF_nt hl9 (TF_nt hl9 (TF_nt hl9 hF.A).A).A).A) 7 (by decide)) rfl (cwV 1 hts gX3_tellPerson_X3_isWord rfl rfl rfl (by decide +kernel) ⟨Nat.le_of_ble_eq_true rfl, Nat.le_of_ble_eq_true rfl⟩) (tx_recv hE hP) rfl hl.1 rfl (Nat.le_of_ble_eq_true rfl) dX3_tellPerson_70 (fun rq_15 vq_15 H locs q_15 hP hS => ?_)
          have hP := hP.cast (q_15.2)
          refine lv_cast q_15.1 ?_
          refine bo_eq (tgt := 87) hx hb dX3_tellPerson_73 (by decide) (fun c_16 => ?_) (fun c_16 => ?_)
          · skip
            refine lv_iconst (v := 1) hx hb dX3_tellPerson_87 (by decide) ?_
            exact hd_zret hx hb hr hlocks hP hS (tp_ofi (b := true) (A := ntF T ln (ntF T ln (ntF T ln (ntF T ln F)))) (B := upd (adC M n9 k9 ((ntF T ln F) 5)) (5 + 6 * n9 + 2) ((ntF T ln (ntF T ln (ntF T ln F))) 5)) (by first | (simp only [tpR, tpL, tpT, c_2, c_4, c_8, c_13, c_16, ↓reduceIte]; done) | (simp [tpR, tpL, tpT, c_2, c_4, c_8, c_13, c_16]; done)) rfl (sI_comm _ _ _ (by decide))) rfl dX3_tellPerson_88
          · skip
            refine lv_aload_n hx hb dX3_tellPerson_76 rfl (lv_at hl 2 rfl) ?_
            refine sc_get hx hb hts hin1 hown hE hP (by decide) ((sI_ne _ _ (by decide)).trans (sI_at _ _ _)) 6 (by decide) (hts (.fieldLink RX3 80 "HeldDoor$Scene" "badges" "[I") (by decide +kernel)) (v := .ref (gSA G 1 1)) rfl dX3_tellPerson_77 ?_
            refine lv_iload_n hx hb dX3_tellPerson_80 rfl (lv_at hl 0 rfl) ?_
            refine lv_iconst (v := 0) hx hb dX3_tellPerson_81 (by decide) ?_
            refine sc_ast hx hb hE hP hS (by decide) ((sI_ne _ _ (by decide)).trans (sI_at _ _ _)) 1 (by decide) n9 (by omega) (sI_mid _ _ _ _ (by decide)) dX3_tellPerson_82 (fun H locs hP hS => ?_)
            refine lv_aload_n hx hb dX3_tellPerson_83 rfl (lv_at hl 1 rfl) ?_
            refine hd_callVv (As := []) (rest := []) ⟨hx, hb, hml, hown, hts⟩ hE hP hS (c_X3_nextToken2 l G (sI (sI u 4 (ntF T ln (ntF T ln (ntF T ln (ntF T ln F))))) 1 (upd (upd (adC M n9 k9 ((ntF T ln F) 5)) (5 + 6 * n9 + 2) ((ntF T ln (ntF T ln (ntF T ln F))) 5)) (5 + 6 * n9 + 1) 0)) (ntF T ln (ntF T ln (ntF T ln (ntF T ln F)))) T ln hl9 ((sI_ne _ _ (by decide)).trans (sI_at _ _ _)) ((sI_ne _ _ (by decide)).trans ((sI_ne _ _ (by decide)).trans h5)) (TF_nt hl9 (TF_nt hl9 (TF_nt hl9 (TF_nt hl9 hF.A).A).A).A).A) rfl (cwV 0 hts gX3_tellPerson_X3_nextToken rfl rfl rfl (by decide +kernel) ⟨Nat.le_of_ble_eq_true rfl, Nat.le_of_ble_eq_true rfl⟩) (tx_recv hE hP) rfl hl.1 rfl (Nat.le_of_ble_eq_true rfl) dX3_tellPerson_84 (fun vq_17 H locs q_17 hP hS => ?_)
            have q_17v := q_17
            have hP := hP.cast (q_17v.trans (sI_mid _ _ _ _ (by decide)))
            refine lv_iconst (v := 1) hx hb dX3_tellPerson_87 (by decide) ?_
            exact hd_zret hx hb hr hlocks hP hS (tp_ofi (b := true) (A := ntF T ln (ntF T ln (ntF T ln (ntF T ln (ntF T ln F))))) (B := upd (upd (adC M n9 k9 ((ntF T ln F) 5)) (5 + 6 * n9 + 2) ((ntF T ln (ntF T ln (ntF T ln F))) 5)) (5 + 6 * n9 + 1) 0) (by first | (simp only [tpR, tpL, tpT, c_2, c_4, c_8, c_13, c_16, ↓reduceIte]; done) | (simp [tpR, tpL, tpT, c_2, c_4, c_8, c_13, c_16]; done)) rfl (sI_comm _ _ _ (by decide))) rfl dX3_tellPerson_88
        · skip
          refine lv_iconst (v := 0) hx hb dX3_tellPerson_51 (by decide) ?_
          exact hd_zret hx hb hr hlocks hP hS (tp_ofi (b := false) (A := ntF T ln (ntF T ln (ntF T ln F))) (B := adC M n9 k9 ((ntF T ln F) 5)) (by first | (simp only [tpR, tpL, tpT, c_2, c_4, c_8, c_13, ↓reduceIte]; done) | (simp [tpR, tpL, tpT, c_2, c_4, c_8, c_13]; done)) rfl (sI_comm _ _ _ (by decide))) rfl dX3_tellPerson_52
    · skip
      refine lv_iconst (v := 0) hx hb dX3_tellPerson_17 (by decide) ?_
      exact hd_zret hx hb hr hlocks hP hS (tp_ofi (b := false) (A := ntF T ln F) (B := M) (by first | (simp only [tpR, tpL, tpT, c_2, c_4, ↓reduceIte]; done) | (simp [tpR, tpL, tpT, c_2, c_4]; done)) rfl (sI_id ((sI_ne _ _ (by decide)).trans h1)).symm) rfl dX3_tellPerson_18
set_option maxHeartbeats 4000000 in
set_option maxRecDepth 100000 in
theorem c_X3_tellDoor (l : Launch) (G : Geo) (u : Sg) (F T : Nat → Int32) (ln : Nat) (hl9 : ln ≤ 120) (h4 : u.1 4 = F) (h5 : u.1 5 = T) (hF : TF ln F) (M : Nat → Int32) (h1 : u.1 1 = M) : CtI l G yX3_tellDoor wsX3_tellDoor (rmO 5 108) [.ref (gad G 22), .ref (gS G 1)] u (fun r v => r = bI (tdR T ln F M).1 ∧ v = sI (sI u 4 (tdR T ln F M).2.1) 1 (tdR T ln F M).2.2) := by
  refine CtI.of (cc := cX3_tellDoor) (maxL := 2) (ret := (some .boolean)) (own := RX3) (by decide) rfl rfl ?_
  rintro pg ev s0 mm below meth cd ⟨hx, hb, hr, hml, hown, hts, hlocks⟩ hE hP ls hl
  have hS : va_S (gA G) s0.heap s0.heap [] := va_S.rf
  have hl : lv_has ls 2 [(0, .ref (gad G 22)), (1, .ref (gS G 1))] := hl
  have hin1 : ∀ w ∈ wsX10, w ∈ wsX3_tellDoor := by decide +kernel
  have hin3 : ∀ w ∈ wsX30, w ∈ wsX3_tellDoor := by decide +kernel
  refine lv_aload_n hx hb dX3_tellDoor_0 rfl (lv_at hl 0 rfl) ?_
  refine va_ldcS hx hb hown (hE.2.2.1.2 8 (by decide)) dX3_tellDoor_1 ?_
  refine hd_callVi (As := [.ref (gK G 8)]) (rest := []) ⟨hx, hb, hml, hown, hts⟩ hE hP hS (c_X3_isWord l G u F T ln hl9 h4 h5 hF 8 (by decide)) rfl (cwV 1 hts gX3_tellDoor_X3_isWord rfl rfl rfl (by decide +kernel) ⟨Nat.le_of_ble_eq_true rfl, Nat.le_of_ble_eq_true rfl⟩) (tx_recv hE hP) rfl hl.1 rfl (Nat.le_of_ble_eq_true rfl) dX3_tellDoor_3 (fun rq_1 vq_1 H locs q_1 hP hS => ?_)
  have hP := hP.cast (q_1.2)
  refine lv_cast q_1.1 ?_
  refine bo_eq (tgt := 31) hx hb dX3_tellDoor_6 (by decide) (fun c_2 => ?_) (fun c_2 => ?_)
  · skip
    refine lv_aload_n hx hb dX3_tellDoor_31 rfl (lv_at hl 0 rfl) ?_
    refine va_ldcS hx hb hown (hE.2.2.1.2 9 (by decide)) dX3_tellDoor_32 ?_
    refine hd_callVi (As := [.ref (gK G 9)]) (rest := []) ⟨hx, hb, hml, hown, hts⟩ hE hP hS (c_X3_isWord l G u F T ln hl9 h4 h5 hF 9 (by decide)) rfl (cwV 1 hts gX3_tellDoor_X3_isWord rfl rfl rfl (by decide +kernel) ⟨Nat.le_of_ble_eq_true rfl, Nat.le_of_ble_eq_true rfl⟩) (tx_recv hE hP) rfl hl.1 rfl (Nat.le_of_ble_eq_true rfl) dX3_tellDoor_34 (fun rq_3 vq_3 H locs q_3 hP hS => ?_)
    have hP := hP.cast (q_3.2)
    refine lv_cast q_3.1 ?_
    refine bo_eq (tgt := 62) hx hb dX3_tellDoor_37 (by decide) (fun c_4 => ?_) (fun c_4 => ?_)
    · skip
      refine lv_iconst (v := 0) hx hb dX3_tellDoor_62 (by decide) ?_
      exact hd_zret hx hb hr hlocks hP hS (tp_ofi (b := false) (A := F) (B := M) (by first | (simp only [tdR, c_2, c_4, ↓reduceIte]; done) | (simp [tdR, c_2, c_4]; done)) rfl (by rw [sI_id h4, sI_id h1])) rfl dX3_tellDoor_63
    · skip
      refine lv_aload_n hx hb dX3_tellDoor_40 rfl (lv_at hl 0 rfl) ?_
      refine lv_bipush (v := 60) hx hb dX3_tellDoor_41 (by decide) ?_
      refine hd_callVi (As := [.int 60]) (rest := []) ⟨hx, hb, hml, hown, hts⟩ hE hP hS (c_X3_isNumberNext l G u F T ln hl9 h4 h5 hF.A 60) rfl (cwV 1 hts gX3_tellDoor_X3_isNumberNext rfl rfl rfl (by decide +kernel) ⟨Nat.le_of_ble_eq_true rfl, Nat.le_of_ble_eq_true rfl⟩) (tx_recv hE hP) rfl hl.1 rfl (Nat.le_of_ble_eq_true rfl) dX3_tellDoor_43 (fun rq_5 vq_5 H locs q_5 hP hS => ?_)
      have hP := hP.cast (q_5.2)
      refine lv_cast q_5.1 ?_
      refine bo_ne (tgt := 51) hx hb dX3_tellDoor_46 (by decide) (fun c_6 => ?_) (fun c_6 => ?_)
      · skip
        refine lv_aload_n hx hb dX3_tellDoor_51 rfl (lv_at hl 1 rfl) ?_
        refine lv_aload_n hx hb dX3_tellDoor_52 rfl (lv_at hl 0 rfl) ?_
        refine tx_get hx hb hts hin3 hown hE hP (sI_at _ _ _) 5 (by decide) (hts (.fieldLink RX3 28 "HeldDoor$Text" "number" "I") (by decide +kernel)) (v := .int ((ntF T ln F) 5)) rfl dX3_tellDoor_53 ?_
        refine sc_put hx hb hts hin1 hown hE hP hS (by decide) ((sI_ne _ _ (by decide)).trans h1) 2 (by decide) (hts (.fieldLink RX3 62 "HeldDoor$Scene" "open" "I") (by decide +kernel)) rfl dX3_tellDoor_56 (fun H locs hP hS => ?_)
        refine lv_goto (tgt := 64) hx hb dX3_tellDoor_59 (by decide) ?_
        refine lv_aload_n hx hb dX3_tellDoor_64 rfl (lv_at hl 0 rfl) ?_
        refine hd_callVv (As := []) (rest := []) ⟨hx, hb, hml, hown, hts⟩ hE hP hS (c_X3_nextToken2 l G (sI (sI u 4 (ntF T ln F)) 1 (upd M 2 ((ntF T ln F) 5))) (ntF T ln F) T ln hl9 ((sI_ne _ _ (by decide)).trans (sI_at _ _ _)) ((sI_ne _ _ (by decide)).trans ((sI_ne _ _ (by decide)).trans h5)) (TF_nt hl9 hF.A).A) rfl (cwV 0 hts gX3_tellDoor_X3_nextToken rfl rfl rfl (by decide +kernel) ⟨Nat.le_of_ble_eq_true rfl, Nat.le_of_ble_eq_true rfl⟩) (tx_recv hE hP) rfl hl.1 rfl (Nat.le_of_ble_eq_true rfl) dX3_tellDoor_65 (fun vq_7 H locs q_7 hP hS => ?_)
        have q_7v := q_7
        have hP := hP.cast (q_7v.trans (sI_mid _ _ _ _ (by decide)))
        refine lv_iconst (v := 1) hx hb dX3_tellDoor_68 (by decide) ?_
        exact hd_zret hx hb hr hlocks hP hS (tp_ofi (b := true) (A := ntF T ln (ntF T ln F)) (B := upd M 2 ((ntF T ln F) 5)) (by first | (simp only [tdR, c_2, c_4, c_6, ↓reduceIte]; done) | (simp [tdR, c_2, c_4, c_6]; done)) rfl (sI_comm _ _ _ (by decide))) rfl dX3_tellDoor_69
      · skip
        refine lv_iconst (v := 0) hx hb dX3_tellDoor_49 (by decide) ?_
        exact hd_zret hx hb hr hlocks hP hS (tp_ofi (b := false) (A := ntF T ln F) (B := M) (by first | (simp only [tdR, c_2, c_4, c_6, ↓reduceIte]; done) | (simp [tdR, c_2, c_4, c_6]; done)) rfl (sI_id ((sI_ne _ _ (by decide)).trans h1)).symm) rfl dX3_tellDoor_50
  · skip
    refine lv_aload_n hx hb dX3_tellDoor_9 rfl (lv_at hl 0 rfl) ?_
    refine lv_bipush (v := 99) hx hb dX3_tellDoor_10 (by decide) ?_
    refine hd_callVi (As := [.int 99]) (rest := []) ⟨hx, hb, hml, hown, hts⟩ hE hP hS (c_X3_isNumberNext l G u F T ln hl9 h4 h5 hF.A 99) rfl (cwV 1 hts gX3_tellDoor_X3_isNumberNext rfl rfl rfl (by decide +kernel) ⟨Nat.le_of_ble_eq_true rfl, Nat.le_of_ble_eq_true rfl⟩) (tx_recv hE hP) rfl hl.1 rfl (Nat.le_of_ble_eq_true rfl) dX3_tellDoor_12 (fun rq_8 vq_8 H locs q_8 hP hS => ?_)
    have hP := hP.cast (q_8.2)
    refine lv_cast q_8.1 ?_
    refine bo_ne (tgt := 20) hx hb dX3_tellDoor_15 (by decide) (fun c_9 => ?_) (fun c_9 => ?_)
    · skip
      refine lv_aload_n hx hb dX3_tellDoor_20 rfl (lv_at hl 1 rfl) ?_
      refine lv_aload_n hx hb dX3_tellDoor_21 rfl (lv_at hl 0 rfl) ?_
      refine tx_get hx hb hts hin3 hown hE hP (sI_at _ _ _) 5 (by decide) (hts (.fieldLink RX3 28 "HeldDoor$Text" "number" "I") (by decide +kernel)) (v := .int ((ntF T ln F) 5)) rfl dX3_tellDoor_22 ?_
      refine sc_put hx hb hts hin1 hown hE hP hS (by decide) ((sI_ne _ _ (by decide)).trans h1) 1 (by decide) (hts (.fieldLink RX3 56 "HeldDoor$Scene" "care" "I") (by decide +kernel)) rfl dX3_tellDoor_25 (fun H locs hP hS => ?_)
      refine lv_goto (tgt := 64) hx hb dX3_tellDoor_28 (by decide) ?_
      refine lv_aload_n hx hb dX3_tellDoor_64 rfl (lv_at hl 0 rfl) ?_
      refine hd_callVv (As := []) (rest := []) ⟨hx, hb, hml, hown, hts⟩ hE hP hS (c_X3_nextToken2 l G (sI (sI u 4 (ntF T ln F)) 1 (upd M 1 ((ntF T ln F) 5))) (ntF T ln F) T ln hl9 ((sI_ne _ _ (by decide)).trans (sI_at _ _ _)) ((sI_ne _ _ (by decide)).trans ((sI_ne _ _ (by decide)).trans h5)) (TF_nt hl9 hF.A).A) rfl (cwV 0 hts gX3_tellDoor_X3_nextToken rfl rfl rfl (by decide +kernel) ⟨Nat.le_of_ble_eq_true rfl, Nat.le_of_ble_eq_true rfl⟩) (tx_recv hE hP) rfl hl.1 rfl (Nat.le_of_ble_eq_true rfl) dX3_tellDoor_65 (fun vq_10 H locs q_10 hP hS => ?_)
      have q_10v := q_10
      have hP := hP.cast (q_10v.trans (sI_mid _ _ _ _ (by decide)))
      refine lv_iconst (v := 1) hx hb dX3_tellDoor_68 (by decide) ?_
      exact hd_zret hx hb hr hlocks hP hS (tp_ofi (b := true) (A := ntF T ln (ntF T ln F)) (B := upd M 1 ((ntF T ln F) 5)) (by first | (simp only [tdR, c_2, c_9, ↓reduceIte]; done) | (simp [tdR, c_2, c_9]; done)) rfl (sI_comm _ _ _ (by decide))) rfl dX3_tellDoor_69
    · skip
      refine lv_iconst (v := 0) hx hb dX3_tellDoor_18 (by decide) ?_
      exact hd_zret hx hb hr hlocks hP hS (tp_ofi (b := false) (A := ntF T ln F) (B := M) (by first | (simp only [tdR, c_2, c_9, ↓reduceIte]; done) | (simp [tdR, c_2, c_9]; done)) rfl (sI_id ((sI_ne _ _ (by decide)).trans h1)).symm) rfl dX3_tellDoor_19
theorem c_X3_tellPerson2 (l : Launch) (G : Geo) (u : Sg) (F T : Nat → Int32) (ln : Nat) (hl9 : ln ≤ 120) (h4 : u.1 4 = F) (h5 : u.1 5 = T) (hF : TF ln F) (M : Nat → Int32) (h1 : u.1 1 = M) (n9 : Nat) (hn9 : n9 ≤ 8) (hn : M 4 = nI n9) (hk : ¬ knV T F < 0) : CtI l G yX3_tellPerson wsX3_tellPerson (rmO 5 108) [.ref (gad G 22), .ref (gS G 1), .int (knV T F)] u (fun r v => r = bI (tiR T ln F M n9).1 ∧ v = sI (sI u 4 (tiR T ln F M n9).2.1) 1 (tiR T ln F M n9).2.2) := by
  rw [ti_p hk]
  exact c_X3_tellPerson l G u F T ln hl9 h4 h5 hF M h1 n9 hn9 hn (knV T F)
theorem c_X3_tellDoor2 (l : Launch) (G : Geo) (u : Sg) (F T : Nat → Int32) (ln : Nat) (hl9 : ln ≤ 120) (h4 : u.1 4 = F) (h5 : u.1 5 = T) (hF : TF ln F) (M : Nat → Int32) (h1 : u.1 1 = M) (n9 : Nat) (hn9 : n9 ≤ 8) (hn : M 4 = nI n9) (hk : knV T F < 0) : CtI l G yX3_tellDoor wsX3_tellDoor (rmO 5 108) [.ref (gad G 22), .ref (gS G 1)] u (fun r v => r = bI (tiR T ln F M n9).1 ∧ v = sI (sI u 4 (tiR T ln F M n9).2.1) 1 (tiR T ln F M n9).2.2) := by
  rw [ti_d hk]
  exact c_X3_tellDoor l G u F T ln hl9 h4 h5 hF M h1
