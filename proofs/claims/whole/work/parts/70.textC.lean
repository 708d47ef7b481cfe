set_option maxHeartbeats 4000000 in
set_option maxRecDepth 100000 in
theorem c_X3_tellPerson (l : Launch) (G : Geo) (u : Sg) (F T : Nat → Int32) (ln : Nat) (hl9 : ln ≤ 120) (h4 : u.1 4 = F) (h5 : u.1 5 = T) (hF : TF ln F) (M : Nat → Int32) (h1 : u.1 1 = M) (n9 : Nat) (hn9 : n9 ≤ 8) (hn : M 4 = nI n9) : CtI l G yX3_tellPerson wsX3_tellPerson (rmO 6 129) [.ref (gad G 22), .ref (gS G 1)] u (fun r v => r = bI (tpR T ln F M n9).1 ∧ v = sI (sI u 4 (tpR T ln F M n9).2.1) 1 (tpR T ln F M n9).2.2) := by
  refine CtI.of (cc := cX3_tellPerson) (maxL := 4) (ret := (some .boolean)) (own := RX3) (by decide) rfl rfl ?_
  rintro pg ev s0 mm below meth cd ⟨hx, hb, hr, hml, hown, hts, hlocks⟩ hE hP ls hl
  have hS : va_S (gA G) s0.heap s0.heap [] := va_S.rf
  have hl : lv_has ls 4 [(0, .ref (gad G 22)), (1, .ref (gS G 1))] := hl
  have hin1 : ∀ w ∈ wsX10, w ∈ wsX3_tellPerson := by decide +kernel
  have hin3 : ∀ w ∈ wsX30, w ∈ wsX3_tellPerson := by decide +kernel
  refine lv_aload_n hx hb dX3_tellPerson_0 rfl (lv_at hl 0 rfl) ?_
  refine hd_callVi (As := []) (rest := []) ⟨hx, hb, hml, hown, hts⟩ hE hP hS (c_X3_kindNamed l G u F T ln hl9 h4 h5 hF) rfl (cwV 0 hts gX3_tellPerson_X3_kindNamed rfl rfl rfl (by decide +kernel) ⟨Nat.le_of_ble_eq_true rfl, Nat.le_of_ble_eq_true rfl⟩) (tx_recv hE hP) rfl hl.1 rfl (Nat.le_of_ble_eq_true rfl) dX3_tellPerson_1 (fun rq_1 vq_1 H locs q_1 hP hS => ?_)
  have hP := hP.cast (q_1.2)
  refine lv_cast q_1.1 ?_
  refine lv_istore_n (lv' := [(2, .int (knV T F)), (0, .ref (gad G 22)), (1, .ref (gS G 1))]) hx hb dX3_tellPerson_4 rfl hl (by decide) rfl (fun ls hl => ?_)
  refine lv_iload_n hx hb dX3_tellPerson_5 rfl (lv_at hl 0 rfl) ?_
  refine lv_if_lt (tgt := 16) hx hb dX3_tellPerson_6 (by decide) (fun c_2 => ?_) (fun c_2 => ?_)
  · skip
    refine lv_iconst (v := 0) hx hb dX3_tellPerson_16 (by decide) ?_
    exact hd_zret hx hb hr hlocks hP hS (tp_ofi (b := false) (A := F) (B := M) (by first | (simp only [tpR, tpL, tpT, c_2, ↓reduceIte]; done) | (simp [tpR, tpL, tpT, c_2]; done)) rfl (by rw [sI_id h4, sI_id h1])) rfl dX3_tellPerson_17
  · skip
    refine lv_aload_n hx hb dX3_tellPerson_9 rfl (lv_at hl 2 rfl) ?_
    refine hd_callVi (As := []) (rest := []) ⟨hx, hb, hml, hown, hts⟩ hE hP hS (c_X1_isFull l G u 1 (by decide) M) ((sI_id h1).symm) (cwV 0 hts gX3_tellPerson_X1_isFull rfl rfl rfl (by decide +kernel) ⟨Nat.le_of_ble_eq_true rfl, Nat.le_of_ble_eq_true rfl⟩) (sc_recv hE hP (by decide)) rfl hl.1 rfl (Nat.le_of_ble_eq_true rfl) dX3_tellPerson_10 (fun rq_3 vq_3 H locs q_3 hP hS => ?_)
    have hP := hP.cast (q_3.2.trans ((sI_id h1).symm).symm)
    refine lv_cast q_3.1 ?_
    refine bo_eq (tgt := 18) hx hb dX3_tellPerson_13 (by decide) (fun c_4 => ?_) (fun c_4 => ?_)
    · skip
      have hn8 : n9 < 8 := full_m hn hn9 c_4
      refine lv_aload_n hx hb dX3_tellPerson_18 rfl (lv_at hl 1 rfl) ?_
      refine lv_sipush (v := 999) hx hb dX3_tellPerson_19 (by decide) ?_
      refine hd_callVi (As := [.int 999]) (rest := []) ⟨hx, hb, hml, hown, hts⟩ hE hP hS (c_X3_isNumberNext l G u F T ln hl9 h4 h5 hF.A 999) rfl (cwV 1 hts gX3_tellPerson_X3_isNumberNext rfl rfl rfl (by decide +kernel) ⟨Nat.le_of_ble_eq_true rfl, Nat.le_of_ble_eq_true rfl⟩) (tx_recv hE hP) rfl hl.1 rfl (Nat.le_of_ble_eq_true rfl) dX3_tellPerson_22 (fun rq_5 vq_5 H locs q_5 hP hS => ?_)
      have hP := hP.cast (q_5.2)
      refine lv_cast q_5.1 ?_
      refine bo_ne (tgt := 30) hx hb dX3_tellPerson_25 (by decide) (fun c_6 => ?_) (fun c_6 => ?_)
      · skip
        refine lv_aload_n hx hb dX3_tellPerson_30 rfl (lv_at hl 2 rfl) ?_
        refine lv_iload_n hx hb dX3_tellPerson_31 rfl (lv_at hl 0 rfl) ?_
        refine lv_aload_n hx hb dX3_tellPerson_32 rfl (lv_at hl 1 rfl) ?_
        refine tx_get hx hb hts hin3 hown hE hP (sI_at _ _ _) 5 (by decide) (hts (.fieldLink RX3 28 "HeldDoor$Text" "number" "I") (by decide +kernel)) (v := .int ((ntF T ln F) 5)) rfl dX3_tellPerson_33 ?_
        refine hd_callVi (As := [.int (knV T F), .int ((ntF T ln F) 5)]) (rest := []) ⟨hx, hb, hml, hown, hts⟩ hE hP hS (c_X1_add l G (sI u 4 (ntF T ln F)) 1 (by decide) M n9 hn (by omega) (knV T F) ((ntF T ln F) 5)) ((sI_id ((sI_ne _ _ (by decide)).trans h1)).symm) (cwV 2 hts gX3_tellPerson_X1_add rfl rfl rfl (by decide +kernel) ⟨Nat.le_of_ble_eq_true rfl, Nat.le_of_ble_eq_true rfl⟩) (sc_recv hE hP (by decide)) rfl hl.1 rfl (Nat.le_of_ble_eq_true rfl) dX3_tellPerson_36 (fun rq_7 vq_7 H locs q_7 hP hS => ?_)
        have hP := hP.cast (q_7.2)
        refine lv_cast q_7.1 ?_
        refine lv_istore_n (lv' := [(3, .int (nI n9)), (2, .int (knV T F)), (0, .ref (gad G 22)), (1, .ref (gS G 1))]) hx hb dX3_tellPerson_39 rfl hl (by decide) rfl (fun ls hl => ?_)
        refine lv_aload_n hx hb dX3_tellPerson_40 rfl (lv_at hl 2 rfl) ?_
        refine hd_callVv (As := []) (rest := []) ⟨hx, hb, hml, hown, hts⟩ hE hP hS (c_X3_nextToken2 l G (sI (sI u 4 (ntF T ln F)) 1 (adC M n9 (knV T F) ((ntF T ln F) 5))) (ntF T ln F) T ln hl9 ((sI_ne _ _ (by decide)).trans (sI_at _ _ _)) ((sI_ne _ _ (by decide)).trans ((sI_ne _ _ (by decide)).trans h5)) (TF_nt hl9 hF.A).A) rfl (cwV 0 hts gX3_tellPerson_X3_nextToken rfl rfl rfl (by decide +kernel) ⟨Nat.le_of_ble_eq_true rfl, Nat.le_of_ble_eq_true rfl⟩) (tx_recv hE hP) rfl hl.1 rfl (Nat.le_of_ble_eq_true rfl) dX3_tellPerson_41 (fun vq_8 H locs q_8 hP hS => ?_)
        have q_8v := q_8
        have hP := hP.cast (q_8v.trans (sI_mid _ _ _ _ (by decide)))
        refine lv_aload_n hx hb dX3_tellPerson_44 rfl (lv_at hl 2 rfl) ?_
        refine va_ldcS hx hb hown (hE.2.2.1.2 6 (by decide)) dX3_tellPerson_45 ?_
        refine hd_callVi (As := [.ref (gK G 6)]) (rest := []) ⟨hx, hb, hml, hown, hts⟩ hE hP hS (c_X3_isWord l G (sI (sI u 1 (adC M n9 (knV T F) ((ntF T ln F) 5))) 4 (ntF T ln (ntF T ln F))) (ntF T ln (ntF T ln F)) T ln hl9 (sI_at _ _ _) ((sI_ne _ _ (by decide)).trans ((sI_ne _ _ (by decide)).trans h5)) (TF_nt hl9 (TF_nt hl9 hF.A).A) 6 (by decide)) rfl (cwV 1 hts gX3_tellPerson_X3_isWord rfl rfl rfl (by decide +kernel) ⟨Nat.le_of_ble_eq_true rfl, Nat.le_of_ble_eq_true rfl⟩) (tx_recv hE hP) rfl hl.1 rfl (Nat.le_of_ble_eq_true rfl) dX3_tellPerson_47 (fun rq_9 vq_9 H locs q_9 hP hS => ?_)
        have hP := hP.cast (q_9.2)
        refine lv_cast q_9.1 ?_
        refine bo_eq (tgt := 78) hx hb dX3_tellPerson_50 (by decide) (fun c_10 => ?_) (fun c_10 => ?_)
        · skip
          refine lv_aload_n hx hb dX3_tellPerson_78 rfl (lv_at hl 2 rfl) ?_
          refine va_ldcS hx hb hown (hE.2.2.1.2 7 (by decide)) dX3_tellPerson_79 ?_
          refine hd_callVi (As := [.ref (gK G 7)]) (rest := []) ⟨hx, hb, hml, hown, hts⟩ hE hP hS (c_X3_isWord l G (sI (sI u 1 (adC M n9 (knV T F) ((ntF T ln F) 5))) 4 (ntF T ln (ntF T ln F))) (ntF T ln (ntF T ln F)) T ln hl9 (sI_at _ _ _) ((sI_ne _ _ (by decide)).trans ((sI_ne _ _ (by decide)).trans h5)) (TF_nt hl9 (TF_nt hl9 hF.A).A) 7 (by decide)) rfl (cwV 1 hts gX3_tellPerson_X3_isWord rfl rfl rfl (by decide +kernel) ⟨Nat.le_of_ble_eq_true rfl, Nat.le_of_ble_eq_true rfl⟩) (tx_recv hE hP) rfl hl.1 rfl (Nat.le_of_ble_eq_true rfl) dX3_tellPerson_81 (fun rq_11 vq_11 H locs q_11 hP hS => ?_)
          have hP := hP.cast (q_11.2)
          refine lv_cast q_11.1 ?_
          refine bo_eq (tgt := 98) hx hb dX3_tellPerson_84 (by decide) (fun c_12 => ?_) (fun c_12 => ?_)
          · skip
            refine lv_iconst (v := 1) hx hb dX3_tellPerson_98 (by decide) ?_
            exact hd_zret hx hb hr hlocks hP hS (tp_ofi (b := true) (A := ntF T ln (ntF T ln F)) (B := adC M n9 (knV T F) ((ntF T ln F) 5)) (by first | (simp only [tpR, tpL, tpT, c_2, c_4, c_6, c_10, c_12, ↓reduceIte]; done) | (simp [tpR, tpL, tpT, c_2, c_4, c_6, c_10, c_12]; done)) rfl (sI_comm _ _ _ (by decide))) rfl dX3_tellPerson_99
          · skip
            refine lv_aload_n hx hb dX3_tellPerson_87 rfl (lv_at hl 3 rfl) ?_
            refine sc_get hx hb hts hin1 hown hE hP (by decide) ((sI_ne _ _ (by decide)).trans (sI_at _ _ _)) 6 (by decide) (hts (.fieldLink RX3 79 "HeldDoor$Scene" "badges" "[I") (by decide +kernel)) (v := .ref (gSA G 1 1)) rfl dX3_tellPerson_88 ?_
            refine lv_iload_n hx hb dX3_tellPerson_91 rfl (lv_at hl 0 rfl) ?_
            refine lv_iconst (v := 0) hx hb dX3_tellPerson_92 (by decide) ?_
            refine sc_ast hx hb hE hP hS (by decide) ((sI_ne _ _ (by decide)).trans (sI_at _ _ _)) 1 (by decide) n9 (by omega) (sI_mid _ _ _ _ (by decide)) dX3_tellPerson_93 (fun H locs hP hS => ?_)
            refine lv_aload_n hx hb dX3_tellPerson_94 rfl (lv_at hl 2 rfl) ?_
            refine hd_callVv (As := []) (rest := []) ⟨hx, hb, hml, hown, hts⟩ hE hP hS (c_X3_nextToken2 l G (sI (sI u 4 (ntF T ln (ntF T ln F))) 1 (upd (adC M n9 (knV T F) ((ntF T ln F) 5)) (5 + 6 * n9 + 1) 0)) (ntF T ln (ntF T ln F)) T ln hl9 ((sI_ne _ _ (by decide)).trans (sI_at _ _ _)) ((sI_ne _ _ (by decide)).trans ((sI_ne _ _ (by decide)).trans h5)) (TF_nt hl9 (TF_nt hl9 hF.A).A).A) rfl (cwV 0 hts gX3_tellPerson_X3_nextToken rfl rfl rfl (by decide +kernel) ⟨Nat.le_of_ble_eq_true rfl, Nat.le_of_ble_eq_true rfl⟩) (tx_recv hE hP) rfl hl.1 rfl (Nat.le_of_ble_eq_true rfl) dX3_tellPerson_95 (fun vq_13 H locs q_13 hP hS => ?_)
            have q_13v := q_13
            have hP := hP.cast (q_13v.trans (sI_mid _ _ _ _ (by decide)))
            refine lv_iconst (v := 1) hx hb dX3_tellPerson_98 (by decide) ?_
            exact hd_zret hx hb hr hlocks hP hS (tp_ofi (b := true) (A := ntF T ln (ntF T ln (ntF T ln F))) (B := upd (adC M n9 (knV T F) ((ntF T ln F) 5)) (5 + 6 * n9 + 1) 0) (by first | (simp only [tpR, tpL, tpT, c_2, c_4, c_6, c_10, c_12, ↓reduceIte]; done) | (simp [tpR, tpL, tpT, c_2, c_4, c_6, c_10, c_12]; done)) rfl (sI_comm _ _ _ (by decide))) rfl dX3_tellPerson_99
        · skip
          refine lv_aload_n hx hb dX3_tellPerson_53 rfl (lv_at hl 2 rfl) ?_
          refine lv_bipush (v := 9) hx hb dX3_tellPerson_54 (by decide) ?_
          refine hd_callVi (As := [.int 9]) (rest := []) ⟨hx, hb, hml, hown, hts⟩ hE hP hS (c_X3_isNumberNext l G (sI (sI u 1 (adC M n9 (knV T F) ((ntF T ln F) 5))) 4 (ntF T ln (ntF T ln F))) (ntF T ln (ntF T ln F)) T ln hl9 (sI_at _ _ _) ((sI_ne _ _ (by decide)).trans ((sI_ne _ _ (by decide)).trans h5)) (TF_nt hl9 (TF_nt hl9 hF.A).A).A 9) rfl (cwV 1 hts gX3_tellPerson_X3_isNumberNext rfl rfl rfl (by decide +kernel) ⟨Nat.le_of_ble_eq_true rfl, Nat.le_of_ble_eq_true rfl⟩) (tx_recv hE hP) rfl hl.1 rfl (Nat.le_of_ble_eq_true rfl) dX3_tellPerson_56 (fun rq_14 vq_14 H locs q_14 hP hS => ?_)
          obtain ⟨q_14r, q_14v⟩ := q_14
          have hP := hP.cast (q_14v.trans (sI_sI _ _ _ _))
          refine lv_cast q_14r ?_
          refine bo_ne (tgt := 64) hx hb dX3_tellPerson_59 (by decide) (fun c_15 => ?_) (fun c_15 => ?_)
          · skip
            refine lv_aload_n hx hb dX3_tellPerson_64 rfl (lv_at hl 3 rfl) ?_
            refine sc_get hx hb hts hin1 hown hE hP (by decide) ((sI_ne _ _ (by decide)).trans (sI_at _ _ _)) 7 (by decide) (hts (.fieldLink RX3 73 "HeldDoor$Scene" "loads" "[I") (by decide +kernel)) (v := .ref (gSA G 1 2)) rfl dX3_tellPerson_65 ?_
            refine lv_iload_n hx hb dX3_tellPerson_68 rfl (lv_at hl 0 rfl) ?_
            refine lv_aload_n hx hb dX3_tellPerson_69 rfl (lv_at hl 2 rfl) ?_
            refine tx_get hx hb hts hin3 hown hE hP (sI_at _ _ _) 5 (by decide) (hts (.fieldLink RX3 28 "HeldDoor$Text" "number" "I") (by decide +kernel)) (v := .int ((ntF T ln (ntF T ln (ntF T ln F))) 5)) rfl dX3_tellPerson_70 ?_
            refine sc_ast hx hb hE hP hS (by decide) ((sI_ne _ _ (by decide)).trans (sI_at _ _ _)) 2 (by decide) n9 (by omega) (sI_mid _ _ _ _ (by decide)) dX3_tellPerson_73 (fun H locs hP hS => ?_)
            refine lv_aload_n hx hb dX3_tellPerson_74 rfl (lv_at hl 2 rfl) ?_
            refine hd_callVv (As := []) (rest := []) ⟨hx, hb, hml, hown, hts⟩ hE hP hS (c_X3_nextToken2 l G (sI (sI u 4 (ntF T ln (ntF T ln (ntF T ln F)))) 1 (upd (adC M n9 (knV T F) ((ntF T ln F) 5)) (5 + 6 * n9 + 2) ((ntF T ln (ntF T ln (ntF T ln F))) 5))) (ntF T ln (ntF T ln (ntF T ln F))) T ln hl9 ((sI_ne _ _ (by decide)).trans (sI_at _ _ _)) ((sI_ne _ _ (by decide)).trans ((sI_ne _ _ (by decide)).trans h5)) (TF_nt hl9 (TF_nt hl9 (TF_nt hl9 hF.A).A).A).A) rfl (cwV 0 hts gX3_tellPerson_X3_nextToken rfl rfl rfl (by decide +kernel) ⟨Nat.le_of_ble_eq_true rfl, Nat.le_of_ble_eq_true rfl⟩) (tx_recv hE hP) rfl hl.1 rfl (Nat.le_of_ble_eq_true rfl) dX3_tellPerson_75 (fun vq_16 H locs q_16 hP hS => ?_)
            have q_16v := q_16
            have hP := hP.cast (q_16v.trans (sI_mid _ _ _ _ (by decide)))
            refine lv_aload_n hx hb dX3_tellPerson_78 rfl (lv_at hl 2 rfl) ?_
            refine va_ldcS hx hb hown (hE.2.2.1.2 7 (by decide)) dX3_tellPerson_79 ?_
            refine hd_callVi (As := [.ref (gK G 7)]) (rest := []) ⟨hx, hb, hml, hown, hts⟩ hE hP hS (c_X3_isWord l G (sI (sI u 1 (upd (adC M n9 (knV T F) ((ntF T ln F) 5)) (5 + 6 * n9 + 2) ((ntF T ln (ntF T ln (ntF T ln F))) 5))) 4 (ntF T ln (ntF T ln (ntF T ln (ntF T ln F))))) (ntF T ln (ntF T ln (ntF T ln (ntF T ln F)))) T ln hl9 (sI_at _ _ _) ((sI_ne _ _ (by decide)).trans ((sI_ne _ _ (by decide)).trans h5)) (TF_nt hl9 (TF_nt hl9 (TF_nt hl9 (TF_nt hl9 hF.A).A).A).A) 7 (by decide)) rfl (cwV 1 hts gX3_tellPerson_X3_isWord rfl rfl rfl (by decide +kernel) ⟨Nat.le_of_ble_eq_true rfl, Nat.le_of_ble_eq_true rfl⟩) (tx_recv hE hP) rfl hl.1 rfl (Nat.le_of_ble_eq_true rfl) dX3_tellPerson_81 (fun rq_17 vq_17 H locs q_17 hP hS => ?_)
            have hP := hP.cast (q_17.2)
            refine lv_cast q_17.1 ?_
            refine bo_eq (tgt := 98) hx hb dX3_tellPerson_84 (by decide) (fun c_18 => ?_) (fun c_18 => ?_)
            · skip
              refine lv_iconst (v := 1) hx hb dX3_tellPerson_98 (by decide) ?_
              exact hd_zret hx hb hr hlocks hP hS (tp_ofi (b := true) (A := ntF T ln (ntF T ln (ntF T ln (ntF T ln F)))) (B := upd (adC M n9 (knV T F) ((ntF T ln F) 5)) (5 + 6 * n9 + 2) ((ntF T ln (ntF T ln (ntF T ln F))) 5)) (by first | (simp only [tpR, tpL, tpT, c_2, c_4, c_6, c_10, c_15, c_18, ↓reduceIte]; done) | (simp [tpR, tpL, tpT, c_2, c_4, c_6, c_10, c_15, c_18]; done)) rfl (sI_comm _ _ _ (by decide))) rfl dX3_tellPerson_99
            · skip
              refine lv_aload_n hx hb dX3_tellPerson_87 rfl (lv_at hl 3 rfl) ?_
              refine sc_get hx hb hts hin1 hown hE hP (by decide) ((sI_ne _ _ (by decide)).trans (sI_at _ _ _)) 6 (by decide) (hts (.fieldLink RX3 79 "HeldDoor$Scene" "badges" "[I") (by decide +kernel)) (v := .ref (gSA G 1 1)) rfl dX3_tellPerson_88 ?_
              refine lv_iload_n hx hb dX3_tellPerson_91 rfl (lv_at hl 0 rfl) ?_
              refine lv_iconst (v := 0) hx hb dX3_tellPerson_92 (by decide) ?_
              refine sc_ast hx hb hE hP hS (by decide) ((sI_ne _ _ (by decide)).trans (sI_at _ _ _)) 1 (by decide) n9 (by omega) (sI_mid _ _ _ _ (by decide)) dX3_tellPerson_93 (fun H locs hP hS => ?_)
              refine lv_aload_n hx hb dX3_tellPerson_94 rfl (lv_at hl 2 rfl) ?_
              refine hd_callVv (As := []) (rest := []) ⟨hx, hb, hml, hown, hts⟩ hE hP hS (c_X3_nextToken2 l G (sI (sI u 4 (ntF T ln (ntF T ln (ntF T ln (ntF T ln F))))) 1 (upd (upd (adC M n9 (knV T F) ((ntF T ln F) 5)) (5 + 6 * n9 + 2) ((ntF T ln (ntF T ln (ntF T ln F))) 5)) (5 + 6 * n9 + 1) 0)) (ntF T ln (ntF T ln (ntF T ln (ntF T ln F)))) T ln hl9 ((sI_ne _ _ (by decide)).trans (sI_at _ _ _)) ((sI_ne _ _ (by decide)).trans ((sI_ne _ _ (by decide)).trans h5)) (TF_nt hl9 (TF_nt hl9 (TF_nt hl9 (TF_nt hl9 hF.A).A).A).A).A) rfl (cwV 0 hts gX3_tellPerson_X3_nextToken rfl rfl rfl (by decide +kernel) ⟨Nat.le_of_ble_eq_true rfl, Nat.le_of_ble_eq_true rfl⟩) (tx_recv hE hP) rfl hl.1 rfl (Nat.le_of_ble_eq_true rfl) dX3_tellPerson_95 (fun vq_19 H locs q_19 hP hS => ?_)
              have q_19v := q_19
              have hP := hP.cast (q_19v.trans (sI_mid _ _ _ _ (by decide)))
              refine lv_iconst (v := 1) hx hb dX3_tellPerson_98 (by decide) ?_
              exact hd_zret hx hb hr hlocks hP hS (tp_ofi (b := true) (A := ntF T ln (ntF T ln (ntF T ln (ntF T ln (ntF T ln F))))) (B := upd (upd (adC M n9 (knV T F) ((ntF T ln F) 5)) (5 + 6 * n9 + 2) ((ntF T ln (ntF T ln (ntF T ln F))) 5)) (5 + 6 * n9 + 1) 0) (by first | (simp only [tpR, tpL, tpT, c_2, c_4, c_6, c_10, c_15, c_18, ↓reduceIte]; done) | (simp [tpR, tpL, tpT, c_2, c_4, c_6, c_10, c_15, c_18]; done)) rfl (sI_comm _ _ _ (by decide))) rfl dX3_tellPerson_99
          · skip
            refine lv_iconst (v := 0) hx hb dX3_tellPerson_62 (by decide) ?_
            exact hd_zret hx hb hr hlocks hP hS (tp_ofi (b := false) (A := ntF T ln (ntF T ln (ntF T ln F))) (B := adC M n9 (knV T F) ((ntF T ln F) 5)) (by first | (simp only [tpR, tpL, tpT, c_2, c_4, c_6, c_10, c_15, ↓reduceIte]; done) | (simp [tpR, tpL, tpT, c_2, c_4, c_6, c_10, c_15]; done)) rfl (sI_comm _ _ _ (by decide))) rfl dX3_tellPerson_63
      · skip
        refine lv_iconst (v := 0) hx hb dX3_tellPerson_28 (by decide) ?_
        exact hd_zret hx hb hr hlocks hP hS (tp_ofi (b := false) (A := ntF T ln F) (B := M) (by first | (simp only [tpR, tpL, tpT, c_2, c_4, c_6, ↓reduceIte]; done) | (simp [tpR, tpL, tpT, c_2, c_4, c_6]; done)) rfl (sI_id ((sI_ne _ _ (by decide)).trans h1)).symm) rfl dX3_tellPerson_29
    · skip
      refine lv_iconst (v := 0) hx hb dX3_tellPerson_16 (by decide) ?_
      exact hd_zret hx hb hr hlocks hP hS (tp_ofi (b := false) (A := F) (B := M) (by first | (simp only [tpR, tpL, tpT, c_2, c_4, ↓reduceIte]; done) | (simp [tpR, tpL, tpT, c_2, c_4]; done)) rfl (by rw [sI_id h4, sI_id h1])) rfl dX3_tellPerson_17
set_option maxHeartbeats 4000000 in
set_option maxRecDepth 100000 in
theorem c_X3_tellItem (l : Launch) (G : Geo) (u : Sg) (F T : Nat → Int32) (ln : Nat) (hl9 : ln ≤ 120) (h4 : u.1 4 = F) (h5 : u.1 5 = T) (hF : TF ln F) (M : Nat → Int32) (h1 : u.1 1 = M) (n9 : Nat) (hn9 : n9 ≤ 8) (hn : M 4 = nI n9) : CtI l G yX3_tellItem wsX3_tellItem (rmO 7 152) [.ref (gad G 22), .ref (gS G 1)] u (fun r v => r = bI (tiR T ln F M n9).1 ∧ v = sI (sI u 4 (tiR T ln F M n9).2.1) 1 (tiR T ln F M n9).2.2) := by
  refine CtI.of (cc := cX3_tellItem) (maxL := 2) (ret := (some .boolean)) (own := RX3) (by decide) rfl rfl ?_
  rintro pg ev s0 mm below meth cd ⟨hx, hb, hr, hml, hown, hts, hlocks⟩ hE hP ls hl
  have hS : va_S (gA G) s0.heap s0.heap [] := va_S.rf
  have hl : lv_has ls 2 [(0, .ref (gad G 22)), (1, .ref (gS G 1))] := hl
  have hin1 : ∀ w ∈ wsX10, w ∈ wsX3_tellItem := by decide +kernel
  have hin3 : ∀ w ∈ wsX30, w ∈ wsX3_tellItem := by decide +kernel
  refine lv_aload_n hx hb dX3_tellItem_0 rfl (lv_at hl 0 rfl) ?_
  refine va_ldcS hx hb hown (hE.2.2.1.2 8 (by decide)) dX3_tellItem_1 ?_
  refine hd_callVi (As := [.ref (gK G 8)]) (rest := []) ⟨hx, hb, hml, hown, hts⟩ hE hP hS (c_X3_isWord l G u F T ln hl9 h4 h5 hF 8 (by decide)) rfl (cwV 1 hts gX3_tellItem_X3_isWord rfl rfl rfl (by decide +kernel) ⟨Nat.le_of_ble_eq_true rfl, Nat.le_of_ble_eq_true rfl⟩) (tx_recv hE hP) rfl hl.1 rfl (Nat.le_of_ble_eq_true rfl) dX3_tellItem_3 (fun rq_1 vq_1 H locs q_1 hP hS => ?_)
  have hP := hP.cast (q_1.2)
  refine lv_cast q_1.1 ?_
  refine bo_eq (tgt := 31) hx hb dX3_tellItem_6 (by decide) (fun c_2 => ?_) (fun c_2 => ?_)
  · skip
    refine lv_aload_n hx hb dX3_tellItem_31 rfl (lv_at hl 0 rfl) ?_
    refine va_ldcS hx hb hown (hE.2.2.1.2 9 (by decide)) dX3_tellItem_32 ?_
    refine hd_callVi (As := [.ref (gK G 9)]) (rest := []) ⟨hx, hb, hml, hown, hts⟩ hE hP hS (c_X3_isWord l G u F T ln hl9 h4 h5 hF 9 (by decide)) rfl (cwV 1 hts gX3_tellItem_X3_isWord rfl rfl rfl (by decide +kernel) ⟨Nat.le_of_ble_eq_true rfl, Nat.le_of_ble_eq_true rfl⟩) (tx_recv hE hP) rfl hl.1 rfl (Nat.le_of_ble_eq_true rfl) dX3_tellItem_34 (fun rq_3 vq_3 H locs q_3 hP hS => ?_)
    have hP := hP.cast (q_3.2)
    refine lv_cast q_3.1 ?_
    refine bo_eq (tgt := 62) hx hb dX3_tellItem_37 (by decide) (fun c_4 => ?_) (fun c_4 => ?_)
    · skip
      refine lv_aload_n hx hb dX3_tellItem_62 rfl (lv_at hl 0 rfl) ?_
      refine lv_aload_n hx hb dX3_tellItem_63 rfl (lv_at hl 1 rfl) ?_
      refine hd_callVi (As := [.ref (gS G 1)]) (rest := []) ⟨hx, hb, hml, hown, hts⟩ hE hP hS (c_X3_tellPerson l G u F T ln hl9 h4 h5 hF M h1 n9 hn9 hn) rfl (cwV 1 hts gX3_tellItem_X3_tellPerson rfl rfl rfl (by decide +kernel) ⟨Nat.le_of_ble_eq_true rfl, Nat.le_of_ble_eq_true rfl⟩) (tx_recv hE hP) rfl hl.1 rfl (Nat.le_of_ble_eq_true rfl) dX3_tellItem_64 (fun rq_5 vq_5 H locs q_5 hP hS => ?_)
      have hP := hP.cast (q_5.2)
      refine lv_cast q_5.1 ?_
      exact hd_zret hx hb hr hlocks hP hS (show _ from by rw [show tiR T ln F M n9 = tpR T ln F M n9 from (by simp only [tiR, c_2, c_4, ↓reduceIte] <;> rfl)]; exact ⟨rfl, rfl⟩) bI_n dX3_tellItem_67
    · skip
      refine lv_aload_n hx hb dX3_tellItem_40 rfl (lv_at hl 0 rfl) ?_
      refine lv_bipush (v := 60) hx hb dX3_tellItem_41 (by decide) ?_
      refine hd_callVi (As := [.int 60]) (rest := []) ⟨hx, hb, hml, hown, hts⟩ hE hP hS (c_X3_isNumberNext l G u F T ln hl9 h4 h5 hF.A 60) rfl (cwV 1 hts gX3_tellItem_X3_isNumberNext rfl rfl rfl (by decide +kernel) ⟨Nat.le_of_ble_eq_true rfl, Nat.le_of_ble_eq_true rfl⟩) (tx_recv hE hP) rfl hl.1 rfl (Nat.le_of_ble_eq_true rfl) dX3_tellItem_43 (fun rq_6 vq_6 H locs q_6 hP hS => ?_)
      have hP := hP.cast (q_6.2)
      refine lv_cast q_6.1 ?_
      refine bo_ne (tgt := 51) hx hb dX3_tellItem_46 (by decide) (fun c_7 => ?_) (fun c_7 => ?_)
      · skip
        refine lv_aload_n hx hb dX3_tellItem_51 rfl (lv_at hl 1 rfl) ?_
        refine lv_aload_n hx hb dX3_tellItem_52 rfl (lv_at hl 0 rfl) ?_
        refine tx_get hx hb hts hin3 hown hE hP (sI_at _ _ _) 5 (by decide) (hts (.fieldLink RX3 28 "HeldDoor$Text" "number" "I") (by decide +kernel)) (v := .int ((ntF T ln F) 5)) rfl dX3_tellItem_53 ?_
        refine sc_put hx hb hts hin1 hown hE hP hS (by decide) ((sI_ne _ _ (by decide)).trans h1) 2 (by decide) (hts (.fieldLink RX3 54 "HeldDoor$Scene" "open" "I") (by decide +kernel)) rfl dX3_tellItem_56 (fun H locs hP hS => ?_)
        refine lv_goto (tgt := 68) hx hb dX3_tellItem_59 (by decide) ?_
        refine lv_aload_n hx hb dX3_tellItem_68 rfl (lv_at hl 0 rfl) ?_
        refine hd_callVv (As := []) (rest := []) ⟨hx, hb, hml, hown, hts⟩ hE hP hS (c_X3_nextToken2 l G (sI (sI u 4 (ntF T ln F)) 1 (upd M 2 ((ntF T ln F) 5))) (ntF T ln F) T ln hl9 ((sI_ne _ _ (by decide)).trans (sI_at _ _ _)) ((sI_ne _ _ (by decide)).trans ((sI_ne _ _ (by decide)).trans h5)) (TF_nt hl9 hF.A).A) rfl (cwV 0 hts gX3_tellItem_X3_nextToken rfl rfl rfl (by decide +kernel) ⟨Nat.le_of_ble_eq_true rfl, Nat.le_of_ble_eq_true rfl⟩) (tx_recv hE hP) rfl hl.1 rfl (Nat.le_of_ble_eq_true rfl) dX3_tellItem_69 (fun vq_8 H locs q_8 hP hS => ?_)
        have q_8v := q_8
        have hP := hP.cast (q_8v.trans (sI_mid _ _ _ _ (by decide)))
        refine lv_iconst (v := 1) hx hb dX3_tellItem_72 (by decide) ?_
        exact hd_zret hx hb hr hlocks hP hS (tp_ofi (b := true) (A := ntF T ln (ntF T ln F)) (B := upd M 2 ((ntF T ln F) 5)) (by first | (simp only [tiR, c_2, c_4, c_7, ↓reduceIte]; done) | (simp [tiR, c_2, c_4, c_7]; done)) rfl (sI_comm _ _ _ (by decide))) rfl dX3_tellItem_73
      · skip
        refine lv_iconst (v := 0) hx hb dX3_tellItem_49 (by decide) ?_
        exact hd_zret hx hb hr hlocks hP hS (tp_ofi (b := false) (A := ntF T ln F) (B := M) (by first | (simp only [tiR, c_2, c_4, c_7, ↓reduceIte]; done) | (simp [tiR, c_2, c_4, c_7]; done)) rfl (sI_id ((sI_ne _ _ (by decide)).trans h1)).symm) rfl dX3_tellItem_50
  · skip
    refine lv_aload_n hx hb dX3_tellItem_9 rfl (lv_at hl 0 rfl) ?_
    refine lv_bipush (v := 99) hx hb dX3_tellItem_10 (by decide) ?_
    refine hd_callVi (As := [.int 99]) (rest := []) ⟨hx, hb, hml, hown, hts⟩ hE hP hS (c_X3_isNumberNext l G u F T ln hl9 h4 h5 hF.A 99) rfl (cwV 1 hts gX3_tellItem_X3_isNumberNext rfl rfl rfl (by decide +kernel) ⟨Nat.le_of_ble_eq_true rfl, Nat.le_of_ble_eq_true rfl⟩) (tx_recv hE hP) rfl hl.1 rfl (Nat.le_of_ble_eq_true rfl) dX3_tellItem_12 (fun rq_9 vq_9 H locs q_9 hP hS => ?_)
    have hP := hP.cast (q_9.2)
    refine lv_cast q_9.1 ?_
    refine bo_ne (tgt := 20) hx hb dX3_tellItem_15 (by decide) (fun c_10 => ?_) (fun c_10 => ?_)
    · skip
      refine lv_aload_n hx hb dX3_tellItem_20 rfl (lv_at hl 1 rfl) ?_
      refine lv_aload_n hx hb dX3_tellItem_21 rfl (lv_at hl 0 rfl) ?_
      refine tx_get hx hb hts hin3 hown hE hP (sI_at _ _ _) 5 (by decide) (hts (.fieldLink RX3 28 "HeldDoor$Text" "number" "I") (by decide +kernel)) (v := .int ((ntF T ln F) 5)) rfl dX3_tellItem_22 ?_
      refine sc_put hx hb hts hin1 hown hE hP hS (by decide) ((sI_ne _ _ (by decide)).trans h1) 1 (by decide) (hts (.fieldLink RX3 48 "HeldDoor$Scene" "care" "I") (by decide +kernel)) rfl dX3_tellItem_25 (fun H locs hP hS => ?_)
      refine lv_goto (tgt := 68) hx hb dX3_tellItem_28 (by decide) ?_
      refine lv_aload_n hx hb dX3_tellItem_68 rfl (lv_at hl 0 rfl) ?_
      refine hd_callVv (As := []) (rest := []) ⟨hx, hb, hml, hown, hts⟩ hE hP hS (c_X3_nextToken2 l G (sI (sI u 4 (ntF T ln F)) 1 (upd M 1 ((ntF T ln F) 5))) (ntF T ln F) T ln hl9 ((sI_ne _ _ (by decide)).trans (sI_at _ _ _)) ((sI_ne _ _ (by decide)).trans ((sI_ne _ _ (by decide)).trans h5)) (TF_nt hl9 hF.A).A) rfl (cwV 0 hts gX3_tellItem_X3_nextToken rfl rfl rfl (by decide +kernel) ⟨Nat.le_of_ble_eq_true rfl, Nat.le_of_ble_eq_true rfl⟩) (tx_recv hE hP) rfl hl.1 rfl (Nat.le_of_ble_eq_true rfl) dX3_tellItem_69 (fun vq_11 H locs q_11 hP hS => ?_)
      have q_11v := q_11
      have hP := hP.cast (q_11v.trans (sI_mid _ _ _ _ (by decide)))
      refine lv_iconst (v := 1) hx hb dX3_tellItem_72 (by decide) ?_
      exact hd_zret hx hb hr hlocks hP hS (tp_ofi (b := true) (A := ntF T ln (ntF T ln F)) (B := upd M 1 ((ntF T ln F) 5)) (by first | (simp only [tiR, c_2, c_10, ↓reduceIte]; done) | (simp [tiR, c_2, c_10]; done)) rfl (sI_comm _ _ _ (by decide))) rfl dX3_tellItem_73
    · skip
      refine lv_iconst (v := 0) hx hb dX3_tellItem_18 (by decide) ?_
      exact hd_zret hx hb hr hlocks hP hS (tp_ofi (b := false) (A := ntF T ln F) (B := M) (by first | (simp only [tiR, c_2, c_10, ↓reduceIte]; done) | (simp [tiR, c_2, c_10]; done)) rfl (sI_id ((sI_ne _ _ (by decide)).trans h1)).symm) rfl dX3_tellItem_19
