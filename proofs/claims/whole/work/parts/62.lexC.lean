set_option maxHeartbeats 4000000 in
set_option maxRecDepth 100000 in
theorem c_X5_perhaps (l : Launch) (G : Geo) (u : Sg) (X T : Nat → Int32) (ln : Nat) (hl9 : ln ≤ 120) (h14 : u.1 14 = X) (h16 : u.1 16 = T) (hL : LX ln X) (w a b so : Int32) : CtI l G yX5_perhaps wsX5_perhaps (rmO 4 89) [.ref (gad G 34), .int w, .int a, .int b, .int so] u (fun r v => r = pfV T ln X w a b so ∧ v = sI u 14 (pfX T ln X w a b)) := by
  refine CtI.of (cc := cX5_perhaps) (maxL := 5) (ret := (some .int)) (own := RX5) (by decide) rfl rfl ?_
  rintro pg ev s0 mm below meth cd ⟨hx, hb, hr, hml, hown, hts, hlocks⟩ hE hP ls hl
  have hS : va_S (gA G) s0.heap s0.heap [] := va_S.rf
  have hl : lv_has ls 5 [(0, .ref (gad G 34)), (1, .int w), (2, .int a), (3, .int b), (4, .int so)] := hl
  refine lv_aload_n hx hb dX5_perhaps_0 rfl (lv_at hl 0 rfl) ?_
  refine lv_iload_n hx hb dX5_perhaps_1 rfl (lv_at hl 1 rfl) ?_
  refine hd_callVi (As := [.int w]) (rest := []) ⟨hx, hb, hml, hown, hts⟩ hE hP hS (c_X5_passes l G u X T ln hl9 h14 h16 hL w) rfl (cwV 1 hts gX5_perhaps_X5_passes rfl rfl rfl (by decide +kernel) ⟨Nat.le_of_ble_eq_true rfl, Nat.le_of_ble_eq_true rfl⟩) (mo_recv hE hP) rfl hl.1 rfl (Nat.le_of_ble_eq_true rfl) dX5_perhaps_2 (fun rq_1 vq_1 H locs q_1 hP hS => ?_)
  have hP := hP.cast (q_1.2)
  refine lv_cast q_1.1 ?_
  refine bo_eq (tgt := 17) hx hb dX5_perhaps_5 (by decide) (fun c_2 => ?_) (fun c_2 => ?_)
  · skip
    refine lv_iload hx hb dX5_perhaps_17 (lv_at hl 4 rfl) ?_
    exact hd_iret hx hb hr hlocks hP hS ⟨(by simp [pfV, c_2]), (by simp [pfX, c_2])⟩ dX5_perhaps_19
  · skip
    refine lv_aload_n hx hb dX5_perhaps_8 rfl (lv_at hl 0 rfl) ?_
    refine lv_iload_n hx hb dX5_perhaps_9 rfl (lv_at hl 2 rfl) ?_
    refine lv_iload_n hx hb dX5_perhaps_10 rfl (lv_at hl 3 rfl) ?_
    refine hd_callVi (As := [.int a, .int b]) (rest := []) ⟨hx, hb, hml, hown, hts⟩ hE hP hS (c_X5_number l G (sI u 14 (psX T ln X w)) (psX T ln X w) T ln hl9 (sI_at _ _ _) ((sI_ne _ _ (by decide)).trans h16) (LX_ps hl9 hL) a b) rfl (cwV 2 hts gX5_perhaps_X5_number rfl rfl rfl (by decide +kernel) ⟨Nat.le_of_ble_eq_true rfl, Nat.le_of_ble_eq_true rfl⟩) (mo_recv hE hP) rfl hl.1 rfl (Nat.le_of_ble_eq_true rfl) dX5_perhaps_11 (fun rq_3 vq_3 H locs q_3 hP hS => ?_)
    obtain ⟨q_3r, q_3v⟩ := q_3
    have hP := hP.cast (q_3v.trans (sI_sI _ _ _ _))
    refine lv_cast q_3r ?_
    refine lv_goto (tgt := 19) hx hb dX5_perhaps_14 (by decide) ?_
    exact hd_iret hx hb hr hlocks hP hS ⟨(by simp [pfV, c_2]), (by simp [pfX, c_2])⟩ dX5_perhaps_19
set_option maxHeartbeats 4000000 in
set_option maxRecDepth 100000 in
theorem c_X5_personItem (l : Launch) (G : Geo) (u : Sg) (X T : Nat → Int32) (ln : Nat) (hl9 : ln ≤ 120) (h14 : u.1 14 = X) (h16 : u.1 16 = T) (hL : LX ln X) (M : Nat → Int32) (h11 : u.1 11 = M) (n9 : Nat) (hn9 : n9 ≤ 8) (hn : M 4 = nI n9) : CtV l G yX5_personItem wsX5_personItem (rmO 5 113) [.ref (gad G 34)] u (fun v => v = sI (sI u 14 (piX T ln n9 X)) 11 (piM T ln n9 M X)) := by
  refine CtV.of (cc := cX5_personItem) (maxL := 6) (ret := none) (own := RX5) (by decide) rfl rfl ?_
  rintro pg ev s0 mm below meth cd ⟨hx, hb, hr, hml, hown, hts, hlocks⟩ hE hP ls hl
  have hS : va_S (gA G) s0.heap s0.heap [] := va_S.rf
  have hl : lv_has ls 6 [(0, .ref (gad G 34))] := hl
  have hin5 : ∀ w ∈ wsX50, w ∈ wsX5_personItem := by decide +kernel
  have hm11 : ∀ Y, sI (sI u 14 Y) 11 M = sI u 14 Y := fun Y => sI_id ((sI_ne _ _ (by decide)).trans h11)
  refine lv_aload_n hx hb dX5_personItem_0 rfl (lv_at hl 0 rfl) ?_
  refine mo_get hx hb hts hin5 hown hE hP h14 7 (by decide) (hts (.fieldLink RX5 160 "HeldDoorModel" "token" "I") (by decide +kernel)) (v := .int (X 7)) rfl dX5_personItem_1 ?_
  refine lv_istore_n (lv' := [(1, .int (X 7)), (0, .ref (gad G 34))]) hx hb dX5_personItem_4 rfl hl (by decide) rfl (fun ls hl => ?_)
  refine lv_aload_n hx hb dX5_personItem_5 rfl (lv_at hl 1 rfl) ?_
  refine lv_aload_n hx hb dX5_personItem_6 rfl (lv_at hl 1 rfl) ?_
  refine mo_get hx hb hts hin5 hown hE hP h14 0 (by decide) (hts (.fieldLink RX5 9 "HeldDoorModel" "m" "[I") (by decide +kernel)) (v := .ref (gad G 35)) rfl dX5_personItem_7 ?_
  refine lv_iconst (v := 4) hx hb dX5_personItem_10 (by decide) ?_
  refine ar_ld hx hb hE hP 35 53 (by decide) (ar_at35 h11) 4 (by omega) dX5_personItem_11 ?_
  refine lv_cast hn ?_
  refine lv_bipush (v := 8) hx hb dX5_personItem_12 (by decide) ?_
  refine nn_ne (a := n9) (b := 8) (by omega) (by omega) (tgt := 21) hx hb dX5_personItem_14 (by decide) (fun c_1 => ?_) (fun c_1 => ?_)
  · skip
    refine lv_iconst (v := 0) hx hb dX5_personItem_21 (by decide) ?_
    refine mo_putz hx hb hts hin5 hown hE hP hS h14 11 (by decide) (hts (.fieldLink RX5 166 "HeldDoorModel" "bad" "Z") (by decide +kernel)) ⟨rfl, rfl⟩ rfl dX5_personItem_22 (fun H locs hP hS => ?_)
    refine lv_aload_n hx hb dX5_personItem_25 rfl (lv_at hl 1 rfl) ?_
    refine mo_get hx hb hts hin5 hown hE hP (sI_at _ _ _) 11 (by decide) (hts (.fieldLink RX5 166 "HeldDoorModel" "bad" "Z") (by decide +kernel)) (v := .int ((upd X 11 0) 11)) rfl dX5_personItem_26 ?_
    refine lv_cast (y := 0) (by rw [up_at]) ?_
    refine lv_if_eq (tgt := 33) hx hb dX5_personItem_29 (by decide) (fun _ => ?_) (fun h => False.elim (by revert h; decide))
    refine lv_aload_n hx hb dX5_personItem_33 rfl (lv_at hl 1 rfl) ?_
    refine hd_callVv (As := []) (rest := []) ⟨hx, hb, hml, hown, hts⟩ hE hP hS (c_X5_reads2 l G (sI u 14 (upd X 11 0)) (upd X 11 0) T ln hl9 (sI_at _ _ _) ((sI_ne _ _ (by decide)).trans h16) (LX_up hL (by decide) (by decide))) rfl (cwV 0 hts gX5_personItem_X5_reads rfl rfl rfl (by decide +kernel) ⟨Nat.le_of_ble_eq_true rfl, Nat.le_of_ble_eq_true rfl⟩) (mo_recv hE hP) rfl hl.1 rfl (Nat.le_of_ble_eq_true rfl) dX5_personItem_34 (fun vq_2 H locs q_2 hP hS => ?_)
    have q_2v := q_2
    have hP := hP.cast (q_2v.trans (sI_sI _ _ _ _))
    refine lv_aload_n hx hb dX5_personItem_37 rfl (lv_at hl 1 rfl) ?_
    refine lv_iconst (v := 0) hx hb dX5_personItem_38 (by decide) ?_
    refine lv_sipush (v := 999) hx hb dX5_personItem_39 (by decide) ?_
    refine hd_callVi (As := [.int 0, .int 999]) (rest := []) ⟨hx, hb, hml, hown, hts⟩ hE hP hS (c_X5_number l G (sI u 14 (rdF T ln (upd X 11 0))) (rdF T ln (upd X 11 0)) T ln hl9 (sI_at _ _ _) ((sI_ne _ _ (by decide)).trans h16) (LX_rd hl9 (LX_up hL (by decide) (by decide))) 0 999) rfl (cwV 2 hts gX5_personItem_X5_number rfl rfl rfl (by decide +kernel) ⟨Nat.le_of_ble_eq_true rfl, Nat.le_of_ble_eq_true rfl⟩) (mo_recv hE hP) rfl hl.1 rfl (Nat.le_of_ble_eq_true rfl) dX5_personItem_42 (fun rq_3 vq_3 H locs q_3 hP hS => ?_)
    obtain ⟨q_3r, q_3v⟩ := q_3
    have hP := hP.cast (q_3v.trans (sI_sI _ _ _ _))
    refine lv_cast q_3r ?_
    refine lv_istore_n (lv' := [(2, .int ((rdF T ln (upd X 11 0)) 10)), (1, .int (X 7)), (0, .ref (gad G 34))]) hx hb dX5_personItem_45 rfl hl (by decide) rfl (fun ls hl => ?_)
    refine lv_aload_n hx hb dX5_personItem_46 rfl (lv_at hl 2 rfl) ?_
    refine lv_bipush (v := 6) hx hb dX5_personItem_47 (by decide) ?_
    refine lv_iconst (v := 0) hx hb dX5_personItem_49 (by decide) ?_
    refine lv_bipush (v := 9) hx hb dX5_personItem_50 (by decide) ?_
    refine lv_iconst (v := 0) hx hb dX5_personItem_52 (by decide) ?_
    refine hd_callVi (As := [.int 6, .int 0, .int 9, .int 0]) (rest := []) ⟨hx, hb, hml, hown, hts⟩ hE hP hS (c_X5_perhaps l G (sI u 14 (nuX T ln (rdF T ln (upd X 11 0)) 0 999)) (nuX T ln (rdF T ln (upd X 11 0)) 0 999) T ln hl9 (sI_at _ _ _) ((sI_ne _ _ (by decide)).trans h16) (LX_nu hl9 (LX_rd hl9 (LX_up hL (by decide) (by decide)))) 6 0 9 0) rfl (cwV 4 hts gX5_personItem_X5_perhaps rfl rfl rfl (by decide +kernel) ⟨Nat.le_of_ble_eq_true rfl, Nat.le_of_ble_eq_true rfl⟩) (mo_recv hE hP) rfl hl.1 rfl (Nat.le_of_ble_eq_true rfl) dX5_personItem_53 (fun rq_4 vq_4 H locs q_4 hP hS => ?_)
    obtain ⟨q_4r, q_4v⟩ := q_4
    have hP := hP.cast (q_4v.trans (sI_sI _ _ _ _))
    refine lv_cast q_4r ?_
    refine lv_istore_n (lv' := [(3, .int (pfV T ln (nuX T ln (rdF T ln (upd X 11 0)) 0 999) 6 0 9 0)), (2, .int ((rdF T ln (upd X 11 0)) 10)), (1, .int (X 7)), (0, .ref (gad G 34))]) hx hb dX5_personItem_56 rfl hl (by decide) rfl (fun ls hl => ?_)
    refine lv_aload_n hx hb dX5_personItem_57 rfl (lv_at hl 3 rfl) ?_
    refine lv_bipush (v := 7) hx hb dX5_personItem_58 (by decide) ?_
    refine hd_callVi (As := [.int 7]) (rest := []) ⟨hx, hb, hml, hown, hts⟩ hE hP hS (c_X5_passes l G (sI u 14 (pfX T ln (nuX T ln (rdF T ln (upd X 11 0)) 0 999) 6 0 9)) (pfX T ln (nuX T ln (rdF T ln (upd X 11 0)) 0 999) 6 0 9) T ln hl9 (sI_at _ _ _) ((sI_ne _ _ (by decide)).trans h16) (LX_pf hl9 (LX_nu hl9 (LX_rd hl9 (LX_up hL (by decide) (by decide))))) 7) rfl (cwV 1 hts gX5_personItem_X5_passes rfl rfl rfl (by decide +kernel) ⟨Nat.le_of_ble_eq_true rfl, Nat.le_of_ble_eq_true rfl⟩) (mo_recv hE hP) rfl hl.1 rfl (Nat.le_of_ble_eq_true rfl) dX5_personItem_60 (fun rq_5 vq_5 H locs q_5 hP hS => ?_)
    obtain ⟨q_5r, q_5v⟩ := q_5
    have hP := hP.cast (q_5v.trans (sI_sI _ _ _ _))
    refine lv_cast q_5r ?_
    refine bo_eq (tgt := 70) hx hb dX5_personItem_63 (by decide) (fun c_6 => ?_) (fun c_6 => ?_)
    · skip
      refine lv_iconst (v := 1) hx hb dX5_personItem_70 (by decide) ?_
      refine lv_istore (lv' := [(4, .int 1), (3, .int (pfV T ln (nuX T ln (rdF T ln (upd X 11 0)) 0 999) 6 0 9 0)), (2, .int ((rdF T ln (upd X 11 0)) 10)), (1, .int (X 7)), (0, .ref (gad G 34))]) hx hb dX5_personItem_71 hl (by decide) rfl (fun ls hl => ?_)
      refine lv_aload_n hx hb dX5_personItem_73 rfl (lv_at hl 4 rfl) ?_
      refine mo_get hx hb hts hin5 hown hE hP (sI_at _ _ _) 11 (by decide) (hts (.fieldLink RX5 166 "HeldDoorModel" "bad" "Z") (by decide +kernel)) (v := .int ((psX T ln (pfX T ln (nuX T ln (rdF T ln (upd X 11 0)) 0 999) 6 0 9) 7) 11)) rfl dX5_personItem_74 ?_
      refine lv_if_ne (tgt := 91) hx hb dX5_personItem_77 (by decide) (fun c_7 => ?_) (fun c_7 => ?_)
      · skip
        exact hd_vret hx hb hr hlocks hP hS (by first | (simp only [piX, piM, pi4, pi3, pi2, c_1, c_6, c_7, hm11, ↓reduceIte]; done) | (simp [piX, piM, pi4, pi3, pi2, hm11, c_1, c_6, c_7]; done)) dX5_personItem_91
      · skip
        refine lv_aload_n hx hb dX5_personItem_80 rfl (lv_at hl 4 rfl) ?_
        refine lv_iload_n hx hb dX5_personItem_81 rfl (lv_at hl 3 rfl) ?_
        refine lv_iload_n hx hb dX5_personItem_82 rfl (lv_at hl 2 rfl) ?_
        refine lv_iload_n hx hb dX5_personItem_83 rfl (lv_at hl 1 rfl) ?_
        refine lv_iload hx hb dX5_personItem_84 (lv_at hl 0 rfl) ?_
        refine hd_callVi (As := [.int (X 7), .int ((rdF T ln (upd X 11 0)) 10), .int (pfV T ln (nuX T ln (rdF T ln (upd X 11 0)) 0 999) 6 0 9 0), .int 1]) (rest := []) ⟨hx, hb, hml, hown, hts⟩ hE hP hS (c_X5_comesAs l G (sI u 14 (psX T ln (pfX T ln (nuX T ln (rdF T ln (upd X 11 0)) 0 999) 6 0 9) 7)) M n9 hn (by omega) (X 7) ((rdF T ln (upd X 11 0)) 10) (pfV T ln (nuX T ln (rdF T ln (upd X 11 0)) 0 999) 6 0 9 0) 1) ((sI_id ((sI_ne _ _ (by decide)).trans h11)).symm) (cwV 4 hts gX5_personItem_X5_comesAs rfl rfl rfl (by decide +kernel) ⟨Nat.le_of_ble_eq_true rfl, Nat.le_of_ble_eq_true rfl⟩) (mo_recv hE hP) rfl hl.1 rfl (Nat.le_of_ble_eq_true rfl) dX5_personItem_86 (fun rq_8 vq_8 H locs q_8 hP hS => ?_)
        have hP := hP.cast (q_8.2)
        refine lv_cast q_8.1 ?_
        refine lv_istore (lv' := [(5, .int (nI n9)), (4, .int 1), (3, .int (pfV T ln (nuX T ln (rdF T ln (upd X 11 0)) 0 999) 6 0 9 0)), (2, .int ((rdF T ln (upd X 11 0)) 10)), (1, .int (X 7)), (0, .ref (gad G 34))]) hx hb dX5_personItem_89 hl (by decide) rfl (fun ls hl => ?_)
        exact hd_vret hx hb hr hlocks hP hS (by first | (simp only [piX, piM, pi4, pi3, pi2, c_1, c_6, c_7, hm11, ↓reduceIte]; done) | (simp [piX, piM, pi4, pi3, pi2, hm11, c_1, c_6, c_7]; done)) dX5_personItem_91
    · skip
      refine lv_iconst (v := 0) hx hb dX5_personItem_66 (by decide) ?_
      refine lv_goto (tgt := 71) hx hb dX5_personItem_67 (by decide) ?_
      refine lv_istore (lv' := [(4, .int 0), (3, .int (pfV T ln (nuX T ln (rdF T ln (upd X 11 0)) 0 999) 6 0 9 0)), (2, .int ((rdF T ln (upd X 11 0)) 10)), (1, .int (X 7)), (0, .ref (gad G 34))]) hx hb dX5_personItem_71 hl (by decide) rfl (fun ls hl => ?_)
      refine lv_aload_n hx hb dX5_personItem_73 rfl (lv_at hl 4 rfl) ?_
      refine mo_get hx hb hts hin5 hown hE hP (sI_at _ _ _) 11 (by decide) (hts (.fieldLink RX5 166 "HeldDoorModel" "bad" "Z") (by decide +kernel)) (v := .int ((psX T ln (pfX T ln (nuX T ln (rdF T ln (upd X 11 0)) 0 999) 6 0 9) 7) 11)) rfl dX5_personItem_74 ?_
      refine lv_if_ne (tgt := 91) hx hb dX5_personItem_77 (by decide) (fun c_9 => ?_) (fun c_9 => ?_)
      · skip
        exact hd_vret hx hb hr hlocks hP hS (by first | (simp only [piX, piM, pi4, pi3, pi2, c_1, c_6, c_9, hm11, ↓reduceIte]; done) | (simp [piX, piM, pi4, pi3, pi2, hm11, c_1, c_6, c_9]; done)) dX5_personItem_91
      · skip
        refine lv_aload_n hx hb dX5_personItem_80 rfl (lv_at hl 4 rfl) ?_
        refine lv_iload_n hx hb dX5_personItem_81 rfl (lv_at hl 3 rfl) ?_
        refine lv_iload_n hx hb dX5_personItem_82 rfl (lv_at hl 2 rfl) ?_
        refine lv_iload_n hx hb dX5_personItem_83 rfl (lv_at hl 1 rfl) ?_
        refine lv_iload hx hb dX5_personItem_84 (lv_at hl 0 rfl) ?_
        refine hd_callVi (As := [.int (X 7), .int ((rdF T ln (upd X 11 0)) 10), .int (pfV T ln (nuX T ln (rdF T ln (upd X 11 0)) 0 999) 6 0 9 0), .int 0]) (rest := []) ⟨hx, hb, hml, hown, hts⟩ hE hP hS (c_X5_comesAs l G (sI u 14 (psX T ln (pfX T ln (nuX T ln (rdF T ln (upd X 11 0)) 0 999) 6 0 9) 7)) M n9 hn (by omega) (X 7) ((rdF T ln (upd X 11 0)) 10) (pfV T ln (nuX T ln (rdF T ln (upd X 11 0)) 0 999) 6 0 9 0) 0) ((sI_id ((sI_ne _ _ (by decide)).trans h11)).symm) (cwV 4 hts gX5_personItem_X5_comesAs rfl rfl rfl (by decide +kernel) ⟨Nat.le_of_ble_eq_true rfl, Nat.le_of_ble_eq_true rfl⟩) (mo_recv hE hP) rfl hl.1 rfl (Nat.le_of_ble_eq_true rfl) dX5_personItem_86 (fun rq_10 vq_10 H locs q_10 hP hS => ?_)
        have hP := hP.cast (q_10.2)
        refine lv_cast q_10.1 ?_
        refine lv_istore (lv' := [(5, .int (nI n9)), (4, .int 0), (3, .int (pfV T ln (nuX T ln (rdF T ln (upd X 11 0)) 0 999) 6 0 9 0)), (2, .int ((rdF T ln (upd X 11 0)) 10)), (1, .int (X 7)), (0, .ref (gad G 34))]) hx hb dX5_personItem_89 hl (by decide) rfl (fun ls hl => ?_)
        exact hd_vret hx hb hr hlocks hP hS (by first | (simp only [piX, piM, pi4, pi3, pi2, c_1, c_6, c_9, hm11, ↓reduceIte]; done) | (simp [piX, piM, pi4, pi3, pi2, hm11, c_1, c_6, c_9]; done)) dX5_personItem_91
  · skip
    refine lv_iconst (v := 1) hx hb dX5_personItem_17 (by decide) ?_
    refine lv_goto (tgt := 22) hx hb dX5_personItem_18 (by decide) ?_
    refine mo_putz hx hb hts hin5 hown hE hP hS h14 11 (by decide) (hts (.fieldLink RX5 166 "HeldDoorModel" "bad" "Z") (by decide +kernel)) ⟨rfl, rfl⟩ rfl dX5_personItem_22 (fun H locs hP hS => ?_)
    refine lv_aload_n hx hb dX5_personItem_25 rfl (lv_at hl 1 rfl) ?_
    refine mo_get hx hb hts hin5 hown hE hP (sI_at _ _ _) 11 (by decide) (hts (.fieldLink RX5 166 "HeldDoorModel" "bad" "Z") (by decide +kernel)) (v := .int ((upd X 11 1) 11)) rfl dX5_personItem_26 ?_
    refine lv_cast (y := 1) (by rw [up_at]) ?_
    refine lv_if_eq (tgt := 33) hx hb dX5_personItem_29 (by decide) (fun h => False.elim (by revert h; decide)) (fun _ => ?_)
    exact hd_vret hx hb hr hlocks hP hS (by first | (simp only [piX, piM, pi4, pi3, pi2, c_1, hm11, ↓reduceIte]; done) | (simp [piX, piM, pi4, pi3, pi2, hm11, c_1]; done)) dX5_personItem_32
set_option maxHeartbeats 4000000 in
set_option maxRecDepth 100000 in
theorem c_X5_item (l : Launch) (G : Geo) (u : Sg) (X T : Nat → Int32) (ln : Nat) (hl9 : ln ≤ 120) (h14 : u.1 14 = X) (h16 : u.1 16 = T) (hL : LX ln X) (M : Nat → Int32) (h11 : u.1 11 = M) (n9 : Nat) (hn9 : n9 ≤ 8) (hn : M 4 = nI n9) : CtV l G yX5_item wsX5_item (rmO 6 138) [.ref (gad G 34)] u (fun v => v = sI (sI u 14 (itX T ln n9 X)) 11 (itM T ln n9 M X)) := by
  refine CtV.of (cc := cX5_item) (maxL := 1) (ret := none) (own := RX5) (by decide) rfl rfl ?_
  rintro pg ev s0 mm below meth cd ⟨hx, hb, hr, hml, hown, hts, hlocks⟩ hE hP ls hl
  have hS : va_S (gA G) s0.heap s0.heap [] := va_S.rf
  have hl : lv_has ls 1 [(0, .ref (gad G 34))] := hl
  have hin5 : ∀ w ∈ wsX50, w ∈ wsX5_item := by decide +kernel
  have hm11 : ∀ Y, sI (sI u 14 Y) 11 M = sI u 14 Y := fun Y => sI_id ((sI_ne _ _ (by decide)).trans h11)
  refine lv_aload_n hx hb dX5_item_0 rfl (lv_at hl 0 rfl) ?_
  refine mo_get hx hb hts hin5 hown hE hP h14 7 (by decide) (hts (.fieldLink RX5 160 "HeldDoorModel" "token" "I") (by decide +kernel)) (v := .int (X 7)) rfl dX5_item_1 ?_
  refine lv_iconst (v := 5) hx hb dX5_item_4 (by decide) ?_
  refine lv_icmp_gt (tgt := 15) hx hb dX5_item_5 (by decide) (fun c_1 => ?_) (fun c_1 => ?_)
  · skip
    refine lv_aload_n hx hb dX5_item_15 rfl (lv_at hl 0 rfl) ?_
    refine lv_bipush (v := 8) hx hb dX5_item_16 (by decide) ?_
    refine hd_callVi (As := [.int 8]) (rest := []) ⟨hx, hb, hml, hown, hts⟩ hE hP hS (c_X5_passes l G u X T ln hl9 h14 h16 hL 8) rfl (cwV 1 hts gX5_item_X5_passes rfl rfl rfl (by decide +kernel) ⟨Nat.le_of_ble_eq_true rfl, Nat.le_of_ble_eq_true rfl⟩) (mo_recv hE hP) rfl hl.1 rfl (Nat.le_of_ble_eq_true rfl) dX5_item_18 (fun rq_2 vq_2 H locs q_2 hP hS => ?_)
    have hP := hP.cast (q_2.2)
    refine lv_cast q_2.1 ?_
    refine bo_eq (tgt := 40) hx hb dX5_item_21 (by decide) (fun c_3 => ?_) (fun c_3 => ?_)
    · skip
      refine lv_aload_n hx hb dX5_item_40 rfl (lv_at hl 0 rfl) ?_
      refine lv_bipush (v := 9) hx hb dX5_item_41 (by decide) ?_
      refine hd_callVi (As := [.int 9]) (rest := []) ⟨hx, hb, hml, hown, hts⟩ hE hP hS (c_X5_passes l G (sI u 14 (psX T ln X 8)) (psX T ln X 8) T ln hl9 (sI_at _ _ _) ((sI_ne _ _ (by decide)).trans h16) (LX_ps hl9 hL) 9) rfl (cwV 1 hts gX5_item_X5_passes rfl rfl rfl (by decide +kernel) ⟨Nat.le_of_ble_eq_true rfl, Nat.le_of_ble_eq_true rfl⟩) (mo_recv hE hP) rfl hl.1 rfl (Nat.le_of_ble_eq_true rfl) dX5_item_43 (fun rq_4 vq_4 H locs q_4 hP hS => ?_)
      obtain ⟨q_4r, q_4v⟩ := q_4
      have hP := hP.cast (q_4v.trans (sI_sI _ _ _ _))
      refine lv_cast q_4r ?_
      refine bo_eq (tgt := 65) hx hb dX5_item_46 (by decide) (fun c_5 => ?_) (fun c_5 => ?_)
      · skip
        refine lv_aload_n hx hb dX5_item_65 rfl (lv_at hl 0 rfl) ?_
        refine lv_iconst (v := 1) hx hb dX5_item_66 (by decide) ?_
        refine mo_putz hx hb hts hin5 hown hE hP hS (sI_at _ _ _) 11 (by decide) (hts (.fieldLink RX5 166 "HeldDoorModel" "bad" "Z") (by decide +kernel)) ⟨rfl, rfl⟩ (sI_sI _ _ _ _) dX5_item_67 (fun H locs hP hS => ?_)
        exact hd_vret hx hb hr hlocks hP hS (by first | (simp only [itX, itM, c_1, c_3, c_5, Int32.not_le.mpr c_1, hm11, ↓reduceIte]; done) | (simp [itX, itM, hm11, c_1, c_3, c_5, Int32.not_le.mpr c_1]; done)) dX5_item_70
      · skip
        refine lv_aload_n hx hb dX5_item_49 rfl (lv_at hl 0 rfl) ?_
        refine mo_get hx hb hts hin5 hown hE hP (sI_at _ _ _) 0 (by decide) (hts (.fieldLink RX5 9 "HeldDoorModel" "m" "[I") (by decide +kernel)) (v := .ref (gad G 35)) rfl dX5_item_50 ?_
        refine lv_iconst (v := 2) hx hb dX5_item_53 (by decide) ?_
        refine lv_aload_n hx hb dX5_item_54 rfl (lv_at hl 0 rfl) ?_
        refine lv_iconst (v := 0) hx hb dX5_item_55 (by decide) ?_
        refine lv_bipush (v := 60) hx hb dX5_item_56 (by decide) ?_
        refine hd_callVi (As := [.int 0, .int 60]) (rest := [.int 2, .ref (gad G 35)]) ⟨hx, hb, hml, hown, hts⟩ hE hP hS (c_X5_number l G (sI u 14 (psX T ln (psX T ln X 8) 9)) (psX T ln (psX T ln X 8) 9) T ln hl9 (sI_at _ _ _) ((sI_ne _ _ (by decide)).trans h16) (LX_ps hl9 (LX_ps hl9 hL)) 0 60) rfl (cwV 2 hts gX5_item_X5_number rfl rfl rfl (by decide +kernel) ⟨Nat.le_of_ble_eq_true rfl, Nat.le_of_ble_eq_true rfl⟩) (mo_recv hE hP) rfl hl.1 rfl (Nat.le_of_ble_eq_true rfl) dX5_item_58 (fun rq_6 vq_6 H locs q_6 hP hS => ?_)
        obtain ⟨q_6r, q_6v⟩ := q_6
        have hP := hP.cast (q_6v.trans (sI_sI _ _ _ _))
        refine lv_cast q_6r ?_
        refine ar_st hx hb hE hP hS 35 53 (by decide) (ar_at35 ((sI_ne _ _ (by decide)).trans h11)) (ar_set35 _ _) 2 (by omega) rfl dX5_item_61 (fun H locs hP hS => ?_)
        refine lv_goto (tgt := 70) hx hb dX5_item_62 (by decide) ?_
        exact hd_vret hx hb hr hlocks hP hS (by first | (simp only [itX, itM, c_1, c_3, c_5, Int32.not_le.mpr c_1, hm11, ↓reduceIte]; done) | (simp [itX, itM, hm11, c_1, c_3, c_5, Int32.not_le.mpr c_1]; done)) dX5_item_70
    · skip
      refine lv_aload_n hx hb dX5_item_24 rfl (lv_at hl 0 rfl) ?_
      refine mo_get hx hb hts hin5 hown hE hP (sI_at _ _ _) 0 (by decide) (hts (.fieldLink RX5 9 "HeldDoorModel" "m" "[I") (by decide +kernel)) (v := .ref (gad G 35)) rfl dX5_item_25 ?_
      refine lv_iconst (v := 1) hx hb dX5_item_28 (by decide) ?_
      refine lv_aload_n hx hb dX5_item_29 rfl (lv_at hl 0 rfl) ?_
      refine lv_iconst (v := 0) hx hb dX5_item_30 (by decide) ?_
      refine lv_bipush (v := 99) hx hb dX5_item_31 (by decide) ?_
      refine hd_callVi (As := [.int 0, .int 99]) (rest := [.int 1, .ref (gad G 35)]) ⟨hx, hb, hml, hown, hts⟩ hE hP hS (c_X5_number l G (sI u 14 (psX T ln X 8)) (psX T ln X 8) T ln hl9 (sI_at _ _ _) ((sI_ne _ _ (by decide)).trans h16) (LX_ps hl9 hL) 0 99) rfl (cwV 2 hts gX5_item_X5_number rfl rfl rfl (by decide +kernel) ⟨Nat.le_of_ble_eq_true rfl, Nat.le_of_ble_eq_true rfl⟩) (mo_recv hE hP) rfl hl.1 rfl (Nat.le_of_ble_eq_true rfl) dX5_item_33 (fun rq_7 vq_7 H locs q_7 hP hS => ?_)
      obtain ⟨q_7r, q_7v⟩ := q_7
      have hP := hP.cast (q_7v.trans (sI_sI _ _ _ _))
      refine lv_cast q_7r ?_
      refine ar_st hx hb hE hP hS 35 53 (by decide) (ar_at35 ((sI_ne _ _ (by decide)).trans h11)) (ar_set35 _ _) 1 (by omega) rfl dX5_item_36 (fun H locs hP hS => ?_)
      refine lv_goto (tgt := 70) hx hb dX5_item_37 (by decide) ?_
      exact hd_vret hx hb hr hlocks hP hS (by first | (simp only [itX, itM, c_1, c_3, Int32.not_le.mpr c_1, hm11, ↓reduceIte]; done) | (simp [itX, itM, hm11, c_1, c_3, Int32.not_le.mpr c_1]; done)) dX5_item_70
  · skip
    refine lv_aload_n hx hb dX5_item_8 rfl (lv_at hl 0 rfl) ?_
    refine hd_callVv (As := []) (rest := []) ⟨hx, hb, hml, hown, hts⟩ hE hP hS (c_X5_personItem l G u X T ln hl9 h14 h16 hL M h11 n9 hn9 hn) rfl (cwV 0 hts gX5_item_X5_personItem rfl rfl rfl (by decide +kernel) ⟨Nat.le_of_ble_eq_true rfl, Nat.le_of_ble_eq_true rfl⟩) (mo_recv hE hP) rfl hl.1 rfl (Nat.le_of_ble_eq_true rfl) dX5_item_9 (fun vq_8 H locs q_8 hP hS => ?_)
    have hP := hP.cast (q_8)
    refine lv_goto (tgt := 70) hx hb dX5_item_12 (by decide) ?_
    exact hd_vret hx hb hr hlocks hP hS (by first | (simp only [itX, itM, c_1, Int32.not_lt.mp c_1, hm11, ↓reduceIte]; done) | (simp [itX, itM, hm11, c_1, Int32.not_lt.mp c_1]; done)) dX5_item_70
