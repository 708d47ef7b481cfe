set_option maxHeartbeats 4000000 in
set_option maxRecDepth 100000 in
theorem c_X5_morningR (l : Launch) (G : Geo) (u : Sg) (X T : Nat → Int32) (ln : Nat) (hl9 : ln ≤ 120) (h14 : u.1 14 = X) (h16 : u.1 16 = T) (h6 : X 6 = nI ln) (M E : Nat → Int32) (h11 : u.1 11 = M) (h13 : u.1 13 = E) (tM : ∀ k : Nat, 53 ≤ k → M k = 0) (tE : ∀ k : Nat, 53 ≤ k → E k = 0) (hMn : M 4 = nI (nP M)) (hM8 : nP M ≤ 8) (R : (Nat → Int32) × (Nat → Int32) × Nat) (hRe : R = mrS T ln 121 (itX T ln (nP M) (rdF T ln (upd (upd X 9 0) 11 0))) (itM T ln (nP M) M (rdF T ln (upd (upd X 9 0) 11 0))) 1) : CtI l G yX5_morning wsX5_morning (rmO 7 158) [.ref (gad G 34)] u (fun r v => r = mAns R ∧ v = sI (sI (sI u 13 M) 11 (mNew M R)) 14 (mFld R)) := by
  refine CtI.of (cc := cX5_morning) (maxL := 2) (ret := (some .int)) (own := RX5) (by decide) rfl rfl ?_
  rintro pg ev s0 mm below meth cd ⟨hx, hb, hr, hml, hown, hts, hlocks⟩ hE hP ls hl
  have hS : va_S (gA G) s0.heap s0.heap [] := va_S.rf
  have hl : lv_has ls 2 [(0, .ref (gad G 34))] := hl
  have hin5 : ∀ w ∈ wsX50, w ∈ wsX5_morning := by decide +kernel
  have hL0 : LX ln (upd (upd X 9 0) 11 0) := ⟨by rw [up_ne _ _ (by decide), up_ne _ _ (by decide)]; exact h6, 0, Nat.zero_le _, by rw [up_ne _ _ (by decide), up_at]; rfl⟩
  refine lv_aload_n hx hb dX5_morning_0 rfl (lv_at hl 0 rfl) ?_
  refine hd_callVv (As := []) (rest := []) ⟨hx, hb, hml, hown, hts⟩ hE hP hS (c_X5_thinks l G u M E h11 h13 tM tE) rfl (cwV 0 hts gX5_morning_X5_thinks rfl rfl rfl (by decide +kernel) ⟨Nat.le_of_ble_eq_true rfl, Nat.le_of_ble_eq_true rfl⟩) (mo_recv hE hP) rfl hl.1 rfl (Nat.le_of_ble_eq_true rfl) dX5_morning_1 (fun vq_1 H locs q_1 hP hS => ?_)
  have hP := hP.cast (q_1)
  refine lv_aload_n hx hb dX5_morning_4 rfl (lv_at hl 0 rfl) ?_
  refine lv_iconst (v := 0) hx hb dX5_morning_5 (by decide) ?_
  refine mo_put hx hb hts hin5 hown hE hP hS ((sI_ne _ _ (by decide)).trans h14) 9 (by decide) (hts (.fieldLink RX5 147 "HeldDoorModel" "at" "I") (by decide +kernel)) rfl dX5_morning_6 (fun H locs hP hS => ?_)
  refine lv_aload_n hx hb dX5_morning_9 rfl (lv_at hl 0 rfl) ?_
  refine lv_iconst (v := 0) hx hb dX5_morning_10 (by decide) ?_
  refine mo_putz hx hb hts hin5 hown hE hP hS (sI_at _ _ _) 11 (by decide) (hts (.fieldLink RX5 166 "HeldDoorModel" "bad" "Z") (by decide +kernel)) ⟨rfl, rfl⟩ (sI_sI _ _ _ _) dX5_morning_11 (fun H locs hP hS => ?_)
  refine lv_aload_n hx hb dX5_morning_14 rfl (lv_at hl 0 rfl) ?_
  refine hd_callVv (As := []) (rest := []) ⟨hx, hb, hml, hown, hts⟩ hE hP hS (c_X5_reads2 l G (sI (sI u 13 M) 14 (upd (upd X 9 0) 11 0)) (upd (upd X 9 0) 11 0) T ln hl9 (sI_at _ _ _) ((sI_ne _ _ (by decide)).trans ((sI_ne _ _ (by decide)).trans h16)) hL0) rfl (cwV 0 hts gX5_morning_X5_reads rfl rfl rfl (by decide +kernel) ⟨Nat.le_of_ble_eq_true rfl, Nat.le_of_ble_eq_true rfl⟩) (mo_recv hE hP) rfl hl.1 rfl (Nat.le_of_ble_eq_true rfl) dX5_morning_15 (fun vq_2 H locs q_2 hP hS => ?_)
  have q_2v := q_2
  have hP := hP.cast (q_2v.trans (sI_sI _ _ _ _))
  refine lv_aload_n hx hb dX5_morning_18 rfl (lv_at hl 0 rfl) ?_
  refine hd_callVv (As := []) (rest := []) ⟨hx, hb, hml, hown, hts⟩ hE hP hS (c_X5_item l G (sI (sI u 13 M) 14 (rdF T ln (upd (upd X 9 0) 11 0))) (rdF T ln (upd (upd X 9 0) 11 0)) T ln hl9 (sI_at _ _ _) ((sI_ne _ _ (by decide)).trans ((sI_ne _ _ (by decide)).trans h16)) (LX_rd hl9 hL0) M ((sI_ne _ _ (by decide)).trans ((sI_ne _ _ (by decide)).trans h11)) (nP M) hM8 hMn) rfl (cwV 0 hts gX5_morning_X5_item rfl rfl rfl (by decide +kernel) ⟨Nat.le_of_ble_eq_true rfl, Nat.le_of_ble_eq_true rfl⟩) (mo_recv hE hP) rfl hl.1 rfl (Nat.le_of_ble_eq_true rfl) dX5_morning_19 (fun vq_3 H locs q_3 hP hS => ?_)
  have q_3v := q_3
  have hP := hP.cast (q_3v.trans (it_st1 _ _ _ _ _))
  refine lv_iconst (v := 1) hx hb dX5_morning_22 (by decide) ?_
  refine lv_istore_n (lv' := [(1, .int 1), (0, .ref (gad G 34))]) hx hb dX5_morning_23 rfl hl (by decide) rfl (fun ls hl => ?_)
  have J24 : ∀ (fu : Nat) (Y : Nat → Int32) (N : Nat → Int32) (i9 : Nat) (f9 : Nat) (hLY : LX ln Y) (hNn : N 4 = nI (nP N)) (hN8 : nP N ≤ 8) (tN : ∀ k : Nat, 53 ≤ k → N k = 0) (hrf : rkX ln Y ≤ f9) (hif : i9 + f9 ≤ 122) (hR : R = mrS T ln f9 Y N i9) (hrk : f9 < fu) (H : Heap) (locs : List Loc) (ls : Array Slot), WP G (sI (sI (sI u 13 M) 11 N) 14 Y) H → va_S (gA G) s0.heap H locs → lv_has ls 2 [(0, .ref (gad G 34)), (1, .int (nI i9))] → W pg l ev (headSpec wsX5_morning (rmO 7 158)).room s0 mm ([.ref (gad G 34)] : List Value).toArray below meth cd H locs 0 0 (MQ below (va_Qi (fun r v => r = mAns R ∧ v = sI (sI (sI u 13 M) 11 (mNew M R)) 14 (mFld R)) (fun v t => WP G v t.heap) (gA G)) ([.ref (gad G 34)] : List Value).toArray s0 0 0 (gA G)) (F0 mm 24 ls []) := by
    intro fu
    induction fu with
    | zero => intro Y N i9 f9 hLY hNn hN8 tN hrf hif hR hrk; exact absurd hrk (Nat.not_lt_zero _)
    | succ fu ih24 =>
      intro Y N i9 f9 hLY hNn hN8 tN hrf hif hR hrk H locs ls hP hS hl
      refine lv_aload_n hx hb dX5_morning_24 rfl (lv_at hl 0 rfl) ?_
      refine lv_bipush (v := 21) hx hb dX5_morning_25 (by decide) ?_
      refine hd_callVi (As := [.int 21]) (rest := []) ⟨hx, hb, hml, hown, hts⟩ hE hP hS (c_X5_passes l G (sI (sI (sI u 13 M) 11 N) 14 Y) Y T ln hl9 (sI_at _ _ _) ((sI_ne _ _ (by decide)).trans ((sI_ne _ _ (by decide)).trans ((sI_ne _ _ (by decide)).trans h16))) hLY 21) rfl (cwV 1 hts gX5_morning_X5_passes rfl rfl rfl (by decide +kernel) ⟨Nat.le_of_ble_eq_true rfl, Nat.le_of_ble_eq_true rfl⟩) (mo_recv hE hP) rfl hl.1 rfl (Nat.le_of_ble_eq_true rfl) dX5_morning_27 (fun rq_4 vq_4 H locs q_4 hP hS => ?_)
      obtain ⟨q_4r, q_4v⟩ := q_4
      have hP := hP.cast (q_4v.trans (sI_sI _ _ _ _))
      refine lv_cast q_4r ?_
      refine bo_eq (tgt := 43) hx hb dX5_morning_30 (by decide) (fun c_5 => ?_) (fun c_5 => ?_)
      · skip
        have hR2 : R = (psX T ln Y 21, N, i9) := hR.trans (mr_stop (by assumption))
        refine lv_aload_n hx hb dX5_morning_43 rfl (lv_at hl 0 rfl) ?_
        refine lv_aload_n hx hb dX5_morning_44 rfl (lv_at hl 0 rfl) ?_
        refine mo_get hx hb hts hin5 hown hE hP (sI_at _ _ _) 11 (by decide) (hts (.fieldLink RX5 166 "HeldDoorModel" "bad" "Z") (by decide +kernel)) (v := .int ((psX T ln Y 21) 11)) rfl dX5_morning_45 ?_
        refine lv_if_ne (tgt := 60) hx hb dX5_morning_48 (by decide) (fun c_6 => ?_) (fun c_6 => ?_)
        · skip
          refine lv_iconst (v := 1) hx hb dX5_morning_60 (by decide) ?_
          refine lv_goto (tgt := 65) hx hb dX5_morning_61 (by decide) ?_
          refine mo_putz hx hb hts hin5 hown hE hP hS (sI_at _ _ _) 11 (by decide) (hts (.fieldLink RX5 166 "HeldDoorModel" "bad" "Z") (by decide +kernel)) ⟨rfl, rfl⟩ (sI_sI _ _ _ _) dX5_morning_65 (fun H locs hP hS => ?_)
          refine lv_aload_n hx hb dX5_morning_68 rfl (lv_at hl 0 rfl) ?_
          refine lv_iconst (v := 0) hx hb dX5_morning_69 (by decide) ?_
          refine mo_put hx hb hts hin5 hown hE hP hS (sI_at _ _ _) 6 (by decide) (hts (.fieldLink RX5 137 "HeldDoorModel" "taped" "I") (by decide +kernel)) (sI_sI _ _ _ _) dX5_morning_70 (fun H locs hP hS => ?_)
          refine lv_aload_n hx hb dX5_morning_73 rfl (lv_at hl 0 rfl) ?_
          refine mo_get hx hb hts hin5 hown hE hP (sI_at _ _ _) 11 (by decide) (hts (.fieldLink RX5 166 "HeldDoorModel" "bad" "Z") (by decide +kernel)) (v := .int ((upd (upd (psX T ln Y 21) 11 1) 6 0) 11)) rfl dX5_morning_74 ?_
          refine lv_cast (y := 1) (by rw [up_ne _ _ (by omega), up_at]) ?_
          refine lv_if_ne (tgt := 82) hx hb dX5_morning_77 (by decide) (fun _ => ?_) (fun h => False.elim (by revert h; decide))
          refine lv_aload_n hx hb dX5_morning_82 rfl (lv_at hl 0 rfl) ?_
          refine hd_callVv (As := []) (rest := []) ⟨hx, hb, hml, hown, hts⟩ hE hP hS (c_X5_putsBack l G (sI (sI (sI u 13 M) 11 N) 14 (upd (upd (psX T ln Y 21) 11 1) 6 0)) M N ((sI_ne _ _ (by decide)).trans ((sI_ne _ _ (by decide)).trans (sI_at _ _ _))) ((sI_ne _ _ (by decide)).trans (sI_at _ _ _)) tM tN) rfl (cwV 0 hts gX5_morning_X5_putsBack rfl rfl rfl (by decide +kernel) ⟨Nat.le_of_ble_eq_true rfl, Nat.le_of_ble_eq_true rfl⟩) (mo_recv hE hP) rfl hl.1 rfl (Nat.le_of_ble_eq_true rfl) dX5_morning_83 (fun vq_7 H locs q_7 hP hS => ?_)
          have q_7v := q_7
          have hP := hP.cast (q_7v.trans (sI_mid _ _ _ _ (by decide)))
          refine lv_iconst (v := (-1)) hx hb dX5_morning_86 (by decide) ?_
          refine lv_aload_n hx hb dX5_morning_87 rfl (lv_at hl 0 rfl) ?_
          refine mo_get hx hb hts hin5 hown hE hP ((sI_ne _ _ (by decide)).trans (sI_at _ _ _)) 8 (by decide) (hts (.fieldLink RX5 144 "HeldDoorModel" "begin" "I") (by decide +kernel)) (v := .int ((upd (upd (psX T ln Y 21) 11 1) 6 0) 8)) rfl dX5_morning_88 ?_
          refine lv_cast (y := (psX T ln Y 21) 8) (by rw [up_ne _ _ (by omega), up_ne _ _ (by omega)]) ?_
          refine lv_isub hx hb dX5_morning_91 ?_
          exact hd_iret hx hb hr hlocks hP hS (mor_bad hR2 (mBad_1 c_6)) dX5_morning_92
        · skip
          refine lv_aload_n hx hb dX5_morning_51 rfl (lv_at hl 0 rfl) ?_
          refine mo_get hx hb hts hin5 hown hE hP (sI_at _ _ _) 7 (by decide) (hts (.fieldLink RX5 160 "HeldDoorModel" "token" "I") (by decide +kernel)) (v := .int ((psX T ln Y 21) 7)) rfl dX5_morning_52 ?_
          refine lv_bipush (v := 22) hx hb dX5_morning_55 (by decide) ?_
          refine lv_icmp_eq (tgt := 64) hx hb dX5_morning_57 (by decide) (fun c_8 => ?_) (fun c_8 => ?_)
          · skip
            refine lv_iconst (v := 0) hx hb dX5_morning_64 (by decide) ?_
            refine mo_putz hx hb hts hin5 hown hE hP hS (sI_at _ _ _) 11 (by decide) (hts (.fieldLink RX5 166 "HeldDoorModel" "bad" "Z") (by decide +kernel)) ⟨rfl, rfl⟩ (sI_sI _ _ _ _) dX5_morning_65 (fun H locs hP hS => ?_)
            refine lv_aload_n hx hb dX5_morning_68 rfl (lv_at hl 0 rfl) ?_
            refine lv_iconst (v := 0) hx hb dX5_morning_69 (by decide) ?_
            refine mo_put hx hb hts hin5 hown hE hP hS (sI_at _ _ _) 6 (by decide) (hts (.fieldLink RX5 137 "HeldDoorModel" "taped" "I") (by decide +kernel)) (sI_sI _ _ _ _) dX5_morning_70 (fun H locs hP hS => ?_)
            refine lv_aload_n hx hb dX5_morning_73 rfl (lv_at hl 0 rfl) ?_
            refine mo_get hx hb hts hin5 hown hE hP (sI_at _ _ _) 11 (by decide) (hts (.fieldLink RX5 166 "HeldDoorModel" "bad" "Z") (by decide +kernel)) (v := .int ((upd (upd (psX T ln Y 21) 11 0) 6 0) 11)) rfl dX5_morning_74 ?_
            refine lv_cast (y := 0) (by rw [up_ne _ _ (by omega), up_at]) ?_
            refine lv_if_ne (tgt := 82) hx hb dX5_morning_77 (by decide) (fun h => False.elim (by revert h; decide)) (fun _ => ?_)
            refine lv_iload_n hx hb dX5_morning_80 rfl (lv_at hl 1 rfl) ?_
            exact hd_iret hx hb hr hlocks hP hS (mor_ok hR2 c_6 c_8) dX5_morning_81
          · skip
            refine lv_iconst (v := 1) hx hb dX5_morning_60 (by decide) ?_
            refine lv_goto (tgt := 65) hx hb dX5_morning_61 (by decide) ?_
            refine mo_putz hx hb hts hin5 hown hE hP hS (sI_at _ _ _) 11 (by decide) (hts (.fieldLink RX5 166 "HeldDoorModel" "bad" "Z") (by decide +kernel)) ⟨rfl, rfl⟩ (sI_sI _ _ _ _) dX5_morning_65 (fun H locs hP hS => ?_)
            refine lv_aload_n hx hb dX5_morning_68 rfl (lv_at hl 0 rfl) ?_
            refine lv_iconst (v := 0) hx hb dX5_morning_69 (by decide) ?_
            refine mo_put hx hb hts hin5 hown hE hP hS (sI_at _ _ _) 6 (by decide) (hts (.fieldLink RX5 137 "HeldDoorModel" "taped" "I") (by decide +kernel)) (sI_sI _ _ _ _) dX5_morning_70 (fun H locs hP hS => ?_)
            refine lv_aload_n hx hb dX5_morning_73 rfl (lv_at hl 0 rfl) ?_
            refine mo_get hx hb hts hin5 hown hE hP (sI_at _ _ _) 11 (by decide) (hts (.fieldLink RX5 166 "HeldDoorModel" "bad" "Z") (by decide +kernel)) (v := .int ((upd (upd (psX T ln Y 21) 11 1) 6 0) 11)) rfl dX5_morning_74 ?_
            refine lv_cast (y := 1) (by rw [up_ne _ _ (by omega), up_at]) ?_
            refine lv_if_ne (tgt := 82) hx hb dX5_morning_77 (by decide) (fun _ => ?_) (fun h => False.elim (by revert h; decide))
            refine lv_aload_n hx hb dX5_morning_82 rfl (lv_at hl 0 rfl) ?_
            refine hd_callVv (As := []) (rest := []) ⟨hx, hb, hml, hown, hts⟩ hE hP hS (c_X5_putsBack l G (sI (sI (sI u 13 M) 11 N) 14 (upd (upd (psX T ln Y 21) 11 1) 6 0)) M N ((sI_ne _ _ (by decide)).trans ((sI_ne _ _ (by decide)).trans (sI_at _ _ _))) ((sI_ne _ _ (by decide)).trans (sI_at _ _ _)) tM tN) rfl (cwV 0 hts gX5_morning_X5_putsBack rfl rfl rfl (by decide +kernel) ⟨Nat.le_of_ble_eq_true rfl, Nat.le_of_ble_eq_true rfl⟩) (mo_recv hE hP) rfl hl.1 rfl (Nat.le_of_ble_eq_true rfl) dX5_morning_83 (fun vq_9 H locs q_9 hP hS => ?_)
            have q_9v := q_9
            have hP := hP.cast (q_9v.trans (sI_mid _ _ _ _ (by decide)))
            refine lv_iconst (v := (-1)) hx hb dX5_morning_86 (by decide) ?_
            refine lv_aload_n hx hb dX5_morning_87 rfl (lv_at hl 0 rfl) ?_
            refine mo_get hx hb hts hin5 hown hE hP ((sI_ne _ _ (by decide)).trans (sI_at _ _ _)) 8 (by decide) (hts (.fieldLink RX5 144 "HeldDoorModel" "begin" "I") (by decide +kernel)) (v := .int ((upd (upd (psX T ln Y 21) 11 1) 6 0) 8)) rfl dX5_morning_88 ?_
            refine lv_cast (y := (psX T ln Y 21) 8) (by rw [up_ne _ _ (by omega), up_ne _ _ (by omega)]) ?_
            refine lv_isub hx hb dX5_morning_91 ?_
            exact hd_iret hx hb hr hlocks hP hS (mor_bad hR2 (mBad_2 c_8)) dX5_morning_92
      · skip
        refine lv_aload_n hx hb dX5_morning_33 rfl (lv_at hl 0 rfl) ?_
        refine hd_callVv (As := []) (rest := []) ⟨hx, hb, hml, hown, hts⟩ hE hP hS (c_X5_item l G (sI (sI (sI u 13 M) 11 N) 14 (psX T ln Y 21)) (psX T ln Y 21) T ln hl9 (sI_at _ _ _) ((sI_ne _ _ (by decide)).trans ((sI_ne _ _ (by decide)).trans ((sI_ne _ _ (by decide)).trans h16))) (LX_ps hl9 hLY) N ((sI_ne _ _ (by decide)).trans (sI_at _ _ _)) (nP N) hN8 hNn) rfl (cwV 0 hts gX5_morning_X5_item rfl rfl rfl (by decide +kernel) ⟨Nat.le_of_ble_eq_true rfl, Nat.le_of_ble_eq_true rfl⟩) (mo_recv hE hP) rfl hl.1 rfl (Nat.le_of_ble_eq_true rfl) dX5_morning_34 (fun vq_10 H locs q_10 hP hS => ?_)
        have q_10v := q_10
        have hP := hP.cast (q_10v.trans (it_st2 _ _ _ _ _ _))
        refine lv_iinc (v := nI (i9 + 1)) (lv' := [(1, .int (nI (i9 + 1))), (0, .ref (gad G 34))]) hx hb dX5_morning_37 hl (k := 1) rfl (inc1 _) (by decide) rfl (fun ls hl => ?_)
        refine lv_goto (tgt := 24) hx hb dX5_morning_40 (by decide) ?_
        have hq9 := rk_it (T := T) (n := nP N) hl9 hLY (by assumption)
        exact ih24 (itX T ln (nP N) (psX T ln Y 21)) (itM T ln (nP N) N (psX T ln Y 21)) (i9 + 1) (f9 - 1) (LX_it hl9 (LX_ps hl9 hLY)) ((itM_n hN8 hNn).1) ((itM_n hN8 hNn).2) (itM_t hN8 tN) (by omega) (by omega) (hR.trans (mr_step (by assumption) (by omega))) (by omega) _ _ _ hP hS (lv_sub hl [1, 0] rfl)
  exact J24 _ (itX T ln (nP M) (rdF T ln (upd (upd X 9 0) 11 0))) (itM T ln (nP M) M (rdF T ln (upd (upd X 9 0) 11 0))) 1 121 (LX_it hl9 (LX_rd hl9 hL0)) ((itM_n hM8 hMn).1) ((itM_n hM8 hMn).2) (itM_t hM8 tM) (rk_le hl9) (by omega) hRe (Nat.lt_succ_self _) _ _ _ hP hS (lv_sub hl [1, 0] rfl)
