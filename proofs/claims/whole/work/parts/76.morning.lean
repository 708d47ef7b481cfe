set_option maxHeartbeats 4000000 in
set_option maxRecDepth 100000 in
theorem c_X4_morningR (l : Launch) (G : Geo) (u : Sg) (F T : Nat → Int32) (ln : Nat) (hl9 : ln ≤ 120) (h4 : u.1 4 = F) (h5 : u.1 5 = T) (hln : F 1 = nI ln) (M E : Nat → Int32) (h0 : u.1 0 = M) (h1 : u.1 1 = E) (hM : NT M) (tE : ∀ k : Nat, 53 ≤ k → E k = 0) (R : TS) (hRe : R = ttS T ln 120 (ntF T ln (upd F 4 0)) M 1) : CtI l G yX4_morning wsX4_morning (rmO 7 155) [.ref (gad G 0)] u (fun r v => r = R.1 ∧ v = sI (sI (sI u 1 R.2.2) 4 (upd R.2.1 1 0)) 0 (if R.1 < 0 then M else R.2.2)) := by
  refine CtI.of (cc := cX4_morning) (maxL := 3) (ret := (some .int)) (own := RX4) (by decide) rfl rfl ?_
  rintro pg ev s0 mm below meth cd ⟨hx, hb, hr, hml, hown, hts, hlocks⟩ hE hP ls hl
  have hS : va_S (gA G) s0.heap s0.heap [] := va_S.rf
  have hl : lv_has ls 3 [(0, .ref (gad G 0))] := hl
  have hin3 : ∀ w ∈ wsX30, w ∈ wsX4_morning := by decide +kernel
  have hin4 : ∀ w ∈ wsX40, w ∈ wsX4_morning := by decide +kernel
  have tR : ∀ k : Nat, 53 ≤ k → R.2.2 k = 0 := by rw [hRe]; exact (NT_tt _ _ _ _ hM).2
  refine lv_aload_n hx hb dX4_morning_0 rfl (lv_at hl 0 rfl) ?_
  refine hd_callVr (As := []) (rest := []) ⟨hx, hb, hml, hown, hts⟩ hE hP hS (c_X4_freshTrial l G u M E h0 h1 hM.2 tE) rfl (cwV 0 hts gX4_morning_X4_freshTrial rfl rfl rfl (by decide +kernel) ⟨Nat.le_of_ble_eq_true rfl, Nat.le_of_ble_eq_true rfl⟩) (do_recv hE hP) rfl hl.1 rfl (Nat.le_of_ble_eq_true rfl) dX4_morning_1 (fun H locs hP hS => ?_)
  refine lv_astore_n (lv' := [(1, .ref (gS G 1)), (0, .ref (gad G 0))]) hx hb dX4_morning_4 rfl hl (by decide) rfl (fun ls hl => ?_)
  refine lv_aload_n hx hb dX4_morning_5 rfl (lv_at hl 1 rfl) ?_
  refine do_get hx hb hts hin4 hown hE hP ((sI_ne _ _ (by decide)).trans rfl) 4 (by decide) (hts (.fieldLink RX4 29 "HeldDoor" "text" "LHeldDoor$Text;") (by decide +kernel)) (v := .ref (gad G 22)) rfl dX4_morning_6 ?_
  refine lv_aload_n hx hb dX4_morning_9 rfl (lv_at hl 0 rfl) ?_
  refine hd_callVi (As := [.ref (gS G 1)]) (rest := []) ⟨hx, hb, hml, hown, hts⟩ hE hP hS (c_X3_tellToR l G (sI u 1 M) F T ln hl9 ((sI_ne _ _ (by decide)).trans h4) ((sI_ne _ _ (by decide)).trans h5) hln M (sI_at _ _ _) hM R hRe) rfl (cwV 1 hts gX4_morning_X3_tellTo rfl rfl rfl (by decide +kernel) ⟨Nat.le_of_ble_eq_true rfl, Nat.le_of_ble_eq_true rfl⟩) (tx_recv hE hP) rfl hl.1 rfl (Nat.le_of_ble_eq_true rfl) dX4_morning_10 (fun rq_2 vq_2 H locs q_2 hP hS => ?_)
  obtain ⟨q_2r, q_2v⟩ := q_2
  have hP := hP.cast (q_2v.trans (tt_st _ _ _ _))
  refine lv_cast q_2r ?_
  refine lv_istore_n (lv' := [(2, .int R.1), (1, .ref (gS G 1)), (0, .ref (gad G 0))]) hx hb dX4_morning_13 rfl hl (by decide) rfl (fun ls hl => ?_)
  refine lv_iload_n hx hb dX4_morning_14 rfl (lv_at hl 0 rfl) ?_
  refine lv_if_lt (tgt := 26) hx hb dX4_morning_15 (by decide) (fun c_3 => ?_) (fun c_3 => ?_)
  · skip
    refine lv_aload_n hx hb dX4_morning_26 rfl (lv_at hl 2 rfl) ?_
    refine do_get hx hb hts hin4 hown hE hP ((sI_ne _ _ (by decide)).trans ((sI_ne _ _ (by decide)).trans rfl)) 4 (by decide) (hts (.fieldLink RX4 29 "HeldDoor" "text" "LHeldDoor$Text;") (by decide +kernel)) (v := .ref (gad G 22)) rfl dX4_morning_27 ?_
    refine lv_iconst (v := 0) hx hb dX4_morning_30 (by decide) ?_
    refine tx_put hx hb hts hin3 hown hE hP hS (sI_at _ _ _) 1 (by decide) (hts (.fieldLink RX4 173 "HeldDoor$Text" "length" "I") (by decide +kernel)) (sI_sI _ _ _ _) dX4_morning_31 (fun H locs hP hS => ?_)
    refine lv_iload_n hx hb dX4_morning_34 rfl (lv_at hl 0 rfl) ?_
    exact hd_iret hx hb hr hlocks hP hS (by rw [if_pos c_3]; exact ⟨rfl, mc_1 h0⟩) dX4_morning_35
  · skip
    refine lv_aload_n hx hb dX4_morning_18 rfl (lv_at hl 2 rfl) ?_
    refine do_get hx hb hts hin4 hown hE hP ((sI_ne _ _ (by decide)).trans ((sI_ne _ _ (by decide)).trans rfl)) 0 (by decide) (hts (.fieldLink RX4 10 "HeldDoor" "scene" "LHeldDoor$Scene;") (by decide +kernel)) (v := .ref (gS G 0)) rfl dX4_morning_19 ?_
    refine lv_aload_n hx hb dX4_morning_22 rfl (lv_at hl 1 rfl) ?_
    refine hd_callVv (As := [.ref (gS G 1)]) (rest := []) ⟨hx, hb, hml, hown, hts⟩ hE hP hS (c_X1_become l G (sI (sI u 1 R.2.2) 4 R.2.1) 0 1 (by decide) (by decide) (by decide) M R.2.2 ((sI_ne _ _ (by decide)).trans ((sI_ne _ _ (by decide)).trans h0)) ((sI_ne _ _ (by decide)).trans (sI_at _ _ _)) hM.2 tR) rfl (cwV 1 hts gX4_morning_X1_become rfl rfl rfl (by decide +kernel) ⟨Nat.le_of_ble_eq_true rfl, Nat.le_of_ble_eq_true rfl⟩) (sc_recv hE hP (by decide)) rfl hl.1 rfl (Nat.le_of_ble_eq_true rfl) dX4_morning_23 (fun vq_4 H locs q_4 hP hS => ?_)
    have hP := hP.cast (q_4)
    refine lv_aload_n hx hb dX4_morning_26 rfl (lv_at hl 2 rfl) ?_
    refine do_get hx hb hts hin4 hown hE hP ((sI_ne _ _ (by decide)).trans ((sI_ne _ _ (by decide)).trans ((sI_ne _ _ (by decide)).trans rfl))) 4 (by decide) (hts (.fieldLink RX4 29 "HeldDoor" "text" "LHeldDoor$Text;") (by decide +kernel)) (v := .ref (gad G 22)) rfl dX4_morning_27 ?_
    refine lv_iconst (v := 0) hx hb dX4_morning_30 (by decide) ?_
    refine tx_put hx hb hts hin3 hown hE hP hS ((sI_ne _ _ (by decide)).trans (sI_at _ _ _)) 1 (by decide) (hts (.fieldLink RX4 173 "HeldDoor$Text" "length" "I") (by decide +kernel)) (sI_mid _ _ _ _ (by decide)) dX4_morning_31 (fun H locs hP hS => ?_)
    refine lv_iload_n hx hb dX4_morning_34 rfl (lv_at hl 0 rfl) ?_
    exact hd_iret hx hb hr hlocks hP hS (by rw [if_neg c_3]; exact ⟨rfl, by first | exact mc_2 | exact sI_comm _ _ _ (by decide)⟩) dX4_morning_35
