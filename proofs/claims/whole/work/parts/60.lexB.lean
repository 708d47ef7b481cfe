theorem c_X5_reads2 (l : Launch) (G : Geo) (u : Sg) (X T : Nat → Int32) (ln : Nat) (hl9 : ln ≤ 120) (h14 : u.1 14 = X) (h16 : u.1 16 = T) (hL : LX ln X) : CtV l G yX5_reads wsX5_reads (rmO 2 46) [.ref (gad G 34)] u (fun v => v = sI u 14 (rdF T ln X)) := by
  obtain ⟨h6, a9, ha, h9⟩ := hL
  unfold rdF
  rw [h9, nI_clamp (by omega)]
  exact c_X5_reads l G u X T ln hl9 h14 h16 h6 a9 h9 ha
set_option maxHeartbeats 4000000 in
set_option maxRecDepth 100000 in
theorem c_X5_passes (l : Launch) (G : Geo) (u : Sg) (X T : Nat → Int32) (ln : Nat) (hl9 : ln ≤ 120) (h14 : u.1 14 = X) (h16 : u.1 16 = T) (hL : LX ln X) (w : Int32) : CtI l G yX5_passes wsX5_passes (rmO 3 66) [.ref (gad G 34), .int w] u (fun r v => r = bI (psB X w) ∧ v = sI u 14 (psX T ln X w)) := by
  refine CtI.of (cc := cX5_passes) (maxL := 2) (ret := (some .boolean)) (own := RX5) (by decide) rfl rfl ?_
  rintro pg ev s0 mm below meth cd ⟨hx, hb, hr, hml, hown, hts, hlocks⟩ hE hP ls hl
  have hS : va_S (gA G) s0.heap s0.heap [] := va_S.rf
  have hl : lv_has ls 2 [(0, .ref (gad G 34)), (1, .int w)] := hl
  have hin5 : ∀ w ∈ wsX50, w ∈ wsX5_passes := by decide +kernel
  refine lv_aload_n hx hb dX5_passes_0 rfl (lv_at hl 0 rfl) ?_
  refine mo_get hx hb hts hin5 hown hE hP h14 11 (by decide) (hts (.fieldLink RX5 166 "HeldDoorModel" "bad" "Z") (by decide +kernel)) (v := .int (X 11)) rfl dX5_passes_1 ?_
  refine lv_if_ne (tgt := 15) hx hb dX5_passes_4 (by decide) (fun c_1 => ?_) (fun c_1 => ?_)
  · skip
    refine lv_iconst (v := 0) hx hb dX5_passes_15 (by decide) ?_
    exact hd_zret hx hb hr hlocks hP hS ⟨(by simp [psB, bI, c_1]), (by simp [psX, psB, sI_id h14, c_1])⟩ rfl dX5_passes_16
  · skip
    refine lv_aload_n hx hb dX5_passes_7 rfl (lv_at hl 0 rfl) ?_
    refine mo_get hx hb hts hin5 hown hE hP h14 7 (by decide) (hts (.fieldLink RX5 160 "HeldDoorModel" "token" "I") (by decide +kernel)) (v := .int (X 7)) rfl dX5_passes_8 ?_
    refine lv_iload_n hx hb dX5_passes_11 rfl (lv_at hl 1 rfl) ?_
    refine lv_icmp_eq (tgt := 17) hx hb dX5_passes_12 (by decide) (fun c_2 => ?_) (fun c_2 => ?_)
    · skip
      refine lv_aload_n hx hb dX5_passes_17 rfl (lv_at hl 0 rfl) ?_
      refine hd_callVv (As := []) (rest := []) ⟨hx, hb, hml, hown, hts⟩ hE hP hS (c_X5_reads2 l G u X T ln hl9 h14 h16 hL) rfl (cwV 0 hts gX5_passes_X5_reads rfl rfl rfl (by decide +kernel) ⟨Nat.le_of_ble_eq_true rfl, Nat.le_of_ble_eq_true rfl⟩) (mo_recv hE hP) rfl hl.1 rfl (Nat.le_of_ble_eq_true rfl) dX5_passes_18 (fun vq_3 H locs q_3 hP hS => ?_)
      have hP := hP.cast (q_3)
      refine lv_iconst (v := 1) hx hb dX5_passes_21 (by decide) ?_
      exact hd_zret hx hb hr hlocks hP hS ⟨(by simp [psB, bI, c_1, c_2]), (by simp [psX, psB, sI_id h14, c_1, c_2])⟩ rfl dX5_passes_22
    · skip
      refine lv_iconst (v := 0) hx hb dX5_passes_15 (by decide) ?_
      exact hd_zret hx hb hr hlocks hP hS ⟨(by simp [psB, bI, c_1, c_2]), (by simp [psX, psB, sI_id h14, c_1, c_2])⟩ rfl dX5_passes_16
set_option maxHeartbeats 4000000 in
set_option maxRecDepth 100000 in
theorem c_X5_number (l : Launch) (G : Geo) (u : Sg) (X T : Nat → Int32) (ln : Nat) (hl9 : ln ≤ 120) (h14 : u.1 14 = X) (h16 : u.1 16 = T) (hL : LX ln X) (a b : Int32) : CtI l G yX5_number wsX5_number (rmO 3 66) [.ref (gad G 34), .int a, .int b] u (fun r v => r = X 10 ∧ v = sI u 14 (nuX T ln X a b)) := by
  refine CtI.of (cc := cX5_number) (maxL := 4) (ret := (some .int)) (own := RX5) (by decide) rfl rfl ?_
  rintro pg ev s0 mm below meth cd ⟨hx, hb, hr, hml, hown, hts, hlocks⟩ hE hP ls hl
  have hS : va_S (gA G) s0.heap s0.heap [] := va_S.rf
  have hl : lv_has ls 4 [(0, .ref (gad G 34)), (1, .int a), (2, .int b)] := hl
  have hin5 : ∀ w ∈ wsX50, w ∈ wsX5_number := by decide +kernel
  refine lv_aload_n hx hb dX5_number_0 rfl (lv_at hl 0 rfl) ?_
  refine mo_get hx hb hts hin5 hown hE hP h14 10 (by decide) (hts (.fieldLink RX5 157 "HeldDoorModel" "value" "I") (by decide +kernel)) (v := .int (X 10)) rfl dX5_number_1 ?_
  refine lv_istore_n (lv' := [(3, .int (X 10)), (0, .ref (gad G 34)), (1, .int a), (2, .int b)]) hx hb dX5_number_4 rfl hl (by decide) rfl (fun ls hl => ?_)
  refine lv_aload_n hx hb dX5_number_5 rfl (lv_at hl 1 rfl) ?_
  refine lv_aload_n hx hb dX5_number_6 rfl (lv_at hl 1 rfl) ?_
  refine mo_get hx hb hts hin5 hown hE hP h14 11 (by decide) (hts (.fieldLink RX5 166 "HeldDoorModel" "bad" "Z") (by decide +kernel)) (v := .int (X 11)) rfl dX5_number_7 ?_
  refine lv_if_ne (tgt := 32) hx hb dX5_number_10 (by decide) (fun c_1 => ?_) (fun c_1 => ?_)
  · skip
    refine lv_iconst (v := 1) hx hb dX5_number_32 (by decide) ?_
    refine lv_goto (tgt := 37) hx hb dX5_number_33 (by decide) ?_
    refine mo_putz hx hb hts hin5 hown hE hP hS h14 11 (by decide) (hts (.fieldLink RX5 166 "HeldDoorModel" "bad" "Z") (by decide +kernel)) ⟨rfl, rfl⟩ rfl dX5_number_37 (fun H locs hP hS => ?_)
    refine lv_aload_n hx hb dX5_number_40 rfl (lv_at hl 1 rfl) ?_
    refine mo_get hx hb hts hin5 hown hE hP (sI_at _ _ _) 11 (by decide) (hts (.fieldLink RX5 166 "HeldDoorModel" "bad" "Z") (by decide +kernel)) (v := .int ((upd X 11 1) 11)) rfl dX5_number_41 ?_
    refine lv_cast (y := 1) (by rw [up_at]) ?_
    refine lv_if_ne (tgt := 51) hx hb dX5_number_44 (by decide) (fun _ => ?_) (fun h => False.elim (by revert h; decide))
    refine lv_iload_n hx hb dX5_number_51 rfl (lv_at hl 0 rfl) ?_
    exact hd_iret hx hb hr hlocks hP hS ⟨rfl, (by simp [nuX, nuB, c_1])⟩ dX5_number_52
  · skip
    refine lv_aload_n hx hb dX5_number_13 rfl (lv_at hl 1 rfl) ?_
    refine mo_get hx hb hts hin5 hown hE hP h14 7 (by decide) (hts (.fieldLink RX5 160 "HeldDoorModel" "token" "I") (by decide +kernel)) (v := .int (X 7)) rfl dX5_number_14 ?_
    refine lv_bipush (v := 20) hx hb dX5_number_17 (by decide) ?_
    refine lv_icmp_ne (tgt := 32) hx hb dX5_number_19 (by decide) (fun c_2 => ?_) (fun c_2 => ?_)
    · skip
      refine lv_iconst (v := 1) hx hb dX5_number_32 (by decide) ?_
      refine lv_goto (tgt := 37) hx hb dX5_number_33 (by decide) ?_
      refine mo_putz hx hb hts hin5 hown hE hP hS h14 11 (by decide) (hts (.fieldLink RX5 166 "HeldDoorModel" "bad" "Z") (by decide +kernel)) ⟨rfl, rfl⟩ rfl dX5_number_37 (fun H locs hP hS => ?_)
      refine lv_aload_n hx hb dX5_number_40 rfl (lv_at hl 1 rfl) ?_
      refine mo_get hx hb hts hin5 hown hE hP (sI_at _ _ _) 11 (by decide) (hts (.fieldLink RX5 166 "HeldDoorModel" "bad" "Z") (by decide +kernel)) (v := .int ((upd X 11 1) 11)) rfl dX5_number_41 ?_
      refine lv_cast (y := 1) (by rw [up_at]) ?_
      refine lv_if_ne (tgt := 51) hx hb dX5_number_44 (by decide) (fun _ => ?_) (fun h => False.elim (by revert h; decide))
      refine lv_iload_n hx hb dX5_number_51 rfl (lv_at hl 0 rfl) ?_
      exact hd_iret hx hb hr hlocks hP hS ⟨rfl, (by simp [nuX, nuB, c_1, c_2])⟩ dX5_number_52
    · skip
      refine lv_iload_n hx hb dX5_number_22 rfl (lv_at hl 0 rfl) ?_
      refine lv_i2l hx hb dX5_number_23 rfl ?_
      refine lv_iload_n hx hb dX5_number_24 rfl (lv_at hl 2 rfl) ?_
      refine lv_iload_n hx hb dX5_number_25 rfl (lv_at hl 3 rfl) ?_
      refine hd_callSi (As := [.long ((X 10).toInt64), .int a, .int b]) (rest := [.ref (gad G 34)]) ⟨hx, hb, hml, hown, hts⟩ hE hP hS (c_X5_inI l G u (X 10) a b) rfl (va_cwS 3 hts gX5_number_X5_in rfl rfl rfl (by decide +kernel) ⟨Nat.le_of_ble_eq_true rfl, Nat.le_of_ble_eq_true rfl⟩) rfl hl.1 rfl (Nat.le_of_ble_eq_true rfl) dX5_number_26 (fun rq_3 vq_3 H locs q_3 hP hS => ?_)
      have hP := hP.cast (q_3.2)
      refine lv_cast q_3.1 ?_
      refine bo_ne (tgt := 36) hx hb dX5_number_29 (by decide) (fun c_4 => ?_) (fun c_4 => ?_)
      · skip
        refine lv_iconst (v := 0) hx hb dX5_number_36 (by decide) ?_
        refine mo_putz hx hb hts hin5 hown hE hP hS h14 11 (by decide) (hts (.fieldLink RX5 166 "HeldDoorModel" "bad" "Z") (by decide +kernel)) ⟨rfl, rfl⟩ rfl dX5_number_37 (fun H locs hP hS => ?_)
        refine lv_aload_n hx hb dX5_number_40 rfl (lv_at hl 1 rfl) ?_
        refine mo_get hx hb hts hin5 hown hE hP (sI_at _ _ _) 11 (by decide) (hts (.fieldLink RX5 166 "HeldDoorModel" "bad" "Z") (by decide +kernel)) (v := .int ((upd X 11 0) 11)) rfl dX5_number_41 ?_
        refine lv_cast (y := 0) (by rw [up_at]) ?_
        refine lv_if_ne (tgt := 51) hx hb dX5_number_44 (by decide) (fun h => False.elim (by revert h; decide)) (fun _ => ?_)
        refine lv_aload_n hx hb dX5_number_47 rfl (lv_at hl 1 rfl) ?_
        refine hd_callVv (As := []) (rest := []) ⟨hx, hb, hml, hown, hts⟩ hE hP hS (c_X5_reads2 l G (sI u 14 (upd X 11 0)) (upd X 11 0) T ln hl9 (sI_at _ _ _) ((sI_ne _ _ (by decide)).trans h16) (LX_up hL (by decide) (by decide))) rfl (cwV 0 hts gX5_number_X5_reads rfl rfl rfl (by decide +kernel) ⟨Nat.le_of_ble_eq_true rfl, Nat.le_of_ble_eq_true rfl⟩) (mo_recv hE hP) rfl hl.1 rfl (Nat.le_of_ble_eq_true rfl) dX5_number_48 (fun vq_5 H locs q_5 hP hS => ?_)
        have q_5v := q_5
        have hP := hP.cast (q_5v.trans (sI_sI _ _ _ _))
        refine lv_iload_n hx hb dX5_number_51 rfl (lv_at hl 0 rfl) ?_
        exact hd_iret hx hb hr hlocks hP hS ⟨rfl, (by simp [nuX, nuB, c_1, c_2, c_4])⟩ dX5_number_52
      · skip
        refine lv_iconst (v := 1) hx hb dX5_number_32 (by decide) ?_
        refine lv_goto (tgt := 37) hx hb dX5_number_33 (by decide) ?_
        refine mo_putz hx hb hts hin5 hown hE hP hS h14 11 (by decide) (hts (.fieldLink RX5 166 "HeldDoorModel" "bad" "Z") (by decide +kernel)) ⟨rfl, rfl⟩ rfl dX5_number_37 (fun H locs hP hS => ?_)
        refine lv_aload_n hx hb dX5_number_40 rfl (lv_at hl 1 rfl) ?_
        refine mo_get hx hb hts hin5 hown hE hP (sI_at _ _ _) 11 (by decide) (hts (.fieldLink RX5 166 "HeldDoorModel" "bad" "Z") (by decide +kernel)) (v := .int ((upd X 11 1) 11)) rfl dX5_number_41 ?_
        refine lv_cast (y := 1) (by rw [up_at]) ?_
        refine lv_if_ne (tgt := 51) hx hb dX5_number_44 (by decide) (fun _ => ?_) (fun h => False.elim (by revert h; decide))
        refine lv_iload_n hx hb dX5_number_51 rfl (lv_at hl 0 rfl) ?_
        exact hd_iret hx hb hr hlocks hP hS ⟨rfl, (by simp [nuX, nuB, c_1, c_2, c_4])⟩ dX5_number_52
