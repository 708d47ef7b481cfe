set_option maxHeartbeats 4000000 in
set_option maxRecDepth 100000 in
theorem c_X5_image (l : Launch) (G : Geo) (u : Sg) (M F K E : Nat → Int32) (h11 : u.1 11 = M) (h15 : u.1 15 = F) (h12 : u.1 12 = K) (h14 : u.1 14 = E) (tM : ∀ k : Nat, 53 ≤ k → M k = 0) (tK : ∀ k : Nat, 53 ≤ k → K k = 0) : CtI l G yX5_image wsX5_image (rmO 1 22) [.ref (gad G 34)] u (fun r v => r = 1 ∧ v = sI (sI u 12 M) 14 (upd E 3 1)) := by
  refine CtI.of (cc := cX5_image) (maxL := 1) (ret := (some .int)) (own := RX5) (by decide) rfl rfl ?_
  rintro pg ev s0 mm below meth cd ⟨hx, hb, hr, hml, hown, hts, hlocks⟩ hE hP ls hl
  have hS : va_S (gA G) s0.heap s0.heap [] := va_S.rf
  have hl : lv_has ls 1 [(0, .ref (gad G 34))] := hl
  have hin5 : ∀ w ∈ wsX50, w ∈ wsX5_image := by decide +kernel
  refine lv_aload_n hx hb dX5_image_0 rfl (lv_at hl 0 rfl) ?_
  refine mo_get hx hb hts hin5 hown hE hP h14 0 (by decide) (hts (.fieldLink RX5 9 "HeldDoorModel" "m" "[I") (by decide +kernel)) (v := .ref (gad G 35)) rfl dX5_image_1 ?_
  refine lv_aload_n hx hb dX5_image_4 rfl (lv_at hl 0 rfl) ?_
  refine mo_get hx hb hts hin5 hown hE hP h14 1 (by decide) (hts (.fieldLink RX5 13 "HeldDoorModel" "kept" "[I") (by decide +kernel)) (v := .ref (gad G 36)) rfl dX5_image_5 ?_
  refine hd_callSv (As := [.ref (gad G 35), .ref (gad G 36)]) (rest := []) ⟨hx, hb, hml, hown, hts⟩ hE hP hS (c_X5_copyAll_35_36 l G u M K h11 h12 tM tK) rfl (va_cwS 2 hts gX5_image_X5_copyAll rfl rfl rfl (by decide +kernel) ⟨Nat.le_of_ble_eq_true rfl, Nat.le_of_ble_eq_true rfl⟩) rfl hl.1 rfl (Nat.le_of_ble_eq_true rfl) dX5_image_8 (fun vq_1 H locs q_1 hP hS => ?_)
  have hP := hP.cast (q_1)
  refine lv_aload_n hx hb dX5_image_11 rfl (lv_at hl 0 rfl) ?_
  refine lv_iconst (v := 1) hx hb dX5_image_12 (by decide) ?_
  refine mo_putz hx hb hts hin5 hown hE hP hS ((sI_ne _ _ (by decide)).trans h14) 3 (by decide) (hts (.fieldLink RX5 210 "HeldDoorModel" "isKept" "Z") (by decide +kernel)) ⟨rfl, rfl⟩ rfl dX5_image_13 (fun H locs hP hS => ?_)
  refine lv_iconst (v := 1) hx hb dX5_image_16 (by decide) ?_
  exact hd_iret hx hb hr hlocks hP hS ⟨rfl, rfl⟩ dX5_image_17
set_option maxHeartbeats 4000000 in
set_option maxRecDepth 100000 in
theorem c_X5_undo (l : Launch) (G : Geo) (u : Sg) (M F K E : Nat → Int32) (h11 : u.1 11 = M) (h15 : u.1 15 = F) (h12 : u.1 12 = K) (h14 : u.1 14 = E) (tM : ∀ k : Nat, 53 ≤ k → M k = 0) (tK : ∀ k : Nat, 53 ≤ k → K k = 0) : CtI l G yX5_undo wsX5_undo (rmO 1 22) [.ref (gad G 34)] u (fun r v => r = (if E 3 = 0 then -1000000004 else K 4) ∧ v = (if E 3 = 0 then sI u 15 (bmp F 3) else sI u 11 K)) := by
  refine CtI.of (cc := cX5_undo) (maxL := 1) (ret := (some .int)) (own := RX5) (by decide) rfl rfl ?_
  rintro pg ev s0 mm below meth cd ⟨hx, hb, hr, hml, hown, hts, hlocks⟩ hE hP ls hl
  have hS : va_S (gA G) s0.heap s0.heap [] := va_S.rf
  have hl : lv_has ls 1 [(0, .ref (gad G 34))] := hl
  have hin5 : ∀ w ∈ wsX50, w ∈ wsX5_undo := by decide +kernel
  refine lv_aload_n hx hb dX5_undo_0 rfl (lv_at hl 0 rfl) ?_
  refine mo_get hx hb hts hin5 hown hE hP h14 3 (by decide) (hts (.fieldLink RX5 210 "HeldDoorModel" "isKept" "Z") (by decide +kernel)) (v := .int (E 3)) rfl dX5_undo_1 ?_
  refine lv_if_ne (tgt := 14) hx hb dX5_undo_4 (by decide) (fun c_1 => ?_) (fun c_1 => ?_)
  · skip
    refine lv_aload_n hx hb dX5_undo_14 rfl (lv_at hl 0 rfl) ?_
    refine mo_get hx hb hts hin5 hown hE hP h14 1 (by decide) (hts (.fieldLink RX5 13 "HeldDoorModel" "kept" "[I") (by decide +kernel)) (v := .ref (gad G 36)) rfl dX5_undo_15 ?_
    refine lv_aload_n hx hb dX5_undo_18 rfl (lv_at hl 0 rfl) ?_
    refine mo_get hx hb hts hin5 hown hE hP h14 0 (by decide) (hts (.fieldLink RX5 9 "HeldDoorModel" "m" "[I") (by decide +kernel)) (v := .ref (gad G 35)) rfl dX5_undo_19 ?_
    refine hd_callSv (As := [.ref (gad G 36), .ref (gad G 35)]) (rest := []) ⟨hx, hb, hml, hown, hts⟩ hE hP hS (c_X5_copyAll_36_35 l G u K M h12 h11 tK tM) rfl (va_cwS 2 hts gX5_undo_X5_copyAll rfl rfl rfl (by decide +kernel) ⟨Nat.le_of_ble_eq_true rfl, Nat.le_of_ble_eq_true rfl⟩) rfl hl.1 rfl (Nat.le_of_ble_eq_true rfl) dX5_undo_22 (fun vq_2 H locs q_2 hP hS => ?_)
    have hP := hP.cast (q_2)
    refine lv_aload_n hx hb dX5_undo_25 rfl (lv_at hl 0 rfl) ?_
    refine mo_get hx hb hts hin5 hown hE hP ((sI_ne _ _ (by decide)).trans h14) 0 (by decide) (hts (.fieldLink RX5 9 "HeldDoorModel" "m" "[I") (by decide +kernel)) (v := .ref (gad G 35)) rfl dX5_undo_26 ?_
    refine lv_iconst (v := 4) hx hb dX5_undo_29 (by decide) ?_
    refine ar_ld hx hb hE hP 35 53 (by decide) (ar_at35 (sI_at _ _ _)) 4 (by omega) dX5_undo_30 ?_
    exact hd_iret hx hb hr hlocks hP hS ⟨(by rw [if_neg c_1]), (by rw [if_neg c_1])⟩ dX5_undo_31
  · skip
    refine lv_aload_n hx hb dX5_undo_7 rfl (lv_at hl 0 rfl) ?_
    refine lv_ldc (v := (-1000000004)) hx hb hown (hts (.constant RX5 36 ((-1000000004))) (by decide +kernel)) dX5_undo_8 ?_
    refine hd_callVi (As := [.int (-1000000004)]) (rest := []) ⟨hx, hb, hml, hown, hts⟩ hE hP hS (c_X5_finds_3 l G u F h15) rfl (cwV 1 hts gX5_undo_X5_finds rfl rfl rfl (by decide +kernel) ⟨Nat.le_of_ble_eq_true rfl, Nat.le_of_ble_eq_true rfl⟩) (mo_recv hE hP) rfl hl.1 rfl (Nat.le_of_ble_eq_true rfl) dX5_undo_10 (fun rq_3 vq_3 H locs q_3 hP hS => ?_)
    have hP := hP.cast (q_3.2)
    refine lv_cast q_3.1 ?_
    exact hd_iret hx hb hr hlocks hP hS ⟨(by rw [if_pos c_1]), (by rw [if_pos c_1])⟩ dX5_undo_13
set_option maxHeartbeats 4000000 in
set_option maxRecDepth 100000 in
theorem c_X5_tear (l : Launch) (G : Geo) (u : Sg) (M F K E : Nat → Int32) (h11 : u.1 11 = M) (h15 : u.1 15 = F) (h12 : u.1 12 = K) (h14 : u.1 14 = E) (tM : ∀ k : Nat, 53 ≤ k → M k = 0) (tK : ∀ k : Nat, 53 ≤ k → K k = 0) : CtI l G yX5_tear wsX5_tear (rmO 0 0) [.ref (gad G 34)] u (fun r v => r = (if E 3 = 0 then 0 else 1) ∧ v = sI u 14 (upd E 3 0)) := by
  refine CtI.of (cc := cX5_tear) (maxL := 2) (ret := (some .int)) (own := RX5) (by decide) rfl rfl ?_
  rintro pg ev s0 mm below meth cd ⟨hx, hb, hr, hml, hown, hts, hlocks⟩ hE hP ls hl
  have hS : va_S (gA G) s0.heap s0.heap [] := va_S.rf
  have hl : lv_has ls 2 [(0, .ref (gad G 34))] := hl
  have hin5 : ∀ w ∈ wsX50, w ∈ wsX5_tear := by decide +kernel
  refine lv_aload_n hx hb dX5_tear_0 rfl (lv_at hl 0 rfl) ?_
  refine mo_get hx hb hts hin5 hown hE hP h14 3 (by decide) (hts (.fieldLink RX5 210 "HeldDoorModel" "isKept" "Z") (by decide +kernel)) (v := .int (E 3)) rfl dX5_tear_1 ?_
  refine lv_if_eq (tgt := 11) hx hb dX5_tear_4 (by decide) (fun c_1 => ?_) (fun c_1 => ?_)
  · skip
    refine lv_iconst (v := 0) hx hb dX5_tear_11 (by decide) ?_
    refine lv_istore_n (lv' := [(1, .int 0), (0, .ref (gad G 34))]) hx hb dX5_tear_12 rfl hl (by decide) rfl (fun ls hl => ?_)
    refine lv_aload_n hx hb dX5_tear_13 rfl (lv_at hl 1 rfl) ?_
    refine lv_iconst (v := 0) hx hb dX5_tear_14 (by decide) ?_
    refine mo_putz hx hb hts hin5 hown hE hP hS h14 3 (by decide) (hts (.fieldLink RX5 210 "HeldDoorModel" "isKept" "Z") (by decide +kernel)) ⟨rfl, rfl⟩ rfl dX5_tear_15 (fun H locs hP hS => ?_)
    refine lv_iload_n hx hb dX5_tear_18 rfl (lv_at hl 0 rfl) ?_
    exact hd_iret hx hb hr hlocks hP hS ⟨(by rw [if_pos c_1]), rfl⟩ dX5_tear_19
  · skip
    refine lv_iconst (v := 1) hx hb dX5_tear_7 (by decide) ?_
    refine lv_goto (tgt := 12) hx hb dX5_tear_8 (by decide) ?_
    refine lv_istore_n (lv' := [(1, .int 1), (0, .ref (gad G 34))]) hx hb dX5_tear_12 rfl hl (by decide) rfl (fun ls hl => ?_)
    refine lv_aload_n hx hb dX5_tear_13 rfl (lv_at hl 1 rfl) ?_
    refine lv_iconst (v := 0) hx hb dX5_tear_14 (by decide) ?_
    refine mo_putz hx hb hts hin5 hown hE hP hS h14 3 (by decide) (hts (.fieldLink RX5 210 "HeldDoorModel" "isKept" "Z") (by decide +kernel)) ⟨rfl, rfl⟩ rfl dX5_tear_15 (fun H locs hP hS => ?_)
    refine lv_iload_n hx hb dX5_tear_18 rfl (lv_at hl 0 rfl) ?_
    exact hd_iret hx hb hr hlocks hP hS ⟨(by rw [if_neg c_1]), rfl⟩ dX5_tear_19
set_option maxHeartbeats 4000000 in
set_option maxRecDepth 100000 in
theorem c_X5_wipe (l : Launch) (G : Geo) (u : Sg) (X : Nat → Int32) (h14 : u.1 14 = X) : CtI l G yX5_wipe wsX5_wipe (rmO 0 0) [.ref (gad G 34)] u (fun r v => r = X 6 ∧ v = sI u 14 (upd X 6 0)) := by
  refine CtI.of (cc := cX5_wipe) (maxL := 2) (ret := (some .int)) (own := RX5) (by decide) rfl rfl ?_
  rintro pg ev s0 mm below meth cd ⟨hx, hb, hr, hml, hown, hts, hlocks⟩ hE hP ls hl
  have hS : va_S (gA G) s0.heap s0.heap [] := va_S.rf
  have hl : lv_has ls 2 [(0, .ref (gad G 34))] := hl
  have hin5 : ∀ w ∈ wsX50, w ∈ wsX5_wipe := by decide +kernel
  refine lv_aload_n hx hb dX5_wipe_0 rfl (lv_at hl 0 rfl) ?_
  refine mo_get hx hb hts hin5 hown hE hP h14 6 (by decide) (hts (.fieldLink RX5 137 "HeldDoorModel" "taped" "I") (by decide +kernel)) (v := .int (X 6)) rfl dX5_wipe_1 ?_
  refine lv_istore_n (lv' := [(1, .int (X 6)), (0, .ref (gad G 34))]) hx hb dX5_wipe_4 rfl hl (by decide) rfl (fun ls hl => ?_)
  refine lv_aload_n hx hb dX5_wipe_5 rfl (lv_at hl 1 rfl) ?_
  refine lv_iconst (v := 0) hx hb dX5_wipe_6 (by decide) ?_
  refine mo_put hx hb hts hin5 hown hE hP hS h14 6 (by decide) (hts (.fieldLink RX5 137 "HeldDoorModel" "taped" "I") (by decide +kernel)) rfl dX5_wipe_7 (fun H locs hP hS => ?_)
  refine lv_iload_n hx hb dX5_wipe_10 rfl (lv_at hl 0 rfl) ?_
  exact hd_iret hx hb hr hlocks hP hS ⟨rfl, rfl⟩ dX5_wipe_11
set_option maxHeartbeats 4000000 in
set_option maxRecDepth 100000 in
theorem c_X5_feed_1 (l : Launch) (G : Geo) (u : Sg) (X Y : Nat → Int32) (h14 : u.1 14 = X) (h16 : u.1 16 = Y) (ln : Nat) (hln : X 6 = nI ln) (hlm : ln ≤ 120) (F : Nat → Int32) (h15 : u.1 15 = F) (x : Int32) : CtI l G yX5_feed wsX5_feed (rmO 1 23) [.ref (gad G 34), .int x, .int 1] u (PS u 15 F (f_feed ln 1) (fun r v => r = nI (ln + 1) ∧ v = sI (sI u 16 (apG gMo Y ln x 1)) 14 (upd X 6 (nI (ln + 1))))) := by
  refine CtI.of (cc := cX5_feed) (maxL := 4) (ret := (some .int)) (own := RX5) (by decide) rfl rfl ?_
  rintro pg ev s0 mm below meth cd ⟨hx, hb, hr, hml, hown, hts, hlocks⟩ hE hP ls hl
  have hS : va_S (gA G) s0.heap s0.heap [] := va_S.rf
  have hl : lv_has ls 4 [(0, .ref (gad G 34)), (1, .int x), (2, .int 1)] := hl
  have hin5 : ∀ w ∈ wsX50, w ∈ wsX5_feed := by decide +kernel
  refine lv_iload_n hx hb dX5_feed_0 rfl (lv_at hl 2 rfl) ?_
  refine lv_i2l hx hb dX5_feed_1 rfl ?_
  refine lv_iconst (v := 1) hx hb dX5_feed_2 (by decide) ?_
  refine lv_iconst (v := 4) hx hb dX5_feed_3 (by decide) ?_
  refine hd_callSi (As := [.long ((1 : Int32).toInt64), .int 1, .int 4]) (rest := []) ⟨hx, hb, hml, hown, hts⟩ hE hP hS (c_X5_inI l G u 1 1 4) rfl (va_cwS 3 hts gX5_feed_X5_in rfl rfl rfl (by decide +kernel) ⟨Nat.le_of_ble_eq_true rfl, Nat.le_of_ble_eq_true rfl⟩) rfl hl.1 rfl (Nat.le_of_ble_eq_true rfl) dX5_feed_4 (fun rq_1 vq_1 H locs q_1 hP hS => ?_)
  have hP := hP.cast (q_1.2)
  refine lv_cast q_1.1 ?_
  refine bo_ne (tgt := 17) hx hb dX5_feed_7 (by decide) (fun c_2 => ?_) (fun c_2 => absurd c_2 (by decide))
  refine lv_aload_n hx hb dX5_feed_17 rfl (lv_at hl 0 rfl) ?_
  refine mo_get hx hb hts hin5 hown hE hP h14 6 (by decide) (hts (.fieldLink RX5 137 "HeldDoorModel" "taped" "I") (by decide +kernel)) (v := .int (X 6)) rfl dX5_feed_18 ?_
  refine lv_cast hln ?_
  refine lv_iload_n hx hb dX5_feed_21 rfl (lv_at hl 2 rfl) ?_
  refine nn_iadd (a := ln) (b := 1) hx hb dX5_feed_22 ?_
  refine lv_bipush (v := 120) hx hb dX5_feed_23 (by decide) ?_
  refine nn_le (a := ln + 1) (b := 120) (by omega) (by omega) (tgt := 35) hx hb dX5_feed_25 (by decide) (fun c_3 => ?_) (fun c_3 => ?_)
  · skip
    refine lv_iload_n hx hb dX5_feed_35 rfl (lv_at hl 2 rfl) ?_
    refine lv_iconst (v := 1) hx hb dX5_feed_36 (by decide) ?_
    refine lv_isub hx hb dX5_feed_37 ?_
    refine lv_cast (y := 0) (by decide) ?_
    refine lv_istore_n (lv' := [(3, .int 0), (0, .ref (gad G 34)), (1, .int x), (2, .int 1)]) hx hb dX5_feed_38 rfl hl (by decide) rfl (fun ls hl => ?_)
    refine lv_iload_n hx hb dX5_feed_39 rfl (lv_at hl 0 rfl) ?_
    refine lv_if_lt (tgt := 78) hx hb dX5_feed_40 (by decide) (fun h => False.elim (by revert h; decide)) (fun _ => ?_)
    refine lv_aload_n hx hb dX5_feed_43 rfl (lv_at hl 1 rfl) ?_
    refine mo_get hx hb hts hin5 hown hE hP h14 5 (by decide) (hts (.fieldLink RX5 22 "HeldDoorModel" "tape" "[I") (by decide +kernel)) (v := .ref (gad G 39)) rfl dX5_feed_44 ?_
    refine lv_aload_n hx hb dX5_feed_47 rfl (lv_at hl 1 rfl) ?_
    refine mo_get hx hb hts hin5 hown hE hP h14 6 (by decide) (hts (.fieldLink RX5 137 "HeldDoorModel" "taped" "I") (by decide +kernel)) (v := .int (X 6)) rfl dX5_feed_48 ?_
    refine lv_cast hln ?_
    refine lv_iload_n hx hb dX5_feed_51 rfl (lv_at hl 2 rfl) ?_
    refine lv_bipush (v := 8) hx hb dX5_feed_52 (by decide) ?_
    refine lv_iload_n hx hb dX5_feed_54 rfl (lv_at hl 0 rfl) ?_
    refine lv_imul hx hb dX5_feed_55 ?_
    refine lv_cast (y := 0) (by decide) ?_
    refine lv_ishr hx hb dX5_feed_56 ?_
    refine lv_sipush (v := 255) hx hb dX5_feed_57 (by decide) ?_
    refine lv_iand hx hb dX5_feed_60 ?_
    refine ar_st hx hb hE hP hS 39 120 (by decide) (ar_at39 h16) (ar_set39 _ _) ln (by omega) rfl dX5_feed_61 (fun H locs hP hS => ?_)
    refine lv_aload_n hx hb dX5_feed_62 rfl (lv_at hl 1 rfl) ?_
    refine lv_dup hx hb dX5_feed_63 rfl ?_
    refine mo_get hx hb hts hin5 hown hE hP ((sI_ne _ _ (by decide)).trans h14) 6 (by decide) (hts (.fieldLink RX5 137 "HeldDoorModel" "taped" "I") (by decide +kernel)) (v := .int (X 6)) rfl dX5_feed_64 ?_
    refine lv_cast hln ?_
    refine lv_iconst (v := 1) hx hb dX5_feed_67 (by decide) ?_
    refine nn_iadd (a := ln) (b := 1) hx hb dX5_feed_68 ?_
    refine mo_put hx hb hts hin5 hown hE hP hS ((sI_ne _ _ (by decide)).trans h14) 6 (by decide) (hts (.fieldLink RX5 137 "HeldDoorModel" "taped" "I") (by decide +kernel)) rfl dX5_feed_69 (fun H locs hP hS => ?_)
    refine lv_iinc (v := (-1)) (lv' := [(3, .int (-1)), (0, .ref (gad G 34)), (1, .int x), (2, .int 1)]) hx hb dX5_feed_72 hl (k := 0) rfl (by decide) (by decide) rfl (fun ls hl => ?_)
    refine lv_goto (tgt := 39) hx hb dX5_feed_75 (by decide) ?_
    refine lv_iload_n hx hb dX5_feed_39 rfl (lv_at hl 0 rfl) ?_
    refine lv_if_lt (tgt := 78) hx hb dX5_feed_40 (by decide) (fun _ => ?_) (fun h => False.elim (by revert h; decide))
    refine lv_aload_n hx hb dX5_feed_78 rfl (lv_at hl 1 rfl) ?_
    refine mo_get hx hb hts hin5 hown hE hP (sI_at _ _ _) 6 (by decide) (hts (.fieldLink RX5 137 "HeldDoorModel" "taped" "I") (by decide +kernel)) (v := .int ((upd X 6 (nI (ln + 1))) 6)) rfl dX5_feed_79 ?_
    refine lv_cast (y := nI (ln + 1)) (by rw [up_at]) ?_
    exact hd_iret hx hb hr hlocks hP hS (PS.ok (feed_ok (k := 1) (by decide) (by decide) (by omega)) ⟨rfl, rfl⟩) dX5_feed_82
  · skip
    refine lv_aload_n hx hb dX5_feed_28 rfl (lv_at hl 0 rfl) ?_
    refine lv_ldc (v := (-1000000002)) hx hb hown (hts (.constant RX5 70 ((-1000000002))) (by decide +kernel)) dX5_feed_29 ?_
    refine hd_callVi (As := [.int (-1000000002)]) (rest := []) ⟨hx, hb, hml, hown, hts⟩ hE hP hS (c_X5_finds_1 l G u F h15) rfl (cwV 1 hts gX5_feed_X5_finds rfl rfl rfl (by decide +kernel) ⟨Nat.le_of_ble_eq_true rfl, Nat.le_of_ble_eq_true rfl⟩) (mo_recv hE hP) rfl hl.1 rfl (Nat.le_of_ble_eq_true rfl) dX5_feed_31 (fun rq_4 vq_4 H locs q_4 hP hS => ?_)
    have hP := hP.cast (q_4.2)
    refine lv_cast q_4.1 ?_
    exact hd_iret hx hb hr hlocks hP hS (PS.bad (-1000000002) (feed_full (k := 1) (by decide) (by decide) (by omega) (by omega)) (by decide) rfl rfl) dX5_feed_34
set_option maxHeartbeats 4000000 in
set_option maxRecDepth 100000 in
theorem c_X5_feed_2 (l : Launch) (G : Geo) (u : Sg) (X Y : Nat → Int32) (h14 : u.1 14 = X) (h16 : u.1 16 = Y) (ln : Nat) (hln : X 6 = nI ln) (hlm : ln ≤ 120) (F : Nat → Int32) (h15 : u.1 15 = F) (x : Int32) : CtI l G yX5_feed wsX5_feed (rmO 1 23) [.ref (gad G 34), .int x, .int 2] u (PS u 15 F (f_feed ln 2) (fun r v => r = nI (ln + 2) ∧ v = sI (sI u 16 (apG gMo Y ln x 2)) 14 (upd X 6 (nI (ln + 2))))) := by
  refine CtI.of (cc := cX5_feed) (maxL := 4) (ret := (some .int)) (own := RX5) (by decide) rfl rfl ?_
  rintro pg ev s0 mm below meth cd ⟨hx, hb, hr, hml, hown, hts, hlocks⟩ hE hP ls hl
  have hS : va_S (gA G) s0.heap s0.heap [] := va_S.rf
  have hl : lv_has ls 4 [(0, .ref (gad G 34)), (1, .int x), (2, .int 2)] := hl
  have hin5 : ∀ w ∈ wsX50, w ∈ wsX5_feed := by decide +kernel
  refine lv_iload_n hx hb dX5_feed_0 rfl (lv_at hl 2 rfl) ?_
  refine lv_i2l hx hb dX5_feed_1 rfl ?_
  refine lv_iconst (v := 1) hx hb dX5_feed_2 (by decide) ?_
  refine lv_iconst (v := 4) hx hb dX5_feed_3 (by decide) ?_
  refine hd_callSi (As := [.long ((2 : Int32).toInt64), .int 1, .int 4]) (rest := []) ⟨hx, hb, hml, hown, hts⟩ hE hP hS (c_X5_inI l G u 2 1 4) rfl (va_cwS 3 hts gX5_feed_X5_in rfl rfl rfl (by decide +kernel) ⟨Nat.le_of_ble_eq_true rfl, Nat.le_of_ble_eq_true rfl⟩) rfl hl.1 rfl (Nat.le_of_ble_eq_true rfl) dX5_feed_4 (fun rq_1 vq_1 H locs q_1 hP hS => ?_)
  have hP := hP.cast (q_1.2)
  refine lv_cast q_1.1 ?_
  refine bo_ne (tgt := 17) hx hb dX5_feed_7 (by decide) (fun c_2 => ?_) (fun c_2 => absurd c_2 (by decide))
  refine lv_aload_n hx hb dX5_feed_17 rfl (lv_at hl 0 rfl) ?_
  refine mo_get hx hb hts hin5 hown hE hP h14 6 (by decide) (hts (.fieldLink RX5 137 "HeldDoorModel" "taped" "I") (by decide +kernel)) (v := .int (X 6)) rfl dX5_feed_18 ?_
  refine lv_cast hln ?_
  refine lv_iload_n hx hb dX5_feed_21 rfl (lv_at hl 2 rfl) ?_
  refine nn_iadd (a := ln) (b := 2) hx hb dX5_feed_22 ?_
  refine lv_bipush (v := 120) hx hb dX5_feed_23 (by decide) ?_
  refine nn_le (a := ln + 2) (b := 120) (by omega) (by omega) (tgt := 35) hx hb dX5_feed_25 (by decide) (fun c_3 => ?_) (fun c_3 => ?_)
  · skip
    refine lv_iload_n hx hb dX5_feed_35 rfl (lv_at hl 2 rfl) ?_
    refine lv_iconst (v := 1) hx hb dX5_feed_36 (by decide) ?_
    refine lv_isub hx hb dX5_feed_37 ?_
    refine lv_cast (y := 1) (by decide) ?_
    refine lv_istore_n (lv' := [(3, .int 1), (0, .ref (gad G 34)), (1, .int x), (2, .int 2)]) hx hb dX5_feed_38 rfl hl (by decide) rfl (fun ls hl => ?_)
    refine lv_iload_n hx hb dX5_feed_39 rfl (lv_at hl 0 rfl) ?_
    refine lv_if_lt (tgt := 78) hx hb dX5_feed_40 (by decide) (fun h => False.elim (by revert h; decide)) (fun _ => ?_)
    refine lv_aload_n hx hb dX5_feed_43 rfl (lv_at hl 1 rfl) ?_
    refine mo_get hx hb hts hin5 hown hE hP h14 5 (by decide) (hts (.fieldLink RX5 22 "HeldDoorModel" "tape" "[I") (by decide +kernel)) (v := .ref (gad G 39)) rfl dX5_feed_44 ?_
    refine lv_aload_n hx hb dX5_feed_47 rfl (lv_at hl 1 rfl) ?_
    refine mo_get hx hb hts hin5 hown hE hP h14 6 (by decide) (hts (.fieldLink RX5 137 "HeldDoorModel" "taped" "I") (by decide +kernel)) (v := .int (X 6)) rfl dX5_feed_48 ?_
    refine lv_cast hln ?_
    refine lv_iload_n hx hb dX5_feed_51 rfl (lv_at hl 2 rfl) ?_
    refine lv_bipush (v := 8) hx hb dX5_feed_52 (by decide) ?_
    refine lv_iload_n hx hb dX5_feed_54 rfl (lv_at hl 0 rfl) ?_
    refine lv_imul hx hb dX5_feed_55 ?_
    refine lv_cast (y := 8) (by decide) ?_
    refine lv_ishr hx hb dX5_feed_56 ?_
    refine lv_sipush (v := 255) hx hb dX5_feed_57 (by decide) ?_
    refine lv_iand hx hb dX5_feed_60 ?_
    refine ar_st hx hb hE hP hS 39 120 (by decide) (ar_at39 h16) (ar_set39 _ _) ln (by omega) rfl dX5_feed_61 (fun H locs hP hS => ?_)
    refine lv_aload_n hx hb dX5_feed_62 rfl (lv_at hl 1 rfl) ?_
    refine lv_dup hx hb dX5_feed_63 rfl ?_
    refine mo_get hx hb hts hin5 hown hE hP ((sI_ne _ _ (by decide)).trans h14) 6 (by decide) (hts (.fieldLink RX5 137 "HeldDoorModel" "taped" "I") (by decide +kernel)) (v := .int (X 6)) rfl dX5_feed_64 ?_
    refine lv_cast hln ?_
    refine lv_iconst (v := 1) hx hb dX5_feed_67 (by decide) ?_
    refine nn_iadd (a := ln) (b := 1) hx hb dX5_feed_68 ?_
    refine mo_put hx hb hts hin5 hown hE hP hS ((sI_ne _ _ (by decide)).trans h14) 6 (by decide) (hts (.fieldLink RX5 137 "HeldDoorModel" "taped" "I") (by decide +kernel)) rfl dX5_feed_69 (fun H locs hP hS => ?_)
    refine lv_iinc (v := 0) (lv' := [(3, .int 0), (0, .ref (gad G 34)), (1, .int x), (2, .int 2)]) hx hb dX5_feed_72 hl (k := 0) rfl (by decide) (by decide) rfl (fun ls hl => ?_)
    refine lv_goto (tgt := 39) hx hb dX5_feed_75 (by decide) ?_
    refine lv_iload_n hx hb dX5_feed_39 rfl (lv_at hl 0 rfl) ?_
    refine lv_if_lt (tgt := 78) hx hb dX5_feed_40 (by decide) (fun h => False.elim (by revert h; decide)) (fun _ => ?_)
    refine lv_aload_n hx hb dX5_feed_43 rfl (lv_at hl 1 rfl) ?_
    refine mo_get hx hb hts hin5 hown hE hP (sI_at _ _ _) 5 (by decide) (hts (.fieldLink RX5 22 "HeldDoorModel" "tape" "[I") (by decide +kernel)) (v := .ref (gad G 39)) rfl dX5_feed_44 ?_
    refine lv_aload_n hx hb dX5_feed_47 rfl (lv_at hl 1 rfl) ?_
    refine mo_get hx hb hts hin5 hown hE hP (sI_at _ _ _) 6 (by decide) (hts (.fieldLink RX5 137 "HeldDoorModel" "taped" "I") (by decide +kernel)) (v := .int ((upd X 6 (nI (ln + 1))) 6)) rfl dX5_feed_48 ?_
    refine lv_cast (y := nI (ln + 1)) (by rw [up_at]) ?_
    refine lv_iload_n hx hb dX5_feed_51 rfl (lv_at hl 2 rfl) ?_
    refine lv_bipush (v := 8) hx hb dX5_feed_52 (by decide) ?_
    refine lv_iload_n hx hb dX5_feed_54 rfl (lv_at hl 0 rfl) ?_
    refine lv_imul hx hb dX5_feed_55 ?_
    refine lv_cast (y := 0) (by decide) ?_
    refine lv_ishr hx hb dX5_feed_56 ?_
    refine lv_sipush (v := 255) hx hb dX5_feed_57 (by decide) ?_
    refine lv_iand hx hb dX5_feed_60 ?_
    refine ar_st hx hb hE hP hS 39 120 (by decide) (ar_at39 ((sI_ne _ _ (by decide)).trans (sI_at _ _ _))) (ar_set39 _ _) (ln + 1) (by omega) (sI_mid _ _ _ _ (by decide)) dX5_feed_61 (fun H locs hP hS => ?_)
    refine lv_aload_n hx hb dX5_feed_62 rfl (lv_at hl 1 rfl) ?_
    refine lv_dup hx hb dX5_feed_63 rfl ?_
    refine mo_get hx hb hts hin5 hown hE hP ((sI_ne _ _ (by decide)).trans (sI_at _ _ _)) 6 (by decide) (hts (.fieldLink RX5 137 "HeldDoorModel" "taped" "I") (by decide +kernel)) (v := .int ((upd X 6 (nI (ln + 1))) 6)) rfl dX5_feed_64 ?_
    refine lv_cast (y := nI (ln + 1)) (by rw [up_at]) ?_
    refine lv_iconst (v := 1) hx hb dX5_feed_67 (by decide) ?_
    refine nn_iadd (a := ln + 1) (b := 1) hx hb dX5_feed_68 ?_
    refine mo_put hx hb hts hin5 hown hE hP hS ((sI_ne _ _ (by decide)).trans (sI_at _ _ _)) 6 (by decide) (hts (.fieldLink RX5 137 "HeldDoorModel" "taped" "I") (by decide +kernel)) (sI_mid _ _ _ _ (by decide)) dX5_feed_69 (fun H locs hP hS => ?_)
    refine lv_iinc (v := (-1)) (lv' := [(3, .int (-1)), (0, .ref (gad G 34)), (1, .int x), (2, .int 2)]) hx hb dX5_feed_72 hl (k := 0) rfl (by decide) (by decide) rfl (fun ls hl => ?_)
    refine lv_goto (tgt := 39) hx hb dX5_feed_75 (by decide) ?_
    refine lv_iload_n hx hb dX5_feed_39 rfl (lv_at hl 0 rfl) ?_
    refine lv_if_lt (tgt := 78) hx hb dX5_feed_40 (by decide) (fun _ => ?_) (fun h => False.elim (by revert h; decide))
    refine lv_aload_n hx hb dX5_feed_78 rfl (lv_at hl 1 rfl) ?_
    refine mo_get hx hb hts hin5 hown hE hP (sI_at _ _ _) 6 (by decide) (hts (.fieldLink RX5 137 "HeldDoorModel" "taped" "I") (by decide +kernel)) (v := .int ((upd (upd X 6 (nI (ln + 1))) 6 (nI (ln + 1 + 1))) 6)) rfl dX5_feed_79 ?_
    refine lv_cast (y := nI (ln + 1 + 1)) (by rw [up_at]) ?_
    exact hd_iret hx hb hr hlocks hP hS (PS.ok (feed_ok (k := 2) (by decide) (by decide) (by omega)) ⟨rfl, (by rw [up_up]; rfl)⟩) dX5_feed_82
  · skip
    refine lv_aload_n hx hb dX5_feed_28 rfl (lv_at hl 0 rfl) ?_
    refine lv_ldc (v := (-1000000002)) hx hb hown (hts (.constant RX5 70 ((-1000000002))) (by decide +kernel)) dX5_feed_29 ?_
    refine hd_callVi (As := [.int (-1000000002)]) (rest := []) ⟨hx, hb, hml, hown, hts⟩ hE hP hS (c_X5_finds_1 l G u F h15) rfl (cwV 1 hts gX5_feed_X5_finds rfl rfl rfl (by decide +kernel) ⟨Nat.le_of_ble_eq_true rfl, Nat.le_of_ble_eq_true rfl⟩) (mo_recv hE hP) rfl hl.1 rfl (Nat.le_of_ble_eq_true rfl) dX5_feed_31 (fun rq_4 vq_4 H locs q_4 hP hS => ?_)
    have hP := hP.cast (q_4.2)
    refine lv_cast q_4.1 ?_
    exact hd_iret hx hb hr hlocks hP hS (PS.bad (-1000000002) (feed_full (k := 2) (by decide) (by decide) (by omega) (by omega)) (by decide) rfl rfl) dX5_feed_34
set_option maxHeartbeats 4000000 in
set_option maxRecDepth 100000 in
theorem c_X5_feed_3 (l : Launch) (G : Geo) (u : Sg) (X Y : Nat → Int32) (h14 : u.1 14 = X) (h16 : u.1 16 = Y) (ln : Nat) (hln : X 6 = nI ln) (hlm : ln ≤ 120) (F : Nat → Int32) (h15 : u.1 15 = F) (x : Int32) : CtI l G yX5_feed wsX5_feed (rmO 1 23) [.ref (gad G 34), .int x, .int 3] u (PS u 15 F (f_feed ln 3) (fun r v => r = nI (ln + 3) ∧ v = sI (sI u 16 (apG gMo Y ln x 3)) 14 (upd X 6 (nI (ln + 3))))) := by
  refine CtI.of (cc := cX5_feed) (maxL := 4) (ret := (some .int)) (own := RX5) (by decide) rfl rfl ?_
  rintro pg ev s0 mm below meth cd ⟨hx, hb, hr, hml, hown, hts, hlocks⟩ hE hP ls hl
  have hS : va_S (gA G) s0.heap s0.heap [] := va_S.rf
  have hl : lv_has ls 4 [(0, .ref (gad G 34)), (1, .int x), (2, .int 3)] := hl
  have hin5 : ∀ w ∈ wsX50, w ∈ wsX5_feed := by decide +kernel
  refine lv_iload_n hx hb dX5_feed_0 rfl (lv_at hl 2 rfl) ?_
  refine lv_i2l hx hb dX5_feed_1 rfl ?_
  refine lv_iconst (v := 1) hx hb dX5_feed_2 (by decide) ?_
  refine lv_iconst (v := 4) hx hb dX5_feed_3 (by decide) ?_
  refine hd_callSi (As := [.long ((3 : Int32).toInt64), .int 1, .int 4]) (rest := []) ⟨hx, hb, hml, hown, hts⟩ hE hP hS (c_X5_inI l G u 3 1 4) rfl (va_cwS 3 hts gX5_feed_X5_in rfl rfl rfl (by decide +kernel) ⟨Nat.le_of_ble_eq_true rfl, Nat.le_of_ble_eq_true rfl⟩) rfl hl.1 rfl (Nat.le_of_ble_eq_true rfl) dX5_feed_4 (fun rq_1 vq_1 H locs q_1 hP hS => ?_)
  have hP := hP.cast (q_1.2)
  refine lv_cast q_1.1 ?_
  refine bo_ne (tgt := 17) hx hb dX5_feed_7 (by decide) (fun c_2 => ?_) (fun c_2 => absurd c_2 (by decide))
  refine lv_aload_n hx hb dX5_feed_17 rfl (lv_at hl 0 rfl) ?_
  refine mo_get hx hb hts hin5 hown hE hP h14 6 (by decide) (hts (.fieldLink RX5 137 "HeldDoorModel" "taped" "I") (by decide +kernel)) (v := .int (X 6)) rfl dX5_feed_18 ?_
  refine lv_cast hln ?_
  refine lv_iload_n hx hb dX5_feed_21 rfl (lv_at hl 2 rfl) ?_
  refine nn_iadd (a := ln) (b := 3) hx hb dX5_feed_22 ?_
  refine lv_bipush (v := 120) hx hb dX5_feed_23 (by decide) ?_
  refine nn_le (a := ln + 3) (b := 120) (by omega) (by omega) (tgt := 35) hx hb dX5_feed_25 (by decide) (fun c_3 => ?_) (fun c_3 => ?_)
  · skip
    refine lv_iload_n hx hb dX5_feed_35 rfl (lv_at hl 2 rfl) ?_
    refine lv_iconst (v := 1) hx hb dX5_feed_36 (by decide) ?_
    refine lv_isub hx hb dX5_feed_37 ?_
    refine lv_cast (y := 2) (by decide) ?_
    refine lv_istore_n (lv' := [(3, .int 2), (0, .ref (gad G 34)), (1, .int x), (2, .int 3)]) hx hb dX5_feed_38 rfl hl (by decide) rfl (fun ls hl => ?_)
    refine lv_iload_n hx hb dX5_feed_39 rfl (lv_at hl 0 rfl) ?_
    refine lv_if_lt (tgt := 78) hx hb dX5_feed_40 (by decide) (fun h => False.elim (by revert h; decide)) (fun _ => ?_)
    refine lv_aload_n hx hb dX5_feed_43 rfl (lv_at hl 1 rfl) ?_
    refine mo_get hx hb hts hin5 hown hE hP h14 5 (by decide) (hts (.fieldLink RX5 22 "HeldDoorModel" "tape" "[I") (by decide +kernel)) (v := .ref (gad G 39)) rfl dX5_feed_44 ?_
    refine lv_aload_n hx hb dX5_feed_47 rfl (lv_at hl 1 rfl) ?_
    refine mo_get hx hb hts hin5 hown hE hP h14 6 (by decide) (hts (.fieldLink RX5 137 "HeldDoorModel" "taped" "I") (by decide +kernel)) (v := .int (X 6)) rfl dX5_feed_48 ?_
    refine lv_cast hln ?_
    refine lv_iload_n hx hb dX5_feed_51 rfl (lv_at hl 2 rfl) ?_
    refine lv_bipush (v := 8) hx hb dX5_feed_52 (by decide) ?_
    refine lv_iload_n hx hb dX5_feed_54 rfl (lv_at hl 0 rfl) ?_
    refine lv_imul hx hb dX5_feed_55 ?_
    refine lv_cast (y := 16) (by decide) ?_
    refine lv_ishr hx hb dX5_feed_56 ?_
    refine lv_sipush (v := 255) hx hb dX5_feed_57 (by decide) ?_
    refine lv_iand hx hb dX5_feed_60 ?_
    refine ar_st hx hb hE hP hS 39 120 (by decide) (ar_at39 h16) (ar_set39 _ _) ln (by omega) rfl dX5_feed_61 (fun H locs hP hS => ?_)
    refine lv_aload_n hx hb dX5_feed_62 rfl (lv_at hl 1 rfl) ?_
    refine lv_dup hx hb dX5_feed_63 rfl ?_
    refine mo_get hx hb hts hin5 hown hE hP ((sI_ne _ _ (by decide)).trans h14) 6 (by decide) (hts (.fieldLink RX5 137 "HeldDoorModel" "taped" "I") (by decide +kernel)) (v := .int (X 6)) rfl dX5_feed_64 ?_
    refine lv_cast hln ?_
    refine lv_iconst (v := 1) hx hb dX5_feed_67 (by decide) ?_
    refine nn_iadd (a := ln) (b := 1) hx hb dX5_feed_68 ?_
    refine mo_put hx hb hts hin5 hown hE hP hS ((sI_ne _ _ (by decide)).trans h14) 6 (by decide) (hts (.fieldLink RX5 137 "HeldDoorModel" "taped" "I") (by decide +kernel)) rfl dX5_feed_69 (fun H locs hP hS => ?_)
    refine lv_iinc (v := 1) (lv' := [(3, .int 1), (0, .ref (gad G 34)), (1, .int x), (2, .int 3)]) hx hb dX5_feed_72 hl (k := 0) rfl (by decide) (by decide) rfl (fun ls hl => ?_)
    refine lv_goto (tgt := 39) hx hb dX5_feed_75 (by decide) ?_
    refine lv_iload_n hx hb dX5_feed_39 rfl (lv_at hl 0 rfl) ?_
    refine lv_if_lt (tgt := 78) hx hb dX5_feed_40 (by decide) (fun h => False.elim (by revert h; decide)) (fun _ => ?_)
    refine lv_aload_n hx hb dX5_feed_43 rfl (lv_at hl 1 rfl) ?_
    refine mo_get hx hb hts hin5 hown hE hP (sI_at _ _ _) 5 (by decide) (hts (.fieldLink RX5 22 "HeldDoorModel" "tape" "[I") (by decide +kernel)) (v := .ref (gad G 39)) rfl dX5_feed_44 ?_
    refine lv_aload_n hx hb dX5_feed_47 rfl (lv_at hl 1 rfl) ?_
    refine mo_get hx hb hts hin5 hown hE hP (sI_at _ _ _) 6 (by decide) (hts (.fieldLink RX5 137 "HeldDoorModel" "taped" "I") (by decide +kernel)) (v := .int ((upd X 6 (nI (ln + 1))) 6)) rfl dX5_feed_48 ?_
    refine lv_cast (y := nI (ln + 1)) (by rw [up_at]) ?_
    refine lv_iload_n hx hb dX5_feed_51 rfl (lv_at hl 2 rfl) ?_
    refine lv_bipush (v := 8) hx hb dX5_feed_52 (by decide) ?_
    refine lv_iload_n hx hb dX5_feed_54 rfl (lv_at hl 0 rfl) ?_
    refine lv_imul hx hb dX5_feed_55 ?_
    refine lv_cast (y := 8) (by decide) ?_
    refine lv_ishr hx hb dX5_feed_56 ?_
    refine lv_sipush (v := 255) hx hb dX5_feed_57 (by decide) ?_
    refine lv_iand hx hb dX5_feed_60 ?_
    refine ar_st hx hb hE hP hS 39 120 (by decide) (ar_at39 ((sI_ne _ _ (by decide)).trans (sI_at _ _ _))) (ar_set39 _ _) (ln + 1) (by omega) (sI_mid _ _ _ _ (by decide)) dX5_feed_61 (fun H locs hP hS => ?_)
    refine lv_aload_n hx hb dX5_feed_62 rfl (lv_at hl 1 rfl) ?_
    refine lv_dup hx hb dX5_feed_63 rfl ?_
    refine mo_get hx hb hts hin5 hown hE hP ((sI_ne _ _ (by decide)).trans (sI_at _ _ _)) 6 (by decide) (hts (.fieldLink RX5 137 "HeldDoorModel" "taped" "I") (by decide +kernel)) (v := .int ((upd X 6 (nI (ln + 1))) 6)) rfl dX5_feed_64 ?_
    refine lv_cast (y := nI (ln + 1)) (by rw [up_at]) ?_
    refine lv_iconst (v := 1) hx hb dX5_feed_67 (by decide) ?_
    refine nn_iadd (a := ln + 1) (b := 1) hx hb dX5_feed_68 ?_
    refine mo_put hx hb hts hin5 hown hE hP hS ((sI_ne _ _ (by decide)).trans (sI_at _ _ _)) 6 (by decide) (hts (.fieldLink RX5 137 "HeldDoorModel" "taped" "I") (by decide +kernel)) (sI_mid _ _ _ _ (by decide)) dX5_feed_69 (fun H locs hP hS => ?_)
    refine lv_iinc (v := 0) (lv' := [(3, .int 0), (0, .ref (gad G 34)), (1, .int x), (2, .int 3)]) hx hb dX5_feed_72 hl (k := 0) rfl (by decide) (by decide) rfl (fun ls hl => ?_)
    refine lv_goto (tgt := 39) hx hb dX5_feed_75 (by decide) ?_
    refine lv_iload_n hx hb dX5_feed_39 rfl (lv_at hl 0 rfl) ?_
    refine lv_if_lt (tgt := 78) hx hb dX5_feed_40 (by decide) (fun h => False.elim (by revert h; decide)) (fun _ => ?_)
    refine lv_aload_n hx hb dX5_feed_43 rfl (lv_at hl 1 rfl) ?_
    refine mo_get hx hb hts hin5 hown hE hP (sI_at _ _ _) 5 (by decide) (hts (.fieldLink RX5 22 "HeldDoorModel" "tape" "[I") (by decide +kernel)) (v := .ref (gad G 39)) rfl dX5_feed_44 ?_
    refine lv_aload_n hx hb dX5_feed_47 rfl (lv_at hl 1 rfl) ?_
    refine mo_get hx hb hts hin5 hown hE hP (sI_at _ _ _) 6 (by decide) (hts (.fieldLink RX5 137 "HeldDoorModel" "taped" "I") (by decide +kernel)) (v := .int ((upd (upd X 6 (nI (ln + 1))) 6 (nI (ln + 1 + 1))) 6)) rfl dX5_feed_48 ?_
    refine lv_cast (y := nI (ln + 1 + 1)) (by rw [up_at]) ?_
    refine lv_iload_n hx hb dX5_feed_51 rfl (lv_at hl 2 rfl) ?_
    refine lv_bipush (v := 8) hx hb dX5_feed_52 (by decide) ?_
    refine lv_iload_n hx hb dX5_feed_54 rfl (lv_at hl 0 rfl) ?_
    refine lv_imul hx hb dX5_feed_55 ?_
    refine lv_cast (y := 0) (by decide) ?_
    refine lv_ishr hx hb dX5_feed_56 ?_
    refine lv_sipush (v := 255) hx hb dX5_feed_57 (by decide) ?_
    refine lv_iand hx hb dX5_feed_60 ?_
    refine ar_st hx hb hE hP hS 39 120 (by decide) (ar_at39 ((sI_ne _ _ (by decide)).trans (sI_at _ _ _))) (ar_set39 _ _) (ln + 1 + 1) (by omega) (sI_mid _ _ _ _ (by decide)) dX5_feed_61 (fun H locs hP hS => ?_)
    refine lv_aload_n hx hb dX5_feed_62 rfl (lv_at hl 1 rfl) ?_
    refine lv_dup hx hb dX5_feed_63 rfl ?_
    refine mo_get hx hb hts hin5 hown hE hP ((sI_ne _ _ (by decide)).trans (sI_at _ _ _)) 6 (by decide) (hts (.fieldLink RX5 137 "HeldDoorModel" "taped" "I") (by decide +kernel)) (v := .int ((upd (upd X 6 (nI (ln + 1))) 6 (nI (ln + 1 + 1))) 6)) rfl dX5_feed_64 ?_
    refine lv_cast (y := nI (ln + 1 + 1)) (by rw [up_at]) ?_
    refine lv_iconst (v := 1) hx hb dX5_feed_67 (by decide) ?_
    refine nn_iadd (a := ln + 1 + 1) (b := 1) hx hb dX5_feed_68 ?_
    refine mo_put hx hb hts hin5 hown hE hP hS ((sI_ne _ _ (by decide)).trans (sI_at _ _ _)) 6 (by decide) (hts (.fieldLink RX5 137 "HeldDoorModel" "taped" "I") (by decide +kernel)) (sI_mid _ _ _ _ (by decide)) dX5_feed_69 (fun H locs hP hS => ?_)
    refine lv_iinc (v := (-1)) (lv' := [(3, .int (-1)), (0, .ref (gad G 34)), (1, .int x), (2, .int 3)]) hx hb dX5_feed_72 hl (k := 0) rfl (by decide) (by decide) rfl (fun ls hl => ?_)
    refine lv_goto (tgt := 39) hx hb dX5_feed_75 (by decide) ?_
    refine lv_iload_n hx hb dX5_feed_39 rfl (lv_at hl 0 rfl) ?_
    refine lv_if_lt (tgt := 78) hx hb dX5_feed_40 (by decide) (fun _ => ?_) (fun h => False.elim (by revert h; decide))
    refine lv_aload_n hx hb dX5_feed_78 rfl (lv_at hl 1 rfl) ?_
    refine mo_get hx hb hts hin5 hown hE hP (sI_at _ _ _) 6 (by decide) (hts (.fieldLink RX5 137 "HeldDoorModel" "taped" "I") (by decide +kernel)) (v := .int ((upd (upd (upd X 6 (nI (ln + 1))) 6 (nI (ln + 1 + 1))) 6 (nI (ln + 1 + 1 + 1))) 6)) rfl dX5_feed_79 ?_
    refine lv_cast (y := nI (ln + 1 + 1 + 1)) (by rw [up_at]) ?_
    exact hd_iret hx hb hr hlocks hP hS (PS.ok (feed_ok (k := 3) (by decide) (by decide) (by omega)) ⟨rfl, (by rw [up_up, up_up]; rfl)⟩) dX5_feed_82
  · skip
    refine lv_aload_n hx hb dX5_feed_28 rfl (lv_at hl 0 rfl) ?_
    refine lv_ldc (v := (-1000000002)) hx hb hown (hts (.constant RX5 70 ((-1000000002))) (by decide +kernel)) dX5_feed_29 ?_
    refine hd_callVi (As := [.int (-1000000002)]) (rest := []) ⟨hx, hb, hml, hown, hts⟩ hE hP hS (c_X5_finds_1 l G u F h15) rfl (cwV 1 hts gX5_feed_X5_finds rfl rfl rfl (by decide +kernel) ⟨Nat.le_of_ble_eq_true rfl, Nat.le_of_ble_eq_true rfl⟩) (mo_recv hE hP) rfl hl.1 rfl (Nat.le_of_ble_eq_true rfl) dX5_feed_31 (fun rq_4 vq_4 H locs q_4 hP hS => ?_)
    have hP := hP.cast (q_4.2)
    refine lv_cast q_4.1 ?_
    exact hd_iret hx hb hr hlocks hP hS (PS.bad (-1000000002) (feed_full (k := 3) (by decide) (by decide) (by omega) (by omega)) (by decide) rfl rfl) dX5_feed_34
set_option maxHeartbeats 4000000 in
set_option maxRecDepth 100000 in
theorem c_X5_feed_4 (l : Launch) (G : Geo) (u : Sg) (X Y : Nat → Int32) (h14 : u.1 14 = X) (h16 : u.1 16 = Y) (ln : Nat) (hln : X 6 = nI ln) (hlm : ln ≤ 120) (F : Nat → Int32) (h15 : u.1 15 = F) (x : Int32) : CtI l G yX5_feed wsX5_feed (rmO 1 23) [.ref (gad G 34), .int x, .int 4] u (PS u 15 F (f_feed ln 4) (fun r v => r = nI (ln + 4) ∧ v = sI (sI u 16 (apG gMo Y ln x 4)) 14 (upd X 6 (nI (ln + 4))))) := by
  refine CtI.of (cc := cX5_feed) (maxL := 4) (ret := (some .int)) (own := RX5) (by decide) rfl rfl ?_
  rintro pg ev s0 mm below meth cd ⟨hx, hb, hr, hml, hown, hts, hlocks⟩ hE hP ls hl
  have hS : va_S (gA G) s0.heap s0.heap [] := va_S.rf
  have hl : lv_has ls 4 [(0, .ref (gad G 34)), (1, .int x), (2, .int 4)] := hl
  have hin5 : ∀ w ∈ wsX50, w ∈ wsX5_feed := by decide +kernel
  refine lv_iload_n hx hb dX5_feed_0 rfl (lv_at hl 2 rfl) ?_
  refine lv_i2l hx hb dX5_feed_1 rfl ?_
  refine lv_iconst (v := 1) hx hb dX5_feed_2 (by decide) ?_
  refine lv_iconst (v := 4) hx hb dX5_feed_3 (by decide) ?_
  refine hd_callSi (As := [.long ((4 : Int32).toInt64), .int 1, .int 4]) (rest := []) ⟨hx, hb, hml, hown, hts⟩ hE hP hS (c_X5_inI l G u 4 1 4) rfl (va_cwS 3 hts gX5_feed_X5_in rfl rfl rfl (by decide +kernel) ⟨Nat.le_of_ble_eq_true rfl, Nat.le_of_ble_eq_true rfl⟩) rfl hl.1 rfl (Nat.le_of_ble_eq_true rfl) dX5_feed_4 (fun rq_1 vq_1 H locs q_1 hP hS => ?_)
  have hP := hP.cast (q_1.2)
  refine lv_cast q_1.1 ?_
  refine bo_ne (tgt := 17) hx hb dX5_feed_7 (by decide) (fun c_2 => ?_) (fun c_2 => absurd c_2 (by decide))
  refine lv_aload_n hx hb dX5_feed_17 rfl (lv_at hl 0 rfl) ?_
  refine mo_get hx hb hts hin5 hown hE hP h14 6 (by decide) (hts (.fieldLink RX5 137 "HeldDoorModel" "taped" "I") (by decide +kernel)) (v := .int (X 6)) rfl dX5_feed_18 ?_
  refine lv_cast hln ?_
  refine lv_iload_n hx hb dX5_feed_21 rfl (lv_at hl 2 rfl) ?_
  refine nn_iadd (a := ln) (b := 4) hx hb dX5_feed_22 ?_
  refine lv_bipush (v := 120) hx hb dX5_feed_23 (by decide) ?_
  refine nn_le (a := ln + 4) (b := 120) (by omega) (by omega) (tgt := 35) hx hb dX5_feed_25 (by decide) (fun c_3 => ?_) (fun c_3 => ?_)
  · skip
    refine lv_iload_n hx hb dX5_feed_35 rfl (lv_at hl 2 rfl) ?_
    refine lv_iconst (v := 1) hx hb dX5_feed_36 (by decide) ?_
    refine lv_isub hx hb dX5_feed_37 ?_
    refine lv_cast (y := 3) (by decide) ?_
    refine lv_istore_n (lv' := [(3, .int 3), (0, .ref (gad G 34)), (1, .int x), (2, .int 4)]) hx hb dX5_feed_38 rfl hl (by decide) rfl (fun ls hl => ?_)
    refine lv_iload_n hx hb dX5_feed_39 rfl (lv_at hl 0 rfl) ?_
    refine lv_if_lt (tgt := 78) hx hb dX5_feed_40 (by decide) (fun h => False.elim (by revert h; decide)) (fun _ => ?_)
    refine lv_aload_n hx hb dX5_feed_43 rfl (lv_at hl 1 rfl) ?_
    refine mo_get hx hb hts hin5 hown hE hP h14 5 (by decide) (hts (.fieldLink RX5 22 "HeldDoorModel" "tape" "[I") (by decide +kernel)) (v := .ref (gad G 39)) rfl dX5_feed_44 ?_
    refine lv_aload_n hx hb dX5_feed_47 rfl (lv_at hl 1 rfl) ?_
    refine mo_get hx hb hts hin5 hown hE hP h14 6 (by decide) (hts (.fieldLink RX5 137 "HeldDoorModel" "taped" "I") (by decide +kernel)) (v := .int (X 6)) rfl dX5_feed_48 ?_
    refine lv_cast hln ?_
    refine lv_iload_n hx hb dX5_feed_51 rfl (lv_at hl 2 rfl) ?_
    refine lv_bipush (v := 8) hx hb dX5_feed_52 (by decide) ?_
    refine lv_iload_n hx hb dX5_feed_54 rfl (lv_at hl 0 rfl) ?_
    refine lv_imul hx hb dX5_feed_55 ?_
    refine lv_cast (y := 24) (by decide) ?_
    refine lv_ishr hx hb dX5_feed_56 ?_
    refine lv_sipush (v := 255) hx hb dX5_feed_57 (by decide) ?_
    refine lv_iand hx hb dX5_feed_60 ?_
    refine ar_st hx hb hE hP hS 39 120 (by decide) (ar_at39 h16) (ar_set39 _ _) ln (by omega) rfl dX5_feed_61 (fun H locs hP hS => ?_)
    refine lv_aload_n hx hb dX5_feed_62 rfl (lv_at hl 1 rfl) ?_
    refine lv_dup hx hb dX5_feed_63 rfl ?_
    refine mo_get hx hb hts hin5 hown hE hP ((sI_ne _ _ (by decide)).trans h14) 6 (by decide) (hts (.fieldLink RX5 137 "HeldDoorModel" "taped" "I") (by decide +kernel)) (v := .int (X 6)) rfl dX5_feed_64 ?_
    refine lv_cast hln ?_
    refine lv_iconst (v := 1) hx hb dX5_feed_67 (by decide) ?_
    refine nn_iadd (a := ln) (b := 1) hx hb dX5_feed_68 ?_
    refine mo_put hx hb hts hin5 hown hE hP hS ((sI_ne _ _ (by decide)).trans h14) 6 (by decide) (hts (.fieldLink RX5 137 "HeldDoorModel" "taped" "I") (by decide +kernel)) rfl dX5_feed_69 (fun H locs hP hS => ?_)
    refine lv_iinc (v := 2) (lv' := [(3, .int 2), (0, .ref (gad G 34)), (1, .int x), (2, .int 4)]) hx hb dX5_feed_72 hl (k := 0) rfl (by decide) (by decide) rfl (fun ls hl => ?_)
    refine lv_goto (tgt := 39) hx hb dX5_feed_75 (by decide) ?_
    refine lv_iload_n hx hb dX5_feed_39 rfl (lv_at hl 0 rfl) ?_
    refine lv_if_lt (tgt := 78) hx hb dX5_feed_40 (by decide) (fun h => False.elim (by revert h; decide)) (fun _ => ?_)
    refine lv_aload_n hx hb dX5_feed_43 rfl (lv_at hl 1 rfl) ?_
    refine mo_get hx hb hts hin5 hown hE hP (sI_at _ _ _) 5 (by decide) (hts (.fieldLink RX5 22 "HeldDoorModel" "tape" "[I") (by decide +kernel)) (v := .ref (gad G 39)) rfl dX5_feed_44 ?_
    refine lv_aload_n hx hb dX5_feed_47 rfl (lv_at hl 1 rfl) ?_
    refine mo_get hx hb hts hin5 hown hE hP (sI_at _ _ _) 6 (by decide) (hts (.fieldLink RX5 137 "HeldDoorModel" "taped" "I") (by decide +kernel)) (v := .int ((upd X 6 (nI (ln + 1))) 6)) rfl dX5_feed_48 ?_
    refine lv_cast (y := nI (ln + 1)) (by rw [up_at]) ?_
    refine lv_iload_n hx hb dX5_feed_51 rfl (lv_at hl 2 rfl) ?_
    refine lv_bipush (v := 8) hx hb dX5_feed_52 (by decide) ?_
    refine lv_iload_n hx hb dX5_feed_54 rfl (lv_at hl 0 rfl) ?_
    refine lv_imul hx hb dX5_feed_55 ?_
    refine lv_cast (y := 16) (by decide) ?_
    refine lv_ishr hx hb dX5_feed_56 ?_
    refine lv_sipush (v := 255) hx hb dX5_feed_57 (by decide) ?_
    refine lv_iand hx hb dX5_feed_60 ?_
    refine ar_st hx hb hE hP hS 39 120 (by decide) (ar_at39 ((sI_ne _ _ (by decide)).trans (sI_at _ _ _))) (ar_set39 _ _) (ln + 1) (by omega) (sI_mid _ _ _ _ (by decide)) dX5_feed_61 (fun H locs hP hS => ?_)
    refine lv_aload_n hx hb dX5_feed_62 rfl (lv_at hl 1 rfl) ?_
    refine lv_dup hx hb dX5_feed_63 rfl ?_
    refine mo_get hx hb hts hin5 hown hE hP ((sI_ne _ _ (by decide)).trans (sI_at _ _ _)) 6 (by decide) (hts (.fieldLink RX5 137 "HeldDoorModel" "taped" "I") (by decide +kernel)) (v := .int ((upd X 6 (nI (ln + 1))) 6)) rfl dX5_feed_64 ?_
    refine lv_cast (y := nI (ln + 1)) (by rw [up_at]) ?_
    refine lv_iconst (v := 1) hx hb dX5_feed_67 (by decide) ?_
    refine nn_iadd (a := ln + 1) (b := 1) hx hb dX5_feed_68 ?_
    refine mo_put hx hb hts hin5 hown hE hP hS ((sI_ne _ _ (by decide)).trans (sI_at _ _ _)) 6 (by decide) (hts (.fieldLink RX5 137 "HeldDoorModel" "taped" "I") (by decide +kernel)) (sI_mid _ _ _ _ (by decide)) dX5_feed_69 (fun H locs hP hS => ?_)
    refine lv_iinc (v := 1) (lv' := [(3, .int 1), (0, .ref (gad G 34)), (1, .int x), (2, .int 4)]) hx hb dX5_feed_72 hl (k := 0) rfl (by decide) (by decide) rfl (fun ls hl => ?_)
    refine lv_goto (tgt := 39) hx hb dX5_feed_75 (by decide) ?_
    refine lv_iload_n hx hb dX5_feed_39 rfl (lv_at hl 0 rfl) ?_
    refine lv_if_lt (tgt := 78) hx hb dX5_feed_40 (by decide) (fun h => False.elim (by revert h; decide)) (fun _ => ?_)
    refine lv_aload_n hx hb dX5_feed_43 rfl (lv_at hl 1 rfl) ?_
    refine mo_get hx hb hts hin5 hown hE hP (sI_at _ _ _) 5 (by decide) (hts (.fieldLink RX5 22 "HeldDoorModel" "tape" "[I") (by decide +kernel)) (v := .ref (gad G 39)) rfl dX5_feed_44 ?_
    refine lv_aload_n hx hb dX5_feed_47 rfl (lv_at hl 1 rfl) ?_
    refine mo_get hx hb hts hin5 hown hE hP (sI_at _ _ _) 6 (by decide) (hts (.fieldLink RX5 137 "HeldDoorModel" "taped" "I") (by decide +kernel)) (v := .int ((upd (upd X 6 (nI (ln + 1))) 6 (nI (ln + 1 + 1))) 6)) rfl dX5_feed_48 ?_
    refine lv_cast (y := nI (ln + 1 + 1)) (by rw [up_at]) ?_
    refine lv_iload_n hx hb dX5_feed_51 rfl (lv_at hl 2 rfl) ?_
    refine lv_bipush (v := 8) hx hb dX5_feed_52 (by decide) ?_
    refine lv_iload_n hx hb dX5_feed_54 rfl (lv_at hl 0 rfl) ?_
    refine lv_imul hx hb dX5_feed_55 ?_
    refine lv_cast (y := 8) (by decide) ?_
    refine lv_ishr hx hb dX5_feed_56 ?_
    refine lv_sipush (v := 255) hx hb dX5_feed_57 (by decide) ?_
    refine lv_iand hx hb dX5_feed_60 ?_
    refine ar_st hx hb hE hP hS 39 120 (by decide) (ar_at39 ((sI_ne _ _ (by decide)).trans (sI_at _ _ _))) (ar_set39 _ _) (ln + 1 + 1) (by omega) (sI_mid _ _ _ _ (by decide)) dX5_feed_61 (fun H locs hP hS => ?_)
    refine lv_aload_n hx hb dX5_feed_62 rfl (lv_at hl 1 rfl) ?_
    refine lv_dup hx hb dX5_feed_63 rfl ?_
    refine mo_get hx hb hts hin5 hown hE hP ((sI_ne _ _ (by decide)).trans (sI_at _ _ _)) 6 (by decide) (hts (.fieldLink RX5 137 "HeldDoorModel" "taped" "I") (by decide +kernel)) (v := .int ((upd (upd X 6 (nI (ln + 1))) 6 (nI (ln + 1 + 1))) 6)) rfl dX5_feed_64 ?_
    refine lv_cast (y := nI (ln + 1 + 1)) (by rw [up_at]) ?_
    refine lv_iconst (v := 1) hx hb dX5_feed_67 (by decide) ?_
    refine nn_iadd (a := ln + 1 + 1) (b := 1) hx hb dX5_feed_68 ?_
    refine mo_put hx hb hts hin5 hown hE hP hS ((sI_ne _ _ (by decide)).trans (sI_at _ _ _)) 6 (by decide) (hts (.fieldLink RX5 137 "HeldDoorModel" "taped" "I") (by decide +kernel)) (sI_mid _ _ _ _ (by decide)) dX5_feed_69 (fun H locs hP hS => ?_)
    refine lv_iinc (v := 0) (lv' := [(3, .int 0), (0, .ref (gad G 34)), (1, .int x), (2, .int 4)]) hx hb dX5_feed_72 hl (k := 0) rfl (by decide) (by decide) rfl (fun ls hl => ?_)
    refine lv_goto (tgt := 39) hx hb dX5_feed_75 (by decide) ?_
    refine lv_iload_n hx hb dX5_feed_39 rfl (lv_at hl 0 rfl) ?_
    refine lv_if_lt (tgt := 78) hx hb dX5_feed_40 (by decide) (fun h => False.elim (by revert h; decide)) (fun _ => ?_)
    refine lv_aload_n hx hb dX5_feed_43 rfl (lv_at hl 1 rfl) ?_
    refine mo_get hx hb hts hin5 hown hE hP (sI_at _ _ _) 5 (by decide) (hts (.fieldLink RX5 22 "HeldDoorModel" "tape" "[I") (by decide +kernel)) (v := .ref (gad G 39)) rfl dX5_feed_44 ?_
    refine lv_aload_n hx hb dX5_feed_47 rfl (lv_at hl 1 rfl) ?_
    refine mo_get hx hb hts hin5 hown hE hP (sI_at _ _ _) 6 (by decide) (hts (.fieldLink RX5 137 "HeldDoorModel" "taped" "I") (by decide +kernel)) (v := .int ((upd (upd (upd X 6 (nI (ln + 1))) 6 (nI (ln + 1 + 1))) 6 (nI (ln + 1 + 1 + 1))) 6)) rfl dX5_feed_48 ?_
    refine lv_cast (y := nI (ln + 1 + 1 + 1)) (by rw [up_at]) ?_
    refine lv_iload_n hx hb dX5_feed_51 rfl (lv_at hl 2 rfl) ?_
    refine lv_bipush (v := 8) hx hb dX5_feed_52 (by decide) ?_
    refine lv_iload_n hx hb dX5_feed_54 rfl (lv_at hl 0 rfl) ?_
    refine lv_imul hx hb dX5_feed_55 ?_
    refine lv_cast (y := 0) (by decide) ?_
    refine lv_ishr hx hb dX5_feed_56 ?_
    refine lv_sipush (v := 255) hx hb dX5_feed_57 (by decide) ?_
    refine lv_iand hx hb dX5_feed_60 ?_
    refine ar_st hx hb hE hP hS 39 120 (by decide) (ar_at39 ((sI_ne _ _ (by decide)).trans (sI_at _ _ _))) (ar_set39 _ _) (ln + 1 + 1 + 1) (by omega) (sI_mid _ _ _ _ (by decide)) dX5_feed_61 (fun H locs hP hS => ?_)
    refine lv_aload_n hx hb dX5_feed_62 rfl (lv_at hl 1 rfl) ?_
    refine lv_dup hx hb dX5_feed_63 rfl ?_
    refine mo_get hx hb hts hin5 hown hE hP ((sI_ne _ _ (by decide)).trans (sI_at _ _ _)) 6 (by decide) (hts (.fieldLink RX5 137 "HeldDoorModel" "taped" "I") (by decide +kernel)) (v := .int ((upd (upd (upd X 6 (nI (ln + 1))) 6 (nI (ln + 1 + 1))) 6 (nI (ln + 1 + 1 + 1))) 6)) rfl dX5_feed_64 ?_
    refine lv_cast (y := nI (ln + 1 + 1 + 1)) (by rw [up_at]) ?_
    refine lv_iconst (v := 1) hx hb dX5_feed_67 (by decide) ?_
    refine nn_iadd (a := ln + 1 + 1 + 1) (b := 1) hx hb dX5_feed_68 ?_
    refine mo_put hx hb hts hin5 hown hE hP hS ((sI_ne _ _ (by decide)).trans (sI_at _ _ _)) 6 (by decide) (hts (.fieldLink RX5 137 "HeldDoorModel" "taped" "I") (by decide +kernel)) (sI_mid _ _ _ _ (by decide)) dX5_feed_69 (fun H locs hP hS => ?_)
    refine lv_iinc (v := (-1)) (lv' := [(3, .int (-1)), (0, .ref (gad G 34)), (1, .int x), (2, .int 4)]) hx hb dX5_feed_72 hl (k := 0) rfl (by decide) (by decide) rfl (fun ls hl => ?_)
    refine lv_goto (tgt := 39) hx hb dX5_feed_75 (by decide) ?_
    refine lv_iload_n hx hb dX5_feed_39 rfl (lv_at hl 0 rfl) ?_
    refine lv_if_lt (tgt := 78) hx hb dX5_feed_40 (by decide) (fun _ => ?_) (fun h => False.elim (by revert h; decide))
    refine lv_aload_n hx hb dX5_feed_78 rfl (lv_at hl 1 rfl) ?_
    refine mo_get hx hb hts hin5 hown hE hP (sI_at _ _ _) 6 (by decide) (hts (.fieldLink RX5 137 "HeldDoorModel" "taped" "I") (by decide +kernel)) (v := .int ((upd (upd (upd (upd X 6 (nI (ln + 1))) 6 (nI (ln + 1 + 1))) 6 (nI (ln + 1 + 1 + 1))) 6 (nI (ln + 1 + 1 + 1 + 1))) 6)) rfl dX5_feed_79 ?_
    refine lv_cast (y := nI (ln + 1 + 1 + 1 + 1)) (by rw [up_at]) ?_
    exact hd_iret hx hb hr hlocks hP hS (PS.ok (feed_ok (k := 4) (by decide) (by decide) (by omega)) ⟨rfl, (by rw [up_up, up_up, up_up]; rfl)⟩) dX5_feed_82
  · skip
    refine lv_aload_n hx hb dX5_feed_28 rfl (lv_at hl 0 rfl) ?_
    refine lv_ldc (v := (-1000000002)) hx hb hown (hts (.constant RX5 70 ((-1000000002))) (by decide +kernel)) dX5_feed_29 ?_
    refine hd_callVi (As := [.int (-1000000002)]) (rest := []) ⟨hx, hb, hml, hown, hts⟩ hE hP hS (c_X5_finds_1 l G u F h15) rfl (cwV 1 hts gX5_feed_X5_finds rfl rfl rfl (by decide +kernel) ⟨Nat.le_of_ble_eq_true rfl, Nat.le_of_ble_eq_true rfl⟩) (mo_recv hE hP) rfl hl.1 rfl (Nat.le_of_ble_eq_true rfl) dX5_feed_31 (fun rq_4 vq_4 H locs q_4 hP hS => ?_)
    have hP := hP.cast (q_4.2)
    refine lv_cast q_4.1 ?_
    exact hd_iret hx hb hr hlocks hP hS (PS.bad (-1000000002) (feed_full (k := 4) (by decide) (by decide) (by omega) (by omega)) (by decide) rfl rfl) dX5_feed_34
set_option maxHeartbeats 4000000 in
set_option maxRecDepth 100000 in
theorem c_X5_feed_o (l : Launch) (G : Geo) (u : Sg) (X Y : Nat → Int32) (h14 : u.1 14 = X) (h16 : u.1 16 = Y) (ln : Nat) (hln : X 6 = nI ln) (hlm : ln ≤ 120) (F : Nat → Int32) (h15 : u.1 15 = F) (x n : Int32) (h_1 : ¬ n = 1) (h_2 : ¬ n = 2) (h_3 : ¬ n = 3) (h_4 : ¬ n = 4) : CtI l G yX5_feed wsX5_feed (rmO 1 23) [.ref (gad G 34), .int x, .int n] u (PS u 15 F (f_feed ln n) (fun r v => r = nI (ln + n.toNatClampNeg) ∧ v = sI (sI u 16 (apG gMo Y ln x n.toNatClampNeg)) 14 (upd X 6 (nI (ln + n.toNatClampNeg))))) := by
  refine CtI.of (cc := cX5_feed) (maxL := 4) (ret := (some .int)) (own := RX5) (by decide) rfl rfl ?_
  rintro pg ev s0 mm below meth cd ⟨hx, hb, hr, hml, hown, hts, hlocks⟩ hE hP ls hl
  have hS : va_S (gA G) s0.heap s0.heap [] := va_S.rf
  have hl : lv_has ls 4 [(0, .ref (gad G 34)), (1, .int x), (2, .int n)] := hl
  refine lv_iload_n hx hb dX5_feed_0 rfl (lv_at hl 2 rfl) ?_
  refine lv_i2l hx hb dX5_feed_1 rfl ?_
  refine lv_iconst (v := 1) hx hb dX5_feed_2 (by decide) ?_
  refine lv_iconst (v := 4) hx hb dX5_feed_3 (by decide) ?_
  refine hd_callSi (As := [.long n.toInt64, .int 1, .int 4]) (rest := []) ⟨hx, hb, hml, hown, hts⟩ hE hP hS (c_X5_inI l G u n 1 4) rfl (va_cwS 3 hts gX5_feed_X5_in rfl rfl rfl (by decide +kernel) ⟨Nat.le_of_ble_eq_true rfl, Nat.le_of_ble_eq_true rfl⟩) rfl hl.1 rfl (Nat.le_of_ble_eq_true rfl) dX5_feed_4 (fun rq_1 vq_1 H locs q_1 hP hS => ?_)
  have hP := hP.cast (q_1.2)
  refine lv_cast q_1.1 ?_
  refine bo_ne (tgt := 17) hx hb dX5_feed_7 (by decide) (fun c_2 => absurd (in14 c_2) (by simp [h_1, h_2, h_3, h_4])) (fun c_2 => ?_)
  refine lv_aload_n hx hb dX5_feed_10 rfl (lv_at hl 0 rfl) ?_
  refine lv_ldc (v := (-1000000001)) hx hb hown (hts (.constant RX5 35 ((-1000000001))) (by decide +kernel)) dX5_feed_11 ?_
  refine hd_callVi (As := [.int (-1000000001)]) (rest := []) ⟨hx, hb, hml, hown, hts⟩ hE hP hS (c_X5_finds_0 l G u F h15) rfl (cwV 1 hts gX5_feed_X5_finds rfl rfl rfl (by decide +kernel) ⟨Nat.le_of_ble_eq_true rfl, Nat.le_of_ble_eq_true rfl⟩) (mo_recv hE hP) rfl hl.1 rfl (Nat.le_of_ble_eq_true rfl) dX5_feed_13 (fun rq_3 vq_3 H locs q_3 hP hS => ?_)
  have hP := hP.cast (q_3.2)
  refine lv_cast q_3.1 ?_
  exact hd_iret hx hb hr hlocks hP hS (PS.bad (-1000000001) (by simp [f_feed, c_2]) (by decide) rfl rfl) dX5_feed_16
theorem c_X5_feed (l : Launch) (G : Geo) (u : Sg) (X Y : Nat → Int32) (h14 : u.1 14 = X) (h16 : u.1 16 = Y) (ln : Nat) (hln : X 6 = nI ln) (hlm : ln ≤ 120) (F : Nat → Int32) (h15 : u.1 15 = F) (x n : Int32) : CtI l G yX5_feed wsX5_feed (rmO 1 23) [.ref (gad G 34), .int x, .int n] u (PS u 15 F (f_feed ln n) (fun r v => r = nI (ln + n.toNatClampNeg) ∧ v = sI (sI u 16 (apG gMo Y ln x n.toNatClampNeg)) 14 (upd X 6 (nI (ln + n.toNatClampNeg))))) := by
  by_cases h_1 : n = 1
  · subst h_1; exact c_X5_feed_1 l G u X Y h14 h16 ln hln hlm F h15 x
  by_cases h_2 : n = 2
  · subst h_2; exact c_X5_feed_2 l G u X Y h14 h16 ln hln hlm F h15 x
  by_cases h_3 : n = 3
  · subst h_3; exact c_X5_feed_3 l G u X Y h14 h16 ln hln hlm F h15 x
  by_cases h_4 : n = 4
  · subst h_4; exact c_X5_feed_4 l G u X Y h14 h16 ln hln hlm F h15 x
  exact c_X5_feed_o l G u X Y h14 h16 ln hln hlm F h15 x n h_1 h_2 h_3 h_4
