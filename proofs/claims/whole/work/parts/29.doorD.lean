set_option maxHeartbeats 4000000 in
set_option maxRecDepth 100000 in
theorem c_X4_image (l : Launch) (G : Geo) (u : Sg) (M F K E : Nat → Int32) (h0 : u.1 0 = M) (h6 : u.1 6 = F) (h2 : u.1 2 = K) (h3 : u.1 3 = E) (tM : ∀ k : Nat, 53 ≤ k → M k = 0) (tK : ∀ k : Nat, 53 ≤ k → K k = 0) : CtI l G yX4_image wsX4_image (rmO 2 39) [.ref (gad G 0)] u (fun r v => r = 1 ∧ v = sI (sI u 2 M) 3 (upd E 0 1)) := by
  refine CtI.of (cc := cX4_image) (maxL := 1) (ret := (some .int)) (own := RX4) (by decide) rfl rfl ?_
  rintro pg ev s0 mm below meth cd ⟨hx, hb, hr, hml, hown, hts, hlocks⟩ hE hP ls hl
  have hS : va_S (gA G) s0.heap s0.heap [] := va_S.rf
  have hl : lv_has ls 1 [(0, .ref (gad G 0))] := hl
  have hin4 : ∀ w ∈ wsX40, w ∈ wsX4_image := by decide +kernel
  refine lv_aload_n hx hb dX4_image_0 rfl (lv_at hl 0 rfl) ?_
  refine do_get hx hb hts hin4 hown hE hP h3 2 (by decide) (hts (.fieldLink RX4 19 "HeldDoor" "kept" "LHeldDoor$Scene;") (by decide +kernel)) (v := .ref (gS G 2)) rfl dX4_image_1 ?_
  refine lv_aload_n hx hb dX4_image_4 rfl (lv_at hl 0 rfl) ?_
  refine do_get hx hb hts hin4 hown hE hP h3 0 (by decide) (hts (.fieldLink RX4 10 "HeldDoor" "scene" "LHeldDoor$Scene;") (by decide +kernel)) (v := .ref (gS G 0)) rfl dX4_image_5 ?_
  refine hd_callVv (As := [.ref (gS G 0)]) (rest := []) ⟨hx, hb, hml, hown, hts⟩ hE hP hS (c_X1_become l G u 2 0 (by decide) (by decide) (by decide) K M h2 h0 tK tM) rfl (cwV 1 hts gX4_image_X1_become rfl rfl rfl (by decide +kernel) ⟨Nat.le_of_ble_eq_true rfl, Nat.le_of_ble_eq_true rfl⟩) (sc_recv hE hP (by decide)) rfl hl.1 rfl (Nat.le_of_ble_eq_true rfl) dX4_image_8 (fun vq_1 H locs q_1 hP hS => ?_)
  have hP := hP.cast (q_1)
  refine lv_aload_n hx hb dX4_image_11 rfl (lv_at hl 0 rfl) ?_
  refine lv_iconst (v := 1) hx hb dX4_image_12 (by decide) ?_
  refine do_put hx hb hts hin4 hown hE hP hS ((sI_ne _ _ (by decide)).trans h3) (hts (.fieldLink RX4 22 "HeldDoor" "isKept" "Z") (by decide +kernel)) ⟨rfl, rfl⟩ rfl dX4_image_13 (fun H locs hP hS => ?_)
  refine lv_iconst (v := 1) hx hb dX4_image_16 (by decide) ?_
  exact hd_iret hx hb hr hlocks hP hS ⟨rfl, rfl⟩ dX4_image_17
set_option maxHeartbeats 4000000 in
set_option maxRecDepth 100000 in
theorem c_X4_undo (l : Launch) (G : Geo) (u : Sg) (M F K E : Nat → Int32) (h0 : u.1 0 = M) (h6 : u.1 6 = F) (h2 : u.1 2 = K) (h3 : u.1 3 = E) (tM : ∀ k : Nat, 53 ≤ k → M k = 0) (tK : ∀ k : Nat, 53 ≤ k → K k = 0) : CtI l G yX4_undo wsX4_undo (rmO 2 44) [.ref (gad G 0)] u (fun r v => r = (if E 0 = 0 then -1000000004 else K 4) ∧ v = (if E 0 = 0 then sI u 6 (bmp F 3) else sI u 0 K)) := by
  refine CtI.of (cc := cX4_undo) (maxL := 1) (ret := (some .int)) (own := RX4) (by decide) rfl rfl ?_
  rintro pg ev s0 mm below meth cd ⟨hx, hb, hr, hml, hown, hts, hlocks⟩ hE hP ls hl
  have hS : va_S (gA G) s0.heap s0.heap [] := va_S.rf
  have hl : lv_has ls 1 [(0, .ref (gad G 0))] := hl
  have hin1 : ∀ w ∈ wsX10, w ∈ wsX4_undo := by decide +kernel
  have hin4 : ∀ w ∈ wsX40, w ∈ wsX4_undo := by decide +kernel
  refine lv_aload_n hx hb dX4_undo_0 rfl (lv_at hl 0 rfl) ?_
  refine do_get hx hb hts hin4 hown hE hP h3 3 (by decide) (hts (.fieldLink RX4 22 "HeldDoor" "isKept" "Z") (by decide +kernel)) (v := .int (E 0)) rfl dX4_undo_1 ?_
  refine lv_if_ne (tgt := 14) hx hb dX4_undo_4 (by decide) (fun c_1 => ?_) (fun c_1 => ?_)
  · skip
    refine lv_aload_n hx hb dX4_undo_14 rfl (lv_at hl 0 rfl) ?_
    refine do_get hx hb hts hin4 hown hE hP h3 0 (by decide) (hts (.fieldLink RX4 10 "HeldDoor" "scene" "LHeldDoor$Scene;") (by decide +kernel)) (v := .ref (gS G 0)) rfl dX4_undo_15 ?_
    refine lv_aload_n hx hb dX4_undo_18 rfl (lv_at hl 0 rfl) ?_
    refine do_get hx hb hts hin4 hown hE hP h3 2 (by decide) (hts (.fieldLink RX4 19 "HeldDoor" "kept" "LHeldDoor$Scene;") (by decide +kernel)) (v := .ref (gS G 2)) rfl dX4_undo_19 ?_
    refine hd_callVv (As := [.ref (gS G 2)]) (rest := []) ⟨hx, hb, hml, hown, hts⟩ hE hP hS (c_X1_become l G u 0 2 (by decide) (by decide) (by decide) M K h0 h2 tM tK) rfl (cwV 1 hts gX4_undo_X1_become rfl rfl rfl (by decide +kernel) ⟨Nat.le_of_ble_eq_true rfl, Nat.le_of_ble_eq_true rfl⟩) (sc_recv hE hP (by decide)) rfl hl.1 rfl (Nat.le_of_ble_eq_true rfl) dX4_undo_22 (fun vq_2 H locs q_2 hP hS => ?_)
    have hP := hP.cast (q_2)
    refine lv_aload_n hx hb dX4_undo_25 rfl (lv_at hl 0 rfl) ?_
    refine do_get hx hb hts hin4 hown hE hP ((sI_ne _ _ (by decide)).trans h3) 0 (by decide) (hts (.fieldLink RX4 10 "HeldDoor" "scene" "LHeldDoor$Scene;") (by decide +kernel)) (v := .ref (gS G 0)) rfl dX4_undo_26 ?_
    refine sc_get hx hb hts hin1 hown hE hP (by decide) (sI_at _ _ _) 4 (by decide) (hts (.fieldLink RX4 157 "HeldDoor$Scene" "people" "I") (by decide +kernel)) (v := .int (K 4)) rfl dX4_undo_29 ?_
    exact hd_iret hx hb hr hlocks hP hS ⟨(by rw [if_neg c_1]), (by rw [if_neg c_1])⟩ dX4_undo_32
  · skip
    refine lv_aload_n hx hb dX4_undo_7 rfl (lv_at hl 0 rfl) ?_
    refine lv_ldc (v := (-1000000004)) hx hb hown (hts (.constant RX4 156 ((-1000000004))) (by decide +kernel)) dX4_undo_8 ?_
    refine hd_callVi (As := [.int (-1000000004)]) (rest := []) ⟨hx, hb, hml, hown, hts⟩ hE hP hS (c_X4_found_3 l G u F h6) rfl (cwV 1 hts gX4_undo_X4_found rfl rfl rfl (by decide +kernel) ⟨Nat.le_of_ble_eq_true rfl, Nat.le_of_ble_eq_true rfl⟩) (do_recv hE hP) rfl hl.1 rfl (Nat.le_of_ble_eq_true rfl) dX4_undo_10 (fun rq_3 vq_3 H locs q_3 hP hS => ?_)
    have hP := hP.cast (q_3.2)
    refine lv_cast q_3.1 ?_
    exact hd_iret hx hb hr hlocks hP hS ⟨(by rw [if_pos c_1]), (by rw [if_pos c_1])⟩ dX4_undo_13
set_option maxHeartbeats 4000000 in
set_option maxRecDepth 100000 in
theorem c_X4_tear (l : Launch) (G : Geo) (u : Sg) (M F K E : Nat → Int32) (h0 : u.1 0 = M) (h6 : u.1 6 = F) (h2 : u.1 2 = K) (h3 : u.1 3 = E) (tM : ∀ k : Nat, 53 ≤ k → M k = 0) (tK : ∀ k : Nat, 53 ≤ k → K k = 0) : CtI l G yX4_tear wsX4_tear (rmO 0 0) [.ref (gad G 0)] u (fun r v => r = (if E 0 = 0 then 0 else 1) ∧ v = sI u 3 (upd E 0 0)) := by
  refine CtI.of (cc := cX4_tear) (maxL := 2) (ret := (some .int)) (own := RX4) (by decide) rfl rfl ?_
  rintro pg ev s0 mm below meth cd ⟨hx, hb, hr, hml, hown, hts, hlocks⟩ hE hP ls hl
  have hS : va_S (gA G) s0.heap s0.heap [] := va_S.rf
  have hl : lv_has ls 2 [(0, .ref (gad G 0))] := hl
  have hin4 : ∀ w ∈ wsX40, w ∈ wsX4_tear := by decide +kernel
  refine lv_aload_n hx hb dX4_tear_0 rfl (lv_at hl 0 rfl) ?_
  refine do_get hx hb hts hin4 hown hE hP h3 3 (by decide) (hts (.fieldLink RX4 22 "HeldDoor" "isKept" "Z") (by decide +kernel)) (v := .int (E 0)) rfl dX4_tear_1 ?_
  refine lv_if_eq (tgt := 11) hx hb dX4_tear_4 (by decide) (fun c_1 => ?_) (fun c_1 => ?_)
  · skip
    refine lv_iconst (v := 0) hx hb dX4_tear_11 (by decide) ?_
    refine lv_istore_n (lv' := [(1, .int 0), (0, .ref (gad G 0))]) hx hb dX4_tear_12 rfl hl (by decide) rfl (fun ls hl => ?_)
    refine lv_aload_n hx hb dX4_tear_13 rfl (lv_at hl 1 rfl) ?_
    refine lv_iconst (v := 0) hx hb dX4_tear_14 (by decide) ?_
    refine do_put hx hb hts hin4 hown hE hP hS h3 (hts (.fieldLink RX4 22 "HeldDoor" "isKept" "Z") (by decide +kernel)) ⟨rfl, rfl⟩ rfl dX4_tear_15 (fun H locs hP hS => ?_)
    refine lv_iload_n hx hb dX4_tear_18 rfl (lv_at hl 0 rfl) ?_
    exact hd_iret hx hb hr hlocks hP hS ⟨(by rw [if_pos c_1]), rfl⟩ dX4_tear_19
  · skip
    refine lv_iconst (v := 1) hx hb dX4_tear_7 (by decide) ?_
    refine lv_goto (tgt := 12) hx hb dX4_tear_8 (by decide) ?_
    refine lv_istore_n (lv' := [(1, .int 1), (0, .ref (gad G 0))]) hx hb dX4_tear_12 rfl hl (by decide) rfl (fun ls hl => ?_)
    refine lv_aload_n hx hb dX4_tear_13 rfl (lv_at hl 1 rfl) ?_
    refine lv_iconst (v := 0) hx hb dX4_tear_14 (by decide) ?_
    refine do_put hx hb hts hin4 hown hE hP hS h3 (hts (.fieldLink RX4 22 "HeldDoor" "isKept" "Z") (by decide +kernel)) ⟨rfl, rfl⟩ rfl dX4_tear_15 (fun H locs hP hS => ?_)
    refine lv_iload_n hx hb dX4_tear_18 rfl (lv_at hl 0 rfl) ?_
    exact hd_iret hx hb hr hlocks hP hS ⟨(by rw [if_neg c_1]), rfl⟩ dX4_tear_19
set_option maxHeartbeats 4000000 in
set_option maxRecDepth 100000 in
theorem c_X4_wipe (l : Launch) (G : Geo) (u : Sg) (X : Nat → Int32) (h4 : u.1 4 = X) : CtI l G yX4_wipe wsX4_wipe (rmO 0 0) [.ref (gad G 0)] u (fun r v => r = X 1 ∧ v = sI u 4 (upd X 1 0)) := by
  refine CtI.of (cc := cX4_wipe) (maxL := 2) (ret := (some .int)) (own := RX4) (by decide) rfl rfl ?_
  rintro pg ev s0 mm below meth cd ⟨hx, hb, hr, hml, hown, hts, hlocks⟩ hE hP ls hl
  have hS : va_S (gA G) s0.heap s0.heap [] := va_S.rf
  have hl : lv_has ls 2 [(0, .ref (gad G 0))] := hl
  have hin3 : ∀ w ∈ wsX30, w ∈ wsX4_wipe := by decide +kernel
  have hin4 : ∀ w ∈ wsX40, w ∈ wsX4_wipe := by decide +kernel
  refine lv_aload_n hx hb dX4_wipe_0 rfl (lv_at hl 0 rfl) ?_
  refine do_get hx hb hts hin4 hown hE hP rfl 4 (by decide) (hts (.fieldLink RX4 29 "HeldDoor" "text" "LHeldDoor$Text;") (by decide +kernel)) (v := .ref (gad G 22)) rfl dX4_wipe_1 ?_
  refine tx_get hx hb hts hin3 hown hE hP h4 1 (by decide) (hts (.fieldLink RX4 173 "HeldDoor$Text" "length" "I") (by decide +kernel)) (v := .int (X 1)) rfl dX4_wipe_4 ?_
  refine lv_istore_n (lv' := [(1, .int (X 1)), (0, .ref (gad G 0))]) hx hb dX4_wipe_7 rfl hl (by decide) rfl (fun ls hl => ?_)
  refine lv_aload_n hx hb dX4_wipe_8 rfl (lv_at hl 1 rfl) ?_
  refine do_get hx hb hts hin4 hown hE hP rfl 4 (by decide) (hts (.fieldLink RX4 29 "HeldDoor" "text" "LHeldDoor$Text;") (by decide +kernel)) (v := .ref (gad G 22)) rfl dX4_wipe_9 ?_
  refine lv_iconst (v := 0) hx hb dX4_wipe_12 (by decide) ?_
  refine tx_put hx hb hts hin3 hown hE hP hS h4 1 (by decide) (hts (.fieldLink RX4 173 "HeldDoor$Text" "length" "I") (by decide +kernel)) rfl dX4_wipe_13 (fun H locs hP hS => ?_)
  refine lv_iload_n hx hb dX4_wipe_16 rfl (lv_at hl 0 rfl) ?_
  exact hd_iret hx hb hr hlocks hP hS ⟨rfl, rfl⟩ dX4_wipe_17
set_option maxHeartbeats 4000000 in
set_option maxRecDepth 100000 in
theorem c_X3_append_1 (l : Launch) (G : Geo) (u : Sg) (X Y : Nat → Int32) (h4 : u.1 4 = X) (h5 : u.1 5 = Y) (ln : Nat) (hln : X 1 = nI ln) (hl9 : ln + 1 ≤ 120) (x : Int32) : CtV l G yX3_append wsX3_append (rmO 0 0) [.ref (gad G 22), .int x, .int 1] u (fun v => v = sI (sI u 5 (apG gCl Y ln x 1)) 4 (upd X 1 (nI (ln + 1)))) := by
  refine CtV.of (cc := cX3_append) (maxL := 4) (ret := none) (own := RX3) (by decide) rfl rfl ?_
  rintro pg ev s0 mm below meth cd ⟨hx, hb, hr, hml, hown, hts, hlocks⟩ hE hP ls hl
  have hS : va_S (gA G) s0.heap s0.heap [] := va_S.rf
  have hl : lv_has ls 4 [(0, .ref (gad G 22)), (1, .int x), (2, .int 1)] := hl
  have hin3 : ∀ w ∈ wsX30, w ∈ wsX3_append := by decide +kernel
  refine lv_iload_n hx hb dX3_append_0 rfl (lv_at hl 2 rfl) ?_
  refine lv_iconst (v := 1) hx hb dX3_append_1 (by decide) ?_
  refine lv_isub hx hb dX3_append_2 ?_
  refine lv_cast (y := 0) (by decide) ?_
  refine lv_istore_n (lv' := [(3, .int 0), (0, .ref (gad G 22)), (1, .int x), (2, .int 1)]) hx hb dX3_append_3 rfl hl (by decide) rfl (fun ls hl => ?_)
  refine lv_iload_n hx hb dX3_append_4 rfl (lv_at hl 0 rfl) ?_
  refine lv_if_lt (tgt := 40) hx hb dX3_append_5 (by decide) (fun h => False.elim (by revert h; decide)) (fun _ => ?_)
  refine lv_aload_n hx hb dX3_append_8 rfl (lv_at hl 1 rfl) ?_
  refine tx_get hx hb hts hin3 hown hE hP h4 0 (by decide) (hts (.fieldLink RX3 9 "HeldDoor$Text" "tape" "[B") (by decide +kernel)) (v := .ref (gad G 23)) rfl dX3_append_9 ?_
  refine lv_aload_n hx hb dX3_append_12 rfl (lv_at hl 1 rfl) ?_
  refine tx_get hx hb hts hin3 hown hE hP h4 1 (by decide) (hts (.fieldLink RX3 15 "HeldDoor$Text" "length" "I") (by decide +kernel)) (v := .int (X 1)) rfl dX3_append_13 ?_
  refine lv_cast hln ?_
  refine lv_iload_n hx hb dX3_append_16 rfl (lv_at hl 2 rfl) ?_
  refine lv_bipush (v := 8) hx hb dX3_append_17 (by decide) ?_
  refine lv_iload_n hx hb dX3_append_19 rfl (lv_at hl 0 rfl) ?_
  refine lv_imul hx hb dX3_append_20 ?_
  refine lv_cast (y := 0) (by decide) ?_
  refine lv_ishr hx hb dX3_append_21 ?_
  refine lv_i2b hx hb dX3_append_22 rfl ?_
  refine tp_st hx hb hE hP hS h5 ln (by omega) rfl dX3_append_23 (fun H locs hP hS => ?_)
  refine lv_aload_n hx hb dX3_append_24 rfl (lv_at hl 1 rfl) ?_
  refine lv_dup hx hb dX3_append_25 rfl ?_
  refine tx_get hx hb hts hin3 hown hE hP ((sI_ne _ _ (by decide)).trans h4) 1 (by decide) (hts (.fieldLink RX3 15 "HeldDoor$Text" "length" "I") (by decide +kernel)) (v := .int (X 1)) rfl dX3_append_26 ?_
  refine lv_cast hln ?_
  refine lv_iconst (v := 1) hx hb dX3_append_29 (by decide) ?_
  refine nn_iadd (a := ln) (b := 1) hx hb dX3_append_30 ?_
  refine tx_put hx hb hts hin3 hown hE hP hS ((sI_ne _ _ (by decide)).trans h4) 1 (by decide) (hts (.fieldLink RX3 15 "HeldDoor$Text" "length" "I") (by decide +kernel)) rfl dX3_append_31 (fun H locs hP hS => ?_)
  refine lv_iinc (v := (-1)) (lv' := [(3, .int (-1)), (0, .ref (gad G 22)), (1, .int x), (2, .int 1)]) hx hb dX3_append_34 hl (k := 0) rfl (by decide) (by decide) rfl (fun ls hl => ?_)
  refine lv_goto (tgt := 4) hx hb dX3_append_37 (by decide) ?_
  refine lv_iload_n hx hb dX3_append_4 rfl (lv_at hl 0 rfl) ?_
  refine lv_if_lt (tgt := 40) hx hb dX3_append_5 (by decide) (fun _ => ?_) (fun h => False.elim (by revert h; decide))
  exact hd_vret hx hb hr hlocks hP hS rfl dX3_append_40
set_option maxHeartbeats 4000000 in
set_option maxRecDepth 100000 in
theorem c_X3_append_2 (l : Launch) (G : Geo) (u : Sg) (X Y : Nat → Int32) (h4 : u.1 4 = X) (h5 : u.1 5 = Y) (ln : Nat) (hln : X 1 = nI ln) (hl9 : ln + 2 ≤ 120) (x : Int32) : CtV l G yX3_append wsX3_append (rmO 0 0) [.ref (gad G 22), .int x, .int 2] u (fun v => v = sI (sI u 5 (apG gCl Y ln x 2)) 4 (upd X 1 (nI (ln + 2)))) := by
  refine CtV.of (cc := cX3_append) (maxL := 4) (ret := none) (own := RX3) (by decide) rfl rfl ?_
  rintro pg ev s0 mm below meth cd ⟨hx, hb, hr, hml, hown, hts, hlocks⟩ hE hP ls hl
  have hS : va_S (gA G) s0.heap s0.heap [] := va_S.rf
  have hl : lv_has ls 4 [(0, .ref (gad G 22)), (1, .int x), (2, .int 2)] := hl
  have hin3 : ∀ w ∈ wsX30, w ∈ wsX3_append := by decide +kernel
  refine lv_iload_n hx hb dX3_append_0 rfl (lv_at hl 2 rfl) ?_
  refine lv_iconst (v := 1) hx hb dX3_append_1 (by decide) ?_
  refine lv_isub hx hb dX3_append_2 ?_
  refine lv_cast (y := 1) (by decide) ?_
  refine lv_istore_n (lv' := [(3, .int 1), (0, .ref (gad G 22)), (1, .int x), (2, .int 2)]) hx hb dX3_append_3 rfl hl (by decide) rfl (fun ls hl => ?_)
  refine lv_iload_n hx hb dX3_append_4 rfl (lv_at hl 0 rfl) ?_
  refine lv_if_lt (tgt := 40) hx hb dX3_append_5 (by decide) (fun h => False.elim (by revert h; decide)) (fun _ => ?_)
  refine lv_aload_n hx hb dX3_append_8 rfl (lv_at hl 1 rfl) ?_
  refine tx_get hx hb hts hin3 hown hE hP h4 0 (by decide) (hts (.fieldLink RX3 9 "HeldDoor$Text" "tape" "[B") (by decide +kernel)) (v := .ref (gad G 23)) rfl dX3_append_9 ?_
  refine lv_aload_n hx hb dX3_append_12 rfl (lv_at hl 1 rfl) ?_
  refine tx_get hx hb hts hin3 hown hE hP h4 1 (by decide) (hts (.fieldLink RX3 15 "HeldDoor$Text" "length" "I") (by decide +kernel)) (v := .int (X 1)) rfl dX3_append_13 ?_
  refine lv_cast hln ?_
  refine lv_iload_n hx hb dX3_append_16 rfl (lv_at hl 2 rfl) ?_
  refine lv_bipush (v := 8) hx hb dX3_append_17 (by decide) ?_
  refine lv_iload_n hx hb dX3_append_19 rfl (lv_at hl 0 rfl) ?_
  refine lv_imul hx hb dX3_append_20 ?_
  refine lv_cast (y := 8) (by decide) ?_
  refine lv_ishr hx hb dX3_append_21 ?_
  refine lv_i2b hx hb dX3_append_22 rfl ?_
  refine tp_st hx hb hE hP hS h5 ln (by omega) rfl dX3_append_23 (fun H locs hP hS => ?_)
  refine lv_aload_n hx hb dX3_append_24 rfl (lv_at hl 1 rfl) ?_
  refine lv_dup hx hb dX3_append_25 rfl ?_
  refine tx_get hx hb hts hin3 hown hE hP ((sI_ne _ _ (by decide)).trans h4) 1 (by decide) (hts (.fieldLink RX3 15 "HeldDoor$Text" "length" "I") (by decide +kernel)) (v := .int (X 1)) rfl dX3_append_26 ?_
  refine lv_cast hln ?_
  refine lv_iconst (v := 1) hx hb dX3_append_29 (by decide) ?_
  refine nn_iadd (a := ln) (b := 1) hx hb dX3_append_30 ?_
  refine tx_put hx hb hts hin3 hown hE hP hS ((sI_ne _ _ (by decide)).trans h4) 1 (by decide) (hts (.fieldLink RX3 15 "HeldDoor$Text" "length" "I") (by decide +kernel)) rfl dX3_append_31 (fun H locs hP hS => ?_)
  refine lv_iinc (v := 0) (lv' := [(3, .int 0), (0, .ref (gad G 22)), (1, .int x), (2, .int 2)]) hx hb dX3_append_34 hl (k := 0) rfl (by decide) (by decide) rfl (fun ls hl => ?_)
  refine lv_goto (tgt := 4) hx hb dX3_append_37 (by decide) ?_
  refine lv_iload_n hx hb dX3_append_4 rfl (lv_at hl 0 rfl) ?_
  refine lv_if_lt (tgt := 40) hx hb dX3_append_5 (by decide) (fun h => False.elim (by revert h; decide)) (fun _ => ?_)
  refine lv_aload_n hx hb dX3_append_8 rfl (lv_at hl 1 rfl) ?_
  refine tx_get hx hb hts hin3 hown hE hP (sI_at _ _ _) 0 (by decide) (hts (.fieldLink RX3 9 "HeldDoor$Text" "tape" "[B") (by decide +kernel)) (v := .ref (gad G 23)) rfl dX3_append_9 ?_
  refine lv_aload_n hx hb dX3_append_12 rfl (lv_at hl 1 rfl) ?_
  refine tx_get hx hb hts hin3 hown hE hP (sI_at _ _ _) 1 (by decide) (hts (.fieldLink RX3 15 "HeldDoor$Text" "length" "I") (by decide +kernel)) (v := .int ((upd X 1 (nI (ln + 1))) 1)) rfl dX3_append_13 ?_
  refine lv_cast (y := nI (ln + 1)) (by rw [up_at]) ?_
  refine lv_iload_n hx hb dX3_append_16 rfl (lv_at hl 2 rfl) ?_
  refine lv_bipush (v := 8) hx hb dX3_append_17 (by decide) ?_
  refine lv_iload_n hx hb dX3_append_19 rfl (lv_at hl 0 rfl) ?_
  refine lv_imul hx hb dX3_append_20 ?_
  refine lv_cast (y := 0) (by decide) ?_
  refine lv_ishr hx hb dX3_append_21 ?_
  refine lv_i2b hx hb dX3_append_22 rfl ?_
  refine tp_st hx hb hE hP hS ((sI_ne _ _ (by decide)).trans (sI_at _ _ _)) (ln + 1) (by omega) (sI_mid _ _ _ _ (by decide)) dX3_append_23 (fun H locs hP hS => ?_)
  refine lv_aload_n hx hb dX3_append_24 rfl (lv_at hl 1 rfl) ?_
  refine lv_dup hx hb dX3_append_25 rfl ?_
  refine tx_get hx hb hts hin3 hown hE hP ((sI_ne _ _ (by decide)).trans (sI_at _ _ _)) 1 (by decide) (hts (.fieldLink RX3 15 "HeldDoor$Text" "length" "I") (by decide +kernel)) (v := .int ((upd X 1 (nI (ln + 1))) 1)) rfl dX3_append_26 ?_
  refine lv_cast (y := nI (ln + 1)) (by rw [up_at]) ?_
  refine lv_iconst (v := 1) hx hb dX3_append_29 (by decide) ?_
  refine nn_iadd (a := ln + 1) (b := 1) hx hb dX3_append_30 ?_
  refine tx_put hx hb hts hin3 hown hE hP hS ((sI_ne _ _ (by decide)).trans (sI_at _ _ _)) 1 (by decide) (hts (.fieldLink RX3 15 "HeldDoor$Text" "length" "I") (by decide +kernel)) (sI_mid _ _ _ _ (by decide)) dX3_append_31 (fun H locs hP hS => ?_)
  refine lv_iinc (v := (-1)) (lv' := [(3, .int (-1)), (0, .ref (gad G 22)), (1, .int x), (2, .int 2)]) hx hb dX3_append_34 hl (k := 0) rfl (by decide) (by decide) rfl (fun ls hl => ?_)
  refine lv_goto (tgt := 4) hx hb dX3_append_37 (by decide) ?_
  refine lv_iload_n hx hb dX3_append_4 rfl (lv_at hl 0 rfl) ?_
  refine lv_if_lt (tgt := 40) hx hb dX3_append_5 (by decide) (fun _ => ?_) (fun h => False.elim (by revert h; decide))
  exact hd_vret hx hb hr hlocks hP hS (by rw [up_up]; rfl) dX3_append_40
set_option maxHeartbeats 4000000 in
set_option maxRecDepth 100000 in
theorem c_X3_append_3 (l : Launch) (G : Geo) (u : Sg) (X Y : Nat → Int32) (h4 : u.1 4 = X) (h5 : u.1 5 = Y) (ln : Nat) (hln : X 1 = nI ln) (hl9 : ln + 3 ≤ 120) (x : Int32) : CtV l G yX3_append wsX3_append (rmO 0 0) [.ref (gad G 22), .int x, .int 3] u (fun v => v = sI (sI u 5 (apG gCl Y ln x 3)) 4 (upd X 1 (nI (ln + 3)))) := by
  refine CtV.of (cc := cX3_append) (maxL := 4) (ret := none) (own := RX3) (by decide) rfl rfl ?_
  rintro pg ev s0 mm below meth cd ⟨hx, hb, hr, hml, hown, hts, hlocks⟩ hE hP ls hl
  have hS : va_S (gA G) s0.heap s0.heap [] := va_S.rf
  have hl : lv_has ls 4 [(0, .ref (gad G 22)), (1, .int x), (2, .int 3)] := hl
  have hin3 : ∀ w ∈ wsX30, w ∈ wsX3_append := by decide +kernel
  refine lv_iload_n hx hb dX3_append_0 rfl (lv_at hl 2 rfl) ?_
  refine lv_iconst (v := 1) hx hb dX3_append_1 (by decide) ?_
  refine lv_isub hx hb dX3_append_2 ?_
  refine lv_cast (y := 2) (by decide) ?_
  refine lv_istore_n (lv' := [(3, .int 2), (0, .ref (gad G 22)), (1, .int x), (2, .int 3)]) hx hb dX3_append_3 rfl hl (by decide) rfl (fun ls hl => ?_)
  refine lv_iload_n hx hb dX3_append_4 rfl (lv_at hl 0 rfl) ?_
  refine lv_if_lt (tgt := 40) hx hb dX3_append_5 (by decide) (fun h => False.elim (by revert h; decide)) (fun _ => ?_)
  refine lv_aload_n hx hb dX3_append_8 rfl (lv_at hl 1 rfl) ?_
  refine tx_get hx hb hts hin3 hown hE hP h4 0 (by decide) (hts (.fieldLink RX3 9 "HeldDoor$Text" "tape" "[B") (by decide +kernel)) (v := .ref (gad G 23)) rfl dX3_append_9 ?_
  refine lv_aload_n hx hb dX3_append_12 rfl (lv_at hl 1 rfl) ?_
  refine tx_get hx hb hts hin3 hown hE hP h4 1 (by decide) (hts (.fieldLink RX3 15 "HeldDoor$Text" "length" "I") (by decide +kernel)) (v := .int (X 1)) rfl dX3_append_13 ?_
  refine lv_cast hln ?_
  refine lv_iload_n hx hb dX3_append_16 rfl (lv_at hl 2 rfl) ?_
  refine lv_bipush (v := 8) hx hb dX3_append_17 (by decide) ?_
  refine lv_iload_n hx hb dX3_append_19 rfl (lv_at hl 0 rfl) ?_
  refine lv_imul hx hb dX3_append_20 ?_
  refine lv_cast (y := 16) (by decide) ?_
  refine lv_ishr hx hb dX3_append_21 ?_
  refine lv_i2b hx hb dX3_append_22 rfl ?_
  refine tp_st hx hb hE hP hS h5 ln (by omega) rfl dX3_append_23 (fun H locs hP hS => ?_)
  refine lv_aload_n hx hb dX3_append_24 rfl (lv_at hl 1 rfl) ?_
  refine lv_dup hx hb dX3_append_25 rfl ?_
  refine tx_get hx hb hts hin3 hown hE hP ((sI_ne _ _ (by decide)).trans h4) 1 (by decide) (hts (.fieldLink RX3 15 "HeldDoor$Text" "length" "I") (by decide +kernel)) (v := .int (X 1)) rfl dX3_append_26 ?_
  refine lv_cast hln ?_
  refine lv_iconst (v := 1) hx hb dX3_append_29 (by decide) ?_
  refine nn_iadd (a := ln) (b := 1) hx hb dX3_append_30 ?_
  refine tx_put hx hb hts hin3 hown hE hP hS ((sI_ne _ _ (by decide)).trans h4) 1 (by decide) (hts (.fieldLink RX3 15 "HeldDoor$Text" "length" "I") (by decide +kernel)) rfl dX3_append_31 (fun H locs hP hS => ?_)
  refine lv_iinc (v := 1) (lv' := [(3, .int 1), (0, .ref (gad G 22)), (1, .int x), (2, .int 3)]) hx hb dX3_append_34 hl (k := 0) rfl (by decide) (by decide) rfl (fun ls hl => ?_)
  refine lv_goto (tgt := 4) hx hb dX3_append_37 (by decide) ?_
  refine lv_iload_n hx hb dX3_append_4 rfl (lv_at hl 0 rfl) ?_
  refine lv_if_lt (tgt := 40) hx hb dX3_append_5 (by decide) (fun h => False.elim (by revert h; decide)) (fun _ => ?_)
  refine lv_aload_n hx hb dX3_append_8 rfl (lv_at hl 1 rfl) ?_
  refine tx_get hx hb hts hin3 hown hE hP (sI_at _ _ _) 0 (by decide) (hts (.fieldLink RX3 9 "HeldDoor$Text" "tape" "[B") (by decide +kernel)) (v := .ref (gad G 23)) rfl dX3_append_9 ?_
  refine lv_aload_n hx hb dX3_append_12 rfl (lv_at hl 1 rfl) ?_
  refine tx_get hx hb hts hin3 hown hE hP (sI_at _ _ _) 1 (by decide) (hts (.fieldLink RX3 15 "HeldDoor$Text" "length" "I") (by decide +kernel)) (v := .int ((upd X 1 (nI (ln + 1))) 1)) rfl dX3_append_13 ?_
  refine lv_cast (y := nI (ln + 1)) (by rw [up_at]) ?_
  refine lv_iload_n hx hb dX3_append_16 rfl (lv_at hl 2 rfl) ?_
  refine lv_bipush (v := 8) hx hb dX3_append_17 (by decide) ?_
  refine lv_iload_n hx hb dX3_append_19 rfl (lv_at hl 0 rfl) ?_
  refine lv_imul hx hb dX3_append_20 ?_
  refine lv_cast (y := 8) (by decide) ?_
  refine lv_ishr hx hb dX3_append_21 ?_
  refine lv_i2b hx hb dX3_append_22 rfl ?_
  refine tp_st hx hb hE hP hS ((sI_ne _ _ (by decide)).trans (sI_at _ _ _)) (ln + 1) (by omega) (sI_mid _ _ _ _ (by decide)) dX3_append_23 (fun H locs hP hS => ?_)
  refine lv_aload_n hx hb dX3_append_24 rfl (lv_at hl 1 rfl) ?_
  refine lv_dup hx hb dX3_append_25 rfl ?_
  refine tx_get hx hb hts hin3 hown hE hP ((sI_ne _ _ (by decide)).trans (sI_at _ _ _)) 1 (by decide) (hts (.fieldLink RX3 15 "HeldDoor$Text" "length" "I") (by decide +kernel)) (v := .int ((upd X 1 (nI (ln + 1))) 1)) rfl dX3_append_26 ?_
  refine lv_cast (y := nI (ln + 1)) (by rw [up_at]) ?_
  refine lv_iconst (v := 1) hx hb dX3_append_29 (by decide) ?_
  refine nn_iadd (a := ln + 1) (b := 1) hx hb dX3_append_30 ?_
  refine tx_put hx hb hts hin3 hown hE hP hS ((sI_ne _ _ (by decide)).trans (sI_at _ _ _)) 1 (by decide) (hts (.fieldLink RX3 15 "HeldDoor$Text" "length" "I") (by decide +kernel)) (sI_mid _ _ _ _ (by decide)) dX3_append_31 (fun H locs hP hS => ?_)
  refine lv_iinc (v := 0) (lv' := [(3, .int 0), (0, .ref (gad G 22)), (1, .int x), (2, .int 3)]) hx hb dX3_append_34 hl (k := 0) rfl (by decide) (by decide) rfl (fun ls hl => ?_)
  refine lv_goto (tgt := 4) hx hb dX3_append_37 (by decide) ?_
  refine lv_iload_n hx hb dX3_append_4 rfl (lv_at hl 0 rfl) ?_
  refine lv_if_lt (tgt := 40) hx hb dX3_append_5 (by decide) (fun h => False.elim (by revert h; decide)) (fun _ => ?_)
  refine lv_aload_n hx hb dX3_append_8 rfl (lv_at hl 1 rfl) ?_
  refine tx_get hx hb hts hin3 hown hE hP (sI_at _ _ _) 0 (by decide) (hts (.fieldLink RX3 9 "HeldDoor$Text" "tape" "[B") (by decide +kernel)) (v := .ref (gad G 23)) rfl dX3_append_9 ?_
  refine lv_aload_n hx hb dX3_append_12 rfl (lv_at hl 1 rfl) ?_
  refine tx_get hx hb hts hin3 hown hE hP (sI_at _ _ _) 1 (by decide) (hts (.fieldLink RX3 15 "HeldDoor$Text" "length" "I") (by decide +kernel)) (v := .int ((upd (upd X 1 (nI (ln + 1))) 1 (nI (ln + 1 + 1))) 1)) rfl dX3_append_13 ?_
  refine lv_cast (y := nI (ln + 1 + 1)) (by rw [up_at]) ?_
  refine lv_iload_n hx hb dX3_append_16 rfl (lv_at hl 2 rfl) ?_
  refine lv_bipush (v := 8) hx hb dX3_append_17 (by decide) ?_
  refine lv_iload_n hx hb dX3_append_19 rfl (lv_at hl 0 rfl) ?_
  refine lv_imul hx hb dX3_append_20 ?_
  refine lv_cast (y := 0) (by decide) ?_
  refine lv_ishr hx hb dX3_append_21 ?_
  refine lv_i2b hx hb dX3_append_22 rfl ?_
  refine tp_st hx hb hE hP hS ((sI_ne _ _ (by decide)).trans (sI_at _ _ _)) (ln + 1 + 1) (by omega) (sI_mid _ _ _ _ (by decide)) dX3_append_23 (fun H locs hP hS => ?_)
  refine lv_aload_n hx hb dX3_append_24 rfl (lv_at hl 1 rfl) ?_
  refine lv_dup hx hb dX3_append_25 rfl ?_
  refine tx_get hx hb hts hin3 hown hE hP ((sI_ne _ _ (by decide)).trans (sI_at _ _ _)) 1 (by decide) (hts (.fieldLink RX3 15 "HeldDoor$Text" "length" "I") (by decide +kernel)) (v := .int ((upd (upd X 1 (nI (ln + 1))) 1 (nI (ln + 1 + 1))) 1)) rfl dX3_append_26 ?_
  refine lv_cast (y := nI (ln + 1 + 1)) (by rw [up_at]) ?_
  refine lv_iconst (v := 1) hx hb dX3_append_29 (by decide) ?_
  refine nn_iadd (a := ln + 1 + 1) (b := 1) hx hb dX3_append_30 ?_
  refine tx_put hx hb hts hin3 hown hE hP hS ((sI_ne _ _ (by decide)).trans (sI_at _ _ _)) 1 (by decide) (hts (.fieldLink RX3 15 "HeldDoor$Text" "length" "I") (by decide +kernel)) (sI_mid _ _ _ _ (by decide)) dX3_append_31 (fun H locs hP hS => ?_)
  refine lv_iinc (v := (-1)) (lv' := [(3, .int (-1)), (0, .ref (gad G 22)), (1, .int x), (2, .int 3)]) hx hb dX3_append_34 hl (k := 0) rfl (by decide) (by decide) rfl (fun ls hl => ?_)
  refine lv_goto (tgt := 4) hx hb dX3_append_37 (by decide) ?_
  refine lv_iload_n hx hb dX3_append_4 rfl (lv_at hl 0 rfl) ?_
  refine lv_if_lt (tgt := 40) hx hb dX3_append_5 (by decide) (fun _ => ?_) (fun h => False.elim (by revert h; decide))
  exact hd_vret hx hb hr hlocks hP hS (by rw [up_up, up_up]; rfl) dX3_append_40
set_option maxHeartbeats 4000000 in
set_option maxRecDepth 100000 in
theorem c_X3_append_4 (l : Launch) (G : Geo) (u : Sg) (X Y : Nat → Int32) (h4 : u.1 4 = X) (h5 : u.1 5 = Y) (ln : Nat) (hln : X 1 = nI ln) (hl9 : ln + 4 ≤ 120) (x : Int32) : CtV l G yX3_append wsX3_append (rmO 0 0) [.ref (gad G 22), .int x, .int 4] u (fun v => v = sI (sI u 5 (apG gCl Y ln x 4)) 4 (upd X 1 (nI (ln + 4)))) := by
  refine CtV.of (cc := cX3_append) (maxL := 4) (ret := none) (own := RX3) (by decide) rfl rfl ?_
  rintro pg ev s0 mm below meth cd ⟨hx, hb, hr, hml, hown, hts, hlocks⟩ hE hP ls hl
  have hS : va_S (gA G) s0.heap s0.heap [] := va_S.rf
  have hl : lv_has ls 4 [(0, .ref (gad G 22)), (1, .int x), (2, .int 4)] := hl
  have hin3 : ∀ w ∈ wsX30, w ∈ wsX3_append := by decide +kernel
  refine lv_iload_n hx hb dX3_append_0 rfl (lv_at hl 2 rfl) ?_
  refine lv_iconst (v := 1) hx hb dX3_append_1 (by decide) ?_
  refine lv_isub hx hb dX3_append_2 ?_
  refine lv_cast (y := 3) (by decide) ?_
  refine lv_istore_n (lv' := [(3, .int 3), (0, .ref (gad G 22)), (1, .int x), (2, .int 4)]) hx hb dX3_append_3 rfl hl (by decide) rfl (fun ls hl => ?_)
  refine lv_iload_n hx hb dX3_append_4 rfl (lv_at hl 0 rfl) ?_
  refine lv_if_lt (tgt := 40) hx hb dX3_append_5 (by decide) (fun h => False.elim (by revert h; decide)) (fun _ => ?_)
  refine lv_aload_n hx hb dX3_append_8 rfl (lv_at hl 1 rfl) ?_
  refine tx_get hx hb hts hin3 hown hE hP h4 0 (by decide) (hts (.fieldLink RX3 9 "HeldDoor$Text" "tape" "[B") (by decide +kernel)) (v := .ref (gad G 23)) rfl dX3_append_9 ?_
  refine lv_aload_n hx hb dX3_append_12 rfl (lv_at hl 1 rfl) ?_
  refine tx_get hx hb hts hin3 hown hE hP h4 1 (by decide) (hts (.fieldLink RX3 15 "HeldDoor$Text" "length" "I") (by decide +kernel)) (v := .int (X 1)) rfl dX3_append_13 ?_
  refine lv_cast hln ?_
  refine lv_iload_n hx hb dX3_append_16 rfl (lv_at hl 2 rfl) ?_
  refine lv_bipush (v := 8) hx hb dX3_append_17 (by decide) ?_
  refine lv_iload_n hx hb dX3_append_19 rfl (lv_at hl 0 rfl) ?_
  refine lv_imul hx hb dX3_append_20 ?_
  refine lv_cast (y := 24) (by decide) ?_
  refine lv_ishr hx hb dX3_append_21 ?_
  refine lv_i2b hx hb dX3_append_22 rfl ?_
  refine tp_st hx hb hE hP hS h5 ln (by omega) rfl dX3_append_23 (fun H locs hP hS => ?_)
  refine lv_aload_n hx hb dX3_append_24 rfl (lv_at hl 1 rfl) ?_
  refine lv_dup hx hb dX3_append_25 rfl ?_
  refine tx_get hx hb hts hin3 hown hE hP ((sI_ne _ _ (by decide)).trans h4) 1 (by decide) (hts (.fieldLink RX3 15 "HeldDoor$Text" "length" "I") (by decide +kernel)) (v := .int (X 1)) rfl dX3_append_26 ?_
  refine lv_cast hln ?_
  refine lv_iconst (v := 1) hx hb dX3_append_29 (by decide) ?_
  refine nn_iadd (a := ln) (b := 1) hx hb dX3_append_30 ?_
  refine tx_put hx hb hts hin3 hown hE hP hS ((sI_ne _ _ (by decide)).trans h4) 1 (by decide) (hts (.fieldLink RX3 15 "HeldDoor$Text" "length" "I") (by decide +kernel)) rfl dX3_append_31 (fun H locs hP hS => ?_)
  refine lv_iinc (v := 2) (lv' := [(3, .int 2), (0, .ref (gad G 22)), (1, .int x), (2, .int 4)]) hx hb dX3_append_34 hl (k := 0) rfl (by decide) (by decide) rfl (fun ls hl => ?_)
  refine lv_goto (tgt := 4) hx hb dX3_append_37 (by decide) ?_
  refine lv_iload_n hx hb dX3_append_4 rfl (lv_at hl 0 rfl) ?_
  refine lv_if_lt (tgt := 40) hx hb dX3_append_5 (by decide) (fun h => False.elim (by revert h; decide)) (fun _ => ?_)
  refine lv_aload_n hx hb dX3_append_8 rfl (lv_at hl 1 rfl) ?_
  refine tx_get hx hb hts hin3 hown hE hP (sI_at _ _ _) 0 (by decide) (hts (.fieldLink RX3 9 "HeldDoor$Text" "tape" "[B") (by decide +kernel)) (v := .ref (gad G 23)) rfl dX3_append_9 ?_
  refine lv_aload_n hx hb dX3_append_12 rfl (lv_at hl 1 rfl) ?_
  refine tx_get hx hb hts hin3 hown hE hP (sI_at _ _ _) 1 (by decide) (hts (.fieldLink RX3 15 "HeldDoor$Text" "length" "I") (by decide +kernel)) (v := .int ((upd X 1 (nI (ln + 1))) 1)) rfl dX3_append_13 ?_
  refine lv_cast (y := nI (ln + 1)) (by rw [up_at]) ?_
  refine lv_iload_n hx hb dX3_append_16 rfl (lv_at hl 2 rfl) ?_
  refine lv_bipush (v := 8) hx hb dX3_append_17 (by decide) ?_
  refine lv_iload_n hx hb dX3_append_19 rfl (lv_at hl 0 rfl) ?_
  refine lv_imul hx hb dX3_append_20 ?_
  refine lv_cast (y := 16) (by decide) ?_
  refine lv_ishr hx hb dX3_append_21 ?_
  refine lv_i2b hx hb dX3_append_22 rfl ?_
  refine tp_st hx hb hE hP hS ((sI_ne _ _ (by decide)).trans (sI_at _ _ _)) (ln + 1) (by omega) (sI_mid _ _ _ _ (by decide)) dX3_append_23 (fun H locs hP hS => ?_)
  refine lv_aload_n hx hb dX3_append_24 rfl (lv_at hl 1 rfl) ?_
  refine lv_dup hx hb dX3_append_25 rfl ?_
  refine tx_get hx hb hts hin3 hown hE hP ((sI_ne _ _ (by decide)).trans (sI_at _ _ _)) 1 (by decide) (hts (.fieldLink RX3 15 "HeldDoor$Text" "length" "I") (by decide +kernel)) (v := .int ((upd X 1 (nI (ln + 1))) 1)) rfl dX3_append_26 ?_
  refine lv_cast (y := nI (ln + 1)) (by rw [up_at]) ?_
  refine lv_iconst (v := 1) hx hb dX3_append_29 (by decide) ?_
  refine nn_iadd (a := ln + 1) (b := 1) hx hb dX3_append_30 ?_
  refine tx_put hx hb hts hin3 hown hE hP hS ((sI_ne _ _ (by decide)).trans (sI_at _ _ _)) 1 (by decide) (hts (.fieldLink RX3 15 "HeldDoor$Text" "length" "I") (by decide +kernel)) (sI_mid _ _ _ _ (by decide)) dX3_append_31 (fun H locs hP hS => ?_)
  refine lv_iinc (v := 1) (lv' := [(3, .int 1), (0, .ref (gad G 22)), (1, .int x), (2, .int 4)]) hx hb dX3_append_34 hl (k := 0) rfl (by decide) (by decide) rfl (fun ls hl => ?_)
  refine lv_goto (tgt := 4) hx hb dX3_append_37 (by decide) ?_
  refine lv_iload_n hx hb dX3_append_4 rfl (lv_at hl 0 rfl) ?_
  refine lv_if_lt (tgt := 40) hx hb dX3_append_5 (by decide) (fun h => False.elim (by revert h; decide)) (fun _ => ?_)
  refine lv_aload_n hx hb dX3_append_8 rfl (lv_at hl 1 rfl) ?_
  refine tx_get hx hb hts hin3 hown hE hP (sI_at _ _ _) 0 (by decide) (hts (.fieldLink RX3 9 "HeldDoor$Text" "tape" "[B") (by decide +kernel)) (v := .ref (gad G 23)) rfl dX3_append_9 ?_
  refine lv_aload_n hx hb dX3_append_12 rfl (lv_at hl 1 rfl) ?_
  refine tx_get hx hb hts hin3 hown hE hP (sI_at _ _ _) 1 (by decide) (hts (.fieldLink RX3 15 "HeldDoor$Text" "length" "I") (by decide +kernel)) (v := .int ((upd (upd X 1 (nI (ln + 1))) 1 (nI (ln + 1 + 1))) 1)) rfl dX3_append_13 ?_
  refine lv_cast (y := nI (ln + 1 + 1)) (by rw [up_at]) ?_
  refine lv_iload_n hx hb dX3_append_16 rfl (lv_at hl 2 rfl) ?_
  refine lv_bipush (v := 8) hx hb dX3_append_17 (by decide) ?_
  refine lv_iload_n hx hb dX3_append_19 rfl (lv_at hl 0 rfl) ?_
  refine lv_imul hx hb dX3_append_20 ?_
  refine lv_cast (y := 8) (by decide) ?_
  refine lv_ishr hx hb dX3_append_21 ?_
  refine lv_i2b hx hb dX3_append_22 rfl ?_
  refine tp_st hx hb hE hP hS ((sI_ne _ _ (by decide)).trans (sI_at _ _ _)) (ln + 1 + 1) (by omega) (sI_mid _ _ _ _ (by decide)) dX3_append_23 (fun H locs hP hS => ?_)
  refine lv_aload_n hx hb dX3_append_24 rfl (lv_at hl 1 rfl) ?_
  refine lv_dup hx hb dX3_append_25 rfl ?_
  refine tx_get hx hb hts hin3 hown hE hP ((sI_ne _ _ (by decide)).trans (sI_at _ _ _)) 1 (by decide) (hts (.fieldLink RX3 15 "HeldDoor$Text" "length" "I") (by decide +kernel)) (v := .int ((upd (upd X 1 (nI (ln + 1))) 1 (nI (ln + 1 + 1))) 1)) rfl dX3_append_26 ?_
  refine lv_cast (y := nI (ln + 1 + 1)) (by rw [up_at]) ?_
  refine lv_iconst (v := 1) hx hb dX3_append_29 (by decide) ?_
  refine nn_iadd (a := ln + 1 + 1) (b := 1) hx hb dX3_append_30 ?_
  refine tx_put hx hb hts hin3 hown hE hP hS ((sI_ne _ _ (by decide)).trans (sI_at _ _ _)) 1 (by decide) (hts (.fieldLink RX3 15 "HeldDoor$Text" "length" "I") (by decide +kernel)) (sI_mid _ _ _ _ (by decide)) dX3_append_31 (fun H locs hP hS => ?_)
  refine lv_iinc (v := 0) (lv' := [(3, .int 0), (0, .ref (gad G 22)), (1, .int x), (2, .int 4)]) hx hb dX3_append_34 hl (k := 0) rfl (by decide) (by decide) rfl (fun ls hl => ?_)
  refine lv_goto (tgt := 4) hx hb dX3_append_37 (by decide) ?_
  refine lv_iload_n hx hb dX3_append_4 rfl (lv_at hl 0 rfl) ?_
  refine lv_if_lt (tgt := 40) hx hb dX3_append_5 (by decide) (fun h => False.elim (by revert h; decide)) (fun _ => ?_)
  refine lv_aload_n hx hb dX3_append_8 rfl (lv_at hl 1 rfl) ?_
  refine tx_get hx hb hts hin3 hown hE hP (sI_at _ _ _) 0 (by decide) (hts (.fieldLink RX3 9 "HeldDoor$Text" "tape" "[B") (by decide +kernel)) (v := .ref (gad G 23)) rfl dX3_append_9 ?_
  refine lv_aload_n hx hb dX3_append_12 rfl (lv_at hl 1 rfl) ?_
  refine tx_get hx hb hts hin3 hown hE hP (sI_at _ _ _) 1 (by decide) (hts (.fieldLink RX3 15 "HeldDoor$Text" "length" "I") (by decide +kernel)) (v := .int ((upd (upd (upd X 1 (nI (ln + 1))) 1 (nI (ln + 1 + 1))) 1 (nI (ln + 1 + 1 + 1))) 1)) rfl dX3_append_13 ?_
  refine lv_cast (y := nI (ln + 1 + 1 + 1)) (by rw [up_at]) ?_
  refine lv_iload_n hx hb dX3_append_16 rfl (lv_at hl 2 rfl) ?_
  refine lv_bipush (v := 8) hx hb dX3_append_17 (by decide) ?_
  refine lv_iload_n hx hb dX3_append_19 rfl (lv_at hl 0 rfl) ?_
  refine lv_imul hx hb dX3_append_20 ?_
  refine lv_cast (y := 0) (by decide) ?_
  refine lv_ishr hx hb dX3_append_21 ?_
  refine lv_i2b hx hb dX3_append_22 rfl ?_
  refine tp_st hx hb hE hP hS ((sI_ne _ _ (by decide)).trans (sI_at _ _ _)) (ln + 1 + 1 + 1) (by omega) (sI_mid _ _ _ _ (by decide)) dX3_append_23 (fun H locs hP hS => ?_)
  refine lv_aload_n hx hb dX3_append_24 rfl (lv_at hl 1 rfl) ?_
  refine lv_dup hx hb dX3_append_25 rfl ?_
  refine tx_get hx hb hts hin3 hown hE hP ((sI_ne _ _ (by decide)).trans (sI_at _ _ _)) 1 (by decide) (hts (.fieldLink RX3 15 "HeldDoor$Text" "length" "I") (by decide +kernel)) (v := .int ((upd (upd (upd X 1 (nI (ln + 1))) 1 (nI (ln + 1 + 1))) 1 (nI (ln + 1 + 1 + 1))) 1)) rfl dX3_append_26 ?_
  refine lv_cast (y := nI (ln + 1 + 1 + 1)) (by rw [up_at]) ?_
  refine lv_iconst (v := 1) hx hb dX3_append_29 (by decide) ?_
  refine nn_iadd (a := ln + 1 + 1 + 1) (b := 1) hx hb dX3_append_30 ?_
  refine tx_put hx hb hts hin3 hown hE hP hS ((sI_ne _ _ (by decide)).trans (sI_at _ _ _)) 1 (by decide) (hts (.fieldLink RX3 15 "HeldDoor$Text" "length" "I") (by decide +kernel)) (sI_mid _ _ _ _ (by decide)) dX3_append_31 (fun H locs hP hS => ?_)
  refine lv_iinc (v := (-1)) (lv' := [(3, .int (-1)), (0, .ref (gad G 22)), (1, .int x), (2, .int 4)]) hx hb dX3_append_34 hl (k := 0) rfl (by decide) (by decide) rfl (fun ls hl => ?_)
  refine lv_goto (tgt := 4) hx hb dX3_append_37 (by decide) ?_
  refine lv_iload_n hx hb dX3_append_4 rfl (lv_at hl 0 rfl) ?_
  refine lv_if_lt (tgt := 40) hx hb dX3_append_5 (by decide) (fun _ => ?_) (fun h => False.elim (by revert h; decide))
  exact hd_vret hx hb hr hlocks hP hS (by rw [up_up, up_up, up_up]; rfl) dX3_append_40
set_option maxHeartbeats 4000000 in
set_option maxRecDepth 100000 in
theorem c_X4_feed_1 (l : Launch) (G : Geo) (u : Sg) (X Y : Nat → Int32) (h4 : u.1 4 = X) (h5 : u.1 5 = Y) (ln : Nat) (hln : X 1 = nI ln) (hlm : ln ≤ 120) (F : Nat → Int32) (h6 : u.1 6 = F) (x : Int32) : CtI l G yX4_feed wsX4_feed (rmO 2 44) [.ref (gad G 0), .int x, .int 1] u (PS u 6 F (f_feed ln 1) (fun r v => r = nI (ln + 1) ∧ v = sI (sI u 5 (apG gCl Y ln x 1)) 4 (upd X 1 (nI (ln + 1))))) := by
  refine CtI.of (cc := cX4_feed) (maxL := 3) (ret := (some .int)) (own := RX4) (by decide) rfl rfl ?_
  rintro pg ev s0 mm below meth cd ⟨hx, hb, hr, hml, hown, hts, hlocks⟩ hE hP ls hl
  have hS : va_S (gA G) s0.heap s0.heap [] := va_S.rf
  have hl : lv_has ls 3 [(0, .ref (gad G 0)), (1, .int x), (2, .int 1)] := hl
  have hin3 : ∀ w ∈ wsX30, w ∈ wsX4_feed := by decide +kernel
  have hin4 : ∀ w ∈ wsX40, w ∈ wsX4_feed := by decide +kernel
  refine lv_iconst (v := 1) hx hb dX4_feed_0 (by decide) ?_
  refine lv_iconst (v := 4) hx hb dX4_feed_1 (by decide) ?_
  refine lv_iload_n hx hb dX4_feed_2 rfl (lv_at hl 2 rfl) ?_
  refine hd_callSi (As := [.int 1, .int 4, .int 1]) (rest := []) ⟨hx, hb, hml, hown, hts⟩ hE hP hS (c_X4_isFrom l G u 1 4 1) rfl (va_cwS 3 hts gX4_feed_X4_isFrom rfl rfl rfl (by decide +kernel) ⟨Nat.le_of_ble_eq_true rfl, Nat.le_of_ble_eq_true rfl⟩) rfl hl.1 rfl (Nat.le_of_ble_eq_true rfl) dX4_feed_3 (fun rq_1 vq_1 H locs q_1 hP hS => ?_)
  have hP := hP.cast (q_1.2)
  refine lv_cast q_1.1 ?_
  refine bo_ne (tgt := 16) hx hb dX4_feed_6 (by decide) (fun c_2 => ?_) (fun c_2 => absurd c_2 (by decide))
  refine lv_aload_n hx hb dX4_feed_16 rfl (lv_at hl 0 rfl) ?_
  refine do_get hx hb hts hin4 hown hE hP rfl 4 (by decide) (hts (.fieldLink RX4 29 "HeldDoor" "text" "LHeldDoor$Text;") (by decide +kernel)) (v := .ref (gad G 22)) rfl dX4_feed_17 ?_
  refine tx_get hx hb hts hin3 hown hE hP h4 1 (by decide) (hts (.fieldLink RX4 173 "HeldDoor$Text" "length" "I") (by decide +kernel)) (v := .int (X 1)) rfl dX4_feed_20 ?_
  refine lv_cast hln ?_
  refine lv_bipush (v := 120) hx hb dX4_feed_23 (by decide) ?_
  refine lv_iload_n hx hb dX4_feed_25 rfl (lv_at hl 2 rfl) ?_
  refine lv_isub hx hb dX4_feed_26 ?_
  refine lv_cast (y := 119) (by decide) ?_
  refine nn_le (a := ln) (b := 119) (by omega) (by omega) (tgt := 37) hx hb dX4_feed_27 (by decide) (fun c_3 => ?_) (fun c_3 => ?_)
  · skip
    refine lv_aload_n hx hb dX4_feed_37 rfl (lv_at hl 0 rfl) ?_
    refine do_get hx hb hts hin4 hown hE hP rfl 4 (by decide) (hts (.fieldLink RX4 29 "HeldDoor" "text" "LHeldDoor$Text;") (by decide +kernel)) (v := .ref (gad G 22)) rfl dX4_feed_38 ?_
    refine lv_iload_n hx hb dX4_feed_41 rfl (lv_at hl 1 rfl) ?_
    refine lv_iload_n hx hb dX4_feed_42 rfl (lv_at hl 2 rfl) ?_
    refine hd_callVv (As := [.int x, .int 1]) (rest := []) ⟨hx, hb, hml, hown, hts⟩ hE hP hS (c_X3_append_1 l G u X Y h4 h5 ln hln (by omega) x) rfl (cwV 2 hts gX4_feed_X3_append rfl rfl rfl (by decide +kernel) ⟨Nat.le_of_ble_eq_true rfl, Nat.le_of_ble_eq_true rfl⟩) (tx_recv hE hP) rfl hl.1 rfl (Nat.le_of_ble_eq_true rfl) dX4_feed_43 (fun vq_4 H locs q_4 hP hS => ?_)
    have hP := hP.cast (q_4)
    refine lv_aload_n hx hb dX4_feed_46 rfl (lv_at hl 0 rfl) ?_
    refine do_get hx hb hts hin4 hown hE hP ((sI_ne _ _ (by decide)).trans ((sI_ne _ _ (by decide)).trans rfl)) 4 (by decide) (hts (.fieldLink RX4 29 "HeldDoor" "text" "LHeldDoor$Text;") (by decide +kernel)) (v := .ref (gad G 22)) rfl dX4_feed_47 ?_
    refine tx_get hx hb hts hin3 hown hE hP (sI_at _ _ _) 1 (by decide) (hts (.fieldLink RX4 173 "HeldDoor$Text" "length" "I") (by decide +kernel)) (v := .int ((upd X 1 (nI (ln + 1))) 1)) rfl dX4_feed_50 ?_
    refine lv_cast (y := nI (ln + 1)) (by rw [up_at]) ?_
    exact hd_iret hx hb hr hlocks hP hS (PS.ok (feed_ok (k := 1) (by decide) (by decide) (by omega)) ⟨rfl, rfl⟩) dX4_feed_53
  · skip
    refine lv_aload_n hx hb dX4_feed_30 rfl (lv_at hl 0 rfl) ?_
    refine lv_ldc (v := (-1000000002)) hx hb hown (hts (.constant RX4 90 ((-1000000002))) (by decide +kernel)) dX4_feed_31 ?_
    refine hd_callVi (As := [.int (-1000000002)]) (rest := []) ⟨hx, hb, hml, hown, hts⟩ hE hP hS (c_X4_found_1 l G u F h6) rfl (cwV 1 hts gX4_feed_X4_found rfl rfl rfl (by decide +kernel) ⟨Nat.le_of_ble_eq_true rfl, Nat.le_of_ble_eq_true rfl⟩) (do_recv hE hP) rfl hl.1 rfl (Nat.le_of_ble_eq_true rfl) dX4_feed_33 (fun rq_5 vq_5 H locs q_5 hP hS => ?_)
    have hP := hP.cast (q_5.2)
    refine lv_cast q_5.1 ?_
    exact hd_iret hx hb hr hlocks hP hS (PS.bad (-1000000002) (feed_full (k := 1) (by decide) (by decide) (by omega) (by omega)) (by decide) rfl rfl) dX4_feed_36
set_option maxHeartbeats 4000000 in
set_option maxRecDepth 100000 in
theorem c_X4_feed_2 (l : Launch) (G : Geo) (u : Sg) (X Y : Nat → Int32) (h4 : u.1 4 = X) (h5 : u.1 5 = Y) (ln : Nat) (hln : X 1 = nI ln) (hlm : ln ≤ 120) (F : Nat → Int32) (h6 : u.1 6 = F) (x : Int32) : CtI l G yX4_feed wsX4_feed (rmO 2 44) [.ref (gad G 0), .int x, .int 2] u (PS u 6 F (f_feed ln 2) (fun r v => r = nI (ln + 2) ∧ v = sI (sI u 5 (apG gCl Y ln x 2)) 4 (upd X 1 (nI (ln + 2))))) := by
  refine CtI.of (cc := cX4_feed) (maxL := 3) (ret := (some .int)) (own := RX4) (by decide) rfl rfl ?_
  rintro pg ev s0 mm below meth cd ⟨hx, hb, hr, hml, hown, hts, hlocks⟩ hE hP ls hl
  have hS : va_S (gA G) s0.heap s0.heap [] := va_S.rf
  have hl : lv_has ls 3 [(0, .ref (gad G 0)), (1, .int x), (2, .int 2)] := hl
  have hin3 : ∀ w ∈ wsX30, w ∈ wsX4_feed := by decide +kernel
  have hin4 : ∀ w ∈ wsX40, w ∈ wsX4_feed := by decide +kernel
  refine lv_iconst (v := 1) hx hb dX4_feed_0 (by decide) ?_
  refine lv_iconst (v := 4) hx hb dX4_feed_1 (by decide) ?_
  refine lv_iload_n hx hb dX4_feed_2 rfl (lv_at hl 2 rfl) ?_
  refine hd_callSi (As := [.int 1, .int 4, .int 2]) (rest := []) ⟨hx, hb, hml, hown, hts⟩ hE hP hS (c_X4_isFrom l G u 1 4 2) rfl (va_cwS 3 hts gX4_feed_X4_isFrom rfl rfl rfl (by decide +kernel) ⟨Nat.le_of_ble_eq_true rfl, Nat.le_of_ble_eq_true rfl⟩) rfl hl.1 rfl (Nat.le_of_ble_eq_true rfl) dX4_feed_3 (fun rq_1 vq_1 H locs q_1 hP hS => ?_)
  have hP := hP.cast (q_1.2)
  refine lv_cast q_1.1 ?_
  refine bo_ne (tgt := 16) hx hb dX4_feed_6 (by decide) (fun c_2 => ?_) (fun c_2 => absurd c_2 (by decide))
  refine lv_aload_n hx hb dX4_feed_16 rfl (lv_at hl 0 rfl) ?_
  refine do_get hx hb hts hin4 hown hE hP rfl 4 (by decide) (hts (.fieldLink RX4 29 "HeldDoor" "text" "LHeldDoor$Text;") (by decide +kernel)) (v := .ref (gad G 22)) rfl dX4_feed_17 ?_
  refine tx_get hx hb hts hin3 hown hE hP h4 1 (by decide) (hts (.fieldLink RX4 173 "HeldDoor$Text" "length" "I") (by decide +kernel)) (v := .int (X 1)) rfl dX4_feed_20 ?_
  refine lv_cast hln ?_
  refine lv_bipush (v := 120) hx hb dX4_feed_23 (by decide) ?_
  refine lv_iload_n hx hb dX4_feed_25 rfl (lv_at hl 2 rfl) ?_
  refine lv_isub hx hb dX4_feed_26 ?_
  refine lv_cast (y := 118) (by decide) ?_
  refine nn_le (a := ln) (b := 118) (by omega) (by omega) (tgt := 37) hx hb dX4_feed_27 (by decide) (fun c_3 => ?_) (fun c_3 => ?_)
  · skip
    refine lv_aload_n hx hb dX4_feed_37 rfl (lv_at hl 0 rfl) ?_
    refine do_get hx hb hts hin4 hown hE hP rfl 4 (by decide) (hts (.fieldLink RX4 29 "HeldDoor" "text" "LHeldDoor$Text;") (by decide +kernel)) (v := .ref (gad G 22)) rfl dX4_feed_38 ?_
    refine lv_iload_n hx hb dX4_feed_41 rfl (lv_at hl 1 rfl) ?_
    refine lv_iload_n hx hb dX4_feed_42 rfl (lv_at hl 2 rfl) ?_
    refine hd_callVv (As := [.int x, .int 2]) (rest := []) ⟨hx, hb, hml, hown, hts⟩ hE hP hS (c_X3_append_2 l G u X Y h4 h5 ln hln (by omega) x) rfl (cwV 2 hts gX4_feed_X3_append rfl rfl rfl (by decide +kernel) ⟨Nat.le_of_ble_eq_true rfl, Nat.le_of_ble_eq_true rfl⟩) (tx_recv hE hP) rfl hl.1 rfl (Nat.le_of_ble_eq_true rfl) dX4_feed_43 (fun vq_4 H locs q_4 hP hS => ?_)
    have hP := hP.cast (q_4)
    refine lv_aload_n hx hb dX4_feed_46 rfl (lv_at hl 0 rfl) ?_
    refine do_get hx hb hts hin4 hown hE hP ((sI_ne _ _ (by decide)).trans ((sI_ne _ _ (by decide)).trans rfl)) 4 (by decide) (hts (.fieldLink RX4 29 "HeldDoor" "text" "LHeldDoor$Text;") (by decide +kernel)) (v := .ref (gad G 22)) rfl dX4_feed_47 ?_
    refine tx_get hx hb hts hin3 hown hE hP (sI_at _ _ _) 1 (by decide) (hts (.fieldLink RX4 173 "HeldDoor$Text" "length" "I") (by decide +kernel)) (v := .int ((upd X 1 (nI (ln + 2))) 1)) rfl dX4_feed_50 ?_
    refine lv_cast (y := nI (ln + 2)) (by rw [up_at]) ?_
    exact hd_iret hx hb hr hlocks hP hS (PS.ok (feed_ok (k := 2) (by decide) (by decide) (by omega)) ⟨rfl, rfl⟩) dX4_feed_53
  · skip
    refine lv_aload_n hx hb dX4_feed_30 rfl (lv_at hl 0 rfl) ?_
    refine lv_ldc (v := (-1000000002)) hx hb hown (hts (.constant RX4 90 ((-1000000002))) (by decide +kernel)) dX4_feed_31 ?_
    refine hd_callVi (As := [.int (-1000000002)]) (rest := []) ⟨hx, hb, hml, hown, hts⟩ hE hP hS (c_X4_found_1 l G u F h6) rfl (cwV 1 hts gX4_feed_X4_found rfl rfl rfl (by decide +kernel) ⟨Nat.le_of_ble_eq_true rfl, Nat.le_of_ble_eq_true rfl⟩) (do_recv hE hP) rfl hl.1 rfl (Nat.le_of_ble_eq_true rfl) dX4_feed_33 (fun rq_5 vq_5 H locs q_5 hP hS => ?_)
    have hP := hP.cast (q_5.2)
    refine lv_cast q_5.1 ?_
    exact hd_iret hx hb hr hlocks hP hS (PS.bad (-1000000002) (feed_full (k := 2) (by decide) (by decide) (by omega) (by omega)) (by decide) rfl rfl) dX4_feed_36
set_option maxHeartbeats 4000000 in
set_option maxRecDepth 100000 in
theorem c_X4_feed_3 (l : Launch) (G : Geo) (u : Sg) (X Y : Nat → Int32) (h4 : u.1 4 = X) (h5 : u.1 5 = Y) (ln : Nat) (hln : X 1 = nI ln) (hlm : ln ≤ 120) (F : Nat → Int32) (h6 : u.1 6 = F) (x : Int32) : CtI l G yX4_feed wsX4_feed (rmO 2 44) [.ref (gad G 0), .int x, .int 3] u (PS u 6 F (f_feed ln 3) (fun r v => r = nI (ln + 3) ∧ v = sI (sI u 5 (apG gCl Y ln x 3)) 4 (upd X 1 (nI (ln + 3))))) := by
  refine CtI.of (cc := cX4_feed) (maxL := 3) (ret := (some .int)) (own := RX4) (by decide) rfl rfl ?_
  rintro pg ev s0 mm below meth cd ⟨hx, hb, hr, hml, hown, hts, hlocks⟩ hE hP ls hl
  have hS : va_S (gA G) s0.heap s0.heap [] := va_S.rf
  have hl : lv_has ls 3 [(0, .ref (gad G 0)), (1, .int x), (2, .int 3)] := hl
  have hin3 : ∀ w ∈ wsX30, w ∈ wsX4_feed := by decide +kernel
  have hin4 : ∀ w ∈ wsX40, w ∈ wsX4_feed := by decide +kernel
  refine lv_iconst (v := 1) hx hb dX4_feed_0 (by decide) ?_
  refine lv_iconst (v := 4) hx hb dX4_feed_1 (by decide) ?_
  refine lv_iload_n hx hb dX4_feed_2 rfl (lv_at hl 2 rfl) ?_
  refine hd_callSi (As := [.int 1, .int 4, .int 3]) (rest := []) ⟨hx, hb, hml, hown, hts⟩ hE hP hS (c_X4_isFrom l G u 1 4 3) rfl (va_cwS 3 hts gX4_feed_X4_isFrom rfl rfl rfl (by decide +kernel) ⟨Nat.le_of_ble_eq_true rfl, Nat.le_of_ble_eq_true rfl⟩) rfl hl.1 rfl (Nat.le_of_ble_eq_true rfl) dX4_feed_3 (fun rq_1 vq_1 H locs q_1 hP hS => ?_)
  have hP := hP.cast (q_1.2)
  refine lv_cast q_1.1 ?_
  refine bo_ne (tgt := 16) hx hb dX4_feed_6 (by decide) (fun c_2 => ?_) (fun c_2 => absurd c_2 (by decide))
  refine lv_aload_n hx hb dX4_feed_16 rfl (lv_at hl 0 rfl) ?_
  refine do_get hx hb hts hin4 hown hE hP rfl 4 (by decide) (hts (.fieldLink RX4 29 "HeldDoor" "text" "LHeldDoor$Text;") (by decide +kernel)) (v := .ref (gad G 22)) rfl dX4_feed_17 ?_
  refine tx_get hx hb hts hin3 hown hE hP h4 1 (by decide) (hts (.fieldLink RX4 173 "HeldDoor$Text" "length" "I") (by decide +kernel)) (v := .int (X 1)) rfl dX4_feed_20 ?_
  refine lv_cast hln ?_
  refine lv_bipush (v := 120) hx hb dX4_feed_23 (by decide) ?_
  refine lv_iload_n hx hb dX4_feed_25 rfl (lv_at hl 2 rfl) ?_
  refine lv_isub hx hb dX4_feed_26 ?_
  refine lv_cast (y := 117) (by decide) ?_
  refine nn_le (a := ln) (b := 117) (by omega) (by omega) (tgt := 37) hx hb dX4_feed_27 (by decide) (fun c_3 => ?_) (fun c_3 => ?_)
  · skip
    refine lv_aload_n hx hb dX4_feed_37 rfl (lv_at hl 0 rfl) ?_
    refine do_get hx hb hts hin4 hown hE hP rfl 4 (by decide) (hts (.fieldLink RX4 29 "HeldDoor" "text" "LHeldDoor$Text;") (by decide +kernel)) (v := .ref (gad G 22)) rfl dX4_feed_38 ?_
    refine lv_iload_n hx hb dX4_feed_41 rfl (lv_at hl 1 rfl) ?_
    refine lv_iload_n hx hb dX4_feed_42 rfl (lv_at hl 2 rfl) ?_
    refine hd_callVv (As := [.int x, .int 3]) (rest := []) ⟨hx, hb, hml, hown, hts⟩ hE hP hS (c_X3_append_3 l G u X Y h4 h5 ln hln (by omega) x) rfl (cwV 2 hts gX4_feed_X3_append rfl rfl rfl (by decide +kernel) ⟨Nat.le_of_ble_eq_true rfl, Nat.le_of_ble_eq_true rfl⟩) (tx_recv hE hP) rfl hl.1 rfl (Nat.le_of_ble_eq_true rfl) dX4_feed_43 (fun vq_4 H locs q_4 hP hS => ?_)
    have hP := hP.cast (q_4)
    refine lv_aload_n hx hb dX4_feed_46 rfl (lv_at hl 0 rfl) ?_
    refine do_get hx hb hts hin4 hown hE hP ((sI_ne _ _ (by decide)).trans ((sI_ne _ _ (by decide)).trans rfl)) 4 (by decide) (hts (.fieldLink RX4 29 "HeldDoor" "text" "LHeldDoor$Text;") (by decide +kernel)) (v := .ref (gad G 22)) rfl dX4_feed_47 ?_
    refine tx_get hx hb hts hin3 hown hE hP (sI_at _ _ _) 1 (by decide) (hts (.fieldLink RX4 173 "HeldDoor$Text" "length" "I") (by decide +kernel)) (v := .int ((upd X 1 (nI (ln + 3))) 1)) rfl dX4_feed_50 ?_
    refine lv_cast (y := nI (ln + 3)) (by rw [up_at]) ?_
    exact hd_iret hx hb hr hlocks hP hS (PS.ok (feed_ok (k := 3) (by decide) (by decide) (by omega)) ⟨rfl, rfl⟩) dX4_feed_53
  · skip
    refine lv_aload_n hx hb dX4_feed_30 rfl (lv_at hl 0 rfl) ?_
    refine lv_ldc (v := (-1000000002)) hx hb hown (hts (.constant RX4 90 ((-1000000002))) (by decide +kernel)) dX4_feed_31 ?_
    refine hd_callVi (As := [.int (-1000000002)]) (rest := []) ⟨hx, hb, hml, hown, hts⟩ hE hP hS (c_X4_found_1 l G u F h6) rfl (cwV 1 hts gX4_feed_X4_found rfl rfl rfl (by decide +kernel) ⟨Nat.le_of_ble_eq_true rfl, Nat.le_of_ble_eq_true rfl⟩) (do_recv hE hP) rfl hl.1 rfl (Nat.le_of_ble_eq_true rfl) dX4_feed_33 (fun rq_5 vq_5 H locs q_5 hP hS => ?_)
    have hP := hP.cast (q_5.2)
    refine lv_cast q_5.1 ?_
    exact hd_iret hx hb hr hlocks hP hS (PS.bad (-1000000002) (feed_full (k := 3) (by decide) (by decide) (by omega) (by omega)) (by decide) rfl rfl) dX4_feed_36
set_option maxHeartbeats 4000000 in
set_option maxRecDepth 100000 in
theorem c_X4_feed_4 (l : Launch) (G : Geo) (u : Sg) (X Y : Nat → Int32) (h4 : u.1 4 = X) (h5 : u.1 5 = Y) (ln : Nat) (hln : X 1 = nI ln) (hlm : ln ≤ 120) (F : Nat → Int32) (h6 : u.1 6 = F) (x : Int32) : CtI l G yX4_feed wsX4_feed (rmO 2 44) [.ref (gad G 0), .int x, .int 4] u (PS u 6 F (f_feed ln 4) (fun r v => r = nI (ln + 4) ∧ v = sI (sI u 5 (apG gCl Y ln x 4)) 4 (upd X 1 (nI (ln + 4))))) := by
  refine CtI.of (cc := cX4_feed) (maxL := 3) (ret := (some .int)) (own := RX4) (by decide) rfl rfl ?_
  rintro pg ev s0 mm below meth cd ⟨hx, hb, hr, hml, hown, hts, hlocks⟩ hE hP ls hl
  have hS : va_S (gA G) s0.heap s0.heap [] := va_S.rf
  have hl : lv_has ls 3 [(0, .ref (gad G 0)), (1, .int x), (2, .int 4)] := hl
  have hin3 : ∀ w ∈ wsX30, w ∈ wsX4_feed := by decide +kernel
  have hin4 : ∀ w ∈ wsX40, w ∈ wsX4_feed := by decide +kernel
  refine lv_iconst (v := 1) hx hb dX4_feed_0 (by decide) ?_
  refine lv_iconst (v := 4) hx hb dX4_feed_1 (by decide) ?_
  refine lv_iload_n hx hb dX4_feed_2 rfl (lv_at hl 2 rfl) ?_
  refine hd_callSi (As := [.int 1, .int 4, .int 4]) (rest := []) ⟨hx, hb, hml, hown, hts⟩ hE hP hS (c_X4_isFrom l G u 1 4 4) rfl (va_cwS 3 hts gX4_feed_X4_isFrom rfl rfl rfl (by decide +kernel) ⟨Nat.le_of_ble_eq_true rfl, Nat.le_of_ble_eq_true rfl⟩) rfl hl.1 rfl (Nat.le_of_ble_eq_true rfl) dX4_feed_3 (fun rq_1 vq_1 H locs q_1 hP hS => ?_)
  have hP := hP.cast (q_1.2)
  refine lv_cast q_1.1 ?_
  refine bo_ne (tgt := 16) hx hb dX4_feed_6 (by decide) (fun c_2 => ?_) (fun c_2 => absurd c_2 (by decide))
  refine lv_aload_n hx hb dX4_feed_16 rfl (lv_at hl 0 rfl) ?_
  refine do_get hx hb hts hin4 hown hE hP rfl 4 (by decide) (hts (.fieldLink RX4 29 "HeldDoor" "text" "LHeldDoor$Text;") (by decide +kernel)) (v := .ref (gad G 22)) rfl dX4_feed_17 ?_
  refine tx_get hx hb hts hin3 hown hE hP h4 1 (by decide) (hts (.fieldLink RX4 173 "HeldDoor$Text" "length" "I") (by decide +kernel)) (v := .int (X 1)) rfl dX4_feed_20 ?_
  refine lv_cast hln ?_
  refine lv_bipush (v := 120) hx hb dX4_feed_23 (by decide) ?_
  refine lv_iload_n hx hb dX4_feed_25 rfl (lv_at hl 2 rfl) ?_
  refine lv_isub hx hb dX4_feed_26 ?_
  refine lv_cast (y := 116) (by decide) ?_
  refine nn_le (a := ln) (b := 116) (by omega) (by omega) (tgt := 37) hx hb dX4_feed_27 (by decide) (fun c_3 => ?_) (fun c_3 => ?_)
  · skip
    refine lv_aload_n hx hb dX4_feed_37 rfl (lv_at hl 0 rfl) ?_
    refine do_get hx hb hts hin4 hown hE hP rfl 4 (by decide) (hts (.fieldLink RX4 29 "HeldDoor" "text" "LHeldDoor$Text;") (by decide +kernel)) (v := .ref (gad G 22)) rfl dX4_feed_38 ?_
    refine lv_iload_n hx hb dX4_feed_41 rfl (lv_at hl 1 rfl) ?_
    refine lv_iload_n hx hb dX4_feed_42 rfl (lv_at hl 2 rfl) ?_
    refine hd_callVv (As := [.int x, .int 4]) (rest := []) ⟨hx, hb, hml, hown, hts⟩ hE hP hS (c_X3_append_4 l G u X Y h4 h5 ln hln (by omega) x) rfl (cwV 2 hts gX4_feed_X3_append rfl rfl rfl (by decide +kernel) ⟨Nat.le_of_ble_eq_true rfl, Nat.le_of_ble_eq_true rfl⟩) (tx_recv hE hP) rfl hl.1 rfl (Nat.le_of_ble_eq_true rfl) dX4_feed_43 (fun vq_4 H locs q_4 hP hS => ?_)
    have hP := hP.cast (q_4)
    refine lv_aload_n hx hb dX4_feed_46 rfl (lv_at hl 0 rfl) ?_
    refine do_get hx hb hts hin4 hown hE hP ((sI_ne _ _ (by decide)).trans ((sI_ne _ _ (by decide)).trans rfl)) 4 (by decide) (hts (.fieldLink RX4 29 "HeldDoor" "text" "LHeldDoor$Text;") (by decide +kernel)) (v := .ref (gad G 22)) rfl dX4_feed_47 ?_
    refine tx_get hx hb hts hin3 hown hE hP (sI_at _ _ _) 1 (by decide) (hts (.fieldLink RX4 173 "HeldDoor$Text" "length" "I") (by decide +kernel)) (v := .int ((upd X 1 (nI (ln + 4))) 1)) rfl dX4_feed_50 ?_
    refine lv_cast (y := nI (ln + 4)) (by rw [up_at]) ?_
    exact hd_iret hx hb hr hlocks hP hS (PS.ok (feed_ok (k := 4) (by decide) (by decide) (by omega)) ⟨rfl, rfl⟩) dX4_feed_53
  · skip
    refine lv_aload_n hx hb dX4_feed_30 rfl (lv_at hl 0 rfl) ?_
    refine lv_ldc (v := (-1000000002)) hx hb hown (hts (.constant RX4 90 ((-1000000002))) (by decide +kernel)) dX4_feed_31 ?_
    refine hd_callVi (As := [.int (-1000000002)]) (rest := []) ⟨hx, hb, hml, hown, hts⟩ hE hP hS (c_X4_found_1 l G u F h6) rfl (cwV 1 hts gX4_feed_X4_found rfl rfl rfl (by decide +kernel) ⟨Nat.le_of_ble_eq_true rfl, Nat.le_of_ble_eq_true rfl⟩) (do_recv hE hP) rfl hl.1 rfl (Nat.le_of_ble_eq_true rfl) dX4_feed_33 (fun rq_5 vq_5 H locs q_5 hP hS => ?_)
    have hP := hP.cast (q_5.2)
    refine lv_cast q_5.1 ?_
    exact hd_iret hx hb hr hlocks hP hS (PS.bad (-1000000002) (feed_full (k := 4) (by decide) (by decide) (by omega) (by omega)) (by decide) rfl rfl) dX4_feed_36
set_option maxHeartbeats 4000000 in
set_option maxRecDepth 100000 in
theorem c_X4_feed_o (l : Launch) (G : Geo) (u : Sg) (X Y : Nat → Int32) (h4 : u.1 4 = X) (h5 : u.1 5 = Y) (ln : Nat) (hln : X 1 = nI ln) (hlm : ln ≤ 120) (F : Nat → Int32) (h6 : u.1 6 = F) (x n : Int32) (h_1 : ¬ n = 1) (h_2 : ¬ n = 2) (h_3 : ¬ n = 3) (h_4 : ¬ n = 4) : CtI l G yX4_feed wsX4_feed (rmO 2 44) [.ref (gad G 0), .int x, .int n] u (PS u 6 F (f_feed ln n) (fun r v => r = nI (ln + n.toNatClampNeg) ∧ v = sI (sI u 5 (apG gCl Y ln x n.toNatClampNeg)) 4 (upd X 1 (nI (ln + n.toNatClampNeg))))) := by
  refine CtI.of (cc := cX4_feed) (maxL := 3) (ret := (some .int)) (own := RX4) (by decide) rfl rfl ?_
  rintro pg ev s0 mm below meth cd ⟨hx, hb, hr, hml, hown, hts, hlocks⟩ hE hP ls hl
  have hS : va_S (gA G) s0.heap s0.heap [] := va_S.rf
  have hl : lv_has ls 3 [(0, .ref (gad G 0)), (1, .int x), (2, .int n)] := hl
  refine lv_iconst (v := 1) hx hb dX4_feed_0 (by decide) ?_
  refine lv_iconst (v := 4) hx hb dX4_feed_1 (by decide) ?_
  refine lv_iload_n hx hb dX4_feed_2 rfl (lv_at hl 2 rfl) ?_
  refine hd_callSi (As := [.int 1, .int 4, .int n]) (rest := []) ⟨hx, hb, hml, hown, hts⟩ hE hP hS (c_X4_isFrom l G u 1 4 n) rfl (va_cwS 3 hts gX4_feed_X4_isFrom rfl rfl rfl (by decide +kernel) ⟨Nat.le_of_ble_eq_true rfl, Nat.le_of_ble_eq_true rfl⟩) rfl hl.1 rfl (Nat.le_of_ble_eq_true rfl) dX4_feed_3 (fun rq_1 vq_1 H locs q_1 hP hS => ?_)
  have hP := hP.cast (q_1.2)
  refine lv_cast q_1.1 ?_
  refine bo_ne (tgt := 16) hx hb dX4_feed_6 (by decide) (fun c_2 => absurd (in14 c_2) (by simp [h_1, h_2, h_3, h_4])) (fun c_2 => ?_)
  refine lv_aload_n hx hb dX4_feed_9 rfl (lv_at hl 0 rfl) ?_
  refine lv_ldc (v := (-1000000001)) hx hb hown (hts (.constant RX4 55 ((-1000000001))) (by decide +kernel)) dX4_feed_10 ?_
  refine hd_callVi (As := [.int (-1000000001)]) (rest := []) ⟨hx, hb, hml, hown, hts⟩ hE hP hS (c_X4_found_0 l G u F h6) rfl (cwV 1 hts gX4_feed_X4_found rfl rfl rfl (by decide +kernel) ⟨Nat.le_of_ble_eq_true rfl, Nat.le_of_ble_eq_true rfl⟩) (do_recv hE hP) rfl hl.1 rfl (Nat.le_of_ble_eq_true rfl) dX4_feed_12 (fun rq_3 vq_3 H locs q_3 hP hS => ?_)
  have hP := hP.cast (q_3.2)
  refine lv_cast q_3.1 ?_
  exact hd_iret hx hb hr hlocks hP hS (PS.bad (-1000000001) (by simp [f_feed, c_2]) (by decide) rfl rfl) dX4_feed_15
theorem c_X4_feed (l : Launch) (G : Geo) (u : Sg) (X Y : Nat → Int32) (h4 : u.1 4 = X) (h5 : u.1 5 = Y) (ln : Nat) (hln : X 1 = nI ln) (hlm : ln ≤ 120) (F : Nat → Int32) (h6 : u.1 6 = F) (x n : Int32) : CtI l G yX4_feed wsX4_feed (rmO 2 44) [.ref (gad G 0), .int x, .int n] u (PS u 6 F (f_feed ln n) (fun r v => r = nI (ln + n.toNatClampNeg) ∧ v = sI (sI u 5 (apG gCl Y ln x n.toNatClampNeg)) 4 (upd X 1 (nI (ln + n.toNatClampNeg))))) := by
  by_cases h_1 : n = 1
  · subst h_1; exact c_X4_feed_1 l G u X Y h4 h5 ln hln hlm F h6 x
  by_cases h_2 : n = 2
  · subst h_2; exact c_X4_feed_2 l G u X Y h4 h5 ln hln hlm F h6 x
  by_cases h_3 : n = 3
  · subst h_3; exact c_X4_feed_3 l G u X Y h4 h5 ln hln hlm F h6 x
  by_cases h_4 : n = 4
  · subst h_4; exact c_X4_feed_4 l G u X Y h4 h5 ln hln hlm F h6 x
  exact c_X4_feed_o l G u X Y h4 h5 ln hln hlm F h6 x n h_1 h_2 h_3 h_4
