set_option maxHeartbeats 4000000 in
set_option maxRecDepth 100000 in
theorem c_X5_isByte (l : Launch) (G : Geo) (u : Sg) (X : Nat → Int32) (ln : Nat) (hl9 : ln ≤ 120) (h14 : u.1 14 = X) (hln : X 6 = nI ln) (k9 : Nat) (hk9 : k9 ≤ 121) (a b : Int32) : CtI l G yX5_isByte wsX5_isByte (rmO 1 23) [.ref (gad G 34), .int (nI k9), .int a, .int b] u (fun r v => r = bI (isB (u.1 16) ln k9 a b) ∧ v = u) := by
  refine CtI.of (cc := cX5_isByte) (maxL := 4) (ret := (some .boolean)) (own := RX5) (by decide) rfl rfl ?_
  rintro pg ev s0 mm below meth cd ⟨hx, hb, hr, hml, hown, hts, hlocks⟩ hE hP ls hl
  have hS : va_S (gA G) s0.heap s0.heap [] := va_S.rf
  have hl : lv_has ls 4 [(0, .ref (gad G 34)), (1, .int (nI k9)), (2, .int a), (3, .int b)] := hl
  have hin5 : ∀ w ∈ wsX50, w ∈ wsX5_isByte := by decide +kernel
  refine lv_iload_n hx hb dX5_isByte_0 rfl (lv_at hl 1 rfl) ?_
  refine lv_aload_n hx hb dX5_isByte_1 rfl (lv_at hl 0 rfl) ?_
  refine mo_get hx hb hts hin5 hown hE hP h14 6 (by decide) (hts (.fieldLink RX5 137 "HeldDoorModel" "taped" "I") (by decide +kernel)) (v := .int (X 6)) rfl dX5_isByte_2 ?_
  refine lv_cast hln ?_
  refine nn_ge (a := k9) (b := ln) (by omega) (by omega) (tgt := 27) hx hb dX5_isByte_5 (by decide) (fun c_1 => ?_) (fun c_1 => ?_)
  · skip
    refine lv_iconst (v := 0) hx hb dX5_isByte_27 (by decide) ?_
    exact hd_zret hx hb hr hlocks hP hS ⟨(by simp [isB, bI, c_1]), rfl⟩ rfl dX5_isByte_28
  · skip
    refine lv_aload_n hx hb dX5_isByte_8 rfl (lv_at hl 0 rfl) ?_
    refine mo_get hx hb hts hin5 hown hE hP h14 5 (by decide) (hts (.fieldLink RX5 22 "HeldDoorModel" "tape" "[I") (by decide +kernel)) (v := .ref (gad G 39)) rfl dX5_isByte_9 ?_
    refine lv_iload_n hx hb dX5_isByte_12 rfl (lv_at hl 1 rfl) ?_
    refine ar_ld hx hb hE hP 39 120 (by decide) (ar_at39 rfl) k9 (by omega) dX5_isByte_13 ?_
    refine lv_i2l hx hb dX5_isByte_14 rfl ?_
    refine lv_iload_n hx hb dX5_isByte_15 rfl (lv_at hl 2 rfl) ?_
    refine lv_iload_n hx hb dX5_isByte_16 rfl (lv_at hl 3 rfl) ?_
    refine hd_callSi (As := [.long (((u.1 16) k9).toInt64), .int a, .int b]) (rest := []) ⟨hx, hb, hml, hown, hts⟩ hE hP hS (c_X5_inI l G u ((u.1 16) k9) a b) rfl (va_cwS 3 hts gX5_isByte_X5_in rfl rfl rfl (by decide +kernel) ⟨Nat.le_of_ble_eq_true rfl, Nat.le_of_ble_eq_true rfl⟩) rfl hl.1 rfl (Nat.le_of_ble_eq_true rfl) dX5_isByte_17 (fun rq_2 vq_2 H locs q_2 hP hS => ?_)
    have hP := hP.cast (q_2.2)
    refine lv_cast q_2.1 ?_
    refine bo_eq (tgt := 27) hx hb dX5_isByte_20 (by decide) (fun c_3 => ?_) (fun c_3 => ?_)
    · skip
      refine lv_iconst (v := 0) hx hb dX5_isByte_27 (by decide) ?_
      exact hd_zret hx hb hr hlocks hP hS ⟨(by simp [isB, bI, c_1, c_3]), rfl⟩ rfl dX5_isByte_28
    · skip
      refine lv_iconst (v := 1) hx hb dX5_isByte_23 (by decide) ?_
      refine lv_goto (tgt := 28) hx hb dX5_isByte_24 (by decide) ?_
      exact hd_zret hx hb hr hlocks hP hS ⟨(by simp [isB, bI, c_1, c_3]), rfl⟩ rfl dX5_isByte_28
