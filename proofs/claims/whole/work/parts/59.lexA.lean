set_option maxHeartbeats 4000000 in
set_option maxRecDepth 100000 in
theorem c_X5_isByte (l : Launch) (G : Geo) (u : Sg) (X T : Nat → Int32) (ln : Nat) (hl9 : ln ≤ 120) (h14 : u.1 14 = X) (h16 : u.1 16 = T) (hln : X 6 = nI ln) (k9 : Nat) (hk9 : k9 ≤ 121) (a b : Int32) : CtI l G yX5_isByte wsX5_isByte (rmO 1 23) [.ref (gad G 34), .int (nI k9), .int a, .int b] u (fun r v => r = bI (isB T ln k9 a b) ∧ v = u) := by
  refine CtI.of (cc := cX5_isByte) (maxL := 4) (ret := (some .boolean)) (own := RX5) (by decide) rfl rfl ?_
  rintro pg ev s0 mm below meth cd ⟨hx, hb, hr, hml, hown, hts, hlocks⟩ hE hP ls hl
  have hS : va_S (gA G) s0.heap s0.heap [] := va_S.rf
  have hl : lv_has ls 4 [(0, .ref (gad G 34)), (1, .int (nI k9)), (2, .int a), (3, .int b)] := hl
  have hin5 : ∀ w ∈ wsX50, w ∈ wsX5_isByte := by decide +kernel
  refine lv_iload_n hx hb dX5_isByte_0 rfl (lv_at hl 1 rfl) ?_
  refine lv_aload_n hx hb dX5_isByte_1 rfl (lv_at hl 0 rfl) ?_
  refine mo_get hx hb hts hin5 hown hE hP h14 6 (by decide) (hts (.fieldLink RX5 137 "HeldDoorModel" "taped" "I") (by decide +kernel)) (v := .int (X 6)) rfl dX5_isByte_2 ?_
  refine lv_cast hln ?_
  refine nn_ge (a := k9) (b := ln) (by omega) (by omega) (tgt := 27) hx hb dX5_isByte_5 (by decide) (fun c_1 => ?_) (fun c_1 => ?_)
  · skip
    refine lv_iconst (v := 0) hx hb dX5_isByte_27 (by decide) ?_
    exact hd_zret hx hb hr hlocks hP hS ⟨(by simp [isB, bI, c_1]), rfl⟩ rfl dX5_isByte_28
  · skip
    refine lv_aload_n hx hb dX5_isByte_8 rfl (lv_at hl 0 rfl) ?_
    refine mo_get hx hb hts hin5 hown hE hP h14 5 (by decide) (hts (.fieldLink RX5 22 "HeldDoorModel" "tape" "[I") (by decide +kernel)) (v := .ref (gad G 39)) rfl dX5_isByte_9 ?_
    refine lv_iload_n hx hb dX5_isByte_12 rfl (lv_at hl 1 rfl) ?_
    refine ar_ld hx hb hE hP 39 120 (by decide) (ar_at39 h16) k9 (by omega) dX5_isByte_13 ?_
    refine lv_i2l hx hb dX5_isByte_14 rfl ?_
    refine lv_iload_n hx hb dX5_isByte_15 rfl (lv_at hl 2 rfl) ?_
    refine lv_iload_n hx hb dX5_isByte_16 rfl (lv_at hl 3 rfl) ?_
    refine hd_callSi (As := [.long ((T k9).toInt64), .int a, .int b]) (rest := []) ⟨hx, hb, hml, hown, hts⟩ hE hP hS (c_X5_inI l G u (T k9) a b) rfl (va_cwS 3 hts gX5_isByte_X5_in rfl rfl rfl (by decide +kernel) ⟨Nat.le_of_ble_eq_true rfl, Nat.le_of_ble_eq_true rfl⟩) rfl hl.1 rfl (Nat.le_of_ble_eq_true rfl) dX5_isByte_17 (fun rq_2 vq_2 H locs q_2 hP hS => ?_)
    have hP := hP.cast (q_2.2)
    refine lv_cast q_2.1 ?_
    refine bo_eq (tgt := 27) hx hb dX5_isByte_20 (by decide) (fun c_3 => ?_) (fun c_3 => ?_)
    · skip
      refine lv_iconst (v := 0) hx hb dX5_isByte_27 (by decide) ?_
      exact hd_zret hx hb hr hlocks hP hS ⟨(by simp [isB, bI, c_1, c_3]), rfl⟩ rfl dX5_isByte_28
    · skip
      refine lv_iconst (v := 1) hx hb dX5_isByte_23 (by decide) ?_
      refine lv_goto (tgt := 28) hx hb dX5_isByte_24 (by decide) ?_
      exact hd_zret hx hb hr hlocks hP hS ⟨(by simp [isB, bI, c_1, c_3]), rfl⟩ rfl dX5_isByte_28
set_option maxHeartbeats 4000000 in
set_option maxRecDepth 100000 in
theorem c_X5_isName (l : Launch) (G : Geo) (u : Sg) (X T : Nat → Int32) (ln : Nat) (hl9 : ln ≤ 120) (h14 : u.1 14 = X) (h16 : u.1 16 = T) (hln : X 6 = nI ln) (b9 : Nat) (hb8 : X 8 = nI b9) (w9 sz : Nat) (hw9 : w9 < 10) (hbs : b9 + sz ≤ ln) : CtI l G yX5_isName wsX5_isName (rmO 0 0) [.ref (gad G 34), .int (nI w9), .int (nI sz)] u (fun r v => r = bI (isN T b9 w9 sz) ∧ v = u) := by
  refine CtI.of (cc := cX5_isName) (maxL := 5) (ret := (some .boolean)) (own := RX5) (by decide) rfl rfl ?_
  rintro pg ev s0 mm below meth cd ⟨hx, hb, hr, hml, hown, hts, hlocks⟩ hE hP ls hl
  have hS : va_S (gA G) s0.heap s0.heap [] := va_S.rf
  have hl : lv_has ls 5 [(0, .ref (gad G 34)), (1, .int (nI w9)), (2, .int (nI sz))] := hl
  have hin5 : ∀ w ∈ wsX50, w ∈ wsX5_isName := by decide +kernel
  refine lv_iload_n hx hb dX5_isName_0 rfl (lv_at hl 2 rfl) ?_
  refine lv_bipush (v := 8) hx hb dX5_isName_1 (by decide) ?_
  refine nn_gt (a := sz) (b := 8) (by omega) (by omega) (tgt := 29) hx hb dX5_isName_3 (by decide) (fun c_1 => ?_) (fun c_1 => ?_)
  · skip
    refine lv_iconst (v := 0) hx hb dX5_isName_29 (by decide) ?_
    refine lv_istore_n (lv' := [(3, .int 0), (0, .ref (gad G 34)), (1, .int (nI w9)), (2, .int (nI sz))]) hx hb dX5_isName_30 rfl hl (by decide) rfl (fun ls hl => ?_)
    refine lv_iconst (v := 0) hx hb dX5_isName_31 (by decide) ?_
    refine lv_istore (lv' := [(4, .int 0), (3, .int 0), (0, .ref (gad G 34)), (1, .int (nI w9)), (2, .int (nI sz))]) hx hb dX5_isName_32 hl (by decide) rfl (fun ls hl => ?_)
    have J34 : ∀ (fu : Nat) (i9 : Bool) (k9 : Nat) (hk : k9 ≤ sz) (h8 : i9 = true → sz ≤ 8) (he : i9 = (nm0 w9 sz && eqN T b9 w9 k9)) (hrk : sz - k9 < fu) (H : Heap) (locs : List Loc) (ls : Array Slot), WP G u H → va_S (gA G) s0.heap H locs → lv_has ls 5 [(0, .ref (gad G 34)), (1, .int (nI w9)), (2, .int (nI sz)), (3, .int (bI i9)), (4, .int (nI k9))] → W pg l ev (headSpec wsX5_isName (rmO 0 0)).room s0 mm ([.ref (gad G 34), .int (nI w9), .int (nI sz)] : List Value).toArray below meth cd H locs 0 0 (MQ below (va_Qi (fun r v => r = bI (isN T b9 w9 sz) ∧ v = u) (fun v t => WP G v t.heap) (gA G)) ([.ref (gad G 34), .int (nI w9), .int (nI sz)] : List Value).toArray s0 0 0 (gA G)) (F0 mm 34 ls []) := by
      intro fu
      induction fu with
      | zero => intro i9 k9 hk h8 he hrk; exact absurd hrk (Nat.not_lt_zero _)
      | succ fu ih34 =>
        intro i9 k9 hk h8 he hrk H locs ls hP hS hl
        refine lv_iload hx hb dX5_isName_34 (lv_at hl 4 rfl) ?_
        refine lv_iload_n hx hb dX5_isName_36 rfl (lv_at hl 2 rfl) ?_
        refine nn_ge (a := k9) (b := sz) (by omega) (by omega) (tgt := 82) hx hb dX5_isName_37 (by decide) (fun c_2 => ?_) (fun c_2 => ?_)
        · skip
          refine lv_iload_n hx hb dX5_isName_82 rfl (lv_at hl 3 rfl) ?_
          exact hd_zret hx hb hr hlocks hP hS ⟨congrArg bI (by first | exact isN_f he (by omega) (by simpa using c_2) | (rw [show k9 = sz by omega] at he; exact he)), rfl⟩ bI_n dX5_isName_83
        · skip
          refine lv_iload_n hx hb dX5_isName_40 rfl (lv_at hl 3 rfl) ?_
          refine bo_eq (tgt := 82) hx hb dX5_isName_41 (by decide) (fun c_3 => ?_) (fun c_3 => ?_)
          · skip
            refine lv_iload_n hx hb dX5_isName_82 rfl (lv_at hl 3 rfl) ?_
            exact hd_zret hx hb hr hlocks hP hS ⟨congrArg bI (by first | exact isN_f he (by omega) (by simpa using c_3) | (rw [show k9 = sz by omega] at he; exact he)), rfl⟩ bI_n dX5_isName_83
          · skip
            refine va_gets hx hb hE.2.2.2.2.1 hS hown (hts (.fieldLink RX5 141 "HeldDoorModel" "NAMES" "[I") (by decide +kernel)) (fun _ h => h) dX5_isName_44 ?_
            refine lv_bipush (v := 8) hx hb dX5_isName_47 (by decide) ?_
            refine lv_iload_n hx hb dX5_isName_49 rfl (lv_at hl 1 rfl) ?_
            refine nn_imul (a := 8) (b := w9) hx hb dX5_isName_50 ?_
            refine lv_iload hx hb dX5_isName_51 (lv_at hl 4 rfl) ?_
            refine nn_iadd (a := 8 * w9) (b := k9) hx hb dX5_isName_53 ?_
            refine nm_ld hx hb hE hS (8 * w9 + k9) (by first | omega | (have h88 := h8 (by first | assumption | simp_all); omega)) dX5_isName_54 ?_
            refine lv_aload_n hx hb dX5_isName_55 rfl (lv_at hl 0 rfl) ?_
            refine mo_get hx hb hts hin5 hown hE hP h14 5 (by decide) (hts (.fieldLink RX5 22 "HeldDoorModel" "tape" "[I") (by decide +kernel)) (v := .ref (gad G 39)) rfl dX5_isName_56 ?_
            refine lv_aload_n hx hb dX5_isName_59 rfl (lv_at hl 0 rfl) ?_
            refine mo_get hx hb hts hin5 hown hE hP h14 8 (by decide) (hts (.fieldLink RX5 144 "HeldDoorModel" "begin" "I") (by decide +kernel)) (v := .int (X 8)) rfl dX5_isName_60 ?_
            refine lv_cast hb8 ?_
            refine lv_iload hx hb dX5_isName_63 (lv_at hl 4 rfl) ?_
            refine nn_iadd (a := b9) (b := k9) hx hb dX5_isName_65 ?_
            refine ar_ld hx hb hE hP 39 120 (by decide) (ar_at39 h16) (b9 + k9) (by first | omega | (have h88 := h8 (by first | assumption | simp_all); omega)) dX5_isName_66 ?_
            refine lv_icmp_ne (tgt := 74) hx hb dX5_isName_67 (by decide) (fun c_4 => ?_) (fun c_4 => ?_)
            · skip
              refine lv_iconst (v := 0) hx hb dX5_isName_74 (by decide) ?_
              refine lv_istore_n (lv' := [(3, .int 0), (0, .ref (gad G 34)), (1, .int (nI w9)), (2, .int (nI sz)), (4, .int (nI k9))]) hx hb dX5_isName_75 rfl hl (by decide) rfl (fun ls hl => ?_)
              refine lv_iinc (v := nI (k9 + 1)) (lv' := [(4, .int (nI (k9 + 1))), (3, .int 0), (0, .ref (gad G 34)), (1, .int (nI w9)), (2, .int (nI sz))]) hx hb dX5_isName_76 hl (k := 4) rfl (inc1 _) (by decide) rfl (fun ls hl => ?_)
              refine lv_goto (tgt := 34) hx hb dX5_isName_79 (by decide) ?_
              exact ih34 false (k9 + 1) (by omega) (by first | (intro q; exact absurd q (by decide)) | (intro _; exact h8 (by simp_all))) (by rw [← isN_s he (by simp_all)]; simp [c_4]) (by omega) _ _ _ hP hS (lv_sub hl [2, 3, 4, 1, 0] rfl)
            · skip
              refine lv_iconst (v := 1) hx hb dX5_isName_70 (by decide) ?_
              refine lv_goto (tgt := 75) hx hb dX5_isName_71 (by decide) ?_
              refine lv_istore_n (lv' := [(3, .int 1), (0, .ref (gad G 34)), (1, .int (nI w9)), (2, .int (nI sz)), (4, .int (nI k9))]) hx hb dX5_isName_75 rfl hl (by decide) rfl (fun ls hl => ?_)
              refine lv_iinc (v := nI (k9 + 1)) (lv' := [(4, .int (nI (k9 + 1))), (3, .int 1), (0, .ref (gad G 34)), (1, .int (nI w9)), (2, .int (nI sz))]) hx hb dX5_isName_76 hl (k := 4) rfl (inc1 _) (by decide) rfl (fun ls hl => ?_)
              refine lv_goto (tgt := 34) hx hb dX5_isName_79 (by decide) ?_
              exact ih34 true (k9 + 1) (by omega) (by first | (intro q; exact absurd q (by decide)) | (intro _; exact h8 (by simp_all))) (by rw [← isN_s he (by simp_all)]; simp [c_4]) (by omega) _ _ _ hP hS (lv_sub hl [2, 3, 4, 1, 0] rfl)
    exact J34 _ false 0 (Nat.zero_le _) (by first | (intro _; omega) | (intro q; exact absurd q (by decide))) (by simp [nm0, eqN, c_1]) (Nat.lt_succ_self _) _ _ _ hP hS (lv_sub hl [2, 3, 4, 1, 0] rfl)
  · skip
    refine lv_iload_n hx hb dX5_isName_6 rfl (lv_at hl 2 rfl) ?_
    refine lv_bipush (v := 8) hx hb dX5_isName_7 (by decide) ?_
    refine nn_eq (a := sz) (b := 8) (by omega) (by omega) (tgt := 25) hx hb dX5_isName_9 (by decide) (fun c_5 => ?_) (fun c_5 => ?_)
    · skip
      refine lv_iconst (v := 1) hx hb dX5_isName_25 (by decide) ?_
      refine lv_goto (tgt := 30) hx hb dX5_isName_26 (by decide) ?_
      refine lv_istore_n (lv' := [(3, .int 1), (0, .ref (gad G 34)), (1, .int (nI w9)), (2, .int (nI sz))]) hx hb dX5_isName_30 rfl hl (by decide) rfl (fun ls hl => ?_)
      refine lv_iconst (v := 0) hx hb dX5_isName_31 (by decide) ?_
      refine lv_istore (lv' := [(4, .int 0), (3, .int 1), (0, .ref (gad G 34)), (1, .int (nI w9)), (2, .int (nI sz))]) hx hb dX5_isName_32 hl (by decide) rfl (fun ls hl => ?_)
      have J34 : ∀ (fu : Nat) (i9 : Bool) (k9 : Nat) (hk : k9 ≤ sz) (h8 : i9 = true → sz ≤ 8) (he : i9 = (nm0 w9 sz && eqN T b9 w9 k9)) (hrk : sz - k9 < fu) (H : Heap) (locs : List Loc) (ls : Array Slot), WP G u H → va_S (gA G) s0.heap H locs → lv_has ls 5 [(0, .ref (gad G 34)), (1, .int (nI w9)), (2, .int (nI sz)), (3, .int (bI i9)), (4, .int (nI k9))] → W pg l ev (headSpec wsX5_isName (rmO 0 0)).room s0 mm ([.ref (gad G 34), .int (nI w9), .int (nI sz)] : List Value).toArray below meth cd H locs 0 0 (MQ below (va_Qi (fun r v => r = bI (isN T b9 w9 sz) ∧ v = u) (fun v t => WP G v t.heap) (gA G)) ([.ref (gad G 34), .int (nI w9), .int (nI sz)] : List Value).toArray s0 0 0 (gA G)) (F0 mm 34 ls []) := by
        intro fu
        induction fu with
        | zero => intro i9 k9 hk h8 he hrk; exact absurd hrk (Nat.not_lt_zero _)
        | succ fu ih34 =>
          intro i9 k9 hk h8 he hrk H locs ls hP hS hl
          refine lv_iload hx hb dX5_isName_34 (lv_at hl 4 rfl) ?_
          refine lv_iload_n hx hb dX5_isName_36 rfl (lv_at hl 2 rfl) ?_
          refine nn_ge (a := k9) (b := sz) (by omega) (by omega) (tgt := 82) hx hb dX5_isName_37 (by decide) (fun c_6 => ?_) (fun c_6 => ?_)
          · skip
            refine lv_iload_n hx hb dX5_isName_82 rfl (lv_at hl 3 rfl) ?_
            exact hd_zret hx hb hr hlocks hP hS ⟨congrArg bI (by first | exact isN_f he (by omega) (by simpa using c_6) | (rw [show k9 = sz by omega] at he; exact he)), rfl⟩ bI_n dX5_isName_83
          · skip
            refine lv_iload_n hx hb dX5_isName_40 rfl (lv_at hl 3 rfl) ?_
            refine bo_eq (tgt := 82) hx hb dX5_isName_41 (by decide) (fun c_7 => ?_) (fun c_7 => ?_)
            · skip
              refine lv_iload_n hx hb dX5_isName_82 rfl (lv_at hl 3 rfl) ?_
              exact hd_zret hx hb hr hlocks hP hS ⟨congrArg bI (by first | exact isN_f he (by omega) (by simpa using c_7) | (rw [show k9 = sz by omega] at he; exact he)), rfl⟩ bI_n dX5_isName_83
            · skip
              refine va_gets hx hb hE.2.2.2.2.1 hS hown (hts (.fieldLink RX5 141 "HeldDoorModel" "NAMES" "[I") (by decide +kernel)) (fun _ h => h) dX5_isName_44 ?_
              refine lv_bipush (v := 8) hx hb dX5_isName_47 (by decide) ?_
              refine lv_iload_n hx hb dX5_isName_49 rfl (lv_at hl 1 rfl) ?_
              refine nn_imul (a := 8) (b := w9) hx hb dX5_isName_50 ?_
              refine lv_iload hx hb dX5_isName_51 (lv_at hl 4 rfl) ?_
              refine nn_iadd (a := 8 * w9) (b := k9) hx hb dX5_isName_53 ?_
              refine nm_ld hx hb hE hS (8 * w9 + k9) (by first | omega | (have h88 := h8 (by first | assumption | simp_all); omega)) dX5_isName_54 ?_
              refine lv_aload_n hx hb dX5_isName_55 rfl (lv_at hl 0 rfl) ?_
              refine mo_get hx hb hts hin5 hown hE hP h14 5 (by decide) (hts (.fieldLink RX5 22 "HeldDoorModel" "tape" "[I") (by decide +kernel)) (v := .ref (gad G 39)) rfl dX5_isName_56 ?_
              refine lv_aload_n hx hb dX5_isName_59 rfl (lv_at hl 0 rfl) ?_
              refine mo_get hx hb hts hin5 hown hE hP h14 8 (by decide) (hts (.fieldLink RX5 144 "HeldDoorModel" "begin" "I") (by decide +kernel)) (v := .int (X 8)) rfl dX5_isName_60 ?_
              refine lv_cast hb8 ?_
              refine lv_iload hx hb dX5_isName_63 (lv_at hl 4 rfl) ?_
              refine nn_iadd (a := b9) (b := k9) hx hb dX5_isName_65 ?_
              refine ar_ld hx hb hE hP 39 120 (by decide) (ar_at39 h16) (b9 + k9) (by first | omega | (have h88 := h8 (by first | assumption | simp_all); omega)) dX5_isName_66 ?_
              refine lv_icmp_ne (tgt := 74) hx hb dX5_isName_67 (by decide) (fun c_8 => ?_) (fun c_8 => ?_)
              · skip
                refine lv_iconst (v := 0) hx hb dX5_isName_74 (by decide) ?_
                refine lv_istore_n (lv' := [(3, .int 0), (0, .ref (gad G 34)), (1, .int (nI w9)), (2, .int (nI sz)), (4, .int (nI k9))]) hx hb dX5_isName_75 rfl hl (by decide) rfl (fun ls hl => ?_)
                refine lv_iinc (v := nI (k9 + 1)) (lv' := [(4, .int (nI (k9 + 1))), (3, .int 0), (0, .ref (gad G 34)), (1, .int (nI w9)), (2, .int (nI sz))]) hx hb dX5_isName_76 hl (k := 4) rfl (inc1 _) (by decide) rfl (fun ls hl => ?_)
                refine lv_goto (tgt := 34) hx hb dX5_isName_79 (by decide) ?_
                exact ih34 false (k9 + 1) (by omega) (by first | (intro q; exact absurd q (by decide)) | (intro _; exact h8 (by simp_all))) (by rw [← isN_s he (by simp_all)]; simp [c_8]) (by omega) _ _ _ hP hS (lv_sub hl [2, 3, 4, 1, 0] rfl)
              · skip
                refine lv_iconst (v := 1) hx hb dX5_isName_70 (by decide) ?_
                refine lv_goto (tgt := 75) hx hb dX5_isName_71 (by decide) ?_
                refine lv_istore_n (lv' := [(3, .int 1), (0, .ref (gad G 34)), (1, .int (nI w9)), (2, .int (nI sz)), (4, .int (nI k9))]) hx hb dX5_isName_75 rfl hl (by decide) rfl (fun ls hl => ?_)
                refine lv_iinc (v := nI (k9 + 1)) (lv' := [(4, .int (nI (k9 + 1))), (3, .int 1), (0, .ref (gad G 34)), (1, .int (nI w9)), (2, .int (nI sz))]) hx hb dX5_isName_76 hl (k := 4) rfl (inc1 _) (by decide) rfl (fun ls hl => ?_)
                refine lv_goto (tgt := 34) hx hb dX5_isName_79 (by decide) ?_
                exact ih34 true (k9 + 1) (by omega) (by first | (intro q; exact absurd q (by decide)) | (intro _; exact h8 (by simp_all))) (by rw [← isN_s he (by simp_all)]; simp [c_8]) (by omega) _ _ _ hP hS (lv_sub hl [2, 3, 4, 1, 0] rfl)
      exact J34 _ true 0 (Nat.zero_le _) (by first | (intro _; omega) | (intro q; exact absurd q (by decide))) (by simp [nm0, eqN, c_1, c_5]) (Nat.lt_succ_self _) _ _ _ hP hS (lv_sub hl [2, 3, 4, 1, 0] rfl)
    · skip
      refine va_gets hx hb hE.2.2.2.2.1 hS hown (hts (.fieldLink RX5 141 "HeldDoorModel" "NAMES" "[I") (by decide +kernel)) (fun _ h => h) dX5_isName_12 ?_
      refine lv_bipush (v := 8) hx hb dX5_isName_15 (by decide) ?_
      refine lv_iload_n hx hb dX5_isName_17 rfl (lv_at hl 1 rfl) ?_
      refine nn_imul (a := 8) (b := w9) hx hb dX5_isName_18 ?_
      refine lv_iload_n hx hb dX5_isName_19 rfl (lv_at hl 2 rfl) ?_
      refine nn_iadd (a := 8 * w9) (b := sz) hx hb dX5_isName_20 ?_
      refine nm_ld hx hb hE hS (8 * w9 + sz) (by first | omega | (have h88 := h8 (by first | assumption | simp_all); omega)) dX5_isName_21 ?_
      refine lv_if_ne (tgt := 29) hx hb dX5_isName_22 (by decide) (fun c_9 => ?_) (fun c_9 => ?_)
      · skip
        refine lv_iconst (v := 0) hx hb dX5_isName_29 (by decide) ?_
        refine lv_istore_n (lv' := [(3, .int 0), (0, .ref (gad G 34)), (1, .int (nI w9)), (2, .int (nI sz))]) hx hb dX5_isName_30 rfl hl (by decide) rfl (fun ls hl => ?_)
        refine lv_iconst (v := 0) hx hb dX5_isName_31 (by decide) ?_
        refine lv_istore (lv' := [(4, .int 0), (3, .int 0), (0, .ref (gad G 34)), (1, .int (nI w9)), (2, .int (nI sz))]) hx hb dX5_isName_32 hl (by decide) rfl (fun ls hl => ?_)
        have J34 : ∀ (fu : Nat) (i9 : Bool) (k9 : Nat) (hk : k9 ≤ sz) (h8 : i9 = true → sz ≤ 8) (he : i9 = (nm0 w9 sz && eqN T b9 w9 k9)) (hrk : sz - k9 < fu) (H : Heap) (locs : List Loc) (ls : Array Slot), WP G u H → va_S (gA G) s0.heap H locs → lv_has ls 5 [(0, .ref (gad G 34)), (1, .int (nI w9)), (2, .int (nI sz)), (3, .int (bI i9)), (4, .int (nI k9))] → W pg l ev (headSpec wsX5_isName (rmO 0 0)).room s0 mm ([.ref (gad G 34), .int (nI w9), .int (nI sz)] : List Value).toArray below meth cd H locs 0 0 (MQ below (va_Qi (fun r v => r = bI (isN T b9 w9 sz) ∧ v = u) (fun v t => WP G v t.heap) (gA G)) ([.ref (gad G 34), .int (nI w9), .int (nI sz)] : List Value).toArray s0 0 0 (gA G)) (F0 mm 34 ls []) := by
          intro fu
          induction fu with
          | zero => intro i9 k9 hk h8 he hrk; exact absurd hrk (Nat.not_lt_zero _)
          | succ fu ih34 =>
            intro i9 k9 hk h8 he hrk H locs ls hP hS hl
            refine lv_iload hx hb dX5_isName_34 (lv_at hl 4 rfl) ?_
            refine lv_iload_n hx hb dX5_isName_36 rfl (lv_at hl 2 rfl) ?_
            refine nn_ge (a := k9) (b := sz) (by omega) (by omega) (tgt := 82) hx hb dX5_isName_37 (by decide) (fun c_10 => ?_) (fun c_10 => ?_)
            · skip
              refine lv_iload_n hx hb dX5_isName_82 rfl (lv_at hl 3 rfl) ?_
              exact hd_zret hx hb hr hlocks hP hS ⟨congrArg bI (by first | exact isN_f he (by omega) (by simpa using c_10) | (rw [show k9 = sz by omega] at he; exact he)), rfl⟩ bI_n dX5_isName_83
            · skip
              refine lv_iload_n hx hb dX5_isName_40 rfl (lv_at hl 3 rfl) ?_
              refine bo_eq (tgt := 82) hx hb dX5_isName_41 (by decide) (fun c_11 => ?_) (fun c_11 => ?_)
              · skip
                refine lv_iload_n hx hb dX5_isName_82 rfl (lv_at hl 3 rfl) ?_
                exact hd_zret hx hb hr hlocks hP hS ⟨congrArg bI (by first | exact isN_f he (by omega) (by simpa using c_11) | (rw [show k9 = sz by omega] at he; exact he)), rfl⟩ bI_n dX5_isName_83
              · skip
                refine va_gets hx hb hE.2.2.2.2.1 hS hown (hts (.fieldLink RX5 141 "HeldDoorModel" "NAMES" "[I") (by decide +kernel)) (fun _ h => h) dX5_isName_44 ?_
                refine lv_bipush (v := 8) hx hb dX5_isName_47 (by decide) ?_
                refine lv_iload_n hx hb dX5_isName_49 rfl (lv_at hl 1 rfl) ?_
                refine nn_imul (a := 8) (b := w9) hx hb dX5_isName_50 ?_
                refine lv_iload hx hb dX5_isName_51 (lv_at hl 4 rfl) ?_
                refine nn_iadd (a := 8 * w9) (b := k9) hx hb dX5_isName_53 ?_
                refine nm_ld hx hb hE hS (8 * w9 + k9) (by first | omega | (have h88 := h8 (by first | assumption | simp_all); omega)) dX5_isName_54 ?_
                refine lv_aload_n hx hb dX5_isName_55 rfl (lv_at hl 0 rfl) ?_
                refine mo_get hx hb hts hin5 hown hE hP h14 5 (by decide) (hts (.fieldLink RX5 22 "HeldDoorModel" "tape" "[I") (by decide +kernel)) (v := .ref (gad G 39)) rfl dX5_isName_56 ?_
                refine lv_aload_n hx hb dX5_isName_59 rfl (lv_at hl 0 rfl) ?_
                refine mo_get hx hb hts hin5 hown hE hP h14 8 (by decide) (hts (.fieldLink RX5 144 "HeldDoorModel" "begin" "I") (by decide +kernel)) (v := .int (X 8)) rfl dX5_isName_60 ?_
                refine lv_cast hb8 ?_
                refine lv_iload hx hb dX5_isName_63 (lv_at hl 4 rfl) ?_
                refine nn_iadd (a := b9) (b := k9) hx hb dX5_isName_65 ?_
                refine ar_ld hx hb hE hP 39 120 (by decide) (ar_at39 h16) (b9 + k9) (by first | omega | (have h88 := h8 (by first | assumption | simp_all); omega)) dX5_isName_66 ?_
                refine lv_icmp_ne (tgt := 74) hx hb dX5_isName_67 (by decide) (fun c_12 => ?_) (fun c_12 => ?_)
                · skip
                  refine lv_iconst (v := 0) hx hb dX5_isName_74 (by decide) ?_
                  refine lv_istore_n (lv' := [(3, .int 0), (0, .ref (gad G 34)), (1, .int (nI w9)), (2, .int (nI sz)), (4, .int (nI k9))]) hx hb dX5_isName_75 rfl hl (by decide) rfl (fun ls hl => ?_)
                  refine lv_iinc (v := nI (k9 + 1)) (lv' := [(4, .int (nI (k9 + 1))), (3, .int 0), (0, .ref (gad G 34)), (1, .int (nI w9)), (2, .int (nI sz))]) hx hb dX5_isName_76 hl (k := 4) rfl (inc1 _) (by decide) rfl (fun ls hl => ?_)
                  refine lv_goto (tgt := 34) hx hb dX5_isName_79 (by decide) ?_
                  exact ih34 false (k9 + 1) (by omega) (by first | (intro q; exact absurd q (by decide)) | (intro _; exact h8 (by simp_all))) (by rw [← isN_s he (by simp_all)]; simp [c_12]) (by omega) _ _ _ hP hS (lv_sub hl [2, 3, 4, 1, 0] rfl)
                · skip
                  refine lv_iconst (v := 1) hx hb dX5_isName_70 (by decide) ?_
                  refine lv_goto (tgt := 75) hx hb dX5_isName_71 (by decide) ?_
                  refine lv_istore_n (lv' := [(3, .int 1), (0, .ref (gad G 34)), (1, .int (nI w9)), (2, .int (nI sz)), (4, .int (nI k9))]) hx hb dX5_isName_75 rfl hl (by decide) rfl (fun ls hl => ?_)
                  refine lv_iinc (v := nI (k9 + 1)) (lv' := [(4, .int (nI (k9 + 1))), (3, .int 1), (0, .ref (gad G 34)), (1, .int (nI w9)), (2, .int (nI sz))]) hx hb dX5_isName_76 hl (k := 4) rfl (inc1 _) (by decide) rfl (fun ls hl => ?_)
                  refine lv_goto (tgt := 34) hx hb dX5_isName_79 (by decide) ?_
                  exact ih34 true (k9 + 1) (by omega) (by first | (intro q; exact absurd q (by decide)) | (intro _; exact h8 (by simp_all))) (by rw [← isN_s he (by simp_all)]; simp [c_12]) (by omega) _ _ _ hP hS (lv_sub hl [2, 3, 4, 1, 0] rfl)
        exact J34 _ false 0 (Nat.zero_le _) (by first | (intro _; omega) | (intro q; exact absurd q (by decide))) (by simp [nm0, eqN, c_1, c_5, c_9]) (Nat.lt_succ_self _) _ _ _ hP hS (lv_sub hl [2, 3, 4, 1, 0] rfl)
      · skip
        refine lv_iconst (v := 1) hx hb dX5_isName_25 (by decide) ?_
        refine lv_goto (tgt := 30) hx hb dX5_isName_26 (by decide) ?_
        refine lv_istore_n (lv' := [(3, .int 1), (0, .ref (gad G 34)), (1, .int (nI w9)), (2, .int (nI sz))]) hx hb dX5_isName_30 rfl hl (by decide) rfl (fun ls hl => ?_)
        refine lv_iconst (v := 0) hx hb dX5_isName_31 (by decide) ?_
        refine lv_istore (lv' := [(4, .int 0), (3, .int 1), (0, .ref (gad G 34)), (1, .int (nI w9)), (2, .int (nI sz))]) hx hb dX5_isName_32 hl (by decide) rfl (fun ls hl => ?_)
        have J34 : ∀ (fu : Nat) (i9 : Bool) (k9 : Nat) (hk : k9 ≤ sz) (h8 : i9 = true → sz ≤ 8) (he : i9 = (nm0 w9 sz && eqN T b9 w9 k9)) (hrk : sz - k9 < fu) (H : Heap) (locs : List Loc) (ls : Array Slot), WP G u H → va_S (gA G) s0.heap H locs → lv_has ls 5 [(0, .ref (gad G 34)), (1, .int (nI w9)), (2, .int (nI sz)), (3, .int (bI i9)), (4, .int (nI k9))] → W pg l ev (headSpec wsX5_isName (rmO 0 0)).room s0 mm ([.ref (gad G 34), .int (nI w9), .int (nI sz)] : List Value).toArray below meth cd H locs 0 0 (MQ below (va_Qi (fun r v => r = bI (isN T b9 w9 sz) ∧ v = u) (fun v t => WP G v t.heap) (gA G)) ([.ref (gad G 34), .int (nI w9), .int (nI sz)] : List Value).toArray s0 0 0 (gA G)) (F0 mm 34 ls []) := by
          intro fu
          induction fu with
          | zero => intro i9 k9 hk h8 he hrk; exact absurd hrk (Nat.not_lt_zero _)
          | succ fu ih34 =>
            intro i9 k9 hk h8 he hrk H locs ls hP hS hl
            refine lv_iload hx hb dX5_isName_34 (lv_at hl 4 rfl) ?_
            refine lv_iload_n hx hb dX5_isName_36 rfl (lv_at hl 2 rfl) ?_
            refine nn_ge (a := k9) (b := sz) (by omega) (by omega) (tgt := 82) hx hb dX5_isName_37 (by decide) (fun c_13 => ?_) (fun c_13 => ?_)
            · skip
              refine lv_iload_n hx hb dX5_isName_82 rfl (lv_at hl 3 rfl) ?_
              exact hd_zret hx hb hr hlocks hP hS ⟨congrArg bI (by first | exact isN_f he (by omega) (by simpa using c_13) | (rw [show k9 = sz by omega] at he; exact he)), rfl⟩ bI_n dX5_isName_83
            · skip
              refine lv_iload_n hx hb dX5_isName_40 rfl (lv_at hl 3 rfl) ?_
              refine bo_eq (tgt := 82) hx hb dX5_isName_41 (by decide) (fun c_14 => ?_) (fun c_14 => ?_)
              · skip
                refine lv_iload_n hx hb dX5_isName_82 rfl (lv_at hl 3 rfl) ?_
                exact hd_zret hx hb hr hlocks hP hS ⟨congrArg bI (by first | exact isN_f he (by omega) (by simpa using c_14) | (rw [show k9 = sz by omega] at he; exact he)), rfl⟩ bI_n dX5_isName_83
              · skip
                refine va_gets hx hb hE.2.2.2.2.1 hS hown (hts (.fieldLink RX5 141 "HeldDoorModel" "NAMES" "[I") (by decide +kernel)) (fun _ h => h) dX5_isName_44 ?_
                refine lv_bipush (v := 8) hx hb dX5_isName_47 (by decide) ?_
                refine lv_iload_n hx hb dX5_isName_49 rfl (lv_at hl 1 rfl) ?_
                refine nn_imul (a := 8) (b := w9) hx hb dX5_isName_50 ?_
                refine lv_iload hx hb dX5_isName_51 (lv_at hl 4 rfl) ?_
                refine nn_iadd (a := 8 * w9) (b := k9) hx hb dX5_isName_53 ?_
                refine nm_ld hx hb hE hS (8 * w9 + k9) (by first | omega | (have h88 := h8 (by first | assumption | simp_all); omega)) dX5_isName_54 ?_
                refine lv_aload_n hx hb dX5_isName_55 rfl (lv_at hl 0 rfl) ?_
                refine mo_get hx hb hts hin5 hown hE hP h14 5 (by decide) (hts (.fieldLink RX5 22 "HeldDoorModel" "tape" "[I") (by decide +kernel)) (v := .ref (gad G 39)) rfl dX5_isName_56 ?_
                refine lv_aload_n hx hb dX5_isName_59 rfl (lv_at hl 0 rfl) ?_
                refine mo_get hx hb hts hin5 hown hE hP h14 8 (by decide) (hts (.fieldLink RX5 144 "HeldDoorModel" "begin" "I") (by decide +kernel)) (v := .int (X 8)) rfl dX5_isName_60 ?_
                refine lv_cast hb8 ?_
                refine lv_iload hx hb dX5_isName_63 (lv_at hl 4 rfl) ?_
                refine nn_iadd (a := b9) (b := k9) hx hb dX5_isName_65 ?_
                refine ar_ld hx hb hE hP 39 120 (by decide) (ar_at39 h16) (b9 + k9) (by first | omega | (have h88 := h8 (by first | assumption | simp_all); omega)) dX5_isName_66 ?_
                refine lv_icmp_ne (tgt := 74) hx hb dX5_isName_67 (by decide) (fun c_15 => ?_) (fun c_15 => ?_)
                · skip
                  refine lv_iconst (v := 0) hx hb dX5_isName_74 (by decide) ?_
                  refine lv_istore_n (lv' := [(3, .int 0), (0, .ref (gad G 34)), (1, .int (nI w9)), (2, .int (nI sz)), (4, .int (nI k9))]) hx hb dX5_isName_75 rfl hl (by decide) rfl (fun ls hl => ?_)
                  refine lv_iinc (v := nI (k9 + 1)) (lv' := [(4, .int (nI (k9 + 1))), (3, .int 0), (0, .ref (gad G 34)), (1, .int (nI w9)), (2, .int (nI sz))]) hx hb dX5_isName_76 hl (k := 4) rfl (inc1 _) (by decide) rfl (fun ls hl => ?_)
                  refine lv_goto (tgt := 34) hx hb dX5_isName_79 (by decide) ?_
                  exact ih34 false (k9 + 1) (by omega) (by first | (intro q; exact absurd q (by decide)) | (intro _; exact h8 (by simp_all))) (by rw [← isN_s he (by simp_all)]; simp [c_15]) (by omega) _ _ _ hP hS (lv_sub hl [2, 3, 4, 1, 0] rfl)
                · skip
                  refine lv_iconst (v := 1) hx hb dX5_isName_70 (by decide) ?_
                  refine lv_goto (tgt := 75) hx hb dX5_isName_71 (by decide) ?_
                  refine lv_istore_n (lv' := [(3, .int 1), (0, .ref (gad G 34)), (1, .int (nI w9)), (2, .int (nI sz)), (4, .int (nI k9))]) hx hb dX5_isName_75 rfl hl (by decide) rfl (fun ls hl => ?_)
                  refine lv_iinc (v := nI (k9 + 1)) (lv' := [(4, .int (nI (k9 + 1))), (3, .int 1), (0, .ref (gad G 34)), (1, .int (nI w9)), (2, .int (nI sz))]) hx hb dX5_isName_76 hl (k := 4) rfl (inc1 _) (by decide) rfl (fun ls hl => ?_)
                  refine lv_goto (tgt := 34) hx hb dX5_isName_79 (by decide) ?_
                  exact ih34 true (k9 + 1) (by omega) (by first | (intro q; exact absurd q (by decide)) | (intro _; exact h8 (by simp_all))) (by rw [← isN_s he (by simp_all)]; simp [c_15]) (by omega) _ _ _ hP hS (lv_sub hl [2, 3, 4, 1, 0] rfl)
        exact J34 _ true 0 (Nat.zero_le _) (by first | (intro _; omega) | (intro q; exact absurd q (by decide))) (by simp [nm0, eqN, c_1, c_5, c_9]) (Nat.lt_succ_self _) _ _ _ hP hS (lv_sub hl [2, 3, 4, 1, 0] rfl)
set_option maxHeartbeats 4000000 in
set_option maxRecDepth 100000 in
theorem c_X5_wordHere (l : Launch) (G : Geo) (u : Sg) (X T : Nat → Int32) (ln : Nat) (hl9 : ln ≤ 120) (h14 : u.1 14 = X) (h16 : u.1 16 = T) (hln : X 6 = nI ln) (b9 a9 : Nat) (hb8 : X 8 = nI b9) (ha8 : X 9 = nI a9) (hba : b9 ≤ a9) (hal : a9 ≤ ln) : CtI l G yX5_wordHere wsX5_wordHere (rmO 1 24) [.ref (gad G 34)] u (fun r v => r = nI (wdH T b9 (a9 - b9)) ∧ v = u) := by
  refine CtI.of (cc := cX5_wordHere) (maxL := 2) (ret := (some .int)) (own := RX5) (by decide) rfl rfl ?_
  rintro pg ev s0 mm below meth cd ⟨hx, hb, hr, hml, hown, hts, hlocks⟩ hE hP ls hl
  have hS : va_S (gA G) s0.heap s0.heap [] := va_S.rf
  have hl : lv_has ls 2 [(0, .ref (gad G 34))] := hl
  have hin5 : ∀ w ∈ wsX50, w ∈ wsX5_wordHere := by decide +kernel
  refine lv_iconst (v := 0) hx hb dX5_wordHere_0 (by decide) ?_
  refine lv_istore_n (lv' := [(1, .int 0), (0, .ref (gad G 34))]) hx hb dX5_wordHere_1 rfl hl (by decide) rfl (fun ls hl => ?_)
  have J2 : ∀ (fu : Nat) (w9 : Nat) (hw : w9 ≤ 10) (he : wdH T b9 (a9 - b9) = wdG T b9 (a9 - b9) (10 - w9) w9) (hrk : 10 - w9 < fu) (H : Heap) (locs : List Loc) (ls : Array Slot), WP G u H → va_S (gA G) s0.heap H locs → lv_has ls 2 [(0, .ref (gad G 34)), (1, .int (nI w9))] → W pg l ev (headSpec wsX5_wordHere (rmO 1 24)).room s0 mm ([.ref (gad G 34)] : List Value).toArray below meth cd H locs 0 0 (MQ below (va_Qi (fun r v => r = nI (wdH T b9 (a9 - b9)) ∧ v = u) (fun v t => WP G v t.heap) (gA G)) ([.ref (gad G 34)] : List Value).toArray s0 0 0 (gA G)) (F0 mm 2 ls []) := by
    intro fu
    induction fu with
    | zero => intro w9 hw he hrk; exact absurd hrk (Nat.not_lt_zero _)
    | succ fu ih2 =>
      intro w9 hw he hrk H locs ls hP hS hl
      refine lv_iload_n hx hb dX5_wordHere_2 rfl (lv_at hl 1 rfl) ?_
      refine lv_bipush (v := 10) hx hb dX5_wordHere_3 (by decide) ?_
      refine nn_ge (a := w9) (b := 10) (by omega) (by omega) (tgt := 31) hx hb dX5_wordHere_5 (by decide) (fun c_1 => ?_) (fun c_1 => ?_)
      · skip
        refine lv_iload_n hx hb dX5_wordHere_31 rfl (lv_at hl 1 rfl) ?_
        refine lv_bipush (v := 10) hx hb dX5_wordHere_32 (by decide) ?_
        refine nn_ge (a := w9) (b := 10) (by omega) (by omega) (tgt := 41) hx hb dX5_wordHere_34 (by decide) (fun c_2 => ?_) (fun c_2 => ?_)
        · skip
          refine lv_bipush (v := 23) hx hb dX5_wordHere_41 (by decide) ?_
          exact hd_iret hx hb hr hlocks hP hS ⟨(by rw [show wdH T b9 (a9 - b9) = 23 from he.trans (by first | (exfalso; omega) | exact wdG_0 (by omega) | exact wdG_t (by omega) (by first | assumption | simp_all))]; rfl), rfl⟩ dX5_wordHere_43
        · skip
          refine lv_iload_n hx hb dX5_wordHere_37 rfl (lv_at hl 1 rfl) ?_
          refine lv_goto (tgt := 43) hx hb dX5_wordHere_38 (by decide) ?_
          exact hd_iret hx hb hr hlocks hP hS ⟨(by rw [show wdH T b9 (a9 - b9) = w9 from he.trans (by first | (exfalso; omega) | exact wdG_0 (by omega) | exact wdG_t (by omega) (by first | assumption | simp_all))]), rfl⟩ dX5_wordHere_43
      · skip
        refine lv_aload_n hx hb dX5_wordHere_8 rfl (lv_at hl 0 rfl) ?_
        refine lv_iload_n hx hb dX5_wordHere_9 rfl (lv_at hl 1 rfl) ?_
        refine lv_aload_n hx hb dX5_wordHere_10 rfl (lv_at hl 0 rfl) ?_
        refine mo_get hx hb hts hin5 hown hE hP h14 9 (by decide) (hts (.fieldLink RX5 147 "HeldDoorModel" "at" "I") (by decide +kernel)) (v := .int (X 9)) rfl dX5_wordHere_11 ?_
        refine lv_cast ha8 ?_
        refine lv_aload_n hx hb dX5_wordHere_14 rfl (lv_at hl 0 rfl) ?_
        refine mo_get hx hb hts hin5 hown hE hP h14 8 (by decide) (hts (.fieldLink RX5 144 "HeldDoorModel" "begin" "I") (by decide +kernel)) (v := .int (X 8)) rfl dX5_wordHere_15 ?_
        refine lv_cast hb8 ?_
        refine lv_isub hx hb dX5_wordHere_18 ?_
        refine lv_cast (pk_sub (by omega)) ?_
        refine hd_callVi (As := [.int (nI w9), .int (nI (a9 - b9))]) (rest := []) ⟨hx, hb, hml, hown, hts⟩ hE hP hS (c_X5_isName l G u X T ln hl9 h14 h16 hln b9 hb8 w9 (a9 - b9) (by omega) (by omega)) rfl (cwV 2 hts gX5_wordHere_X5_isName rfl rfl rfl (by decide +kernel) ⟨Nat.le_of_ble_eq_true rfl, Nat.le_of_ble_eq_true rfl⟩) (mo_recv hE hP) rfl hl.1 rfl (Nat.le_of_ble_eq_true rfl) dX5_wordHere_19 (fun rq_3 vq_3 H locs q_3 hP hS => ?_)
        have hP := hP.cast (q_3.2)
        refine lv_cast q_3.1 ?_
        refine bo_ne (tgt := 31) hx hb dX5_wordHere_22 (by decide) (fun c_4 => ?_) (fun c_4 => ?_)
        · skip
          refine lv_iload_n hx hb dX5_wordHere_31 rfl (lv_at hl 1 rfl) ?_
          refine lv_bipush (v := 10) hx hb dX5_wordHere_32 (by decide) ?_
          refine nn_ge (a := w9) (b := 10) (by omega) (by omega) (tgt := 41) hx hb dX5_wordHere_34 (by decide) (fun c_5 => ?_) (fun c_5 => ?_)
          · skip
            refine lv_bipush (v := 23) hx hb dX5_wordHere_41 (by decide) ?_
            exact hd_iret hx hb hr hlocks hP hS ⟨(by rw [show wdH T b9 (a9 - b9) = 23 from he.trans (by first | (exfalso; omega) | exact wdG_0 (by omega) | exact wdG_t (by omega) (by first | assumption | simp_all))]; rfl), rfl⟩ dX5_wordHere_43
          · skip
            refine lv_iload_n hx hb dX5_wordHere_37 rfl (lv_at hl 1 rfl) ?_
            refine lv_goto (tgt := 43) hx hb dX5_wordHere_38 (by decide) ?_
            exact hd_iret hx hb hr hlocks hP hS ⟨(by rw [show wdH T b9 (a9 - b9) = w9 from he.trans (by first | (exfalso; omega) | exact wdG_0 (by omega) | exact wdG_t (by omega) (by first | assumption | simp_all))]), rfl⟩ dX5_wordHere_43
        · skip
          refine lv_iinc (v := nI (w9 + 1)) (lv' := [(1, .int (nI (w9 + 1))), (0, .ref (gad G 34))]) hx hb dX5_wordHere_25 hl (k := 1) rfl (inc1 _) (by decide) rfl (fun ls hl => ?_)
          refine lv_goto (tgt := 2) hx hb dX5_wordHere_28 (by decide) ?_
          exact ih2 (w9 + 1) (by omega) (he.trans (wdG_f (by omega) (by first | assumption | simp_all))) (by omega) _ _ _ hP hS (lv_sub hl [1, 0] rfl)
  exact J2 _ 0 (by omega) rfl (Nat.lt_succ_self _) _ _ _ hP hS (lv_sub hl [1, 0] rfl)
set_option maxHeartbeats 4000000 in
set_option maxRecDepth 100000 in
theorem c_X5_reads (l : Launch) (G : Geo) (u : Sg) (X T : Nat → Int32) (ln : Nat) (hl9 : ln ≤ 120) (h14 : u.1 14 = X) (h16 : u.1 16 = T) (hln : X 6 = nI ln) (a9 : Nat) (ha8 : X 9 = nI a9) (hal : a9 ≤ ln) : CtV l G yX5_reads wsX5_reads (rmO 2 46) [.ref (gad G 34)] u (fun v => v = sI u 14 (rdX X (lexR T ln a9))) := by
  refine CtV.of (cc := cX5_reads) (maxL := 1) (ret := none) (own := RX5) (by decide) rfl rfl ?_
  rintro pg ev s0 mm below meth cd ⟨hx, hb, hr, hml, hown, hts, hlocks⟩ hE hP ls hl
  have hS : va_S (gA G) s0.heap s0.heap [] := va_S.rf
  have hl : lv_has ls 1 [(0, .ref (gad G 34))] := hl
  have hin5 : ∀ w ∈ wsX50, w ∈ wsX5_reads := by decide +kernel
  have J0 : ∀ (fu : Nat) (k9 : Nat) (hk : k9 ≤ ln) (he : runE T ln 32 32 a9 = runE T ln 32 32 k9) (hrk : ln - k9 < fu) (H : Heap) (locs : List Loc) (ls : Array Slot), WP G (sI u 14 (upd X 9 (nI k9))) H → va_S (gA G) s0.heap H locs → lv_has ls 1 [(0, .ref (gad G 34))] → W pg l ev (headSpec wsX5_reads (rmO 2 46)).room s0 mm ([.ref (gad G 34)] : List Value).toArray below meth cd H locs 0 0 (MQ below (va_Qv (fun v => v = sI u 14 (rdX X (lexR T ln a9))) (fun v t => WP G v t.heap) (gA G)) ([.ref (gad G 34)] : List Value).toArray s0 0 0 (gA G)) (F0 mm 0 ls []) := by
    intro fu
    induction fu with
    | zero => intro k9 hk he hrk; exact absurd hrk (Nat.not_lt_zero _)
    | succ fu ih0 =>
      intro k9 hk he hrk H locs ls hP hS hl
      refine lv_aload_n hx hb dX5_reads_0 rfl (lv_at hl 0 rfl) ?_
      refine lv_aload_n hx hb dX5_reads_1 rfl (lv_at hl 0 rfl) ?_
      refine mo_get hx hb hts hin5 hown hE hP (sI_at _ _ _) 9 (by decide) (hts (.fieldLink RX5 147 "HeldDoorModel" "at" "I") (by decide +kernel)) (v := .int ((upd X 9 (nI k9)) 9)) rfl dX5_reads_2 ?_
      refine lv_cast (y := nI k9) (by rw [up_at]) ?_
      refine lv_bipush (v := 32) hx hb dX5_reads_5 (by decide) ?_
      refine lv_bipush (v := 32) hx hb dX5_reads_7 (by decide) ?_
      refine hd_callVi (As := [.int (nI k9), .int 32, .int 32]) (rest := []) ⟨hx, hb, hml, hown, hts⟩ hE hP hS (c_X5_isByte l G (sI u 14 (upd X 9 (nI k9))) (upd X 9 (nI k9)) T ln hl9 (sI_at _ _ _) ((sI_ne _ _ (by decide)).trans h16) (by rw [up_ne _ _ (by omega)]; exact hln) k9 (by omega) 32 32) rfl (cwV 3 hts gX5_reads_X5_isByte rfl rfl rfl (by decide +kernel) ⟨Nat.le_of_ble_eq_true rfl, Nat.le_of_ble_eq_true rfl⟩) (mo_recv hE hP) rfl hl.1 rfl (Nat.le_of_ble_eq_true rfl) dX5_reads_9 (fun rq_1 vq_1 H locs q_1 hP hS => ?_)
      have hP := hP.cast (q_1.2)
      refine lv_cast q_1.1 ?_
      refine bo_eq (tgt := 28) hx hb dX5_reads_12 (by decide) (fun c_2 => ?_) (fun c_2 => ?_)
      · skip
        have hk1 : runE T ln 32 32 a9 = k9 := he.trans (runE_f (by first | assumption | simp_all))
        refine lv_aload_n hx hb dX5_reads_28 rfl (lv_at hl 0 rfl) ?_
        refine lv_aload_n hx hb dX5_reads_29 rfl (lv_at hl 0 rfl) ?_
        refine mo_get hx hb hts hin5 hown hE hP (sI_at _ _ _) 9 (by decide) (hts (.fieldLink RX5 147 "HeldDoorModel" "at" "I") (by decide +kernel)) (v := .int ((upd X 9 (nI k9)) 9)) rfl dX5_reads_30 ?_
        refine lv_cast (y := nI k9) (by rw [up_at]) ?_
        refine mo_put hx hb hts hin5 hown hE hP hS (sI_at _ _ _) 8 (by decide) (hts (.fieldLink RX5 144 "HeldDoorModel" "begin" "I") (by decide +kernel)) (sI_sI _ _ _ _) dX5_reads_33 (fun H locs hP hS => ?_)
        refine lv_aload_n hx hb dX5_reads_36 rfl (lv_at hl 0 rfl) ?_
        refine lv_iconst (v := 0) hx hb dX5_reads_37 (by decide) ?_
        refine mo_put hx hb hts hin5 hown hE hP hS (sI_at _ _ _) 10 (by decide) (hts (.fieldLink RX5 157 "HeldDoorModel" "value" "I") (by decide +kernel)) (sI_sI _ _ _ _) dX5_reads_38 (fun H locs hP hS => ?_)
        refine lv_aload_n hx hb dX5_reads_41 rfl (lv_at hl 0 rfl) ?_
        refine mo_get hx hb hts hin5 hown hE hP (sI_at _ _ _) 9 (by decide) (hts (.fieldLink RX5 147 "HeldDoorModel" "at" "I") (by decide +kernel)) (v := .int ((upd (upd (upd X 9 (nI k9)) 8 (nI k9)) 10 0) 9)) rfl dX5_reads_42 ?_
        refine lv_cast (y := nI k9) (by rw [up_ne _ _ (by omega), up_ne _ _ (by omega), up_at]) ?_
        refine lv_aload_n hx hb dX5_reads_45 rfl (lv_at hl 0 rfl) ?_
        refine mo_get hx hb hts hin5 hown hE hP (sI_at _ _ _) 6 (by decide) (hts (.fieldLink RX5 137 "HeldDoorModel" "taped" "I") (by decide +kernel)) (v := .int ((upd (upd (upd X 9 (nI k9)) 8 (nI k9)) 10 0) 6)) rfl dX5_reads_46 ?_
        refine lv_cast (y := X 6) (by rw [up_ne _ _ (by omega), up_ne _ _ (by omega), up_ne _ _ (by omega)]) ?_
        refine lv_cast hln ?_
        refine nn_ne (a := k9) (b := ln) (by omega) (by omega) (tgt := 61) hx hb dX5_reads_49 (by decide) (fun c_3 => ?_) (fun c_3 => ?_)
        · skip
          refine lv_aload_n hx hb dX5_reads_61 rfl (lv_at hl 0 rfl) ?_
          refine lv_aload_n hx hb dX5_reads_62 rfl (lv_at hl 0 rfl) ?_
          refine mo_get hx hb hts hin5 hown hE hP (sI_at _ _ _) 9 (by decide) (hts (.fieldLink RX5 147 "HeldDoorModel" "at" "I") (by decide +kernel)) (v := .int ((upd (upd (upd X 9 (nI k9)) 8 (nI k9)) 10 0) 9)) rfl dX5_reads_63 ?_
          refine lv_cast (y := nI k9) (by rw [up_ne _ _ (by omega), up_ne _ _ (by omega), up_at]) ?_
          refine lv_bipush (v := 97) hx hb dX5_reads_66 (by decide) ?_
          refine lv_bipush (v := 122) hx hb dX5_reads_68 (by decide) ?_
          refine hd_callVi (As := [.int (nI k9), .int 97, .int 122]) (rest := []) ⟨hx, hb, hml, hown, hts⟩ hE hP hS (c_X5_isByte l G (sI u 14 (upd (upd (upd X 9 (nI k9)) 8 (nI k9)) 10 0)) (upd (upd (upd X 9 (nI k9)) 8 (nI k9)) 10 0) T ln hl9 (sI_at _ _ _) ((sI_ne _ _ (by decide)).trans h16) (by rw [up_ne _ _ (by omega), up_ne _ _ (by omega), up_ne _ _ (by omega)]; exact hln) k9 (by omega) 97 122) rfl (cwV 3 hts gX5_reads_X5_isByte rfl rfl rfl (by decide +kernel) ⟨Nat.le_of_ble_eq_true rfl, Nat.le_of_ble_eq_true rfl⟩) (mo_recv hE hP) rfl hl.1 rfl (Nat.le_of_ble_eq_true rfl) dX5_reads_70 (fun rq_4 vq_4 H locs q_4 hP hS => ?_)
          have hP := hP.cast (q_4.2)
          refine lv_cast q_4.1 ?_
          refine bo_eq (tgt := 115) hx hb dX5_reads_73 (by decide) (fun c_5 => ?_) (fun c_5 => ?_)
          · skip
            refine lv_aload_n hx hb dX5_reads_115 rfl (lv_at hl 0 rfl) ?_
            refine lv_aload_n hx hb dX5_reads_116 rfl (lv_at hl 0 rfl) ?_
            refine mo_get hx hb hts hin5 hown hE hP (sI_at _ _ _) 9 (by decide) (hts (.fieldLink RX5 147 "HeldDoorModel" "at" "I") (by decide +kernel)) (v := .int ((upd (upd (upd X 9 (nI k9)) 8 (nI k9)) 10 0) 9)) rfl dX5_reads_117 ?_
            refine lv_cast (y := nI k9) (by rw [up_ne _ _ (by omega), up_ne _ _ (by omega), up_at]) ?_
            refine lv_bipush (v := 48) hx hb dX5_reads_120 (by decide) ?_
            refine lv_bipush (v := 57) hx hb dX5_reads_122 (by decide) ?_
            refine hd_callVi (As := [.int (nI k9), .int 48, .int 57]) (rest := []) ⟨hx, hb, hml, hown, hts⟩ hE hP hS (c_X5_isByte l G (sI u 14 (upd (upd (upd X 9 (nI k9)) 8 (nI k9)) 10 0)) (upd (upd (upd X 9 (nI k9)) 8 (nI k9)) 10 0) T ln hl9 (sI_at _ _ _) ((sI_ne _ _ (by decide)).trans h16) (by rw [up_ne _ _ (by omega), up_ne _ _ (by omega), up_ne _ _ (by omega)]; exact hln) k9 (by omega) 48 57) rfl (cwV 3 hts gX5_reads_X5_isByte rfl rfl rfl (by decide +kernel) ⟨Nat.le_of_ble_eq_true rfl, Nat.le_of_ble_eq_true rfl⟩) (mo_recv hE hP) rfl hl.1 rfl (Nat.le_of_ble_eq_true rfl) dX5_reads_124 (fun rq_6 vq_6 H locs q_6 hP hS => ?_)
            have hP := hP.cast (q_6.2)
            refine lv_cast q_6.1 ?_
            refine bo_eq (tgt := 208) hx hb dX5_reads_127 (by decide) (fun c_7 => ?_) (fun c_7 => ?_)
            · skip
              refine lv_aload_n hx hb dX5_reads_208 rfl (lv_at hl 0 rfl) ?_
              refine lv_aload_n hx hb dX5_reads_209 rfl (lv_at hl 0 rfl) ?_
              refine lv_aload_n hx hb dX5_reads_210 rfl (lv_at hl 0 rfl) ?_
              refine mo_get hx hb hts hin5 hown hE hP (sI_at _ _ _) 9 (by decide) (hts (.fieldLink RX5 147 "HeldDoorModel" "at" "I") (by decide +kernel)) (v := .int ((upd (upd (upd X 9 (nI k9)) 8 (nI k9)) 10 0) 9)) rfl dX5_reads_211 ?_
              refine lv_cast (y := nI k9) (by rw [up_ne _ _ (by omega), up_ne _ _ (by omega), up_at]) ?_
              refine lv_bipush (v := 59) hx hb dX5_reads_214 (by decide) ?_
              refine lv_bipush (v := 59) hx hb dX5_reads_216 (by decide) ?_
              refine hd_callVi (As := [.int (nI k9), .int 59, .int 59]) (rest := [.ref (gad G 34)]) ⟨hx, hb, hml, hown, hts⟩ hE hP hS (c_X5_isByte l G (sI u 14 (upd (upd (upd X 9 (nI k9)) 8 (nI k9)) 10 0)) (upd (upd (upd X 9 (nI k9)) 8 (nI k9)) 10 0) T ln hl9 (sI_at _ _ _) ((sI_ne _ _ (by decide)).trans h16) (by rw [up_ne _ _ (by omega), up_ne _ _ (by omega), up_ne _ _ (by omega)]; exact hln) k9 (by omega) 59 59) rfl (cwV 3 hts gX5_reads_X5_isByte rfl rfl rfl (by decide +kernel) ⟨Nat.le_of_ble_eq_true rfl, Nat.le_of_ble_eq_true rfl⟩) (mo_recv hE hP) rfl hl.1 rfl (Nat.le_of_ble_eq_true rfl) dX5_reads_218 (fun rq_8 vq_8 H locs q_8 hP hS => ?_)
              have hP := hP.cast (q_8.2)
              refine lv_cast q_8.1 ?_
              refine bo_eq (tgt := 229) hx hb dX5_reads_221 (by decide) (fun c_9 => ?_) (fun c_9 => ?_)
              · skip
                refine lv_bipush (v := 23) hx hb dX5_reads_229 (by decide) ?_
                refine mo_put hx hb hts hin5 hown hE hP hS (sI_at _ _ _) 7 (by decide) (hts (.fieldLink RX5 160 "HeldDoorModel" "token" "I") (by decide +kernel)) (sI_sI _ _ _ _) dX5_reads_231 (fun H locs hP hS => ?_)
                refine lv_aload_n hx hb dX5_reads_234 rfl (lv_at hl 0 rfl) ?_
                refine lv_dup hx hb dX5_reads_235 rfl ?_
                refine mo_get hx hb hts hin5 hown hE hP (sI_at _ _ _) 9 (by decide) (hts (.fieldLink RX5 147 "HeldDoorModel" "at" "I") (by decide +kernel)) (v := .int ((upd (upd (upd (upd X 9 (nI k9)) 8 (nI k9)) 10 0) 7 23) 9)) rfl dX5_reads_236 ?_
                refine lv_cast (y := nI k9) (by rw [up_ne _ _ (by omega), up_ne _ _ (by omega), up_ne _ _ (by omega), up_at]) ?_
                refine lv_iconst (v := 1) hx hb dX5_reads_239 (by decide) ?_
                refine nn_iadd (a := k9) (b := 1) hx hb dX5_reads_240 ?_
                refine mo_put hx hb hts hin5 hown hE hP hS (sI_at _ _ _) 9 (by decide) (hts (.fieldLink RX5 147 "HeldDoorModel" "at" "I") (by decide +kernel)) (sI_sI _ _ _ _) dX5_reads_241 (fun H locs hP hS => ?_)
                have hP := hP.cast (show sI u 14 (upd (upd (upd (upd (upd X 9 (nI k9)) 8 (nI k9)) 10 0) 7 23) 9 (nI (k9 + 1))) = sI u 14 (upd (upd (upd (upd X 9 (nI (k9 + 1))) 8 (nI k9)) 10 0) 7 23) from congrArg (sI u 14) (x9_79 _ _ _ _ _ _))
                exact hd_vret hx hb hr hlocks hP hS (by rw [lex_other hk1 (by omega) (by assumption) (by assumption) (by assumption)]; rfl) dX5_reads_244
              · skip
                refine lv_bipush (v := 21) hx hb dX5_reads_224 (by decide) ?_
                refine lv_goto (tgt := 231) hx hb dX5_reads_226 (by decide) ?_
                refine mo_put hx hb hts hin5 hown hE hP hS (sI_at _ _ _) 7 (by decide) (hts (.fieldLink RX5 160 "HeldDoorModel" "token" "I") (by decide +kernel)) (sI_sI _ _ _ _) dX5_reads_231 (fun H locs hP hS => ?_)
                refine lv_aload_n hx hb dX5_reads_234 rfl (lv_at hl 0 rfl) ?_
                refine lv_dup hx hb dX5_reads_235 rfl ?_
                refine mo_get hx hb hts hin5 hown hE hP (sI_at _ _ _) 9 (by decide) (hts (.fieldLink RX5 147 "HeldDoorModel" "at" "I") (by decide +kernel)) (v := .int ((upd (upd (upd (upd X 9 (nI k9)) 8 (nI k9)) 10 0) 7 21) 9)) rfl dX5_reads_236 ?_
                refine lv_cast (y := nI k9) (by rw [up_ne _ _ (by omega), up_ne _ _ (by omega), up_ne _ _ (by omega), up_at]) ?_
                refine lv_iconst (v := 1) hx hb dX5_reads_239 (by decide) ?_
                refine nn_iadd (a := k9) (b := 1) hx hb dX5_reads_240 ?_
                refine mo_put hx hb hts hin5 hown hE hP hS (sI_at _ _ _) 9 (by decide) (hts (.fieldLink RX5 147 "HeldDoorModel" "at" "I") (by decide +kernel)) (sI_sI _ _ _ _) dX5_reads_241 (fun H locs hP hS => ?_)
                have hP := hP.cast (show sI u 14 (upd (upd (upd (upd (upd X 9 (nI k9)) 8 (nI k9)) 10 0) 7 21) 9 (nI (k9 + 1))) = sI u 14 (upd (upd (upd (upd X 9 (nI (k9 + 1))) 8 (nI k9)) 10 0) 7 21) from congrArg (sI u 14) (x9_79 _ _ _ _ _ _))
                exact hd_vret hx hb hr hlocks hP hS (by rw [lex_semi hk1 (by omega) (by assumption) (by assumption) (by assumption)]; rfl) dX5_reads_244
            · skip
              have J130 : ∀ (fu : Nat) (e9 : Nat) (v9 : Int32) (hke : k9 ≤ e9) (hel : e9 ≤ ln) (hf : runE T ln 48 57 k9 = runE T ln 48 57 e9) (hv : valE T ln k9 0 = valE T ln e9 v9) (hrk : ln - e9 < fu) (H : Heap) (locs : List Loc) (ls : Array Slot), WP G (sI u 14 (upd (upd (upd X 9 (nI e9)) 8 (nI k9)) 10 v9)) H → va_S (gA G) s0.heap H locs → lv_has ls 1 [(0, .ref (gad G 34))] → W pg l ev (headSpec wsX5_reads (rmO 2 46)).room s0 mm ([.ref (gad G 34)] : List Value).toArray below meth cd H locs 0 0 (MQ below (va_Qv (fun v => v = sI u 14 (rdX X (lexR T ln a9))) (fun v t => WP G v t.heap) (gA G)) ([.ref (gad G 34)] : List Value).toArray s0 0 0 (gA G)) (F0 mm 130 ls []) := by
                intro fu
                induction fu with
                | zero => intro e9 v9 hke hel hf hv hrk; exact absurd hrk (Nat.not_lt_zero _)
                | succ fu ih130 =>
                  intro e9 v9 hke hel hf hv hrk H locs ls hP hS hl
                  refine lv_aload_n hx hb dX5_reads_130 rfl (lv_at hl 0 rfl) ?_
                  refine lv_aload_n hx hb dX5_reads_131 rfl (lv_at hl 0 rfl) ?_
                  refine mo_get hx hb hts hin5 hown hE hP (sI_at _ _ _) 9 (by decide) (hts (.fieldLink RX5 147 "HeldDoorModel" "at" "I") (by decide +kernel)) (v := .int ((upd (upd (upd X 9 (nI e9)) 8 (nI k9)) 10 v9) 9)) rfl dX5_reads_132 ?_
                  refine lv_cast (y := nI e9) (by rw [up_ne _ _ (by omega), up_ne _ _ (by omega), up_at]) ?_
                  refine lv_bipush (v := 48) hx hb dX5_reads_135 (by decide) ?_
                  refine lv_bipush (v := 57) hx hb dX5_reads_137 (by decide) ?_
                  refine hd_callVi (As := [.int (nI e9), .int 48, .int 57]) (rest := []) ⟨hx, hb, hml, hown, hts⟩ hE hP hS (c_X5_isByte l G (sI u 14 (upd (upd (upd X 9 (nI e9)) 8 (nI k9)) 10 v9)) (upd (upd (upd X 9 (nI e9)) 8 (nI k9)) 10 v9) T ln hl9 (sI_at _ _ _) ((sI_ne _ _ (by decide)).trans h16) (by rw [up_ne _ _ (by omega), up_ne _ _ (by omega), up_ne _ _ (by omega)]; exact hln) e9 (by omega) 48 57) rfl (cwV 3 hts gX5_reads_X5_isByte rfl rfl rfl (by decide +kernel) ⟨Nat.le_of_ble_eq_true rfl, Nat.le_of_ble_eq_true rfl⟩) (mo_recv hE hP) rfl hl.1 rfl (Nat.le_of_ble_eq_true rfl) dX5_reads_139 (fun rq_10 vq_10 H locs q_10 hP hS => ?_)
                  have hP := hP.cast (q_10.2)
                  refine lv_cast q_10.1 ?_
                  refine bo_eq (tgt := 199) hx hb dX5_reads_142 (by decide) (fun c_11 => ?_) (fun c_11 => ?_)
                  · skip
                    refine lv_aload_n hx hb dX5_reads_199 rfl (lv_at hl 0 rfl) ?_
                    refine lv_bipush (v := 20) hx hb dX5_reads_200 (by decide) ?_
                    refine mo_put hx hb hts hin5 hown hE hP hS (sI_at _ _ _) 7 (by decide) (hts (.fieldLink RX5 160 "HeldDoorModel" "token" "I") (by decide +kernel)) (sI_sI _ _ _ _) dX5_reads_202 (fun H locs hP hS => ?_)
                    refine lv_goto (tgt := 244) hx hb dX5_reads_205 (by decide) ?_
                    exact hd_vret hx hb hr hlocks hP hS (by rw [lex_num hk1 (by omega) (by assumption) (by assumption) (hf.trans (runE_f (by assumption))) (hv.trans (valE_f (by assumption)))]; rfl) dX5_reads_244
                  · skip
                    refine lv_aload_n hx hb dX5_reads_145 rfl (lv_at hl 0 rfl) ?_
                    refine lv_aload_n hx hb dX5_reads_146 rfl (lv_at hl 0 rfl) ?_
                    refine mo_get hx hb hts hin5 hown hE hP (sI_at _ _ _) 10 (by decide) (hts (.fieldLink RX5 157 "HeldDoorModel" "value" "I") (by decide +kernel)) (v := .int ((upd (upd (upd X 9 (nI e9)) 8 (nI k9)) 10 v9) 10)) rfl dX5_reads_147 ?_
                    refine lv_cast (y := v9) (by rw [up_at]) ?_
                    refine lv_sipush (v := 999) hx hb dX5_reads_150 (by decide) ?_
                    refine lv_icmp_le (tgt := 163) hx hb dX5_reads_153 (by decide) (fun c_12 => ?_) (fun c_12 => ?_)
                    · skip
                      refine lv_bipush (v := 10) hx hb dX5_reads_163 (by decide) ?_
                      refine lv_aload_n hx hb dX5_reads_165 rfl (lv_at hl 0 rfl) ?_
                      refine mo_get hx hb hts hin5 hown hE hP (sI_at _ _ _) 10 (by decide) (hts (.fieldLink RX5 157 "HeldDoorModel" "value" "I") (by decide +kernel)) (v := .int ((upd (upd (upd X 9 (nI e9)) 8 (nI k9)) 10 v9) 10)) rfl dX5_reads_166 ?_
                      refine lv_cast (y := v9) (by rw [up_at]) ?_
                      refine lv_imul hx hb dX5_reads_169 ?_
                      refine lv_aload_n hx hb dX5_reads_170 rfl (lv_at hl 0 rfl) ?_
                      refine mo_get hx hb hts hin5 hown hE hP (sI_at _ _ _) 5 (by decide) (hts (.fieldLink RX5 22 "HeldDoorModel" "tape" "[I") (by decide +kernel)) (v := .ref (gad G 39)) rfl dX5_reads_171 ?_
                      refine lv_aload_n hx hb dX5_reads_174 rfl (lv_at hl 0 rfl) ?_
                      refine mo_get hx hb hts hin5 hown hE hP (sI_at _ _ _) 9 (by decide) (hts (.fieldLink RX5 147 "HeldDoorModel" "at" "I") (by decide +kernel)) (v := .int ((upd (upd (upd X 9 (nI e9)) 8 (nI k9)) 10 v9) 9)) rfl dX5_reads_175 ?_
                      refine lv_cast (y := nI e9) (by rw [up_ne _ _ (by omega), up_ne _ _ (by omega), up_at]) ?_
                      refine ar_ld hx hb hE hP 39 120 (by decide) (ar_at39 ((sI_ne _ _ (by decide)).trans h16)) e9 (by first | omega | (have hlt := isB_lt (T := T) (t := ln) (k := e9) (a := 48) (b := 57) (by assumption); omega)) dX5_reads_178 ?_
                      refine lv_iadd hx hb dX5_reads_179 ?_
                      refine lv_bipush (v := 48) hx hb dX5_reads_180 (by decide) ?_
                      refine lv_isub hx hb dX5_reads_182 ?_
                      refine mo_put hx hb hts hin5 hown hE hP hS (sI_at _ _ _) 10 (by decide) (hts (.fieldLink RX5 157 "HeldDoorModel" "value" "I") (by decide +kernel)) (sI_sI _ _ _ _) dX5_reads_183 (fun H locs hP hS => ?_)
                      have hP := hP.cast (show sI u 14 (upd (upd (upd (upd X 9 (nI e9)) 8 (nI k9)) 10 v9) 10 (((10 * v9) + (T e9)) - 48)) = sI u 14 (upd (upd (upd X 9 (nI e9)) 8 (nI k9)) 10 (((10 * v9) + (T e9)) - 48)) from congrArg (sI u 14) (up_up _ _ _ _))
                      refine lv_aload_n hx hb dX5_reads_186 rfl (lv_at hl 0 rfl) ?_
                      refine lv_dup hx hb dX5_reads_187 rfl ?_
                      refine mo_get hx hb hts hin5 hown hE hP (sI_at _ _ _) 9 (by decide) (hts (.fieldLink RX5 147 "HeldDoorModel" "at" "I") (by decide +kernel)) (v := .int ((upd (upd (upd X 9 (nI e9)) 8 (nI k9)) 10 (((10 * v9) + (T e9)) - 48)) 9)) rfl dX5_reads_188 ?_
                      refine lv_cast (y := nI e9) (by rw [up_ne _ _ (by omega), up_ne _ _ (by omega), up_at]) ?_
                      refine lv_iconst (v := 1) hx hb dX5_reads_191 (by decide) ?_
                      refine nn_iadd (a := e9) (b := 1) hx hb dX5_reads_192 ?_
                      refine mo_put hx hb hts hin5 hown hE hP hS (sI_at _ _ _) 9 (by decide) (hts (.fieldLink RX5 147 "HeldDoorModel" "at" "I") (by decide +kernel)) (sI_sI _ _ _ _) dX5_reads_193 (fun H locs hP hS => ?_)
                      have hP := hP.cast (show sI u 14 (upd (upd (upd (upd X 9 (nI e9)) 8 (nI k9)) 10 (((10 * v9) + (T e9)) - 48)) 9 (nI (e9 + 1))) = sI u 14 (upd (upd (upd X 9 (nI (e9 + 1))) 8 (nI k9)) 10 (((10 * v9) + (T e9)) - 48)) from congrArg (sI u 14) (x9_9 _ _ _ _ _))
                      refine lv_goto (tgt := 130) hx hb dX5_reads_196 (by decide) ?_
                      exact ih130 (e9 + 1) (((10 * v9) + (T e9)) - 48) (by omega) (isB_lt (by first | assumption | simp_all)) (hf.trans (runE_t (by first | assumption | simp_all))) (hv.trans (valE_t (by first | assumption | simp_all) (by simp [digV, *]))) (by have hlt := isB_lt (T := T) (t := ln) (k := e9) (a := 48) (b := 57) (by first | assumption | simp_all); omega) _ _ _ hP hS (lv_sub hl [0] rfl)
                    · skip
                      refine lv_aload_n hx hb dX5_reads_156 rfl (lv_at hl 0 rfl) ?_
                      refine mo_get hx hb hts hin5 hown hE hP (sI_at _ _ _) 10 (by decide) (hts (.fieldLink RX5 157 "HeldDoorModel" "value" "I") (by decide +kernel)) (v := .int ((upd (upd (upd X 9 (nI e9)) 8 (nI k9)) 10 v9) 10)) rfl dX5_reads_157 ?_
                      refine lv_cast (y := v9) (by rw [up_at]) ?_
                      refine lv_goto (tgt := 183) hx hb dX5_reads_160 (by decide) ?_
                      refine mo_put hx hb hts hin5 hown hE hP hS (sI_at _ _ _) 10 (by decide) (hts (.fieldLink RX5 157 "HeldDoorModel" "value" "I") (by decide +kernel)) (sI_sI _ _ _ _) dX5_reads_183 (fun H locs hP hS => ?_)
                      have hP := hP.cast (show sI u 14 (upd (upd (upd (upd X 9 (nI e9)) 8 (nI k9)) 10 v9) 10 v9) = sI u 14 (upd (upd (upd X 9 (nI e9)) 8 (nI k9)) 10 v9) from congrArg (sI u 14) (up_up _ _ _ _))
                      refine lv_aload_n hx hb dX5_reads_186 rfl (lv_at hl 0 rfl) ?_
                      refine lv_dup hx hb dX5_reads_187 rfl ?_
                      refine mo_get hx hb hts hin5 hown hE hP (sI_at _ _ _) 9 (by decide) (hts (.fieldLink RX5 147 "HeldDoorModel" "at" "I") (by decide +kernel)) (v := .int ((upd (upd (upd X 9 (nI e9)) 8 (nI k9)) 10 v9) 9)) rfl dX5_reads_188 ?_
                      refine lv_cast (y := nI e9) (by rw [up_ne _ _ (by omega), up_ne _ _ (by omega), up_at]) ?_
                      refine lv_iconst (v := 1) hx hb dX5_reads_191 (by decide) ?_
                      refine nn_iadd (a := e9) (b := 1) hx hb dX5_reads_192 ?_
                      refine mo_put hx hb hts hin5 hown hE hP hS (sI_at _ _ _) 9 (by decide) (hts (.fieldLink RX5 147 "HeldDoorModel" "at" "I") (by decide +kernel)) (sI_sI _ _ _ _) dX5_reads_193 (fun H locs hP hS => ?_)
                      have hP := hP.cast (show sI u 14 (upd (upd (upd (upd X 9 (nI e9)) 8 (nI k9)) 10 v9) 9 (nI (e9 + 1))) = sI u 14 (upd (upd (upd X 9 (nI (e9 + 1))) 8 (nI k9)) 10 v9) from congrArg (sI u 14) (x9_9 _ _ _ _ _))
                      refine lv_goto (tgt := 130) hx hb dX5_reads_196 (by decide) ?_
                      exact ih130 (e9 + 1) v9 (by omega) (isB_lt (by first | assumption | simp_all)) (hf.trans (runE_t (by first | assumption | simp_all))) (hv.trans (valE_t (by first | assumption | simp_all) (by simp [digV, *]))) (by have hlt := isB_lt (T := T) (t := ln) (k := e9) (a := 48) (b := 57) (by first | assumption | simp_all); omega) _ _ _ hP hS (lv_sub hl [0] rfl)
              exact J130 _ k9 0 (Nat.le_refl _) hk rfl rfl (Nat.lt_succ_self _) _ _ _ hP hS (lv_sub hl [0] rfl)
          · skip
            have J76 : ∀ (fu : Nat) (e9 : Nat) (hke : k9 ≤ e9) (hel : e9 ≤ ln) (hf : runE T ln 97 122 k9 = runE T ln 97 122 e9) (hrk : ln - e9 < fu) (H : Heap) (locs : List Loc) (ls : Array Slot), WP G (sI u 14 (upd (upd (upd X 9 (nI e9)) 8 (nI k9)) 10 0)) H → va_S (gA G) s0.heap H locs → lv_has ls 1 [(0, .ref (gad G 34))] → W pg l ev (headSpec wsX5_reads (rmO 2 46)).room s0 mm ([.ref (gad G 34)] : List Value).toArray below meth cd H locs 0 0 (MQ below (va_Qv (fun v => v = sI u 14 (rdX X (lexR T ln a9))) (fun v t => WP G v t.heap) (gA G)) ([.ref (gad G 34)] : List Value).toArray s0 0 0 (gA G)) (F0 mm 76 ls []) := by
              intro fu
              induction fu with
              | zero => intro e9 hke hel hf hrk; exact absurd hrk (Nat.not_lt_zero _)
              | succ fu ih76 =>
                intro e9 hke hel hf hrk H locs ls hP hS hl
                refine lv_aload_n hx hb dX5_reads_76 rfl (lv_at hl 0 rfl) ?_
                refine lv_aload_n hx hb dX5_reads_77 rfl (lv_at hl 0 rfl) ?_
                refine mo_get hx hb hts hin5 hown hE hP (sI_at _ _ _) 9 (by decide) (hts (.fieldLink RX5 147 "HeldDoorModel" "at" "I") (by decide +kernel)) (v := .int ((upd (upd (upd X 9 (nI e9)) 8 (nI k9)) 10 0) 9)) rfl dX5_reads_78 ?_
                refine lv_cast (y := nI e9) (by rw [up_ne _ _ (by omega), up_ne _ _ (by omega), up_at]) ?_
                refine lv_bipush (v := 97) hx hb dX5_reads_81 (by decide) ?_
                refine lv_bipush (v := 122) hx hb dX5_reads_83 (by decide) ?_
                refine hd_callVi (As := [.int (nI e9), .int 97, .int 122]) (rest := []) ⟨hx, hb, hml, hown, hts⟩ hE hP hS (c_X5_isByte l G (sI u 14 (upd (upd (upd X 9 (nI e9)) 8 (nI k9)) 10 0)) (upd (upd (upd X 9 (nI e9)) 8 (nI k9)) 10 0) T ln hl9 (sI_at _ _ _) ((sI_ne _ _ (by decide)).trans h16) (by rw [up_ne _ _ (by omega), up_ne _ _ (by omega), up_ne _ _ (by omega)]; exact hln) e9 (by omega) 97 122) rfl (cwV 3 hts gX5_reads_X5_isByte rfl rfl rfl (by decide +kernel) ⟨Nat.le_of_ble_eq_true rfl, Nat.le_of_ble_eq_true rfl⟩) (mo_recv hE hP) rfl hl.1 rfl (Nat.le_of_ble_eq_true rfl) dX5_reads_85 (fun rq_13 vq_13 H locs q_13 hP hS => ?_)
                have hP := hP.cast (q_13.2)
                refine lv_cast q_13.1 ?_
                refine bo_eq (tgt := 104) hx hb dX5_reads_88 (by decide) (fun c_14 => ?_) (fun c_14 => ?_)
                · skip
                  refine lv_aload_n hx hb dX5_reads_104 rfl (lv_at hl 0 rfl) ?_
                  refine lv_aload_n hx hb dX5_reads_105 rfl (lv_at hl 0 rfl) ?_
                  refine hd_callVi (As := []) (rest := [.ref (gad G 34)]) ⟨hx, hb, hml, hown, hts⟩ hE hP hS (c_X5_wordHere l G (sI u 14 (upd (upd (upd X 9 (nI e9)) 8 (nI k9)) 10 0)) (upd (upd (upd X 9 (nI e9)) 8 (nI k9)) 10 0) T ln hl9 (sI_at _ _ _) ((sI_ne _ _ (by decide)).trans h16) (by rw [up_ne _ _ (by omega), up_ne _ _ (by omega), up_ne _ _ (by omega)]; exact hln) k9 e9 (by rw [up_ne _ _ (by omega), up_at]) (by rw [up_ne _ _ (by omega), up_ne _ _ (by omega), up_at]) (by omega) (by omega)) rfl (cwV 0 hts gX5_reads_X5_wordHere rfl rfl rfl (by decide +kernel) ⟨Nat.le_of_ble_eq_true rfl, Nat.le_of_ble_eq_true rfl⟩) (mo_recv hE hP) rfl hl.1 rfl (Nat.le_of_ble_eq_true rfl) dX5_reads_106 (fun rq_15 vq_15 H locs q_15 hP hS => ?_)
                  have hP := hP.cast (q_15.2)
                  refine lv_cast q_15.1 ?_
                  refine mo_put hx hb hts hin5 hown hE hP hS (sI_at _ _ _) 7 (by decide) (hts (.fieldLink RX5 160 "HeldDoorModel" "token" "I") (by decide +kernel)) (sI_sI _ _ _ _) dX5_reads_109 (fun H locs hP hS => ?_)
                  refine lv_goto (tgt := 244) hx hb dX5_reads_112 (by decide) ?_
                  exact hd_vret hx hb hr hlocks hP hS (by rw [lex_word hk1 (by omega) (by assumption) (hf.trans (runE_f (by assumption)))]; rfl) dX5_reads_244
                · skip
                  refine lv_aload_n hx hb dX5_reads_91 rfl (lv_at hl 0 rfl) ?_
                  refine lv_dup hx hb dX5_reads_92 rfl ?_
                  refine mo_get hx hb hts hin5 hown hE hP (sI_at _ _ _) 9 (by decide) (hts (.fieldLink RX5 147 "HeldDoorModel" "at" "I") (by decide +kernel)) (v := .int ((upd (upd (upd X 9 (nI e9)) 8 (nI k9)) 10 0) 9)) rfl dX5_reads_93 ?_
                  refine lv_cast (y := nI e9) (by rw [up_ne _ _ (by omega), up_ne _ _ (by omega), up_at]) ?_
                  refine lv_iconst (v := 1) hx hb dX5_reads_96 (by decide) ?_
                  refine nn_iadd (a := e9) (b := 1) hx hb dX5_reads_97 ?_
                  refine mo_put hx hb hts hin5 hown hE hP hS (sI_at _ _ _) 9 (by decide) (hts (.fieldLink RX5 147 "HeldDoorModel" "at" "I") (by decide +kernel)) (sI_sI _ _ _ _) dX5_reads_98 (fun H locs hP hS => ?_)
                  have hP := hP.cast (show sI u 14 (upd (upd (upd (upd X 9 (nI e9)) 8 (nI k9)) 10 0) 9 (nI (e9 + 1))) = sI u 14 (upd (upd (upd X 9 (nI (e9 + 1))) 8 (nI k9)) 10 0) from congrArg (sI u 14) (x9_9 _ _ _ _ _))
                  refine lv_goto (tgt := 76) hx hb dX5_reads_101 (by decide) ?_
                  exact ih76 (e9 + 1) (by omega) (isB_lt (by first | assumption | simp_all)) (hf.trans (runE_t (by first | assumption | simp_all))) (by have hlt := isB_lt (T := T) (t := ln) (k := e9) (a := 97) (b := 122) (by first | assumption | simp_all); omega) _ _ _ hP hS (lv_sub hl [0] rfl)
            exact J76 _ k9 (Nat.le_refl _) hk rfl (Nat.lt_succ_self _) _ _ _ hP hS (lv_sub hl [0] rfl)
        · skip
          refine lv_aload_n hx hb dX5_reads_52 rfl (lv_at hl 0 rfl) ?_
          refine lv_bipush (v := 22) hx hb dX5_reads_53 (by decide) ?_
          refine mo_put hx hb hts hin5 hown hE hP hS (sI_at _ _ _) 7 (by decide) (hts (.fieldLink RX5 160 "HeldDoorModel" "token" "I") (by decide +kernel)) (sI_sI _ _ _ _) dX5_reads_55 (fun H locs hP hS => ?_)
          refine lv_goto (tgt := 244) hx hb dX5_reads_58 (by decide) ?_
          exact hd_vret hx hb hr hlocks hP hS (by rw [lex_over hk1 (by omega)]; rfl) dX5_reads_244
      · skip
        refine lv_aload_n hx hb dX5_reads_15 rfl (lv_at hl 0 rfl) ?_
        refine lv_dup hx hb dX5_reads_16 rfl ?_
        refine mo_get hx hb hts hin5 hown hE hP (sI_at _ _ _) 9 (by decide) (hts (.fieldLink RX5 147 "HeldDoorModel" "at" "I") (by decide +kernel)) (v := .int ((upd X 9 (nI k9)) 9)) rfl dX5_reads_17 ?_
        refine lv_cast (y := nI k9) (by rw [up_at]) ?_
        refine lv_iconst (v := 1) hx hb dX5_reads_20 (by decide) ?_
        refine nn_iadd (a := k9) (b := 1) hx hb dX5_reads_21 ?_
        refine mo_put hx hb hts hin5 hown hE hP hS (sI_at _ _ _) 9 (by decide) (hts (.fieldLink RX5 147 "HeldDoorModel" "at" "I") (by decide +kernel)) (sI_sI _ _ _ _) dX5_reads_22 (fun H locs hP hS => ?_)
        have hP := hP.cast (show sI u 14 (upd (upd X 9 (nI k9)) 9 (nI (k9 + 1))) = sI u 14 (upd X 9 (nI (k9 + 1))) from congrArg (sI u 14) (up_up _ _ _ _))
        refine lv_goto (tgt := 0) hx hb dX5_reads_25 (by decide) ?_
        exact ih0 (k9 + 1) (isB_lt (by first | assumption | simp_all)) (he.trans (runE_t (by first | assumption | simp_all))) (by have hlt := isB_lt (T := T) (t := ln) (k := k9) (a := 32) (b := 32) (by first | assumption | simp_all); omega) _ _ _ hP hS (lv_sub hl [0] rfl)
  exact J0 _ a9 hal rfl (Nat.lt_succ_self _) _ _ _ (hP.cast (show u = sI u 14 (upd X 9 (nI a9)) by rw [up_same ha8, sI_id h14])) hS (lv_sub hl [0] rfl)
