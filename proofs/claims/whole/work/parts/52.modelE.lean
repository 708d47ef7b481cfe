set_option maxHeartbeats 4000000 in
set_option maxRecDepth 100000 in
theorem c_X5_isSheet (l : Launch) (G : Geo) (u : Sg) (x : Int32) : CtI l G yX5_isSheet wsX5_isSheet (rmO 1 23) [.int x] u (fun r v => r = bI (inI x 0 3) ∧ v = u) := by
  refine CtI.of (cc := cX5_isSheet) (maxL := 1) (ret := (some .boolean)) (own := RX5) (by decide) rfl rfl ?_
  rintro pg ev s0 mm below meth cd ⟨hx, hb, hr, hml, hown, hts, hlocks⟩ hE hP ls hl
  have hS : va_S (gA G) s0.heap s0.heap [] := va_S.rf
  have hl : lv_has ls 1 [(0, .int x)] := hl
  refine lv_iload_n hx hb dX5_isSheet_0 rfl (lv_at hl 0 rfl) ?_
  refine lv_i2l hx hb dX5_isSheet_1 rfl ?_
  refine lv_iconst (v := 0) hx hb dX5_isSheet_2 (by decide) ?_
  refine lv_iconst (v := 3) hx hb dX5_isSheet_3 (by decide) ?_
  refine hd_callSi (As := [.long x.toInt64, .int 0, .int 3]) (rest := []) ⟨hx, hb, hml, hown, hts⟩ hE hP hS (c_X5_inI l G u x 0 3) rfl (va_cwS 3 hts gX5_isSheet_X5_in rfl rfl rfl (by decide +kernel) ⟨Nat.le_of_ble_eq_true rfl, Nat.le_of_ble_eq_true rfl⟩) rfl hl.1 rfl (Nat.le_of_ble_eq_true rfl) dX5_isSheet_4 (fun rq_1 vq_1 H locs q_1 hP hS => ?_)
  have hP := hP.cast (q_1.2)
  refine lv_cast q_1.1 ?_
  exact hd_zret hx hb hr hlocks hP hS ⟨(by first | rfl | (simp only [↓reduceIte]; done) | (simp only [↓reduceIte] <;> rfl) | (simp []; done)), rfl⟩ bI_n dX5_isSheet_7
set_option maxHeartbeats 4000000 in
set_option maxRecDepth 100000 in
theorem c_X5_cutTo (l : Launch) (G : Geo) (u : Sg) (b : Int32) (x : Int64) : CtL l G yX5_cutTo wsX5_cutTo (rmO 0 0) [.int b, .long x] u (fun r v => r = cutL b x ∧ v = u) := by
  refine CtL.of (cc := cX5_cutTo) (maxL := 3) (ret := (some .long)) (own := RX5) (by decide) rfl rfl ?_
  rintro pg ev s0 mm below meth cd ⟨hx, hb, hr, hml, hown, hts, hlocks⟩ hE hP ls hl
  have hS : va_S (gA G) s0.heap s0.heap [] := va_S.rf
  have hl : lv_has ls 3 [(0, .int b), (1, .long x)] := hl
  refine lv_iload_n hx hb dX5_cutTo_0 rfl (lv_at hl 0 rfl) ?_
  refine lv_bipush (v := 8) hx hb dX5_cutTo_1 (by decide) ?_
  refine lv_icmp_ne (tgt := 13) hx hb dX5_cutTo_3 (by decide) (fun c_1 => ?_) (fun c_1 => ?_)
  · skip
    refine lv_iload_n hx hb dX5_cutTo_13 rfl (lv_at hl 0 rfl) ?_
    refine lv_bipush (v := 16) hx hb dX5_cutTo_14 (by decide) ?_
    refine lv_icmp_ne (tgt := 26) hx hb dX5_cutTo_16 (by decide) (fun c_2 => ?_) (fun c_2 => ?_)
    · skip
      refine lv_lload_n hx hb dX5_cutTo_26 rfl (lv_at hl 1 rfl) ?_
      exact hd_lret hx hb hr hlocks hP hS ⟨(by simp [cutL, c_1, c_2]), rfl⟩ dX5_cutTo_27
    · skip
      refine lv_lload_n hx hb dX5_cutTo_19 rfl (lv_at hl 1 rfl) ?_
      refine lv_l2i hx hb dX5_cutTo_20 rfl ?_
      refine lv_i2s hx hb dX5_cutTo_21 rfl ?_
      refine lv_i2l hx hb dX5_cutTo_22 rfl ?_
      refine lv_goto (tgt := 27) hx hb dX5_cutTo_23 (by decide) ?_
      exact hd_lret hx hb hr hlocks hP hS ⟨(by simp [cutL, c_1, c_2]), rfl⟩ dX5_cutTo_27
  · skip
    refine lv_lload_n hx hb dX5_cutTo_6 rfl (lv_at hl 1 rfl) ?_
    refine lv_l2i hx hb dX5_cutTo_7 rfl ?_
    refine lv_i2b hx hb dX5_cutTo_8 rfl ?_
    refine lv_i2l hx hb dX5_cutTo_9 rfl ?_
    refine lv_goto (tgt := 27) hx hb dX5_cutTo_10 (by decide) ?_
    exact hd_lret hx hb hr hlocks hP hS ⟨(by simp [cutL, c_1]), rfl⟩ dX5_cutTo_27
set_option maxHeartbeats 4000000 in
set_option maxRecDepth 100000 in
theorem c_X5_sheet (l : Launch) (G : Geo) (u : Sg) (F : Nat → Int32) (h15 : u.1 15 = F) (s b n : Int32) : CtI l G yX5_sheet wsX5_sheet (rmO 2 43) [.ref (gad G 34), .int s, .int b, .int n] u (PS u 15 F (f_sheet s b n) (fun r v => r = (if b = 0 then 0 else n) ∧ v = sL (sI (sI u 17 (upd (u.1 17) s.toNatClampNeg b)) 18 (upd (u.1 18) s.toNatClampNeg (if b = 0 then 0 else n))) 4 (zrS (u.2 4) s.toNatClampNeg 40))) := by
  refine CtI.of (cc := cX5_sheet) (maxL := 5) (ret := (some .int)) (own := RX5) (by decide) rfl rfl ?_
  rintro pg ev s0 mm below meth cd ⟨hx, hb, hr, hml, hown, hts, hlocks⟩ hE hP ls hl
  have hS : va_S (gA G) s0.heap s0.heap [] := va_S.rf
  have hl : lv_has ls 5 [(0, .ref (gad G 34)), (1, .int s), (2, .int b), (3, .int n)] := hl
  have hin5 : ∀ w ∈ wsX50, w ∈ wsX5_sheet := by decide +kernel
  refine lv_iload_n hx hb dX5_sheet_0 rfl (lv_at hl 1 rfl) ?_
  refine hd_callSi (As := [.int s]) (rest := []) ⟨hx, hb, hml, hown, hts⟩ hE hP hS (c_X5_isSheet l G u s) rfl (va_cwS 1 hts gX5_sheet_X5_isSheet rfl rfl rfl (by decide +kernel) ⟨Nat.le_of_ble_eq_true rfl, Nat.le_of_ble_eq_true rfl⟩) rfl hl.1 rfl (Nat.le_of_ble_eq_true rfl) dX5_sheet_1 (fun rq_1 vq_1 H locs q_1 hP hS => ?_)
  have hP := hP.cast (q_1.2)
  refine lv_cast q_1.1 ?_
  refine bo_eq (tgt := 29) hx hb dX5_sheet_4 (by decide) (fun c_2 => ?_) (fun c_2 => ?_)
  · skip
    refine lv_aload_n hx hb dX5_sheet_29 rfl (lv_at hl 0 rfl) ?_
    refine lv_ldc (v := (-1000000001)) hx hb hown (hts (.constant RX5 35 ((-1000000001))) (by decide +kernel)) dX5_sheet_30 ?_
    refine hd_callVi (As := [.int (-1000000001)]) (rest := []) ⟨hx, hb, hml, hown, hts⟩ hE hP hS (c_X5_finds_0 l G u F h15) rfl (cwV 1 hts gX5_sheet_X5_finds rfl rfl rfl (by decide +kernel) ⟨Nat.le_of_ble_eq_true rfl, Nat.le_of_ble_eq_true rfl⟩) (mo_recv hE hP) rfl hl.1 rfl (Nat.le_of_ble_eq_true rfl) dX5_sheet_32 (fun rq_3 vq_3 H locs q_3 hP hS => ?_)
    have hP := hP.cast (q_3.2)
    refine lv_cast q_3.1 ?_
    exact hd_iret hx hb hr hlocks hP hS (PS.bad (-1000000001) (by simp [f_sheet, wid, c_2]) (by decide) rfl rfl) dX5_sheet_35
  · skip
    obtain ⟨j9, hj9a, hj9b, rfl⟩ := inI_nat c_2 rfl rfl (na := 0) (nb := 3) (by decide) (by decide)
    refine lv_iload_n hx hb dX5_sheet_7 rfl (lv_at hl 2 rfl) ?_
    refine lv_if_eq (tgt := 36) hx hb dX5_sheet_8 (by decide) (fun c_4 => ?_) (fun c_4 => ?_)
    · skip
      refine lv_iload_n hx hb dX5_sheet_36 rfl (lv_at hl 3 rfl) ?_
      refine lv_if_ge (tgt := 47) hx hb dX5_sheet_37 (by decide) (fun c_5 => ?_) (fun c_5 => ?_)
      · skip
        refine lv_iload_n hx hb dX5_sheet_47 rfl (lv_at hl 3 rfl) ?_
        refine lv_bipush (v := 40) hx hb dX5_sheet_48 (by decide) ?_
        refine lv_icmp_le (tgt := 60) hx hb dX5_sheet_50 (by decide) (fun c_6 => ?_) (fun c_6 => ?_)
        · skip
          refine lv_aload_n hx hb dX5_sheet_60 rfl (lv_at hl 0 rfl) ?_
          refine mo_get hx hb hts hin5 hown hE hP rfl 12 (by decide) (hts (.fieldLink RX5 25 "HeldDoorModel" "bitsOf" "[I") (by decide +kernel)) (v := .ref (gad G 40)) rfl dX5_sheet_61 ?_
          refine lv_iload_n hx hb dX5_sheet_64 rfl (lv_at hl 1 rfl) ?_
          refine lv_iload_n hx hb dX5_sheet_65 rfl (lv_at hl 2 rfl) ?_
          refine ar_st hx hb hE hP hS 40 4 (by decide) (ar_at40 rfl) (ar_set40 _ _) j9 (by omega) rfl dX5_sheet_66 (fun H locs hP hS => ?_)
          refine lv_aload_n hx hb dX5_sheet_67 rfl (lv_at hl 0 rfl) ?_
          refine mo_get hx hb hts hin5 hown hE hP ((sI_ne _ _ (by decide)).trans rfl) 13 (by decide) (hts (.fieldLink RX5 28 "HeldDoorModel" "sizeOf" "[I") (by decide +kernel)) (v := .ref (gad G 41)) rfl dX5_sheet_68 ?_
          refine lv_iload_n hx hb dX5_sheet_71 rfl (lv_at hl 1 rfl) ?_
          refine lv_iload_n hx hb dX5_sheet_72 rfl (lv_at hl 2 rfl) ?_
          refine lv_if_ne (tgt := 80) hx hb dX5_sheet_73 (by decide) (fun c_7 => ?_) (fun c_7 => ?_)
          · skip
            refine lv_iload_n hx hb dX5_sheet_80 rfl (lv_at hl 3 rfl) ?_
            refine ar_st hx hb hE hP hS 41 4 (by decide) (ar_at41 ((sI_ne _ _ (by decide)).trans rfl)) (ar_set41 _ _) j9 (by omega) rfl dX5_sheet_81 (fun H locs hP hS => ?_)
            refine lv_iconst (v := 0) hx hb dX5_sheet_82 (by decide) ?_
            refine lv_istore (lv' := [(4, .int 0), (0, .ref (gad G 34)), (1, .int (nI j9)), (2, .int b), (3, .int n)]) hx hb dX5_sheet_83 hl (by decide) rfl (fun ls hl => ?_)
            have J85 : ∀ (fu : Nat) (k9 : Nat) (z2 : Int32) (E : Nat → Int64) (hk : k9 ≤ 40) (hfs : f_sheet (nI j9) b n = 0) (hz2 : z2 = if b = 0 then 0 else n) (hG : E = zrS (u.2 4) j9 k9) (hrk : 40 - k9 < fu) (H : Heap) (locs : List Loc) (ls : Array Slot), WP G (sL (sI (sI u 17 (upd (u.1 17) j9 b)) 18 (upd (u.1 18) j9 z2)) 4 E) H → va_S (gA G) s0.heap H locs → lv_has ls 5 [(0, .ref (gad G 34)), (1, .int (nI j9)), (2, .int b), (3, .int n), (4, .int (nI k9))] → W pg l ev (headSpec wsX5_sheet (rmO 2 43)).room s0 mm ([.ref (gad G 34), .int (nI j9), .int b, .int n] : List Value).toArray below meth cd H locs 0 0 (MQ below (va_Qi (PS u 15 F (f_sheet (nI j9) b n) (fun r v => r = (if b = 0 then 0 else n) ∧ v = sL (sI (sI u 17 (upd (u.1 17) (nI j9).toNatClampNeg b)) 18 (upd (u.1 18) (nI j9).toNatClampNeg (if b = 0 then 0 else n))) 4 (zrS (u.2 4) (nI j9).toNatClampNeg 40))) (fun v t => WP G v t.heap) (gA G)) ([.ref (gad G 34), .int (nI j9), .int b, .int n] : List Value).toArray s0 0 0 (gA G)) (F0 mm 85 ls []) := by
              intro fu
              induction fu with
              | zero => intro k9 z2 E hk hfs hz2 hG hrk; exact absurd hrk (Nat.not_lt_zero _)
              | succ fu ih85 =>
                intro k9 z2 E hk hfs hz2 hG hrk H locs ls hP hS hl
                refine lv_iload hx hb dX5_sheet_85 (lv_at hl 4 rfl) ?_
                refine lv_bipush (v := 40) hx hb dX5_sheet_87 (by decide) ?_
                refine nn_ge (a := k9) (b := 40) (by omega) (by omega) (tgt := 111) hx hb dX5_sheet_89 (by decide) (fun c_8 => ?_) (fun c_8 => ?_)
                · skip
                  refine lv_aload_n hx hb dX5_sheet_111 rfl (lv_at hl 0 rfl) ?_
                  refine mo_get hx hb hts hin5 hown hE hP (sL_1r ((sI_ne _ _ (by decide)).trans ((sI_ne _ _ (by decide)).trans rfl))) 13 (by decide) (hts (.fieldLink RX5 28 "HeldDoorModel" "sizeOf" "[I") (by decide +kernel)) (v := .ref (gad G 41)) rfl dX5_sheet_112 ?_
                  refine lv_iload_n hx hb dX5_sheet_115 rfl (lv_at hl 1 rfl) ?_
                  refine ar_ld hx hb hE hP 41 4 (by decide) (ar_at41 (sL_1r (sI_at _ _ _))) j9 (by omega) dX5_sheet_116 ?_
                  refine lv_cast (y := z2) (by rw [up_at]) ?_
                  exact hd_iret hx hb hr hlocks hP hS (PS.ok hfs (by rw [nI_clamp (show j9 < 2 ^ 31 by omega), hG, show k9 = 40 by omega]; exact ⟨hz2, by rw [hz2]⟩)) dX5_sheet_117
                · skip
                  refine lv_aload_n hx hb dX5_sheet_92 rfl (lv_at hl 0 rfl) ?_
                  refine mo_get hx hb hts hin5 hown hE hP (sL_1r ((sI_ne _ _ (by decide)).trans ((sI_ne _ _ (by decide)).trans rfl))) 14 (by decide) (hts (.fieldLink RX5 31 "HeldDoorModel" "cells" "[J") (by decide +kernel)) (v := .ref (gad G 42)) rfl dX5_sheet_93 ?_
                  refine lv_bipush (v := 40) hx hb dX5_sheet_96 (by decide) ?_
                  refine lv_iload_n hx hb dX5_sheet_98 rfl (lv_at hl 1 rfl) ?_
                  refine nn_imul (a := 40) (b := j9) hx hb dX5_sheet_99 ?_
                  refine lv_iload hx hb dX5_sheet_100 (lv_at hl 4 rfl) ?_
                  refine nn_iadd (a := 40 * j9) (b := k9) hx hb dX5_sheet_102 ?_
                  refine lv_lconst (v := 0) hx hb dX5_sheet_103 (by decide) ?_
                  refine ce_st hx hb hE hP hS (sL_at _ _ _) (40 * j9 + k9) (by omega) (sL_sL _ _ _ _) dX5_sheet_104 (fun H locs hP hS => ?_)
                  refine lv_iinc (v := nI (k9 + 1)) (lv' := [(4, .int (nI (k9 + 1))), (0, .ref (gad G 34)), (1, .int (nI j9)), (2, .int b), (3, .int n)]) hx hb dX5_sheet_105 hl (k := 4) rfl (inc1 _) (by decide) rfl (fun ls hl => ?_)
                  refine lv_goto (tgt := 85) hx hb dX5_sheet_108 (by decide) ?_
                  exact ih85 (k9 + 1) z2 (vp_updL E (40 * j9 + k9) 0) (by omega) hfs hz2 (by rw [hG]; exact zrS_s _ _ _) (by omega) _ _ _ hP hS (lv_sub hl [1, 2, 3, 4, 0] rfl)
            exact J85 _ 0 n (u.2 4) (Nat.zero_le _) (by simp [f_sheet, wid, c_2, c_4, c_5, c_6, c_7, Int32.not_lt.mpr c_5, Int32.not_lt.mpr c_6, nI_clamp (show j9 < 2 ^ 31 by omega)]) (by rw [if_neg c_7]) ((zrS_0 _ _).symm) (Nat.lt_succ_self _) _ _ _ (hP.cast ((sL_self _ 4).symm)) hS (lv_sub hl [1, 2, 3, 4, 0] rfl)
          · skip
            refine lv_iconst (v := 0) hx hb dX5_sheet_76 (by decide) ?_
            refine lv_goto (tgt := 81) hx hb dX5_sheet_77 (by decide) ?_
            refine ar_st hx hb hE hP hS 41 4 (by decide) (ar_at41 ((sI_ne _ _ (by decide)).trans rfl)) (ar_set41 _ _) j9 (by omega) rfl dX5_sheet_81 (fun H locs hP hS => ?_)
            refine lv_iconst (v := 0) hx hb dX5_sheet_82 (by decide) ?_
            refine lv_istore (lv' := [(4, .int 0), (0, .ref (gad G 34)), (1, .int (nI j9)), (2, .int b), (3, .int n)]) hx hb dX5_sheet_83 hl (by decide) rfl (fun ls hl => ?_)
            have J85 : ∀ (fu : Nat) (k9 : Nat) (z2 : Int32) (E : Nat → Int64) (hk : k9 ≤ 40) (hfs : f_sheet (nI j9) b n = 0) (hz2 : z2 = if b = 0 then 0 else n) (hG : E = zrS (u.2 4) j9 k9) (hrk : 40 - k9 < fu) (H : Heap) (locs : List Loc) (ls : Array Slot), WP G (sL (sI (sI u 17 (upd (u.1 17) j9 b)) 18 (upd (u.1 18) j9 z2)) 4 E) H → va_S (gA G) s0.heap H locs → lv_has ls 5 [(0, .ref (gad G 34)), (1, .int (nI j9)), (2, .int b), (3, .int n), (4, .int (nI k9))] → W pg l ev (headSpec wsX5_sheet (rmO 2 43)).room s0 mm ([.ref (gad G 34), .int (nI j9), .int b, .int n] : List Value).toArray below meth cd H locs 0 0 (MQ below (va_Qi (PS u 15 F (f_sheet (nI j9) b n) (fun r v => r = (if b = 0 then 0 else n) ∧ v = sL (sI (sI u 17 (upd (u.1 17) (nI j9).toNatClampNeg b)) 18 (upd (u.1 18) (nI j9).toNatClampNeg (if b = 0 then 0 else n))) 4 (zrS (u.2 4) (nI j9).toNatClampNeg 40))) (fun v t => WP G v t.heap) (gA G)) ([.ref (gad G 34), .int (nI j9), .int b, .int n] : List Value).toArray s0 0 0 (gA G)) (F0 mm 85 ls []) := by
              intro fu
              induction fu with
              | zero => intro k9 z2 E hk hfs hz2 hG hrk; exact absurd hrk (Nat.not_lt_zero _)
              | succ fu ih85 =>
                intro k9 z2 E hk hfs hz2 hG hrk H locs ls hP hS hl
                refine lv_iload hx hb dX5_sheet_85 (lv_at hl 4 rfl) ?_
                refine lv_bipush (v := 40) hx hb dX5_sheet_87 (by decide) ?_
                refine nn_ge (a := k9) (b := 40) (by omega) (by omega) (tgt := 111) hx hb dX5_sheet_89 (by decide) (fun c_9 => ?_) (fun c_9 => ?_)
                · skip
                  refine lv_aload_n hx hb dX5_sheet_111 rfl (lv_at hl 0 rfl) ?_
                  refine mo_get hx hb hts hin5 hown hE hP (sL_1r ((sI_ne _ _ (by decide)).trans ((sI_ne _ _ (by decide)).trans rfl))) 13 (by decide) (hts (.fieldLink RX5 28 "HeldDoorModel" "sizeOf" "[I") (by decide +kernel)) (v := .ref (gad G 41)) rfl dX5_sheet_112 ?_
                  refine lv_iload_n hx hb dX5_sheet_115 rfl (lv_at hl 1 rfl) ?_
                  refine ar_ld hx hb hE hP 41 4 (by decide) (ar_at41 (sL_1r (sI_at _ _ _))) j9 (by omega) dX5_sheet_116 ?_
                  refine lv_cast (y := z2) (by rw [up_at]) ?_
                  exact hd_iret hx hb hr hlocks hP hS (PS.ok hfs (by rw [nI_clamp (show j9 < 2 ^ 31 by omega), hG, show k9 = 40 by omega]; exact ⟨hz2, by rw [hz2]⟩)) dX5_sheet_117
                · skip
                  refine lv_aload_n hx hb dX5_sheet_92 rfl (lv_at hl 0 rfl) ?_
                  refine mo_get hx hb hts hin5 hown hE hP (sL_1r ((sI_ne _ _ (by decide)).trans ((sI_ne _ _ (by decide)).trans rfl))) 14 (by decide) (hts (.fieldLink RX5 31 "HeldDoorModel" "cells" "[J") (by decide +kernel)) (v := .ref (gad G 42)) rfl dX5_sheet_93 ?_
                  refine lv_bipush (v := 40) hx hb dX5_sheet_96 (by decide) ?_
                  refine lv_iload_n hx hb dX5_sheet_98 rfl (lv_at hl 1 rfl) ?_
                  refine nn_imul (a := 40) (b := j9) hx hb dX5_sheet_99 ?_
                  refine lv_iload hx hb dX5_sheet_100 (lv_at hl 4 rfl) ?_
                  refine nn_iadd (a := 40 * j9) (b := k9) hx hb dX5_sheet_102 ?_
                  refine lv_lconst (v := 0) hx hb dX5_sheet_103 (by decide) ?_
                  refine ce_st hx hb hE hP hS (sL_at _ _ _) (40 * j9 + k9) (by omega) (sL_sL _ _ _ _) dX5_sheet_104 (fun H locs hP hS => ?_)
                  refine lv_iinc (v := nI (k9 + 1)) (lv' := [(4, .int (nI (k9 + 1))), (0, .ref (gad G 34)), (1, .int (nI j9)), (2, .int b), (3, .int n)]) hx hb dX5_sheet_105 hl (k := 4) rfl (inc1 _) (by decide) rfl (fun ls hl => ?_)
                  refine lv_goto (tgt := 85) hx hb dX5_sheet_108 (by decide) ?_
                  exact ih85 (k9 + 1) z2 (vp_updL E (40 * j9 + k9) 0) (by omega) hfs hz2 (by rw [hG]; exact zrS_s _ _ _) (by omega) _ _ _ hP hS (lv_sub hl [1, 2, 3, 4, 0] rfl)
            exact J85 _ 0 0 (u.2 4) (Nat.zero_le _) (by simp [f_sheet, wid, c_2, c_4, c_5, c_6, c_7, Int32.not_lt.mpr c_5, Int32.not_lt.mpr c_6, nI_clamp (show j9 < 2 ^ 31 by omega)]) (by rw [if_pos c_7]) ((zrS_0 _ _).symm) (Nat.lt_succ_self _) _ _ _ (hP.cast ((sL_self _ 4).symm)) hS (lv_sub hl [1, 2, 3, 4, 0] rfl)
        · skip
          refine lv_aload_n hx hb dX5_sheet_53 rfl (lv_at hl 0 rfl) ?_
          refine lv_ldc (v := (-1000000001)) hx hb hown (hts (.constant RX5 35 ((-1000000001))) (by decide +kernel)) dX5_sheet_54 ?_
          refine hd_callVi (As := [.int (-1000000001)]) (rest := []) ⟨hx, hb, hml, hown, hts⟩ hE hP hS (c_X5_finds_0 l G u F h15) rfl (cwV 1 hts gX5_sheet_X5_finds rfl rfl rfl (by decide +kernel) ⟨Nat.le_of_ble_eq_true rfl, Nat.le_of_ble_eq_true rfl⟩) (mo_recv hE hP) rfl hl.1 rfl (Nat.le_of_ble_eq_true rfl) dX5_sheet_56 (fun rq_10 vq_10 H locs q_10 hP hS => ?_)
          have hP := hP.cast (q_10.2)
          refine lv_cast q_10.1 ?_
          exact hd_iret hx hb hr hlocks hP hS (PS.bad (-1000000001) (by simp [f_sheet, wid, c_2, c_4, c_5, c_6, Int32.not_lt.mpr c_5, Int32.not_le.mp c_6, nI_clamp (show j9 < 2 ^ 31 by omega)]) (by decide) rfl rfl) dX5_sheet_59
      · skip
        refine lv_aload_n hx hb dX5_sheet_40 rfl (lv_at hl 0 rfl) ?_
        refine lv_ldc (v := (-1000000007)) hx hb hown (hts (.constant RX5 191 ((-1000000007))) (by decide +kernel)) dX5_sheet_41 ?_
        refine hd_callVi (As := [.int (-1000000007)]) (rest := []) ⟨hx, hb, hml, hown, hts⟩ hE hP hS (c_X5_finds_6 l G u F h15) rfl (cwV 1 hts gX5_sheet_X5_finds rfl rfl rfl (by decide +kernel) ⟨Nat.le_of_ble_eq_true rfl, Nat.le_of_ble_eq_true rfl⟩) (mo_recv hE hP) rfl hl.1 rfl (Nat.le_of_ble_eq_true rfl) dX5_sheet_43 (fun rq_11 vq_11 H locs q_11 hP hS => ?_)
        have hP := hP.cast (q_11.2)
        refine lv_cast q_11.1 ?_
        exact hd_iret hx hb hr hlocks hP hS (PS.bad (-1000000007) (by simp [f_sheet, wid, c_2, c_4, c_5, Int32.not_le.mp c_5, nI_clamp (show j9 < 2 ^ 31 by omega)]) (by decide) rfl rfl) dX5_sheet_46
    · skip
      refine lv_iload_n hx hb dX5_sheet_11 rfl (lv_at hl 2 rfl) ?_
      refine lv_bipush (v := 8) hx hb dX5_sheet_12 (by decide) ?_
      refine lv_icmp_eq (tgt := 36) hx hb dX5_sheet_14 (by decide) (fun c_12 => ?_) (fun c_12 => ?_)
      · skip
        refine lv_iload_n hx hb dX5_sheet_36 rfl (lv_at hl 3 rfl) ?_
        refine lv_if_ge (tgt := 47) hx hb dX5_sheet_37 (by decide) (fun c_13 => ?_) (fun c_13 => ?_)
        · skip
          refine lv_iload_n hx hb dX5_sheet_47 rfl (lv_at hl 3 rfl) ?_
          refine lv_bipush (v := 40) hx hb dX5_sheet_48 (by decide) ?_
          refine lv_icmp_le (tgt := 60) hx hb dX5_sheet_50 (by decide) (fun c_14 => ?_) (fun c_14 => ?_)
          · skip
            refine lv_aload_n hx hb dX5_sheet_60 rfl (lv_at hl 0 rfl) ?_
            refine mo_get hx hb hts hin5 hown hE hP rfl 12 (by decide) (hts (.fieldLink RX5 25 "HeldDoorModel" "bitsOf" "[I") (by decide +kernel)) (v := .ref (gad G 40)) rfl dX5_sheet_61 ?_
            refine lv_iload_n hx hb dX5_sheet_64 rfl (lv_at hl 1 rfl) ?_
            refine lv_iload_n hx hb dX5_sheet_65 rfl (lv_at hl 2 rfl) ?_
            refine ar_st hx hb hE hP hS 40 4 (by decide) (ar_at40 rfl) (ar_set40 _ _) j9 (by omega) rfl dX5_sheet_66 (fun H locs hP hS => ?_)
            refine lv_aload_n hx hb dX5_sheet_67 rfl (lv_at hl 0 rfl) ?_
            refine mo_get hx hb hts hin5 hown hE hP ((sI_ne _ _ (by decide)).trans rfl) 13 (by decide) (hts (.fieldLink RX5 28 "HeldDoorModel" "sizeOf" "[I") (by decide +kernel)) (v := .ref (gad G 41)) rfl dX5_sheet_68 ?_
            refine lv_iload_n hx hb dX5_sheet_71 rfl (lv_at hl 1 rfl) ?_
            refine lv_iload_n hx hb dX5_sheet_72 rfl (lv_at hl 2 rfl) ?_
            refine lv_if_ne (tgt := 80) hx hb dX5_sheet_73 (by decide) (fun c_15 => ?_) (fun c_15 => ?_)
            · skip
              refine lv_iload_n hx hb dX5_sheet_80 rfl (lv_at hl 3 rfl) ?_
              refine ar_st hx hb hE hP hS 41 4 (by decide) (ar_at41 ((sI_ne _ _ (by decide)).trans rfl)) (ar_set41 _ _) j9 (by omega) rfl dX5_sheet_81 (fun H locs hP hS => ?_)
              refine lv_iconst (v := 0) hx hb dX5_sheet_82 (by decide) ?_
              refine lv_istore (lv' := [(4, .int 0), (0, .ref (gad G 34)), (1, .int (nI j9)), (2, .int b), (3, .int n)]) hx hb dX5_sheet_83 hl (by decide) rfl (fun ls hl => ?_)
              have J85 : ∀ (fu : Nat) (k9 : Nat) (z2 : Int32) (E : Nat → Int64) (hk : k9 ≤ 40) (hfs : f_sheet (nI j9) b n = 0) (hz2 : z2 = if b = 0 then 0 else n) (hG : E = zrS (u.2 4) j9 k9) (hrk : 40 - k9 < fu) (H : Heap) (locs : List Loc) (ls : Array Slot), WP G (sL (sI (sI u 17 (upd (u.1 17) j9 b)) 18 (upd (u.1 18) j9 z2)) 4 E) H → va_S (gA G) s0.heap H locs → lv_has ls 5 [(0, .ref (gad G 34)), (1, .int (nI j9)), (2, .int b), (3, .int n), (4, .int (nI k9))] → W pg l ev (headSpec wsX5_sheet (rmO 2 43)).room s0 mm ([.ref (gad G 34), .int (nI j9), .int b, .int n] : List Value).toArray below meth cd H locs 0 0 (MQ below (va_Qi (PS u 15 F (f_sheet (nI j9) b n) (fun r v => r = (if b = 0 then 0 else n) ∧ v = sL (sI (sI u 17 (upd (u.1 17) (nI j9).toNatClampNeg b)) 18 (upd (u.1 18) (nI j9).toNatClampNeg (if b = 0 then 0 else n))) 4 (zrS (u.2 4) (nI j9).toNatClampNeg 40))) (fun v t => WP G v t.heap) (gA G)) ([.ref (gad G 34), .int (nI j9), .int b, .int n] : List Value).toArray s0 0 0 (gA G)) (F0 mm 85 ls []) := by
                intro fu
                induction fu with
                | zero => intro k9 z2 E hk hfs hz2 hG hrk; exact absurd hrk (Nat.not_lt_zero _)
                | succ fu ih85 =>
                  intro k9 z2 E hk hfs hz2 hG hrk H locs ls hP hS hl
                  refine lv_iload hx hb dX5_sheet_85 (lv_at hl 4 rfl) ?_
                  refine lv_bipush (v := 40) hx hb dX5_sheet_87 (by decide) ?_
                  refine nn_ge (a := k9) (b := 40) (by omega) (by omega) (tgt := 111) hx hb dX5_sheet_89 (by decide) (fun c_16 => ?_) (fun c_16 => ?_)
                  · skip
                    refine lv_aload_n hx hb dX5_sheet_111 rfl (lv_at hl 0 rfl) ?_
                    refine mo_get hx hb hts hin5 hown hE hP (sL_1r ((sI_ne _ _ (by decide)).trans ((sI_ne _ _ (by decide)).trans rfl))) 13 (by decide) (hts (.fieldLink RX5 28 "HeldDoorModel" "sizeOf" "[I") (by decide +kernel)) (v := .ref (gad G 41)) rfl dX5_sheet_112 ?_
                    refine lv_iload_n hx hb dX5_sheet_115 rfl (lv_at hl 1 rfl) ?_
                    refine ar_ld hx hb hE hP 41 4 (by decide) (ar_at41 (sL_1r (sI_at _ _ _))) j9 (by omega) dX5_sheet_116 ?_
                    refine lv_cast (y := z2) (by rw [up_at]) ?_
                    exact hd_iret hx hb hr hlocks hP hS (PS.ok hfs (by rw [nI_clamp (show j9 < 2 ^ 31 by omega), hG, show k9 = 40 by omega]; exact ⟨hz2, by rw [hz2]⟩)) dX5_sheet_117
                  · skip
                    refine lv_aload_n hx hb dX5_sheet_92 rfl (lv_at hl 0 rfl) ?_
                    refine mo_get hx hb hts hin5 hown hE hP (sL_1r ((sI_ne _ _ (by decide)).trans ((sI_ne _ _ (by decide)).trans rfl))) 14 (by decide) (hts (.fieldLink RX5 31 "HeldDoorModel" "cells" "[J") (by decide +kernel)) (v := .ref (gad G 42)) rfl dX5_sheet_93 ?_
                    refine lv_bipush (v := 40) hx hb dX5_sheet_96 (by decide) ?_
                    refine lv_iload_n hx hb dX5_sheet_98 rfl (lv_at hl 1 rfl) ?_
                    refine nn_imul (a := 40) (b := j9) hx hb dX5_sheet_99 ?_
                    refine lv_iload hx hb dX5_sheet_100 (lv_at hl 4 rfl) ?_
                    refine nn_iadd (a := 40 * j9) (b := k9) hx hb dX5_sheet_102 ?_
                    refine lv_lconst (v := 0) hx hb dX5_sheet_103 (by decide) ?_
                    refine ce_st hx hb hE hP hS (sL_at _ _ _) (40 * j9 + k9) (by omega) (sL_sL _ _ _ _) dX5_sheet_104 (fun H locs hP hS => ?_)
                    refine lv_iinc (v := nI (k9 + 1)) (lv' := [(4, .int (nI (k9 + 1))), (0, .ref (gad G 34)), (1, .int (nI j9)), (2, .int b), (3, .int n)]) hx hb dX5_sheet_105 hl (k := 4) rfl (inc1 _) (by decide) rfl (fun ls hl => ?_)
                    refine lv_goto (tgt := 85) hx hb dX5_sheet_108 (by decide) ?_
                    exact ih85 (k9 + 1) z2 (vp_updL E (40 * j9 + k9) 0) (by omega) hfs hz2 (by rw [hG]; exact zrS_s _ _ _) (by omega) _ _ _ hP hS (lv_sub hl [1, 2, 3, 4, 0] rfl)
              exact J85 _ 0 n (u.2 4) (Nat.zero_le _) (by simp [f_sheet, wid, c_2, c_4, c_12, c_13, c_14, c_15, Int32.not_lt.mpr c_13, Int32.not_lt.mpr c_14, nI_clamp (show j9 < 2 ^ 31 by omega)]) (by rw [if_neg c_15]) ((zrS_0 _ _).symm) (Nat.lt_succ_self _) _ _ _ (hP.cast ((sL_self _ 4).symm)) hS (lv_sub hl [1, 2, 3, 4, 0] rfl)
            · skip
              refine lv_iconst (v := 0) hx hb dX5_sheet_76 (by decide) ?_
              refine lv_goto (tgt := 81) hx hb dX5_sheet_77 (by decide) ?_
              refine ar_st hx hb hE hP hS 41 4 (by decide) (ar_at41 ((sI_ne _ _ (by decide)).trans rfl)) (ar_set41 _ _) j9 (by omega) rfl dX5_sheet_81 (fun H locs hP hS => ?_)
              refine lv_iconst (v := 0) hx hb dX5_sheet_82 (by decide) ?_
              refine lv_istore (lv' := [(4, .int 0), (0, .ref (gad G 34)), (1, .int (nI j9)), (2, .int b), (3, .int n)]) hx hb dX5_sheet_83 hl (by decide) rfl (fun ls hl => ?_)
              have J85 : ∀ (fu : Nat) (k9 : Nat) (z2 : Int32) (E : Nat → Int64) (hk : k9 ≤ 40) (hfs : f_sheet (nI j9) b n = 0) (hz2 : z2 = if b = 0 then 0 else n) (hG : E = zrS (u.2 4) j9 k9) (hrk : 40 - k9 < fu) (H : Heap) (locs : List Loc) (ls : Array Slot), WP G (sL (sI (sI u 17 (upd (u.1 17) j9 b)) 18 (upd (u.1 18) j9 z2)) 4 E) H → va_S (gA G) s0.heap H locs → lv_has ls 5 [(0, .ref (gad G 34)), (1, .int (nI j9)), (2, .int b), (3, .int n), (4, .int (nI k9))] → W pg l ev (headSpec wsX5_sheet (rmO 2 43)).room s0 mm ([.ref (gad G 34), .int (nI j9), .int b, .int n] : List Value).toArray below meth cd H locs 0 0 (MQ below (va_Qi (PS u 15 F (f_sheet (nI j9) b n) (fun r v => r = (if b = 0 then 0 else n) ∧ v = sL (sI (sI u 17 (upd (u.1 17) (nI j9).toNatClampNeg b)) 18 (upd (u.1 18) (nI j9).toNatClampNeg (if b = 0 then 0 else n))) 4 (zrS (u.2 4) (nI j9).toNatClampNeg 40))) (fun v t => WP G v t.heap) (gA G)) ([.ref (gad G 34), .int (nI j9), .int b, .int n] : List Value).toArray s0 0 0 (gA G)) (F0 mm 85 ls []) := by
                intro fu
                induction fu with
                | zero => intro k9 z2 E hk hfs hz2 hG hrk; exact absurd hrk (Nat.not_lt_zero _)
                | succ fu ih85 =>
                  intro k9 z2 E hk hfs hz2 hG hrk H locs ls hP hS hl
                  refine lv_iload hx hb dX5_sheet_85 (lv_at hl 4 rfl) ?_
                  refine lv_bipush (v := 40) hx hb dX5_sheet_87 (by decide) ?_
                  refine nn_ge (a := k9) (b := 40) (by omega) (by omega) (tgt := 111) hx hb dX5_sheet_89 (by decide) (fun c_17 => ?_) (fun c_17 => ?_)
                  · skip
                    refine lv_aload_n hx hb dX5_sheet_111 rfl (lv_at hl 0 rfl) ?_
                    refine mo_get hx hb hts hin5 hown hE hP (sL_1r ((sI_ne _ _ (by decide)).trans ((sI_ne _ _ (by decide)).trans rfl))) 13 (by decide) (hts (.fieldLink RX5 28 "HeldDoorModel" "sizeOf" "[I") (by decide +kernel)) (v := .ref (gad G 41)) rfl dX5_sheet_112 ?_
                    refine lv_iload_n hx hb dX5_sheet_115 rfl (lv_at hl 1 rfl) ?_
                    refine ar_ld hx hb hE hP 41 4 (by decide) (ar_at41 (sL_1r (sI_at _ _ _))) j9 (by omega) dX5_sheet_116 ?_
                    refine lv_cast (y := z2) (by rw [up_at]) ?_
                    exact hd_iret hx hb hr hlocks hP hS (PS.ok hfs (by rw [nI_clamp (show j9 < 2 ^ 31 by omega), hG, show k9 = 40 by omega]; exact ⟨hz2, by rw [hz2]⟩)) dX5_sheet_117
                  · skip
                    refine lv_aload_n hx hb dX5_sheet_92 rfl (lv_at hl 0 rfl) ?_
                    refine mo_get hx hb hts hin5 hown hE hP (sL_1r ((sI_ne _ _ (by decide)).trans ((sI_ne _ _ (by decide)).trans rfl))) 14 (by decide) (hts (.fieldLink RX5 31 "HeldDoorModel" "cells" "[J") (by decide +kernel)) (v := .ref (gad G 42)) rfl dX5_sheet_93 ?_
                    refine lv_bipush (v := 40) hx hb dX5_sheet_96 (by decide) ?_
                    refine lv_iload_n hx hb dX5_sheet_98 rfl (lv_at hl 1 rfl) ?_
                    refine nn_imul (a := 40) (b := j9) hx hb dX5_sheet_99 ?_
                    refine lv_iload hx hb dX5_sheet_100 (lv_at hl 4 rfl) ?_
                    refine nn_iadd (a := 40 * j9) (b := k9) hx hb dX5_sheet_102 ?_
                    refine lv_lconst (v := 0) hx hb dX5_sheet_103 (by decide) ?_
                    refine ce_st hx hb hE hP hS (sL_at _ _ _) (40 * j9 + k9) (by omega) (sL_sL _ _ _ _) dX5_sheet_104 (fun H locs hP hS => ?_)
                    refine lv_iinc (v := nI (k9 + 1)) (lv' := [(4, .int (nI (k9 + 1))), (0, .ref (gad G 34)), (1, .int (nI j9)), (2, .int b), (3, .int n)]) hx hb dX5_sheet_105 hl (k := 4) rfl (inc1 _) (by decide) rfl (fun ls hl => ?_)
                    refine lv_goto (tgt := 85) hx hb dX5_sheet_108 (by decide) ?_
                    exact ih85 (k9 + 1) z2 (vp_updL E (40 * j9 + k9) 0) (by omega) hfs hz2 (by rw [hG]; exact zrS_s _ _ _) (by omega) _ _ _ hP hS (lv_sub hl [1, 2, 3, 4, 0] rfl)
              exact J85 _ 0 0 (u.2 4) (Nat.zero_le _) (by simp [f_sheet, wid, c_2, c_4, c_12, c_13, c_14, c_15, Int32.not_lt.mpr c_13, Int32.not_lt.mpr c_14, nI_clamp (show j9 < 2 ^ 31 by omega)]) (by rw [if_pos c_15]) ((zrS_0 _ _).symm) (Nat.lt_succ_self _) _ _ _ (hP.cast ((sL_self _ 4).symm)) hS (lv_sub hl [1, 2, 3, 4, 0] rfl)
          · skip
            refine lv_aload_n hx hb dX5_sheet_53 rfl (lv_at hl 0 rfl) ?_
            refine lv_ldc (v := (-1000000001)) hx hb hown (hts (.constant RX5 35 ((-1000000001))) (by decide +kernel)) dX5_sheet_54 ?_
            refine hd_callVi (As := [.int (-1000000001)]) (rest := []) ⟨hx, hb, hml, hown, hts⟩ hE hP hS (c_X5_finds_0 l G u F h15) rfl (cwV 1 hts gX5_sheet_X5_finds rfl rfl rfl (by decide +kernel) ⟨Nat.le_of_ble_eq_true rfl, Nat.le_of_ble_eq_true rfl⟩) (mo_recv hE hP) rfl hl.1 rfl (Nat.le_of_ble_eq_true rfl) dX5_sheet_56 (fun rq_18 vq_18 H locs q_18 hP hS => ?_)
            have hP := hP.cast (q_18.2)
            refine lv_cast q_18.1 ?_
            exact hd_iret hx hb hr hlocks hP hS (PS.bad (-1000000001) (by simp [f_sheet, wid, c_2, c_4, c_12, c_13, c_14, Int32.not_lt.mpr c_13, Int32.not_le.mp c_14, nI_clamp (show j9 < 2 ^ 31 by omega)]) (by decide) rfl rfl) dX5_sheet_59
        · skip
          refine lv_aload_n hx hb dX5_sheet_40 rfl (lv_at hl 0 rfl) ?_
          refine lv_ldc (v := (-1000000007)) hx hb hown (hts (.constant RX5 191 ((-1000000007))) (by decide +kernel)) dX5_sheet_41 ?_
          refine hd_callVi (As := [.int (-1000000007)]) (rest := []) ⟨hx, hb, hml, hown, hts⟩ hE hP hS (c_X5_finds_6 l G u F h15) rfl (cwV 1 hts gX5_sheet_X5_finds rfl rfl rfl (by decide +kernel) ⟨Nat.le_of_ble_eq_true rfl, Nat.le_of_ble_eq_true rfl⟩) (mo_recv hE hP) rfl hl.1 rfl (Nat.le_of_ble_eq_true rfl) dX5_sheet_43 (fun rq_19 vq_19 H locs q_19 hP hS => ?_)
          have hP := hP.cast (q_19.2)
          refine lv_cast q_19.1 ?_
          exact hd_iret hx hb hr hlocks hP hS (PS.bad (-1000000007) (by simp [f_sheet, wid, c_2, c_4, c_12, c_13, Int32.not_le.mp c_13, nI_clamp (show j9 < 2 ^ 31 by omega)]) (by decide) rfl rfl) dX5_sheet_46
      · skip
        refine lv_iload_n hx hb dX5_sheet_17 rfl (lv_at hl 2 rfl) ?_
        refine lv_bipush (v := 16) hx hb dX5_sheet_18 (by decide) ?_
        refine lv_icmp_eq (tgt := 36) hx hb dX5_sheet_20 (by decide) (fun c_20 => ?_) (fun c_20 => ?_)
        · skip
          refine lv_iload_n hx hb dX5_sheet_36 rfl (lv_at hl 3 rfl) ?_
          refine lv_if_ge (tgt := 47) hx hb dX5_sheet_37 (by decide) (fun c_21 => ?_) (fun c_21 => ?_)
          · skip
            refine lv_iload_n hx hb dX5_sheet_47 rfl (lv_at hl 3 rfl) ?_
            refine lv_bipush (v := 40) hx hb dX5_sheet_48 (by decide) ?_
            refine lv_icmp_le (tgt := 60) hx hb dX5_sheet_50 (by decide) (fun c_22 => ?_) (fun c_22 => ?_)
            · skip
              refine lv_aload_n hx hb dX5_sheet_60 rfl (lv_at hl 0 rfl) ?_
              refine mo_get hx hb hts hin5 hown hE hP rfl 12 (by decide) (hts (.fieldLink RX5 25 "HeldDoorModel" "bitsOf" "[I") (by decide +kernel)) (v := .ref (gad G 40)) rfl dX5_sheet_61 ?_
              refine lv_iload_n hx hb dX5_sheet_64 rfl (lv_at hl 1 rfl) ?_
              refine lv_iload_n hx hb dX5_sheet_65 rfl (lv_at hl 2 rfl) ?_
              refine ar_st hx hb hE hP hS 40 4 (by decide) (ar_at40 rfl) (ar_set40 _ _) j9 (by omega) rfl dX5_sheet_66 (fun H locs hP hS => ?_)
              refine lv_aload_n hx hb dX5_sheet_67 rfl (lv_at hl 0 rfl) ?_
              refine mo_get hx hb hts hin5 hown hE hP ((sI_ne _ _ (by decide)).trans rfl) 13 (by decide) (hts (.fieldLink RX5 28 "HeldDoorModel" "sizeOf" "[I") (by decide +kernel)) (v := .ref (gad G 41)) rfl dX5_sheet_68 ?_
              refine lv_iload_n hx hb dX5_sheet_71 rfl (lv_at hl 1 rfl) ?_
              refine lv_iload_n hx hb dX5_sheet_72 rfl (lv_at hl 2 rfl) ?_
              refine lv_if_ne (tgt := 80) hx hb dX5_sheet_73 (by decide) (fun c_23 => ?_) (fun c_23 => ?_)
              · skip
                refine lv_iload_n hx hb dX5_sheet_80 rfl (lv_at hl 3 rfl) ?_
                refine ar_st hx hb hE hP hS 41 4 (by decide) (ar_at41 ((sI_ne _ _ (by decide)).trans rfl)) (ar_set41 _ _) j9 (by omega) rfl dX5_sheet_81 (fun H locs hP hS => ?_)
                refine lv_iconst (v := 0) hx hb dX5_sheet_82 (by decide) ?_
                refine lv_istore (lv' := [(4, .int 0), (0, .ref (gad G 34)), (1, .int (nI j9)), (2, .int b), (3, .int n)]) hx hb dX5_sheet_83 hl (by decide) rfl (fun ls hl => ?_)
                have J85 : ∀ (fu : Nat) (k9 : Nat) (z2 : Int32) (E : Nat → Int64) (hk : k9 ≤ 40) (hfs : f_sheet (nI j9) b n = 0) (hz2 : z2 = if b = 0 then 0 else n) (hG : E = zrS (u.2 4) j9 k9) (hrk : 40 - k9 < fu) (H : Heap) (locs : List Loc) (ls : Array Slot), WP G (sL (sI (sI u 17 (upd (u.1 17) j9 b)) 18 (upd (u.1 18) j9 z2)) 4 E) H → va_S (gA G) s0.heap H locs → lv_has ls 5 [(0, .ref (gad G 34)), (1, .int (nI j9)), (2, .int b), (3, .int n), (4, .int (nI k9))] → W pg l ev (headSpec wsX5_sheet (rmO 2 43)).room s0 mm ([.ref (gad G 34), .int (nI j9), .int b, .int n] : List Value).toArray below meth cd H locs 0 0 (MQ below (va_Qi (PS u 15 F (f_sheet (nI j9) b n) (fun r v => r = (if b = 0 then 0 else n) ∧ v = sL (sI (sI u 17 (upd (u.1 17) (nI j9).toNatClampNeg b)) 18 (upd (u.1 18) (nI j9).toNatClampNeg (if b = 0 then 0 else n))) 4 (zrS (u.2 4) (nI j9).toNatClampNeg 40))) (fun v t => WP G v t.heap) (gA G)) ([.ref (gad G 34), .int (nI j9), .int b, .int n] : List Value).toArray s0 0 0 (gA G)) (F0 mm 85 ls []) := by
                  intro fu
                  induction fu with
                  | zero => intro k9 z2 E hk hfs hz2 hG hrk; exact absurd hrk (Nat.not_lt_zero _)
                  | succ fu ih85 =>
                    intro k9 z2 E hk hfs hz2 hG hrk H locs ls hP hS hl
                    refine lv_iload hx hb dX5_sheet_85 (lv_at hl 4 rfl) ?_
                    refine lv_bipush (v := 40) hx hb dX5_sheet_87 (by decide) ?_
                    refine nn_ge (a := k9) (b := 40) (by omega) (by omega) (tgt := 111) hx hb dX5_sheet_89 (by decide) (fun c_24 => ?_) (fun c_24 => ?_)
                    · skip
                      refine lv_aload_n hx hb dX5_sheet_111 rfl (lv_at hl 0 rfl) ?_
                      refine mo_get hx hb hts hin5 hown hE hP (sL_1r ((sI_ne _ _ (by decide)).trans ((sI_ne _ _ (by decide)).trans rfl))) 13 (by decide) (hts (.fieldLink RX5 28 "HeldDoorModel" "sizeOf" "[I") (by decide +kernel)) (v := .ref (gad G 41)) rfl dX5_sheet_112 ?_
                      refine lv_iload_n hx hb dX5_sheet_115 rfl (lv_at hl 1 rfl) ?_
                      refine ar_ld hx hb hE hP 41 4 (by decide) (ar_at41 (sL_1r (sI_at _ _ _))) j9 (by omega) dX5_sheet_116 ?_
                      refine lv_cast (y := z2) (by rw [up_at]) ?_
                      exact hd_iret hx hb hr hlocks hP hS (PS.ok hfs (by rw [nI_clamp (show j9 < 2 ^ 31 by omega), hG, show k9 = 40 by omega]; exact ⟨hz2, by rw [hz2]⟩)) dX5_sheet_117
                    · skip
                      refine lv_aload_n hx hb dX5_sheet_92 rfl (lv_at hl 0 rfl) ?_
                      refine mo_get hx hb hts hin5 hown hE hP (sL_1r ((sI_ne _ _ (by decide)).trans ((sI_ne _ _ (by decide)).trans rfl))) 14 (by decide) (hts (.fieldLink RX5 31 "HeldDoorModel" "cells" "[J") (by decide +kernel)) (v := .ref (gad G 42)) rfl dX5_sheet_93 ?_
                      refine lv_bipush (v := 40) hx hb dX5_sheet_96 (by decide) ?_
                      refine lv_iload_n hx hb dX5_sheet_98 rfl (lv_at hl 1 rfl) ?_
                      refine nn_imul (a := 40) (b := j9) hx hb dX5_sheet_99 ?_
                      refine lv_iload hx hb dX5_sheet_100 (lv_at hl 4 rfl) ?_
                      refine nn_iadd (a := 40 * j9) (b := k9) hx hb dX5_sheet_102 ?_
                      refine lv_lconst (v := 0) hx hb dX5_sheet_103 (by decide) ?_
                      refine ce_st hx hb hE hP hS (sL_at _ _ _) (40 * j9 + k9) (by omega) (sL_sL _ _ _ _) dX5_sheet_104 (fun H locs hP hS => ?_)
                      refine lv_iinc (v := nI (k9 + 1)) (lv' := [(4, .int (nI (k9 + 1))), (0, .ref (gad G 34)), (1, .int (nI j9)), (2, .int b), (3, .int n)]) hx hb dX5_sheet_105 hl (k := 4) rfl (inc1 _) (by decide) rfl (fun ls hl => ?_)
                      refine lv_goto (tgt := 85) hx hb dX5_sheet_108 (by decide) ?_
                      exact ih85 (k9 + 1) z2 (vp_updL E (40 * j9 + k9) 0) (by omega) hfs hz2 (by rw [hG]; exact zrS_s _ _ _) (by omega) _ _ _ hP hS (lv_sub hl [1, 2, 3, 4, 0] rfl)
                exact J85 _ 0 n (u.2 4) (Nat.zero_le _) (by simp [f_sheet, wid, c_2, c_4, c_12, c_20, c_21, c_22, c_23, Int32.not_lt.mpr c_21, Int32.not_lt.mpr c_22, nI_clamp (show j9 < 2 ^ 31 by omega)]) (by rw [if_neg c_23]) ((zrS_0 _ _).symm) (Nat.lt_succ_self _) _ _ _ (hP.cast ((sL_self _ 4).symm)) hS (lv_sub hl [1, 2, 3, 4, 0] rfl)
              · skip
                refine lv_iconst (v := 0) hx hb dX5_sheet_76 (by decide) ?_
                refine lv_goto (tgt := 81) hx hb dX5_sheet_77 (by decide) ?_
                refine ar_st hx hb hE hP hS 41 4 (by decide) (ar_at41 ((sI_ne _ _ (by decide)).trans rfl)) (ar_set41 _ _) j9 (by omega) rfl dX5_sheet_81 (fun H locs hP hS => ?_)
                refine lv_iconst (v := 0) hx hb dX5_sheet_82 (by decide) ?_
                refine lv_istore (lv' := [(4, .int 0), (0, .ref (gad G 34)), (1, .int (nI j9)), (2, .int b), (3, .int n)]) hx hb dX5_sheet_83 hl (by decide) rfl (fun ls hl => ?_)
                have J85 : ∀ (fu : Nat) (k9 : Nat) (z2 : Int32) (E : Nat → Int64) (hk : k9 ≤ 40) (hfs : f_sheet (nI j9) b n = 0) (hz2 : z2 = if b = 0 then 0 else n) (hG : E = zrS (u.2 4) j9 k9) (hrk : 40 - k9 < fu) (H : Heap) (locs : List Loc) (ls : Array Slot), WP G (sL (sI (sI u 17 (upd (u.1 17) j9 b)) 18 (upd (u.1 18) j9 z2)) 4 E) H → va_S (gA G) s0.heap H locs → lv_has ls 5 [(0, .ref (gad G 34)), (1, .int (nI j9)), (2, .int b), (3, .int n), (4, .int (nI k9))] → W pg l ev (headSpec wsX5_sheet (rmO 2 43)).room s0 mm ([.ref (gad G 34), .int (nI j9), .int b, .int n] : List Value).toArray below meth cd H locs 0 0 (MQ below (va_Qi (PS u 15 F (f_sheet (nI j9) b n) (fun r v => r = (if b = 0 then 0 else n) ∧ v = sL (sI (sI u 17 (upd (u.1 17) (nI j9).toNatClampNeg b)) 18 (upd (u.1 18) (nI j9).toNatClampNeg (if b = 0 then 0 else n))) 4 (zrS (u.2 4) (nI j9).toNatClampNeg 40))) (fun v t => WP G v t.heap) (gA G)) ([.ref (gad G 34), .int (nI j9), .int b, .int n] : List Value).toArray s0 0 0 (gA G)) (F0 mm 85 ls []) := by
                  intro fu
                  induction fu with
                  | zero => intro k9 z2 E hk hfs hz2 hG hrk; exact absurd hrk (Nat.not_lt_zero _)
                  | succ fu ih85 =>
                    intro k9 z2 E hk hfs hz2 hG hrk H locs ls hP hS hl
                    refine lv_iload hx hb dX5_sheet_85 (lv_at hl 4 rfl) ?_
                    refine lv_bipush (v := 40) hx hb dX5_sheet_87 (by decide) ?_
                    refine nn_ge (a := k9) (b := 40) (by omega) (by omega) (tgt := 111) hx hb dX5_sheet_89 (by decide) (fun c_25 => ?_) (fun c_25 => ?_)
                    · skip
                      refine lv_aload_n hx hb dX5_sheet_111 rfl (lv_at hl 0 rfl) ?_
                      refine mo_get hx hb hts hin5 hown hE hP (sL_1r ((sI_ne _ _ (by decide)).trans ((sI_ne _ _ (by decide)).trans rfl))) 13 (by decide) (hts (.fieldLink RX5 28 "HeldDoorModel" "sizeOf" "[I") (by decide +kernel)) (v := .ref (gad G 41)) rfl dX5_sheet_112 ?_
                      refine lv_iload_n hx hb dX5_sheet_115 rfl (lv_at hl 1 rfl) ?_
                      refine ar_ld hx hb hE hP 41 4 (by decide) (ar_at41 (sL_1r (sI_at _ _ _))) j9 (by omega) dX5_sheet_116 ?_
                      refine lv_cast (y := z2) (by rw [up_at]) ?_
                      exact hd_iret hx hb hr hlocks hP hS (PS.ok hfs (by rw [nI_clamp (show j9 < 2 ^ 31 by omega), hG, show k9 = 40 by omega]; exact ⟨hz2, by rw [hz2]⟩)) dX5_sheet_117
                    · skip
                      refine lv_aload_n hx hb dX5_sheet_92 rfl (lv_at hl 0 rfl) ?_
                      refine mo_get hx hb hts hin5 hown hE hP (sL_1r ((sI_ne _ _ (by decide)).trans ((sI_ne _ _ (by decide)).trans rfl))) 14 (by decide) (hts (.fieldLink RX5 31 "HeldDoorModel" "cells" "[J") (by decide +kernel)) (v := .ref (gad G 42)) rfl dX5_sheet_93 ?_
                      refine lv_bipush (v := 40) hx hb dX5_sheet_96 (by decide) ?_
                      refine lv_iload_n hx hb dX5_sheet_98 rfl (lv_at hl 1 rfl) ?_
                      refine nn_imul (a := 40) (b := j9) hx hb dX5_sheet_99 ?_
                      refine lv_iload hx hb dX5_sheet_100 (lv_at hl 4 rfl) ?_
                      refine nn_iadd (a := 40 * j9) (b := k9) hx hb dX5_sheet_102 ?_
                      refine lv_lconst (v := 0) hx hb dX5_sheet_103 (by decide) ?_
                      refine ce_st hx hb hE hP hS (sL_at _ _ _) (40 * j9 + k9) (by omega) (sL_sL _ _ _ _) dX5_sheet_104 (fun H locs hP hS => ?_)
                      refine lv_iinc (v := nI (k9 + 1)) (lv' := [(4, .int (nI (k9 + 1))), (0, .ref (gad G 34)), (1, .int (nI j9)), (2, .int b), (3, .int n)]) hx hb dX5_sheet_105 hl (k := 4) rfl (inc1 _) (by decide) rfl (fun ls hl => ?_)
                      refine lv_goto (tgt := 85) hx hb dX5_sheet_108 (by decide) ?_
                      exact ih85 (k9 + 1) z2 (vp_updL E (40 * j9 + k9) 0) (by omega) hfs hz2 (by rw [hG]; exact zrS_s _ _ _) (by omega) _ _ _ hP hS (lv_sub hl [1, 2, 3, 4, 0] rfl)
                exact J85 _ 0 0 (u.2 4) (Nat.zero_le _) (by simp [f_sheet, wid, c_2, c_4, c_12, c_20, c_21, c_22, c_23, Int32.not_lt.mpr c_21, Int32.not_lt.mpr c_22, nI_clamp (show j9 < 2 ^ 31 by omega)]) (by rw [if_pos c_23]) ((zrS_0 _ _).symm) (Nat.lt_succ_self _) _ _ _ (hP.cast ((sL_self _ 4).symm)) hS (lv_sub hl [1, 2, 3, 4, 0] rfl)
            · skip
              refine lv_aload_n hx hb dX5_sheet_53 rfl (lv_at hl 0 rfl) ?_
              refine lv_ldc (v := (-1000000001)) hx hb hown (hts (.constant RX5 35 ((-1000000001))) (by decide +kernel)) dX5_sheet_54 ?_
              refine hd_callVi (As := [.int (-1000000001)]) (rest := []) ⟨hx, hb, hml, hown, hts⟩ hE hP hS (c_X5_finds_0 l G u F h15) rfl (cwV 1 hts gX5_sheet_X5_finds rfl rfl rfl (by decide +kernel) ⟨Nat.le_of_ble_eq_true rfl, Nat.le_of_ble_eq_true rfl⟩) (mo_recv hE hP) rfl hl.1 rfl (Nat.le_of_ble_eq_true rfl) dX5_sheet_56 (fun rq_26 vq_26 H locs q_26 hP hS => ?_)
              have hP := hP.cast (q_26.2)
              refine lv_cast q_26.1 ?_
              exact hd_iret hx hb hr hlocks hP hS (PS.bad (-1000000001) (by simp [f_sheet, wid, c_2, c_4, c_12, c_20, c_21, c_22, Int32.not_lt.mpr c_21, Int32.not_le.mp c_22, nI_clamp (show j9 < 2 ^ 31 by omega)]) (by decide) rfl rfl) dX5_sheet_59
          · skip
            refine lv_aload_n hx hb dX5_sheet_40 rfl (lv_at hl 0 rfl) ?_
            refine lv_ldc (v := (-1000000007)) hx hb hown (hts (.constant RX5 191 ((-1000000007))) (by decide +kernel)) dX5_sheet_41 ?_
            refine hd_callVi (As := [.int (-1000000007)]) (rest := []) ⟨hx, hb, hml, hown, hts⟩ hE hP hS (c_X5_finds_6 l G u F h15) rfl (cwV 1 hts gX5_sheet_X5_finds rfl rfl rfl (by decide +kernel) ⟨Nat.le_of_ble_eq_true rfl, Nat.le_of_ble_eq_true rfl⟩) (mo_recv hE hP) rfl hl.1 rfl (Nat.le_of_ble_eq_true rfl) dX5_sheet_43 (fun rq_27 vq_27 H locs q_27 hP hS => ?_)
            have hP := hP.cast (q_27.2)
            refine lv_cast q_27.1 ?_
            exact hd_iret hx hb hr hlocks hP hS (PS.bad (-1000000007) (by simp [f_sheet, wid, c_2, c_4, c_12, c_20, c_21, Int32.not_le.mp c_21, nI_clamp (show j9 < 2 ^ 31 by omega)]) (by decide) rfl rfl) dX5_sheet_46
        · skip
          refine lv_iload_n hx hb dX5_sheet_23 rfl (lv_at hl 2 rfl) ?_
          refine lv_bipush (v := 64) hx hb dX5_sheet_24 (by decide) ?_
          refine lv_icmp_eq (tgt := 36) hx hb dX5_sheet_26 (by decide) (fun c_28 => ?_) (fun c_28 => ?_)
          · skip
            refine lv_iload_n hx hb dX5_sheet_36 rfl (lv_at hl 3 rfl) ?_
            refine lv_if_ge (tgt := 47) hx hb dX5_sheet_37 (by decide) (fun c_29 => ?_) (fun c_29 => ?_)
            · skip
              refine lv_iload_n hx hb dX5_sheet_47 rfl (lv_at hl 3 rfl) ?_
              refine lv_bipush (v := 40) hx hb dX5_sheet_48 (by decide) ?_
              refine lv_icmp_le (tgt := 60) hx hb dX5_sheet_50 (by decide) (fun c_30 => ?_) (fun c_30 => ?_)
              · skip
                refine lv_aload_n hx hb dX5_sheet_60 rfl (lv_at hl 0 rfl) ?_
                refine mo_get hx hb hts hin5 hown hE hP rfl 12 (by decide) (hts (.fieldLink RX5 25 "HeldDoorModel" "bitsOf" "[I") (by decide +kernel)) (v := .ref (gad G 40)) rfl dX5_sheet_61 ?_
                refine lv_iload_n hx hb dX5_sheet_64 rfl (lv_at hl 1 rfl) ?_
                refine lv_iload_n hx hb dX5_sheet_65 rfl (lv_at hl 2 rfl) ?_
                refine ar_st hx hb hE hP hS 40 4 (by decide) (ar_at40 rfl) (ar_set40 _ _) j9 (by omega) rfl dX5_sheet_66 (fun H locs hP hS => ?_)
                refine lv_aload_n hx hb dX5_sheet_67 rfl (lv_at hl 0 rfl) ?_
                refine mo_get hx hb hts hin5 hown hE hP ((sI_ne _ _ (by decide)).trans rfl) 13 (by decide) (hts (.fieldLink RX5 28 "HeldDoorModel" "sizeOf" "[I") (by decide +kernel)) (v := .ref (gad G 41)) rfl dX5_sheet_68 ?_
                refine lv_iload_n hx hb dX5_sheet_71 rfl (lv_at hl 1 rfl) ?_
                refine lv_iload_n hx hb dX5_sheet_72 rfl (lv_at hl 2 rfl) ?_
                refine lv_if_ne (tgt := 80) hx hb dX5_sheet_73 (by decide) (fun c_31 => ?_) (fun c_31 => ?_)
                · skip
                  refine lv_iload_n hx hb dX5_sheet_80 rfl (lv_at hl 3 rfl) ?_
                  refine ar_st hx hb hE hP hS 41 4 (by decide) (ar_at41 ((sI_ne _ _ (by decide)).trans rfl)) (ar_set41 _ _) j9 (by omega) rfl dX5_sheet_81 (fun H locs hP hS => ?_)
                  refine lv_iconst (v := 0) hx hb dX5_sheet_82 (by decide) ?_
                  refine lv_istore (lv' := [(4, .int 0), (0, .ref (gad G 34)), (1, .int (nI j9)), (2, .int b), (3, .int n)]) hx hb dX5_sheet_83 hl (by decide) rfl (fun ls hl => ?_)
                  have J85 : ∀ (fu : Nat) (k9 : Nat) (z2 : Int32) (E : Nat → Int64) (hk : k9 ≤ 40) (hfs : f_sheet (nI j9) b n = 0) (hz2 : z2 = if b = 0 then 0 else n) (hG : E = zrS (u.2 4) j9 k9) (hrk : 40 - k9 < fu) (H : Heap) (locs : List Loc) (ls : Array Slot), WP G (sL (sI (sI u 17 (upd (u.1 17) j9 b)) 18 (upd (u.1 18) j9 z2)) 4 E) H → va_S (gA G) s0.heap H locs → lv_has ls 5 [(0, .ref (gad G 34)), (1, .int (nI j9)), (2, .int b), (3, .int n), (4, .int (nI k9))] → W pg l ev (headSpec wsX5_sheet (rmO 2 43)).room s0 mm ([.ref (gad G 34), .int (nI j9), .int b, .int n] : List Value).toArray below meth cd H locs 0 0 (MQ below (va_Qi (PS u 15 F (f_sheet (nI j9) b n) (fun r v => r = (if b = 0 then 0 else n) ∧ v = sL (sI (sI u 17 (upd (u.1 17) (nI j9).toNatClampNeg b)) 18 (upd (u.1 18) (nI j9).toNatClampNeg (if b = 0 then 0 else n))) 4 (zrS (u.2 4) (nI j9).toNatClampNeg 40))) (fun v t => WP G v t.heap) (gA G)) ([.ref (gad G 34), .int (nI j9), .int b, .int n] : List Value).toArray s0 0 0 (gA G)) (F0 mm 85 ls []) := by
                    intro fu
                    induction fu with
                    | zero => intro k9 z2 E hk hfs hz2 hG hrk; exact absurd hrk (Nat.not_lt_zero _)
                    | succ fu ih85 =>
                      intro k9 z2 E hk hfs hz2 hG hrk H locs ls hP hS hl
                      refine lv_iload hx hb dX5_sheet_85 (lv_at hl 4 rfl) ?_
                      refine lv_bipush (v := 40) hx hb dX5_sheet_87 (by decide) ?_
                      refine nn_ge (a := k9) (b := 40) (by omega) (by omega) (tgt := 111) hx hb dX5_sheet_89 (by decide) (fun c_32 => ?_) (fun c_32 => ?_)
                      · skip
                        refine lv_aload_n hx hb dX5_sheet_111 rfl (lv_at hl 0 rfl) ?_
                        refine mo_get hx hb hts hin5 hown hE hP (sL_1r ((sI_ne _ _ (by decide)).trans ((sI_ne _ _ (by decide)).trans rfl))) 13 (by decide) (hts (.fieldLink RX5 28 "HeldDoorModel" "sizeOf" "[I") (by decide +kernel)) (v := .ref (gad G 41)) rfl dX5_sheet_112 ?_
                        refine lv_iload_n hx hb dX5_sheet_115 rfl (lv_at hl 1 rfl) ?_
                        refine ar_ld hx hb hE hP 41 4 (by decide) (ar_at41 (sL_1r (sI_at _ _ _))) j9 (by omega) dX5_sheet_116 ?_
                        refine lv_cast (y := z2) (by rw [up_at]) ?_
                        exact hd_iret hx hb hr hlocks hP hS (PS.ok hfs (by rw [nI_clamp (show j9 < 2 ^ 31 by omega), hG, show k9 = 40 by omega]; exact ⟨hz2, by rw [hz2]⟩)) dX5_sheet_117
                      · skip
                        refine lv_aload_n hx hb dX5_sheet_92 rfl (lv_at hl 0 rfl) ?_
                        refine mo_get hx hb hts hin5 hown hE hP (sL_1r ((sI_ne _ _ (by decide)).trans ((sI_ne _ _ (by decide)).trans rfl))) 14 (by decide) (hts (.fieldLink RX5 31 "HeldDoorModel" "cells" "[J") (by decide +kernel)) (v := .ref (gad G 42)) rfl dX5_sheet_93 ?_
                        refine lv_bipush (v := 40) hx hb dX5_sheet_96 (by decide) ?_
                        refine lv_iload_n hx hb dX5_sheet_98 rfl (lv_at hl 1 rfl) ?_
                        refine nn_imul (a := 40) (b := j9) hx hb dX5_sheet_99 ?_
                        refine lv_iload hx hb dX5_sheet_100 (lv_at hl 4 rfl) ?_
                        refine nn_iadd (a := 40 * j9) (b := k9) hx hb dX5_sheet_102 ?_
                        refine lv_lconst (v := 0) hx hb dX5_sheet_103 (by decide) ?_
                        refine ce_st hx hb hE hP hS (sL_at _ _ _) (40 * j9 + k9) (by omega) (sL_sL _ _ _ _) dX5_sheet_104 (fun H locs hP hS => ?_)
                        refine lv_iinc (v := nI (k9 + 1)) (lv' := [(4, .int (nI (k9 + 1))), (0, .ref (gad G 34)), (1, .int (nI j9)), (2, .int b), (3, .int n)]) hx hb dX5_sheet_105 hl (k := 4) rfl (inc1 _) (by decide) rfl (fun ls hl => ?_)
                        refine lv_goto (tgt := 85) hx hb dX5_sheet_108 (by decide) ?_
                        exact ih85 (k9 + 1) z2 (vp_updL E (40 * j9 + k9) 0) (by omega) hfs hz2 (by rw [hG]; exact zrS_s _ _ _) (by omega) _ _ _ hP hS (lv_sub hl [1, 2, 3, 4, 0] rfl)
                  exact J85 _ 0 n (u.2 4) (Nat.zero_le _) (by simp [f_sheet, wid, c_2, c_4, c_12, c_20, c_28, c_29, c_30, c_31, Int32.not_lt.mpr c_29, Int32.not_lt.mpr c_30, nI_clamp (show j9 < 2 ^ 31 by omega)]) (by rw [if_neg c_31]) ((zrS_0 _ _).symm) (Nat.lt_succ_self _) _ _ _ (hP.cast ((sL_self _ 4).symm)) hS (lv_sub hl [1, 2, 3, 4, 0] rfl)
                · skip
                  refine lv_iconst (v := 0) hx hb dX5_sheet_76 (by decide) ?_
                  refine lv_goto (tgt := 81) hx hb dX5_sheet_77 (by decide) ?_
                  refine ar_st hx hb hE hP hS 41 4 (by decide) (ar_at41 ((sI_ne _ _ (by decide)).trans rfl)) (ar_set41 _ _) j9 (by omega) rfl dX5_sheet_81 (fun H locs hP hS => ?_)
                  refine lv_iconst (v := 0) hx hb dX5_sheet_82 (by decide) ?_
                  refine lv_istore (lv' := [(4, .int 0), (0, .ref (gad G 34)), (1, .int (nI j9)), (2, .int b), (3, .int n)]) hx hb dX5_sheet_83 hl (by decide) rfl (fun ls hl => ?_)
                  have J85 : ∀ (fu : Nat) (k9 : Nat) (z2 : Int32) (E : Nat → Int64) (hk : k9 ≤ 40) (hfs : f_sheet (nI j9) b n = 0) (hz2 : z2 = if b = 0 then 0 else n) (hG : E = zrS (u.2 4) j9 k9) (hrk : 40 - k9 < fu) (H : Heap) (locs : List Loc) (ls : Array Slot), WP G (sL (sI (sI u 17 (upd (u.1 17) j9 b)) 18 (upd (u.1 18) j9 z2)) 4 E) H → va_S (gA G) s0.heap H locs → lv_has ls 5 [(0, .ref (gad G 34)), (1, .int (nI j9)), (2, .int b), (3, .int n), (4, .int (nI k9))] → W pg l ev (headSpec wsX5_sheet (rmO 2 43)).room s0 mm ([.ref (gad G 34), .int (nI j9), .int b, .int n] : List Value).toArray below meth cd H locs 0 0 (MQ below (va_Qi (PS u 15 F (f_sheet (nI j9) b n) (fun r v => r = (if b = 0 then 0 else n) ∧ v = sL (sI (sI u 17 (upd (u.1 17) (nI j9).toNatClampNeg b)) 18 (upd (u.1 18) (nI j9).toNatClampNeg (if b = 0 then 0 else n))) 4 (zrS (u.2 4) (nI j9).toNatClampNeg 40))) (fun v t => WP G v t.heap) (gA G)) ([.ref (gad G 34), .int (nI j9), .int b, .int n] : List Value).toArray s0 0 0 (gA G)) (F0 mm 85 ls []) := by
                    intro fu
                    induction fu with
                    | zero => intro k9 z2 E hk hfs hz2 hG hrk; exact absurd hrk (Nat.not_lt_zero _)
                    | succ fu ih85 =>
                      intro k9 z2 E hk hfs hz2 hG hrk H locs ls hP hS hl
                      refine lv_iload hx hb dX5_sheet_85 (lv_at hl 4 rfl) ?_
                      refine lv_bipush (v := 40) hx hb dX5_sheet_87 (by decide) ?_
                      refine nn_ge (a := k9) (b := 40) (by omega) (by omega) (tgt := 111) hx hb dX5_sheet_89 (by decide) (fun c_33 => ?_) (fun c_33 => ?_)
                      · skip
                        refine lv_aload_n hx hb dX5_sheet_111 rfl (lv_at hl 0 rfl) ?_
                        refine mo_get hx hb hts hin5 hown hE hP (sL_1r ((sI_ne _ _ (by decide)).trans ((sI_ne _ _ (by decide)).trans rfl))) 13 (by decide) (hts (.fieldLink RX5 28 "HeldDoorModel" "sizeOf" "[I") (by decide +kernel)) (v := .ref (gad G 41)) rfl dX5_sheet_112 ?_
                        refine lv_iload_n hx hb dX5_sheet_115 rfl (lv_at hl 1 rfl) ?_
                        refine ar_ld hx hb hE hP 41 4 (by decide) (ar_at41 (sL_1r (sI_at _ _ _))) j9 (by omega) dX5_sheet_116 ?_
                        refine lv_cast (y := z2) (by rw [up_at]) ?_
                        exact hd_iret hx hb hr hlocks hP hS (PS.ok hfs (by rw [nI_clamp (show j9 < 2 ^ 31 by omega), hG, show k9 = 40 by omega]; exact ⟨hz2, by rw [hz2]⟩)) dX5_sheet_117
                      · skip
                        refine lv_aload_n hx hb dX5_sheet_92 rfl (lv_at hl 0 rfl) ?_
                        refine mo_get hx hb hts hin5 hown hE hP (sL_1r ((sI_ne _ _ (by decide)).trans ((sI_ne _ _ (by decide)).trans rfl))) 14 (by decide) (hts (.fieldLink RX5 31 "HeldDoorModel" "cells" "[J") (by decide +kernel)) (v := .ref (gad G 42)) rfl dX5_sheet_93 ?_
                        refine lv_bipush (v := 40) hx hb dX5_sheet_96 (by decide) ?_
                        refine lv_iload_n hx hb dX5_sheet_98 rfl (lv_at hl 1 rfl) ?_
                        refine nn_imul (a := 40) (b := j9) hx hb dX5_sheet_99 ?_
                        refine lv_iload hx hb dX5_sheet_100 (lv_at hl 4 rfl) ?_
                        refine nn_iadd (a := 40 * j9) (b := k9) hx hb dX5_sheet_102 ?_
                        refine lv_lconst (v := 0) hx hb dX5_sheet_103 (by decide) ?_
                        refine ce_st hx hb hE hP hS (sL_at _ _ _) (40 * j9 + k9) (by omega) (sL_sL _ _ _ _) dX5_sheet_104 (fun H locs hP hS => ?_)
                        refine lv_iinc (v := nI (k9 + 1)) (lv' := [(4, .int (nI (k9 + 1))), (0, .ref (gad G 34)), (1, .int (nI j9)), (2, .int b), (3, .int n)]) hx hb dX5_sheet_105 hl (k := 4) rfl (inc1 _) (by decide) rfl (fun ls hl => ?_)
                        refine lv_goto (tgt := 85) hx hb dX5_sheet_108 (by decide) ?_
                        exact ih85 (k9 + 1) z2 (vp_updL E (40 * j9 + k9) 0) (by omega) hfs hz2 (by rw [hG]; exact zrS_s _ _ _) (by omega) _ _ _ hP hS (lv_sub hl [1, 2, 3, 4, 0] rfl)
                  exact J85 _ 0 0 (u.2 4) (Nat.zero_le _) (by simp [f_sheet, wid, c_2, c_4, c_12, c_20, c_28, c_29, c_30, c_31, Int32.not_lt.mpr c_29, Int32.not_lt.mpr c_30, nI_clamp (show j9 < 2 ^ 31 by omega)]) (by rw [if_pos c_31]) ((zrS_0 _ _).symm) (Nat.lt_succ_self _) _ _ _ (hP.cast ((sL_self _ 4).symm)) hS (lv_sub hl [1, 2, 3, 4, 0] rfl)
              · skip
                refine lv_aload_n hx hb dX5_sheet_53 rfl (lv_at hl 0 rfl) ?_
                refine lv_ldc (v := (-1000000001)) hx hb hown (hts (.constant RX5 35 ((-1000000001))) (by decide +kernel)) dX5_sheet_54 ?_
                refine hd_callVi (As := [.int (-1000000001)]) (rest := []) ⟨hx, hb, hml, hown, hts⟩ hE hP hS (c_X5_finds_0 l G u F h15) rfl (cwV 1 hts gX5_sheet_X5_finds rfl rfl rfl (by decide +kernel) ⟨Nat.le_of_ble_eq_true rfl, Nat.le_of_ble_eq_true rfl⟩) (mo_recv hE hP) rfl hl.1 rfl (Nat.le_of_ble_eq_true rfl) dX5_sheet_56 (fun rq_34 vq_34 H locs q_34 hP hS => ?_)
                have hP := hP.cast (q_34.2)
                refine lv_cast q_34.1 ?_
                exact hd_iret hx hb hr hlocks hP hS (PS.bad (-1000000001) (by simp [f_sheet, wid, c_2, c_4, c_12, c_20, c_28, c_29, c_30, Int32.not_lt.mpr c_29, Int32.not_le.mp c_30, nI_clamp (show j9 < 2 ^ 31 by omega)]) (by decide) rfl rfl) dX5_sheet_59
            · skip
              refine lv_aload_n hx hb dX5_sheet_40 rfl (lv_at hl 0 rfl) ?_
              refine lv_ldc (v := (-1000000007)) hx hb hown (hts (.constant RX5 191 ((-1000000007))) (by decide +kernel)) dX5_sheet_41 ?_
              refine hd_callVi (As := [.int (-1000000007)]) (rest := []) ⟨hx, hb, hml, hown, hts⟩ hE hP hS (c_X5_finds_6 l G u F h15) rfl (cwV 1 hts gX5_sheet_X5_finds rfl rfl rfl (by decide +kernel) ⟨Nat.le_of_ble_eq_true rfl, Nat.le_of_ble_eq_true rfl⟩) (mo_recv hE hP) rfl hl.1 rfl (Nat.le_of_ble_eq_true rfl) dX5_sheet_43 (fun rq_35 vq_35 H locs q_35 hP hS => ?_)
              have hP := hP.cast (q_35.2)
              refine lv_cast q_35.1 ?_
              exact hd_iret hx hb hr hlocks hP hS (PS.bad (-1000000007) (by simp [f_sheet, wid, c_2, c_4, c_12, c_20, c_28, c_29, Int32.not_le.mp c_29, nI_clamp (show j9 < 2 ^ 31 by omega)]) (by decide) rfl rfl) dX5_sheet_46
          · skip
            refine lv_aload_n hx hb dX5_sheet_29 rfl (lv_at hl 0 rfl) ?_
            refine lv_ldc (v := (-1000000001)) hx hb hown (hts (.constant RX5 35 ((-1000000001))) (by decide +kernel)) dX5_sheet_30 ?_
            refine hd_callVi (As := [.int (-1000000001)]) (rest := []) ⟨hx, hb, hml, hown, hts⟩ hE hP hS (c_X5_finds_0 l G u F h15) rfl (cwV 1 hts gX5_sheet_X5_finds rfl rfl rfl (by decide +kernel) ⟨Nat.le_of_ble_eq_true rfl, Nat.le_of_ble_eq_true rfl⟩) (mo_recv hE hP) rfl hl.1 rfl (Nat.le_of_ble_eq_true rfl) dX5_sheet_32 (fun rq_36 vq_36 H locs q_36 hP hS => ?_)
            have hP := hP.cast (q_36.2)
            refine lv_cast q_36.1 ?_
            exact hd_iret hx hb hr hlocks hP hS (PS.bad (-1000000001) (by simp [f_sheet, wid, c_2, c_4, c_12, c_20, c_28, nI_clamp (show j9 < 2 ^ 31 by omega)]) (by decide) rfl rfl) dX5_sheet_35
set_option maxHeartbeats 4000000 in
set_option maxRecDepth 100000 in
theorem c_X5_notThere (l : Launch) (G : Geo) (u : Sg) (s : Int32) : CtI l G yX5_notThere wsX5_notThere (rmO 2 43) [.ref (gad G 34), .int s] u (fun r v => r = f_there s (moB u) ∧ v = u) := by
  refine CtI.of (cc := cX5_notThere) (maxL := 2) (ret := (some .int)) (own := RX5) (by decide) rfl rfl ?_
  rintro pg ev s0 mm below meth cd ⟨hx, hb, hr, hml, hown, hts, hlocks⟩ hE hP ls hl
  have hS : va_S (gA G) s0.heap s0.heap [] := va_S.rf
  have hl : lv_has ls 2 [(0, .ref (gad G 34)), (1, .int s)] := hl
  have hin5 : ∀ w ∈ wsX50, w ∈ wsX5_notThere := by decide +kernel
  refine lv_iload_n hx hb dX5_notThere_0 rfl (lv_at hl 1 rfl) ?_
  refine hd_callSi (As := [.int s]) (rest := []) ⟨hx, hb, hml, hown, hts⟩ hE hP hS (c_X5_isSheet l G u s) rfl (va_cwS 1 hts gX5_notThere_X5_isSheet rfl rfl rfl (by decide +kernel) ⟨Nat.le_of_ble_eq_true rfl, Nat.le_of_ble_eq_true rfl⟩) rfl hl.1 rfl (Nat.le_of_ble_eq_true rfl) dX5_notThere_1 (fun rq_1 vq_1 H locs q_1 hP hS => ?_)
  have hP := hP.cast (q_1.2)
  refine lv_cast q_1.1 ?_
  refine bo_ne (tgt := 12) hx hb dX5_notThere_4 (by decide) (fun c_2 => ?_) (fun c_2 => ?_)
  · skip
    obtain ⟨j9, hj9a, hj9b, rfl⟩ := inI_nat c_2 rfl rfl (na := 0) (nb := 3) (by decide) (by decide)
    refine lv_aload_n hx hb dX5_notThere_12 rfl (lv_at hl 0 rfl) ?_
    refine mo_get hx hb hts hin5 hown hE hP rfl 12 (by decide) (hts (.fieldLink RX5 25 "HeldDoorModel" "bitsOf" "[I") (by decide +kernel)) (v := .ref (gad G 40)) rfl dX5_notThere_13 ?_
    refine lv_iload_n hx hb dX5_notThere_16 rfl (lv_at hl 1 rfl) ?_
    refine ar_ld hx hb hE hP 40 4 (by decide) (ar_at40 rfl) j9 (by omega) dX5_notThere_17 ?_
    refine lv_if_ne (tgt := 26) hx hb dX5_notThere_18 (by decide) (fun c_3 => ?_) (fun c_3 => ?_)
    · skip
      refine lv_iconst (v := 0) hx hb dX5_notThere_26 (by decide) ?_
      exact hd_iret hx hb hr hlocks hP hS ⟨(by simp [f_there, mis, moB, c_2, c_3, nI_clamp (show j9 < 2 ^ 31 by omega)]), rfl⟩ dX5_notThere_27
    · skip
      refine lv_ldc (v := (-1000000006)) hx hb hown (hts (.constant RX5 192 ((-1000000006))) (by decide +kernel)) dX5_notThere_21 ?_
      refine lv_goto (tgt := 27) hx hb dX5_notThere_23 (by decide) ?_
      exact hd_iret hx hb hr hlocks hP hS ⟨(by simp [f_there, mis, moB, c_2, c_3, nI_clamp (show j9 < 2 ^ 31 by omega)]), rfl⟩ dX5_notThere_27
  · skip
    refine lv_ldc (v := (-1000000001)) hx hb hown (hts (.constant RX5 35 ((-1000000001))) (by decide +kernel)) dX5_notThere_7 ?_
    refine lv_goto (tgt := 27) hx hb dX5_notThere_9 (by decide) ?_
    exact hd_iret hx hb hr hlocks hP hS ⟨(by simp [f_there, mis, moB, c_2]), rfl⟩ dX5_notThere_27
set_option maxHeartbeats 4000000 in
set_option maxRecDepth 100000 in
theorem c_X5_write_b (l : Launch) (G : Geo) (u : Sg) (F : Nat → Int32) (h15 : u.1 15 = F) (s i : Int32) (x : Int64) (hflt : f_there s (moB u) = -1000000001) : CtL l G yX5_write wsX5_write (rmO 3 64) [.ref (gad G 34), .int s, .int i, .long x] u (PSL u 15 F (f_write s i (moB u)) (fun r v => r = u.2 4 (40 * s.toNatClampNeg + i.toNatClampNeg) ∧ v = sL u 4 (vp_updL (u.2 4) (40 * s.toNatClampNeg + i.toNatClampNeg) (cutL (u.1 17 s.toNatClampNeg) x)))) := by
  refine CtL.of (cc := cX5_write) (maxL := 8) (ret := (some .long)) (own := RX5) (by decide) rfl rfl ?_
  rintro pg ev s0 mm below meth cd ⟨hx, hb, hr, hml, hown, hts, hlocks⟩ hE hP ls hl
  have hS : va_S (gA G) s0.heap s0.heap [] := va_S.rf
  have hl : lv_has ls 8 [(0, .ref (gad G 34)), (1, .int s), (2, .int i), (3, .long x)] := hl
  refine lv_aload_n hx hb dX5_write_0 rfl (lv_at hl 0 rfl) ?_
  refine lv_iload_n hx hb dX5_write_1 rfl (lv_at hl 1 rfl) ?_
  refine hd_callVi (As := [.int s]) (rest := []) ⟨hx, hb, hml, hown, hts⟩ hE hP hS (c_X5_notThere l G u s) rfl (cwV 1 hts gX5_write_X5_notThere rfl rfl rfl (by decide +kernel) ⟨Nat.le_of_ble_eq_true rfl, Nat.le_of_ble_eq_true rfl⟩) (mo_recv hE hP) rfl hl.1 rfl (Nat.le_of_ble_eq_true rfl) dX5_write_2 (fun rq_1 vq_1 H locs q_1 hP hS => ?_)
  have hP := hP.cast (q_1.2)
  refine lv_cast q_1.1 ?_
  refine lv_cast hflt ?_
  refine lv_istore (lv' := [(5, .int (-1000000001)), (0, .ref (gad G 34)), (1, .int s), (2, .int i), (3, .long x)]) hx hb dX5_write_5 hl (by decide) rfl (fun ls hl => ?_)
  refine lv_iload hx hb dX5_write_7 (lv_at hl 0 rfl) ?_
  refine lv_if_ne (tgt := 33) hx hb dX5_write_9 (by decide) (fun _ => ?_) (fun h => False.elim (by revert h; decide))
  refine lv_iload hx hb dX5_write_33 (lv_at hl 0 rfl) ?_
  refine lv_if_eq (tgt := 46) hx hb dX5_write_35 (by decide) (fun h => False.elim (by revert h; decide)) (fun _ => ?_)
  refine lv_aload_n hx hb dX5_write_38 rfl (lv_at hl 1 rfl) ?_
  refine lv_iload hx hb dX5_write_39 (lv_at hl 0 rfl) ?_
  refine hd_callVi (As := [.int (-1000000001)]) (rest := []) ⟨hx, hb, hml, hown, hts⟩ hE hP hS (c_X5_finds_0 l G u F h15) rfl (cwV 1 hts gX5_write_X5_finds rfl rfl rfl (by decide +kernel) ⟨Nat.le_of_ble_eq_true rfl, Nat.le_of_ble_eq_true rfl⟩) (mo_recv hE hP) rfl hl.1 rfl (Nat.le_of_ble_eq_true rfl) dX5_write_41 (fun rq_2 vq_2 H locs q_2 hP hS => ?_)
  have hP := hP.cast (q_2.2)
  refine lv_cast q_2.1 ?_
  refine lv_i2l hx hb dX5_write_44 rfl ?_
  exact hd_lret hx hb hr hlocks hP hS (PSL.bad (-1000000001) (f_write_bad hflt (by decide)) (by decide) rfl rfl) dX5_write_45
set_option maxHeartbeats 4000000 in
set_option maxRecDepth 100000 in
theorem c_X5_write_m (l : Launch) (G : Geo) (u : Sg) (F : Nat → Int32) (h15 : u.1 15 = F) (s i : Int32) (x : Int64) (hflt : f_there s (moB u) = -1000000006) : CtL l G yX5_write wsX5_write (rmO 3 64) [.ref (gad G 34), .int s, .int i, .long x] u (PSL u 15 F (f_write s i (moB u)) (fun r v => r = u.2 4 (40 * s.toNatClampNeg + i.toNatClampNeg) ∧ v = sL u 4 (vp_updL (u.2 4) (40 * s.toNatClampNeg + i.toNatClampNeg) (cutL (u.1 17 s.toNatClampNeg) x)))) := by
  refine CtL.of (cc := cX5_write) (maxL := 8) (ret := (some .long)) (own := RX5) (by decide) rfl rfl ?_
  rintro pg ev s0 mm below meth cd ⟨hx, hb, hr, hml, hown, hts, hlocks⟩ hE hP ls hl
  have hS : va_S (gA G) s0.heap s0.heap [] := va_S.rf
  have hl : lv_has ls 8 [(0, .ref (gad G 34)), (1, .int s), (2, .int i), (3, .long x)] := hl
  refine lv_aload_n hx hb dX5_write_0 rfl (lv_at hl 0 rfl) ?_
  refine lv_iload_n hx hb dX5_write_1 rfl (lv_at hl 1 rfl) ?_
  refine hd_callVi (As := [.int s]) (rest := []) ⟨hx, hb, hml, hown, hts⟩ hE hP hS (c_X5_notThere l G u s) rfl (cwV 1 hts gX5_write_X5_notThere rfl rfl rfl (by decide +kernel) ⟨Nat.le_of_ble_eq_true rfl, Nat.le_of_ble_eq_true rfl⟩) (mo_recv hE hP) rfl hl.1 rfl (Nat.le_of_ble_eq_true rfl) dX5_write_2 (fun rq_1 vq_1 H locs q_1 hP hS => ?_)
  have hP := hP.cast (q_1.2)
  refine lv_cast q_1.1 ?_
  refine lv_cast hflt ?_
  refine lv_istore (lv' := [(5, .int (-1000000006)), (0, .ref (gad G 34)), (1, .int s), (2, .int i), (3, .long x)]) hx hb dX5_write_5 hl (by decide) rfl (fun ls hl => ?_)
  refine lv_iload hx hb dX5_write_7 (lv_at hl 0 rfl) ?_
  refine lv_if_ne (tgt := 33) hx hb dX5_write_9 (by decide) (fun _ => ?_) (fun h => False.elim (by revert h; decide))
  refine lv_iload hx hb dX5_write_33 (lv_at hl 0 rfl) ?_
  refine lv_if_eq (tgt := 46) hx hb dX5_write_35 (by decide) (fun h => False.elim (by revert h; decide)) (fun _ => ?_)
  refine lv_aload_n hx hb dX5_write_38 rfl (lv_at hl 1 rfl) ?_
  refine lv_iload hx hb dX5_write_39 (lv_at hl 0 rfl) ?_
  refine hd_callVi (As := [.int (-1000000006)]) (rest := []) ⟨hx, hb, hml, hown, hts⟩ hE hP hS (c_X5_finds_5 l G u F h15) rfl (cwV 1 hts gX5_write_X5_finds rfl rfl rfl (by decide +kernel) ⟨Nat.le_of_ble_eq_true rfl, Nat.le_of_ble_eq_true rfl⟩) (mo_recv hE hP) rfl hl.1 rfl (Nat.le_of_ble_eq_true rfl) dX5_write_41 (fun rq_2 vq_2 H locs q_2 hP hS => ?_)
  have hP := hP.cast (q_2.2)
  refine lv_cast q_2.1 ?_
  refine lv_i2l hx hb dX5_write_44 rfl ?_
  exact hd_lret hx hb hr hlocks hP hS (PSL.bad (-1000000006) (f_write_bad hflt (by decide)) (by decide) rfl rfl) dX5_write_45
set_option maxHeartbeats 4000000 in
set_option maxRecDepth 100000 in
theorem c_X5_write_0 (l : Launch) (G : Geo) (u : Sg) (F : Nat → Int32) (h15 : u.1 15 = F) (j9 z9 : Nat) (hj : j9 < 4) (hz9 : z9 ≤ 40) (hz8 : u.1 18 j9 = nI z9) (i : Int32) (x : Int64) (hflt : f_there (nI j9) (moB u) = 0) : CtL l G yX5_write wsX5_write (rmO 3 64) [.ref (gad G 34), .int (nI j9), .int i, .long x] u (PSL u 15 F (f_write (nI j9) i (moB u)) (fun r v => r = u.2 4 (40 * (nI j9).toNatClampNeg + i.toNatClampNeg) ∧ v = sL u 4 (vp_updL (u.2 4) (40 * (nI j9).toNatClampNeg + i.toNatClampNeg) (cutL (u.1 17 (nI j9).toNatClampNeg) x)))) := by
  refine CtL.of (cc := cX5_write) (maxL := 8) (ret := (some .long)) (own := RX5) (by decide) rfl rfl ?_
  rintro pg ev s0 mm below meth cd ⟨hx, hb, hr, hml, hown, hts, hlocks⟩ hE hP ls hl
  have hS : va_S (gA G) s0.heap s0.heap [] := va_S.rf
  have hl : lv_has ls 8 [(0, .ref (gad G 34)), (1, .int (nI j9)), (2, .int i), (3, .long x)] := hl
  have hin5 : ∀ w ∈ wsX50, w ∈ wsX5_write := by decide +kernel
  refine lv_aload_n hx hb dX5_write_0 rfl (lv_at hl 0 rfl) ?_
  refine lv_iload_n hx hb dX5_write_1 rfl (lv_at hl 1 rfl) ?_
  refine hd_callVi (As := [.int (nI j9)]) (rest := []) ⟨hx, hb, hml, hown, hts⟩ hE hP hS (c_X5_notThere l G u (nI j9)) rfl (cwV 1 hts gX5_write_X5_notThere rfl rfl rfl (by decide +kernel) ⟨Nat.le_of_ble_eq_true rfl, Nat.le_of_ble_eq_true rfl⟩) (mo_recv hE hP) rfl hl.1 rfl (Nat.le_of_ble_eq_true rfl) dX5_write_2 (fun rq_1 vq_1 H locs q_1 hP hS => ?_)
  have hP := hP.cast (q_1.2)
  refine lv_cast q_1.1 ?_
  refine lv_cast hflt ?_
  refine lv_istore (lv' := [(5, .int 0), (0, .ref (gad G 34)), (1, .int (nI j9)), (2, .int i), (3, .long x)]) hx hb dX5_write_5 hl (by decide) rfl (fun ls hl => ?_)
  refine lv_iload hx hb dX5_write_7 (lv_at hl 0 rfl) ?_
  refine lv_if_ne (tgt := 33) hx hb dX5_write_9 (by decide) (fun h => False.elim (by revert h; decide)) (fun _ => ?_)
  refine lv_iload_n hx hb dX5_write_12 rfl (lv_at hl 3 rfl) ?_
  refine lv_i2l hx hb dX5_write_13 rfl ?_
  refine lv_iconst (v := 0) hx hb dX5_write_14 (by decide) ?_
  refine lv_aload_n hx hb dX5_write_15 rfl (lv_at hl 1 rfl) ?_
  refine mo_get hx hb hts hin5 hown hE hP rfl 13 (by decide) (hts (.fieldLink RX5 28 "HeldDoorModel" "sizeOf" "[I") (by decide +kernel)) (v := .ref (gad G 41)) rfl dX5_write_16 ?_
  refine lv_iload_n hx hb dX5_write_19 rfl (lv_at hl 2 rfl) ?_
  refine ar_ld hx hb hE hP 41 4 (by decide) (ar_at41 rfl) j9 (by omega) dX5_write_20 ?_
  refine lv_iconst (v := 1) hx hb dX5_write_21 (by decide) ?_
  refine lv_isub hx hb dX5_write_22 ?_
  refine hd_callSi (As := [.long i.toInt64, .int 0, .int (((u.1 18) j9) - 1)]) (rest := []) ⟨hx, hb, hml, hown, hts⟩ hE hP hS (c_X5_inI l G u i 0 (((u.1 18) j9) - 1)) rfl (va_cwS 3 hts gX5_write_X5_in rfl rfl rfl (by decide +kernel) ⟨Nat.le_of_ble_eq_true rfl, Nat.le_of_ble_eq_true rfl⟩) rfl hl.1 rfl (Nat.le_of_ble_eq_true rfl) dX5_write_23 (fun rq_2 vq_2 H locs q_2 hP hS => ?_)
  have hP := hP.cast (q_2.2)
  refine lv_cast q_2.1 ?_
  refine bo_ne (tgt := 33) hx hb dX5_write_26 (by decide) (fun c_3 => ?_) (fun c_3 => ?_)
  · skip
    obtain ⟨i9, hi9, rfl⟩ := num_get hz8 hz9 c_3
    refine lv_iload hx hb dX5_write_33 (lv_at hl 0 rfl) ?_
    refine lv_if_eq (tgt := 46) hx hb dX5_write_35 (by decide) (fun _ => ?_) (fun h => False.elim (by revert h; decide))
    refine lv_aload_n hx hb dX5_write_46 rfl (lv_at hl 1 rfl) ?_
    refine mo_get hx hb hts hin5 hown hE hP rfl 14 (by decide) (hts (.fieldLink RX5 31 "HeldDoorModel" "cells" "[J") (by decide +kernel)) (v := .ref (gad G 42)) rfl dX5_write_47 ?_
    refine lv_bipush (v := 40) hx hb dX5_write_50 (by decide) ?_
    refine lv_iload_n hx hb dX5_write_52 rfl (lv_at hl 2 rfl) ?_
    refine nn_imul (a := 40) (b := j9) hx hb dX5_write_53 ?_
    refine lv_iload_n hx hb dX5_write_54 rfl (lv_at hl 3 rfl) ?_
    refine nn_iadd (a := 40 * j9) (b := i9) hx hb dX5_write_55 ?_
    refine ce_ld hx hb hE hP rfl (40 * j9 + i9) (by omega) dX5_write_56 ?_
    refine lv_lstore (lv' := [(6, .long ((u.2 4) (40 * j9 + i9))), (5, .int 0), (0, .ref (gad G 34)), (1, .int (nI j9)), (2, .int (nI i9)), (3, .long x)]) hx hb dX5_write_57 hl (by decide) rfl (fun ls hl => ?_)
    refine lv_aload_n hx hb dX5_write_59 rfl (lv_at hl 2 rfl) ?_
    refine mo_get hx hb hts hin5 hown hE hP rfl 14 (by decide) (hts (.fieldLink RX5 31 "HeldDoorModel" "cells" "[J") (by decide +kernel)) (v := .ref (gad G 42)) rfl dX5_write_60 ?_
    refine lv_bipush (v := 40) hx hb dX5_write_63 (by decide) ?_
    refine lv_iload_n hx hb dX5_write_65 rfl (lv_at hl 3 rfl) ?_
    refine nn_imul (a := 40) (b := j9) hx hb dX5_write_66 ?_
    refine lv_iload_n hx hb dX5_write_67 rfl (lv_at hl 4 rfl) ?_
    refine nn_iadd (a := 40 * j9) (b := i9) hx hb dX5_write_68 ?_
    refine lv_aload_n hx hb dX5_write_69 rfl (lv_at hl 2 rfl) ?_
    refine mo_get hx hb hts hin5 hown hE hP rfl 12 (by decide) (hts (.fieldLink RX5 25 "HeldDoorModel" "bitsOf" "[I") (by decide +kernel)) (v := .ref (gad G 40)) rfl dX5_write_70 ?_
    refine lv_iload_n hx hb dX5_write_73 rfl (lv_at hl 3 rfl) ?_
    refine ar_ld hx hb hE hP 40 4 (by decide) (ar_at40 rfl) j9 (by omega) dX5_write_74 ?_
    refine lv_lload_n hx hb dX5_write_75 rfl (lv_at hl 5 rfl) ?_
    refine hd_callSl (As := [.int ((u.1 17) j9), .long x]) (rest := [.int (nI (40 * j9 + i9)), .ref (gad G 42)]) ⟨hx, hb, hml, hown, hts⟩ hE hP hS (c_X5_cutTo l G u ((u.1 17) j9) x) rfl (va_cwS 2 hts gX5_write_X5_cutTo rfl rfl rfl (by decide +kernel) ⟨Nat.le_of_ble_eq_true rfl, Nat.le_of_ble_eq_true rfl⟩) rfl hl.1 rfl (Nat.le_of_ble_eq_true rfl) dX5_write_76 (fun rq_4 vq_4 H locs q_4 hP hS => ?_)
    have hP := hP.cast (q_4.2)
    refine lv_castL q_4.1 ?_
    refine ce_st hx hb hE hP hS rfl (40 * j9 + i9) (by omega) rfl dX5_write_79 (fun H locs hP hS => ?_)
    refine lv_lload hx hb dX5_write_80 (lv_at hl 0 rfl) ?_
    exact hd_lret hx hb hr hlocks hP hS (PSL.ok (f_write_0 hflt c_3) (by rw [nI_clamp (show j9 < 2 ^ 31 by omega), nI_clamp (show i9 < 2 ^ 31 by omega)]; exact ⟨rfl, rfl⟩)) dX5_write_82
  · skip
    refine lv_ldc (v := (-1000000001)) hx hb hown (hts (.constant RX5 35 ((-1000000001))) (by decide +kernel)) dX5_write_29 ?_
    refine lv_istore (lv' := [(5, .int (-1000000001)), (0, .ref (gad G 34)), (1, .int (nI j9)), (2, .int i), (3, .long x)]) hx hb dX5_write_31 hl (by decide) rfl (fun ls hl => ?_)
    refine lv_iload hx hb dX5_write_33 (lv_at hl 0 rfl) ?_
    refine lv_if_eq (tgt := 46) hx hb dX5_write_35 (by decide) (fun h => False.elim (by revert h; decide)) (fun _ => ?_)
    refine lv_aload_n hx hb dX5_write_38 rfl (lv_at hl 1 rfl) ?_
    refine lv_iload hx hb dX5_write_39 (lv_at hl 0 rfl) ?_
    refine hd_callVi (As := [.int (-1000000001)]) (rest := []) ⟨hx, hb, hml, hown, hts⟩ hE hP hS (c_X5_finds_0 l G u F h15) rfl (cwV 1 hts gX5_write_X5_finds rfl rfl rfl (by decide +kernel) ⟨Nat.le_of_ble_eq_true rfl, Nat.le_of_ble_eq_true rfl⟩) (mo_recv hE hP) rfl hl.1 rfl (Nat.le_of_ble_eq_true rfl) dX5_write_41 (fun rq_5 vq_5 H locs q_5 hP hS => ?_)
    have hP := hP.cast (q_5.2)
    refine lv_cast q_5.1 ?_
    refine lv_i2l hx hb dX5_write_44 rfl ?_
    exact hd_lret hx hb hr hlocks hP hS (PSL.bad (-1000000001) (f_write_i hflt c_3) (by decide) rfl rfl) dX5_write_45
theorem c_X5_write (l : Launch) (G : Geo) (u : Sg) (F : Nat → Int32) (h15 : u.1 15 = F) (hsz : ∀ j : Nat, j < 4 → ∃ z : Nat, z ≤ 40 ∧ u.1 18 j = nI z) (s i : Int32) (x : Int64) : CtL l G yX5_write wsX5_write (rmO 3 64) [.ref (gad G 34), .int s, .int i, .long x] u (PSL u 15 F (f_write s i (moB u)) (fun r v => r = u.2 4 (40 * s.toNatClampNeg + i.toNatClampNeg) ∧ v = sL u 4 (vp_updL (u.2 4) (40 * s.toNatClampNeg + i.toNatClampNeg) (cutL (u.1 17 s.toNatClampNeg) x)))) := by
  rcases f_there_v s (moB u) with hf | hf | hf
  · obtain ⟨e1, e2⟩ := f_there_ok hf
    obtain ⟨j9, -, hj9, rfl⟩ := inI_nat e1 rfl rfl (na := 0) (nb := 3) (by decide) (by decide)
    obtain ⟨z9, hz9, hz8⟩ := hsz j9 (by omega)
    exact c_X5_write_0 l G u F h15 j9 z9 (by omega) hz9 hz8 i x hf
  · exact c_X5_write_b l G u F h15 s i x hf
  · exact c_X5_write_m l G u F h15 s i x hf
