set_option maxHeartbeats 4000000 in
set_option maxRecDepth 100000 in
theorem c_X4_sheet (l : Launch) (G : Geo) (u : Sg) (F : Nat → Int32) (h6 : u.1 6 = F) (s b n : Int32) : CtI l G yX4_sheet wsX4_sheet (rmO 2 44) [.ref (gad G 0), .int s, .int b, .int n] u (PS u 6 F (f_sheet s b n) (fun r v => r = rnB (u.1 (7 + s.toNatClampNeg)) b n 1 ∧ v = sL (sI u (7 + s.toNatClampNeg) (rnB (u.1 (7 + s.toNatClampNeg)) b n)) s.toNatClampNeg (zrN (u.2 s.toNatClampNeg) 40))) := by
  refine CtI.of (cc := cX4_sheet) (maxL := 4) (ret := (some .int)) (own := RX4) (by decide) rfl rfl ?_
  rintro pg ev s0 mm below meth cd ⟨hx, hb, hr, hml, hown, hts, hlocks⟩ hE hP ls hl
  have hS : va_S (gA G) s0.heap s0.heap [] := va_S.rf
  have hl : lv_has ls 4 [(0, .ref (gad G 0)), (1, .int s), (2, .int b), (3, .int n)] := hl
  have hin2 : ∀ w ∈ wsX20, w ∈ wsX4_sheet := by decide +kernel
  have hin4 : ∀ w ∈ wsX40, w ∈ wsX4_sheet := by decide +kernel
  refine lv_iload_n hx hb dX4_sheet_0 rfl (lv_at hl 1 rfl) ?_
  refine hd_callSi (As := [.int s]) (rest := []) ⟨hx, hb, hml, hown, hts⟩ hE hP hS (c_X4_isSheet l G u s) rfl (va_cwS 1 hts gX4_sheet_X4_isSheet rfl rfl rfl (by decide +kernel) ⟨Nat.le_of_ble_eq_true rfl, Nat.le_of_ble_eq_true rfl⟩) rfl hl.1 rfl (Nat.le_of_ble_eq_true rfl) dX4_sheet_1 (fun rq_1 vq_1 H locs q_1 hP hS => ?_)
  have hP := hP.cast (q_1.2)
  refine lv_cast q_1.1 ?_
  refine bo_eq (tgt := 14) hx hb dX4_sheet_4 (by decide) (fun c_2 => ?_) (fun c_2 => ?_)
  · skip
    refine lv_aload_n hx hb dX4_sheet_14 rfl (lv_at hl 0 rfl) ?_
    refine lv_ldc (v := (-1000000001)) hx hb hown (hts (.constant RX4 55 ((-1000000001))) (by decide +kernel)) dX4_sheet_15 ?_
    refine hd_callVi (As := [.int (-1000000001)]) (rest := []) ⟨hx, hb, hml, hown, hts⟩ hE hP hS (c_X4_found_0 l G u F h6) rfl (cwV 1 hts gX4_sheet_X4_found rfl rfl rfl (by decide +kernel) ⟨Nat.le_of_ble_eq_true rfl, Nat.le_of_ble_eq_true rfl⟩) (do_recv hE hP) rfl hl.1 rfl (Nat.le_of_ble_eq_true rfl) dX4_sheet_17 (fun rq_3 vq_3 H locs q_3 hP hS => ?_)
    have hP := hP.cast (q_3.2)
    refine lv_cast q_3.1 ?_
    exact hd_iret hx hb hr hlocks hP hS (PS.bad (-1000000001) (by simp [f_sheet, shB, c_2]) (by decide) rfl rfl) dX4_sheet_20
  · skip
    obtain ⟨j9, hj9a, hj9b, rfl⟩ := inI_nat c_2 rfl rfl (na := 0) (nb := 3) (by decide) (by decide)
    refine lv_iload_n hx hb dX4_sheet_7 rfl (lv_at hl 2 rfl) ?_
    refine hd_callSi (As := [.int b]) (rest := []) ⟨hx, hb, hml, hown, hts⟩ hE hP hS (c_X2_isWidth l G u b) rfl (va_cwS 1 hts gX4_sheet_X2_isWidth rfl rfl rfl (by decide +kernel) ⟨Nat.le_of_ble_eq_true rfl, Nat.le_of_ble_eq_true rfl⟩) rfl hl.1 rfl (Nat.le_of_ble_eq_true rfl) dX4_sheet_8 (fun rq_4 vq_4 H locs q_4 hP hS => ?_)
    have hP := hP.cast (q_4.2)
    refine lv_cast q_4.1 ?_
    refine bo_ne (tgt := 21) hx hb dX4_sheet_11 (by decide) (fun c_5 => ?_) (fun c_5 => ?_)
    · skip
      refine lv_iload_n hx hb dX4_sheet_21 rfl (lv_at hl 3 rfl) ?_
      refine lv_if_ge (tgt := 32) hx hb dX4_sheet_22 (by decide) (fun c_6 => ?_) (fun c_6 => ?_)
      · skip
        refine lv_iload_n hx hb dX4_sheet_32 rfl (lv_at hl 3 rfl) ?_
        refine lv_bipush (v := 40) hx hb dX4_sheet_33 (by decide) ?_
        refine lv_icmp_le (tgt := 45) hx hb dX4_sheet_35 (by decide) (fun c_7 => ?_) (fun c_7 => ?_)
        · skip
          refine lv_aload_n hx hb dX4_sheet_45 rfl (lv_at hl 0 rfl) ?_
          refine do_get hx hb hts hin4 hown hE hP rfl 5 (by decide) (hts (.fieldLink RX4 35 "HeldDoor" "sheets" "[LHeldDoor$Sheet;") (by decide +kernel)) (v := .ref (gad G 24)) rfl dX4_sheet_46 ?_
          refine lv_iload_n hx hb dX4_sheet_49 rfl (lv_at hl 1 rfl) ?_
          refine ss_ld hx hb hE hP j9 (by omega) dX4_sheet_50 ?_
          refine lv_iload_n hx hb dX4_sheet_51 rfl (lv_at hl 2 rfl) ?_
          refine lv_iload_n hx hb dX4_sheet_52 rfl (lv_at hl 3 rfl) ?_
          refine hd_callVv (As := [.int b, .int n]) (rest := []) ⟨hx, hb, hml, hown, hts⟩ hE hP hS (c_X2_renew l G u j9 (by omega) (u.1 (7 + j9)) rfl (u.2 j9) rfl b n) rfl (cwV 2 hts gX4_sheet_X2_renew rfl rfl rfl (by decide +kernel) ⟨Nat.le_of_ble_eq_true rfl, Nat.le_of_ble_eq_true rfl⟩) (sh_recv hE hP (by omega)) rfl hl.1 rfl (Nat.le_of_ble_eq_true rfl) dX4_sheet_53 (fun vq_8 H locs q_8 hP hS => ?_)
          have hP := hP.cast (q_8)
          refine lv_aload_n hx hb dX4_sheet_56 rfl (lv_at hl 0 rfl) ?_
          refine do_get hx hb hts hin4 hown hE hP (sL_1r ((sI_ne _ _ (by omega)).trans rfl)) 5 (by decide) (hts (.fieldLink RX4 35 "HeldDoor" "sheets" "[LHeldDoor$Sheet;") (by decide +kernel)) (v := .ref (gad G 24)) rfl dX4_sheet_57 ?_
          refine lv_iload_n hx hb dX4_sheet_60 rfl (lv_at hl 1 rfl) ?_
          refine ss_ld hx hb hE hP j9 (by omega) dX4_sheet_61 ?_
          refine sh_get hx hb hts hin2 hown hE hP (by omega) (sL_1r (sI_at _ _ _)) 1 (by decide) (hts (.fieldLink RX4 197 "HeldDoor$Sheet" "size" "I") (by decide +kernel)) (v := .int ((rnB (u.1 (7 + j9)) b n) 1)) rfl dX4_sheet_62 ?_
          exact hd_iret hx hb hr hlocks hP hS (PS.ok (by simp [f_sheet, shB, c_2, c_5, c_6, c_7, Int32.not_lt.mpr c_6, Int32.not_lt.mpr c_7, nI_clamp (show j9 < 2 ^ 31 by omega)]) (by rw [nI_clamp (show j9 < 2 ^ 31 by omega)]; exact ⟨rfl, rfl⟩)) dX4_sheet_65
        · skip
          refine lv_aload_n hx hb dX4_sheet_38 rfl (lv_at hl 0 rfl) ?_
          refine lv_ldc (v := (-1000000001)) hx hb hown (hts (.constant RX4 55 ((-1000000001))) (by decide +kernel)) dX4_sheet_39 ?_
          refine hd_callVi (As := [.int (-1000000001)]) (rest := []) ⟨hx, hb, hml, hown, hts⟩ hE hP hS (c_X4_found_0 l G u F h6) rfl (cwV 1 hts gX4_sheet_X4_found rfl rfl rfl (by decide +kernel) ⟨Nat.le_of_ble_eq_true rfl, Nat.le_of_ble_eq_true rfl⟩) (do_recv hE hP) rfl hl.1 rfl (Nat.le_of_ble_eq_true rfl) dX4_sheet_41 (fun rq_9 vq_9 H locs q_9 hP hS => ?_)
          have hP := hP.cast (q_9.2)
          refine lv_cast q_9.1 ?_
          exact hd_iret hx hb hr hlocks hP hS (PS.bad (-1000000001) (by simp [f_sheet, shB, c_2, c_5, c_6, c_7, Int32.not_lt.mpr c_6, Int32.not_le.mp c_7, nI_clamp (show j9 < 2 ^ 31 by omega)]) (by decide) rfl rfl) dX4_sheet_44
      · skip
        refine lv_aload_n hx hb dX4_sheet_25 rfl (lv_at hl 0 rfl) ?_
        refine lv_ldc (v := (-1000000007)) hx hb hown (hts (.constant RX4 193 ((-1000000007))) (by decide +kernel)) dX4_sheet_26 ?_
        refine hd_callVi (As := [.int (-1000000007)]) (rest := []) ⟨hx, hb, hml, hown, hts⟩ hE hP hS (c_X4_found_6 l G u F h6) rfl (cwV 1 hts gX4_sheet_X4_found rfl rfl rfl (by decide +kernel) ⟨Nat.le_of_ble_eq_true rfl, Nat.le_of_ble_eq_true rfl⟩) (do_recv hE hP) rfl hl.1 rfl (Nat.le_of_ble_eq_true rfl) dX4_sheet_28 (fun rq_10 vq_10 H locs q_10 hP hS => ?_)
        have hP := hP.cast (q_10.2)
        refine lv_cast q_10.1 ?_
        exact hd_iret hx hb hr hlocks hP hS (PS.bad (-1000000007) (by simp [f_sheet, shB, c_2, c_5, c_6, Int32.not_le.mp c_6, nI_clamp (show j9 < 2 ^ 31 by omega)]) (by decide) rfl rfl) dX4_sheet_31
    · skip
      refine lv_aload_n hx hb dX4_sheet_14 rfl (lv_at hl 0 rfl) ?_
      refine lv_ldc (v := (-1000000001)) hx hb hown (hts (.constant RX4 55 ((-1000000001))) (by decide +kernel)) dX4_sheet_15 ?_
      refine hd_callVi (As := [.int (-1000000001)]) (rest := []) ⟨hx, hb, hml, hown, hts⟩ hE hP hS (c_X4_found_0 l G u F h6) rfl (cwV 1 hts gX4_sheet_X4_found rfl rfl rfl (by decide +kernel) ⟨Nat.le_of_ble_eq_true rfl, Nat.le_of_ble_eq_true rfl⟩) (do_recv hE hP) rfl hl.1 rfl (Nat.le_of_ble_eq_true rfl) dX4_sheet_17 (fun rq_11 vq_11 H locs q_11 hP hS => ?_)
      have hP := hP.cast (q_11.2)
      refine lv_cast q_11.1 ?_
      exact hd_iret hx hb hr hlocks hP hS (PS.bad (-1000000001) (by simp [f_sheet, shB, c_2, c_5, nI_clamp (show j9 < 2 ^ 31 by omega)]) (by decide) rfl rfl) dX4_sheet_20
set_option maxHeartbeats 4000000 in
set_option maxRecDepth 100000 in
theorem c_X4_write (l : Launch) (G : Geo) (u : Sg) (F : Nat → Int32) (h6 : u.1 6 = F) (hsz : ∀ j : Nat, j < 4 → ∃ z : Nat, z ≤ 40 ∧ u.1 (7 + j) 1 = nI z) (s i : Int32) (x : Int64) : CtL l G yX4_write wsX4_write (rmO 2 44) [.ref (gad G 0), .int s, .int i, .long x] u (PSL u 6 F (f_write s i (shB u)) (fun r v => r = u.2 s.toNatClampNeg i.toNatClampNeg ∧ v = sL u s.toNatClampNeg (vp_updL (u.2 s.toNatClampNeg) i.toNatClampNeg (cutL (u.1 (7 + s.toNatClampNeg) 0) x)))) := by
  refine CtL.of (cc := cX4_write) (maxL := 8) (ret := (some .long)) (own := RX4) (by decide) rfl rfl ?_
  rintro pg ev s0 mm below meth cd ⟨hx, hb, hr, hml, hown, hts, hlocks⟩ hE hP ls hl
  have hS : va_S (gA G) s0.heap s0.heap [] := va_S.rf
  have hl : lv_has ls 8 [(0, .ref (gad G 0)), (1, .int s), (2, .int i), (3, .long x)] := hl
  have hin2 : ∀ w ∈ wsX20, w ∈ wsX4_write := by decide +kernel
  have hin4 : ∀ w ∈ wsX40, w ∈ wsX4_write := by decide +kernel
  refine lv_iload_n hx hb dX4_write_0 rfl (lv_at hl 1 rfl) ?_
  refine hd_callSi (As := [.int s]) (rest := []) ⟨hx, hb, hml, hown, hts⟩ hE hP hS (c_X4_isSheet l G u s) rfl (va_cwS 1 hts gX4_write_X4_isSheet rfl rfl rfl (by decide +kernel) ⟨Nat.le_of_ble_eq_true rfl, Nat.le_of_ble_eq_true rfl⟩) rfl hl.1 rfl (Nat.le_of_ble_eq_true rfl) dX4_write_1 (fun rq_1 vq_1 H locs q_1 hP hS => ?_)
  have hP := hP.cast (q_1.2)
  refine lv_cast q_1.1 ?_
  refine bo_ne (tgt := 15) hx hb dX4_write_4 (by decide) (fun c_2 => ?_) (fun c_2 => ?_)
  · skip
    obtain ⟨j9, hj9a, hj9b, rfl⟩ := inI_nat c_2 rfl rfl (na := 0) (nb := 3) (by decide) (by decide)
    refine lv_aload_n hx hb dX4_write_15 rfl (lv_at hl 0 rfl) ?_
    refine do_get hx hb hts hin4 hown hE hP rfl 5 (by decide) (hts (.fieldLink RX4 35 "HeldDoor" "sheets" "[LHeldDoor$Sheet;") (by decide +kernel)) (v := .ref (gad G 24)) rfl dX4_write_16 ?_
    refine lv_iload_n hx hb dX4_write_19 rfl (lv_at hl 1 rfl) ?_
    refine ss_ld hx hb hE hP j9 (by omega) dX4_write_20 ?_
    refine lv_astore (lv' := [(5, .ref (gH G j9)), (0, .ref (gad G 0)), (1, .int (nI j9)), (2, .int i), (3, .long x)]) hx hb dX4_write_21 hl (by decide) rfl (fun ls hl => ?_)
    refine lv_aload hx hb dX4_write_23 (lv_at hl 0 rfl) ?_
    refine hd_callVi (As := []) (rest := []) ⟨hx, hb, hml, hown, hts⟩ hE hP hS (c_X2_isMissing l G u j9 (by omega) (u.1 (7 + j9)) rfl) rfl (cwV 0 hts gX4_write_X2_isMissing rfl rfl rfl (by decide +kernel) ⟨Nat.le_of_ble_eq_true rfl, Nat.le_of_ble_eq_true rfl⟩) (sh_recv hE hP (by omega)) rfl hl.1 rfl (Nat.le_of_ble_eq_true rfl) dX4_write_25 (fun rq_3 vq_3 H locs q_3 hP hS => ?_)
    have hP := hP.cast (q_3.2)
    refine lv_cast q_3.1 ?_
    refine bo_eq (tgt := 39) hx hb dX4_write_28 (by decide) (fun c_4 => ?_) (fun c_4 => ?_)
    · skip
      refine lv_iconst (v := 0) hx hb dX4_write_39 (by decide) ?_
      refine lv_aload hx hb dX4_write_40 (lv_at hl 0 rfl) ?_
      refine sh_get hx hb hts hin2 hown hE hP (by omega) rfl 1 (by decide) (hts (.fieldLink RX4 197 "HeldDoor$Sheet" "size" "I") (by decide +kernel)) (v := .int ((u.1 (7 + j9)) 1)) rfl dX4_write_42 ?_
      refine lv_iconst (v := 1) hx hb dX4_write_45 (by decide) ?_
      refine lv_isub hx hb dX4_write_46 ?_
      refine lv_iload_n hx hb dX4_write_47 rfl (lv_at hl 3 rfl) ?_
      refine hd_callSi (As := [.int 0, .int (((u.1 (7 + j9)) 1) - 1), .int i]) (rest := []) ⟨hx, hb, hml, hown, hts⟩ hE hP hS (c_X4_isFrom l G u 0 (((u.1 (7 + j9)) 1) - 1) i) rfl (va_cwS 3 hts gX4_write_X4_isFrom rfl rfl rfl (by decide +kernel) ⟨Nat.le_of_ble_eq_true rfl, Nat.le_of_ble_eq_true rfl⟩) rfl hl.1 rfl (Nat.le_of_ble_eq_true rfl) dX4_write_48 (fun rq_5 vq_5 H locs q_5 hP hS => ?_)
      have hP := hP.cast (q_5.2)
      refine lv_cast q_5.1 ?_
      refine bo_ne (tgt := 62) hx hb dX4_write_51 (by decide) (fun c_6 => ?_) (fun c_6 => ?_)
      · skip
        obtain ⟨z9, hz9, hz8⟩ := hsz j9 (by omega)
        obtain ⟨i9, hi9, rfl⟩ := num_get hz8 hz9 c_6
        refine lv_aload hx hb dX4_write_62 (lv_at hl 0 rfl) ?_
        refine sh_get hx hb hts hin2 hown hE hP (by omega) rfl 2 (by decide) (hts (.fieldLink RX4 204 "HeldDoor$Sheet" "numbers" "[J") (by decide +kernel)) (v := .ref (gHN G j9)) rfl dX4_write_64 ?_
        refine lv_iload_n hx hb dX4_write_67 rfl (lv_at hl 3 rfl) ?_
        refine sn_ld hx hb hE hP (by omega) rfl i9 (by omega) dX4_write_68 ?_
        refine lv_lstore (lv' := [(6, .long ((u.2 j9) i9)), (5, .ref (gH G j9)), (0, .ref (gad G 0)), (1, .int (nI j9)), (2, .int (nI i9)), (3, .long x)]) hx hb dX4_write_69 hl (by decide) rfl (fun ls hl => ?_)
        refine lv_aload hx hb dX4_write_71 (lv_at hl 1 rfl) ?_
        refine lv_iload_n hx hb dX4_write_73 rfl (lv_at hl 4 rfl) ?_
        refine lv_lload_n hx hb dX4_write_74 rfl (lv_at hl 5 rfl) ?_
        refine hd_callVv (As := [.int (nI i9), .long x]) (rest := []) ⟨hx, hb, hml, hown, hts⟩ hE hP hS (c_X2_put l G u j9 (by omega) (u.1 (7 + j9)) rfl (u.2 j9) rfl i9 (by omega) x) rfl (cwV 2 hts gX4_write_X2_put rfl rfl rfl (by decide +kernel) ⟨Nat.le_of_ble_eq_true rfl, Nat.le_of_ble_eq_true rfl⟩) (sh_recv hE hP (by omega)) rfl hl.1 rfl (Nat.le_of_ble_eq_true rfl) dX4_write_75 (fun vq_7 H locs q_7 hP hS => ?_)
        have hP := hP.cast (q_7)
        refine lv_lload hx hb dX4_write_78 (lv_at hl 0 rfl) ?_
        exact hd_lret hx hb hr hlocks hP hS (PSL.ok (by simp [f_write, shB, c_2, c_4, c_6, nI_clamp (show j9 < 2 ^ 31 by omega), nI_clamp (show i9 < 2 ^ 31 by omega)]) (by rw [nI_clamp (show j9 < 2 ^ 31 by omega), nI_clamp (show i9 < 2 ^ 31 by omega)]; exact ⟨rfl, rfl⟩)) dX4_write_80
      · skip
        refine lv_aload_n hx hb dX4_write_54 rfl (lv_at hl 1 rfl) ?_
        refine lv_ldc (v := (-1000000001)) hx hb hown (hts (.constant RX4 55 ((-1000000001))) (by decide +kernel)) dX4_write_55 ?_
        refine hd_callVi (As := [.int (-1000000001)]) (rest := []) ⟨hx, hb, hml, hown, hts⟩ hE hP hS (c_X4_found_0 l G u F h6) rfl (cwV 1 hts gX4_write_X4_found rfl rfl rfl (by decide +kernel) ⟨Nat.le_of_ble_eq_true rfl, Nat.le_of_ble_eq_true rfl⟩) (do_recv hE hP) rfl hl.1 rfl (Nat.le_of_ble_eq_true rfl) dX4_write_57 (fun rq_8 vq_8 H locs q_8 hP hS => ?_)
        have hP := hP.cast (q_8.2)
        refine lv_cast q_8.1 ?_
        refine lv_i2l hx hb dX4_write_60 rfl ?_
        exact hd_lret hx hb hr hlocks hP hS (PSL.bad (-1000000001) (by simp [f_write, shB, c_2, c_4, c_6, nI_clamp (show j9 < 2 ^ 31 by omega)]) (by decide) rfl rfl) dX4_write_61
    · skip
      refine lv_aload_n hx hb dX4_write_31 rfl (lv_at hl 1 rfl) ?_
      refine lv_ldc (v := (-1000000006)) hx hb hown (hts (.constant RX4 203 ((-1000000006))) (by decide +kernel)) dX4_write_32 ?_
      refine hd_callVi (As := [.int (-1000000006)]) (rest := []) ⟨hx, hb, hml, hown, hts⟩ hE hP hS (c_X4_found_5 l G u F h6) rfl (cwV 1 hts gX4_write_X4_found rfl rfl rfl (by decide +kernel) ⟨Nat.le_of_ble_eq_true rfl, Nat.le_of_ble_eq_true rfl⟩) (do_recv hE hP) rfl hl.1 rfl (Nat.le_of_ble_eq_true rfl) dX4_write_34 (fun rq_9 vq_9 H locs q_9 hP hS => ?_)
      have hP := hP.cast (q_9.2)
      refine lv_cast q_9.1 ?_
      refine lv_i2l hx hb dX4_write_37 rfl ?_
      exact hd_lret hx hb hr hlocks hP hS (PSL.bad (-1000000006) (by simp [f_write, shB, c_2, c_4, nI_clamp (show j9 < 2 ^ 31 by omega)]) (by decide) rfl rfl) dX4_write_38
  · skip
    refine lv_aload_n hx hb dX4_write_7 rfl (lv_at hl 0 rfl) ?_
    refine lv_ldc (v := (-1000000001)) hx hb hown (hts (.constant RX4 55 ((-1000000001))) (by decide +kernel)) dX4_write_8 ?_
    refine hd_callVi (As := [.int (-1000000001)]) (rest := []) ⟨hx, hb, hml, hown, hts⟩ hE hP hS (c_X4_found_0 l G u F h6) rfl (cwV 1 hts gX4_write_X4_found rfl rfl rfl (by decide +kernel) ⟨Nat.le_of_ble_eq_true rfl, Nat.le_of_ble_eq_true rfl⟩) (do_recv hE hP) rfl hl.1 rfl (Nat.le_of_ble_eq_true rfl) dX4_write_10 (fun rq_10 vq_10 H locs q_10 hP hS => ?_)
    have hP := hP.cast (q_10.2)
    refine lv_cast q_10.1 ?_
    refine lv_i2l hx hb dX4_write_13 rfl ?_
    exact hd_lret hx hb hr hlocks hP hS (PSL.bad (-1000000001) (by simp [f_write, shB, c_2]) (by decide) rfl rfl) dX4_write_14
set_option maxHeartbeats 4000000 in
set_option maxRecDepth 100000 in
theorem c_X4_copy (l : Launch) (G : Geo) (u : Sg) (F : Nat → Int32) (h6 : u.1 6 = F) (hsz : ∀ j : Nat, j < 4 → ∃ z : Nat, z ≤ 40 ∧ u.1 (7 + j) 1 = nI z) (s a t b n : Int32) : CtI l G yX4_copy wsX4_copy (rmO 2 44) [.ref (gad G 0), .int s, .int a, .int t, .int b, .int n] u (PS u 6 F (f_copy s a t b n (shB u)) (fun r v => r = n ∧ v = sL u t.toNatClampNeg (va_cpy (u.2 s.toNatClampNeg) (u.2 t.toNatClampNeg) a.toNatClampNeg b.toNatClampNeg n.toNatClampNeg))) := by
  refine CtI.of (cc := cX4_copy) (maxL := 8) (ret := (some .int)) (own := RX4) (by decide) rfl rfl ?_
  rintro pg ev s0 mm below meth cd ⟨hx, hb, hr, hml, hown, hts, hlocks⟩ hE hP ls hl
  have hS : va_S (gA G) s0.heap s0.heap [] := va_S.rf
  have hl : lv_has ls 8 [(0, .ref (gad G 0)), (1, .int s), (2, .int a), (3, .int t), (4, .int b), (5, .int n)] := hl
  have hin2 : ∀ w ∈ wsX20, w ∈ wsX4_copy := by decide +kernel
  have hin4 : ∀ w ∈ wsX40, w ∈ wsX4_copy := by decide +kernel
  refine lv_iload_n hx hb dX4_copy_0 rfl (lv_at hl 1 rfl) ?_
  refine hd_callSi (As := [.int s]) (rest := []) ⟨hx, hb, hml, hown, hts⟩ hE hP hS (c_X4_isSheet l G u s) rfl (va_cwS 1 hts gX4_copy_X4_isSheet rfl rfl rfl (by decide +kernel) ⟨Nat.le_of_ble_eq_true rfl, Nat.le_of_ble_eq_true rfl⟩) rfl hl.1 rfl (Nat.le_of_ble_eq_true rfl) dX4_copy_1 (fun rq_1 vq_1 H locs q_1 hP hS => ?_)
  have hP := hP.cast (q_1.2)
  refine lv_cast q_1.1 ?_
  refine bo_eq (tgt := 14) hx hb dX4_copy_4 (by decide) (fun c_2 => ?_) (fun c_2 => ?_)
  · skip
    refine lv_aload_n hx hb dX4_copy_14 rfl (lv_at hl 0 rfl) ?_
    refine lv_ldc (v := (-1000000001)) hx hb hown (hts (.constant RX4 55 ((-1000000001))) (by decide +kernel)) dX4_copy_15 ?_
    refine hd_callVi (As := [.int (-1000000001)]) (rest := []) ⟨hx, hb, hml, hown, hts⟩ hE hP hS (c_X4_found_0 l G u F h6) rfl (cwV 1 hts gX4_copy_X4_found rfl rfl rfl (by decide +kernel) ⟨Nat.le_of_ble_eq_true rfl, Nat.le_of_ble_eq_true rfl⟩) (do_recv hE hP) rfl hl.1 rfl (Nat.le_of_ble_eq_true rfl) dX4_copy_17 (fun rq_3 vq_3 H locs q_3 hP hS => ?_)
    have hP := hP.cast (q_3.2)
    refine lv_cast q_3.1 ?_
    exact hd_iret hx hb hr hlocks hP hS (PS.bad (-1000000001) (by simp [f_copy, shB, c_2]) (by decide) rfl rfl) dX4_copy_20
  · skip
    obtain ⟨j9, hj9a, hj9b, rfl⟩ := inI_nat c_2 rfl rfl (na := 0) (nb := 3) (by decide) (by decide)
    refine lv_iload_n hx hb dX4_copy_7 rfl (lv_at hl 3 rfl) ?_
    refine hd_callSi (As := [.int t]) (rest := []) ⟨hx, hb, hml, hown, hts⟩ hE hP hS (c_X4_isSheet l G u t) rfl (va_cwS 1 hts gX4_copy_X4_isSheet rfl rfl rfl (by decide +kernel) ⟨Nat.le_of_ble_eq_true rfl, Nat.le_of_ble_eq_true rfl⟩) rfl hl.1 rfl (Nat.le_of_ble_eq_true rfl) dX4_copy_8 (fun rq_4 vq_4 H locs q_4 hP hS => ?_)
    have hP := hP.cast (q_4.2)
    refine lv_cast q_4.1 ?_
    refine bo_ne (tgt := 21) hx hb dX4_copy_11 (by decide) (fun c_5 => ?_) (fun c_5 => ?_)
    · skip
      obtain ⟨i9, hi9a, hi9b, rfl⟩ := inI_nat c_5 rfl rfl (na := 0) (nb := 3) (by decide) (by decide)
      refine lv_aload_n hx hb dX4_copy_21 rfl (lv_at hl 0 rfl) ?_
      refine do_get hx hb hts hin4 hown hE hP rfl 5 (by decide) (hts (.fieldLink RX4 35 "HeldDoor" "sheets" "[LHeldDoor$Sheet;") (by decide +kernel)) (v := .ref (gad G 24)) rfl dX4_copy_22 ?_
      refine lv_iload_n hx hb dX4_copy_25 rfl (lv_at hl 1 rfl) ?_
      refine ss_ld hx hb hE hP j9 (by omega) dX4_copy_26 ?_
      refine lv_astore (lv' := [(6, .ref (gH G j9)), (0, .ref (gad G 0)), (1, .int (nI j9)), (2, .int a), (3, .int (nI i9)), (4, .int b), (5, .int n)]) hx hb dX4_copy_27 hl (by decide) rfl (fun ls hl => ?_)
      refine lv_aload_n hx hb dX4_copy_29 rfl (lv_at hl 1 rfl) ?_
      refine do_get hx hb hts hin4 hown hE hP rfl 5 (by decide) (hts (.fieldLink RX4 35 "HeldDoor" "sheets" "[LHeldDoor$Sheet;") (by decide +kernel)) (v := .ref (gad G 24)) rfl dX4_copy_30 ?_
      refine lv_iload_n hx hb dX4_copy_33 rfl (lv_at hl 4 rfl) ?_
      refine ss_ld hx hb hE hP i9 (by omega) dX4_copy_34 ?_
      refine lv_astore (lv' := [(7, .ref (gH G i9)), (6, .ref (gH G j9)), (0, .ref (gad G 0)), (1, .int (nI j9)), (2, .int a), (3, .int (nI i9)), (4, .int b), (5, .int n)]) hx hb dX4_copy_35 hl (by decide) rfl (fun ls hl => ?_)
      refine lv_aload hx hb dX4_copy_37 (lv_at hl 1 rfl) ?_
      refine hd_callVi (As := []) (rest := []) ⟨hx, hb, hml, hown, hts⟩ hE hP hS (c_X2_isMissing l G u j9 (by omega) (u.1 (7 + j9)) rfl) rfl (cwV 0 hts gX4_copy_X2_isMissing rfl rfl rfl (by decide +kernel) ⟨Nat.le_of_ble_eq_true rfl, Nat.le_of_ble_eq_true rfl⟩) (sh_recv hE hP (by omega)) rfl hl.1 rfl (Nat.le_of_ble_eq_true rfl) dX4_copy_39 (fun rq_6 vq_6 H locs q_6 hP hS => ?_)
      have hP := hP.cast (q_6.2)
      refine lv_cast q_6.1 ?_
      refine bo_ne (tgt := 53) hx hb dX4_copy_42 (by decide) (fun c_7 => ?_) (fun c_7 => ?_)
      · skip
        refine lv_aload_n hx hb dX4_copy_53 rfl (lv_at hl 2 rfl) ?_
        refine lv_ldc (v := (-1000000006)) hx hb hown (hts (.constant RX4 203 ((-1000000006))) (by decide +kernel)) dX4_copy_54 ?_
        refine hd_callVi (As := [.int (-1000000006)]) (rest := []) ⟨hx, hb, hml, hown, hts⟩ hE hP hS (c_X4_found_5 l G u F h6) rfl (cwV 1 hts gX4_copy_X4_found rfl rfl rfl (by decide +kernel) ⟨Nat.le_of_ble_eq_true rfl, Nat.le_of_ble_eq_true rfl⟩) (do_recv hE hP) rfl hl.1 rfl (Nat.le_of_ble_eq_true rfl) dX4_copy_56 (fun rq_8 vq_8 H locs q_8 hP hS => ?_)
        have hP := hP.cast (q_8.2)
        refine lv_cast q_8.1 ?_
        exact hd_iret hx hb hr hlocks hP hS (PS.bad (-1000000006) (by simp [f_copy, shB, c_2, c_5, c_7, nI_clamp (show j9 < 2 ^ 31 by omega), nI_clamp (show i9 < 2 ^ 31 by omega)]) (by decide) rfl rfl) dX4_copy_59
      · skip
        refine lv_aload hx hb dX4_copy_45 (lv_at hl 0 rfl) ?_
        refine hd_callVi (As := []) (rest := []) ⟨hx, hb, hml, hown, hts⟩ hE hP hS (c_X2_isMissing l G u i9 (by omega) (u.1 (7 + i9)) rfl) rfl (cwV 0 hts gX4_copy_X2_isMissing rfl rfl rfl (by decide +kernel) ⟨Nat.le_of_ble_eq_true rfl, Nat.le_of_ble_eq_true rfl⟩) (sh_recv hE hP (by omega)) rfl hl.1 rfl (Nat.le_of_ble_eq_true rfl) dX4_copy_47 (fun rq_9 vq_9 H locs q_9 hP hS => ?_)
        have hP := hP.cast (q_9.2)
        refine lv_cast q_9.1 ?_
        refine bo_eq (tgt := 60) hx hb dX4_copy_50 (by decide) (fun c_10 => ?_) (fun c_10 => ?_)
        · skip
          refine lv_aload hx hb dX4_copy_60 (lv_at hl 1 rfl) ?_
          refine sh_get hx hb hts hin2 hown hE hP (by omega) rfl 0 (by decide) (hts (.fieldLink RX4 212 "HeldDoor$Sheet" "bits" "I") (by decide +kernel)) (v := .int ((u.1 (7 + j9)) 0)) rfl dX4_copy_62 ?_
          refine lv_aload hx hb dX4_copy_65 (lv_at hl 0 rfl) ?_
          refine sh_get hx hb hts hin2 hown hE hP (by omega) rfl 0 (by decide) (hts (.fieldLink RX4 212 "HeldDoor$Sheet" "bits" "I") (by decide +kernel)) (v := .int ((u.1 (7 + i9)) 0)) rfl dX4_copy_67 ?_
          refine lv_icmp_eq (tgt := 80) hx hb dX4_copy_70 (by decide) (fun c_11 => ?_) (fun c_11 => ?_)
          · skip
            refine lv_aload hx hb dX4_copy_80 (lv_at hl 1 rfl) ?_
            refine lv_iload_n hx hb dX4_copy_82 rfl (lv_at hl 4 rfl) ?_
            refine lv_iload hx hb dX4_copy_83 (lv_at hl 7 rfl) ?_
            refine hd_callVi (As := [.int a, .int n]) (rest := []) ⟨hx, hb, hml, hown, hts⟩ hE hP hS (c_X2_hasRun l G u j9 (by omega) (u.1 (7 + j9)) rfl a n) rfl (cwV 2 hts gX4_copy_X2_hasRun rfl rfl rfl (by decide +kernel) ⟨Nat.le_of_ble_eq_true rfl, Nat.le_of_ble_eq_true rfl⟩) (sh_recv hE hP (by omega)) rfl hl.1 rfl (Nat.le_of_ble_eq_true rfl) dX4_copy_85 (fun rq_12 vq_12 H locs q_12 hP hS => ?_)
            have hP := hP.cast (q_12.2)
            refine lv_cast q_12.1 ?_
            refine bo_eq (tgt := 103) hx hb dX4_copy_88 (by decide) (fun c_13 => ?_) (fun c_13 => ?_)
            · skip
              refine lv_aload_n hx hb dX4_copy_103 rfl (lv_at hl 2 rfl) ?_
              refine lv_ldc (v := (-1000000001)) hx hb hown (hts (.constant RX4 55 ((-1000000001))) (by decide +kernel)) dX4_copy_104 ?_
              refine hd_callVi (As := [.int (-1000000001)]) (rest := []) ⟨hx, hb, hml, hown, hts⟩ hE hP hS (c_X4_found_0 l G u F h6) rfl (cwV 1 hts gX4_copy_X4_found rfl rfl rfl (by decide +kernel) ⟨Nat.le_of_ble_eq_true rfl, Nat.le_of_ble_eq_true rfl⟩) (do_recv hE hP) rfl hl.1 rfl (Nat.le_of_ble_eq_true rfl) dX4_copy_106 (fun rq_14 vq_14 H locs q_14 hP hS => ?_)
              have hP := hP.cast (q_14.2)
              refine lv_cast q_14.1 ?_
              exact hd_iret hx hb hr hlocks hP hS (PS.bad (-1000000001) (by simp [f_copy, shB, c_2, c_5, c_7, c_10, c_11, c_13, nI_clamp (show j9 < 2 ^ 31 by omega), nI_clamp (show i9 < 2 ^ 31 by omega)]) (by decide) rfl rfl) dX4_copy_109
            · skip
              obtain ⟨z9, hz9, hz8⟩ := hsz j9 (by omega)
              obtain ⟨a9, n9, rfl, rfl, hs9⟩ := hasR_get hz8 hz9 c_13
              refine lv_aload hx hb dX4_copy_91 (lv_at hl 0 rfl) ?_
              refine lv_iload hx hb dX4_copy_93 (lv_at hl 6 rfl) ?_
              refine lv_iload hx hb dX4_copy_95 (lv_at hl 7 rfl) ?_
              refine hd_callVi (As := [.int b, .int (nI n9)]) (rest := []) ⟨hx, hb, hml, hown, hts⟩ hE hP hS (c_X2_hasRun l G u i9 (by omega) (u.1 (7 + i9)) rfl b (nI n9)) rfl (cwV 2 hts gX4_copy_X2_hasRun rfl rfl rfl (by decide +kernel) ⟨Nat.le_of_ble_eq_true rfl, Nat.le_of_ble_eq_true rfl⟩) (sh_recv hE hP (by omega)) rfl hl.1 rfl (Nat.le_of_ble_eq_true rfl) dX4_copy_97 (fun rq_15 vq_15 H locs q_15 hP hS => ?_)
              have hP := hP.cast (q_15.2)
              refine lv_cast q_15.1 ?_
              refine bo_ne (tgt := 110) hx hb dX4_copy_100 (by decide) (fun c_16 => ?_) (fun c_16 => ?_)
              · skip
                obtain ⟨z7, hz7, hz6⟩ := hsz i9 (by omega)
                obtain ⟨b9, n8, rfl, hn8, ht9⟩ := hasR_get hz6 hz7 c_16
                have hn9 : n9 = n8 := (nI_eq (by omega) (by omega)).mp hn8
                subst hn9
                refine lv_aload hx hb dX4_copy_110 (lv_at hl 1 rfl) ?_
                refine sh_get hx hb hts hin2 hown hE hP (by omega) rfl 2 (by decide) (hts (.fieldLink RX4 204 "HeldDoor$Sheet" "numbers" "[J") (by decide +kernel)) (v := .ref (gHN G j9)) rfl dX4_copy_112 ?_
                refine lv_iload_n hx hb dX4_copy_115 rfl (lv_at hl 4 rfl) ?_
                refine lv_aload hx hb dX4_copy_116 (lv_at hl 0 rfl) ?_
                refine sh_get hx hb hts hin2 hown hE hP (by omega) rfl 2 (by decide) (hts (.fieldLink RX4 204 "HeldDoor$Sheet" "numbers" "[J") (by decide +kernel)) (v := .ref (gHN G i9)) rfl dX4_copy_118 ?_
                refine lv_iload hx hb dX4_copy_121 (lv_at hl 6 rfl) ?_
                refine lv_iload hx hb dX4_copy_123 (lv_at hl 7 rfl) ?_
                refine sn_cpy hx hb (hml.trans hl.1.symm) hown (hts (.methodLink RX4 218 arraycopyName) (by decide +kernel)) (hts (.native arraycopyName) (by decide +kernel)) (hts (.static arraycopyName) (by decide +kernel)) (hts (.initialized "java/lang/System") (by decide +kernel)) hE hP hS (by omega) (by omega) rfl rfl rfl (by omega) (by omega) (Nat.le_of_ble_eq_true rfl) (by decide) dX4_copy_125 (fun H locs hP hS => ?_)
                refine lv_iload hx hb dX4_copy_128 (lv_at hl 7 rfl) ?_
                exact hd_iret hx hb hr hlocks hP hS (PS.ok (by simp [f_copy, shB, c_2, c_5, c_7, c_10, c_11, c_13, c_16, nI_clamp (show j9 < 2 ^ 31 by omega), nI_clamp (show i9 < 2 ^ 31 by omega), nI_clamp (show a9 < 2 ^ 31 by omega), nI_clamp (show n9 < 2 ^ 31 by omega), nI_clamp (show b9 < 2 ^ 31 by omega)]) (by rw [nI_clamp (show j9 < 2 ^ 31 by omega), nI_clamp (show i9 < 2 ^ 31 by omega), nI_clamp (show a9 < 2 ^ 31 by omega), nI_clamp (show b9 < 2 ^ 31 by omega), nI_clamp (show n9 < 2 ^ 31 by omega)]; exact ⟨rfl, rfl⟩)) dX4_copy_130
              · skip
                refine lv_aload_n hx hb dX4_copy_103 rfl (lv_at hl 2 rfl) ?_
                refine lv_ldc (v := (-1000000001)) hx hb hown (hts (.constant RX4 55 ((-1000000001))) (by decide +kernel)) dX4_copy_104 ?_
                refine hd_callVi (As := [.int (-1000000001)]) (rest := []) ⟨hx, hb, hml, hown, hts⟩ hE hP hS (c_X4_found_0 l G u F h6) rfl (cwV 1 hts gX4_copy_X4_found rfl rfl rfl (by decide +kernel) ⟨Nat.le_of_ble_eq_true rfl, Nat.le_of_ble_eq_true rfl⟩) (do_recv hE hP) rfl hl.1 rfl (Nat.le_of_ble_eq_true rfl) dX4_copy_106 (fun rq_17 vq_17 H locs q_17 hP hS => ?_)
                have hP := hP.cast (q_17.2)
                refine lv_cast q_17.1 ?_
                exact hd_iret hx hb hr hlocks hP hS (PS.bad (-1000000001) (by simp [f_copy, shB, c_2, c_5, c_7, c_10, c_11, c_13, c_16, nI_clamp (show j9 < 2 ^ 31 by omega), nI_clamp (show i9 < 2 ^ 31 by omega), nI_clamp (show a9 < 2 ^ 31 by omega), nI_clamp (show n9 < 2 ^ 31 by omega)]) (by decide) rfl rfl) dX4_copy_109
          · skip
            refine lv_aload_n hx hb dX4_copy_73 rfl (lv_at hl 2 rfl) ?_
            refine lv_ldc (v := (-1000000003)) hx hb hown (hts (.constant RX4 115 ((-1000000003))) (by decide +kernel)) dX4_copy_74 ?_
            refine hd_callVi (As := [.int (-1000000003)]) (rest := []) ⟨hx, hb, hml, hown, hts⟩ hE hP hS (c_X4_found_2 l G u F h6) rfl (cwV 1 hts gX4_copy_X4_found rfl rfl rfl (by decide +kernel) ⟨Nat.le_of_ble_eq_true rfl, Nat.le_of_ble_eq_true rfl⟩) (do_recv hE hP) rfl hl.1 rfl (Nat.le_of_ble_eq_true rfl) dX4_copy_76 (fun rq_18 vq_18 H locs q_18 hP hS => ?_)
            have hP := hP.cast (q_18.2)
            refine lv_cast q_18.1 ?_
            exact hd_iret hx hb hr hlocks hP hS (PS.bad (-1000000003) (by simp [f_copy, shB, c_2, c_5, c_7, c_10, c_11, nI_clamp (show j9 < 2 ^ 31 by omega), nI_clamp (show i9 < 2 ^ 31 by omega)]) (by decide) rfl rfl) dX4_copy_79
        · skip
          refine lv_aload_n hx hb dX4_copy_53 rfl (lv_at hl 2 rfl) ?_
          refine lv_ldc (v := (-1000000006)) hx hb hown (hts (.constant RX4 203 ((-1000000006))) (by decide +kernel)) dX4_copy_54 ?_
          refine hd_callVi (As := [.int (-1000000006)]) (rest := []) ⟨hx, hb, hml, hown, hts⟩ hE hP hS (c_X4_found_5 l G u F h6) rfl (cwV 1 hts gX4_copy_X4_found rfl rfl rfl (by decide +kernel) ⟨Nat.le_of_ble_eq_true rfl, Nat.le_of_ble_eq_true rfl⟩) (do_recv hE hP) rfl hl.1 rfl (Nat.le_of_ble_eq_true rfl) dX4_copy_56 (fun rq_19 vq_19 H locs q_19 hP hS => ?_)
          have hP := hP.cast (q_19.2)
          refine lv_cast q_19.1 ?_
          exact hd_iret hx hb hr hlocks hP hS (PS.bad (-1000000006) (by simp [f_copy, shB, c_2, c_5, c_7, c_10, nI_clamp (show j9 < 2 ^ 31 by omega), nI_clamp (show i9 < 2 ^ 31 by omega)]) (by decide) rfl rfl) dX4_copy_59
    · skip
      refine lv_aload_n hx hb dX4_copy_14 rfl (lv_at hl 0 rfl) ?_
      refine lv_ldc (v := (-1000000001)) hx hb hown (hts (.constant RX4 55 ((-1000000001))) (by decide +kernel)) dX4_copy_15 ?_
      refine hd_callVi (As := [.int (-1000000001)]) (rest := []) ⟨hx, hb, hml, hown, hts⟩ hE hP hS (c_X4_found_0 l G u F h6) rfl (cwV 1 hts gX4_copy_X4_found rfl rfl rfl (by decide +kernel) ⟨Nat.le_of_ble_eq_true rfl, Nat.le_of_ble_eq_true rfl⟩) (do_recv hE hP) rfl hl.1 rfl (Nat.le_of_ble_eq_true rfl) dX4_copy_17 (fun rq_20 vq_20 H locs q_20 hP hS => ?_)
      have hP := hP.cast (q_20.2)
      refine lv_cast q_20.1 ?_
      exact hd_iret hx hb hr hlocks hP hS (PS.bad (-1000000001) (by simp [f_copy, shB, c_2, c_5, nI_clamp (show j9 < 2 ^ 31 by omega)]) (by decide) rfl rfl) dX4_copy_20
