set_option maxHeartbeats 4000000 in
set_option maxRecDepth 100000 in
theorem c_X5_book_b (l : Launch) (G : Geo) (u : Sg) (M F : Nat → Int32) (h11 : u.1 11 = M) (h15 : u.1 15 = F) (hM : Wf M) (T : Nat → Int32) (h13 : u.1 13 = T) (tT : ∀ k : Nat, 53 ≤ k → T k = 0) (s p : Int32) (hflt : f_book s p (moB u) M = -1000000001) : CtI l G yX5_book wsX5_book (rmO 5 115) [.ref (gad G 34), .int s, .int p] u (PS u 15 F (f_book s p (moB u) M) (fun r v => r = u.1 18 s.toNatClampNeg ∧ ∀ z : Nat, u.1 18 s.toNatClampNeg = nI z ∧ z < 2147483648 → v = sL (sI u 13 M) 4 (bkS (u.2 4) s.toNatClampNeg M p.toNatClampNeg (u.1 17 s.toNatClampNeg) z))) := by
  refine CtI.of (cc := cX5_book) (maxL := 5) (ret := (some .int)) (own := RX5) (by decide) rfl rfl ?_
  rintro pg ev s0 mm below meth cd ⟨hx, hb, hr, hml, hown, hts, hlocks⟩ hE hP ls hl
  have hS : va_S (gA G) s0.heap s0.heap [] := va_S.rf
  have hl : lv_has ls 5 [(0, .ref (gad G 34)), (1, .int s), (2, .int p)] := hl
  refine lv_aload_n hx hb dX5_book_0 rfl (lv_at hl 0 rfl) ?_
  refine lv_iload_n hx hb dX5_book_1 rfl (lv_at hl 1 rfl) ?_
  refine lv_iload_n hx hb dX5_book_2 rfl (lv_at hl 2 rfl) ?_
  refine hd_callVi (As := [.int s, .int p]) (rest := []) ⟨hx, hb, hml, hown, hts⟩ hE hP hS (c_X5_notAsked l G u M h11 s p) rfl (cwV 2 hts gX5_book_X5_notAsked rfl rfl rfl (by decide +kernel) ⟨Nat.le_of_ble_eq_true rfl, Nat.le_of_ble_eq_true rfl⟩) (mo_recv hE hP) rfl hl.1 rfl (Nat.le_of_ble_eq_true rfl) dX5_book_3 (fun rq_1 vq_1 H locs q_1 hP hS => ?_)
  have hP := hP.cast (q_1.2)
  refine lv_cast q_1.1 ?_
  refine lv_cast hflt ?_
  refine lv_istore_n (lv' := [(3, .int (-1000000001)), (0, .ref (gad G 34)), (1, .int s), (2, .int p)]) hx hb dX5_book_6 rfl hl (by decide) rfl (fun ls hl => ?_)
  refine lv_iload_n hx hb dX5_book_7 rfl (lv_at hl 0 rfl) ?_
  refine lv_if_eq (tgt := 17) hx hb dX5_book_8 (by decide) (fun h => False.elim (by revert h; decide)) (fun _ => ?_)
  refine lv_aload_n hx hb dX5_book_11 rfl (lv_at hl 1 rfl) ?_
  refine lv_iload_n hx hb dX5_book_12 rfl (lv_at hl 0 rfl) ?_
  refine hd_callVi (As := [.int (-1000000001)]) (rest := []) ⟨hx, hb, hml, hown, hts⟩ hE hP hS (c_X5_finds_0 l G u F h15) rfl (cwV 1 hts gX5_book_X5_finds rfl rfl rfl (by decide +kernel) ⟨Nat.le_of_ble_eq_true rfl, Nat.le_of_ble_eq_true rfl⟩) (mo_recv hE hP) rfl hl.1 rfl (Nat.le_of_ble_eq_true rfl) dX5_book_13 (fun rq_2 vq_2 H locs q_2 hP hS => ?_)
  have hP := hP.cast (q_2.2)
  refine lv_cast q_2.1 ?_
  exact hd_iret hx hb hr hlocks hP hS (PS.bad (-1000000001) hflt (by decide) rfl rfl) dX5_book_16
set_option maxHeartbeats 4000000 in
set_option maxRecDepth 100000 in
theorem c_X5_book_m (l : Launch) (G : Geo) (u : Sg) (M F : Nat → Int32) (h11 : u.1 11 = M) (h15 : u.1 15 = F) (hM : Wf M) (T : Nat → Int32) (h13 : u.1 13 = T) (tT : ∀ k : Nat, 53 ≤ k → T k = 0) (s p : Int32) (hflt : f_book s p (moB u) M = -1000000006) : CtI l G yX5_book wsX5_book (rmO 5 115) [.ref (gad G 34), .int s, .int p] u (PS u 15 F (f_book s p (moB u) M) (fun r v => r = u.1 18 s.toNatClampNeg ∧ ∀ z : Nat, u.1 18 s.toNatClampNeg = nI z ∧ z < 2147483648 → v = sL (sI u 13 M) 4 (bkS (u.2 4) s.toNatClampNeg M p.toNatClampNeg (u.1 17 s.toNatClampNeg) z))) := by
  refine CtI.of (cc := cX5_book) (maxL := 5) (ret := (some .int)) (own := RX5) (by decide) rfl rfl ?_
  rintro pg ev s0 mm below meth cd ⟨hx, hb, hr, hml, hown, hts, hlocks⟩ hE hP ls hl
  have hS : va_S (gA G) s0.heap s0.heap [] := va_S.rf
  have hl : lv_has ls 5 [(0, .ref (gad G 34)), (1, .int s), (2, .int p)] := hl
  refine lv_aload_n hx hb dX5_book_0 rfl (lv_at hl 0 rfl) ?_
  refine lv_iload_n hx hb dX5_book_1 rfl (lv_at hl 1 rfl) ?_
  refine lv_iload_n hx hb dX5_book_2 rfl (lv_at hl 2 rfl) ?_
  refine hd_callVi (As := [.int s, .int p]) (rest := []) ⟨hx, hb, hml, hown, hts⟩ hE hP hS (c_X5_notAsked l G u M h11 s p) rfl (cwV 2 hts gX5_book_X5_notAsked rfl rfl rfl (by decide +kernel) ⟨Nat.le_of_ble_eq_true rfl, Nat.le_of_ble_eq_true rfl⟩) (mo_recv hE hP) rfl hl.1 rfl (Nat.le_of_ble_eq_true rfl) dX5_book_3 (fun rq_1 vq_1 H locs q_1 hP hS => ?_)
  have hP := hP.cast (q_1.2)
  refine lv_cast q_1.1 ?_
  refine lv_cast hflt ?_
  refine lv_istore_n (lv' := [(3, .int (-1000000006)), (0, .ref (gad G 34)), (1, .int s), (2, .int p)]) hx hb dX5_book_6 rfl hl (by decide) rfl (fun ls hl => ?_)
  refine lv_iload_n hx hb dX5_book_7 rfl (lv_at hl 0 rfl) ?_
  refine lv_if_eq (tgt := 17) hx hb dX5_book_8 (by decide) (fun h => False.elim (by revert h; decide)) (fun _ => ?_)
  refine lv_aload_n hx hb dX5_book_11 rfl (lv_at hl 1 rfl) ?_
  refine lv_iload_n hx hb dX5_book_12 rfl (lv_at hl 0 rfl) ?_
  refine hd_callVi (As := [.int (-1000000006)]) (rest := []) ⟨hx, hb, hml, hown, hts⟩ hE hP hS (c_X5_finds_5 l G u F h15) rfl (cwV 1 hts gX5_book_X5_finds rfl rfl rfl (by decide +kernel) ⟨Nat.le_of_ble_eq_true rfl, Nat.le_of_ble_eq_true rfl⟩) (mo_recv hE hP) rfl hl.1 rfl (Nat.le_of_ble_eq_true rfl) dX5_book_13 (fun rq_2 vq_2 H locs q_2 hP hS => ?_)
  have hP := hP.cast (q_2.2)
  refine lv_cast q_2.1 ?_
  exact hd_iret hx hb hr hlocks hP hS (PS.bad (-1000000006) hflt (by decide) rfl rfl) dX5_book_16
set_option maxHeartbeats 4000000 in
set_option maxRecDepth 100000 in
theorem c_X5_book_0 (l : Launch) (G : Geo) (u : Sg) (M F : Nat → Int32) (h11 : u.1 11 = M) (h15 : u.1 15 = F) (hM : Wf M) (T : Nat → Int32) (h13 : u.1 13 = T) (tT : ∀ k : Nat, 53 ≤ k → T k = 0) (j9 q z9 : Nat) (hj : j9 < 4) (hz9 : z9 ≤ 40) (hz8 : u.1 18 j9 = nI z9) (hq : q < nP M) (hflt : f_book (nI j9) (nI q) (moB u) M = 0) : CtI l G yX5_book wsX5_book (rmO 5 115) [.ref (gad G 34), .int (nI j9), .int (nI q)] u (PS u 15 F (f_book (nI j9) (nI q) (moB u) M) (fun r v => r = u.1 18 (nI j9).toNatClampNeg ∧ ∀ z : Nat, u.1 18 (nI j9).toNatClampNeg = nI z ∧ z < 2147483648 → v = sL (sI u 13 M) 4 (bkS (u.2 4) (nI j9).toNatClampNeg M (nI q).toNatClampNeg (u.1 17 (nI j9).toNatClampNeg) z))) := by
  refine CtI.of (cc := cX5_book) (maxL := 5) (ret := (some .int)) (own := RX5) (by decide) rfl rfl ?_
  rintro pg ev s0 mm below meth cd ⟨hx, hb, hr, hml, hown, hts, hlocks⟩ hE hP ls hl
  have hS : va_S (gA G) s0.heap s0.heap [] := va_S.rf
  have hl : lv_has ls 5 [(0, .ref (gad G 34)), (1, .int (nI j9)), (2, .int (nI q))] := hl
  have hin5 : ∀ w ∈ wsX50, w ∈ wsX5_book := by decide +kernel
  have hn := hM.n
  have h8 := hM.n8
  refine lv_aload_n hx hb dX5_book_0 rfl (lv_at hl 0 rfl) ?_
  refine lv_iload_n hx hb dX5_book_1 rfl (lv_at hl 1 rfl) ?_
  refine lv_iload_n hx hb dX5_book_2 rfl (lv_at hl 2 rfl) ?_
  refine hd_callVi (As := [.int (nI j9), .int (nI q)]) (rest := []) ⟨hx, hb, hml, hown, hts⟩ hE hP hS (c_X5_notAsked l G u M h11 (nI j9) (nI q)) rfl (cwV 2 hts gX5_book_X5_notAsked rfl rfl rfl (by decide +kernel) ⟨Nat.le_of_ble_eq_true rfl, Nat.le_of_ble_eq_true rfl⟩) (mo_recv hE hP) rfl hl.1 rfl (Nat.le_of_ble_eq_true rfl) dX5_book_3 (fun rq_1 vq_1 H locs q_1 hP hS => ?_)
  have hP := hP.cast (q_1.2)
  refine lv_cast q_1.1 ?_
  refine lv_cast hflt ?_
  refine lv_istore_n (lv' := [(3, .int 0), (0, .ref (gad G 34)), (1, .int (nI j9)), (2, .int (nI q))]) hx hb dX5_book_6 rfl hl (by decide) rfl (fun ls hl => ?_)
  refine lv_iload_n hx hb dX5_book_7 rfl (lv_at hl 0 rfl) ?_
  refine lv_if_eq (tgt := 17) hx hb dX5_book_8 (by decide) (fun _ => ?_) (fun h => False.elim (by revert h; decide))
  refine lv_aload_n hx hb dX5_book_17 rfl (lv_at hl 1 rfl) ?_
  refine hd_callVv (As := []) (rest := []) ⟨hx, hb, hml, hown, hts⟩ hE hP hS (c_X5_thinks l G u M T h11 h13 (hM).1 tT) rfl (cwV 0 hts gX5_book_X5_thinks rfl rfl rfl (by decide +kernel) ⟨Nat.le_of_ble_eq_true rfl, Nat.le_of_ble_eq_true rfl⟩) (mo_recv hE hP) rfl hl.1 rfl (Nat.le_of_ble_eq_true rfl) dX5_book_18 (fun vq_2 H locs q_2 hP hS => ?_)
  have hP := hP.cast (q_2)
  refine lv_iconst (v := 0) hx hb dX5_book_21 (by decide) ?_
  refine lv_istore (lv' := [(4, .int 0), (3, .int 0), (0, .ref (gad G 34)), (1, .int (nI j9)), (2, .int (nI q))]) hx hb dX5_book_22 hl (by decide) rfl (fun ls hl => ?_)
  have J24 : ∀ (fu : Nat) (k9 : Nat) (N : Nat → Int32) (E : Nat → Int64) (hk : k9 ≤ z9) (hN : N = goN M k9) (hG : E = bkS (u.2 4) j9 M q (u.1 17 j9) k9) (hrk : z9 - k9 < fu) (H : Heap) (locs : List Loc) (ls : Array Slot), WP G (sL (sI (sI u 13 M) 11 N) 4 E) H → va_S (gA G) s0.heap H locs → lv_has ls 5 [(0, .ref (gad G 34)), (1, .int (nI j9)), (2, .int (nI q)), (4, .int (nI k9))] → W pg l ev (headSpec wsX5_book (rmO 5 115)).room s0 mm ([.ref (gad G 34), .int (nI j9), .int (nI q)] : List Value).toArray below meth cd H locs 0 0 (MQ below (va_Qi (PS u 15 F (f_book (nI j9) (nI q) (moB u) M) (fun r v => r = u.1 18 (nI j9).toNatClampNeg ∧ ∀ z : Nat, u.1 18 (nI j9).toNatClampNeg = nI z ∧ z < 2147483648 → v = sL (sI u 13 M) 4 (bkS (u.2 4) (nI j9).toNatClampNeg M (nI q).toNatClampNeg (u.1 17 (nI j9).toNatClampNeg) z))) (fun v t => WP G v t.heap) (gA G)) ([.ref (gad G 34), .int (nI j9), .int (nI q)] : List Value).toArray s0 0 0 (gA G)) (F0 mm 24 ls []) := by
    intro fu
    induction fu with
    | zero => intro k9 N E hk hN hG hrk; exact absurd hrk (Nat.not_lt_zero _)
    | succ fu ih24 =>
      intro k9 N E hk hN hG hrk H locs ls hP hS hl
      have hWn : Wf N := by rw [hN]; exact Wf_goN hM k9
      have hNp : nP N = nP M := by rw [hN, nP_goN]
      refine lv_iload hx hb dX5_book_24 (lv_at hl 3 rfl) ?_
      refine lv_aload_n hx hb dX5_book_26 rfl (lv_at hl 0 rfl) ?_
      refine mo_get hx hb hts hin5 hown hE hP (sL_1r ((sI_ne _ _ (by decide)).trans ((sI_ne _ _ (by decide)).trans rfl))) 13 (by decide) (hts (.fieldLink RX5 28 "HeldDoorModel" "sizeOf" "[I") (by decide +kernel)) (v := .ref (gad G 41)) rfl dX5_book_27 ?_
      refine lv_iload_n hx hb dX5_book_30 rfl (lv_at hl 1 rfl) ?_
      refine ar_ld hx hb hE hP 41 4 (by decide) (ar_at41 (sL_1r ((sI_ne _ _ (by decide)).trans ((sI_ne _ _ (by decide)).trans rfl)))) j9 (by omega) dX5_book_31 ?_
      refine lv_cast hz8 ?_
      refine nn_ge (a := k9) (b := z9) (by omega) (by omega) (tgt := 73) hx hb dX5_book_32 (by decide) (fun c_3 => ?_) (fun c_3 => ?_)
      · skip
        refine lv_aload_n hx hb dX5_book_73 rfl (lv_at hl 0 rfl) ?_
        refine hd_callVv (As := []) (rest := []) ⟨hx, hb, hml, hown, hts⟩ hE hP hS (c_X5_putsBack l G (sL (sI (sI u 13 M) 11 N) 4 E) M N (sL_1r ((sI_ne _ _ (by decide)).trans (sI_at _ _ _))) (sL_1r (sI_at _ _ _)) (hM).1 (hWn).1) rfl (cwV 0 hts gX5_book_X5_putsBack rfl rfl rfl (by decide +kernel) ⟨Nat.le_of_ble_eq_true rfl, Nat.le_of_ble_eq_true rfl⟩) (mo_recv hE hP) rfl hl.1 rfl (Nat.le_of_ble_eq_true rfl) dX5_book_74 (fun vq_4 H locs q_4 hP hS => ?_)
        have q_4v := q_4
        have hP := hP.cast (q_4v.trans (sI_sL _ _ _ _ _ _))
        refine lv_aload_n hx hb dX5_book_77 rfl (lv_at hl 0 rfl) ?_
        refine mo_get hx hb hts hin5 hown hE hP (sL_1r ((sI_ne _ _ (by decide)).trans ((sI_ne _ _ (by decide)).trans rfl))) 13 (by decide) (hts (.fieldLink RX5 28 "HeldDoorModel" "sizeOf" "[I") (by decide +kernel)) (v := .ref (gad G 41)) rfl dX5_book_78 ?_
        refine lv_iload_n hx hb dX5_book_81 rfl (lv_at hl 1 rfl) ?_
        refine ar_ld hx hb hE hP 41 4 (by decide) (ar_at41 (sL_1r ((sI_ne _ _ (by decide)).trans ((sI_ne _ _ (by decide)).trans rfl)))) j9 (by omega) dX5_book_82 ?_
        refine lv_cast hz8 ?_
        exact hd_iret hx hb hr hlocks hP hS (PS.ok hflt (by rw [nI_clamp (show j9 < 2 ^ 31 by omega), nI_clamp (show q < 2 ^ 31 by omega)]; refine ⟨hz8.symm, fun z hz => ?_⟩; rw [hz8] at hz; rw [← (nI_eq (show z9 < 2147483648 by omega) hz.2).mp hz.1, show z9 = k9 by omega, ← hG]; exact bk_end h11)) dX5_book_83
      · skip
        refine lv_aload_n hx hb dX5_book_35 rfl (lv_at hl 0 rfl) ?_
        refine mo_get hx hb hts hin5 hown hE hP (sL_1r ((sI_ne _ _ (by decide)).trans ((sI_ne _ _ (by decide)).trans rfl))) 14 (by decide) (hts (.fieldLink RX5 31 "HeldDoorModel" "cells" "[J") (by decide +kernel)) (v := .ref (gad G 42)) rfl dX5_book_36 ?_
        refine lv_bipush (v := 40) hx hb dX5_book_39 (by decide) ?_
        refine lv_iload_n hx hb dX5_book_41 rfl (lv_at hl 1 rfl) ?_
        refine nn_imul (a := 40) (b := j9) hx hb dX5_book_42 ?_
        refine lv_iload hx hb dX5_book_43 (lv_at hl 3 rfl) ?_
        refine nn_iadd (a := 40 * j9) (b := k9) hx hb dX5_book_45 ?_
        refine lv_aload_n hx hb dX5_book_46 rfl (lv_at hl 0 rfl) ?_
        refine mo_get hx hb hts hin5 hown hE hP (sL_1r ((sI_ne _ _ (by decide)).trans ((sI_ne _ _ (by decide)).trans rfl))) 12 (by decide) (hts (.fieldLink RX5 25 "HeldDoorModel" "bitsOf" "[I") (by decide +kernel)) (v := .ref (gad G 40)) rfl dX5_book_47 ?_
        refine lv_iload_n hx hb dX5_book_50 rfl (lv_at hl 1 rfl) ?_
        refine ar_ld hx hb hE hP 40 4 (by decide) (ar_at40 (sL_1r ((sI_ne _ _ (by decide)).trans ((sI_ne _ _ (by decide)).trans rfl)))) j9 (by omega) dX5_book_51 ?_
        refine lv_aload_n hx hb dX5_book_52 rfl (lv_at hl 0 rfl) ?_
        refine lv_iload_n hx hb dX5_book_53 rfl (lv_at hl 2 rfl) ?_
        refine lv_iconst (v := 3) hx hb dX5_book_54 (by decide) ?_
        refine hd_callVi (As := [.int (nI q), .int 3]) (rest := [.int ((u.1 17) j9), .int (nI (40 * j9 + k9)), .ref (gad G 42)]) ⟨hx, hb, hml, hown, hts⟩ hE hP hS (c_X5_it l G (sL (sI (sI u 13 M) 11 N) 4 E) N q 3 (by omega) (by omega)) ((sI_id (sL_1r (sI_at _ _ _))).symm) (cwV 2 hts gX5_book_X5_it rfl rfl rfl (by decide +kernel) ⟨Nat.le_of_ble_eq_true rfl, Nat.le_of_ble_eq_true rfl⟩) (mo_recv hE hP) rfl hl.1 rfl (Nat.le_of_ble_eq_true rfl) dX5_book_55 (fun rq_5 vq_5 H locs q_5 hP hS => ?_)
        have hP := hP.cast (q_5.2.trans ((sI_id (sL_1r (sI_at _ _ _))).symm).symm)
        refine lv_cast q_5.1 ?_
        refine lv_i2l hx hb dX5_book_58 rfl ?_
        refine hd_callSl (As := [.int ((u.1 17) j9), .long ((N (5 + 6 * q + 3)).toInt64)]) (rest := [.int (nI (40 * j9 + k9)), .ref (gad G 42)]) ⟨hx, hb, hml, hown, hts⟩ hE hP hS (c_X5_cutTo l G (sL (sI (sI u 13 M) 11 N) 4 E) ((u.1 17) j9) ((N (5 + 6 * q + 3)).toInt64)) rfl (va_cwS 2 hts gX5_book_X5_cutTo rfl rfl rfl (by decide +kernel) ⟨Nat.le_of_ble_eq_true rfl, Nat.le_of_ble_eq_true rfl⟩) rfl hl.1 rfl (Nat.le_of_ble_eq_true rfl) dX5_book_59 (fun rq_6 vq_6 H locs q_6 hP hS => ?_)
        have hP := hP.cast (q_6.2)
        refine lv_castL q_6.1 ?_
        refine ce_st hx hb hE hP hS (sL_at _ _ _) (40 * j9 + k9) (by omega) (sL_sL _ _ _ _) dX5_book_62 (fun H locs hP hS => ?_)
        refine lv_aload_n hx hb dX5_book_63 rfl (lv_at hl 0 rfl) ?_
        refine hd_callVv (As := []) (rest := []) ⟨hx, hb, hml, hown, hts⟩ hE hP hS (c_X5_goes l G (sL (sI (sI u 13 M) 11 N) 4 (vp_updL E (40 * j9 + k9) (cutL ((u.1 17) j9) ((N (5 + 6 * q + 3)).toInt64)))) N hWn) ((sI_id (sL_1r (sI_at _ _ _))).symm) (cwV 0 hts gX5_book_X5_goes rfl rfl rfl (by decide +kernel) ⟨Nat.le_of_ble_eq_true rfl, Nat.le_of_ble_eq_true rfl⟩) (mo_recv hE hP) rfl hl.1 rfl (Nat.le_of_ble_eq_true rfl) dX5_book_64 (fun vq_7 H locs q_7 hP hS => ?_)
        have q_7v := q_7
        have hP := hP.cast (q_7v.trans (sI_sL _ _ _ _ _ _))
        refine lv_iinc (v := nI (k9 + 1)) (lv' := [(4, .int (nI (k9 + 1))), (0, .ref (gad G 34)), (1, .int (nI j9)), (2, .int (nI q))]) hx hb dX5_book_67 hl (k := 3) rfl (inc1 _) (by decide) rfl (fun ls hl => ?_)
        refine lv_goto (tgt := 24) hx hb dX5_book_70 (by decide) ?_
        exact ih24 (k9 + 1) (tik N) (vp_updL E (40 * j9 + k9) (cutL ((u.1 17) j9) ((N (5 + 6 * q + 3)).toInt64))) (by omega) (by rw [hN, tik_goN]) (by rw [bkS, ← hG, hN, goN_hi (by omega)]) (by omega) _ _ _ hP hS (lv_sub hl [1, 2, 3, 0] rfl)
  exact J24 _ 0 M (u.2 4) (Nat.zero_le _) ((goN_0 M).symm) rfl (Nat.lt_succ_self _) _ _ _ (hP.cast (bk_start h11)) hS (lv_sub hl [2, 3, 4, 0] rfl)
theorem c_X5_book (l : Launch) (G : Geo) (u : Sg) (M F : Nat → Int32) (h11 : u.1 11 = M) (h15 : u.1 15 = F) (hM : Wf M) (T : Nat → Int32) (h13 : u.1 13 = T) (tT : ∀ k : Nat, 53 ≤ k → T k = 0) (hsz : ∀ j : Nat, j < 4 → ∃ z : Nat, z ≤ 40 ∧ u.1 18 j = nI z) (s p : Int32) : CtI l G yX5_book wsX5_book (rmO 5 115) [.ref (gad G 34), .int s, .int p] u (PS u 15 F (f_book s p (moB u) M) (fun r v => r = u.1 18 s.toNatClampNeg ∧ ∀ z : Nat, u.1 18 s.toNatClampNeg = nI z ∧ z < 2147483648 → v = sL (sI u 13 M) 4 (bkS (u.2 4) s.toNatClampNeg M p.toNatClampNeg (u.1 17 s.toNatClampNeg) z))) := by
  rcases f_book_v s p (moB u) M with hf | hf | hf
  · obtain ⟨e1, e2, e3⟩ := f_book_ok hf
    obtain ⟨j9, -, hj9, rfl⟩ := inI_nat e1 rfl rfl (na := 0) (nb := 3) (by decide) (by decide)
    obtain ⟨q, hq, rfl⟩ := pe_get hM e3
    obtain ⟨z9, hz9, hz8⟩ := hsz j9 (by omega)
    exact c_X5_book_0 l G u M F h11 h15 hM T h13 tT j9 q z9 (by omega) hz9 hz8 hq hf
  · exact c_X5_book_b l G u M F h11 h15 hM T h13 tT s p hf
  · exact c_X5_book_m l G u M F h11 h15 hM T h13 tT s p hf
set_option maxHeartbeats 4000000 in
set_option maxRecDepth 100000 in
theorem c_X5_isBook (l : Launch) (G : Geo) (u : Sg) (X T : Nat → Int32) (h11 : u.1 11 = X) (h13 : u.1 13 = T) (hX : Wf X) (tT : ∀ k : Nat, 53 ≤ k → T k = 0) (j9 q z9 : Nat) (hj : j9 < 4) (hz9 : z9 ≤ 40) (hz8 : u.1 18 j9 = nI z9) (hq : q < 8) : CtI l G yX5_isBook wsX5_isBook (rmO 5 115) [.ref (gad G 34), .int (nI j9), .int (nI q)] u (fun r v => r = bI (wlN (fun k => u.2 4 (40 * j9 + k)) X q z9) ∧ v = sI u 11 T) := by
  refine CtI.of (cc := cX5_isBook) (maxL := 5) (ret := (some .boolean)) (own := RX5) (by decide) rfl rfl ?_
  rintro pg ev s0 mm below meth cd ⟨hx, hb, hr, hml, hown, hts, hlocks⟩ hE hP ls hl
  have hS : va_S (gA G) s0.heap s0.heap [] := va_S.rf
  have hl : lv_has ls 5 [(0, .ref (gad G 34)), (1, .int (nI j9)), (2, .int (nI q))] := hl
  have hin5 : ∀ w ∈ wsX50, w ∈ wsX5_isBook := by decide +kernel
  refine lv_iconst (v := 1) hx hb dX5_isBook_0 (by decide) ?_
  refine lv_istore_n (lv' := [(3, .int 1), (0, .ref (gad G 34)), (1, .int (nI j9)), (2, .int (nI q))]) hx hb dX5_isBook_1 rfl hl (by decide) rfl (fun ls hl => ?_)
  refine lv_iconst (v := 0) hx hb dX5_isBook_2 (by decide) ?_
  refine lv_istore (lv' := [(4, .int 0), (3, .int 1), (0, .ref (gad G 34)), (1, .int (nI j9)), (2, .int (nI q))]) hx hb dX5_isBook_3 hl (by decide) rfl (fun ls hl => ?_)
  have J5 : ∀ (fu : Nat) (k9 : Nat) (b9 : Bool) (N : Nat → Int32) (hk : k9 ≤ z9) (hb9 : b9 = wlN (fun k => u.2 4 (40 * j9 + k)) X q k9) (hN : N = goN X k9) (hrk : z9 - k9 < fu) (H : Heap) (locs : List Loc) (ls : Array Slot), WP G (sI u 11 N) H → va_S (gA G) s0.heap H locs → lv_has ls 5 [(0, .ref (gad G 34)), (1, .int (nI j9)), (2, .int (nI q)), (3, .int (bI b9)), (4, .int (nI k9))] → W pg l ev (headSpec wsX5_isBook (rmO 5 115)).room s0 mm ([.ref (gad G 34), .int (nI j9), .int (nI q)] : List Value).toArray below meth cd H locs 0 0 (MQ below (va_Qi (fun r v => r = bI (wlN (fun k => u.2 4 (40 * j9 + k)) X q z9) ∧ v = sI u 11 T) (fun v t => WP G v t.heap) (gA G)) ([.ref (gad G 34), .int (nI j9), .int (nI q)] : List Value).toArray s0 0 0 (gA G)) (F0 mm 5 ls []) := by
    intro fu
    induction fu with
    | zero => intro k9 b9 N hk hb9 hN hrk; exact absurd hrk (Nat.not_lt_zero _)
    | succ fu ih5 =>
      intro k9 b9 N hk hb9 hN hrk H locs ls hP hS hl
      have hWn : Wf N := by rw [hN]; exact Wf_goN hX k9
      refine lv_iload hx hb dX5_isBook_5 (lv_at hl 4 rfl) ?_
      refine lv_aload_n hx hb dX5_isBook_7 rfl (lv_at hl 0 rfl) ?_
      refine mo_get hx hb hts hin5 hown hE hP ((sI_ne _ _ (by decide)).trans rfl) 13 (by decide) (hts (.fieldLink RX5 28 "HeldDoorModel" "sizeOf" "[I") (by decide +kernel)) (v := .ref (gad G 41)) rfl dX5_isBook_8 ?_
      refine lv_iload_n hx hb dX5_isBook_11 rfl (lv_at hl 1 rfl) ?_
      refine ar_ld hx hb hE hP 41 4 (by decide) (ar_at41 ((sI_ne _ _ (by decide)).trans rfl)) j9 (by omega) dX5_isBook_12 ?_
      refine lv_cast hz8 ?_
      refine nn_ge (a := k9) (b := z9) (by omega) (by omega) (tgt := 59) hx hb dX5_isBook_13 (by decide) (fun c_1 => ?_) (fun c_1 => ?_)
      · skip
        refine lv_aload_n hx hb dX5_isBook_59 rfl (lv_at hl 0 rfl) ?_
        refine hd_callVv (As := []) (rest := []) ⟨hx, hb, hml, hown, hts⟩ hE hP hS (c_X5_putsBack l G (sI u 11 N) T N ((sI_ne _ _ (by decide)).trans h13) (sI_at _ _ _) tT (hWn).1) rfl (cwV 0 hts gX5_isBook_X5_putsBack rfl rfl rfl (by decide +kernel) ⟨Nat.le_of_ble_eq_true rfl, Nat.le_of_ble_eq_true rfl⟩) (mo_recv hE hP) rfl hl.1 rfl (Nat.le_of_ble_eq_true rfl) dX5_isBook_60 (fun vq_2 H locs q_2 hP hS => ?_)
        have q_2v := q_2
        have hP := hP.cast (q_2v.trans (sI_sI _ _ _ _))
        refine lv_iload_n hx hb dX5_isBook_63 rfl (lv_at hl 3 rfl) ?_
        exact hd_zret hx hb hr hlocks hP hS ⟨(by rw [hb9, show k9 = z9 by omega]), rfl⟩ bI_n dX5_isBook_64
      · skip
        refine lv_iload_n hx hb dX5_isBook_16 rfl (lv_at hl 3 rfl) ?_
        refine bo_eq (tgt := 59) hx hb dX5_isBook_17 (by decide) (fun c_3 => ?_) (fun c_3 => ?_)
        · skip
          refine lv_aload_n hx hb dX5_isBook_59 rfl (lv_at hl 0 rfl) ?_
          refine hd_callVv (As := []) (rest := []) ⟨hx, hb, hml, hown, hts⟩ hE hP hS (c_X5_putsBack l G (sI u 11 N) T N ((sI_ne _ _ (by decide)).trans h13) (sI_at _ _ _) tT (hWn).1) rfl (cwV 0 hts gX5_isBook_X5_putsBack rfl rfl rfl (by decide +kernel) ⟨Nat.le_of_ble_eq_true rfl, Nat.le_of_ble_eq_true rfl⟩) (mo_recv hE hP) rfl hl.1 rfl (Nat.le_of_ble_eq_true rfl) dX5_isBook_60 (fun vq_4 H locs q_4 hP hS => ?_)
          have q_4v := q_4
          have hP := hP.cast (q_4v.trans (sI_sI _ _ _ _))
          refine lv_iload_n hx hb dX5_isBook_63 rfl (lv_at hl 3 rfl) ?_
          exact hd_zret hx hb hr hlocks hP hS ⟨(by rw [show z9 = k9 + (z9 - k9) by omega, wlN_dn (hb9.symm.trans c_3), c_3]), rfl⟩ bI_n dX5_isBook_64
        · skip
          refine lv_aload_n hx hb dX5_isBook_20 rfl (lv_at hl 0 rfl) ?_
          refine mo_get hx hb hts hin5 hown hE hP ((sI_ne _ _ (by decide)).trans rfl) 14 (by decide) (hts (.fieldLink RX5 31 "HeldDoorModel" "cells" "[J") (by decide +kernel)) (v := .ref (gad G 42)) rfl dX5_isBook_21 ?_
          refine lv_bipush (v := 40) hx hb dX5_isBook_24 (by decide) ?_
          refine lv_iload_n hx hb dX5_isBook_26 rfl (lv_at hl 1 rfl) ?_
          refine nn_imul (a := 40) (b := j9) hx hb dX5_isBook_27 ?_
          refine lv_iload hx hb dX5_isBook_28 (lv_at hl 4 rfl) ?_
          refine nn_iadd (a := 40 * j9) (b := k9) hx hb dX5_isBook_30 ?_
          refine ce_ld hx hb hE hP rfl (40 * j9 + k9) (by omega) dX5_isBook_31 ?_
          refine lv_aload_n hx hb dX5_isBook_32 rfl (lv_at hl 0 rfl) ?_
          refine lv_iload_n hx hb dX5_isBook_33 rfl (lv_at hl 2 rfl) ?_
          refine lv_iconst (v := 3) hx hb dX5_isBook_34 (by decide) ?_
          refine hd_callVi (As := [.int (nI q), .int 3]) (rest := [.long ((u.2 4) (40 * j9 + k9))]) ⟨hx, hb, hml, hown, hts⟩ hE hP hS (c_X5_it l G u N q 3 (by omega) (by omega)) rfl (cwV 2 hts gX5_isBook_X5_it rfl rfl rfl (by decide +kernel) ⟨Nat.le_of_ble_eq_true rfl, Nat.le_of_ble_eq_true rfl⟩) (mo_recv hE hP) rfl hl.1 rfl (Nat.le_of_ble_eq_true rfl) dX5_isBook_35 (fun rq_5 vq_5 H locs q_5 hP hS => ?_)
          have hP := hP.cast (q_5.2)
          refine lv_cast q_5.1 ?_
          refine lv_i2l hx hb dX5_isBook_38 rfl ?_
          refine W.lcmp hx hb dX5_isBook_39 ?_
          refine lc_ne (tgt := 47) hx hb dX5_isBook_40 (by decide) (fun c_6 => ?_) (fun c_6 => ?_)
          · skip
            refine lv_iconst (v := 0) hx hb dX5_isBook_47 (by decide) ?_
            refine lv_istore_n (lv' := [(3, .int 0), (0, .ref (gad G 34)), (1, .int (nI j9)), (2, .int (nI q)), (4, .int (nI k9))]) hx hb dX5_isBook_48 rfl hl (by decide) rfl (fun ls hl => ?_)
            refine lv_aload_n hx hb dX5_isBook_49 rfl (lv_at hl 1 rfl) ?_
            refine hd_callVv (As := []) (rest := []) ⟨hx, hb, hml, hown, hts⟩ hE hP hS (c_X5_goes l G u N hWn) rfl (cwV 0 hts gX5_isBook_X5_goes rfl rfl rfl (by decide +kernel) ⟨Nat.le_of_ble_eq_true rfl, Nat.le_of_ble_eq_true rfl⟩) (mo_recv hE hP) rfl hl.1 rfl (Nat.le_of_ble_eq_true rfl) dX5_isBook_50 (fun vq_7 H locs q_7 hP hS => ?_)
            have hP := hP.cast (q_7)
            refine lv_iinc (v := nI (k9 + 1)) (lv' := [(4, .int (nI (k9 + 1))), (3, .int 0), (0, .ref (gad G 34)), (1, .int (nI j9)), (2, .int (nI q))]) hx hb dX5_isBook_53 hl (k := 4) rfl (inc1 _) (by decide) rfl (fun ls hl => ?_)
            refine lv_goto (tgt := 5) hx hb dX5_isBook_56 (by decide) ?_
            exact ih5 (k9 + 1) false (tik N) (by omega) (by rw [wlN, ← hb9, c_3, ← goN_hi (show 5 + 6 * q + 3 ≠ 0 by omega), ← hN]; simp [c_6]) (by rw [hN, tik_goN]) (by omega) _ _ _ hP hS (lv_sub hl [2, 3, 4, 1, 0] rfl)
          · skip
            refine lv_iconst (v := 1) hx hb dX5_isBook_43 (by decide) ?_
            refine lv_goto (tgt := 48) hx hb dX5_isBook_44 (by decide) ?_
            refine lv_istore_n (lv' := [(3, .int 1), (0, .ref (gad G 34)), (1, .int (nI j9)), (2, .int (nI q)), (4, .int (nI k9))]) hx hb dX5_isBook_48 rfl hl (by decide) rfl (fun ls hl => ?_)
            refine lv_aload_n hx hb dX5_isBook_49 rfl (lv_at hl 1 rfl) ?_
            refine hd_callVv (As := []) (rest := []) ⟨hx, hb, hml, hown, hts⟩ hE hP hS (c_X5_goes l G u N hWn) rfl (cwV 0 hts gX5_isBook_X5_goes rfl rfl rfl (by decide +kernel) ⟨Nat.le_of_ble_eq_true rfl, Nat.le_of_ble_eq_true rfl⟩) (mo_recv hE hP) rfl hl.1 rfl (Nat.le_of_ble_eq_true rfl) dX5_isBook_50 (fun vq_8 H locs q_8 hP hS => ?_)
            have hP := hP.cast (q_8)
            refine lv_iinc (v := nI (k9 + 1)) (lv' := [(4, .int (nI (k9 + 1))), (3, .int 1), (0, .ref (gad G 34)), (1, .int (nI j9)), (2, .int (nI q))]) hx hb dX5_isBook_53 hl (k := 4) rfl (inc1 _) (by decide) rfl (fun ls hl => ?_)
            refine lv_goto (tgt := 5) hx hb dX5_isBook_56 (by decide) ?_
            exact ih5 (k9 + 1) true (tik N) (by omega) (by rw [wlN, ← hb9, c_3, ← goN_hi (show 5 + 6 * q + 3 ≠ 0 by omega), ← hN]; simp [c_6]) (by rw [hN, tik_goN]) (by omega) _ _ _ hP hS (lv_sub hl [2, 3, 4, 1, 0] rfl)
  exact J5 _ 0 true X (Nat.zero_le _) rfl ((goN_0 X).symm) (Nat.lt_succ_self _) _ _ _ (hP.cast ((sI_id h11).symm)) hS (lv_sub hl [2, 3, 4, 1, 0] rfl)
set_option maxHeartbeats 4000000 in
set_option maxRecDepth 100000 in
theorem c_X5_read_b (l : Launch) (G : Geo) (u : Sg) (M F : Nat → Int32) (h11 : u.1 11 = M) (h15 : u.1 15 = F) (hM : Wf M) (T : Nat → Int32) (h13 : u.1 13 = T) (tT : ∀ k : Nat, 53 ≤ k → T k = 0) (s p : Int32) (hflt : f_book s p (moB u) M = -1000000001) : CtI l G yX5_read wsX5_read (rmO 6 139) [.ref (gad G 34), .int s, .int p] u (PS u 15 F (f_book s p (moB u) M) (fun r v => v = sI u 13 M ∧ ∀ z : Nat, u.1 18 s.toNatClampNeg = nI z ∧ z < 2147483648 → r = nI (rdN (fun k => u.2 4 (40 * s.toNatClampNeg + k)) M p.toNatClampNeg z 60))) := by
  refine CtI.of (cc := cX5_read) (maxL := 6) (ret := (some .int)) (own := RX5) (by decide) rfl rfl ?_
  rintro pg ev s0 mm below meth cd ⟨hx, hb, hr, hml, hown, hts, hlocks⟩ hE hP ls hl
  have hS : va_S (gA G) s0.heap s0.heap [] := va_S.rf
  have hl : lv_has ls 6 [(0, .ref (gad G 34)), (1, .int s), (2, .int p)] := hl
  refine lv_aload_n hx hb dX5_read_0 rfl (lv_at hl 0 rfl) ?_
  refine lv_iload_n hx hb dX5_read_1 rfl (lv_at hl 1 rfl) ?_
  refine lv_iload_n hx hb dX5_read_2 rfl (lv_at hl 2 rfl) ?_
  refine hd_callVi (As := [.int s, .int p]) (rest := []) ⟨hx, hb, hml, hown, hts⟩ hE hP hS (c_X5_notAsked l G u M h11 s p) rfl (cwV 2 hts gX5_read_X5_notAsked rfl rfl rfl (by decide +kernel) ⟨Nat.le_of_ble_eq_true rfl, Nat.le_of_ble_eq_true rfl⟩) (mo_recv hE hP) rfl hl.1 rfl (Nat.le_of_ble_eq_true rfl) dX5_read_3 (fun rq_1 vq_1 H locs q_1 hP hS => ?_)
  have hP := hP.cast (q_1.2)
  refine lv_cast q_1.1 ?_
  refine lv_cast hflt ?_
  refine lv_istore_n (lv' := [(3, .int (-1000000001)), (0, .ref (gad G 34)), (1, .int s), (2, .int p)]) hx hb dX5_read_6 rfl hl (by decide) rfl (fun ls hl => ?_)
  refine lv_iload_n hx hb dX5_read_7 rfl (lv_at hl 0 rfl) ?_
  refine lv_if_eq (tgt := 17) hx hb dX5_read_8 (by decide) (fun h => False.elim (by revert h; decide)) (fun _ => ?_)
  refine lv_aload_n hx hb dX5_read_11 rfl (lv_at hl 1 rfl) ?_
  refine lv_iload_n hx hb dX5_read_12 rfl (lv_at hl 0 rfl) ?_
  refine hd_callVi (As := [.int (-1000000001)]) (rest := []) ⟨hx, hb, hml, hown, hts⟩ hE hP hS (c_X5_finds_0 l G u F h15) rfl (cwV 1 hts gX5_read_X5_finds rfl rfl rfl (by decide +kernel) ⟨Nat.le_of_ble_eq_true rfl, Nat.le_of_ble_eq_true rfl⟩) (mo_recv hE hP) rfl hl.1 rfl (Nat.le_of_ble_eq_true rfl) dX5_read_13 (fun rq_2 vq_2 H locs q_2 hP hS => ?_)
  have hP := hP.cast (q_2.2)
  refine lv_cast q_2.1 ?_
  exact hd_iret hx hb hr hlocks hP hS (PS.bad (-1000000001) hflt (by decide) rfl rfl) dX5_read_16
set_option maxHeartbeats 4000000 in
set_option maxRecDepth 100000 in
theorem c_X5_read_m (l : Launch) (G : Geo) (u : Sg) (M F : Nat → Int32) (h11 : u.1 11 = M) (h15 : u.1 15 = F) (hM : Wf M) (T : Nat → Int32) (h13 : u.1 13 = T) (tT : ∀ k : Nat, 53 ≤ k → T k = 0) (s p : Int32) (hflt : f_book s p (moB u) M = -1000000006) : CtI l G yX5_read wsX5_read (rmO 6 139) [.ref (gad G 34), .int s, .int p] u (PS u 15 F (f_book s p (moB u) M) (fun r v => v = sI u 13 M ∧ ∀ z : Nat, u.1 18 s.toNatClampNeg = nI z ∧ z < 2147483648 → r = nI (rdN (fun k => u.2 4 (40 * s.toNatClampNeg + k)) M p.toNatClampNeg z 60))) := by
  refine CtI.of (cc := cX5_read) (maxL := 6) (ret := (some .int)) (own := RX5) (by decide) rfl rfl ?_
  rintro pg ev s0 mm below meth cd ⟨hx, hb, hr, hml, hown, hts, hlocks⟩ hE hP ls hl
  have hS : va_S (gA G) s0.heap s0.heap [] := va_S.rf
  have hl : lv_has ls 6 [(0, .ref (gad G 34)), (1, .int s), (2, .int p)] := hl
  refine lv_aload_n hx hb dX5_read_0 rfl (lv_at hl 0 rfl) ?_
  refine lv_iload_n hx hb dX5_read_1 rfl (lv_at hl 1 rfl) ?_
  refine lv_iload_n hx hb dX5_read_2 rfl (lv_at hl 2 rfl) ?_
  refine hd_callVi (As := [.int s, .int p]) (rest := []) ⟨hx, hb, hml, hown, hts⟩ hE hP hS (c_X5_notAsked l G u M h11 s p) rfl (cwV 2 hts gX5_read_X5_notAsked rfl rfl rfl (by decide +kernel) ⟨Nat.le_of_ble_eq_true rfl, Nat.le_of_ble_eq_true rfl⟩) (mo_recv hE hP) rfl hl.1 rfl (Nat.le_of_ble_eq_true rfl) dX5_read_3 (fun rq_1 vq_1 H locs q_1 hP hS => ?_)
  have hP := hP.cast (q_1.2)
  refine lv_cast q_1.1 ?_
  refine lv_cast hflt ?_
  refine lv_istore_n (lv' := [(3, .int (-1000000006)), (0, .ref (gad G 34)), (1, .int s), (2, .int p)]) hx hb dX5_read_6 rfl hl (by decide) rfl (fun ls hl => ?_)
  refine lv_iload_n hx hb dX5_read_7 rfl (lv_at hl 0 rfl) ?_
  refine lv_if_eq (tgt := 17) hx hb dX5_read_8 (by decide) (fun h => False.elim (by revert h; decide)) (fun _ => ?_)
  refine lv_aload_n hx hb dX5_read_11 rfl (lv_at hl 1 rfl) ?_
  refine lv_iload_n hx hb dX5_read_12 rfl (lv_at hl 0 rfl) ?_
  refine hd_callVi (As := [.int (-1000000006)]) (rest := []) ⟨hx, hb, hml, hown, hts⟩ hE hP hS (c_X5_finds_5 l G u F h15) rfl (cwV 1 hts gX5_read_X5_finds rfl rfl rfl (by decide +kernel) ⟨Nat.le_of_ble_eq_true rfl, Nat.le_of_ble_eq_true rfl⟩) (mo_recv hE hP) rfl hl.1 rfl (Nat.le_of_ble_eq_true rfl) dX5_read_13 (fun rq_2 vq_2 H locs q_2 hP hS => ?_)
  have hP := hP.cast (q_2.2)
  refine lv_cast q_2.1 ?_
  exact hd_iret hx hb hr hlocks hP hS (PS.bad (-1000000006) hflt (by decide) rfl rfl) dX5_read_16
set_option maxHeartbeats 4000000 in
set_option maxRecDepth 100000 in
theorem c_X5_read_0 (l : Launch) (G : Geo) (u : Sg) (M F : Nat → Int32) (h11 : u.1 11 = M) (h15 : u.1 15 = F) (hM : Wf M) (T : Nat → Int32) (h13 : u.1 13 = T) (tT : ∀ k : Nat, 53 ≤ k → T k = 0) (j9 q z9 : Nat) (hj : j9 < 4) (hz9 : z9 ≤ 40) (hz8 : u.1 18 j9 = nI z9) (hq : q < nP M) (hflt : f_book (nI j9) (nI q) (moB u) M = 0) : CtI l G yX5_read wsX5_read (rmO 6 139) [.ref (gad G 34), .int (nI j9), .int (nI q)] u (PS u 15 F (f_book (nI j9) (nI q) (moB u) M) (fun r v => v = sI u 13 M ∧ ∀ z : Nat, u.1 18 (nI j9).toNatClampNeg = nI z ∧ z < 2147483648 → r = nI (rdN (fun k => u.2 4 (40 * (nI j9).toNatClampNeg + k)) M (nI q).toNatClampNeg z 60))) := by
  refine CtI.of (cc := cX5_read) (maxL := 6) (ret := (some .int)) (own := RX5) (by decide) rfl rfl ?_
  rintro pg ev s0 mm below meth cd ⟨hx, hb, hr, hml, hown, hts, hlocks⟩ hE hP ls hl
  have hS : va_S (gA G) s0.heap s0.heap [] := va_S.rf
  have hl : lv_has ls 6 [(0, .ref (gad G 34)), (1, .int (nI j9)), (2, .int (nI q))] := hl
  have hn := hM.n
  have h8 := hM.n8
  refine lv_aload_n hx hb dX5_read_0 rfl (lv_at hl 0 rfl) ?_
  refine lv_iload_n hx hb dX5_read_1 rfl (lv_at hl 1 rfl) ?_
  refine lv_iload_n hx hb dX5_read_2 rfl (lv_at hl 2 rfl) ?_
  refine hd_callVi (As := [.int (nI j9), .int (nI q)]) (rest := []) ⟨hx, hb, hml, hown, hts⟩ hE hP hS (c_X5_notAsked l G u M h11 (nI j9) (nI q)) rfl (cwV 2 hts gX5_read_X5_notAsked rfl rfl rfl (by decide +kernel) ⟨Nat.le_of_ble_eq_true rfl, Nat.le_of_ble_eq_true rfl⟩) (mo_recv hE hP) rfl hl.1 rfl (Nat.le_of_ble_eq_true rfl) dX5_read_3 (fun rq_1 vq_1 H locs q_1 hP hS => ?_)
  have hP := hP.cast (q_1.2)
  refine lv_cast q_1.1 ?_
  refine lv_cast hflt ?_
  refine lv_istore_n (lv' := [(3, .int 0), (0, .ref (gad G 34)), (1, .int (nI j9)), (2, .int (nI q))]) hx hb dX5_read_6 rfl hl (by decide) rfl (fun ls hl => ?_)
  refine lv_iload_n hx hb dX5_read_7 rfl (lv_at hl 0 rfl) ?_
  refine lv_if_eq (tgt := 17) hx hb dX5_read_8 (by decide) (fun _ => ?_) (fun h => False.elim (by revert h; decide))
  refine lv_aload_n hx hb dX5_read_17 rfl (lv_at hl 1 rfl) ?_
  refine hd_callVv (As := []) (rest := []) ⟨hx, hb, hml, hown, hts⟩ hE hP hS (c_X5_thinks l G u M T h11 h13 (hM).1 tT) rfl (cwV 0 hts gX5_read_X5_thinks rfl rfl rfl (by decide +kernel) ⟨Nat.le_of_ble_eq_true rfl, Nat.le_of_ble_eq_true rfl⟩) (mo_recv hE hP) rfl hl.1 rfl (Nat.le_of_ble_eq_true rfl) dX5_read_18 (fun vq_2 H locs q_2 hP hS => ?_)
  have hP := hP.cast (q_2)
  refine lv_iconst (v := 0) hx hb dX5_read_21 (by decide) ?_
  refine lv_istore (lv' := [(4, .int 0), (3, .int 0), (0, .ref (gad G 34)), (1, .int (nI j9)), (2, .int (nI q))]) hx hb dX5_read_22 hl (by decide) rfl (fun ls hl => ?_)
  refine lv_iconst (v := 0) hx hb dX5_read_24 (by decide) ?_
  refine lv_istore (lv' := [(5, .int 0), (4, .int 0), (3, .int 0), (0, .ref (gad G 34)), (1, .int (nI j9)), (2, .int (nI q))]) hx hb dX5_read_25 hl (by decide) rfl (fun ls hl => ?_)
  have J27 : ∀ (fu : Nat) (k9 : Nat) (c9 : Nat) (hk : k9 ≤ 60) (hc : c9 = rdN (fun k => u.2 4 (40 * j9 + k)) M q z9 k9) (hrk : 60 - k9 < fu) (H : Heap) (locs : List Loc) (ls : Array Slot), WP G (sI u 13 M) H → va_S (gA G) s0.heap H locs → lv_has ls 6 [(0, .ref (gad G 34)), (1, .int (nI j9)), (2, .int (nI q)), (4, .int (nI c9)), (5, .int (nI k9))] → W pg l ev (headSpec wsX5_read (rmO 6 139)).room s0 mm ([.ref (gad G 34), .int (nI j9), .int (nI q)] : List Value).toArray below meth cd H locs 0 0 (MQ below (va_Qi (PS u 15 F (f_book (nI j9) (nI q) (moB u) M) (fun r v => v = sI u 13 M ∧ ∀ z : Nat, u.1 18 (nI j9).toNatClampNeg = nI z ∧ z < 2147483648 → r = nI (rdN (fun k => u.2 4 (40 * (nI j9).toNatClampNeg + k)) M (nI q).toNatClampNeg z 60))) (fun v t => WP G v t.heap) (gA G)) ([.ref (gad G 34), .int (nI j9), .int (nI q)] : List Value).toArray s0 0 0 (gA G)) (F0 mm 27 ls []) := by
    intro fu
    induction fu with
    | zero => intro k9 c9 hk hc hrk; exact absurd hrk (Nat.not_lt_zero _)
    | succ fu ih27 =>
      intro k9 c9 hk hc hrk H locs ls hP hS hl
      refine lv_iload hx hb dX5_read_27 (lv_at hl 4 rfl) ?_
      refine lv_bipush (v := 60) hx hb dX5_read_29 (by decide) ?_
      refine nn_ge (a := k9) (b := 60) (by omega) (by omega) (tgt := 81) hx hb dX5_read_31 (by decide) (fun c_3 => ?_) (fun c_3 => ?_)
      · skip
        refine lv_iload hx hb dX5_read_81 (lv_at hl 3 rfl) ?_
        exact hd_iret hx hb hr hlocks hP hS (PS.ok hflt (by rw [nI_clamp (show j9 < 2 ^ 31 by omega), nI_clamp (show q < 2 ^ 31 by omega)]; refine ⟨rfl, fun z hz => ?_⟩; rw [hz8] at hz; rw [← (nI_eq (show z9 < 2147483648 by omega) hz.2).mp hz.1, hc, show k9 = 60 by omega])) dX5_read_83
      · skip
        refine lv_aload_n hx hb dX5_read_34 rfl (lv_at hl 0 rfl) ?_
        refine lv_iload_n hx hb dX5_read_35 rfl (lv_at hl 2 rfl) ?_
        refine lv_iconst (v := 0) hx hb dX5_read_36 (by decide) ?_
        refine lv_iload hx hb dX5_read_37 (lv_at hl 4 rfl) ?_
        refine lv_bipush (v := 10) hx hb dX5_read_39 (by decide) ?_
        refine lv_idiv hx hb dX5_read_41 (by decide) ?_
        refine lv_cast (show nI k9 / 10 = nI (k9 / 10) from pk_div (by omega) (by decide) (by decide)) ?_
        refine hd_callVv (As := [.int (nI q), .int 0, .int (nI (k9 / 10))]) (rest := []) ⟨hx, hb, hml, hown, hts⟩ hE hP hS (c_X5_put l G (sI u 13 M) M q 0 (by omega) (by omega) (nI (k9 / 10))) ((sI_id ((sI_ne _ _ (by decide)).trans h11)).symm) (cwV 3 hts gX5_read_X5_put rfl rfl rfl (by decide +kernel) ⟨Nat.le_of_ble_eq_true rfl, Nat.le_of_ble_eq_true rfl⟩) (mo_recv hE hP) rfl hl.1 rfl (Nat.le_of_ble_eq_true rfl) dX5_read_42 (fun vq_4 H locs q_4 hP hS => ?_)
        have hP := hP.cast (q_4)
        refine lv_aload_n hx hb dX5_read_45 rfl (lv_at hl 0 rfl) ?_
        refine lv_iload_n hx hb dX5_read_46 rfl (lv_at hl 2 rfl) ?_
        refine lv_iconst (v := 2) hx hb dX5_read_47 (by decide) ?_
        refine lv_iload hx hb dX5_read_48 (lv_at hl 4 rfl) ?_
        refine lv_bipush (v := 10) hx hb dX5_read_50 (by decide) ?_
        refine lv_irem hx hb dX5_read_52 (by decide) ?_
        refine lv_cast (show nI k9 - nI k9 / 10 * 10 = nI (k9 % 10) from pk_rem (by omega) (by decide) (by decide)) ?_
        refine hd_callVv (As := [.int (nI q), .int 2, .int (nI (k9 % 10))]) (rest := []) ⟨hx, hb, hml, hown, hts⟩ hE hP hS (c_X5_put l G (sI u 13 M) (upd M (5 + 6 * q + 0) (nI (k9 / 10))) q 2 (by omega) (by omega) (nI (k9 % 10))) rfl (cwV 3 hts gX5_read_X5_put rfl rfl rfl (by decide +kernel) ⟨Nat.le_of_ble_eq_true rfl, Nat.le_of_ble_eq_true rfl⟩) (mo_recv hE hP) rfl hl.1 rfl (Nat.le_of_ble_eq_true rfl) dX5_read_53 (fun vq_5 H locs q_5 hP hS => ?_)
        have hP := hP.cast (q_5)
        refine lv_iload hx hb dX5_read_56 (lv_at hl 3 rfl) ?_
        refine lv_aload_n hx hb dX5_read_58 rfl (lv_at hl 0 rfl) ?_
        refine lv_iload_n hx hb dX5_read_59 rfl (lv_at hl 1 rfl) ?_
        refine lv_iload_n hx hb dX5_read_60 rfl (lv_at hl 2 rfl) ?_
        refine hd_callVi (As := [.int (nI j9), .int (nI q)]) (rest := [.int (nI c9)]) ⟨hx, hb, hml, hown, hts⟩ hE hP hS (c_X5_isBook l G (sI (sI u 13 M) 11 (upd (upd M (5 + 6 * q + 0) (nI (k9 / 10))) (5 + 6 * q + 2) (nI (k9 % 10)))) (upd (upd M (5 + 6 * q + 0) (nI (k9 / 10))) (5 + 6 * q + 2) (nI (k9 % 10))) M (sI_at _ _ _) ((sI_ne _ _ (by decide)).trans (sI_at _ _ _)) (Wf.put (Wf.put hM (w := 0) (by omega) (by decide) (by first | decide | (rw [ti_nI (by omega)]; first | omega | (show _ ≤ hiW _; rw [hiW]; simp; omega))) (by first | decide | (rw [ti_nI (by omega)]; first | omega | (show _ ≤ hiW _; rw [hiW]; simp; omega)))) (w := 2) (by omega) (by decide) (by first | decide | (rw [ti_nI (by omega)]; first | omega | (show _ ≤ hiW _; rw [hiW]; simp; omega))) (by first | decide | (rw [ti_nI (by omega)]; first | omega | (show _ ≤ hiW _; rw [hiW]; simp; omega)))) (hM).1 j9 q z9 (by omega) hz9 hz8 (by omega)) rfl (cwV 2 hts gX5_read_X5_isBook rfl rfl rfl (by decide +kernel) ⟨Nat.le_of_ble_eq_true rfl, Nat.le_of_ble_eq_true rfl⟩) (mo_recv hE hP) rfl hl.1 rfl (Nat.le_of_ble_eq_true rfl) dX5_read_61 (fun rq_6 vq_6 H locs q_6 hP hS => ?_)
        obtain ⟨q_6r, q_6v⟩ := q_6
        have hP := hP.cast (q_6v.trans (sI_sI _ _ _ _))
        refine lv_cast (y := bI (wlN (fun k => u.2 4 (40 * j9 + k)) (upd (upd M (5 + 6 * q + 0) (nI (k9 / 10))) (5 + 6 * q + 2) (nI (k9 % 10))) q z9)) q_6r ?_
        refine bo_eq (tgt := 71) hx hb dX5_read_64 (by decide) (fun c_7 => ?_) (fun c_7 => ?_)
        · skip
          refine lv_iconst (v := 0) hx hb dX5_read_71 (by decide) ?_
          refine nn_iadd (a := c9) (b := 0) hx hb dX5_read_72 ?_
          refine lv_istore (lv' := [(4, .int (nI (c9 + 0))), (0, .ref (gad G 34)), (1, .int (nI j9)), (2, .int (nI q)), (5, .int (nI k9))]) hx hb dX5_read_73 hl (by decide) rfl (fun ls hl => ?_)
          refine lv_iinc (v := nI (k9 + 1)) (lv' := [(5, .int (nI (k9 + 1))), (4, .int (nI (c9 + 0))), (0, .ref (gad G 34)), (1, .int (nI j9)), (2, .int (nI q))]) hx hb dX5_read_75 hl (k := 4) rfl (inc1 _) (by decide) rfl (fun ls hl => ?_)
          refine lv_goto (tgt := 27) hx hb dX5_read_78 (by decide) ?_
          exact ih27 (k9 + 1) (c9 + 0) (by omega) (by rw [rdN, ← hc, c_7, if_neg (by decide)]) (by omega) _ _ _ (hP.cast (sI_id ((sI_ne _ _ (by decide)).trans h11))) hS (lv_sub hl [2, 3, 4, 1, 0] rfl)
        · skip
          refine lv_iconst (v := 1) hx hb dX5_read_67 (by decide) ?_
          refine lv_goto (tgt := 72) hx hb dX5_read_68 (by decide) ?_
          refine nn_iadd (a := c9) (b := 1) hx hb dX5_read_72 ?_
          refine lv_istore (lv' := [(4, .int (nI (c9 + 1))), (0, .ref (gad G 34)), (1, .int (nI j9)), (2, .int (nI q)), (5, .int (nI k9))]) hx hb dX5_read_73 hl (by decide) rfl (fun ls hl => ?_)
          refine lv_iinc (v := nI (k9 + 1)) (lv' := [(5, .int (nI (k9 + 1))), (4, .int (nI (c9 + 1))), (0, .ref (gad G 34)), (1, .int (nI j9)), (2, .int (nI q))]) hx hb dX5_read_75 hl (k := 4) rfl (inc1 _) (by decide) rfl (fun ls hl => ?_)
          refine lv_goto (tgt := 27) hx hb dX5_read_78 (by decide) ?_
          exact ih27 (k9 + 1) (c9 + 1) (by omega) (by rw [rdN, ← hc, c_7, if_pos rfl]) (by omega) _ _ _ (hP.cast (sI_id ((sI_ne _ _ (by decide)).trans h11))) hS (lv_sub hl [2, 3, 4, 1, 0] rfl)
  exact J27 _ 0 0 (by omega) rfl (Nat.lt_succ_self _) _ _ _ hP hS (lv_sub hl [3, 4, 5, 1, 0] rfl)
theorem c_X5_read (l : Launch) (G : Geo) (u : Sg) (M F : Nat → Int32) (h11 : u.1 11 = M) (h15 : u.1 15 = F) (hM : Wf M) (T : Nat → Int32) (h13 : u.1 13 = T) (tT : ∀ k : Nat, 53 ≤ k → T k = 0) (hsz : ∀ j : Nat, j < 4 → ∃ z : Nat, z ≤ 40 ∧ u.1 18 j = nI z) (s p : Int32) : CtI l G yX5_read wsX5_read (rmO 6 139) [.ref (gad G 34), .int s, .int p] u (PS u 15 F (f_book s p (moB u) M) (fun r v => v = sI u 13 M ∧ ∀ z : Nat, u.1 18 s.toNatClampNeg = nI z ∧ z < 2147483648 → r = nI (rdN (fun k => u.2 4 (40 * s.toNatClampNeg + k)) M p.toNatClampNeg z 60))) := by
  rcases f_book_v s p (moB u) M with hf | hf | hf
  · obtain ⟨e1, e2, e3⟩ := f_book_ok hf
    obtain ⟨j9, -, hj9, rfl⟩ := inI_nat e1 rfl rfl (na := 0) (nb := 3) (by decide) (by decide)
    obtain ⟨q, hq, rfl⟩ := pe_get hM e3
    obtain ⟨z9, hz9, hz8⟩ := hsz j9 (by omega)
    exact c_X5_read_0 l G u M F h11 h15 hM T h13 tT j9 q z9 (by omega) hz9 hz8 hq hf
  · exact c_X5_read_b l G u M F h11 h15 hM T h13 tT s p hf
  · exact c_X5_read_m l G u M F h11 h15 hM T h13 tT s p hf
