set_option maxHeartbeats 4000000 in
set_option maxRecDepth 100000 in
theorem c_X5_nearest (l : Launch) (G : Geo) (u : Sg) (M : Nat → Int32) (hM : Wf M) : CtI l G yX5_nearest wsX5_nearest (rmO 1 22) [.ref (gad G 34)] (sI u 11 M) (fun r v => r = (nrN M (nP M)).1 ∧ v = sI u 11 M) := by
  refine CtI.of (cc := cX5_nearest) (maxL := 3) (ret := (some .int)) (own := RX5) (by decide) rfl rfl ?_
  rintro pg ev s0 mm below meth cd ⟨hx, hb, hr, hml, hown, hts, hlocks⟩ hE hP ls hl
  have hS : va_S (gA G) s0.heap s0.heap [] := va_S.rf
  have hl : lv_has ls 3 [(0, .ref (gad G 34))] := hl
  have hin5 : ∀ w ∈ wsX50, w ∈ wsX5_nearest := by decide +kernel
  have hn := hM.n
  have h8 := hM.n8
  refine lv_iconst (v := (-1)) hx hb dX5_nearest_0 (by decide) ?_
  refine lv_istore_n (lv' := [(1, .int (-1)), (0, .ref (gad G 34))]) hx hb dX5_nearest_1 rfl hl (by decide) rfl (fun ls hl => ?_)
  refine lv_iconst (v := 0) hx hb dX5_nearest_2 (by decide) ?_
  refine lv_istore_n (lv' := [(2, .int 0), (1, .int (-1)), (0, .ref (gad G 34))]) hx hb dX5_nearest_3 rfl hl (by decide) rfl (fun ls hl => ?_)
  have J4 : ∀ (fu : Nat) (p : Nat) (a : Int32) (hp : p ≤ nP M) (ha : a = (nrN M p).1) (hrk : nP M - p < fu) (H : Heap) (locs : List Loc) (ls : Array Slot), WP G (sI u 11 M) H → va_S (gA G) s0.heap H locs → lv_has ls 3 [(0, .ref (gad G 34)), (1, .int a), (2, .int (nI p))] → W pg l ev (headSpec wsX5_nearest (rmO 1 22)).room s0 mm ([.ref (gad G 34)] : List Value).toArray below meth cd H locs 0 0 (MQ below (va_Qi (fun r v => r = (nrN M (nP M)).1 ∧ v = sI u 11 M) (fun v t => WP G v t.heap) (gA G)) ([.ref (gad G 34)] : List Value).toArray s0 0 0 (gA G)) (F0 mm 4 ls []) := by
    intro fu
    induction fu with
    | zero => intro p a hp ha hrk; exact absurd hrk (Nat.not_lt_zero _)
    | succ fu ih4 =>
      intro p a hp ha hrk H locs ls hP hS hl
      refine lv_iload_n hx hb dX5_nearest_4 rfl (lv_at hl 2 rfl) ?_
      refine lv_aload_n hx hb dX5_nearest_5 rfl (lv_at hl 0 rfl) ?_
      refine mo_get hx hb hts hin5 hown hE hP ((sI_ne _ _ (by decide)).trans rfl) 0 (by decide) (hts (.fieldLink RX5 9 "HeldDoorModel" "m" "[I") (by decide +kernel)) (v := .ref (gad G 35)) rfl dX5_nearest_6 ?_
      refine lv_iconst (v := 4) hx hb dX5_nearest_9 (by decide) ?_
      refine ar_ld hx hb hE hP 35 53 (by decide) (ar_at35 (sI_at _ _ _)) 4 (by omega) dX5_nearest_10 ?_
      refine lv_cast hn ?_
      refine nn_ge (a := p) (b := nP M) (by omega) (by omega) (tgt := 54) hx hb dX5_nearest_11 (by decide) (fun c_1 => ?_) (fun c_1 => ?_)
      · skip
        refine lv_iload_n hx hb dX5_nearest_54 rfl (lv_at hl 1 rfl) ?_
        exact hd_iret hx hb hr hlocks hP hS ⟨(by rw [ha, show p = nP M by omega]), rfl⟩ dX5_nearest_55
      · skip
        refine lv_aload_n hx hb dX5_nearest_14 rfl (lv_at hl 0 rfl) ?_
        refine lv_iload_n hx hb dX5_nearest_15 rfl (lv_at hl 2 rfl) ?_
        refine lv_iconst (v := 4) hx hb dX5_nearest_16 (by decide) ?_
        refine hd_callVi (As := [.int (nI p), .int 4]) (rest := []) ⟨hx, hb, hml, hown, hts⟩ hE hP hS (c_X5_it l G u M p 4 (by omega) (by omega)) rfl (cwV 2 hts gX5_nearest_X5_it rfl rfl rfl (by decide +kernel) ⟨Nat.le_of_ble_eq_true rfl, Nat.le_of_ble_eq_true rfl⟩) (mo_recv hE hP) rfl hl.1 rfl (Nat.le_of_ble_eq_true rfl) dX5_nearest_17 (fun rq_2 vq_2 H locs q_2 hP hS => ?_)
        have hP := hP.cast (q_2.2)
        refine lv_cast q_2.1 ?_
        refine lv_if_ne (tgt := 46) hx hb dX5_nearest_20 (by decide) (fun c_3 => ?_) (fun c_3 => ?_)
        · skip
          refine lv_iload_n hx hb dX5_nearest_46 rfl (lv_at hl 1 rfl) ?_
          refine lv_istore_n (lv' := [(1, .int a), (0, .ref (gad G 34)), (2, .int (nI p))]) hx hb dX5_nearest_47 rfl hl (by decide) rfl (fun ls hl => ?_)
          refine lv_iinc (v := nI (p + 1)) (lv' := [(2, .int (nI (p + 1))), (1, .int a), (0, .ref (gad G 34))]) hx hb dX5_nearest_48 hl (k := 2) rfl (inc1 _) (by decide) rfl (fun ls hl => ?_)
          refine lv_goto (tgt := 4) hx hb dX5_nearest_51 (by decide) ?_
          exact ih4 (p + 1) a (by omega) (by rw [nrN, if_neg c_3]; exact ha) (by omega) _ _ _ hP hS (lv_sub hl [2, 1, 0] rfl)
        · skip
          refine lv_iload_n hx hb dX5_nearest_23 rfl (lv_at hl 1 rfl) ?_
          refine lv_if_lt (tgt := 42) hx hb dX5_nearest_24 (by decide) (fun c_4 => ?_) (fun c_4 => ?_)
          · skip
            refine lv_iload_n hx hb dX5_nearest_42 rfl (lv_at hl 2 rfl) ?_
            refine lv_goto (tgt := 47) hx hb dX5_nearest_43 (by decide) ?_
            refine lv_istore_n (lv' := [(1, .int (nI p)), (0, .ref (gad G 34)), (2, .int (nI p))]) hx hb dX5_nearest_47 rfl hl (by decide) rfl (fun ls hl => ?_)
            refine lv_iinc (v := nI (p + 1)) (lv' := [(2, .int (nI (p + 1))), (1, .int (nI p)), (0, .ref (gad G 34))]) hx hb dX5_nearest_48 hl (k := 2) rfl (inc1 _) (by decide) rfl (fun ls hl => ?_)
            refine lv_goto (tgt := 4) hx hb dX5_nearest_51 (by decide) ?_
            exact ih4 (p + 1) (nI p) (by omega) (nr_lt hM (by omega) ha c_4 c_3) (by omega) _ _ _ hP hS (lv_sub hl [2, 1, 0] rfl)
          · skip
            obtain ⟨q, hq, hq2, hq3⟩ := nr_m (by omega) ha c_4
            refine lv_aload_n hx hb dX5_nearest_27 rfl (lv_at hl 0 rfl) ?_
            refine lv_iload_n hx hb dX5_nearest_28 rfl (lv_at hl 2 rfl) ?_
            refine lv_iconst (v := 3) hx hb dX5_nearest_29 (by decide) ?_
            refine hd_callVi (As := [.int (nI p), .int 3]) (rest := []) ⟨hx, hb, hml, hown, hts⟩ hE hP hS (c_X5_it l G u M p 3 (by omega) (by omega)) rfl (cwV 2 hts gX5_nearest_X5_it rfl rfl rfl (by decide +kernel) ⟨Nat.le_of_ble_eq_true rfl, Nat.le_of_ble_eq_true rfl⟩) (mo_recv hE hP) rfl hl.1 rfl (Nat.le_of_ble_eq_true rfl) dX5_nearest_30 (fun rq_5 vq_5 H locs q_5 hP hS => ?_)
            have hP := hP.cast (q_5.2)
            refine lv_cast q_5.1 ?_
            refine lv_aload_n hx hb dX5_nearest_33 rfl (lv_at hl 0 rfl) ?_
            refine lv_iload_n hx hb dX5_nearest_34 rfl (lv_at hl 1 rfl) ?_
            refine lv_cast hq2 ?_
            refine lv_iconst (v := 3) hx hb dX5_nearest_35 (by decide) ?_
            refine hd_callVi (As := [.int (nI q), .int 3]) (rest := [.int (M (5 + 6 * p + 3))]) ⟨hx, hb, hml, hown, hts⟩ hE hP hS (c_X5_it l G u M q 3 (by omega) (by omega)) rfl (cwV 2 hts gX5_nearest_X5_it rfl rfl rfl (by decide +kernel) ⟨Nat.le_of_ble_eq_true rfl, Nat.le_of_ble_eq_true rfl⟩) (mo_recv hE hP) rfl hl.1 rfl (Nat.le_of_ble_eq_true rfl) dX5_nearest_36 (fun rq_6 vq_6 H locs q_6 hP hS => ?_)
            have hP := hP.cast (q_6.2)
            refine lv_cast q_6.1 ?_
            refine lv_icmp_ge (tgt := 46) hx hb dX5_nearest_39 (by decide) (fun c_7 => ?_) (fun c_7 => ?_)
            · skip
              refine lv_iload_n hx hb dX5_nearest_46 rfl (lv_at hl 1 rfl) ?_
              refine lv_cast hq2 ?_
              refine lv_istore_n (lv' := [(1, .int (nI q)), (0, .ref (gad G 34)), (2, .int (nI p))]) hx hb dX5_nearest_47 rfl hl (by decide) rfl (fun ls hl => ?_)
              refine lv_iinc (v := nI (p + 1)) (lv' := [(2, .int (nI (p + 1))), (1, .int (nI q)), (0, .ref (gad G 34))]) hx hb dX5_nearest_48 hl (k := 2) rfl (inc1 _) (by decide) rfl (fun ls hl => ?_)
              refine lv_goto (tgt := 4) hx hb dX5_nearest_51 (by decide) ?_
              exact ih4 (p + 1) (nI q) (by omega) (by rw [nrN, if_pos c_3, hq3, if_neg (Int32.not_lt.mpr c_7), ← ha, hq2]) (by omega) _ _ _ hP hS (lv_sub hl [2, 1, 0] rfl)
            · skip
              refine lv_iload_n hx hb dX5_nearest_42 rfl (lv_at hl 2 rfl) ?_
              refine lv_goto (tgt := 47) hx hb dX5_nearest_43 (by decide) ?_
              refine lv_istore_n (lv' := [(1, .int (nI p)), (0, .ref (gad G 34)), (2, .int (nI p))]) hx hb dX5_nearest_47 rfl hl (by decide) rfl (fun ls hl => ?_)
              refine lv_iinc (v := nI (p + 1)) (lv' := [(2, .int (nI (p + 1))), (1, .int (nI p)), (0, .ref (gad G 34))]) hx hb dX5_nearest_48 hl (k := 2) rfl (inc1 _) (by decide) rfl (fun ls hl => ?_)
              refine lv_goto (tgt := 4) hx hb dX5_nearest_51 (by decide) ?_
              exact ih4 (p + 1) (nI p) (by omega) (by rw [nrN, if_pos c_3, hq3, if_pos (Int32.not_le.mp c_7)]) (by omega) _ _ _ hP hS (lv_sub hl [2, 1, 0] rfl)
  exact J4 _ 0 (-1) (Nat.zero_le _) rfl (Nat.lt_succ_self _) _ _ _ hP hS (lv_sub hl [2, 1, 0] rfl)
set_option maxHeartbeats 4000000 in
set_option maxRecDepth 100000 in
theorem c_X5_comesIn (l : Launch) (G : Geo) (u : Sg) (M : Nat → Int32) (hM : Wf M) (p : Nat) (hp : p < nP M) : CtV l G yX5_comesIn wsX5_comesIn (rmO 2 47) [.ref (gad G 34), .int (nI p)] (sI u 11 M) (fun v => v = sI u 11 (cmI M p)) := by
  refine CtV.of (cc := cX5_comesIn) (maxL := 4) (ret := none) (own := RX5) (by decide) rfl rfl ?_
  rintro pg ev s0 mm below meth cd ⟨hx, hb, hr, hml, hown, hts, hlocks⟩ hE hP ls hl
  have hS : va_S (gA G) s0.heap s0.heap [] := va_S.rf
  have hl : lv_has ls 4 [(0, .ref (gad G 34)), (1, .int (nI p))] := hl
  have hin5 : ∀ w ∈ wsX50, w ∈ wsX5_comesIn := by decide +kernel
  have hn := hM.n
  have h8 := hM.n8
  refine lv_aload_n hx hb dX5_comesIn_0 rfl (lv_at hl 0 rfl) ?_
  refine lv_iload_n hx hb dX5_comesIn_1 rfl (lv_at hl 1 rfl) ?_
  refine lv_iconst (v := 4) hx hb dX5_comesIn_2 (by decide) ?_
  refine lv_iconst (v := 1) hx hb dX5_comesIn_3 (by decide) ?_
  refine hd_callVv (As := [.int (nI p), .int 4, .int 1]) (rest := []) ⟨hx, hb, hml, hown, hts⟩ hE hP hS (c_X5_put l G u M p 4 (by omega) (by omega) 1) rfl (cwV 3 hts gX5_comesIn_X5_put rfl rfl rfl (by decide +kernel) ⟨Nat.le_of_ble_eq_true rfl, Nat.le_of_ble_eq_true rfl⟩) (mo_recv hE hP) rfl hl.1 rfl (Nat.le_of_ble_eq_true rfl) dX5_comesIn_4 (fun vq_1 H locs q_1 hP hS => ?_)
  have hP := hP.cast (q_1)
  refine lv_aload_n hx hb dX5_comesIn_7 rfl (lv_at hl 0 rfl) ?_
  refine mo_get hx hb hts hin5 hown hE hP ((sI_ne _ _ (by decide)).trans rfl) 0 (by decide) (hts (.fieldLink RX5 9 "HeldDoorModel" "m" "[I") (by decide +kernel)) (v := .ref (gad G 35)) rfl dX5_comesIn_8 ?_
  refine lv_iconst (v := 3) hx hb dX5_comesIn_11 (by decide) ?_
  refine lv_iload_n hx hb dX5_comesIn_12 rfl (lv_at hl 1 rfl) ?_
  refine ar_st hx hb hE hP hS 35 53 (by decide) (ar_at35 (sI_at _ _ _)) (ar_set35 _ _) 3 (by omega) (sI_sI _ _ _ _) dX5_comesIn_13 (fun H locs hP hS => ?_)
  refine lv_aload_n hx hb dX5_comesIn_14 rfl (lv_at hl 0 rfl) ?_
  refine hd_callVi (As := []) (rest := []) ⟨hx, hb, hml, hown, hts⟩ hE hP hS (c_X5_nearest l G u (upd (upd M (5 + 6 * p + 4) 1) 3 (nI p)) (wf_cm1 hM hp)) rfl (cwV 0 hts gX5_comesIn_X5_nearest rfl rfl rfl (by decide +kernel) ⟨Nat.le_of_ble_eq_true rfl, Nat.le_of_ble_eq_true rfl⟩) (mo_recv hE hP) rfl hl.1 rfl (Nat.le_of_ble_eq_true rfl) dX5_comesIn_15 (fun rq_2 vq_2 H locs q_2 hP hS => ?_)
  have hP := hP.cast (q_2.2)
  refine lv_cast q_2.1 ?_
  refine lv_istore_n (lv' := [(2, .int ((nrN (upd (upd M (5 + 6 * p + 4) 1) 3 (nI p)) (nP (upd (upd M (5 + 6 * p + 4) 1) 3 (nI p)))).1)), (0, .ref (gad G 34)), (1, .int (nI p))]) hx hb dX5_comesIn_18 rfl hl (by decide) rfl (fun ls hl => ?_)
  refine lv_iload_n hx hb dX5_comesIn_19 rfl (lv_at hl 0 rfl) ?_
  refine lv_if_ge (tgt := 27) hx hb dX5_comesIn_20 (by decide) (fun c_3 => ?_) (fun c_3 => ?_)
  · skip
    obtain ⟨q, hq, hq2⟩ := nr_get (wf_cm1 hM hp) c_3
    rw [nP_up (by decide), nP_up (by omega)] at hq
    refine lv_aload_n hx hb dX5_comesIn_27 rfl (lv_at hl 1 rfl) ?_
    refine lv_iload_n hx hb dX5_comesIn_28 rfl (lv_at hl 2 rfl) ?_
    refine lv_iload_n hx hb dX5_comesIn_29 rfl (lv_at hl 0 rfl) ?_
    refine lv_cast hq2 ?_
    refine hd_callVi (As := [.int (nI p), .int (nI q)]) (rest := []) ⟨hx, hb, hml, hown, hts⟩ hE hP hS (c_X5_holdsFor l G u (upd (upd M (5 + 6 * p + 4) 1) 3 (nI p)) p q (by omega) (by omega)) rfl (cwV 2 hts gX5_comesIn_X5_holdsFor rfl rfl rfl (by decide +kernel) ⟨Nat.le_of_ble_eq_true rfl, Nat.le_of_ble_eq_true rfl⟩) (mo_recv hE hP) rfl hl.1 rfl (Nat.le_of_ble_eq_true rfl) dX5_comesIn_30 (fun rq_4 vq_4 H locs q_4 hP hS => ?_)
    have hP := hP.cast (q_4.2)
    refine lv_cast q_4.1 ?_
    refine lv_istore_n (lv' := [(3, .int (hF (upd (upd M (5 + 6 * p + 4) 1) 3 (nI p)) p q)), (2, .int ((nrN (upd (upd M (5 + 6 * p + 4) 1) 3 (nI p)) (nP (upd (upd M (5 + 6 * p + 4) 1) 3 (nI p)))).1)), (0, .ref (gad G 34)), (1, .int (nI p))]) hx hb dX5_comesIn_33 rfl hl (by decide) rfl (fun ls hl => ?_)
    refine lv_aload_n hx hb dX5_comesIn_34 rfl (lv_at hl 2 rfl) ?_
    refine mo_get hx hb hts hin5 hown hE hP ((sI_ne _ _ (by decide)).trans rfl) 0 (by decide) (hts (.fieldLink RX5 9 "HeldDoorModel" "m" "[I") (by decide +kernel)) (v := .ref (gad G 35)) rfl dX5_comesIn_35 ?_
    refine lv_iconst (v := 2) hx hb dX5_comesIn_38 (by decide) ?_
    refine lv_iload_n hx hb dX5_comesIn_39 rfl (lv_at hl 0 rfl) ?_
    refine lv_aload_n hx hb dX5_comesIn_40 rfl (lv_at hl 2 rfl) ?_
    refine mo_get hx hb hts hin5 hown hE hP ((sI_ne _ _ (by decide)).trans rfl) 0 (by decide) (hts (.fieldLink RX5 9 "HeldDoorModel" "m" "[I") (by decide +kernel)) (v := .ref (gad G 35)) rfl dX5_comesIn_41 ?_
    refine lv_iconst (v := 2) hx hb dX5_comesIn_44 (by decide) ?_
    refine ar_ld hx hb hE hP 35 53 (by decide) (ar_at35 (sI_at _ _ _)) 2 (by omega) dX5_comesIn_45 ?_
    refine lv_cast (y := M 2) (by rw [up_ne _ _ (by omega), up_ne _ _ (by omega)]) ?_
    refine lv_icmp_le (tgt := 53) hx hb dX5_comesIn_46 (by decide) (fun c_5 => ?_) (fun c_5 => ?_)
    · skip
      refine lv_aload_n hx hb dX5_comesIn_53 rfl (lv_at hl 2 rfl) ?_
      refine mo_get hx hb hts hin5 hown hE hP ((sI_ne _ _ (by decide)).trans rfl) 0 (by decide) (hts (.fieldLink RX5 9 "HeldDoorModel" "m" "[I") (by decide +kernel)) (v := .ref (gad G 35)) rfl dX5_comesIn_54 ?_
      refine lv_iconst (v := 2) hx hb dX5_comesIn_57 (by decide) ?_
      refine ar_ld hx hb hE hP 35 53 (by decide) (ar_at35 (sI_at _ _ _)) 2 (by omega) dX5_comesIn_58 ?_
      refine lv_cast (y := M 2) (by rw [up_ne _ _ (by omega), up_ne _ _ (by omega)]) ?_
      refine lv_iconst (v := 0) hx hb dX5_comesIn_59 (by decide) ?_
      refine lv_bipush (v := 60) hx hb dX5_comesIn_60 (by decide) ?_
      refine hd_callSi (As := [.int (M 2), .int 0, .int 60]) (rest := [.int 2, .ref (gad G 35)]) ⟨hx, hb, hml, hown, hts⟩ hE hP hS (c_X5_held l G (sI u 11 (upd (upd M (5 + 6 * p + 4) 1) 3 (nI p))) (M 2) 0 60) rfl (va_cwS 3 hts gX5_comesIn_X5_held rfl rfl rfl (by decide +kernel) ⟨Nat.le_of_ble_eq_true rfl, Nat.le_of_ble_eq_true rfl⟩) rfl hl.1 rfl (Nat.le_of_ble_eq_true rfl) dX5_comesIn_62 (fun rq_6 vq_6 H locs q_6 hP hS => ?_)
      have hP := hP.cast (q_6.2)
      refine lv_cast q_6.1 ?_
      refine ar_st hx hb hE hP hS 35 53 (by decide) (ar_at35 (sI_at _ _ _)) (ar_set35 _ _) 2 (by omega) (sI_sI _ _ _ _) dX5_comesIn_65 (fun H locs hP hS => ?_)
      exact hd_vret hx hb hr hlocks hP hS (by rw [cmI, ← cm_held (cm2_ti (wf_cm1 hM hp)).1, cm2, cmO, if_neg (Int32.not_lt.mpr c_3), hq2, nI_clamp (by omega), up_ne _ _ (by decide), up_ne _ _ (by omega), if_neg (Int32.not_lt.mpr c_5)]) dX5_comesIn_66
    · skip
      refine lv_iload_n hx hb dX5_comesIn_49 rfl (lv_at hl 0 rfl) ?_
      refine lv_goto (tgt := 59) hx hb dX5_comesIn_50 (by decide) ?_
      refine lv_iconst (v := 0) hx hb dX5_comesIn_59 (by decide) ?_
      refine lv_bipush (v := 60) hx hb dX5_comesIn_60 (by decide) ?_
      refine hd_callSi (As := [.int (hF (upd (upd M (5 + 6 * p + 4) 1) 3 (nI p)) p q), .int 0, .int 60]) (rest := [.int 2, .ref (gad G 35)]) ⟨hx, hb, hml, hown, hts⟩ hE hP hS (c_X5_held l G (sI u 11 (upd (upd M (5 + 6 * p + 4) 1) 3 (nI p))) (hF (upd (upd M (5 + 6 * p + 4) 1) 3 (nI p)) p q) 0 60) rfl (va_cwS 3 hts gX5_comesIn_X5_held rfl rfl rfl (by decide +kernel) ⟨Nat.le_of_ble_eq_true rfl, Nat.le_of_ble_eq_true rfl⟩) rfl hl.1 rfl (Nat.le_of_ble_eq_true rfl) dX5_comesIn_62 (fun rq_7 vq_7 H locs q_7 hP hS => ?_)
      have hP := hP.cast (q_7.2)
      refine lv_cast q_7.1 ?_
      refine ar_st hx hb hE hP hS 35 53 (by decide) (ar_at35 (sI_at _ _ _)) (ar_set35 _ _) 2 (by omega) (sI_sI _ _ _ _) dX5_comesIn_65 (fun H locs hP hS => ?_)
      exact hd_vret hx hb hr hlocks hP hS (by rw [cmI, ← cm_held (cm2_ti (wf_cm1 hM hp)).1, cm2, cmO, if_neg (Int32.not_lt.mpr c_3), hq2, nI_clamp (by omega), up_ne _ _ (by decide), up_ne _ _ (by omega), if_pos (Int32.not_le.mp c_5)]) dX5_comesIn_66
  · skip
    refine lv_iconst (v := 0) hx hb dX5_comesIn_23 (by decide) ?_
    refine lv_goto (tgt := 33) hx hb dX5_comesIn_24 (by decide) ?_
    refine lv_istore_n (lv' := [(3, .int 0), (2, .int ((nrN (upd (upd M (5 + 6 * p + 4) 1) 3 (nI p)) (nP (upd (upd M (5 + 6 * p + 4) 1) 3 (nI p)))).1)), (0, .ref (gad G 34)), (1, .int (nI p))]) hx hb dX5_comesIn_33 rfl hl (by decide) rfl (fun ls hl => ?_)
    refine lv_aload_n hx hb dX5_comesIn_34 rfl (lv_at hl 2 rfl) ?_
    refine mo_get hx hb hts hin5 hown hE hP ((sI_ne _ _ (by decide)).trans rfl) 0 (by decide) (hts (.fieldLink RX5 9 "HeldDoorModel" "m" "[I") (by decide +kernel)) (v := .ref (gad G 35)) rfl dX5_comesIn_35 ?_
    refine lv_iconst (v := 2) hx hb dX5_comesIn_38 (by decide) ?_
    refine lv_iload_n hx hb dX5_comesIn_39 rfl (lv_at hl 0 rfl) ?_
    refine lv_aload_n hx hb dX5_comesIn_40 rfl (lv_at hl 2 rfl) ?_
    refine mo_get hx hb hts hin5 hown hE hP ((sI_ne _ _ (by decide)).trans rfl) 0 (by decide) (hts (.fieldLink RX5 9 "HeldDoorModel" "m" "[I") (by decide +kernel)) (v := .ref (gad G 35)) rfl dX5_comesIn_41 ?_
    refine lv_iconst (v := 2) hx hb dX5_comesIn_44 (by decide) ?_
    refine ar_ld hx hb hE hP 35 53 (by decide) (ar_at35 (sI_at _ _ _)) 2 (by omega) dX5_comesIn_45 ?_
    refine lv_cast (y := M 2) (by rw [up_ne _ _ (by omega), up_ne _ _ (by omega)]) ?_
    refine lv_icmp_le (tgt := 53) hx hb dX5_comesIn_46 (by decide) (fun c_8 => ?_) (fun c_8 => ?_)
    · skip
      refine lv_aload_n hx hb dX5_comesIn_53 rfl (lv_at hl 2 rfl) ?_
      refine mo_get hx hb hts hin5 hown hE hP ((sI_ne _ _ (by decide)).trans rfl) 0 (by decide) (hts (.fieldLink RX5 9 "HeldDoorModel" "m" "[I") (by decide +kernel)) (v := .ref (gad G 35)) rfl dX5_comesIn_54 ?_
      refine lv_iconst (v := 2) hx hb dX5_comesIn_57 (by decide) ?_
      refine ar_ld hx hb hE hP 35 53 (by decide) (ar_at35 (sI_at _ _ _)) 2 (by omega) dX5_comesIn_58 ?_
      refine lv_cast (y := M 2) (by rw [up_ne _ _ (by omega), up_ne _ _ (by omega)]) ?_
      refine lv_iconst (v := 0) hx hb dX5_comesIn_59 (by decide) ?_
      refine lv_bipush (v := 60) hx hb dX5_comesIn_60 (by decide) ?_
      refine hd_callSi (As := [.int (M 2), .int 0, .int 60]) (rest := [.int 2, .ref (gad G 35)]) ⟨hx, hb, hml, hown, hts⟩ hE hP hS (c_X5_held l G (sI u 11 (upd (upd M (5 + 6 * p + 4) 1) 3 (nI p))) (M 2) 0 60) rfl (va_cwS 3 hts gX5_comesIn_X5_held rfl rfl rfl (by decide +kernel) ⟨Nat.le_of_ble_eq_true rfl, Nat.le_of_ble_eq_true rfl⟩) rfl hl.1 rfl (Nat.le_of_ble_eq_true rfl) dX5_comesIn_62 (fun rq_9 vq_9 H locs q_9 hP hS => ?_)
      have hP := hP.cast (q_9.2)
      refine lv_cast q_9.1 ?_
      refine ar_st hx hb hE hP hS 35 53 (by decide) (ar_at35 (sI_at _ _ _)) (ar_set35 _ _) 2 (by omega) (sI_sI _ _ _ _) dX5_comesIn_65 (fun H locs hP hS => ?_)
      exact hd_vret hx hb hr hlocks hP hS (by rw [cmI, ← cm_held (cm2_ti (wf_cm1 hM hp)).1, cm2, cmO, if_pos (Int32.not_le.mp c_3), up_ne _ _ (by decide), up_ne _ _ (by omega), if_neg (Int32.not_lt.mpr c_8)]) dX5_comesIn_66
    · skip
      refine lv_iload_n hx hb dX5_comesIn_49 rfl (lv_at hl 0 rfl) ?_
      refine lv_goto (tgt := 59) hx hb dX5_comesIn_50 (by decide) ?_
      refine lv_iconst (v := 0) hx hb dX5_comesIn_59 (by decide) ?_
      refine lv_bipush (v := 60) hx hb dX5_comesIn_60 (by decide) ?_
      refine hd_callSi (As := [.int 0, .int 0, .int 60]) (rest := [.int 2, .ref (gad G 35)]) ⟨hx, hb, hml, hown, hts⟩ hE hP hS (c_X5_held l G (sI u 11 (upd (upd M (5 + 6 * p + 4) 1) 3 (nI p))) 0 0 60) rfl (va_cwS 3 hts gX5_comesIn_X5_held rfl rfl rfl (by decide +kernel) ⟨Nat.le_of_ble_eq_true rfl, Nat.le_of_ble_eq_true rfl⟩) rfl hl.1 rfl (Nat.le_of_ble_eq_true rfl) dX5_comesIn_62 (fun rq_10 vq_10 H locs q_10 hP hS => ?_)
      have hP := hP.cast (q_10.2)
      refine lv_cast q_10.1 ?_
      refine ar_st hx hb hE hP hS 35 53 (by decide) (ar_at35 (sI_at _ _ _)) (ar_set35 _ _) 2 (by omega) (sI_sI _ _ _ _) dX5_comesIn_65 (fun H locs hP hS => ?_)
      exact hd_vret hx hb hr hlocks hP hS (by rw [cmI, ← cm_held (cm2_ti (wf_cm1 hM hp)).1, cm2, cmO, if_pos (Int32.not_le.mp c_3), up_ne _ _ (by decide), up_ne _ _ (by omega), if_pos (Int32.not_le.mp c_8)]) dX5_comesIn_66
set_option maxHeartbeats 4000000 in
set_option maxRecDepth 100000 in
theorem c_X5_stands (l : Launch) (G : Geo) (u : Sg) (M : Nat → Int32) (hM : Wf M) (p : Nat) (hp : p < nP M) : CtV l G yX5_stands wsX5_stands (rmO 3 70) [.ref (gad G 34), .int (nI p)] (sI u 11 M) (fun v => v = sI u 11 (stE M p)) := by
  refine CtV.of (cc := cX5_stands) (maxL := 3) (ret := none) (own := RX5) (by decide) rfl rfl ?_
  rintro pg ev s0 mm below meth cd ⟨hx, hb, hr, hml, hown, hts, hlocks⟩ hE hP ls hl
  have hS : va_S (gA G) s0.heap s0.heap [] := va_S.rf
  have hl : lv_has ls 3 [(0, .ref (gad G 34)), (1, .int (nI p))] := hl
  have hin5 : ∀ w ∈ wsX50, w ∈ wsX5_stands := by decide +kernel
  have hn := hM.n
  have h8 := hM.n8
  have J37 : ∀ (b9 : Bool) (hb9 : b9 = askB M p)  (H : Heap) (locs : List Loc) (ls : Array Slot), WP G (sI u 11 M) H → va_S (gA G) s0.heap H locs → lv_has ls 3 [(0, .ref (gad G 34)), (1, .int (nI p))] → W pg l ev (headSpec wsX5_stands (rmO 3 70)).room s0 mm ([.ref (gad G 34), .int (nI p)] : List Value).toArray below meth cd H locs 0 0 (MQ below (va_Qv (fun v => v = sI u 11 (stE M p)) (fun v t => WP G v t.heap) (gA G)) ([.ref (gad G 34), .int (nI p)] : List Value).toArray s0 0 0 (gA G)) (F0 mm 37 ls [.int (bI b9)]) := by
    intro b9 hb9 H locs ls hP hS hl
    refine lv_istore_n (lv' := [(2, .int (bI b9)), (0, .ref (gad G 34)), (1, .int (nI p))]) hx hb dX5_stands_37 rfl hl (by decide) rfl (fun ls hl => ?_)
    refine lv_aload_n hx hb dX5_stands_38 rfl (lv_at hl 1 rfl) ?_
    refine lv_iload_n hx hb dX5_stands_39 rfl (lv_at hl 2 rfl) ?_
    refine lv_iconst (v := 5) hx hb dX5_stands_40 (by decide) ?_
    refine lv_aload_n hx hb dX5_stands_41 rfl (lv_at hl 1 rfl) ?_
    refine lv_iload_n hx hb dX5_stands_42 rfl (lv_at hl 2 rfl) ?_
    refine lv_iconst (v := 5) hx hb dX5_stands_43 (by decide) ?_
    refine hd_callVi (As := [.int (nI p), .int 5]) (rest := [.int 5, .int (nI p), .ref (gad G 34)]) ⟨hx, hb, hml, hown, hts⟩ hE hP hS (c_X5_it l G u M p 5 (by omega) (by omega)) rfl (cwV 2 hts gX5_stands_X5_it rfl rfl rfl (by decide +kernel) ⟨Nat.le_of_ble_eq_true rfl, Nat.le_of_ble_eq_true rfl⟩) (mo_recv hE hP) rfl hl.1 rfl (Nat.le_of_ble_eq_true rfl) dX5_stands_44 (fun rq_1 vq_1 H locs q_1 hP hS => ?_)
    have hP := hP.cast (q_1.2)
    refine lv_cast q_1.1 ?_
    refine lv_iload_n hx hb dX5_stands_47 rfl (lv_at hl 0 rfl) ?_
    refine bo_eq (tgt := 55) hx hb dX5_stands_48 (by decide) (fun c_2 => ?_) (fun c_2 => ?_)
    · skip
      refine lv_iconst (v := 0) hx hb dX5_stands_55 (by decide) ?_
      refine lv_iadd hx hb dX5_stands_56 ?_
      refine lv_iconst (v := 0) hx hb dX5_stands_57 (by decide) ?_
      refine lv_sipush (v := 999) hx hb dX5_stands_58 (by decide) ?_
      refine hd_callSi (As := [.int ((M (5 + 6 * p + 5)) + 0), .int 0, .int 999]) (rest := [.int 5, .int (nI p), .ref (gad G 34)]) ⟨hx, hb, hml, hown, hts⟩ hE hP hS (c_X5_held l G (sI u 11 M) ((M (5 + 6 * p + 5)) + 0) 0 999) rfl (va_cwS 3 hts gX5_stands_X5_held rfl rfl rfl (by decide +kernel) ⟨Nat.le_of_ble_eq_true rfl, Nat.le_of_ble_eq_true rfl⟩) rfl hl.1 rfl (Nat.le_of_ble_eq_true rfl) dX5_stands_61 (fun rq_3 vq_3 H locs q_3 hP hS => ?_)
      have hP := hP.cast (q_3.2)
      refine lv_cast q_3.1 ?_
      refine hd_callVv (As := [.int (nI p), .int 5, .int (hld ((M (5 + 6 * p + 5)) + 0) 0 999)]) (rest := []) ⟨hx, hb, hml, hown, hts⟩ hE hP hS (c_X5_put l G u M p 5 (by omega) (by omega) (hld ((M (5 + 6 * p + 5)) + 0) 0 999)) rfl (cwV 3 hts gX5_stands_X5_put rfl rfl rfl (by decide +kernel) ⟨Nat.le_of_ble_eq_true rfl, Nat.le_of_ble_eq_true rfl⟩) (mo_recv hE hP) rfl hl.1 rfl (Nat.le_of_ble_eq_true rfl) dX5_stands_64 (fun vq_4 H locs q_4 hP hS => ?_)
      have hP := hP.cast (q_4)
      have hP := hP.cast (show sI u 11 (upd M (5 + 6 * p + 5) (hld ((M (5 + 6 * p + 5)) + 0) 0 999)) = sI u 11 M from (by rw [(as_held hM (by omega)).2]))
      refine lv_iload_n hx hb dX5_stands_67 rfl (lv_at hl 0 rfl) ?_
      refine bo_eq (tgt := 91) hx hb dX5_stands_68 (by decide) (fun _ => ?_) (fun c_5 => False.elim (absurd (c_5.symm.trans c_2) (by decide)))
      refine lv_aload_n hx hb dX5_stands_91 rfl (lv_at hl 1 rfl) ?_
      refine mo_get hx hb hts hin5 hown hE hP ((sI_ne _ _ (by decide)).trans rfl) 0 (by decide) (hts (.fieldLink RX5 9 "HeldDoorModel" "m" "[I") (by decide +kernel)) (v := .ref (gad G 35)) rfl dX5_stands_92 ?_
      refine lv_iconst (v := 2) hx hb dX5_stands_95 (by decide) ?_
      refine ar_ld hx hb hE hP 35 53 (by decide) (ar_at35 (sI_at _ _ _)) 2 (by omega) dX5_stands_96 ?_
      refine lv_if_gt (tgt := 110) hx hb dX5_stands_97 (by decide) (fun c_6 => ?_) (fun c_6 => ?_)
      · skip
        refine lv_aload_n hx hb dX5_stands_110 rfl (lv_at hl 1 rfl) ?_
        refine lv_iload_n hx hb dX5_stands_111 rfl (lv_at hl 2 rfl) ?_
        refine hd_callVv (As := [.int (nI p)]) (rest := []) ⟨hx, hb, hml, hown, hts⟩ hE hP hS (c_X5_comesIn l G u M hM p (by first | exact hp | (rw [nP_ask1]; exact hp))) rfl (cwV 1 hts gX5_stands_X5_comesIn rfl rfl rfl (by decide +kernel) ⟨Nat.le_of_ble_eq_true rfl, Nat.le_of_ble_eq_true rfl⟩) (mo_recv hE hP) rfl hl.1 rfl (Nat.le_of_ble_eq_true rfl) dX5_stands_112 (fun vq_7 H locs q_7 hP hS => ?_)
        have hP := hP.cast (q_7)
        exact hd_vret hx hb hr hlocks hP hS (by rw [stE_n hM hb9 c_2, if_pos (Or.inl c_6)]) dX5_stands_115
      · skip
        refine lv_aload_n hx hb dX5_stands_100 rfl (lv_at hl 1 rfl) ?_
        refine lv_iload_n hx hb dX5_stands_101 rfl (lv_at hl 2 rfl) ?_
        refine lv_iconst (v := 1) hx hb dX5_stands_102 (by decide) ?_
        refine hd_callVi (As := [.int (nI p), .int 1]) (rest := []) ⟨hx, hb, hml, hown, hts⟩ hE hP hS (c_X5_it l G u M p 1 (by omega) (by omega)) rfl (cwV 2 hts gX5_stands_X5_it rfl rfl rfl (by decide +kernel) ⟨Nat.le_of_ble_eq_true rfl, Nat.le_of_ble_eq_true rfl⟩) (mo_recv hE hP) rfl hl.1 rfl (Nat.le_of_ble_eq_true rfl) dX5_stands_103 (fun rq_8 vq_8 H locs q_8 hP hS => ?_)
        have hP := hP.cast (q_8.2)
        refine lv_cast q_8.1 ?_
        refine lv_iconst (v := 1) hx hb dX5_stands_106 (by decide) ?_
        refine lv_icmp_ne (tgt := 115) hx hb dX5_stands_107 (by decide) (fun c_9 => ?_) (fun c_9 => ?_)
        · skip
          exact hd_vret hx hb hr hlocks hP hS (by rw [stE_n hM hb9 c_2, if_neg (by simp [c_6, c_9])]) dX5_stands_115
        · skip
          refine lv_aload_n hx hb dX5_stands_110 rfl (lv_at hl 1 rfl) ?_
          refine lv_iload_n hx hb dX5_stands_111 rfl (lv_at hl 2 rfl) ?_
          refine hd_callVv (As := [.int (nI p)]) (rest := []) ⟨hx, hb, hml, hown, hts⟩ hE hP hS (c_X5_comesIn l G u M hM p (by first | exact hp | (rw [nP_ask1]; exact hp))) rfl (cwV 1 hts gX5_stands_X5_comesIn rfl rfl rfl (by decide +kernel) ⟨Nat.le_of_ble_eq_true rfl, Nat.le_of_ble_eq_true rfl⟩) (mo_recv hE hP) rfl hl.1 rfl (Nat.le_of_ble_eq_true rfl) dX5_stands_112 (fun vq_10 H locs q_10 hP hS => ?_)
          have hP := hP.cast (q_10)
          exact hd_vret hx hb hr hlocks hP hS (by rw [stE_n hM hb9 c_2, if_pos (Or.inr c_9)]) dX5_stands_115
    · skip
      refine lv_iconst (v := 1) hx hb dX5_stands_51 (by decide) ?_
      refine lv_goto (tgt := 56) hx hb dX5_stands_52 (by decide) ?_
      refine lv_iadd hx hb dX5_stands_56 ?_
      refine lv_iconst (v := 0) hx hb dX5_stands_57 (by decide) ?_
      refine lv_sipush (v := 999) hx hb dX5_stands_58 (by decide) ?_
      refine hd_callSi (As := [.int ((M (5 + 6 * p + 5)) + 1), .int 0, .int 999]) (rest := [.int 5, .int (nI p), .ref (gad G 34)]) ⟨hx, hb, hml, hown, hts⟩ hE hP hS (c_X5_held l G (sI u 11 M) ((M (5 + 6 * p + 5)) + 1) 0 999) rfl (va_cwS 3 hts gX5_stands_X5_held rfl rfl rfl (by decide +kernel) ⟨Nat.le_of_ble_eq_true rfl, Nat.le_of_ble_eq_true rfl⟩) rfl hl.1 rfl (Nat.le_of_ble_eq_true rfl) dX5_stands_61 (fun rq_11 vq_11 H locs q_11 hP hS => ?_)
      have hP := hP.cast (q_11.2)
      refine lv_cast q_11.1 ?_
      refine hd_callVv (As := [.int (nI p), .int 5, .int (hld ((M (5 + 6 * p + 5)) + 1) 0 999)]) (rest := []) ⟨hx, hb, hml, hown, hts⟩ hE hP hS (c_X5_put l G u M p 5 (by omega) (by omega) (hld ((M (5 + 6 * p + 5)) + 1) 0 999)) rfl (cwV 3 hts gX5_stands_X5_put rfl rfl rfl (by decide +kernel) ⟨Nat.le_of_ble_eq_true rfl, Nat.le_of_ble_eq_true rfl⟩) (mo_recv hE hP) rfl hl.1 rfl (Nat.le_of_ble_eq_true rfl) dX5_stands_64 (fun vq_12 H locs q_12 hP hS => ?_)
      have hP := hP.cast (q_12)
      have hP := hP.cast (show sI u 11 (upd M (5 + 6 * p + 5) (hld ((M (5 + 6 * p + 5)) + 1) 0 999)) = sI u 11 (ask1 M p) from (by rw [(as_held hM (by omega)).1]))
      refine lv_iload_n hx hb dX5_stands_67 rfl (lv_at hl 0 rfl) ?_
      refine bo_eq (tgt := 91) hx hb dX5_stands_68 (by decide) (fun c_13 => False.elim (absurd (c_13.symm.trans c_2) (by decide))) (fun _ => ?_)
      refine lv_aload_n hx hb dX5_stands_71 rfl (lv_at hl 1 rfl) ?_
      refine lv_iload_n hx hb dX5_stands_72 rfl (lv_at hl 2 rfl) ?_
      refine lv_iconst (v := 1) hx hb dX5_stands_73 (by decide) ?_
      refine hd_callVi (As := [.int (nI p), .int 1]) (rest := []) ⟨hx, hb, hml, hown, hts⟩ hE hP hS (c_X5_it l G u (ask1 M p) p 1 (by omega) (by omega)) rfl (cwV 2 hts gX5_stands_X5_it rfl rfl rfl (by decide +kernel) ⟨Nat.le_of_ble_eq_true rfl, Nat.le_of_ble_eq_true rfl⟩) (mo_recv hE hP) rfl hl.1 rfl (Nat.le_of_ble_eq_true rfl) dX5_stands_74 (fun rq_14 vq_14 H locs q_14 hP hS => ?_)
      have hP := hP.cast (q_14.2)
      refine lv_cast q_14.1 ?_
      refine lv_cast (y := M (5 + 6 * p + 1)) (show ask1 M p (5 + 6 * p + 1) = M (5 + 6 * p + 1) from up_ne _ _ (by omega)) ?_
      refine lv_if_ne (tgt := 91) hx hb dX5_stands_77 (by decide) (fun c_15 => ?_) (fun c_15 => ?_)
      · skip
        refine lv_aload_n hx hb dX5_stands_91 rfl (lv_at hl 1 rfl) ?_
        refine mo_get hx hb hts hin5 hown hE hP ((sI_ne _ _ (by decide)).trans rfl) 0 (by decide) (hts (.fieldLink RX5 9 "HeldDoorModel" "m" "[I") (by decide +kernel)) (v := .ref (gad G 35)) rfl dX5_stands_92 ?_
        refine lv_iconst (v := 2) hx hb dX5_stands_95 (by decide) ?_
        refine ar_ld hx hb hE hP 35 53 (by decide) (ar_at35 (sI_at _ _ _)) 2 (by omega) dX5_stands_96 ?_
        refine lv_cast (y := M 2) (show ask1 M p 2 = M 2 from up_ne _ _ (by omega)) ?_
        refine lv_if_gt (tgt := 110) hx hb dX5_stands_97 (by decide) (fun c_16 => ?_) (fun c_16 => ?_)
        · skip
          refine lv_aload_n hx hb dX5_stands_110 rfl (lv_at hl 1 rfl) ?_
          refine lv_iload_n hx hb dX5_stands_111 rfl (lv_at hl 2 rfl) ?_
          refine hd_callVv (As := [.int (nI p)]) (rest := []) ⟨hx, hb, hml, hown, hts⟩ hE hP hS (c_X5_comesIn l G u (ask1 M p) (Wf_ask1 hM (by omega)) p (by first | exact hp | (rw [nP_ask1]; exact hp))) rfl (cwV 1 hts gX5_stands_X5_comesIn rfl rfl rfl (by decide +kernel) ⟨Nat.le_of_ble_eq_true rfl, Nat.le_of_ble_eq_true rfl⟩) (mo_recv hE hP) rfl hl.1 rfl (Nat.le_of_ble_eq_true rfl) dX5_stands_112 (fun vq_17 H locs q_17 hP hS => ?_)
          have hP := hP.cast (q_17)
          exact hd_vret hx hb hr hlocks hP hS (by rw [stE_a hM hb9 c_2, if_neg c_15]) dX5_stands_115
        · skip
          refine lv_aload_n hx hb dX5_stands_100 rfl (lv_at hl 1 rfl) ?_
          refine lv_iload_n hx hb dX5_stands_101 rfl (lv_at hl 2 rfl) ?_
          refine lv_iconst (v := 1) hx hb dX5_stands_102 (by decide) ?_
          refine hd_callVi (As := [.int (nI p), .int 1]) (rest := []) ⟨hx, hb, hml, hown, hts⟩ hE hP hS (c_X5_it l G u (ask1 M p) p 1 (by omega) (by omega)) rfl (cwV 2 hts gX5_stands_X5_it rfl rfl rfl (by decide +kernel) ⟨Nat.le_of_ble_eq_true rfl, Nat.le_of_ble_eq_true rfl⟩) (mo_recv hE hP) rfl hl.1 rfl (Nat.le_of_ble_eq_true rfl) dX5_stands_103 (fun rq_18 vq_18 H locs q_18 hP hS => ?_)
          have hP := hP.cast (q_18.2)
          refine lv_cast q_18.1 ?_
          refine lv_cast (y := M (5 + 6 * p + 1)) (show ask1 M p (5 + 6 * p + 1) = M (5 + 6 * p + 1) from up_ne _ _ (by omega)) ?_
          refine lv_iconst (v := 1) hx hb dX5_stands_106 (by decide) ?_
          refine lv_icmp_ne (tgt := 115) hx hb dX5_stands_107 (by decide) (fun c_19 => ?_) (fun c_19 => ?_)
          · skip
            exact hd_vret hx hb hr hlocks hP hS (False.elim (askB_open (hb9.symm.trans c_2) (Int32.not_lt.mp c_16))) dX5_stands_115
          · skip
            refine lv_aload_n hx hb dX5_stands_110 rfl (lv_at hl 1 rfl) ?_
            refine lv_iload_n hx hb dX5_stands_111 rfl (lv_at hl 2 rfl) ?_
            refine hd_callVv (As := [.int (nI p)]) (rest := []) ⟨hx, hb, hml, hown, hts⟩ hE hP hS (c_X5_comesIn l G u (ask1 M p) (Wf_ask1 hM (by omega)) p (by first | exact hp | (rw [nP_ask1]; exact hp))) rfl (cwV 1 hts gX5_stands_X5_comesIn rfl rfl rfl (by decide +kernel) ⟨Nat.le_of_ble_eq_true rfl, Nat.le_of_ble_eq_true rfl⟩) (mo_recv hE hP) rfl hl.1 rfl (Nat.le_of_ble_eq_true rfl) dX5_stands_112 (fun vq_20 H locs q_20 hP hS => ?_)
            have hP := hP.cast (q_20)
            exact hd_vret hx hb hr hlocks hP hS (False.elim (askB_open (hb9.symm.trans c_2) (Int32.not_lt.mp c_16))) dX5_stands_115
      · skip
        refine lv_aload_n hx hb dX5_stands_80 rfl (lv_at hl 1 rfl) ?_
        refine lv_iload_n hx hb dX5_stands_81 rfl (lv_at hl 2 rfl) ?_
        refine lv_iconst (v := 3) hx hb dX5_stands_82 (by decide) ?_
        refine lv_bipush (v := 99) hx hb dX5_stands_83 (by decide) ?_
        refine hd_callVv (As := [.int (nI p), .int 3, .int 99]) (rest := []) ⟨hx, hb, hml, hown, hts⟩ hE hP hS (c_X5_put l G u (ask1 M p) p 3 (by omega) (by omega) 99) rfl (cwV 3 hts gX5_stands_X5_put rfl rfl rfl (by decide +kernel) ⟨Nat.le_of_ble_eq_true rfl, Nat.le_of_ble_eq_true rfl⟩) (mo_recv hE hP) rfl hl.1 rfl (Nat.le_of_ble_eq_true rfl) dX5_stands_85 (fun vq_21 H locs q_21 hP hS => ?_)
        have hP := hP.cast (q_21)
        refine lv_goto (tgt := 115) hx hb dX5_stands_88 (by decide) ?_
        exact hd_vret hx hb hr hlocks hP hS (by rw [stE_a hM hb9 c_2, if_pos c_15]) dX5_stands_115
  refine lv_aload_n hx hb dX5_stands_0 rfl (lv_at hl 0 rfl) ?_
  refine mo_get hx hb hts hin5 hown hE hP ((sI_ne _ _ (by decide)).trans rfl) 0 (by decide) (hts (.fieldLink RX5 9 "HeldDoorModel" "m" "[I") (by decide +kernel)) (v := .ref (gad G 35)) rfl dX5_stands_1 ?_
  refine lv_iconst (v := 2) hx hb dX5_stands_4 (by decide) ?_
  refine ar_ld hx hb hE hP 35 53 (by decide) (ar_at35 (sI_at _ _ _)) 2 (by omega) dX5_stands_5 ?_
  refine lv_if_le (tgt := 36) hx hb dX5_stands_6 (by decide) (fun c_22 => ?_) (fun c_22 => ?_)
  · skip
    refine lv_iconst (v := 0) hx hb dX5_stands_36 (by decide) ?_
    exact J37 false (by rw [askB, if_pos c_22])  _ _ _ hP hS (lv_sub hl [0, 1] rfl)
  · skip
    refine lv_aload_n hx hb dX5_stands_9 rfl (lv_at hl 0 rfl) ?_
    refine mo_get hx hb hts hin5 hown hE hP ((sI_ne _ _ (by decide)).trans rfl) 0 (by decide) (hts (.fieldLink RX5 9 "HeldDoorModel" "m" "[I") (by decide +kernel)) (v := .ref (gad G 35)) rfl dX5_stands_10 ?_
    refine lv_iconst (v := 3) hx hb dX5_stands_13 (by decide) ?_
    refine ar_ld hx hb hE hP 35 53 (by decide) (ar_at35 (sI_at _ _ _)) 3 (by omega) dX5_stands_14 ?_
    refine lv_if_lt (tgt := 36) hx hb dX5_stands_15 (by decide) (fun c_23 => ?_) (fun c_23 => ?_)
    · skip
      refine lv_iconst (v := 0) hx hb dX5_stands_36 (by decide) ?_
      exact J37 false (by rw [askB, if_neg c_22, aB, if_pos c_23])  _ _ _ hP hS (lv_sub hl [0, 1] rfl)
    · skip
      obtain ⟨b, hb1, hb2⟩ := by_get hM c_23
      refine lv_aload_n hx hb dX5_stands_18 rfl (lv_at hl 0 rfl) ?_
      refine lv_aload_n hx hb dX5_stands_19 rfl (lv_at hl 0 rfl) ?_
      refine mo_get hx hb hts hin5 hown hE hP ((sI_ne _ _ (by decide)).trans rfl) 0 (by decide) (hts (.fieldLink RX5 9 "HeldDoorModel" "m" "[I") (by decide +kernel)) (v := .ref (gad G 35)) rfl dX5_stands_20 ?_
      refine lv_iconst (v := 3) hx hb dX5_stands_23 (by decide) ?_
      refine ar_ld hx hb hE hP 35 53 (by decide) (ar_at35 (sI_at _ _ _)) 3 (by omega) dX5_stands_24 ?_
      refine lv_cast hb2 ?_
      refine lv_iload_n hx hb dX5_stands_25 rfl (lv_at hl 1 rfl) ?_
      refine hd_callVi (As := [.int (nI b), .int (nI p)]) (rest := []) ⟨hx, hb, hml, hown, hts⟩ hE hP hS (c_X5_doesAsk l G u M b p (by omega) (by omega)) rfl (cwV 2 hts gX5_stands_X5_doesAsk rfl rfl rfl (by decide +kernel) ⟨Nat.le_of_ble_eq_true rfl, Nat.le_of_ble_eq_true rfl⟩) (mo_recv hE hP) rfl hl.1 rfl (Nat.le_of_ble_eq_true rfl) dX5_stands_26 (fun rq_24 vq_24 H locs q_24 hP hS => ?_)
      have hP := hP.cast (q_24.2)
      refine lv_cast q_24.1 ?_
      refine bo_eq (tgt := 36) hx hb dX5_stands_29 (by decide) (fun c_25 => ?_) (fun c_25 => ?_)
      · skip
        refine lv_iconst (v := 0) hx hb dX5_stands_36 (by decide) ?_
        exact J37 false (by rw [askB, if_neg c_22, aB, if_neg c_23, hb2, nI_clamp (by omega), c_25])  _ _ _ hP hS (lv_sub hl [0, 1] rfl)
      · skip
        refine lv_iconst (v := 1) hx hb dX5_stands_32 (by decide) ?_
        refine lv_goto (tgt := 37) hx hb dX5_stands_33 (by decide) ?_
        exact J37 true (by rw [askB, if_neg c_22, aB, if_neg c_23, hb2, nI_clamp (by omega), c_25])  _ _ _ hP hS (lv_sub hl [0, 1] rfl)
set_option maxHeartbeats 4000000 in
set_option maxRecDepth 100000 in
theorem c_X5_goes (l : Launch) (G : Geo) (u : Sg) (M : Nat → Int32) (hM : Wf M) : CtV l G yX5_goes wsX5_goes (rmO 4 92) [.ref (gad G 34)] (sI u 11 M) (fun v => v = sI u 11 (tik M)) := by
  refine CtV.of (cc := cX5_goes) (maxL := 4) (ret := none) (own := RX5) (by decide) rfl rfl ?_
  rintro pg ev s0 mm below meth cd ⟨hx, hb, hr, hml, hown, hts, hlocks⟩ hE hP ls hl
  have hS : va_S (gA G) s0.heap s0.heap [] := va_S.rf
  have hl : lv_has ls 4 [(0, .ref (gad G 34))] := hl
  have hin5 : ∀ w ∈ wsX50, w ∈ wsX5_goes := by decide +kernel
  have hn := hM.n
  have h8 := hM.n8
  have J14 : ∀ (o9 : Bool) (ho9 : o9 = opn M)  (H : Heap) (locs : List Loc) (ls : Array Slot), WP G (sI u 11 M) H → va_S (gA G) s0.heap H locs → lv_has ls 4 [(0, .ref (gad G 34))] → W pg l ev (headSpec wsX5_goes (rmO 4 92)).room s0 mm ([.ref (gad G 34)] : List Value).toArray below meth cd H locs 0 0 (MQ below (va_Qv (fun v => v = sI u 11 (tik M)) (fun v t => WP G v t.heap) (gA G)) ([.ref (gad G 34)] : List Value).toArray s0 0 0 (gA G)) (F0 mm 14 ls [.int (bI o9)]) := by
    intro o9 ho9 H locs ls hP hS hl
    refine lv_istore_n (lv' := [(1, .int (bI o9)), (0, .ref (gad G 34))]) hx hb dX5_goes_14 rfl hl (by decide) rfl (fun ls hl => ?_)
    refine lv_iconst (v := 0) hx hb dX5_goes_15 (by decide) ?_
    refine lv_istore_n (lv' := [(2, .int 0), (1, .int (bI o9)), (0, .ref (gad G 34))]) hx hb dX5_goes_16 rfl hl (by decide) rfl (fun ls hl => ?_)
    have J17 : ∀ (fu : Nat) (p : Nat) (N : Nat → Int32) (hp : p ≤ nP M) (hN : N = wkN M o9 p) (hrk : nP M - p < fu) (H : Heap) (locs : List Loc) (ls : Array Slot), WP G (sI u 11 N) H → va_S (gA G) s0.heap H locs → lv_has ls 4 [(0, .ref (gad G 34)), (1, .int (bI o9)), (2, .int (nI p))] → W pg l ev (headSpec wsX5_goes (rmO 4 92)).room s0 mm ([.ref (gad G 34)] : List Value).toArray below meth cd H locs 0 0 (MQ below (va_Qv (fun v => v = sI u 11 (tik M)) (fun v t => WP G v t.heap) (gA G)) ([.ref (gad G 34)] : List Value).toArray s0 0 0 (gA G)) (F0 mm 17 ls []) := by
      intro fu
      induction fu with
      | zero => intro p N hp hN hrk; exact absurd hrk (Nat.not_lt_zero _)
      | succ fu ih17 =>
        intro p N hp hN hrk H locs ls hP hS hl
        have hNp : nP N = nP M := by rw [hN, nP_wkN]
        have hWn : Wf N := by rw [hN]; exact Wf_wkN hM _ _ (by omega)
        refine lv_iload_n hx hb dX5_goes_17 rfl (lv_at hl 2 rfl) ?_
        refine lv_aload_n hx hb dX5_goes_18 rfl (lv_at hl 0 rfl) ?_
        refine mo_get hx hb hts hin5 hown hE hP ((sI_ne _ _ (by decide)).trans rfl) 0 (by decide) (hts (.fieldLink RX5 9 "HeldDoorModel" "m" "[I") (by decide +kernel)) (v := .ref (gad G 35)) rfl dX5_goes_19 ?_
        refine lv_iconst (v := 4) hx hb dX5_goes_22 (by decide) ?_
        refine ar_ld hx hb hE hP 35 53 (by decide) (ar_at35 (sI_at _ _ _)) 4 (by omega) dX5_goes_23 ?_
        refine lv_cast (show N 4 = nI (nP M) by rw [hWn.n, hNp]) ?_
        refine nn_ge (a := p) (b := nP M) (by omega) (by omega) (tgt := 75) hx hb dX5_goes_24 (by decide) (fun c_1 => ?_) (fun c_1 => ?_)
        · skip
          refine lv_iconst (v := 0) hx hb dX5_goes_75 (by decide) ?_
          refine lv_istore_n (lv' := [(2, .int 0), (0, .ref (gad G 34)), (1, .int (bI o9))]) hx hb dX5_goes_76 rfl hl (by decide) rfl (fun ls hl => ?_)
          have J77 : ∀ (fu : Nat) (p : Nat) (N : Nat → Int32) (hp : p ≤ nP M) (hN : N = stN (wkN M o9 (nP M)) p) (hrk : nP M - p < fu) (H : Heap) (locs : List Loc) (ls : Array Slot), WP G (sI u 11 N) H → va_S (gA G) s0.heap H locs → lv_has ls 4 [(0, .ref (gad G 34)), (1, .int (bI o9)), (2, .int (nI p))] → W pg l ev (headSpec wsX5_goes (rmO 4 92)).room s0 mm ([.ref (gad G 34)] : List Value).toArray below meth cd H locs 0 0 (MQ below (va_Qv (fun v => v = sI u 11 (tik M)) (fun v t => WP G v t.heap) (gA G)) ([.ref (gad G 34)] : List Value).toArray s0 0 0 (gA G)) (F0 mm 77 ls []) := by
            intro fu
            induction fu with
            | zero => intro p N hp hN hrk; exact absurd hrk (Nat.not_lt_zero _)
            | succ fu ih77 =>
              intro p N hp hN hrk H locs ls hP hS hl
              have hNp : nP N = nP M := by rw [hN, nP_stN, nP_wkN]
              have hWn : Wf N := by rw [hN]; exact Wf_stN (Wf_wkN hM _ _ h8) _ (by rw [nP_wkN]; exact hp)
              refine lv_iload_n hx hb dX5_goes_77 rfl (lv_at hl 2 rfl) ?_
              refine lv_aload_n hx hb dX5_goes_78 rfl (lv_at hl 0 rfl) ?_
              refine mo_get hx hb hts hin5 hown hE hP ((sI_ne _ _ (by decide)).trans rfl) 0 (by decide) (hts (.fieldLink RX5 9 "HeldDoorModel" "m" "[I") (by decide +kernel)) (v := .ref (gad G 35)) rfl dX5_goes_79 ?_
              refine lv_iconst (v := 4) hx hb dX5_goes_82 (by decide) ?_
              refine ar_ld hx hb hE hP 35 53 (by decide) (ar_at35 (sI_at _ _ _)) 4 (by omega) dX5_goes_83 ?_
              refine lv_cast (show N 4 = nI (nP M) by rw [hWn.n, hNp]) ?_
              refine nn_ge (a := p) (b := nP M) (by omega) (by omega) (tgt := 116) hx hb dX5_goes_84 (by decide) (fun c_2 => ?_) (fun c_2 => ?_)
              · skip
                refine lv_aload_n hx hb dX5_goes_116 rfl (lv_at hl 0 rfl) ?_
                refine mo_get hx hb hts hin5 hown hE hP ((sI_ne _ _ (by decide)).trans rfl) 0 (by decide) (hts (.fieldLink RX5 9 "HeldDoorModel" "m" "[I") (by decide +kernel)) (v := .ref (gad G 35)) rfl dX5_goes_117 ?_
                refine lv_iconst (v := 2) hx hb dX5_goes_120 (by decide) ?_
                refine lv_aload_n hx hb dX5_goes_121 rfl (lv_at hl 0 rfl) ?_
                refine mo_get hx hb hts hin5 hown hE hP ((sI_ne _ _ (by decide)).trans rfl) 0 (by decide) (hts (.fieldLink RX5 9 "HeldDoorModel" "m" "[I") (by decide +kernel)) (v := .ref (gad G 35)) rfl dX5_goes_122 ?_
                refine lv_iconst (v := 2) hx hb dX5_goes_125 (by decide) ?_
                refine ar_ld hx hb hE hP 35 53 (by decide) (ar_at35 (sI_at _ _ _)) 2 (by omega) dX5_goes_126 ?_
                refine lv_iconst (v := 1) hx hb dX5_goes_127 (by decide) ?_
                refine lv_isub hx hb dX5_goes_128 ?_
                refine lv_iconst (v := 0) hx hb dX5_goes_129 (by decide) ?_
                refine lv_bipush (v := 60) hx hb dX5_goes_130 (by decide) ?_
                refine hd_callSi (As := [.int ((N 2) - 1), .int 0, .int 60]) (rest := [.int 2, .ref (gad G 35)]) ⟨hx, hb, hml, hown, hts⟩ hE hP hS (c_X5_held l G (sI u 11 N) ((N 2) - 1) 0 60) rfl (va_cwS 3 hts gX5_goes_X5_held rfl rfl rfl (by decide +kernel) ⟨Nat.le_of_ble_eq_true rfl, Nat.le_of_ble_eq_true rfl⟩) rfl hl.1 rfl (Nat.le_of_ble_eq_true rfl) dX5_goes_132 (fun rq_3 vq_3 H locs q_3 hP hS => ?_)
                have hP := hP.cast (q_3.2)
                refine lv_cast q_3.1 ?_
                refine ar_st hx hb hE hP hS 35 53 (by decide) (ar_at35 (sI_at _ _ _)) (ar_set35 _ _) 2 (by omega) (sI_sI _ _ _ _) dX5_goes_135 (fun H locs hP hS => ?_)
                refine lv_aload_n hx hb dX5_goes_136 rfl (lv_at hl 0 rfl) ?_
                refine mo_get hx hb hts hin5 hown hE hP ((sI_ne _ _ (by decide)).trans rfl) 0 (by decide) (hts (.fieldLink RX5 9 "HeldDoorModel" "m" "[I") (by decide +kernel)) (v := .ref (gad G 35)) rfl dX5_goes_137 ?_
                refine lv_iconst (v := 0) hx hb dX5_goes_140 (by decide) ?_
                refine lv_dup2_11 hx hb dX5_goes_141 rfl rfl ?_
                refine ar_ld hx hb hE hP 35 53 (by decide) (ar_at35 (sI_at _ _ _)) 0 (by omega) dX5_goes_142 ?_
                refine lv_cast (y := N 0) (by rw [up_ne _ _ (by omega)]) ?_
                refine lv_iconst (v := 1) hx hb dX5_goes_143 (by decide) ?_
                refine lv_iadd hx hb dX5_goes_144 ?_
                refine ar_st hx hb hE hP hS 35 53 (by decide) (ar_at35 (sI_at _ _ _)) (ar_set35 _ _) 0 (by omega) (sI_sI _ _ _ _) dX5_goes_145 (fun H locs hP hS => ?_)
                exact hd_vret hx hb hr hlocks hP hS (by rw [dn_held hWn, tik, sec1, ← ho9, show stN (wkN M o9 (nP M)) (nP M) = N by rw [hN, show p = nP M by omega], show N 0 = M 0 by rw [hN, stN_0, wkN_low (by decide)]]) dX5_goes_146
              · skip
                refine lv_aload_n hx hb dX5_goes_87 rfl (lv_at hl 0 rfl) ?_
                refine lv_iload_n hx hb dX5_goes_88 rfl (lv_at hl 2 rfl) ?_
                refine lv_iconst (v := 4) hx hb dX5_goes_89 (by decide) ?_
                refine hd_callVi (As := [.int (nI p), .int 4]) (rest := []) ⟨hx, hb, hml, hown, hts⟩ hE hP hS (c_X5_it l G u N p 4 (by omega) (by omega)) rfl (cwV 2 hts gX5_goes_X5_it rfl rfl rfl (by decide +kernel) ⟨Nat.le_of_ble_eq_true rfl, Nat.le_of_ble_eq_true rfl⟩) (mo_recv hE hP) rfl hl.1 rfl (Nat.le_of_ble_eq_true rfl) dX5_goes_90 (fun rq_4 vq_4 H locs q_4 hP hS => ?_)
                have hP := hP.cast (q_4.2)
                refine lv_cast q_4.1 ?_
                refine lv_if_ne (tgt := 110) hx hb dX5_goes_93 (by decide) (fun c_5 => ?_) (fun c_5 => ?_)
                · skip
                  refine lv_iinc (v := nI (p + 1)) (lv' := [(2, .int (nI (p + 1))), (0, .ref (gad G 34)), (1, .int (bI o9))]) hx hb dX5_goes_110 hl (k := 2) rfl (inc1 _) (by decide) rfl (fun ls hl => ?_)
                  refine lv_goto (tgt := 77) hx hb dX5_goes_113 (by decide) ?_
                  exact ih77 (p + 1) N (by omega) (by rw [stN, st1, ← hN, if_neg c_5]) (by omega) _ _ _ hP hS (lv_sub hl [1, 2, 0] rfl)
                · skip
                  refine lv_aload_n hx hb dX5_goes_96 rfl (lv_at hl 0 rfl) ?_
                  refine lv_iload_n hx hb dX5_goes_97 rfl (lv_at hl 2 rfl) ?_
                  refine lv_iconst (v := 3) hx hb dX5_goes_98 (by decide) ?_
                  refine hd_callVi (As := [.int (nI p), .int 3]) (rest := []) ⟨hx, hb, hml, hown, hts⟩ hE hP hS (c_X5_it l G u N p 3 (by omega) (by omega)) rfl (cwV 2 hts gX5_goes_X5_it rfl rfl rfl (by decide +kernel) ⟨Nat.le_of_ble_eq_true rfl, Nat.le_of_ble_eq_true rfl⟩) (mo_recv hE hP) rfl hl.1 rfl (Nat.le_of_ble_eq_true rfl) dX5_goes_99 (fun rq_6 vq_6 H locs q_6 hP hS => ?_)
                  have hP := hP.cast (q_6.2)
                  refine lv_cast q_6.1 ?_
                  refine lv_if_ne (tgt := 110) hx hb dX5_goes_102 (by decide) (fun c_7 => ?_) (fun c_7 => ?_)
                  · skip
                    refine lv_iinc (v := nI (p + 1)) (lv' := [(2, .int (nI (p + 1))), (0, .ref (gad G 34)), (1, .int (bI o9))]) hx hb dX5_goes_110 hl (k := 2) rfl (inc1 _) (by decide) rfl (fun ls hl => ?_)
                    refine lv_goto (tgt := 77) hx hb dX5_goes_113 (by decide) ?_
                    exact ih77 (p + 1) N (by omega) (by rw [stN, st1, ← hN, if_pos c_5, if_neg c_7]) (by omega) _ _ _ hP hS (lv_sub hl [1, 2, 0] rfl)
                  · skip
                    refine lv_aload_n hx hb dX5_goes_105 rfl (lv_at hl 0 rfl) ?_
                    refine lv_iload_n hx hb dX5_goes_106 rfl (lv_at hl 2 rfl) ?_
                    refine hd_callVv (As := [.int (nI p)]) (rest := []) ⟨hx, hb, hml, hown, hts⟩ hE hP hS (c_X5_stands l G u N hWn p (by omega)) rfl (cwV 1 hts gX5_goes_X5_stands rfl rfl rfl (by decide +kernel) ⟨Nat.le_of_ble_eq_true rfl, Nat.le_of_ble_eq_true rfl⟩) (mo_recv hE hP) rfl hl.1 rfl (Nat.le_of_ble_eq_true rfl) dX5_goes_107 (fun vq_8 H locs q_8 hP hS => ?_)
                    have hP := hP.cast (q_8)
                    refine lv_iinc (v := nI (p + 1)) (lv' := [(2, .int (nI (p + 1))), (0, .ref (gad G 34)), (1, .int (bI o9))]) hx hb dX5_goes_110 hl (k := 2) rfl (inc1 _) (by decide) rfl (fun ls hl => ?_)
                    refine lv_goto (tgt := 77) hx hb dX5_goes_113 (by decide) ?_
                    exact ih77 (p + 1) (stE N p) (by omega) (by rw [stN, st1, ← hN, if_pos c_5, if_pos c_7]) (by omega) _ _ _ hP hS (lv_sub hl [1, 2, 0] rfl)
          exact J77 _ 0 N (Nat.zero_le _) (show _ = wkN M o9 (nP M) by rw [hN, show p = nP M by omega]) (Nat.lt_succ_self _) _ _ _ hP hS (lv_sub hl [1, 2, 0] rfl)
        · skip
          refine lv_aload_n hx hb dX5_goes_27 rfl (lv_at hl 0 rfl) ?_
          refine lv_iload_n hx hb dX5_goes_28 rfl (lv_at hl 2 rfl) ?_
          refine lv_iconst (v := 4) hx hb dX5_goes_29 (by decide) ?_
          refine hd_callVi (As := [.int (nI p), .int 4]) (rest := []) ⟨hx, hb, hml, hown, hts⟩ hE hP hS (c_X5_it l G u N p 4 (by omega) (by omega)) rfl (cwV 2 hts gX5_goes_X5_it rfl rfl rfl (by decide +kernel) ⟨Nat.le_of_ble_eq_true rfl, Nat.le_of_ble_eq_true rfl⟩) (mo_recv hE hP) rfl hl.1 rfl (Nat.le_of_ble_eq_true rfl) dX5_goes_30 (fun rq_9 vq_9 H locs q_9 hP hS => ?_)
          have hP := hP.cast (q_9.2)
          refine lv_cast q_9.1 ?_
          refine lv_iconst (v := 1) hx hb dX5_goes_33 (by decide) ?_
          refine lv_icmp_ne (tgt := 41) hx hb dX5_goes_34 (by decide) (fun c_10 => ?_) (fun c_10 => ?_)
          · skip
            refine lv_aload_n hx hb dX5_goes_41 rfl (lv_at hl 0 rfl) ?_
            refine lv_iload_n hx hb dX5_goes_42 rfl (lv_at hl 2 rfl) ?_
            refine lv_iload_n hx hb dX5_goes_43 rfl (lv_at hl 1 rfl) ?_
            refine hd_callVi (As := [.int (nI p), .int (bI o9)]) (rest := []) ⟨hx, hb, hml, hown, hts⟩ hE hP hS (c_X5_goesBy l G u N p (by omega) o9) rfl (cwV 2 hts gX5_goes_X5_goesBy rfl rfl rfl (by decide +kernel) ⟨Nat.le_of_ble_eq_true rfl, Nat.le_of_ble_eq_true rfl⟩) (mo_recv hE hP) rfl hl.1 rfl (Nat.le_of_ble_eq_true rfl) dX5_goes_44 (fun rq_11 vq_11 H locs q_11 hP hS => ?_)
            have hP := hP.cast (q_11.2)
            refine lv_cast q_11.1 ?_
            refine lv_istore_n (lv' := [(3, .int (gB N p o9)), (0, .ref (gad G 34)), (1, .int (bI o9)), (2, .int (nI p))]) hx hb dX5_goes_47 rfl hl (by decide) rfl (fun ls hl => ?_)
            refine lv_aload_n hx hb dX5_goes_48 rfl (lv_at hl 1 rfl) ?_
            refine lv_iload_n hx hb dX5_goes_49 rfl (lv_at hl 3 rfl) ?_
            refine lv_iconst (v := 3) hx hb dX5_goes_50 (by decide) ?_
            refine lv_aload_n hx hb dX5_goes_51 rfl (lv_at hl 1 rfl) ?_
            refine lv_iload_n hx hb dX5_goes_52 rfl (lv_at hl 3 rfl) ?_
            refine lv_iconst (v := 3) hx hb dX5_goes_53 (by decide) ?_
            refine hd_callVi (As := [.int (nI p), .int 3]) (rest := [.int 3, .int (nI p), .ref (gad G 34)]) ⟨hx, hb, hml, hown, hts⟩ hE hP hS (c_X5_it l G u N p 3 (by omega) (by omega)) rfl (cwV 2 hts gX5_goes_X5_it rfl rfl rfl (by decide +kernel) ⟨Nat.le_of_ble_eq_true rfl, Nat.le_of_ble_eq_true rfl⟩) (mo_recv hE hP) rfl hl.1 rfl (Nat.le_of_ble_eq_true rfl) dX5_goes_54 (fun rq_12 vq_12 H locs q_12 hP hS => ?_)
            have hP := hP.cast (q_12.2)
            refine lv_cast q_12.1 ?_
            refine lv_iload_n hx hb dX5_goes_57 rfl (lv_at hl 0 rfl) ?_
            refine lv_isub hx hb dX5_goes_58 ?_
            refine lv_iconst (v := 0) hx hb dX5_goes_59 (by decide) ?_
            refine lv_sipush (v := 999) hx hb dX5_goes_60 (by decide) ?_
            refine hd_callSi (As := [.int ((N (5 + 6 * p + 3)) - (gB N p o9)), .int 0, .int 999]) (rest := [.int 3, .int (nI p), .ref (gad G 34)]) ⟨hx, hb, hml, hown, hts⟩ hE hP hS (c_X5_held l G (sI u 11 N) ((N (5 + 6 * p + 3)) - (gB N p o9)) 0 999) rfl (va_cwS 3 hts gX5_goes_X5_held rfl rfl rfl (by decide +kernel) ⟨Nat.le_of_ble_eq_true rfl, Nat.le_of_ble_eq_true rfl⟩) rfl hl.1 rfl (Nat.le_of_ble_eq_true rfl) dX5_goes_63 (fun rq_13 vq_13 H locs q_13 hP hS => ?_)
            have hP := hP.cast (q_13.2)
            refine lv_cast q_13.1 ?_
            refine hd_callVv (As := [.int (nI p), .int 3, .int (hld ((N (5 + 6 * p + 3)) - (gB N p o9)) 0 999)]) (rest := []) ⟨hx, hb, hml, hown, hts⟩ hE hP hS (c_X5_put l G u N p 3 (by omega) (by omega) (hld ((N (5 + 6 * p + 3)) - (gB N p o9)) 0 999)) rfl (cwV 3 hts gX5_goes_X5_put rfl rfl rfl (by decide +kernel) ⟨Nat.le_of_ble_eq_true rfl, Nat.le_of_ble_eq_true rfl⟩) (mo_recv hE hP) rfl hl.1 rfl (Nat.le_of_ble_eq_true rfl) dX5_goes_66 (fun vq_14 H locs q_14 hP hS => ?_)
            have hP := hP.cast (q_14)
            refine lv_iinc (v := nI (p + 1)) (lv' := [(2, .int (nI (p + 1))), (3, .int (gB N p o9)), (0, .ref (gad G 34)), (1, .int (bI o9))]) hx hb dX5_goes_69 hl (k := 3) rfl (inc1 _) (by decide) rfl (fun ls hl => ?_)
            refine lv_goto (tgt := 17) hx hb dX5_goes_72 (by decide) ?_
            exact ih17 (p + 1) (upd N (5 + 6 * p + 3) (hld ((N (5 + 6 * p + 3)) - (gB N p o9)) 0 999)) (by omega) (by rw [wkN, ← hN]; exact wk_held hWn (by omega) o9 c_10) (by omega) _ _ _ hP hS (lv_sub hl [2, 3, 0] rfl)
          · skip
            refine lv_iconst (v := 0) hx hb dX5_goes_37 (by decide) ?_
            refine lv_goto (tgt := 47) hx hb dX5_goes_38 (by decide) ?_
            refine lv_istore_n (lv' := [(3, .int 0), (0, .ref (gad G 34)), (1, .int (bI o9)), (2, .int (nI p))]) hx hb dX5_goes_47 rfl hl (by decide) rfl (fun ls hl => ?_)
            refine lv_aload_n hx hb dX5_goes_48 rfl (lv_at hl 1 rfl) ?_
            refine lv_iload_n hx hb dX5_goes_49 rfl (lv_at hl 3 rfl) ?_
            refine lv_iconst (v := 3) hx hb dX5_goes_50 (by decide) ?_
            refine lv_aload_n hx hb dX5_goes_51 rfl (lv_at hl 1 rfl) ?_
            refine lv_iload_n hx hb dX5_goes_52 rfl (lv_at hl 3 rfl) ?_
            refine lv_iconst (v := 3) hx hb dX5_goes_53 (by decide) ?_
            refine hd_callVi (As := [.int (nI p), .int 3]) (rest := [.int 3, .int (nI p), .ref (gad G 34)]) ⟨hx, hb, hml, hown, hts⟩ hE hP hS (c_X5_it l G u N p 3 (by omega) (by omega)) rfl (cwV 2 hts gX5_goes_X5_it rfl rfl rfl (by decide +kernel) ⟨Nat.le_of_ble_eq_true rfl, Nat.le_of_ble_eq_true rfl⟩) (mo_recv hE hP) rfl hl.1 rfl (Nat.le_of_ble_eq_true rfl) dX5_goes_54 (fun rq_15 vq_15 H locs q_15 hP hS => ?_)
            have hP := hP.cast (q_15.2)
            refine lv_cast q_15.1 ?_
            refine lv_iload_n hx hb dX5_goes_57 rfl (lv_at hl 0 rfl) ?_
            refine lv_isub hx hb dX5_goes_58 ?_
            refine lv_iconst (v := 0) hx hb dX5_goes_59 (by decide) ?_
            refine lv_sipush (v := 999) hx hb dX5_goes_60 (by decide) ?_
            refine hd_callSi (As := [.int ((N (5 + 6 * p + 3)) - 0), .int 0, .int 999]) (rest := [.int 3, .int (nI p), .ref (gad G 34)]) ⟨hx, hb, hml, hown, hts⟩ hE hP hS (c_X5_held l G (sI u 11 N) ((N (5 + 6 * p + 3)) - 0) 0 999) rfl (va_cwS 3 hts gX5_goes_X5_held rfl rfl rfl (by decide +kernel) ⟨Nat.le_of_ble_eq_true rfl, Nat.le_of_ble_eq_true rfl⟩) rfl hl.1 rfl (Nat.le_of_ble_eq_true rfl) dX5_goes_63 (fun rq_16 vq_16 H locs q_16 hP hS => ?_)
            have hP := hP.cast (q_16.2)
            refine lv_cast q_16.1 ?_
            refine hd_callVv (As := [.int (nI p), .int 3, .int (hld ((N (5 + 6 * p + 3)) - 0) 0 999)]) (rest := []) ⟨hx, hb, hml, hown, hts⟩ hE hP hS (c_X5_put l G u N p 3 (by omega) (by omega) (hld ((N (5 + 6 * p + 3)) - 0) 0 999)) rfl (cwV 3 hts gX5_goes_X5_put rfl rfl rfl (by decide +kernel) ⟨Nat.le_of_ble_eq_true rfl, Nat.le_of_ble_eq_true rfl⟩) (mo_recv hE hP) rfl hl.1 rfl (Nat.le_of_ble_eq_true rfl) dX5_goes_66 (fun vq_17 H locs q_17 hP hS => ?_)
            have hP := hP.cast (q_17)
            refine lv_iinc (v := nI (p + 1)) (lv' := [(2, .int (nI (p + 1))), (3, .int 0), (0, .ref (gad G 34)), (1, .int (bI o9))]) hx hb dX5_goes_69 hl (k := 3) rfl (inc1 _) (by decide) rfl (fun ls hl => ?_)
            refine lv_goto (tgt := 17) hx hb dX5_goes_72 (by decide) ?_
            exact ih17 (p + 1) (upd N (5 + 6 * p + 3) (hld ((N (5 + 6 * p + 3)) - 0) 0 999)) (by omega) (by rw [wkN, ← hN]; exact wk_held0 hWn (by omega) o9 c_10) (by omega) _ _ _ hP hS (lv_sub hl [2, 3, 0] rfl)
    exact J17 _ 0 M (Nat.zero_le _) rfl (Nat.lt_succ_self _) _ _ _ hP hS (lv_sub hl [2, 1, 0] rfl)
  refine lv_aload_n hx hb dX5_goes_0 rfl (lv_at hl 0 rfl) ?_
  refine mo_get hx hb hts hin5 hown hE hP ((sI_ne _ _ (by decide)).trans rfl) 0 (by decide) (hts (.fieldLink RX5 9 "HeldDoorModel" "m" "[I") (by decide +kernel)) (v := .ref (gad G 35)) rfl dX5_goes_1 ?_
  refine lv_iconst (v := 2) hx hb dX5_goes_4 (by decide) ?_
  refine ar_ld hx hb hE hP 35 53 (by decide) (ar_at35 (sI_at _ _ _)) 2 (by omega) dX5_goes_5 ?_
  refine lv_if_le (tgt := 13) hx hb dX5_goes_6 (by decide) (fun c_18 => ?_) (fun c_18 => ?_)
  · skip
    refine lv_iconst (v := 0) hx hb dX5_goes_13 (by decide) ?_
    exact J14 false (by rw [opn, if_pos c_18])  _ _ _ hP hS (lv_sub hl [0] rfl)
  · skip
    refine lv_iconst (v := 1) hx hb dX5_goes_9 (by decide) ?_
    refine lv_goto (tgt := 14) hx hb dX5_goes_10 (by decide) ?_
    exact J14 true (by rw [opn, if_neg c_18])  _ _ _ hP hS (lv_sub hl [0] rfl)
