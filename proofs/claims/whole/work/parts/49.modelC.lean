set_option maxHeartbeats 4000000 in
set_option maxRecDepth 100000 in
theorem c_X5_care (l : Launch) (G : Geo) (u : Sg) (M F : Nat → Int32) (h11 : u.1 11 = M) (h15 : u.1 15 = F) (hM : Wf M) (T : Nat → Int32) (h13 : u.1 13 = T) (tT : ∀ k : Nat, 53 ≤ k → T k = 0) (n : Int32) : CtI l G yX5_care wsX5_care (rmO 7 159) [.ref (gad G 34), .int n] u (P3 u 11 13 15 (X_care M F n)) := by
  refine CtI.of (cc := cX5_care) (maxL := 5) (ret := (some .int)) (own := RX5) (by decide) rfl rfl ?_
  rintro pg ev s0 mm below meth cd ⟨hx, hb, hr, hml, hown, hts, hlocks⟩ hE hP ls hl
  have hS : va_S (gA G) s0.heap s0.heap [] := va_S.rf
  have hl : lv_has ls 5 [(0, .ref (gad G 34)), (1, .int n)] := hl
  have hin5 : ∀ w ∈ wsX50, w ∈ wsX5_care := by decide +kernel
  have hn := hM.n
  have h8 := hM.n8
  refine lv_iload_n hx hb dX5_care_0 rfl (lv_at hl 1 rfl) ?_
  refine lv_i2l hx hb dX5_care_1 rfl ?_
  refine lv_iconst (v := 1) hx hb dX5_care_2 (by decide) ?_
  refine lv_bipush (v := 100) hx hb dX5_care_3 (by decide) ?_
  refine hd_callSi (As := [.long n.toInt64, .int 1, .int 100]) (rest := []) ⟨hx, hb, hml, hown, hts⟩ hE hP hS (c_X5_inI l G u n 1 100) rfl (va_cwS 3 hts gX5_care_X5_in rfl rfl rfl (by decide +kernel) ⟨Nat.le_of_ble_eq_true rfl, Nat.le_of_ble_eq_true rfl⟩) rfl hl.1 rfl (Nat.le_of_ble_eq_true rfl) dX5_care_5 (fun rq_1 vq_1 H locs q_1 hP hS => ?_)
  have hP := hP.cast (q_1.2)
  refine lv_cast q_1.1 ?_
  refine bo_ne (tgt := 18) hx hb dX5_care_8 (by decide) (fun c_2 => ?_) (fun c_2 => ?_)
  · skip
    obtain ⟨n9, hn9a, hn9b, rfl⟩ := inI_nat c_2 rfl rfl (na := 1) (nb := 100) (by decide) (by decide)
    refine lv_aload_n hx hb dX5_care_18 rfl (lv_at hl 0 rfl) ?_
    refine hd_callVv (As := []) (rest := []) ⟨hx, hb, hml, hown, hts⟩ hE hP hS (c_X5_thinks l G u M T h11 h13 (hM).1 tT) rfl (cwV 0 hts gX5_care_X5_thinks rfl rfl rfl (by decide +kernel) ⟨Nat.le_of_ble_eq_true rfl, Nat.le_of_ble_eq_true rfl⟩) (mo_recv hE hP) rfl hl.1 rfl (Nat.le_of_ble_eq_true rfl) dX5_care_19 (fun vq_3 H locs q_3 hP hS => ?_)
    have hP := hP.cast (q_3)
    refine lv_aload_n hx hb dX5_care_22 rfl (lv_at hl 0 rfl) ?_
    refine hd_callVi (As := []) (rest := []) ⟨hx, hb, hml, hown, hts⟩ hE hP hS (c_X5_looseOnes l G (sI u 13 M) M hM) ((sI_id ((sI_ne _ _ (by decide)).trans h11)).symm) (cwV 0 hts gX5_care_X5_looseOnes rfl rfl rfl (by decide +kernel) ⟨Nat.le_of_ble_eq_true rfl, Nat.le_of_ble_eq_true rfl⟩) (mo_recv hE hP) rfl hl.1 rfl (Nat.le_of_ble_eq_true rfl) dX5_care_23 (fun rq_4 vq_4 H locs q_4 hP hS => ?_)
    have hP := hP.cast (q_4.2.trans ((sI_id ((sI_ne _ _ (by decide)).trans h11)).symm).symm)
    refine lv_cast q_4.1 ?_
    obtain ⟨k8, hk1, hk2⟩ := loS_256 hM hM.n8
    refine lv_cast hk2 ?_
    refine hd_callSi (As := [.int (nI k8)]) (rest := []) ⟨hx, hb, hml, hown, hts⟩ hE hP hS (c_X5_bits l G (sI u 13 M) k8 (by omega)) rfl (va_cwS 1 hts gX5_care_X5_bits rfl rfl rfl (by decide +kernel) ⟨Nat.le_of_ble_eq_true rfl, Nat.le_of_ble_eq_true rfl⟩) rfl hl.1 rfl (Nat.le_of_ble_eq_true rfl) dX5_care_26 (fun rq_5 vq_5 H locs q_5 hP hS => ?_)
    have hP := hP.cast (q_5.2)
    refine lv_cast q_5.1 ?_
    refine lv_istore_n (lv' := [(2, .int (bitC (nI k8))), (0, .ref (gad G 34)), (1, .int (nI n9))]) hx hb dX5_care_29 rfl hl (by decide) rfl (fun ls hl => ?_)
    refine lv_iconst (v := (-1)) hx hb dX5_care_30 (by decide) ?_
    refine lv_istore_n (lv' := [(3, .int (-1)), (2, .int (bitC (nI k8))), (0, .ref (gad G 34)), (1, .int (nI n9))]) hx hb dX5_care_31 rfl hl (by decide) rfl (fun ls hl => ?_)
    refine lv_iconst (v := 0) hx hb dX5_care_32 (by decide) ?_
    refine lv_istore (lv' := [(4, .int 0), (3, .int (-1)), (2, .int (bitC (nI k8))), (0, .ref (gad G 34)), (1, .int (nI n9))]) hx hb dX5_care_33 hl (by decide) rfl (fun ls hl => ?_)
    have J35 : ∀ (fu : Nat) (c9 : Nat) (b9 : Int32) (hc : c9 ≤ 100) (hsi : SI9 (caP M n9) 100 c9 b9) (hrk : 100 - c9 < fu) (H : Heap) (locs : List Loc) (ls : Array Slot), WP G (sI u 13 M) H → va_S (gA G) s0.heap H locs → lv_has ls 5 [(0, .ref (gad G 34)), (1, .int (nI n9)), (2, .int (bitC (nI k8))), (3, .int b9), (4, .int (nI c9))] → W pg l ev (headSpec wsX5_care (rmO 7 159)).room s0 mm ([.ref (gad G 34), .int (nI n9)] : List Value).toArray below meth cd H locs 0 0 (MQ below (va_Qi (P3 u 11 13 15 (X_care M F (nI n9))) (fun v t => WP G v t.heap) (gA G)) ([.ref (gad G 34), .int (nI n9)] : List Value).toArray s0 0 0 (gA G)) (F0 mm 35 ls []) := by
      intro fu
      induction fu with
      | zero => intro c9 b9 hc hsi hrk; exact absurd hrk (Nat.not_lt_zero _)
      | succ fu ih35 =>
        intro c9 b9 hc hsi hrk H locs ls hP hS hl
        refine lv_iload hx hb dX5_care_35 (lv_at hl 4 rfl) ?_
        refine lv_bipush (v := 99) hx hb dX5_care_37 (by decide) ?_
        refine nn_gt (a := c9) (b := 99) (by omega) (by omega) (tgt := 76) hx hb dX5_care_39 (by decide) (fun c_6 => ?_) (fun c_6 => ?_)
        · skip
          refine lv_aload_n hx hb dX5_care_76 rfl (lv_at hl 0 rfl) ?_
          refine lv_iload_n hx hb dX5_care_77 rfl (lv_at hl 3 rfl) ?_
          refine hd_callVi (As := [.int b9]) (rest := []) ⟨hx, hb, hml, hown, hts⟩ hE hP hS (c_X5_orNone l G (sI u 13 M) F ((sI_ne _ _ (by decide)).trans h15) b9) rfl (cwV 1 hts gX5_care_X5_orNone rfl rfl rfl (by decide +kernel) ⟨Nat.le_of_ble_eq_true rfl, Nat.le_of_ble_eq_true rfl⟩) (mo_recv hE hP) rfl hl.1 rfl (Nat.le_of_ble_eq_true rfl) dX5_care_78 (fun rq_7 vq_7 H locs q_7 hP hS => ?_)
          have hP := hP.cast (q_7.2)
          refine lv_cast q_7.1 ?_
          exact hd_iret hx hb hr hlocks hP hS (P3.of (by rw [X_care, c_2, if_neg (by decide), nI_clamp (show n9 < 2 ^ 31 by omega), ← SI9_end hsi (Or.inl (by omega)), orN_eq]) ((sI_ne _ _ (by decide)).trans ((sI_ne _ _ (by decide)).trans h11)) ((sI_ne _ _ (by decide)).trans (sI_at _ _ _)) (sI_at _ _ _) (by decide) (by decide) (by decide) (fun k k0 k1 k6 => ((sI_ne _ _ k6).trans ((sI_ne _ _ k1).trans rfl))) rfl) dX5_care_81
        · skip
          refine lv_iload_n hx hb dX5_care_42 rfl (lv_at hl 3 rfl) ?_
          refine lv_if_ge (tgt := 76) hx hb dX5_care_43 (by decide) (fun c_8 => ?_) (fun c_8 => ?_)
          · skip
            refine lv_aload_n hx hb dX5_care_76 rfl (lv_at hl 0 rfl) ?_
            refine lv_iload_n hx hb dX5_care_77 rfl (lv_at hl 3 rfl) ?_
            refine hd_callVi (As := [.int b9]) (rest := []) ⟨hx, hb, hml, hown, hts⟩ hE hP hS (c_X5_orNone l G (sI u 13 M) F ((sI_ne _ _ (by decide)).trans h15) b9) rfl (cwV 1 hts gX5_care_X5_orNone rfl rfl rfl (by decide +kernel) ⟨Nat.le_of_ble_eq_true rfl, Nat.le_of_ble_eq_true rfl⟩) (mo_recv hE hP) rfl hl.1 rfl (Nat.le_of_ble_eq_true rfl) dX5_care_78 (fun rq_9 vq_9 H locs q_9 hP hS => ?_)
            have hP := hP.cast (q_9.2)
            refine lv_cast q_9.1 ?_
            exact hd_iret hx hb hr hlocks hP hS (P3.of (by rw [X_care, c_2, if_neg (by decide), nI_clamp (show n9 < 2 ^ 31 by omega), ← SI9_end hsi (Or.inr c_8), orN_eq]) ((sI_ne _ _ (by decide)).trans ((sI_ne _ _ (by decide)).trans h11)) ((sI_ne _ _ (by decide)).trans (sI_at _ _ _)) (sI_at _ _ _) (by decide) (by decide) (by decide) (fun k k0 k1 k6 => ((sI_ne _ _ k6).trans ((sI_ne _ _ k1).trans rfl))) rfl) dX5_care_81
          · skip
            refine lv_aload_n hx hb dX5_care_46 rfl (lv_at hl 0 rfl) ?_
            refine mo_get hx hb hts hin5 hown hE hP ((sI_ne _ _ (by decide)).trans rfl) 0 (by decide) (hts (.fieldLink RX5 9 "HeldDoorModel" "m" "[I") (by decide +kernel)) (v := .ref (gad G 35)) rfl dX5_care_47 ?_
            refine lv_iconst (v := 1) hx hb dX5_care_50 (by decide) ?_
            refine lv_iload hx hb dX5_care_51 (lv_at hl 4 rfl) ?_
            refine ar_st hx hb hE hP hS 35 53 (by decide) (ar_at35 ((sI_ne _ _ (by decide)).trans h11)) (ar_set35 _ _) 1 (by omega) rfl dX5_care_53 (fun H locs hP hS => ?_)
            refine lv_aload_n hx hb dX5_care_54 rfl (lv_at hl 0 rfl) ?_
            refine lv_iload_n hx hb dX5_care_55 rfl (lv_at hl 1 rfl) ?_
            refine hd_callVi (As := [.int (nI n9)]) (rest := []) ⟨hx, hb, hml, hown, hts⟩ hE hP hS (c_X5_looseOn l G (sI (sI u 13 M) 11 (upd M 1 (nI c9))) (upd M 1 (nI c9)) M (sI_at _ _ _) ((sI_ne _ _ (by decide)).trans (sI_at _ _ _)) (Wf.put1 hM (by first | decide | (rw [ti_nI (by omega)]; omega)) (by first | decide | (rw [ti_nI (by omega)]; omega))) (hM).1 n9 (by omega)) rfl (cwV 1 hts gX5_care_X5_looseOn rfl rfl rfl (by decide +kernel) ⟨Nat.le_of_ble_eq_true rfl, Nat.le_of_ble_eq_true rfl⟩) (mo_recv hE hP) rfl hl.1 rfl (Nat.le_of_ble_eq_true rfl) dX5_care_56 (fun rq_10 vq_10 H locs q_10 hP hS => ?_)
            obtain ⟨q_10r, q_10v⟩ := q_10
            have hP := hP.cast (q_10v.trans (sI_sI _ _ _ _))
            refine lv_cast q_10r ?_
            refine lv_iload_n hx hb dX5_care_59 rfl (lv_at hl 2 rfl) ?_
            refine lv_icmp_gt (tgt := 68) hx hb dX5_care_60 (by decide) (fun c_11 => ?_) (fun c_11 => ?_)
            · skip
              refine lv_iconst (v := (-1)) hx hb dX5_care_68 (by decide) ?_
              refine lv_istore_n (lv' := [(3, .int (-1)), (0, .ref (gad G 34)), (1, .int (nI n9)), (2, .int (bitC (nI k8))), (4, .int (nI c9))]) hx hb dX5_care_69 rfl hl (by decide) rfl (fun ls hl => ?_)
              refine lv_iinc (v := nI (c9 + 1)) (lv' := [(4, .int (nI (c9 + 1))), (3, .int (-1)), (0, .ref (gad G 34)), (1, .int (nI n9)), (2, .int (bitC (nI k8)))]) hx hb dX5_care_70 hl (k := 4) rfl (inc1 _) (by decide) rfl (fun ls hl => ?_)
              refine lv_goto (tgt := 35) hx hb dX5_care_73 (by decide) ?_
              exact ih35 (c9 + 1) (-1) (by omega) (SI9_miss hsi c_8 (by omega) (fun z => absurd (of_decide_eq_true z) (Int32.not_le.mpr (by rw [← loC_bit hk2]; exact c_11)))) (by omega) _ _ _ (hP.cast (sI_id ((sI_ne _ _ (by decide)).trans h11))) hS (lv_sub hl [2, 3, 4, 1, 0] rfl)
            · skip
              refine lv_iload hx hb dX5_care_63 (lv_at hl 4 rfl) ?_
              refine lv_goto (tgt := 69) hx hb dX5_care_65 (by decide) ?_
              refine lv_istore_n (lv' := [(3, .int (nI c9)), (0, .ref (gad G 34)), (1, .int (nI n9)), (2, .int (bitC (nI k8))), (4, .int (nI c9))]) hx hb dX5_care_69 rfl hl (by decide) rfl (fun ls hl => ?_)
              refine lv_iinc (v := nI (c9 + 1)) (lv' := [(4, .int (nI (c9 + 1))), (3, .int (nI c9)), (0, .ref (gad G 34)), (1, .int (nI n9)), (2, .int (bitC (nI k8)))]) hx hb dX5_care_70 hl (k := 4) rfl (inc1 _) (by decide) rfl (fun ls hl => ?_)
              refine lv_goto (tgt := 35) hx hb dX5_care_73 (by decide) ?_
              exact ih35 (c9 + 1) (nI c9) (by omega) (SI9_hit hsi c_8 (by omega) (by decide) (decide_eq_true (by rw [← loC_bit hk2]; exact Int32.not_lt.mp c_11))) (by omega) _ _ _ (hP.cast (sI_id ((sI_ne _ _ (by decide)).trans h11))) hS (lv_sub hl [2, 3, 4, 1, 0] rfl)
    exact J35 _ 0 (-1) (by omega) (SI9_0 _ _) (Nat.lt_succ_self _) _ _ _ hP hS (lv_sub hl [3, 4, 2, 1, 0] rfl)
  · skip
    refine lv_aload_n hx hb dX5_care_11 rfl (lv_at hl 0 rfl) ?_
    refine lv_ldc (v := (-1000000001)) hx hb hown (hts (.constant RX5 35 ((-1000000001))) (by decide +kernel)) dX5_care_12 ?_
    refine hd_callVi (As := [.int (-1000000001)]) (rest := []) ⟨hx, hb, hml, hown, hts⟩ hE hP hS (c_X5_finds_0 l G u F h15) rfl (cwV 1 hts gX5_care_X5_finds rfl rfl rfl (by decide +kernel) ⟨Nat.le_of_ble_eq_true rfl, Nat.le_of_ble_eq_true rfl⟩) (mo_recv hE hP) rfl hl.1 rfl (Nat.le_of_ble_eq_true rfl) dX5_care_14 (fun rq_12 vq_12 H locs q_12 hP hS => ?_)
    have hP := hP.cast (q_12.2)
    refine lv_cast q_12.1 ?_
    exact hd_iret hx hb hr hlocks hP hS (P3.of (by first | (simp [X_care, bey, bmp, c_2]; done)) ((sI_ne _ _ (by decide)).trans h11) ((sI_ne _ _ (by decide)).trans h13) (sI_at _ _ _) (by decide) (by decide) (by decide) (fun k k0 k1 k6 => ((sI_ne _ _ k6).trans rfl)) rfl) dX5_care_17
set_option maxHeartbeats 4000000 in
set_option maxRecDepth 100000 in
theorem c_X5_kind (l : Launch) (G : Geo) (u : Sg) (M F : Nat → Int32) (h11 : u.1 11 = M) (h15 : u.1 15 = F) (hM : Wf M) (T : Nat → Int32) (h13 : u.1 13 = T) (tT : ∀ k : Nat, 53 ≤ k → T k = 0) (x n : Int32) : CtI l G yX5_kind wsX5_kind (rmO 7 159) [.ref (gad G 34), .int x, .int n] u (P3 u 11 13 15 (X_kind M F x n)) := by
  refine CtI.of (cc := cX5_kind) (maxL := 7) (ret := (some .int)) (own := RX5) (by decide) rfl rfl ?_
  rintro pg ev s0 mm below meth cd ⟨hx, hb, hr, hml, hown, hts, hlocks⟩ hE hP ls hl
  have hS : va_S (gA G) s0.heap s0.heap [] := va_S.rf
  have hl : lv_has ls 7 [(0, .ref (gad G 34)), (1, .int x), (2, .int n)] := hl
  have hn := hM.n
  have h8 := hM.n8
  refine lv_aload_n hx hb dX5_kind_0 rfl (lv_at hl 0 rfl) ?_
  refine lv_iload_n hx hb dX5_kind_1 rfl (lv_at hl 1 rfl) ?_
  refine hd_callVi (As := [.int x]) (rest := []) ⟨hx, hb, hml, hown, hts⟩ hE hP hS (c_X5_isPerson l G u M h11 x) rfl (cwV 1 hts gX5_kind_X5_isPerson rfl rfl rfl (by decide +kernel) ⟨Nat.le_of_ble_eq_true rfl, Nat.le_of_ble_eq_true rfl⟩) (mo_recv hE hP) rfl hl.1 rfl (Nat.le_of_ble_eq_true rfl) dX5_kind_2 (fun rq_1 vq_1 H locs q_1 hP hS => ?_)
  have hP := hP.cast (q_1.2)
  refine lv_cast q_1.1 ?_
  refine bo_eq (tgt := 19) hx hb dX5_kind_5 (by decide) (fun c_2 => ?_) (fun c_2 => ?_)
  · skip
    refine lv_aload_n hx hb dX5_kind_19 rfl (lv_at hl 0 rfl) ?_
    refine lv_ldc (v := (-1000000001)) hx hb hown (hts (.constant RX5 35 ((-1000000001))) (by decide +kernel)) dX5_kind_20 ?_
    refine hd_callVi (As := [.int (-1000000001)]) (rest := []) ⟨hx, hb, hml, hown, hts⟩ hE hP hS (c_X5_finds_0 l G u F h15) rfl (cwV 1 hts gX5_kind_X5_finds rfl rfl rfl (by decide +kernel) ⟨Nat.le_of_ble_eq_true rfl, Nat.le_of_ble_eq_true rfl⟩) (mo_recv hE hP) rfl hl.1 rfl (Nat.le_of_ble_eq_true rfl) dX5_kind_22 (fun rq_3 vq_3 H locs q_3 hP hS => ?_)
    have hP := hP.cast (q_3.2)
    refine lv_cast q_3.1 ?_
    exact hd_iret hx hb hr hlocks hP hS (P3.of (by first | (simp [X_kind, bey, bmp, c_2]; done)) ((sI_ne _ _ (by decide)).trans h11) ((sI_ne _ _ (by decide)).trans h13) (sI_at _ _ _) (by decide) (by decide) (by decide) (fun k k0 k1 k6 => ((sI_ne _ _ k6).trans rfl)) rfl) dX5_kind_25
  · skip
    obtain ⟨q, hq, rfl⟩ := pe_get hM c_2
    refine lv_iload_n hx hb dX5_kind_8 rfl (lv_at hl 2 rfl) ?_
    refine lv_i2l hx hb dX5_kind_9 rfl ?_
    refine lv_iconst (v := 1) hx hb dX5_kind_10 (by decide) ?_
    refine lv_bipush (v := 100) hx hb dX5_kind_11 (by decide) ?_
    refine hd_callSi (As := [.long n.toInt64, .int 1, .int 100]) (rest := []) ⟨hx, hb, hml, hown, hts⟩ hE hP hS (c_X5_inI l G u n 1 100) rfl (va_cwS 3 hts gX5_kind_X5_in rfl rfl rfl (by decide +kernel) ⟨Nat.le_of_ble_eq_true rfl, Nat.le_of_ble_eq_true rfl⟩) rfl hl.1 rfl (Nat.le_of_ble_eq_true rfl) dX5_kind_13 (fun rq_4 vq_4 H locs q_4 hP hS => ?_)
    have hP := hP.cast (q_4.2)
    refine lv_cast q_4.1 ?_
    refine bo_ne (tgt := 26) hx hb dX5_kind_16 (by decide) (fun c_5 => ?_) (fun c_5 => ?_)
    · skip
      obtain ⟨n9, hn9a, hn9b, rfl⟩ := inI_nat c_5 rfl rfl (na := 1) (nb := 100) (by decide) (by decide)
      refine lv_aload_n hx hb dX5_kind_26 rfl (lv_at hl 0 rfl) ?_
      refine hd_callVv (As := []) (rest := []) ⟨hx, hb, hml, hown, hts⟩ hE hP hS (c_X5_thinks l G u M T h11 h13 (hM).1 tT) rfl (cwV 0 hts gX5_kind_X5_thinks rfl rfl rfl (by decide +kernel) ⟨Nat.le_of_ble_eq_true rfl, Nat.le_of_ble_eq_true rfl⟩) (mo_recv hE hP) rfl hl.1 rfl (Nat.le_of_ble_eq_true rfl) dX5_kind_27 (fun vq_6 H locs q_6 hP hS => ?_)
      have hP := hP.cast (q_6)
      refine lv_iconst (v := 0) hx hb dX5_kind_30 (by decide) ?_
      refine lv_istore_n (lv' := [(3, .int 0), (0, .ref (gad G 34)), (1, .int (nI q)), (2, .int (nI n9))]) hx hb dX5_kind_31 rfl hl (by decide) rfl (fun ls hl => ?_)
      refine lv_bipush (v := 9) hx hb dX5_kind_32 (by decide) ?_
      refine lv_istore (lv' := [(4, .int 9), (3, .int 0), (0, .ref (gad G 34)), (1, .int (nI q)), (2, .int (nI n9))]) hx hb dX5_kind_34 hl (by decide) rfl (fun ls hl => ?_)
      refine lv_iconst (v := 0) hx hb dX5_kind_36 (by decide) ?_
      refine lv_istore (lv' := [(5, .int 0), (4, .int 9), (3, .int 0), (0, .ref (gad G 34)), (1, .int (nI q)), (2, .int (nI n9))]) hx hb dX5_kind_37 hl (by decide) rfl (fun ls hl => ?_)
      have J39 : ∀ (fu : Nat) (k9 : Nat) (b9 : Int32) (l9 : Int32) (hk : k9 ≤ 6) (hbb : (b9, l9) = kdN M q n9 k9) (hrk : 6 - k9 < fu) (H : Heap) (locs : List Loc) (ls : Array Slot), WP G (sI u 13 M) H → va_S (gA G) s0.heap H locs → lv_has ls 7 [(0, .ref (gad G 34)), (1, .int (nI q)), (2, .int (nI n9)), (3, .int b9), (4, .int l9), (5, .int (nI k9))] → W pg l ev (headSpec wsX5_kind (rmO 7 159)).room s0 mm ([.ref (gad G 34), .int (nI q), .int (nI n9)] : List Value).toArray below meth cd H locs 0 0 (MQ below (va_Qi (P3 u 11 13 15 (X_kind M F (nI q) (nI n9))) (fun v t => WP G v t.heap) (gA G)) ([.ref (gad G 34), .int (nI q), .int (nI n9)] : List Value).toArray s0 0 0 (gA G)) (F0 mm 39 ls []) := by
        intro fu
        induction fu with
        | zero => intro k9 b9 l9 hk hbb hrk; exact absurd hrk (Nat.not_lt_zero _)
        | succ fu ih39 =>
          intro k9 b9 l9 hk hbb hrk H locs ls hP hS hl
          refine lv_iload hx hb dX5_kind_39 (lv_at hl 5 rfl) ?_
          refine lv_iconst (v := 5) hx hb dX5_kind_41 (by decide) ?_
          refine nn_gt (a := k9) (b := 5) (by omega) (by omega) (tgt := 96) hx hb dX5_kind_42 (by decide) (fun c_7 => ?_) (fun c_7 => ?_)
          · skip
            refine lv_iload_n hx hb dX5_kind_96 rfl (lv_at hl 3 rfl) ?_
            exact hd_iret hx hb hr hlocks hP hS (P3.of (by rw [X_kind, c_2, if_neg (by decide), c_5, if_neg (by decide), nI_clamp (show q < 2 ^ 31 by omega), nI_clamp (show n9 < 2 ^ 31 by omega), show 6 = k9 by omega, ← hbb]) ((sI_ne _ _ (by decide)).trans h11) (sI_at _ _ _) ((sI_ne _ _ (by decide)).trans h15) (by decide) (by decide) (by decide) (fun k k0 k1 k6 => ((sI_ne _ _ k1).trans rfl)) rfl) dX5_kind_97
          · skip
            refine lv_aload_n hx hb dX5_kind_45 rfl (lv_at hl 0 rfl) ?_
            refine lv_iload_n hx hb dX5_kind_46 rfl (lv_at hl 1 rfl) ?_
            refine lv_iconst (v := 0) hx hb dX5_kind_47 (by decide) ?_
            refine lv_iload hx hb dX5_kind_48 (lv_at hl 5 rfl) ?_
            refine hd_callVv (As := [.int (nI q), .int 0, .int (nI k9)]) (rest := []) ⟨hx, hb, hml, hown, hts⟩ hE hP hS (c_X5_put l G (sI u 13 M) M q 0 (by omega) (by omega) (nI k9)) ((sI_id ((sI_ne _ _ (by decide)).trans h11)).symm) (cwV 3 hts gX5_kind_X5_put rfl rfl rfl (by decide +kernel) ⟨Nat.le_of_ble_eq_true rfl, Nat.le_of_ble_eq_true rfl⟩) (mo_recv hE hP) rfl hl.1 rfl (Nat.le_of_ble_eq_true rfl) dX5_kind_50 (fun vq_8 H locs q_8 hP hS => ?_)
            have hP := hP.cast (q_8)
            refine lv_aload_n hx hb dX5_kind_53 rfl (lv_at hl 0 rfl) ?_
            refine lv_iload_n hx hb dX5_kind_54 rfl (lv_at hl 2 rfl) ?_
            refine hd_callVi (As := [.int (nI n9)]) (rest := []) ⟨hx, hb, hml, hown, hts⟩ hE hP hS (c_X5_looseOn l G (sI (sI u 13 M) 11 (upd M (5 + 6 * q + 0) (nI k9))) (upd M (5 + 6 * q + 0) (nI k9)) M (sI_at _ _ _) ((sI_ne _ _ (by decide)).trans (sI_at _ _ _)) (Wf.put hM (w := 0) (by omega) (by decide) (by first | decide | (rw [ti_nI (by omega)]; first | omega | (show _ ≤ hiW _; rw [hiW]; simp; omega))) (by first | decide | (rw [ti_nI (by omega)]; first | omega | (show _ ≤ hiW _; rw [hiW]; simp; omega)))) (hM).1 n9 (by omega)) rfl (cwV 1 hts gX5_kind_X5_looseOn rfl rfl rfl (by decide +kernel) ⟨Nat.le_of_ble_eq_true rfl, Nat.le_of_ble_eq_true rfl⟩) (mo_recv hE hP) rfl hl.1 rfl (Nat.le_of_ble_eq_true rfl) dX5_kind_55 (fun rq_9 vq_9 H locs q_9 hP hS => ?_)
            obtain ⟨q_9r, q_9v⟩ := q_9
            have hP := hP.cast (q_9v.trans (sI_sI _ _ _ _))
            refine lv_cast q_9r ?_
            refine lv_istore (lv' := [(6, .int (loC (goN (upd M (5 + 6 * q + 0) (nI k9)) n9))), (0, .ref (gad G 34)), (1, .int (nI q)), (2, .int (nI n9)), (3, .int b9), (4, .int l9), (5, .int (nI k9))]) hx hb dX5_kind_58 hl (by decide) rfl (fun ls hl => ?_)
            refine lv_iload hx hb dX5_kind_60 (lv_at hl 0 rfl) ?_
            refine lv_iload hx hb dX5_kind_62 (lv_at hl 5 rfl) ?_
            refine lv_icmp_ge (tgt := 72) hx hb dX5_kind_64 (by decide) (fun c_10 => ?_) (fun c_10 => ?_)
            · skip
              refine lv_iload_n hx hb dX5_kind_72 rfl (lv_at hl 4 rfl) ?_
              refine lv_istore_n (lv' := [(3, .int b9), (6, .int (loC (goN (upd M (5 + 6 * q + 0) (nI k9)) n9))), (0, .ref (gad G 34)), (1, .int (nI q)), (2, .int (nI n9)), (4, .int l9), (5, .int (nI k9))]) hx hb dX5_kind_73 rfl hl (by decide) rfl (fun ls hl => ?_)
              refine lv_iload hx hb dX5_kind_74 (lv_at hl 1 rfl) ?_
              refine lv_iload hx hb dX5_kind_76 (lv_at hl 5 rfl) ?_
              refine lv_icmp_ge (tgt := 86) hx hb dX5_kind_78 (by decide) (fun c_11 => ?_) (fun c_11 => ?_)
              · skip
                refine lv_iload hx hb dX5_kind_86 (lv_at hl 5 rfl) ?_
                refine lv_istore (lv' := [(4, .int l9), (3, .int b9), (6, .int (loC (goN (upd M (5 + 6 * q + 0) (nI k9)) n9))), (0, .ref (gad G 34)), (1, .int (nI q)), (2, .int (nI n9)), (5, .int (nI k9))]) hx hb dX5_kind_88 hl (by decide) rfl (fun ls hl => ?_)
                refine lv_iinc (v := nI (k9 + 1)) (lv' := [(5, .int (nI (k9 + 1))), (4, .int l9), (3, .int b9), (6, .int (loC (goN (upd M (5 + 6 * q + 0) (nI k9)) n9))), (0, .ref (gad G 34)), (1, .int (nI q)), (2, .int (nI n9))]) hx hb dX5_kind_90 hl (k := 6) rfl (inc1 _) (by decide) rfl (fun ls hl => ?_)
                refine lv_goto (tgt := 39) hx hb dX5_kind_93 (by decide) ?_
                exact ih39 (k9 + 1) b9 l9 (by omega) (by rw [kdN, bst, ← hbb, if_neg (Int32.not_lt.mpr c_10)]) (by omega) _ _ _ (hP.cast (sI_id ((sI_ne _ _ (by decide)).trans h11))) hS (lv_sub hl [4, 5, 6, 2, 1, 0] rfl)
              · skip
                refine lv_iload hx hb dX5_kind_81 (lv_at hl 1 rfl) ?_
                refine lv_goto (tgt := 88) hx hb dX5_kind_83 (by decide) ?_
                refine lv_istore (lv' := [(4, .int (loC (goN (upd M (5 + 6 * q + 0) (nI k9)) n9))), (3, .int b9), (6, .int (loC (goN (upd M (5 + 6 * q + 0) (nI k9)) n9))), (0, .ref (gad G 34)), (1, .int (nI q)), (2, .int (nI n9)), (5, .int (nI k9))]) hx hb dX5_kind_88 hl (by decide) rfl (fun ls hl => ?_)
                refine lv_iinc (v := nI (k9 + 1)) (lv' := [(5, .int (nI (k9 + 1))), (4, .int (loC (goN (upd M (5 + 6 * q + 0) (nI k9)) n9))), (3, .int b9), (6, .int (loC (goN (upd M (5 + 6 * q + 0) (nI k9)) n9))), (0, .ref (gad G 34)), (1, .int (nI q)), (2, .int (nI n9))]) hx hb dX5_kind_90 hl (k := 6) rfl (inc1 _) (by decide) rfl (fun ls hl => ?_)
                refine lv_goto (tgt := 39) hx hb dX5_kind_93 (by decide) ?_
                exact ih39 (k9 + 1) b9 (loC (goN (upd M (5 + 6 * q + 0) (nI k9)) n9)) (by omega) (False.elim (c_11 c_10)) (by omega) _ _ _ (hP.cast (sI_id ((sI_ne _ _ (by decide)).trans h11))) hS (lv_sub hl [4, 5, 6, 2, 1, 0] rfl)
            · skip
              refine lv_iload hx hb dX5_kind_67 (lv_at hl 6 rfl) ?_
              refine lv_goto (tgt := 73) hx hb dX5_kind_69 (by decide) ?_
              refine lv_istore_n (lv' := [(3, .int (nI k9)), (6, .int (loC (goN (upd M (5 + 6 * q + 0) (nI k9)) n9))), (0, .ref (gad G 34)), (1, .int (nI q)), (2, .int (nI n9)), (4, .int l9), (5, .int (nI k9))]) hx hb dX5_kind_73 rfl hl (by decide) rfl (fun ls hl => ?_)
              refine lv_iload hx hb dX5_kind_74 (lv_at hl 1 rfl) ?_
              refine lv_iload hx hb dX5_kind_76 (lv_at hl 5 rfl) ?_
              refine lv_icmp_ge (tgt := 86) hx hb dX5_kind_78 (by decide) (fun c_12 => ?_) (fun c_12 => ?_)
              · skip
                refine lv_iload hx hb dX5_kind_86 (lv_at hl 5 rfl) ?_
                refine lv_istore (lv' := [(4, .int l9), (3, .int (nI k9)), (6, .int (loC (goN (upd M (5 + 6 * q + 0) (nI k9)) n9))), (0, .ref (gad G 34)), (1, .int (nI q)), (2, .int (nI n9)), (5, .int (nI k9))]) hx hb dX5_kind_88 hl (by decide) rfl (fun ls hl => ?_)
                refine lv_iinc (v := nI (k9 + 1)) (lv' := [(5, .int (nI (k9 + 1))), (4, .int l9), (3, .int (nI k9)), (6, .int (loC (goN (upd M (5 + 6 * q + 0) (nI k9)) n9))), (0, .ref (gad G 34)), (1, .int (nI q)), (2, .int (nI n9))]) hx hb dX5_kind_90 hl (k := 6) rfl (inc1 _) (by decide) rfl (fun ls hl => ?_)
                refine lv_goto (tgt := 39) hx hb dX5_kind_93 (by decide) ?_
                exact ih39 (k9 + 1) (nI k9) l9 (by omega) (False.elim (c_10 c_12)) (by omega) _ _ _ (hP.cast (sI_id ((sI_ne _ _ (by decide)).trans h11))) hS (lv_sub hl [4, 5, 6, 2, 1, 0] rfl)
              · skip
                refine lv_iload hx hb dX5_kind_81 (lv_at hl 1 rfl) ?_
                refine lv_goto (tgt := 88) hx hb dX5_kind_83 (by decide) ?_
                refine lv_istore (lv' := [(4, .int (loC (goN (upd M (5 + 6 * q + 0) (nI k9)) n9))), (3, .int (nI k9)), (6, .int (loC (goN (upd M (5 + 6 * q + 0) (nI k9)) n9))), (0, .ref (gad G 34)), (1, .int (nI q)), (2, .int (nI n9)), (5, .int (nI k9))]) hx hb dX5_kind_88 hl (by decide) rfl (fun ls hl => ?_)
                refine lv_iinc (v := nI (k9 + 1)) (lv' := [(5, .int (nI (k9 + 1))), (4, .int (loC (goN (upd M (5 + 6 * q + 0) (nI k9)) n9))), (3, .int (nI k9)), (6, .int (loC (goN (upd M (5 + 6 * q + 0) (nI k9)) n9))), (0, .ref (gad G 34)), (1, .int (nI q)), (2, .int (nI n9))]) hx hb dX5_kind_90 hl (k := 6) rfl (inc1 _) (by decide) rfl (fun ls hl => ?_)
                refine lv_goto (tgt := 39) hx hb dX5_kind_93 (by decide) ?_
                exact ih39 (k9 + 1) (nI k9) (loC (goN (upd M (5 + 6 * q + 0) (nI k9)) n9)) (by omega) (by rw [kdN, bst, ← hbb, if_pos (Int32.not_le.mp c_10)]) (by omega) _ _ _ (hP.cast (sI_id ((sI_ne _ _ (by decide)).trans h11))) hS (lv_sub hl [4, 5, 6, 2, 1, 0] rfl)
      exact J39 _ 0 0 9 (by omega) rfl (Nat.lt_succ_self _) _ _ _ hP hS (lv_sub hl [3, 4, 5, 2, 1, 0] rfl)
    · skip
      refine lv_aload_n hx hb dX5_kind_19 rfl (lv_at hl 0 rfl) ?_
      refine lv_ldc (v := (-1000000001)) hx hb hown (hts (.constant RX5 35 ((-1000000001))) (by decide +kernel)) dX5_kind_20 ?_
      refine hd_callVi (As := [.int (-1000000001)]) (rest := []) ⟨hx, hb, hml, hown, hts⟩ hE hP hS (c_X5_finds_0 l G u F h15) rfl (cwV 1 hts gX5_kind_X5_finds rfl rfl rfl (by decide +kernel) ⟨Nat.le_of_ble_eq_true rfl, Nat.le_of_ble_eq_true rfl⟩) (mo_recv hE hP) rfl hl.1 rfl (Nat.le_of_ble_eq_true rfl) dX5_kind_22 (fun rq_13 vq_13 H locs q_13 hP hS => ?_)
      have hP := hP.cast (q_13.2)
      refine lv_cast q_13.1 ?_
      exact hd_iret hx hb hr hlocks hP hS (P3.of (by first | (simp [X_kind, bey, bmp, c_2, c_5]; done)) ((sI_ne _ _ (by decide)).trans h11) ((sI_ne _ _ (by decide)).trans h13) (sI_at _ _ _) (by decide) (by decide) (by decide) (fun k k0 k1 k6 => ((sI_ne _ _ k6).trans rfl)) rfl) dX5_kind_25
set_option maxHeartbeats 4000000 in
set_option maxRecDepth 100000 in
theorem c_X5_far (l : Launch) (G : Geo) (u : Sg) (M F : Nat → Int32) (h11 : u.1 11 = M) (h15 : u.1 15 = F) (hM : Wf M) (T : Nat → Int32) (h13 : u.1 13 = T) (tT : ∀ k : Nat, 53 ≤ k → T k = 0) (x n : Int32) : CtI l G yX5_far wsX5_far (rmO 7 160) [.ref (gad G 34), .int x, .int n] u (P3 u 11 13 15 (X_far M F x n)) := by
  refine CtI.of (cc := cX5_far) (maxL := 5) (ret := (some .int)) (own := RX5) (by decide) rfl rfl ?_
  rintro pg ev s0 mm below meth cd ⟨hx, hb, hr, hml, hown, hts, hlocks⟩ hE hP ls hl
  have hS : va_S (gA G) s0.heap s0.heap [] := va_S.rf
  have hl : lv_has ls 5 [(0, .ref (gad G 34)), (1, .int x), (2, .int n)] := hl
  have hn := hM.n
  have h8 := hM.n8
  refine lv_aload_n hx hb dX5_far_0 rfl (lv_at hl 0 rfl) ?_
  refine lv_iload_n hx hb dX5_far_1 rfl (lv_at hl 1 rfl) ?_
  refine hd_callVi (As := [.int x]) (rest := []) ⟨hx, hb, hml, hown, hts⟩ hE hP hS (c_X5_isPerson l G u M h11 x) rfl (cwV 1 hts gX5_far_X5_isPerson rfl rfl rfl (by decide +kernel) ⟨Nat.le_of_ble_eq_true rfl, Nat.le_of_ble_eq_true rfl⟩) (mo_recv hE hP) rfl hl.1 rfl (Nat.le_of_ble_eq_true rfl) dX5_far_2 (fun rq_1 vq_1 H locs q_1 hP hS => ?_)
  have hP := hP.cast (q_1.2)
  refine lv_cast q_1.1 ?_
  refine bo_eq (tgt := 19) hx hb dX5_far_5 (by decide) (fun c_2 => ?_) (fun c_2 => ?_)
  · skip
    refine lv_aload_n hx hb dX5_far_19 rfl (lv_at hl 0 rfl) ?_
    refine lv_ldc (v := (-1000000001)) hx hb hown (hts (.constant RX5 35 ((-1000000001))) (by decide +kernel)) dX5_far_20 ?_
    refine hd_callVi (As := [.int (-1000000001)]) (rest := []) ⟨hx, hb, hml, hown, hts⟩ hE hP hS (c_X5_finds_0 l G u F h15) rfl (cwV 1 hts gX5_far_X5_finds rfl rfl rfl (by decide +kernel) ⟨Nat.le_of_ble_eq_true rfl, Nat.le_of_ble_eq_true rfl⟩) (mo_recv hE hP) rfl hl.1 rfl (Nat.le_of_ble_eq_true rfl) dX5_far_22 (fun rq_3 vq_3 H locs q_3 hP hS => ?_)
    have hP := hP.cast (q_3.2)
    refine lv_cast q_3.1 ?_
    exact hd_iret hx hb hr hlocks hP hS (P3.of (by first | (simp [X_far, bey, bmp, c_2]; done)) ((sI_ne _ _ (by decide)).trans h11) ((sI_ne _ _ (by decide)).trans h13) (sI_at _ _ _) (by decide) (by decide) (by decide) (fun k k0 k1 k6 => ((sI_ne _ _ k6).trans rfl)) rfl) dX5_far_25
  · skip
    obtain ⟨q, hq, rfl⟩ := pe_get hM c_2
    refine lv_iload_n hx hb dX5_far_8 rfl (lv_at hl 2 rfl) ?_
    refine lv_i2l hx hb dX5_far_9 rfl ?_
    refine lv_iconst (v := 1) hx hb dX5_far_10 (by decide) ?_
    refine lv_bipush (v := 100) hx hb dX5_far_11 (by decide) ?_
    refine hd_callSi (As := [.long n.toInt64, .int 1, .int 100]) (rest := []) ⟨hx, hb, hml, hown, hts⟩ hE hP hS (c_X5_inI l G u n 1 100) rfl (va_cwS 3 hts gX5_far_X5_in rfl rfl rfl (by decide +kernel) ⟨Nat.le_of_ble_eq_true rfl, Nat.le_of_ble_eq_true rfl⟩) rfl hl.1 rfl (Nat.le_of_ble_eq_true rfl) dX5_far_13 (fun rq_4 vq_4 H locs q_4 hP hS => ?_)
    have hP := hP.cast (q_4.2)
    refine lv_cast q_4.1 ?_
    refine bo_ne (tgt := 26) hx hb dX5_far_16 (by decide) (fun c_5 => ?_) (fun c_5 => ?_)
    · skip
      obtain ⟨n9, hn9a, hn9b, rfl⟩ := inI_nat c_5 rfl rfl (na := 1) (nb := 100) (by decide) (by decide)
      refine lv_aload_n hx hb dX5_far_26 rfl (lv_at hl 0 rfl) ?_
      refine hd_callVv (As := []) (rest := []) ⟨hx, hb, hml, hown, hts⟩ hE hP hS (c_X5_thinks l G u M T h11 h13 (hM).1 tT) rfl (cwV 0 hts gX5_far_X5_thinks rfl rfl rfl (by decide +kernel) ⟨Nat.le_of_ble_eq_true rfl, Nat.le_of_ble_eq_true rfl⟩) (mo_recv hE hP) rfl hl.1 rfl (Nat.le_of_ble_eq_true rfl) dX5_far_27 (fun vq_6 H locs q_6 hP hS => ?_)
      have hP := hP.cast (q_6)
      refine lv_iconst (v := (-1)) hx hb dX5_far_30 (by decide) ?_
      refine lv_istore_n (lv' := [(3, .int (-1)), (0, .ref (gad G 34)), (1, .int (nI q)), (2, .int (nI n9))]) hx hb dX5_far_31 rfl hl (by decide) rfl (fun ls hl => ?_)
      refine lv_sipush (v := 199) hx hb dX5_far_32 (by decide) ?_
      refine lv_istore (lv' := [(4, .int 199), (3, .int (-1)), (0, .ref (gad G 34)), (1, .int (nI q)), (2, .int (nI n9))]) hx hb dX5_far_35 hl (by decide) rfl (fun ls hl => ?_)
      have J37 : ∀ (fu : Nat) (k9 : Nat) (f9 : Int32) (b9 : Int32) (hk : k9 ≤ 200) (hf9 : f9 = fI k9) (hsd : SD9 (fun f => onIn (upd M (5 + 6 * q + 3) (nI f)) q n9) k9 b9) (hrk : k9 < fu) (H : Heap) (locs : List Loc) (ls : Array Slot), WP G (sI u 13 M) H → va_S (gA G) s0.heap H locs → lv_has ls 5 [(0, .ref (gad G 34)), (1, .int (nI q)), (2, .int (nI n9)), (3, .int b9), (4, .int f9)] → W pg l ev (headSpec wsX5_far (rmO 7 160)).room s0 mm ([.ref (gad G 34), .int (nI q), .int (nI n9)] : List Value).toArray below meth cd H locs 0 0 (MQ below (va_Qi (P3 u 11 13 15 (X_far M F (nI q) (nI n9))) (fun v t => WP G v t.heap) (gA G)) ([.ref (gad G 34), .int (nI q), .int (nI n9)] : List Value).toArray s0 0 0 (gA G)) (F0 mm 37 ls []) := by
        intro fu
        induction fu with
        | zero => intro k9 f9 b9 hk hf9 hsd hrk; exact absurd hrk (Nat.not_lt_zero _)
        | succ fu ih37 =>
          intro k9 f9 b9 hk hf9 hsd hrk H locs ls hP hS hl
          refine lv_iload hx hb dX5_far_37 (lv_at hl 4 rfl) ?_
          refine lv_if_lt (tgt := 76) hx hb dX5_far_39 (by decide) (fun c_7 => ?_) (fun c_7 => ?_)
          · skip
            refine lv_aload_n hx hb dX5_far_76 rfl (lv_at hl 0 rfl) ?_
            refine lv_iload_n hx hb dX5_far_77 rfl (lv_at hl 3 rfl) ?_
            refine hd_callVi (As := [.int b9]) (rest := []) ⟨hx, hb, hml, hown, hts⟩ hE hP hS (c_X5_orNone l G (sI u 13 M) F ((sI_ne _ _ (by decide)).trans h15) b9) rfl (cwV 1 hts gX5_far_X5_orNone rfl rfl rfl (by decide +kernel) ⟨Nat.le_of_ble_eq_true rfl, Nat.le_of_ble_eq_true rfl⟩) (mo_recv hE hP) rfl hl.1 rfl (Nat.le_of_ble_eq_true rfl) dX5_far_78 (fun rq_8 vq_8 H locs q_8 hP hS => ?_)
            have hP := hP.cast (q_8.2)
            refine lv_cast q_8.1 ?_
            exact hd_iret hx hb hr hlocks hP hS (P3.of (by rw [X_far, c_2, if_neg (by decide), c_5, if_neg (by decide), nI_clamp (show q < 2 ^ 31 by omega), nI_clamp (show n9 < 2 ^ 31 by omega), ← SD9_end hsd (Or.inl ((fI_lt (by omega)).mp (hf9 ▸ c_7))), orN_eq]) ((sI_ne _ _ (by decide)).trans ((sI_ne _ _ (by decide)).trans h11)) ((sI_ne _ _ (by decide)).trans (sI_at _ _ _)) (sI_at _ _ _) (by decide) (by decide) (by decide) (fun k k0 k1 k6 => ((sI_ne _ _ k6).trans ((sI_ne _ _ k1).trans rfl))) rfl) dX5_far_81
          · skip
            have hk0 : 0 < k9 := Nat.pos_of_ne_zero (fun z => c_7 (hf9 ▸ (fI_lt (by omega)).mpr z))
            have hf2 : f9 = nI (k9 - 1) := hf9.trans (fI_m hk0)
            refine lv_iload_n hx hb dX5_far_42 rfl (lv_at hl 3 rfl) ?_
            refine lv_if_ge (tgt := 76) hx hb dX5_far_43 (by decide) (fun c_9 => ?_) (fun c_9 => ?_)
            · skip
              refine lv_aload_n hx hb dX5_far_76 rfl (lv_at hl 0 rfl) ?_
              refine lv_iload_n hx hb dX5_far_77 rfl (lv_at hl 3 rfl) ?_
              refine hd_callVi (As := [.int b9]) (rest := []) ⟨hx, hb, hml, hown, hts⟩ hE hP hS (c_X5_orNone l G (sI u 13 M) F ((sI_ne _ _ (by decide)).trans h15) b9) rfl (cwV 1 hts gX5_far_X5_orNone rfl rfl rfl (by decide +kernel) ⟨Nat.le_of_ble_eq_true rfl, Nat.le_of_ble_eq_true rfl⟩) (mo_recv hE hP) rfl hl.1 rfl (Nat.le_of_ble_eq_true rfl) dX5_far_78 (fun rq_10 vq_10 H locs q_10 hP hS => ?_)
              have hP := hP.cast (q_10.2)
              refine lv_cast q_10.1 ?_
              exact hd_iret hx hb hr hlocks hP hS (P3.of (by rw [X_far, c_2, if_neg (by decide), c_5, if_neg (by decide), nI_clamp (show q < 2 ^ 31 by omega), nI_clamp (show n9 < 2 ^ 31 by omega), ← SD9_end hsd (Or.inr c_9), orN_eq]) ((sI_ne _ _ (by decide)).trans ((sI_ne _ _ (by decide)).trans h11)) ((sI_ne _ _ (by decide)).trans (sI_at _ _ _)) (sI_at _ _ _) (by decide) (by decide) (by decide) (fun k k0 k1 k6 => ((sI_ne _ _ k6).trans ((sI_ne _ _ k1).trans rfl))) rfl) dX5_far_81
            · skip
              refine lv_aload_n hx hb dX5_far_46 rfl (lv_at hl 0 rfl) ?_
              refine lv_iload_n hx hb dX5_far_47 rfl (lv_at hl 1 rfl) ?_
              refine lv_iconst (v := 3) hx hb dX5_far_48 (by decide) ?_
              refine lv_iload hx hb dX5_far_49 (lv_at hl 4 rfl) ?_
              refine lv_cast hf2 ?_
              refine hd_callVv (As := [.int (nI q), .int 3, .int (nI (k9 - 1))]) (rest := []) ⟨hx, hb, hml, hown, hts⟩ hE hP hS (c_X5_put l G (sI u 13 M) M q 3 (by omega) (by omega) (nI (k9 - 1))) ((sI_id ((sI_ne _ _ (by decide)).trans h11)).symm) (cwV 3 hts gX5_far_X5_put rfl rfl rfl (by decide +kernel) ⟨Nat.le_of_ble_eq_true rfl, Nat.le_of_ble_eq_true rfl⟩) (mo_recv hE hP) rfl hl.1 rfl (Nat.le_of_ble_eq_true rfl) dX5_far_51 (fun vq_11 H locs q_11 hP hS => ?_)
              have hP := hP.cast (q_11)
              refine lv_aload_n hx hb dX5_far_54 rfl (lv_at hl 0 rfl) ?_
              refine lv_iload_n hx hb dX5_far_55 rfl (lv_at hl 1 rfl) ?_
              refine lv_iload_n hx hb dX5_far_56 rfl (lv_at hl 2 rfl) ?_
              refine hd_callVi (As := [.int (nI q), .int (nI n9)]) (rest := []) ⟨hx, hb, hml, hown, hts⟩ hE hP hS (c_X5_isInOn l G (sI (sI u 13 M) 11 (upd M (5 + 6 * q + 3) (nI (k9 - 1)))) (upd M (5 + 6 * q + 3) (nI (k9 - 1))) M (sI_at _ _ _) ((sI_ne _ _ (by decide)).trans (sI_at _ _ _)) (Wf.put hM (w := 3) (by omega) (by decide) (by first | decide | (rw [ti_nI (by omega)]; first | omega | (show _ ≤ hiW _; rw [hiW]; simp; omega))) (by first | decide | (rw [ti_nI (by omega)]; first | omega | (show _ ≤ hiW _; rw [hiW]; simp; omega)))) (hM).1 q n9 (by omega) (by omega)) rfl (cwV 2 hts gX5_far_X5_isInOn rfl rfl rfl (by decide +kernel) ⟨Nat.le_of_ble_eq_true rfl, Nat.le_of_ble_eq_true rfl⟩) (mo_recv hE hP) rfl hl.1 rfl (Nat.le_of_ble_eq_true rfl) dX5_far_57 (fun rq_12 vq_12 H locs q_12 hP hS => ?_)
              obtain ⟨q_12r, q_12v⟩ := q_12
              have hP := hP.cast (q_12v.trans (sI_sI _ _ _ _))
              refine lv_cast q_12r ?_
              refine bo_eq (tgt := 68) hx hb dX5_far_60 (by decide) (fun c_13 => ?_) (fun c_13 => ?_)
              · skip
                refine lv_iconst (v := (-1)) hx hb dX5_far_68 (by decide) ?_
                refine lv_istore_n (lv' := [(3, .int (-1)), (0, .ref (gad G 34)), (1, .int (nI q)), (2, .int (nI n9)), (4, .int f9)]) hx hb dX5_far_69 rfl hl (by decide) rfl (fun ls hl => ?_)
                refine lv_iinc (v := f9 + (-1)) (lv' := [(4, .int (f9 + (-1))), (3, .int (-1)), (0, .ref (gad G 34)), (1, .int (nI q)), (2, .int (nI n9))]) hx hb dX5_far_70 hl (k := 4) rfl rfl (by decide) rfl (fun ls hl => ?_)
                refine lv_goto (tgt := 37) hx hb dX5_far_73 (by decide) ?_
                exact ih37 (k9 - 1) (f9 + (-1)) (-1) (by omega) (by rw [hf9]; exact fI_d hk0) (SD9_miss hsd c_9 hk0 (on_f c_13)) (by omega) _ _ _ (hP.cast (sI_id ((sI_ne _ _ (by decide)).trans h11))) hS (lv_sub hl [2, 3, 4, 1, 0] rfl)
              · skip
                refine lv_iload hx hb dX5_far_63 (lv_at hl 4 rfl) ?_
                refine lv_cast hf2 ?_
                refine lv_goto (tgt := 69) hx hb dX5_far_65 (by decide) ?_
                refine lv_istore_n (lv' := [(3, .int (nI (k9 - 1))), (0, .ref (gad G 34)), (1, .int (nI q)), (2, .int (nI n9)), (4, .int f9)]) hx hb dX5_far_69 rfl hl (by decide) rfl (fun ls hl => ?_)
                refine lv_iinc (v := f9 + (-1)) (lv' := [(4, .int (f9 + (-1))), (3, .int (nI (k9 - 1))), (0, .ref (gad G 34)), (1, .int (nI q)), (2, .int (nI n9))]) hx hb dX5_far_70 hl (k := 4) rfl rfl (by decide) rfl (fun ls hl => ?_)
                refine lv_goto (tgt := 37) hx hb dX5_far_73 (by decide) ?_
                exact ih37 (k9 - 1) (f9 + (-1)) (nI (k9 - 1)) (by omega) (by rw [hf9]; exact fI_d hk0) (SD9_hit hsd c_9 hk0 hk c_13) (by omega) _ _ _ (hP.cast (sI_id ((sI_ne _ _ (by decide)).trans h11))) hS (lv_sub hl [2, 3, 4, 1, 0] rfl)
      exact J37 _ 200 199 (-1) (by omega) (by decide) (Or.inl ⟨rfl, rfl⟩) (Nat.lt_succ_self _) _ _ _ hP hS (lv_sub hl [2, 3, 4, 1, 0] rfl)
    · skip
      refine lv_aload_n hx hb dX5_far_19 rfl (lv_at hl 0 rfl) ?_
      refine lv_ldc (v := (-1000000001)) hx hb hown (hts (.constant RX5 35 ((-1000000001))) (by decide +kernel)) dX5_far_20 ?_
      refine hd_callVi (As := [.int (-1000000001)]) (rest := []) ⟨hx, hb, hml, hown, hts⟩ hE hP hS (c_X5_finds_0 l G u F h15) rfl (cwV 1 hts gX5_far_X5_finds rfl rfl rfl (by decide +kernel) ⟨Nat.le_of_ble_eq_true rfl, Nat.le_of_ble_eq_true rfl⟩) (mo_recv hE hP) rfl hl.1 rfl (Nat.le_of_ble_eq_true rfl) dX5_far_22 (fun rq_14 vq_14 H locs q_14 hP hS => ?_)
      have hP := hP.cast (q_14.2)
      refine lv_cast q_14.1 ?_
      exact hd_iret hx hb hr hlocks hP hS (P3.of (by first | (simp [X_far, bey, bmp, c_2, c_5]; done)) ((sI_ne _ _ (by decide)).trans h11) ((sI_ne _ _ (by decide)).trans h13) (sI_at _ _ _) (by decide) (by decide) (by decide) (fun k k0 k1 k6 => ((sI_ne _ _ k6).trans rfl)) rfl) dX5_far_25
set_option maxHeartbeats 4000000 in
set_option maxRecDepth 100000 in
theorem c_X5_load (l : Launch) (G : Geo) (u : Sg) (M F : Nat → Int32) (h11 : u.1 11 = M) (h15 : u.1 15 = F) (hM : Wf M) (T : Nat → Int32) (h13 : u.1 13 = T) (tT : ∀ k : Nat, 53 ≤ k → T k = 0) (x n : Int32) : CtI l G yX5_load wsX5_load (rmO 7 160) [.ref (gad G 34), .int x, .int n] u (P3 u 11 13 15 (X_load M F x n)) := by
  refine CtI.of (cc := cX5_load) (maxL := 5) (ret := (some .int)) (own := RX5) (by decide) rfl rfl ?_
  rintro pg ev s0 mm below meth cd ⟨hx, hb, hr, hml, hown, hts, hlocks⟩ hE hP ls hl
  have hS : va_S (gA G) s0.heap s0.heap [] := va_S.rf
  have hl : lv_has ls 5 [(0, .ref (gad G 34)), (1, .int x), (2, .int n)] := hl
  have hn := hM.n
  have h8 := hM.n8
  refine lv_aload_n hx hb dX5_load_0 rfl (lv_at hl 0 rfl) ?_
  refine lv_iload_n hx hb dX5_load_1 rfl (lv_at hl 1 rfl) ?_
  refine hd_callVi (As := [.int x]) (rest := []) ⟨hx, hb, hml, hown, hts⟩ hE hP hS (c_X5_isPerson l G u M h11 x) rfl (cwV 1 hts gX5_load_X5_isPerson rfl rfl rfl (by decide +kernel) ⟨Nat.le_of_ble_eq_true rfl, Nat.le_of_ble_eq_true rfl⟩) (mo_recv hE hP) rfl hl.1 rfl (Nat.le_of_ble_eq_true rfl) dX5_load_2 (fun rq_1 vq_1 H locs q_1 hP hS => ?_)
  have hP := hP.cast (q_1.2)
  refine lv_cast q_1.1 ?_
  refine bo_eq (tgt := 19) hx hb dX5_load_5 (by decide) (fun c_2 => ?_) (fun c_2 => ?_)
  · skip
    refine lv_aload_n hx hb dX5_load_19 rfl (lv_at hl 0 rfl) ?_
    refine lv_ldc (v := (-1000000001)) hx hb hown (hts (.constant RX5 35 ((-1000000001))) (by decide +kernel)) dX5_load_20 ?_
    refine hd_callVi (As := [.int (-1000000001)]) (rest := []) ⟨hx, hb, hml, hown, hts⟩ hE hP hS (c_X5_finds_0 l G u F h15) rfl (cwV 1 hts gX5_load_X5_finds rfl rfl rfl (by decide +kernel) ⟨Nat.le_of_ble_eq_true rfl, Nat.le_of_ble_eq_true rfl⟩) (mo_recv hE hP) rfl hl.1 rfl (Nat.le_of_ble_eq_true rfl) dX5_load_22 (fun rq_3 vq_3 H locs q_3 hP hS => ?_)
    have hP := hP.cast (q_3.2)
    refine lv_cast q_3.1 ?_
    exact hd_iret hx hb hr hlocks hP hS (P3.of (by first | (simp [X_load, bey, bmp, c_2]; done)) ((sI_ne _ _ (by decide)).trans h11) ((sI_ne _ _ (by decide)).trans h13) (sI_at _ _ _) (by decide) (by decide) (by decide) (fun k k0 k1 k6 => ((sI_ne _ _ k6).trans rfl)) rfl) dX5_load_25
  · skip
    obtain ⟨q, hq, rfl⟩ := pe_get hM c_2
    refine lv_iload_n hx hb dX5_load_8 rfl (lv_at hl 2 rfl) ?_
    refine lv_i2l hx hb dX5_load_9 rfl ?_
    refine lv_iconst (v := 1) hx hb dX5_load_10 (by decide) ?_
    refine lv_bipush (v := 100) hx hb dX5_load_11 (by decide) ?_
    refine hd_callSi (As := [.long n.toInt64, .int 1, .int 100]) (rest := []) ⟨hx, hb, hml, hown, hts⟩ hE hP hS (c_X5_inI l G u n 1 100) rfl (va_cwS 3 hts gX5_load_X5_in rfl rfl rfl (by decide +kernel) ⟨Nat.le_of_ble_eq_true rfl, Nat.le_of_ble_eq_true rfl⟩) rfl hl.1 rfl (Nat.le_of_ble_eq_true rfl) dX5_load_13 (fun rq_4 vq_4 H locs q_4 hP hS => ?_)
    have hP := hP.cast (q_4.2)
    refine lv_cast q_4.1 ?_
    refine bo_ne (tgt := 26) hx hb dX5_load_16 (by decide) (fun c_5 => ?_) (fun c_5 => ?_)
    · skip
      obtain ⟨n9, hn9a, hn9b, rfl⟩ := inI_nat c_5 rfl rfl (na := 1) (nb := 100) (by decide) (by decide)
      refine lv_aload_n hx hb dX5_load_26 rfl (lv_at hl 0 rfl) ?_
      refine hd_callVv (As := []) (rest := []) ⟨hx, hb, hml, hown, hts⟩ hE hP hS (c_X5_thinks l G u M T h11 h13 (hM).1 tT) rfl (cwV 0 hts gX5_load_X5_thinks rfl rfl rfl (by decide +kernel) ⟨Nat.le_of_ble_eq_true rfl, Nat.le_of_ble_eq_true rfl⟩) (mo_recv hE hP) rfl hl.1 rfl (Nat.le_of_ble_eq_true rfl) dX5_load_27 (fun vq_6 H locs q_6 hP hS => ?_)
      have hP := hP.cast (q_6)
      refine lv_iconst (v := (-1)) hx hb dX5_load_30 (by decide) ?_
      refine lv_istore_n (lv' := [(3, .int (-1)), (0, .ref (gad G 34)), (1, .int (nI q)), (2, .int (nI n9))]) hx hb dX5_load_31 rfl hl (by decide) rfl (fun ls hl => ?_)
      refine lv_iconst (v := 0) hx hb dX5_load_32 (by decide) ?_
      refine lv_istore (lv' := [(4, .int 0), (3, .int (-1)), (0, .ref (gad G 34)), (1, .int (nI q)), (2, .int (nI n9))]) hx hb dX5_load_33 hl (by decide) rfl (fun ls hl => ?_)
      have J35 : ∀ (fu : Nat) (c9 : Nat) (b9 : Int32) (hc : c9 ≤ 10) (hsi : SI9 (fun f => onIn (upd M (5 + 6 * q + 2) (nI f)) q n9) 10 c9 b9) (hrk : 10 - c9 < fu) (H : Heap) (locs : List Loc) (ls : Array Slot), WP G (sI u 13 M) H → va_S (gA G) s0.heap H locs → lv_has ls 5 [(0, .ref (gad G 34)), (1, .int (nI q)), (2, .int (nI n9)), (3, .int b9), (4, .int (nI c9))] → W pg l ev (headSpec wsX5_load (rmO 7 160)).room s0 mm ([.ref (gad G 34), .int (nI q), .int (nI n9)] : List Value).toArray below meth cd H locs 0 0 (MQ below (va_Qi (P3 u 11 13 15 (X_load M F (nI q) (nI n9))) (fun v t => WP G v t.heap) (gA G)) ([.ref (gad G 34), .int (nI q), .int (nI n9)] : List Value).toArray s0 0 0 (gA G)) (F0 mm 35 ls []) := by
        intro fu
        induction fu with
        | zero => intro c9 b9 hc hsi hrk; exact absurd hrk (Nat.not_lt_zero _)
        | succ fu ih35 =>
          intro c9 b9 hc hsi hrk H locs ls hP hS hl
          refine lv_iload hx hb dX5_load_35 (lv_at hl 4 rfl) ?_
          refine lv_bipush (v := 9) hx hb dX5_load_37 (by decide) ?_
          refine nn_gt (a := c9) (b := 9) (by omega) (by omega) (tgt := 76) hx hb dX5_load_39 (by decide) (fun c_7 => ?_) (fun c_7 => ?_)
          · skip
            refine lv_aload_n hx hb dX5_load_76 rfl (lv_at hl 0 rfl) ?_
            refine lv_iload_n hx hb dX5_load_77 rfl (lv_at hl 3 rfl) ?_
            refine hd_callVi (As := [.int b9]) (rest := []) ⟨hx, hb, hml, hown, hts⟩ hE hP hS (c_X5_orNone l G (sI u 13 M) F ((sI_ne _ _ (by decide)).trans h15) b9) rfl (cwV 1 hts gX5_load_X5_orNone rfl rfl rfl (by decide +kernel) ⟨Nat.le_of_ble_eq_true rfl, Nat.le_of_ble_eq_true rfl⟩) (mo_recv hE hP) rfl hl.1 rfl (Nat.le_of_ble_eq_true rfl) dX5_load_78 (fun rq_8 vq_8 H locs q_8 hP hS => ?_)
            have hP := hP.cast (q_8.2)
            refine lv_cast q_8.1 ?_
            exact hd_iret hx hb hr hlocks hP hS (P3.of (by rw [X_load, c_2, if_neg (by decide), c_5, if_neg (by decide), nI_clamp (show q < 2 ^ 31 by omega), nI_clamp (show n9 < 2 ^ 31 by omega), ← SI9_end hsi (Or.inl (by omega)), orN_eq]) ((sI_ne _ _ (by decide)).trans ((sI_ne _ _ (by decide)).trans h11)) ((sI_ne _ _ (by decide)).trans (sI_at _ _ _)) (sI_at _ _ _) (by decide) (by decide) (by decide) (fun k k0 k1 k6 => ((sI_ne _ _ k6).trans ((sI_ne _ _ k1).trans rfl))) rfl) dX5_load_81
          · skip
            refine lv_iload_n hx hb dX5_load_42 rfl (lv_at hl 3 rfl) ?_
            refine lv_if_ge (tgt := 76) hx hb dX5_load_43 (by decide) (fun c_9 => ?_) (fun c_9 => ?_)
            · skip
              refine lv_aload_n hx hb dX5_load_76 rfl (lv_at hl 0 rfl) ?_
              refine lv_iload_n hx hb dX5_load_77 rfl (lv_at hl 3 rfl) ?_
              refine hd_callVi (As := [.int b9]) (rest := []) ⟨hx, hb, hml, hown, hts⟩ hE hP hS (c_X5_orNone l G (sI u 13 M) F ((sI_ne _ _ (by decide)).trans h15) b9) rfl (cwV 1 hts gX5_load_X5_orNone rfl rfl rfl (by decide +kernel) ⟨Nat.le_of_ble_eq_true rfl, Nat.le_of_ble_eq_true rfl⟩) (mo_recv hE hP) rfl hl.1 rfl (Nat.le_of_ble_eq_true rfl) dX5_load_78 (fun rq_10 vq_10 H locs q_10 hP hS => ?_)
              have hP := hP.cast (q_10.2)
              refine lv_cast q_10.1 ?_
              exact hd_iret hx hb hr hlocks hP hS (P3.of (by rw [X_load, c_2, if_neg (by decide), c_5, if_neg (by decide), nI_clamp (show q < 2 ^ 31 by omega), nI_clamp (show n9 < 2 ^ 31 by omega), ← SI9_end hsi (Or.inr c_9), orN_eq]) ((sI_ne _ _ (by decide)).trans ((sI_ne _ _ (by decide)).trans h11)) ((sI_ne _ _ (by decide)).trans (sI_at _ _ _)) (sI_at _ _ _) (by decide) (by decide) (by decide) (fun k k0 k1 k6 => ((sI_ne _ _ k6).trans ((sI_ne _ _ k1).trans rfl))) rfl) dX5_load_81
            · skip
              refine lv_aload_n hx hb dX5_load_46 rfl (lv_at hl 0 rfl) ?_
              refine lv_iload_n hx hb dX5_load_47 rfl (lv_at hl 1 rfl) ?_
              refine lv_iconst (v := 2) hx hb dX5_load_48 (by decide) ?_
              refine lv_iload hx hb dX5_load_49 (lv_at hl 4 rfl) ?_
              refine hd_callVv (As := [.int (nI q), .int 2, .int (nI c9)]) (rest := []) ⟨hx, hb, hml, hown, hts⟩ hE hP hS (c_X5_put l G (sI u 13 M) M q 2 (by omega) (by omega) (nI c9)) ((sI_id ((sI_ne _ _ (by decide)).trans h11)).symm) (cwV 3 hts gX5_load_X5_put rfl rfl rfl (by decide +kernel) ⟨Nat.le_of_ble_eq_true rfl, Nat.le_of_ble_eq_true rfl⟩) (mo_recv hE hP) rfl hl.1 rfl (Nat.le_of_ble_eq_true rfl) dX5_load_51 (fun vq_11 H locs q_11 hP hS => ?_)
              have hP := hP.cast (q_11)
              refine lv_aload_n hx hb dX5_load_54 rfl (lv_at hl 0 rfl) ?_
              refine lv_iload_n hx hb dX5_load_55 rfl (lv_at hl 1 rfl) ?_
              refine lv_iload_n hx hb dX5_load_56 rfl (lv_at hl 2 rfl) ?_
              refine hd_callVi (As := [.int (nI q), .int (nI n9)]) (rest := []) ⟨hx, hb, hml, hown, hts⟩ hE hP hS (c_X5_isInOn l G (sI (sI u 13 M) 11 (upd M (5 + 6 * q + 2) (nI c9))) (upd M (5 + 6 * q + 2) (nI c9)) M (sI_at _ _ _) ((sI_ne _ _ (by decide)).trans (sI_at _ _ _)) (Wf.put hM (w := 2) (by omega) (by decide) (by first | decide | (rw [ti_nI (by omega)]; first | omega | (show _ ≤ hiW _; rw [hiW]; simp; omega))) (by first | decide | (rw [ti_nI (by omega)]; first | omega | (show _ ≤ hiW _; rw [hiW]; simp; omega)))) (hM).1 q n9 (by omega) (by omega)) rfl (cwV 2 hts gX5_load_X5_isInOn rfl rfl rfl (by decide +kernel) ⟨Nat.le_of_ble_eq_true rfl, Nat.le_of_ble_eq_true rfl⟩) (mo_recv hE hP) rfl hl.1 rfl (Nat.le_of_ble_eq_true rfl) dX5_load_57 (fun rq_12 vq_12 H locs q_12 hP hS => ?_)
              obtain ⟨q_12r, q_12v⟩ := q_12
              have hP := hP.cast (q_12v.trans (sI_sI _ _ _ _))
              refine lv_cast q_12r ?_
              refine bo_eq (tgt := 68) hx hb dX5_load_60 (by decide) (fun c_13 => ?_) (fun c_13 => ?_)
              · skip
                refine lv_iconst (v := (-1)) hx hb dX5_load_68 (by decide) ?_
                refine lv_istore_n (lv' := [(3, .int (-1)), (0, .ref (gad G 34)), (1, .int (nI q)), (2, .int (nI n9)), (4, .int (nI c9))]) hx hb dX5_load_69 rfl hl (by decide) rfl (fun ls hl => ?_)
                refine lv_iinc (v := nI (c9 + 1)) (lv' := [(4, .int (nI (c9 + 1))), (3, .int (-1)), (0, .ref (gad G 34)), (1, .int (nI q)), (2, .int (nI n9))]) hx hb dX5_load_70 hl (k := 4) rfl (inc1 _) (by decide) rfl (fun ls hl => ?_)
                refine lv_goto (tgt := 35) hx hb dX5_load_73 (by decide) ?_
                exact ih35 (c9 + 1) (-1) (by omega) (SI9_miss hsi c_9 (by omega) (on_f c_13)) (by omega) _ _ _ (hP.cast (sI_id ((sI_ne _ _ (by decide)).trans h11))) hS (lv_sub hl [2, 3, 4, 1, 0] rfl)
              · skip
                refine lv_iload hx hb dX5_load_63 (lv_at hl 4 rfl) ?_
                refine lv_goto (tgt := 69) hx hb dX5_load_65 (by decide) ?_
                refine lv_istore_n (lv' := [(3, .int (nI c9)), (0, .ref (gad G 34)), (1, .int (nI q)), (2, .int (nI n9)), (4, .int (nI c9))]) hx hb dX5_load_69 rfl hl (by decide) rfl (fun ls hl => ?_)
                refine lv_iinc (v := nI (c9 + 1)) (lv' := [(4, .int (nI (c9 + 1))), (3, .int (nI c9)), (0, .ref (gad G 34)), (1, .int (nI q)), (2, .int (nI n9))]) hx hb dX5_load_70 hl (k := 4) rfl (inc1 _) (by decide) rfl (fun ls hl => ?_)
                refine lv_goto (tgt := 35) hx hb dX5_load_73 (by decide) ?_
                exact ih35 (c9 + 1) (nI c9) (by omega) (SI9_hit hsi c_9 (by omega) (by decide) c_13) (by omega) _ _ _ (hP.cast (sI_id ((sI_ne _ _ (by decide)).trans h11))) hS (lv_sub hl [2, 3, 4, 1, 0] rfl)
      exact J35 _ 0 (-1) (by omega) (SI9_0 _ _) (Nat.lt_succ_self _) _ _ _ hP hS (lv_sub hl [2, 3, 4, 1, 0] rfl)
    · skip
      refine lv_aload_n hx hb dX5_load_19 rfl (lv_at hl 0 rfl) ?_
      refine lv_ldc (v := (-1000000001)) hx hb hown (hts (.constant RX5 35 ((-1000000001))) (by decide +kernel)) dX5_load_20 ?_
      refine hd_callVi (As := [.int (-1000000001)]) (rest := []) ⟨hx, hb, hml, hown, hts⟩ hE hP hS (c_X5_finds_0 l G u F h15) rfl (cwV 1 hts gX5_load_X5_finds rfl rfl rfl (by decide +kernel) ⟨Nat.le_of_ble_eq_true rfl, Nat.le_of_ble_eq_true rfl⟩) (mo_recv hE hP) rfl hl.1 rfl (Nat.le_of_ble_eq_true rfl) dX5_load_22 (fun rq_14 vq_14 H locs q_14 hP hS => ?_)
      have hP := hP.cast (q_14.2)
      refine lv_cast q_14.1 ?_
      exact hd_iret hx hb hr hlocks hP hS (P3.of (by first | (simp [X_load, bey, bmp, c_2, c_5]; done)) ((sI_ne _ _ (by decide)).trans h11) ((sI_ne _ _ (by decide)).trans h13) (sI_at _ _ _) (by decide) (by decide) (by decide) (fun k k0 k1 k6 => ((sI_ne _ _ k6).trans rfl)) rfl) dX5_load_25
set_option maxHeartbeats 4000000 in
set_option maxRecDepth 100000 in
theorem c_X5_take (l : Launch) (G : Geo) (u : Sg) (M F : Nat → Int32) (h11 : u.1 11 = M) (h15 : u.1 15 = F) (hM : Wf M) (T : Nat → Int32) (h13 : u.1 13 = T) (tT : ∀ k : Nat, 53 ≤ k → T k = 0) (n : Int32) : CtI l G yX5_take wsX5_take (rmO 6 137) [.ref (gad G 34), .int n] u (P3 u 11 13 15 (X_take M F n)) := by
  refine CtI.of (cc := cX5_take) (maxL := 6) (ret := (some .int)) (own := RX5) (by decide) rfl rfl ?_
  rintro pg ev s0 mm below meth cd ⟨hx, hb, hr, hml, hown, hts, hlocks⟩ hE hP ls hl
  have hS : va_S (gA G) s0.heap s0.heap [] := va_S.rf
  have hl : lv_has ls 6 [(0, .ref (gad G 34)), (1, .int n)] := hl
  have hin5 : ∀ w ∈ wsX50, w ∈ wsX5_take := by decide +kernel
  have hn := hM.n
  have h8 := hM.n8
  refine lv_iload_n hx hb dX5_take_0 rfl (lv_at hl 1 rfl) ?_
  refine lv_i2l hx hb dX5_take_1 rfl ?_
  refine lv_iconst (v := 1) hx hb dX5_take_2 (by decide) ?_
  refine lv_bipush (v := 100) hx hb dX5_take_3 (by decide) ?_
  refine hd_callSi (As := [.long n.toInt64, .int 1, .int 100]) (rest := []) ⟨hx, hb, hml, hown, hts⟩ hE hP hS (c_X5_inI l G u n 1 100) rfl (va_cwS 3 hts gX5_take_X5_in rfl rfl rfl (by decide +kernel) ⟨Nat.le_of_ble_eq_true rfl, Nat.le_of_ble_eq_true rfl⟩) rfl hl.1 rfl (Nat.le_of_ble_eq_true rfl) dX5_take_5 (fun rq_1 vq_1 H locs q_1 hP hS => ?_)
  have hP := hP.cast (q_1.2)
  refine lv_cast q_1.1 ?_
  refine bo_ne (tgt := 18) hx hb dX5_take_8 (by decide) (fun c_2 => ?_) (fun c_2 => ?_)
  · skip
    obtain ⟨n9, hn9a, hn9b, rfl⟩ := inI_nat c_2 rfl rfl (na := 1) (nb := 100) (by decide) (by decide)
    refine lv_aload_n hx hb dX5_take_18 rfl (lv_at hl 0 rfl) ?_
    refine hd_callVv (As := []) (rest := []) ⟨hx, hb, hml, hown, hts⟩ hE hP hS (c_X5_thinks l G u M T h11 h13 (hM).1 tT) rfl (cwV 0 hts gX5_take_X5_thinks rfl rfl rfl (by decide +kernel) ⟨Nat.le_of_ble_eq_true rfl, Nat.le_of_ble_eq_true rfl⟩) (mo_recv hE hP) rfl hl.1 rfl (Nat.le_of_ble_eq_true rfl) dX5_take_19 (fun vq_3 H locs q_3 hP hS => ?_)
    have hP := hP.cast (q_3)
    refine lv_iconst (v := (-1)) hx hb dX5_take_22 (by decide) ?_
    refine lv_istore_n (lv' := [(2, .int (-1)), (0, .ref (gad G 34)), (1, .int (nI n9))]) hx hb dX5_take_23 rfl hl (by decide) rfl (fun ls hl => ?_)
    refine lv_bipush (v := 9) hx hb dX5_take_24 (by decide) ?_
    refine lv_istore_n (lv' := [(3, .int 9), (2, .int (-1)), (0, .ref (gad G 34)), (1, .int (nI n9))]) hx hb dX5_take_26 rfl hl (by decide) rfl (fun ls hl => ?_)
    refine lv_iconst (v := 0) hx hb dX5_take_27 (by decide) ?_
    refine lv_istore (lv' := [(4, .int 0), (3, .int 9), (2, .int (-1)), (0, .ref (gad G 34)), (1, .int (nI n9))]) hx hb dX5_take_28 hl (by decide) rfl (fun ls hl => ?_)
    have J30 : ∀ (fu : Nat) (p9 : Nat) (b9 : Int32) (l9 : Int32) (hp : p9 ≤ nP M) (hbb : (b9, l9) = tkN M n9 p9) (hrk : nP M - p9 < fu) (H : Heap) (locs : List Loc) (ls : Array Slot), WP G (sI u 13 M) H → va_S (gA G) s0.heap H locs → lv_has ls 6 [(0, .ref (gad G 34)), (1, .int (nI n9)), (2, .int b9), (3, .int l9), (4, .int (nI p9))] → W pg l ev (headSpec wsX5_take (rmO 6 137)).room s0 mm ([.ref (gad G 34), .int (nI n9)] : List Value).toArray below meth cd H locs 0 0 (MQ below (va_Qi (P3 u 11 13 15 (X_take M F (nI n9))) (fun v t => WP G v t.heap) (gA G)) ([.ref (gad G 34), .int (nI n9)] : List Value).toArray s0 0 0 (gA G)) (F0 mm 30 ls []) := by
      intro fu
      induction fu with
      | zero => intro p9 b9 l9 hp hbb hrk; exact absurd hrk (Nat.not_lt_zero _)
      | succ fu ih30 =>
        intro p9 b9 l9 hp hbb hrk H locs ls hP hS hl
        refine lv_iload hx hb dX5_take_30 (lv_at hl 4 rfl) ?_
        refine lv_aload_n hx hb dX5_take_32 rfl (lv_at hl 0 rfl) ?_
        refine mo_get hx hb hts hin5 hown hE hP ((sI_ne _ _ (by decide)).trans rfl) 0 (by decide) (hts (.fieldLink RX5 9 "HeldDoorModel" "m" "[I") (by decide +kernel)) (v := .ref (gad G 35)) rfl dX5_take_33 ?_
        refine lv_iconst (v := 4) hx hb dX5_take_36 (by decide) ?_
        refine ar_ld hx hb hE hP 35 53 (by decide) (ar_at35 ((sI_ne _ _ (by decide)).trans h11)) 4 (by omega) dX5_take_37 ?_
        refine lv_cast hn ?_
        refine nn_ge (a := p9) (b := nP M) (by omega) (by omega) (tgt := 110) hx hb dX5_take_38 (by decide) (fun c_4 => ?_) (fun c_4 => ?_)
        · skip
          refine lv_aload_n hx hb dX5_take_110 rfl (lv_at hl 0 rfl) ?_
          refine lv_iload_n hx hb dX5_take_111 rfl (lv_at hl 2 rfl) ?_
          refine hd_callVi (As := [.int b9]) (rest := []) ⟨hx, hb, hml, hown, hts⟩ hE hP hS (c_X5_orNone l G (sI u 13 M) F ((sI_ne _ _ (by decide)).trans h15) b9) rfl (cwV 1 hts gX5_take_X5_orNone rfl rfl rfl (by decide +kernel) ⟨Nat.le_of_ble_eq_true rfl, Nat.le_of_ble_eq_true rfl⟩) (mo_recv hE hP) rfl hl.1 rfl (Nat.le_of_ble_eq_true rfl) dX5_take_112 (fun rq_5 vq_5 H locs q_5 hP hS => ?_)
          have hP := hP.cast (q_5.2)
          refine lv_cast q_5.1 ?_
          exact hd_iret hx hb hr hlocks hP hS (P3.of (by rw [X_take, c_2, if_neg (by decide), nI_clamp (show n9 < 2 ^ 31 by omega), show nP M = p9 by omega, ← hbb, orN_eq]) ((sI_ne _ _ (by decide)).trans ((sI_ne _ _ (by decide)).trans h11)) ((sI_ne _ _ (by decide)).trans (sI_at _ _ _)) (sI_at _ _ _) (by decide) (by decide) (by decide) (fun k k0 k1 k6 => ((sI_ne _ _ k6).trans ((sI_ne _ _ k1).trans rfl))) rfl) dX5_take_115
        · skip
          refine lv_aload_n hx hb dX5_take_41 rfl (lv_at hl 0 rfl) ?_
          refine lv_iload hx hb dX5_take_42 (lv_at hl 4 rfl) ?_
          refine lv_iconst (v := 1) hx hb dX5_take_44 (by decide) ?_
          refine hd_callVi (As := [.int (nI p9), .int 1]) (rest := []) ⟨hx, hb, hml, hown, hts⟩ hE hP hS (c_X5_it l G (sI u 13 M) M p9 1 (by omega) (by omega)) ((sI_id ((sI_ne _ _ (by decide)).trans h11)).symm) (cwV 2 hts gX5_take_X5_it rfl rfl rfl (by decide +kernel) ⟨Nat.le_of_ble_eq_true rfl, Nat.le_of_ble_eq_true rfl⟩) (mo_recv hE hP) rfl hl.1 rfl (Nat.le_of_ble_eq_true rfl) dX5_take_45 (fun rq_6 vq_6 H locs q_6 hP hS => ?_)
          have hP := hP.cast (q_6.2.trans ((sI_id ((sI_ne _ _ (by decide)).trans h11)).symm).symm)
          refine lv_cast q_6.1 ?_
          refine lv_iconst (v := 1) hx hb dX5_take_48 (by decide) ?_
          refine lv_icmp_ne (tgt := 104) hx hb dX5_take_49 (by decide) (fun c_7 => ?_) (fun c_7 => ?_)
          · skip
            refine lv_iinc (v := nI (p9 + 1)) (lv' := [(4, .int (nI (p9 + 1))), (0, .ref (gad G 34)), (1, .int (nI n9)), (2, .int b9), (3, .int l9)]) hx hb dX5_take_104 hl (k := 4) rfl (inc1 _) (by decide) rfl (fun ls hl => ?_)
            refine lv_goto (tgt := 30) hx hb dX5_take_107 (by decide) ?_
            exact ih30 (p9 + 1) b9 l9 (by omega) (by rw [tkN, if_neg c_7]; exact hbb) (by omega) _ _ _ hP hS (lv_sub hl [1, 2, 3, 4, 0] rfl)
          · skip
            refine lv_aload_n hx hb dX5_take_52 rfl (lv_at hl 0 rfl) ?_
            refine lv_iload hx hb dX5_take_53 (lv_at hl 4 rfl) ?_
            refine lv_iconst (v := 1) hx hb dX5_take_55 (by decide) ?_
            refine lv_iconst (v := 0) hx hb dX5_take_56 (by decide) ?_
            refine hd_callVv (As := [.int (nI p9), .int 1, .int 0]) (rest := []) ⟨hx, hb, hml, hown, hts⟩ hE hP hS (c_X5_put l G (sI u 13 M) M p9 1 (by omega) (by omega) 0) ((sI_id ((sI_ne _ _ (by decide)).trans h11)).symm) (cwV 3 hts gX5_take_X5_put rfl rfl rfl (by decide +kernel) ⟨Nat.le_of_ble_eq_true rfl, Nat.le_of_ble_eq_true rfl⟩) (mo_recv hE hP) rfl hl.1 rfl (Nat.le_of_ble_eq_true rfl) dX5_take_57 (fun vq_8 H locs q_8 hP hS => ?_)
            have hP := hP.cast (q_8)
            refine lv_aload_n hx hb dX5_take_60 rfl (lv_at hl 0 rfl) ?_
            refine lv_iload_n hx hb dX5_take_61 rfl (lv_at hl 1 rfl) ?_
            refine hd_callVv (As := [.int (nI n9)]) (rest := []) ⟨hx, hb, hml, hown, hts⟩ hE hP hS (c_X5_goesFor l G (sI u 13 M) (upd M (5 + 6 * p9 + 1) 0) (Wf.put hM (w := 1) (by omega) (by decide) (by first | decide | (rw [ti_nI (by omega)]; first | omega | (show _ ≤ hiW _; rw [hiW]; simp; omega))) (by first | decide | (rw [ti_nI (by omega)]; first | omega | (show _ ≤ hiW _; rw [hiW]; simp; omega)))) n9 (by omega)) rfl (cwV 1 hts gX5_take_X5_goesFor rfl rfl rfl (by decide +kernel) ⟨Nat.le_of_ble_eq_true rfl, Nat.le_of_ble_eq_true rfl⟩) (mo_recv hE hP) rfl hl.1 rfl (Nat.le_of_ble_eq_true rfl) dX5_take_62 (fun vq_9 H locs q_9 hP hS => ?_)
            have hP := hP.cast (q_9)
            refine lv_aload_n hx hb dX5_take_65 rfl (lv_at hl 0 rfl) ?_
            refine hd_callVi (As := []) (rest := []) ⟨hx, hb, hml, hown, hts⟩ hE hP hS (c_X5_inside l G (sI u 13 M) (goN (upd M (5 + 6 * p9 + 1) 0) n9) (Wf_goN (Wf.put hM (w := 1) (by omega) (by decide) (by first | decide | (rw [ti_nI (by omega)]; first | omega | (show _ ≤ hiW _; rw [hiW]; simp; omega))) (by first | decide | (rw [ti_nI (by omega)]; first | omega | (show _ ≤ hiW _; rw [hiW]; simp; omega)))) _)) rfl (cwV 0 hts gX5_take_X5_inside rfl rfl rfl (by decide +kernel) ⟨Nat.le_of_ble_eq_true rfl, Nat.le_of_ble_eq_true rfl⟩) (mo_recv hE hP) rfl hl.1 rfl (Nat.le_of_ble_eq_true rfl) dX5_take_66 (fun rq_10 vq_10 H locs q_10 hP hS => ?_)
            have hP := hP.cast (q_10.2)
            refine lv_cast q_10.1 ?_
            have hWt : Wf (goN (upd M (5 + 6 * p9 + 1) 0) n9) := (Wf_goN (Wf.put hM (w := 1) (by omega) (by decide) (by first | decide | (rw [ti_nI (by omega)]; first | omega | (show _ ≤ hiW _; rw [hiW]; simp; omega))) (by first | decide | (rw [ti_nI (by omega)]; first | omega | (show _ ≤ hiW _; rw [hiW]; simp; omega)))) _)
            have hnt : nP (goN (upd M (5 + 6 * p9 + 1) 0) n9) = nP M := nP_take M p9 n9
            obtain ⟨k8, hk1, hk2⟩ := inS_256 hWt hWt.n8
            refine lv_cast hk2 ?_
            refine hd_callSi (As := [.int (nI k8)]) (rest := []) ⟨hx, hb, hml, hown, hts⟩ hE hP hS (c_X5_bits l G (sI (sI u 13 M) 11 (goN (upd M (5 + 6 * p9 + 1) 0) n9)) k8 (by omega)) rfl (va_cwS 1 hts gX5_take_X5_bits rfl rfl rfl (by decide +kernel) ⟨Nat.le_of_ble_eq_true rfl, Nat.le_of_ble_eq_true rfl⟩) rfl hl.1 rfl (Nat.le_of_ble_eq_true rfl) dX5_take_69 (fun rq_11 vq_11 H locs q_11 hP hS => ?_)
            have hP := hP.cast (q_11.2)
            refine lv_cast q_11.1 ?_
            refine lv_istore (lv' := [(5, .int (bitC (nI k8))), (0, .ref (gad G 34)), (1, .int (nI n9)), (2, .int b9), (3, .int l9), (4, .int (nI p9))]) hx hb dX5_take_72 hl (by decide) rfl (fun ls hl => ?_)
            refine lv_aload_n hx hb dX5_take_74 rfl (lv_at hl 1 rfl) ?_
            refine hd_callVv (As := []) (rest := []) ⟨hx, hb, hml, hown, hts⟩ hE hP hS (c_X5_putsBack l G (sI (sI u 13 M) 11 (goN (upd M (5 + 6 * p9 + 1) 0) n9)) M (goN (upd M (5 + 6 * p9 + 1) 0) n9) ((sI_ne _ _ (by decide)).trans (sI_at _ _ _)) (sI_at _ _ _) (hM).1 ((Wf_goN (Wf.put hM (w := 1) (by omega) (by decide) (by first | decide | (rw [ti_nI (by omega)]; first | omega | (show _ ≤ hiW _; rw [hiW]; simp; omega))) (by first | decide | (rw [ti_nI (by omega)]; first | omega | (show _ ≤ hiW _; rw [hiW]; simp; omega)))) _)).1) rfl (cwV 0 hts gX5_take_X5_putsBack rfl rfl rfl (by decide +kernel) ⟨Nat.le_of_ble_eq_true rfl, Nat.le_of_ble_eq_true rfl⟩) (mo_recv hE hP) rfl hl.1 rfl (Nat.le_of_ble_eq_true rfl) dX5_take_75 (fun vq_12 H locs q_12 hP hS => ?_)
            have q_12v := q_12
            have hP := hP.cast (q_12v.trans (sI_sI _ _ _ _))
            refine lv_iload hx hb dX5_take_78 (lv_at hl 0 rfl) ?_
            refine lv_iload_n hx hb dX5_take_80 rfl (lv_at hl 4 rfl) ?_
            refine lv_icmp_ge (tgt := 89) hx hb dX5_take_81 (by decide) (fun c_13 => ?_) (fun c_13 => ?_)
            · skip
              refine lv_iload_n hx hb dX5_take_89 rfl (lv_at hl 3 rfl) ?_
              refine lv_istore_n (lv' := [(2, .int b9), (5, .int (bitC (nI k8))), (0, .ref (gad G 34)), (1, .int (nI n9)), (3, .int l9), (4, .int (nI p9))]) hx hb dX5_take_90 rfl hl (by decide) rfl (fun ls hl => ?_)
              refine lv_iload hx hb dX5_take_91 (lv_at hl 1 rfl) ?_
              refine lv_iload_n hx hb dX5_take_93 rfl (lv_at hl 4 rfl) ?_
              refine lv_icmp_ge (tgt := 102) hx hb dX5_take_94 (by decide) (fun c_14 => ?_) (fun c_14 => ?_)
              · skip
                refine lv_iload_n hx hb dX5_take_102 rfl (lv_at hl 4 rfl) ?_
                refine lv_istore_n (lv' := [(3, .int l9), (2, .int b9), (5, .int (bitC (nI k8))), (0, .ref (gad G 34)), (1, .int (nI n9)), (4, .int (nI p9))]) hx hb dX5_take_103 rfl hl (by decide) rfl (fun ls hl => ?_)
                refine lv_iinc (v := nI (p9 + 1)) (lv' := [(4, .int (nI (p9 + 1))), (3, .int l9), (2, .int b9), (5, .int (bitC (nI k8))), (0, .ref (gad G 34)), (1, .int (nI n9))]) hx hb dX5_take_104 hl (k := 5) rfl (inc1 _) (by decide) rfl (fun ls hl => ?_)
                refine lv_goto (tgt := 30) hx hb dX5_take_107 (by decide) ?_
                exact ih30 (p9 + 1) b9 l9 (by omega) (by rw [tkN, if_pos c_7, bst, ← hbb, smN_bit hWt (hnt ▸ hWt.n8), ← hnt, hk2, if_neg (Int32.not_lt.mpr c_13)]) (by omega) _ _ _ (hP.cast (sI_id ((sI_ne _ _ (by decide)).trans h11))) hS (lv_sub hl [4, 5, 2, 1, 0] rfl)
              · skip
                refine lv_iload hx hb dX5_take_97 (lv_at hl 1 rfl) ?_
                refine lv_goto (tgt := 103) hx hb dX5_take_99 (by decide) ?_
                refine lv_istore_n (lv' := [(3, .int (bitC (nI k8))), (2, .int b9), (5, .int (bitC (nI k8))), (0, .ref (gad G 34)), (1, .int (nI n9)), (4, .int (nI p9))]) hx hb dX5_take_103 rfl hl (by decide) rfl (fun ls hl => ?_)
                refine lv_iinc (v := nI (p9 + 1)) (lv' := [(4, .int (nI (p9 + 1))), (3, .int (bitC (nI k8))), (2, .int b9), (5, .int (bitC (nI k8))), (0, .ref (gad G 34)), (1, .int (nI n9))]) hx hb dX5_take_104 hl (k := 5) rfl (inc1 _) (by decide) rfl (fun ls hl => ?_)
                refine lv_goto (tgt := 30) hx hb dX5_take_107 (by decide) ?_
                exact ih30 (p9 + 1) b9 (bitC (nI k8)) (by omega) (False.elim (c_14 c_13)) (by omega) _ _ _ (hP.cast (sI_id ((sI_ne _ _ (by decide)).trans h11))) hS (lv_sub hl [4, 5, 2, 1, 0] rfl)
            · skip
              refine lv_iload hx hb dX5_take_84 (lv_at hl 5 rfl) ?_
              refine lv_goto (tgt := 90) hx hb dX5_take_86 (by decide) ?_
              refine lv_istore_n (lv' := [(2, .int (nI p9)), (5, .int (bitC (nI k8))), (0, .ref (gad G 34)), (1, .int (nI n9)), (3, .int l9), (4, .int (nI p9))]) hx hb dX5_take_90 rfl hl (by decide) rfl (fun ls hl => ?_)
              refine lv_iload hx hb dX5_take_91 (lv_at hl 1 rfl) ?_
              refine lv_iload_n hx hb dX5_take_93 rfl (lv_at hl 4 rfl) ?_
              refine lv_icmp_ge (tgt := 102) hx hb dX5_take_94 (by decide) (fun c_15 => ?_) (fun c_15 => ?_)
              · skip
                refine lv_iload_n hx hb dX5_take_102 rfl (lv_at hl 4 rfl) ?_
                refine lv_istore_n (lv' := [(3, .int l9), (2, .int (nI p9)), (5, .int (bitC (nI k8))), (0, .ref (gad G 34)), (1, .int (nI n9)), (4, .int (nI p9))]) hx hb dX5_take_103 rfl hl (by decide) rfl (fun ls hl => ?_)
                refine lv_iinc (v := nI (p9 + 1)) (lv' := [(4, .int (nI (p9 + 1))), (3, .int l9), (2, .int (nI p9)), (5, .int (bitC (nI k8))), (0, .ref (gad G 34)), (1, .int (nI n9))]) hx hb dX5_take_104 hl (k := 5) rfl (inc1 _) (by decide) rfl (fun ls hl => ?_)
                refine lv_goto (tgt := 30) hx hb dX5_take_107 (by decide) ?_
                exact ih30 (p9 + 1) (nI p9) l9 (by omega) (False.elim (c_13 c_15)) (by omega) _ _ _ (hP.cast (sI_id ((sI_ne _ _ (by decide)).trans h11))) hS (lv_sub hl [4, 5, 2, 1, 0] rfl)
              · skip
                refine lv_iload hx hb dX5_take_97 (lv_at hl 1 rfl) ?_
                refine lv_goto (tgt := 103) hx hb dX5_take_99 (by decide) ?_
                refine lv_istore_n (lv' := [(3, .int (bitC (nI k8))), (2, .int (nI p9)), (5, .int (bitC (nI k8))), (0, .ref (gad G 34)), (1, .int (nI n9)), (4, .int (nI p9))]) hx hb dX5_take_103 rfl hl (by decide) rfl (fun ls hl => ?_)
                refine lv_iinc (v := nI (p9 + 1)) (lv' := [(4, .int (nI (p9 + 1))), (3, .int (bitC (nI k8))), (2, .int (nI p9)), (5, .int (bitC (nI k8))), (0, .ref (gad G 34)), (1, .int (nI n9))]) hx hb dX5_take_104 hl (k := 5) rfl (inc1 _) (by decide) rfl (fun ls hl => ?_)
                refine lv_goto (tgt := 30) hx hb dX5_take_107 (by decide) ?_
                exact ih30 (p9 + 1) (nI p9) (bitC (nI k8)) (by omega) (by rw [tkN, if_pos c_7, bst, ← hbb, smN_bit hWt (hnt ▸ hWt.n8), ← hnt, hk2, if_pos (Int32.not_le.mp c_13)]) (by omega) _ _ _ (hP.cast (sI_id ((sI_ne _ _ (by decide)).trans h11))) hS (lv_sub hl [4, 5, 2, 1, 0] rfl)
    exact J30 _ 0 (-1) 9 (by omega) rfl (Nat.lt_succ_self _) _ _ _ hP hS (lv_sub hl [3, 4, 2, 1, 0] rfl)
  · skip
    refine lv_aload_n hx hb dX5_take_11 rfl (lv_at hl 0 rfl) ?_
    refine lv_ldc (v := (-1000000001)) hx hb hown (hts (.constant RX5 35 ((-1000000001))) (by decide +kernel)) dX5_take_12 ?_
    refine hd_callVi (As := [.int (-1000000001)]) (rest := []) ⟨hx, hb, hml, hown, hts⟩ hE hP hS (c_X5_finds_0 l G u F h15) rfl (cwV 1 hts gX5_take_X5_finds rfl rfl rfl (by decide +kernel) ⟨Nat.le_of_ble_eq_true rfl, Nat.le_of_ble_eq_true rfl⟩) (mo_recv hE hP) rfl hl.1 rfl (Nat.le_of_ble_eq_true rfl) dX5_take_14 (fun rq_16 vq_16 H locs q_16 hP hS => ?_)
    have hP := hP.cast (q_16.2)
    refine lv_cast q_16.1 ?_
    exact hd_iret hx hb hr hlocks hP hS (P3.of (by first | (simp [X_take, bey, bmp, c_2]; done)) ((sI_ne _ _ (by decide)).trans h11) ((sI_ne _ _ (by decide)).trans h13) (sI_at _ _ _) (by decide) (by decide) (by decide) (fun k k0 k1 k6 => ((sI_ne _ _ k6).trans rfl)) rfl) dX5_take_17
set_option maxHeartbeats 4000000 in
set_option maxRecDepth 100000 in
theorem c_X5_order (l : Launch) (G : Geo) (u : Sg) (M F : Nat → Int32) (h11 : u.1 11 = M) (h15 : u.1 15 = F) (hM : Wf M) (T : Nat → Int32) (h13 : u.1 13 = T) (tT : ∀ k : Nat, 53 ≤ k → T k = 0) (n : Int32) : CtI l G yX5_order wsX5_order (rmO 7 159) [.ref (gad G 34), .int n] u (P3 u 11 13 15 (X_order M F n)) := by
  refine CtI.of (cc := cX5_order) (maxL := 8) (ret := (some .int)) (own := RX5) (by decide) rfl rfl ?_
  rintro pg ev s0 mm below meth cd ⟨hx, hb, hr, hml, hown, hts, hlocks⟩ hE hP ls hl
  have hS : va_S (gA G) s0.heap s0.heap [] := va_S.rf
  have hl : lv_has ls 8 [(0, .ref (gad G 34)), (1, .int n)] := hl
  have hin5 : ∀ w ∈ wsX50, w ∈ wsX5_order := by decide +kernel
  have hn := hM.n
  have h8 := hM.n8
  refine lv_iload_n hx hb dX5_order_0 rfl (lv_at hl 1 rfl) ?_
  refine lv_i2l hx hb dX5_order_1 rfl ?_
  refine lv_iconst (v := 1) hx hb dX5_order_2 (by decide) ?_
  refine lv_bipush (v := 100) hx hb dX5_order_3 (by decide) ?_
  refine hd_callSi (As := [.long n.toInt64, .int 1, .int 100]) (rest := []) ⟨hx, hb, hml, hown, hts⟩ hE hP hS (c_X5_inI l G u n 1 100) rfl (va_cwS 3 hts gX5_order_X5_in rfl rfl rfl (by decide +kernel) ⟨Nat.le_of_ble_eq_true rfl, Nat.le_of_ble_eq_true rfl⟩) rfl hl.1 rfl (Nat.le_of_ble_eq_true rfl) dX5_order_5 (fun rq_1 vq_1 H locs q_1 hP hS => ?_)
  have hP := hP.cast (q_1.2)
  refine lv_cast q_1.1 ?_
  refine bo_ne (tgt := 18) hx hb dX5_order_8 (by decide) (fun c_2 => ?_) (fun c_2 => ?_)
  · skip
    obtain ⟨n9, hn9a, hn9b, rfl⟩ := inI_nat c_2 rfl rfl (na := 1) (nb := 100) (by decide) (by decide)
    refine lv_aload_n hx hb dX5_order_18 rfl (lv_at hl 0 rfl) ?_
    refine hd_callVv (As := []) (rest := []) ⟨hx, hb, hml, hown, hts⟩ hE hP hS (c_X5_thinks l G u M T h11 h13 (hM).1 tT) rfl (cwV 0 hts gX5_order_X5_thinks rfl rfl rfl (by decide +kernel) ⟨Nat.le_of_ble_eq_true rfl, Nat.le_of_ble_eq_true rfl⟩) (mo_recv hE hP) rfl hl.1 rfl (Nat.le_of_ble_eq_true rfl) dX5_order_19 (fun vq_3 H locs q_3 hP hS => ?_)
    have hP := hP.cast (q_3)
    refine lv_aload_n hx hb dX5_order_22 rfl (lv_at hl 0 rfl) ?_
    refine lv_iload_n hx hb dX5_order_23 rfl (lv_at hl 1 rfl) ?_
    refine hd_callVi (As := [.int (nI n9)]) (rest := []) ⟨hx, hb, hml, hown, hts⟩ hE hP hS (c_X5_looseOn l G (sI u 13 M) M M ((sI_ne _ _ (by decide)).trans h11) (sI_at _ _ _) hM (hM).1 n9 (by omega)) rfl (cwV 1 hts gX5_order_X5_looseOn rfl rfl rfl (by decide +kernel) ⟨Nat.le_of_ble_eq_true rfl, Nat.le_of_ble_eq_true rfl⟩) (mo_recv hE hP) rfl hl.1 rfl (Nat.le_of_ble_eq_true rfl) dX5_order_24 (fun rq_4 vq_4 H locs q_4 hP hS => ?_)
    have hP := hP.cast (q_4.2)
    refine lv_cast q_4.1 ?_
    refine lv_istore_n (lv' := [(2, .int (loC (goN M n9))), (0, .ref (gad G 34)), (1, .int (nI n9))]) hx hb dX5_order_27 rfl hl (by decide) rfl (fun ls hl => ?_)
    refine lv_iconst (v := (-1)) hx hb dX5_order_28 (by decide) ?_
    refine lv_istore_n (lv' := [(3, .int (-1)), (2, .int (loC (goN M n9))), (0, .ref (gad G 34)), (1, .int (nI n9))]) hx hb dX5_order_29 rfl hl (by decide) rfl (fun ls hl => ?_)
    refine lv_iconst (v := 0) hx hb dX5_order_30 (by decide) ?_
    refine lv_istore (lv' := [(4, .int 0), (3, .int (-1)), (2, .int (loC (goN M n9))), (0, .ref (gad G 34)), (1, .int (nI n9))]) hx hb dX5_order_31 hl (by decide) rfl (fun ls hl => ?_)
    have J33 : ∀ (fu : Nat) (a9 : Nat) (b9 : Int32) (l9 : Int32) (ha : a9 ≤ nP M) (hbb : (b9, l9) = orA M n9 a9) (hrk : nP M - a9 < fu) (H : Heap) (locs : List Loc) (ls : Array Slot), WP G (sI u 13 M) H → va_S (gA G) s0.heap H locs → lv_has ls 8 [(0, .ref (gad G 34)), (1, .int (nI n9)), (2, .int l9), (3, .int b9), (4, .int (nI a9))] → W pg l ev (headSpec wsX5_order (rmO 7 159)).room s0 mm ([.ref (gad G 34), .int (nI n9)] : List Value).toArray below meth cd H locs 0 0 (MQ below (va_Qi (P3 u 11 13 15 (X_order M F (nI n9))) (fun v t => WP G v t.heap) (gA G)) ([.ref (gad G 34), .int (nI n9)] : List Value).toArray s0 0 0 (gA G)) (F0 mm 33 ls []) := by
      intro fu
      induction fu with
      | zero => intro a9 b9 l9 ha hbb hrk; exact absurd hrk (Nat.not_lt_zero _)
      | succ fu ih33 =>
        intro a9 b9 l9 ha hbb hrk H locs ls hP hS hl
        refine lv_iload hx hb dX5_order_33 (lv_at hl 4 rfl) ?_
        refine lv_aload_n hx hb dX5_order_35 rfl (lv_at hl 0 rfl) ?_
        refine mo_get hx hb hts hin5 hown hE hP ((sI_ne _ _ (by decide)).trans rfl) 0 (by decide) (hts (.fieldLink RX5 9 "HeldDoorModel" "m" "[I") (by decide +kernel)) (v := .ref (gad G 35)) rfl dX5_order_36 ?_
        refine lv_iconst (v := 4) hx hb dX5_order_39 (by decide) ?_
        refine ar_ld hx hb hE hP 35 53 (by decide) (ar_at35 ((sI_ne _ _ (by decide)).trans h11)) 4 (by omega) dX5_order_40 ?_
        refine lv_cast hn ?_
        refine nn_ge (a := a9) (b := nP M) (by omega) (by omega) (tgt := 144) hx hb dX5_order_41 (by decide) (fun c_5 => ?_) (fun c_5 => ?_)
        · skip
          refine lv_aload_n hx hb dX5_order_144 rfl (lv_at hl 0 rfl) ?_
          refine lv_iload_n hx hb dX5_order_145 rfl (lv_at hl 3 rfl) ?_
          refine hd_callVi (As := [.int b9]) (rest := []) ⟨hx, hb, hml, hown, hts⟩ hE hP hS (c_X5_orNone l G (sI u 13 M) F ((sI_ne _ _ (by decide)).trans h15) b9) rfl (cwV 1 hts gX5_order_X5_orNone rfl rfl rfl (by decide +kernel) ⟨Nat.le_of_ble_eq_true rfl, Nat.le_of_ble_eq_true rfl⟩) (mo_recv hE hP) rfl hl.1 rfl (Nat.le_of_ble_eq_true rfl) dX5_order_146 (fun rq_6 vq_6 H locs q_6 hP hS => ?_)
          have hP := hP.cast (q_6.2)
          refine lv_cast q_6.1 ?_
          exact hd_iret hx hb hr hlocks hP hS (P3.of (by rw [X_order, c_2, if_neg (by decide), nI_clamp (show n9 < 2 ^ 31 by omega), show nP M = a9 by omega, ← hbb, orN_eq]) ((sI_ne _ _ (by decide)).trans ((sI_ne _ _ (by decide)).trans h11)) ((sI_ne _ _ (by decide)).trans (sI_at _ _ _)) (sI_at _ _ _) (by decide) (by decide) (by decide) (fun k k0 k1 k6 => ((sI_ne _ _ k6).trans ((sI_ne _ _ k1).trans rfl))) rfl) dX5_order_149
        · skip
          refine lv_iload hx hb dX5_order_44 (lv_at hl 4 rfl) ?_
          refine lv_iconst (v := 1) hx hb dX5_order_46 (by decide) ?_
          refine nn_iadd (a := a9) (b := 1) hx hb dX5_order_47 ?_
          refine lv_istore (lv' := [(5, .int (nI (a9 + 1))), (0, .ref (gad G 34)), (1, .int (nI n9)), (2, .int l9), (3, .int b9), (4, .int (nI a9))]) hx hb dX5_order_48 hl (by decide) rfl (fun ls hl => ?_)
          have J50 : ∀ (fu : Nat) (e9 : Nat) (b8 : Int32) (l8 : Int32) (he : e9 ≤ nP M - (a9 + 1)) (hb8 : (b8, l8) = orB M n9 a9 (b9, l9) e9) (hrk : nP M - (a9 + 1) - e9 < fu) (H : Heap) (locs : List Loc) (ls : Array Slot), WP G (sI u 13 M) H → va_S (gA G) s0.heap H locs → lv_has ls 8 [(0, .ref (gad G 34)), (1, .int (nI n9)), (2, .int l8), (3, .int b8), (4, .int (nI a9)), (5, .int (nI (a9 + 1 + e9)))] → W pg l ev (headSpec wsX5_order (rmO 7 159)).room s0 mm ([.ref (gad G 34), .int (nI n9)] : List Value).toArray below meth cd H locs 0 0 (MQ below (va_Qi (P3 u 11 13 15 (X_order M F (nI n9))) (fun v t => WP G v t.heap) (gA G)) ([.ref (gad G 34), .int (nI n9)] : List Value).toArray s0 0 0 (gA G)) (F0 mm 50 ls []) := by
            intro fu
            induction fu with
            | zero => intro e9 b8 l8 he hb8 hrk; exact absurd hrk (Nat.not_lt_zero _)
            | succ fu ih50 =>
              intro e9 b8 l8 he hb8 hrk H locs ls hP hS hl
              refine lv_iload hx hb dX5_order_50 (lv_at hl 5 rfl) ?_
              refine lv_aload_n hx hb dX5_order_52 rfl (lv_at hl 0 rfl) ?_
              refine mo_get hx hb hts hin5 hown hE hP ((sI_ne _ _ (by decide)).trans rfl) 0 (by decide) (hts (.fieldLink RX5 9 "HeldDoorModel" "m" "[I") (by decide +kernel)) (v := .ref (gad G 35)) rfl dX5_order_53 ?_
              refine lv_iconst (v := 4) hx hb dX5_order_56 (by decide) ?_
              refine ar_ld hx hb hE hP 35 53 (by decide) (ar_at35 ((sI_ne _ _ (by decide)).trans h11)) 4 (by omega) dX5_order_57 ?_
              refine lv_cast hn ?_
              refine nn_ge (a := a9 + 1 + e9) (b := nP M) (by omega) (by omega) (tgt := 138) hx hb dX5_order_58 (by decide) (fun c_7 => ?_) (fun c_7 => ?_)
              · skip
                refine lv_iinc (v := nI (a9 + 1)) (lv' := [(4, .int (nI (a9 + 1))), (0, .ref (gad G 34)), (1, .int (nI n9)), (2, .int l8), (3, .int b8), (5, .int (nI (a9 + 1 + e9)))]) hx hb dX5_order_138 hl (k := 4) rfl (inc1 _) (by decide) rfl (fun ls hl => ?_)
                refine lv_goto (tgt := 33) hx hb dX5_order_141 (by decide) ?_
                exact ih33 (a9 + 1) b8 l8 (by omega) (by rw [orA, ← hbb, show nP M - (a9 + 1) = e9 by omega]; exact hb8) (by omega) _ _ _ hP hS (lv_sub hl [1, 2, 3, 4, 0] rfl)
              · skip
                refine lv_aload_n hx hb dX5_order_61 rfl (lv_at hl 0 rfl) ?_
                refine lv_iload hx hb dX5_order_62 (lv_at hl 4 rfl) ?_
                refine lv_iconst (v := 3) hx hb dX5_order_64 (by decide) ?_
                refine hd_callVi (As := [.int (nI a9), .int 3]) (rest := []) ⟨hx, hb, hml, hown, hts⟩ hE hP hS (c_X5_it l G (sI u 13 M) M a9 3 (by omega) (by omega)) ((sI_id ((sI_ne _ _ (by decide)).trans h11)).symm) (cwV 2 hts gX5_order_X5_it rfl rfl rfl (by decide +kernel) ⟨Nat.le_of_ble_eq_true rfl, Nat.le_of_ble_eq_true rfl⟩) (mo_recv hE hP) rfl hl.1 rfl (Nat.le_of_ble_eq_true rfl) dX5_order_65 (fun rq_8 vq_8 H locs q_8 hP hS => ?_)
                have hP := hP.cast (q_8.2.trans ((sI_id ((sI_ne _ _ (by decide)).trans h11)).symm).symm)
                refine lv_cast q_8.1 ?_
                refine lv_istore (lv' := [(6, .int (M (5 + 6 * a9 + 3))), (0, .ref (gad G 34)), (1, .int (nI n9)), (2, .int l8), (3, .int b8), (4, .int (nI a9)), (5, .int (nI (a9 + 1 + e9)))]) hx hb dX5_order_68 hl (by decide) rfl (fun ls hl => ?_)
                refine lv_aload_n hx hb dX5_order_70 rfl (lv_at hl 1 rfl) ?_
                refine lv_iload hx hb dX5_order_71 (lv_at hl 5 rfl) ?_
                refine lv_iconst (v := 3) hx hb dX5_order_73 (by decide) ?_
                refine lv_aload_n hx hb dX5_order_74 rfl (lv_at hl 1 rfl) ?_
                refine lv_iload hx hb dX5_order_75 (lv_at hl 6 rfl) ?_
                refine lv_iconst (v := 3) hx hb dX5_order_77 (by decide) ?_
                refine hd_callVi (As := [.int (nI (a9 + 1 + e9)), .int 3]) (rest := [.int 3, .int (nI a9), .ref (gad G 34)]) ⟨hx, hb, hml, hown, hts⟩ hE hP hS (c_X5_it l G (sI u 13 M) M (a9 + 1 + e9) 3 (by omega) (by omega)) ((sI_id ((sI_ne _ _ (by decide)).trans h11)).symm) (cwV 2 hts gX5_order_X5_it rfl rfl rfl (by decide +kernel) ⟨Nat.le_of_ble_eq_true rfl, Nat.le_of_ble_eq_true rfl⟩) (mo_recv hE hP) rfl hl.1 rfl (Nat.le_of_ble_eq_true rfl) dX5_order_78 (fun rq_9 vq_9 H locs q_9 hP hS => ?_)
                have hP := hP.cast (q_9.2.trans ((sI_id ((sI_ne _ _ (by decide)).trans h11)).symm).symm)
                refine lv_cast q_9.1 ?_
                refine hd_callVv (As := [.int (nI a9), .int 3, .int (M (5 + 6 * (a9 + 1 + e9) + 3))]) (rest := []) ⟨hx, hb, hml, hown, hts⟩ hE hP hS (c_X5_put l G (sI u 13 M) M a9 3 (by omega) (by omega) (M (5 + 6 * (a9 + 1 + e9) + 3))) ((sI_id ((sI_ne _ _ (by decide)).trans h11)).symm) (cwV 3 hts gX5_order_X5_put rfl rfl rfl (by decide +kernel) ⟨Nat.le_of_ble_eq_true rfl, Nat.le_of_ble_eq_true rfl⟩) (mo_recv hE hP) rfl hl.1 rfl (Nat.le_of_ble_eq_true rfl) dX5_order_81 (fun vq_10 H locs q_10 hP hS => ?_)
                have hP := hP.cast (q_10)
                refine lv_aload_n hx hb dX5_order_84 rfl (lv_at hl 1 rfl) ?_
                refine lv_iload hx hb dX5_order_85 (lv_at hl 6 rfl) ?_
                refine lv_iconst (v := 3) hx hb dX5_order_87 (by decide) ?_
                refine lv_iload hx hb dX5_order_88 (lv_at hl 0 rfl) ?_
                refine hd_callVv (As := [.int (nI (a9 + 1 + e9)), .int 3, .int (M (5 + 6 * a9 + 3))]) (rest := []) ⟨hx, hb, hml, hown, hts⟩ hE hP hS (c_X5_put l G (sI u 13 M) (upd M (5 + 6 * a9 + 3) (M (5 + 6 * (a9 + 1 + e9) + 3))) (a9 + 1 + e9) 3 (by omega) (by omega) (M (5 + 6 * a9 + 3))) rfl (cwV 3 hts gX5_order_X5_put rfl rfl rfl (by decide +kernel) ⟨Nat.le_of_ble_eq_true rfl, Nat.le_of_ble_eq_true rfl⟩) (mo_recv hE hP) rfl hl.1 rfl (Nat.le_of_ble_eq_true rfl) dX5_order_90 (fun vq_11 H locs q_11 hP hS => ?_)
                have hP := hP.cast (q_11)
                have hP := hP.cast (show sI (sI u 13 M) 11 (upd (upd M (5 + 6 * a9 + 3) (M (5 + 6 * (a9 + 1 + e9) + 3))) (5 + 6 * (a9 + 1 + e9) + 3) (M (5 + 6 * a9 + 3))) = sI (sI u 13 M) 11 (swp M a9 (a9 + 1 + e9)) from rfl)
                refine lv_aload_n hx hb dX5_order_93 rfl (lv_at hl 1 rfl) ?_
                refine lv_iload_n hx hb dX5_order_94 rfl (lv_at hl 2 rfl) ?_
                refine hd_callVi (As := [.int (nI n9)]) (rest := []) ⟨hx, hb, hml, hown, hts⟩ hE hP hS (c_X5_looseOn l G (sI (sI u 13 M) 11 (swp M a9 (a9 + 1 + e9))) (swp M a9 (a9 + 1 + e9)) M (sI_at _ _ _) ((sI_ne _ _ (by decide)).trans (sI_at _ _ _)) (Wf_swp hM (by omega) (by omega)) (hM).1 n9 (by omega)) rfl (cwV 1 hts gX5_order_X5_looseOn rfl rfl rfl (by decide +kernel) ⟨Nat.le_of_ble_eq_true rfl, Nat.le_of_ble_eq_true rfl⟩) (mo_recv hE hP) rfl hl.1 rfl (Nat.le_of_ble_eq_true rfl) dX5_order_95 (fun rq_12 vq_12 H locs q_12 hP hS => ?_)
                obtain ⟨q_12r, q_12v⟩ := q_12
                have hP := hP.cast (q_12v.trans (sI_sI _ _ _ _))
                refine lv_cast q_12r ?_
                refine lv_istore (lv' := [(7, .int (loC (goN (swp M a9 (a9 + 1 + e9)) n9))), (6, .int (M (5 + 6 * a9 + 3))), (0, .ref (gad G 34)), (1, .int (nI n9)), (2, .int l8), (3, .int b8), (4, .int (nI a9)), (5, .int (nI (a9 + 1 + e9)))]) hx hb dX5_order_98 hl (by decide) rfl (fun ls hl => ?_)
                refine lv_iload hx hb dX5_order_100 (lv_at hl 0 rfl) ?_
                refine lv_iload_n hx hb dX5_order_102 rfl (lv_at hl 4 rfl) ?_
                refine lv_icmp_ge (tgt := 117) hx hb dX5_order_103 (by decide) (fun c_13 => ?_) (fun c_13 => ?_)
                · skip
                  refine lv_iload_n hx hb dX5_order_117 rfl (lv_at hl 5 rfl) ?_
                  refine lv_istore_n (lv' := [(3, .int b8), (7, .int (loC (goN (swp M a9 (a9 + 1 + e9)) n9))), (6, .int (M (5 + 6 * a9 + 3))), (0, .ref (gad G 34)), (1, .int (nI n9)), (2, .int l8), (4, .int (nI a9)), (5, .int (nI (a9 + 1 + e9)))]) hx hb dX5_order_118 rfl hl (by decide) rfl (fun ls hl => ?_)
                  refine lv_iload hx hb dX5_order_119 (lv_at hl 1 rfl) ?_
                  refine lv_iload_n hx hb dX5_order_121 rfl (lv_at hl 5 rfl) ?_
                  refine lv_icmp_ge (tgt := 130) hx hb dX5_order_122 (by decide) (fun c_14 => ?_) (fun c_14 => ?_)
                  · skip
                    refine lv_iload_n hx hb dX5_order_130 rfl (lv_at hl 5 rfl) ?_
                    refine lv_istore_n (lv' := [(2, .int l8), (3, .int b8), (7, .int (loC (goN (swp M a9 (a9 + 1 + e9)) n9))), (6, .int (M (5 + 6 * a9 + 3))), (0, .ref (gad G 34)), (1, .int (nI n9)), (4, .int (nI a9)), (5, .int (nI (a9 + 1 + e9)))]) hx hb dX5_order_131 rfl hl (by decide) rfl (fun ls hl => ?_)
                    refine lv_iinc (v := nI ((a9 + 1 + e9) + 1)) (lv' := [(5, .int (nI ((a9 + 1 + e9) + 1))), (2, .int l8), (3, .int b8), (7, .int (loC (goN (swp M a9 (a9 + 1 + e9)) n9))), (6, .int (M (5 + 6 * a9 + 3))), (0, .ref (gad G 34)), (1, .int (nI n9)), (4, .int (nI a9))]) hx hb dX5_order_132 hl (k := 7) rfl (inc1 _) (by decide) rfl (fun ls hl => ?_)
                    refine lv_goto (tgt := 50) hx hb dX5_order_135 (by decide) ?_
                    exact ih50 (e9 + 1) b8 l8 (by omega) (by rw [orB, bst, ← hb8, if_neg (Int32.not_lt.mpr c_13)]) (by omega) _ _ _ (hP.cast (sI_id ((sI_ne _ _ (by decide)).trans h11))) hS (lv_sub hl [5, 6, 1, 2, 7, 0] rfl)
                  · skip
                    refine lv_iload hx hb dX5_order_125 (lv_at hl 1 rfl) ?_
                    refine lv_goto (tgt := 131) hx hb dX5_order_127 (by decide) ?_
                    refine lv_istore_n (lv' := [(2, .int (loC (goN (swp M a9 (a9 + 1 + e9)) n9))), (3, .int b8), (7, .int (loC (goN (swp M a9 (a9 + 1 + e9)) n9))), (6, .int (M (5 + 6 * a9 + 3))), (0, .ref (gad G 34)), (1, .int (nI n9)), (4, .int (nI a9)), (5, .int (nI (a9 + 1 + e9)))]) hx hb dX5_order_131 rfl hl (by decide) rfl (fun ls hl => ?_)
                    refine lv_iinc (v := nI ((a9 + 1 + e9) + 1)) (lv' := [(5, .int (nI ((a9 + 1 + e9) + 1))), (2, .int (loC (goN (swp M a9 (a9 + 1 + e9)) n9))), (3, .int b8), (7, .int (loC (goN (swp M a9 (a9 + 1 + e9)) n9))), (6, .int (M (5 + 6 * a9 + 3))), (0, .ref (gad G 34)), (1, .int (nI n9)), (4, .int (nI a9))]) hx hb dX5_order_132 hl (k := 7) rfl (inc1 _) (by decide) rfl (fun ls hl => ?_)
                    refine lv_goto (tgt := 50) hx hb dX5_order_135 (by decide) ?_
                    exact ih50 (e9 + 1) b8 (loC (goN (swp M a9 (a9 + 1 + e9)) n9)) (by omega) (False.elim (c_14 c_13)) (by omega) _ _ _ (hP.cast (sI_id ((sI_ne _ _ (by decide)).trans h11))) hS (lv_sub hl [5, 6, 1, 2, 7, 0] rfl)
                · skip
                  refine lv_bipush (v := 10) hx hb dX5_order_106 (by decide) ?_
                  refine lv_iload hx hb dX5_order_108 (lv_at hl 6 rfl) ?_
                  refine nn_imul (a := 10) (b := a9) hx hb dX5_order_110 ?_
                  refine lv_iload hx hb dX5_order_111 (lv_at hl 7 rfl) ?_
                  refine nn_iadd (a := 10 * a9) (b := a9 + 1 + e9) hx hb dX5_order_113 ?_
                  refine lv_goto (tgt := 118) hx hb dX5_order_114 (by decide) ?_
                  refine lv_istore_n (lv' := [(3, .int (nI (10 * a9 + (a9 + 1 + e9)))), (7, .int (loC (goN (swp M a9 (a9 + 1 + e9)) n9))), (6, .int (M (5 + 6 * a9 + 3))), (0, .ref (gad G 34)), (1, .int (nI n9)), (2, .int l8), (4, .int (nI a9)), (5, .int (nI (a9 + 1 + e9)))]) hx hb dX5_order_118 rfl hl (by decide) rfl (fun ls hl => ?_)
                  refine lv_iload hx hb dX5_order_119 (lv_at hl 1 rfl) ?_
                  refine lv_iload_n hx hb dX5_order_121 rfl (lv_at hl 5 rfl) ?_
                  refine lv_icmp_ge (tgt := 130) hx hb dX5_order_122 (by decide) (fun c_15 => ?_) (fun c_15 => ?_)
                  · skip
                    refine lv_iload_n hx hb dX5_order_130 rfl (lv_at hl 5 rfl) ?_
                    refine lv_istore_n (lv' := [(2, .int l8), (3, .int (nI (10 * a9 + (a9 + 1 + e9)))), (7, .int (loC (goN (swp M a9 (a9 + 1 + e9)) n9))), (6, .int (M (5 + 6 * a9 + 3))), (0, .ref (gad G 34)), (1, .int (nI n9)), (4, .int (nI a9)), (5, .int (nI (a9 + 1 + e9)))]) hx hb dX5_order_131 rfl hl (by decide) rfl (fun ls hl => ?_)
                    refine lv_iinc (v := nI ((a9 + 1 + e9) + 1)) (lv' := [(5, .int (nI ((a9 + 1 + e9) + 1))), (2, .int l8), (3, .int (nI (10 * a9 + (a9 + 1 + e9)))), (7, .int (loC (goN (swp M a9 (a9 + 1 + e9)) n9))), (6, .int (M (5 + 6 * a9 + 3))), (0, .ref (gad G 34)), (1, .int (nI n9)), (4, .int (nI a9))]) hx hb dX5_order_132 hl (k := 7) rfl (inc1 _) (by decide) rfl (fun ls hl => ?_)
                    refine lv_goto (tgt := 50) hx hb dX5_order_135 (by decide) ?_
                    exact ih50 (e9 + 1) (nI (10 * a9 + (a9 + 1 + e9))) l8 (by omega) (False.elim (c_13 c_15)) (by omega) _ _ _ (hP.cast (sI_id ((sI_ne _ _ (by decide)).trans h11))) hS (lv_sub hl [5, 6, 1, 2, 7, 0] rfl)
                  · skip
                    refine lv_iload hx hb dX5_order_125 (lv_at hl 1 rfl) ?_
                    refine lv_goto (tgt := 131) hx hb dX5_order_127 (by decide) ?_
                    refine lv_istore_n (lv' := [(2, .int (loC (goN (swp M a9 (a9 + 1 + e9)) n9))), (3, .int (nI (10 * a9 + (a9 + 1 + e9)))), (7, .int (loC (goN (swp M a9 (a9 + 1 + e9)) n9))), (6, .int (M (5 + 6 * a9 + 3))), (0, .ref (gad G 34)), (1, .int (nI n9)), (4, .int (nI a9)), (5, .int (nI (a9 + 1 + e9)))]) hx hb dX5_order_131 rfl hl (by decide) rfl (fun ls hl => ?_)
                    refine lv_iinc (v := nI ((a9 + 1 + e9) + 1)) (lv' := [(5, .int (nI ((a9 + 1 + e9) + 1))), (2, .int (loC (goN (swp M a9 (a9 + 1 + e9)) n9))), (3, .int (nI (10 * a9 + (a9 + 1 + e9)))), (7, .int (loC (goN (swp M a9 (a9 + 1 + e9)) n9))), (6, .int (M (5 + 6 * a9 + 3))), (0, .ref (gad G 34)), (1, .int (nI n9)), (4, .int (nI a9))]) hx hb dX5_order_132 hl (k := 7) rfl (inc1 _) (by decide) rfl (fun ls hl => ?_)
                    refine lv_goto (tgt := 50) hx hb dX5_order_135 (by decide) ?_
                    exact ih50 (e9 + 1) (nI (10 * a9 + (a9 + 1 + e9))) (loC (goN (swp M a9 (a9 + 1 + e9)) n9)) (by omega) (by rw [orB, bst, ← hb8, if_pos (Int32.not_le.mp c_13)]) (by omega) _ _ _ (hP.cast (sI_id ((sI_ne _ _ (by decide)).trans h11))) hS (lv_sub hl [5, 6, 1, 2, 7, 0] rfl)
          exact J50 _ 0 b9 l9 (by omega) rfl (Nat.lt_succ_self _) _ _ _ hP hS (lv_sub hl [1, 2, 3, 4, 5, 0] rfl)
    exact J33 _ 0 (-1) (loC (goN M n9)) (by omega) rfl (Nat.lt_succ_self _) _ _ _ (hP.cast (sI_id ((sI_ne _ _ (by decide)).trans h11))) hS (lv_sub hl [3, 4, 2, 1, 0] rfl)
  · skip
    refine lv_aload_n hx hb dX5_order_11 rfl (lv_at hl 0 rfl) ?_
    refine lv_ldc (v := (-1000000001)) hx hb hown (hts (.constant RX5 35 ((-1000000001))) (by decide +kernel)) dX5_order_12 ?_
    refine hd_callVi (As := [.int (-1000000001)]) (rest := []) ⟨hx, hb, hml, hown, hts⟩ hE hP hS (c_X5_finds_0 l G u F h15) rfl (cwV 1 hts gX5_order_X5_finds rfl rfl rfl (by decide +kernel) ⟨Nat.le_of_ble_eq_true rfl, Nat.le_of_ble_eq_true rfl⟩) (mo_recv hE hP) rfl hl.1 rfl (Nat.le_of_ble_eq_true rfl) dX5_order_14 (fun rq_16 vq_16 H locs q_16 hP hS => ?_)
    have hP := hP.cast (q_16.2)
    refine lv_cast q_16.1 ?_
    exact hd_iret hx hb hr hlocks hP hS (P3.of (by first | (simp [X_order, bey, bmp, c_2]; done)) ((sI_ne _ _ (by decide)).trans h11) ((sI_ne _ _ (by decide)).trans h13) (sI_at _ _ _) (by decide) (by decide) (by decide) (fun k k0 k1 k6 => ((sI_ne _ _ k6).trans rfl)) rfl) dX5_order_17
set_option maxHeartbeats 4000000 in
set_option maxRecDepth 100000 in
theorem c_X5_count (l : Launch) (G : Geo) (u : Sg) (M F : Nat → Int32) (h11 : u.1 11 = M) (h15 : u.1 15 = F) (hM : Wf M) (w : Int32) : CtI l G yX5_count wsX5_count (rmO 2 45) [.ref (gad G 34), .int w] u (P3 u 11 13 15 (X_count M F (u.1 14 6) w)) := by
  refine CtI.of (cc := cX5_count) (maxL := 2) (ret := (some .int)) (own := RX5) (by decide) rfl rfl ?_
  rintro pg ev s0 mm below meth cd ⟨hx, hb, hr, hml, hown, hts, hlocks⟩ hE hP ls hl
  have hS : va_S (gA G) s0.heap s0.heap [] := va_S.rf
  have hl : lv_has ls 2 [(0, .ref (gad G 34)), (1, .int w)] := hl
  have hin5 : ∀ w ∈ wsX50, w ∈ wsX5_count := by decide +kernel
  have hn := hM.n
  have h8 := hM.n8
  refine lv_iload_n hx hb dX5_count_0 rfl (lv_at hl 1 rfl) ?_
  by_cases k_1 : w = 0
  · refine lv_cast k_1 ?_
    refine lv_tableIn (tgt := 32) hx hb dX5_count_1 (by decide) (by decide) rfl (by decide) ?_
    refine lv_aload_n hx hb dX5_count_32 rfl (lv_at hl 0 rfl) ?_
    refine mo_get hx hb hts hin5 hown hE hP rfl 0 (by decide) (hts (.fieldLink RX5 9 "HeldDoorModel" "m" "[I") (by decide +kernel)) (v := .ref (gad G 35)) rfl dX5_count_33 ?_
    refine lv_iconst (v := 4) hx hb dX5_count_36 (by decide) ?_
    refine ar_ld hx hb hE hP 35 53 (by decide) (ar_at35 h11) 4 (by omega) dX5_count_37 ?_
    exact hd_iret hx hb hr hlocks hP hS (P3.of (by first | rfl | (simp [X_count, bey, none3, bmp, k_1]; done) | (exfalso; simp_all; done) | (simp only [X_count, bey, none3, bmp, k_1, ↓reduceIte] <;> rfl)) h11 rfl h15 (by decide) (by decide) (by decide) (fun k k0 k1 k6 => rfl) rfl) dX5_count_38
  by_cases k_2 : w = 1
  · refine lv_cast k_2 ?_
    refine lv_tableIn (tgt := 39) hx hb dX5_count_1 (by decide) (by decide) rfl (by decide) ?_
    refine lv_aload_n hx hb dX5_count_39 rfl (lv_at hl 0 rfl) ?_
    refine mo_get hx hb hts hin5 hown hE hP rfl 6 (by decide) (hts (.fieldLink RX5 137 "HeldDoorModel" "taped" "I") (by decide +kernel)) (v := .int ((u.1 14) 6)) rfl dX5_count_40 ?_
    exact hd_iret hx hb hr hlocks hP hS (P3.of (by first | rfl | (simp [X_count, bey, none3, bmp, k_1, k_2]; done) | (exfalso; simp_all; done) | (simp only [X_count, bey, none3, bmp, k_1, k_2, ↓reduceIte] <;> rfl)) h11 rfl h15 (by decide) (by decide) (by decide) (fun k k0 k1 k6 => rfl) rfl) dX5_count_43
  by_cases k_3 : w = 2
  · refine lv_cast k_3 ?_
    refine lv_tableIn (tgt := 44) hx hb dX5_count_1 (by decide) (by decide) rfl (by decide) ?_
    refine lv_aload_n hx hb dX5_count_44 rfl (lv_at hl 0 rfl) ?_
    refine mo_get hx hb hts hin5 hown hE hP rfl 0 (by decide) (hts (.fieldLink RX5 9 "HeldDoorModel" "m" "[I") (by decide +kernel)) (v := .ref (gad G 35)) rfl dX5_count_45 ?_
    refine lv_iconst (v := 4) hx hb dX5_count_48 (by decide) ?_
    refine ar_ld hx hb hE hP 35 53 (by decide) (ar_at35 h11) 4 (by omega) dX5_count_49 ?_
    refine lv_aload_n hx hb dX5_count_50 rfl (lv_at hl 0 rfl) ?_
    refine lv_iconst (v := 1) hx hb dX5_count_51 (by decide) ?_
    refine hd_callVi (As := [.int 1]) (rest := [.int (M 4)]) ⟨hx, hb, hml, hown, hts⟩ hE hP hS (c_X5_sums l G u M hM 1 (by omega)) ((sI_id h11).symm) (cwV 1 hts gX5_count_X5_sums rfl rfl rfl (by decide +kernel) ⟨Nat.le_of_ble_eq_true rfl, Nat.le_of_ble_eq_true rfl⟩) (mo_recv hE hP) rfl hl.1 rfl (Nat.le_of_ble_eq_true rfl) dX5_count_52 (fun rq_4 vq_4 H locs q_4 hP hS => ?_)
    have hP := hP.cast (q_4.2.trans ((sI_id h11).symm).symm)
    refine lv_cast q_4.1 ?_
    refine lv_isub hx hb dX5_count_55 ?_
    exact hd_iret hx hb hr hlocks hP hS (P3.of (by first | rfl | (simp [X_count, bey, none3, bmp, k_1, k_2, k_3]; done) | (exfalso; simp_all; done) | (simp only [X_count, bey, none3, bmp, k_1, k_2, k_3, ↓reduceIte] <;> rfl)) h11 rfl h15 (by decide) (by decide) (by decide) (fun k k0 k1 k6 => rfl) rfl) dX5_count_56
  by_cases k_5 : w = 3
  · refine lv_cast k_5 ?_
    refine lv_tableIn (tgt := 57) hx hb dX5_count_1 (by decide) (by decide) rfl (by decide) ?_
    refine lv_aload_n hx hb dX5_count_57 rfl (lv_at hl 0 rfl) ?_
    refine lv_iconst (v := 2) hx hb dX5_count_58 (by decide) ?_
    refine hd_callVi (As := [.int 2]) (rest := []) ⟨hx, hb, hml, hown, hts⟩ hE hP hS (c_X5_sums l G u M hM 2 (by omega)) ((sI_id h11).symm) (cwV 1 hts gX5_count_X5_sums rfl rfl rfl (by decide +kernel) ⟨Nat.le_of_ble_eq_true rfl, Nat.le_of_ble_eq_true rfl⟩) (mo_recv hE hP) rfl hl.1 rfl (Nat.le_of_ble_eq_true rfl) dX5_count_59 (fun rq_6 vq_6 H locs q_6 hP hS => ?_)
    have hP := hP.cast (q_6.2.trans ((sI_id h11).symm).symm)
    refine lv_cast q_6.1 ?_
    exact hd_iret hx hb hr hlocks hP hS (P3.of (by first | rfl | (simp [X_count, bey, none3, bmp, k_1, k_2, k_3, k_5]; done) | (exfalso; simp_all; done) | (simp only [X_count, bey, none3, bmp, k_1, k_2, k_3, k_5, ↓reduceIte] <;> rfl)) h11 rfl h15 (by decide) (by decide) (by decide) (fun k k0 k1 k6 => rfl) rfl) dX5_count_62
  refine lv_tableOut (tgt := 63) hx hb dX5_count_1 (sw_out (lo := 0) (hi := 3) (by decide) (by decide) (fun k h1 h2 => by
    rcases (show k = 0 ∨ k = 1 ∨ k = 2 ∨ k = 3 by omega) with rfl | rfl | rfl | rfl
    · exact k_1
    · exact k_2
    · exact k_3
    · exact k_5
    )) (by decide) ?_
  refine lv_aload_n hx hb dX5_count_63 rfl (lv_at hl 0 rfl) ?_
  refine lv_ldc (v := (-1000000001)) hx hb hown (hts (.constant RX5 35 ((-1000000001))) (by decide +kernel)) dX5_count_64 ?_
  refine hd_callVi (As := [.int (-1000000001)]) (rest := []) ⟨hx, hb, hml, hown, hts⟩ hE hP hS (c_X5_finds_0 l G u F h15) rfl (cwV 1 hts gX5_count_X5_finds rfl rfl rfl (by decide +kernel) ⟨Nat.le_of_ble_eq_true rfl, Nat.le_of_ble_eq_true rfl⟩) (mo_recv hE hP) rfl hl.1 rfl (Nat.le_of_ble_eq_true rfl) dX5_count_66 (fun rq_7 vq_7 H locs q_7 hP hS => ?_)
  have hP := hP.cast (q_7.2)
  refine lv_cast q_7.1 ?_
  exact hd_iret hx hb hr hlocks hP hS (P3.of (by first | rfl | (simp [X_count, bey, none3, bmp, k_1, k_2, k_3, k_5]; done) | (exfalso; simp_all; done) | (simp only [X_count, bey, none3, bmp, k_1, k_2, k_3, k_5, ↓reduceIte] <;> rfl)) ((sI_ne _ _ (by decide)).trans h11) ((sI_ne _ _ (by decide)).trans rfl) (sI_at _ _ _) (by decide) (by decide) (by decide) (fun k k0 k1 k6 => ((sI_ne _ _ k6).trans rfl)) rfl) dX5_count_69
set_option maxHeartbeats 4000000 in
set_option maxRecDepth 100000 in
theorem c_X5_status_o (l : Launch) (G : Geo) (u : Sg) (M F : Nat → Int32) (h11 : u.1 11 = M) (h15 : u.1 15 = F) (hM : Wf M) (w : Int32) (hm1 : ¬ w = -1) (hno : inI w 0 6 = false) : CtI l G yX5_status wsX5_status (rmO 1 23) [.ref (gad G 34), .int w] u (P3 u 11 13 15 (X_status M F w)) := by
  refine CtI.of (cc := cX5_status) (maxL := 4) (ret := (some .int)) (own := RX5) (by decide) rfl rfl ?_
  rintro pg ev s0 mm below meth cd ⟨hx, hb, hr, hml, hown, hts, hlocks⟩ hE hP ls hl
  have hS : va_S (gA G) s0.heap s0.heap [] := va_S.rf
  have hl : lv_has ls 4 [(0, .ref (gad G 34)), (1, .int w)] := hl
  have hn := hM.n
  have h8 := hM.n8
  refine lv_iload_n hx hb dX5_status_0 rfl (lv_at hl 1 rfl) ?_
  refine lv_i2l hx hb dX5_status_1 rfl ?_
  refine lv_iconst (v := (-1)) hx hb dX5_status_2 (by decide) ?_
  refine lv_bipush (v := 6) hx hb dX5_status_3 (by decide) ?_
  refine hd_callSi (As := [.long w.toInt64, .int (-1), .int 6]) (rest := []) ⟨hx, hb, hml, hown, hts⟩ hE hP hS (c_X5_inI l G u w (-1) 6) rfl (va_cwS 3 hts gX5_status_X5_in rfl rfl rfl (by decide +kernel) ⟨Nat.le_of_ble_eq_true rfl, Nat.le_of_ble_eq_true rfl⟩) rfl hl.1 rfl (Nat.le_of_ble_eq_true rfl) dX5_status_5 (fun rq_1 vq_1 H locs q_1 hP hS => ?_)
  have hP := hP.cast (q_1.2)
  refine lv_cast q_1.1 ?_
  refine bo_ne (tgt := 18) hx hb dX5_status_8 (by decide) (fun c_2 => absurd c_2 (by rw [inm6_f hm1 hno]; decide)) (fun c_2 => ?_)
  refine lv_aload_n hx hb dX5_status_11 rfl (lv_at hl 0 rfl) ?_
  refine lv_ldc (v := (-1000000001)) hx hb hown (hts (.constant RX5 35 ((-1000000001))) (by decide +kernel)) dX5_status_12 ?_
  refine hd_callVi (As := [.int (-1000000001)]) (rest := []) ⟨hx, hb, hml, hown, hts⟩ hE hP hS (c_X5_finds_0 l G u F h15) rfl (cwV 1 hts gX5_status_X5_finds rfl rfl rfl (by decide +kernel) ⟨Nat.le_of_ble_eq_true rfl, Nat.le_of_ble_eq_true rfl⟩) (mo_recv hE hP) rfl hl.1 rfl (Nat.le_of_ble_eq_true rfl) dX5_status_14 (fun rq_3 vq_3 H locs q_3 hP hS => ?_)
  have hP := hP.cast (q_3.2)
  refine lv_cast q_3.1 ?_
  exact hd_iret hx hb hr hlocks hP hS (P3.of (by rw [X_status, if_neg hm1, hno, if_pos rfl]; rfl) ((sI_ne _ _ (by decide)).trans h11) ((sI_ne _ _ (by decide)).trans rfl) (sI_at _ _ _) (by decide) (by decide) (by decide) (fun k k0 k1 k6 => ((sI_ne _ _ k6).trans rfl)) rfl) dX5_status_17
set_option maxHeartbeats 4000000 in
set_option maxRecDepth 100000 in
theorem c_X5_status_m (l : Launch) (G : Geo) (u : Sg) (M F : Nat → Int32) (h11 : u.1 11 = M) (h15 : u.1 15 = F) (hM : Wf M) : CtI l G yX5_status wsX5_status (rmO 1 23) [.ref (gad G 34), .int (-1)] u (P3 u 11 13 15 (X_status M F (-1))) := by
  refine CtI.of (cc := cX5_status) (maxL := 4) (ret := (some .int)) (own := RX5) (by decide) rfl rfl ?_
  rintro pg ev s0 mm below meth cd ⟨hx, hb, hr, hml, hown, hts, hlocks⟩ hE hP ls hl
  have hS : va_S (gA G) s0.heap s0.heap [] := va_S.rf
  have hl : lv_has ls 4 [(0, .ref (gad G 34)), (1, .int (-1))] := hl
  have hin5 : ∀ w ∈ wsX50, w ∈ wsX5_status := by decide +kernel
  have hn := hM.n
  have h8 := hM.n8
  refine lv_iload_n hx hb dX5_status_0 rfl (lv_at hl 1 rfl) ?_
  refine lv_i2l hx hb dX5_status_1 rfl ?_
  refine lv_iconst (v := (-1)) hx hb dX5_status_2 (by decide) ?_
  refine lv_bipush (v := 6) hx hb dX5_status_3 (by decide) ?_
  refine hd_callSi (As := [.long ((-1 : Int32).toInt64), .int (-1), .int 6]) (rest := []) ⟨hx, hb, hml, hown, hts⟩ hE hP hS (c_X5_inI l G u (-1 : Int32) (-1) 6) rfl (va_cwS 3 hts gX5_status_X5_in rfl rfl rfl (by decide +kernel) ⟨Nat.le_of_ble_eq_true rfl, Nat.le_of_ble_eq_true rfl⟩) rfl hl.1 rfl (Nat.le_of_ble_eq_true rfl) dX5_status_5 (fun rq_1 vq_1 H locs q_1 hP hS => ?_)
  have hP := hP.cast (q_1.2)
  refine lv_cast q_1.1 ?_
  refine bo_ne (tgt := 18) hx hb dX5_status_8 (by decide) (fun c_2 => ?_) (fun c_2 => absurd c_2 (by decide))
  refine lv_iconst (v := 0) hx hb dX5_status_18 (by decide) ?_
  refine lv_istore_n (lv' := [(2, .int 0), (0, .ref (gad G 34)), (1, .int (-1))]) hx hb dX5_status_19 rfl hl (by decide) rfl (fun ls hl => ?_)
  refine lv_iconst (v := 0) hx hb dX5_status_20 (by decide) ?_
  refine lv_istore_n (lv' := [(3, .int 0), (2, .int 0), (0, .ref (gad G 34)), (1, .int (-1))]) hx hb dX5_status_21 rfl hl (by decide) rfl (fun ls hl => ?_)
  have J22 : ∀ (fu : Nat) (k9 : Nat) (a9 : Int32) (hk : k9 ≤ 7) (ha : a9 = fS F k9) (hrk : 7 - k9 < fu) (H : Heap) (locs : List Loc) (ls : Array Slot), WP G u H → va_S (gA G) s0.heap H locs → lv_has ls 4 [(0, .ref (gad G 34)), (1, .int (-1)), (2, .int a9), (3, .int (nI k9))] → W pg l ev (headSpec wsX5_status (rmO 1 23)).room s0 mm ([.ref (gad G 34), .int (-1)] : List Value).toArray below meth cd H locs 0 0 (MQ below (va_Qi (P3 u 11 13 15 (X_status M F (-1))) (fun v t => WP G v t.heap) (gA G)) ([.ref (gad G 34), .int (-1)] : List Value).toArray s0 0 0 (gA G)) (F0 mm 22 ls []) := by
    intro fu
    induction fu with
    | zero => intro k9 a9 hk ha hrk; exact absurd hrk (Nat.not_lt_zero _)
    | succ fu ih22 =>
      intro k9 a9 hk ha hrk H locs ls hP hS hl
      refine lv_iload_n hx hb dX5_status_22 rfl (lv_at hl 3 rfl) ?_
      refine lv_bipush (v := 7) hx hb dX5_status_23 (by decide) ?_
      refine nn_ge (a := k9) (b := 7) (by omega) (by omega) (tgt := 56) hx hb dX5_status_25 (by decide) (fun c_3 => ?_) (fun c_3 => ?_)
      · skip
        refine lv_iload_n hx hb dX5_status_56 rfl (lv_at hl 2 rfl) ?_
        exact hd_iret hx hb hr hlocks hP hS (P3.of (by rw [X_status, if_pos rfl, show 7 = k9 by omega, ← ha]) h11 rfl h15 (by decide) (by decide) (by decide) (fun k k0 k1 k6 => rfl) rfl) dX5_status_57
      · skip
        refine lv_iload_n hx hb dX5_status_28 rfl (lv_at hl 2 rfl) ?_
        refine lv_iload_n hx hb dX5_status_29 rfl (lv_at hl 1 rfl) ?_
        refine lv_if_lt (tgt := 38) hx hb dX5_status_30 (by decide) (fun _ => ?_) (fun h => False.elim (by revert h; decide))
        refine lv_aload_n hx hb dX5_status_38 rfl (lv_at hl 0 rfl) ?_
        refine mo_get hx hb hts hin5 hown hE hP rfl 4 (by decide) (hts (.fieldLink RX5 19 "HeldDoorModel" "found" "[I") (by decide +kernel)) (v := .ref (gad G 38)) rfl dX5_status_39 ?_
        refine lv_iload_n hx hb dX5_status_42 rfl (lv_at hl 3 rfl) ?_
        refine ar_ld hx hb hE hP 38 7 (by decide) (ar_at38 h15) k9 (by omega) dX5_status_43 ?_
        refine lv_goto (tgt := 48) hx hb dX5_status_44 (by decide) ?_
        refine lv_iadd hx hb dX5_status_48 ?_
        refine lv_istore_n (lv' := [(2, .int (a9 + (F k9))), (0, .ref (gad G 34)), (1, .int (-1)), (3, .int (nI k9))]) hx hb dX5_status_49 rfl hl (by decide) rfl (fun ls hl => ?_)
        refine lv_iinc (v := nI (k9 + 1)) (lv' := [(3, .int (nI (k9 + 1))), (2, .int (a9 + (F k9))), (0, .ref (gad G 34)), (1, .int (-1))]) hx hb dX5_status_50 hl (k := 3) rfl (inc1 _) (by decide) rfl (fun ls hl => ?_)
        refine lv_goto (tgt := 22) hx hb dX5_status_53 (by decide) ?_
        exact ih22 (k9 + 1) (a9 + (F k9)) (by omega) (by rw [ha]; rfl) (by omega) _ _ _ hP hS (lv_sub hl [2, 3, 1, 0] rfl)
  exact J22 _ 0 0 (by omega) rfl (Nat.lt_succ_self _) _ _ _ hP hS (lv_sub hl [2, 3, 1, 0] rfl)
set_option maxHeartbeats 4000000 in
set_option maxRecDepth 100000 in
theorem c_X5_status_j (l : Launch) (G : Geo) (u : Sg) (M F : Nat → Int32) (h11 : u.1 11 = M) (h15 : u.1 15 = F) (hM : Wf M) (j9 : Nat) (hj9 : j9 < 7) : CtI l G yX5_status wsX5_status (rmO 1 23) [.ref (gad G 34), .int (nI j9)] u (P3 u 11 13 15 (X_status M F (nI j9))) := by
  refine CtI.of (cc := cX5_status) (maxL := 4) (ret := (some .int)) (own := RX5) (by decide) rfl rfl ?_
  rintro pg ev s0 mm below meth cd ⟨hx, hb, hr, hml, hown, hts, hlocks⟩ hE hP ls hl
  have hS : va_S (gA G) s0.heap s0.heap [] := va_S.rf
  have hl : lv_has ls 4 [(0, .ref (gad G 34)), (1, .int (nI j9))] := hl
  have hin5 : ∀ w ∈ wsX50, w ∈ wsX5_status := by decide +kernel
  have hn := hM.n
  have h8 := hM.n8
  refine lv_iload_n hx hb dX5_status_0 rfl (lv_at hl 1 rfl) ?_
  refine lv_i2l hx hb dX5_status_1 rfl ?_
  refine lv_iconst (v := (-1)) hx hb dX5_status_2 (by decide) ?_
  refine lv_bipush (v := 6) hx hb dX5_status_3 (by decide) ?_
  refine hd_callSi (As := [.long ((nI j9).toInt64), .int (-1), .int 6]) (rest := []) ⟨hx, hb, hml, hown, hts⟩ hE hP hS (c_X5_inI l G u (nI j9) (-1) 6) rfl (va_cwS 3 hts gX5_status_X5_in rfl rfl rfl (by decide +kernel) ⟨Nat.le_of_ble_eq_true rfl, Nat.le_of_ble_eq_true rfl⟩) rfl hl.1 rfl (Nat.le_of_ble_eq_true rfl) dX5_status_5 (fun rq_1 vq_1 H locs q_1 hP hS => ?_)
  have hP := hP.cast (q_1.2)
  refine lv_cast q_1.1 ?_
  refine bo_ne (tgt := 18) hx hb dX5_status_8 (by decide) (fun c_2 => ?_) (fun c_2 => absurd c_2 (by rw [inI_of (by rw [ti_nI (by omega)]; show (-1 : Int) ≤ _; omega) (by rw [ti_nI (by omega)]; show _ ≤ (6 : Int); omega)]; decide))
  refine lv_iconst (v := 0) hx hb dX5_status_18 (by decide) ?_
  refine lv_istore_n (lv' := [(2, .int 0), (0, .ref (gad G 34)), (1, .int (nI j9))]) hx hb dX5_status_19 rfl hl (by decide) rfl (fun ls hl => ?_)
  refine lv_iconst (v := 0) hx hb dX5_status_20 (by decide) ?_
  refine lv_istore_n (lv' := [(3, .int 0), (2, .int 0), (0, .ref (gad G 34)), (1, .int (nI j9))]) hx hb dX5_status_21 rfl hl (by decide) rfl (fun ls hl => ?_)
  have J22 : ∀ (fu : Nat) (k9 : Nat) (a9 : Int32) (hk : k9 ≤ 7) (ha : a9 = fS1 F j9 k9) (hrk : 7 - k9 < fu) (H : Heap) (locs : List Loc) (ls : Array Slot), WP G u H → va_S (gA G) s0.heap H locs → lv_has ls 4 [(0, .ref (gad G 34)), (1, .int (nI j9)), (2, .int a9), (3, .int (nI k9))] → W pg l ev (headSpec wsX5_status (rmO 1 23)).room s0 mm ([.ref (gad G 34), .int (nI j9)] : List Value).toArray below meth cd H locs 0 0 (MQ below (va_Qi (P3 u 11 13 15 (X_status M F (nI j9))) (fun v t => WP G v t.heap) (gA G)) ([.ref (gad G 34), .int (nI j9)] : List Value).toArray s0 0 0 (gA G)) (F0 mm 22 ls []) := by
    intro fu
    induction fu with
    | zero => intro k9 a9 hk ha hrk; exact absurd hrk (Nat.not_lt_zero _)
    | succ fu ih22 =>
      intro k9 a9 hk ha hrk H locs ls hP hS hl
      refine lv_iload_n hx hb dX5_status_22 rfl (lv_at hl 3 rfl) ?_
      refine lv_bipush (v := 7) hx hb dX5_status_23 (by decide) ?_
      refine nn_ge (a := k9) (b := 7) (by omega) (by omega) (tgt := 56) hx hb dX5_status_25 (by decide) (fun c_3 => ?_) (fun c_3 => ?_)
      · skip
        refine lv_iload_n hx hb dX5_status_56 rfl (lv_at hl 2 rfl) ?_
        exact hd_iret hx hb hr hlocks hP hS (P3.of (by rw [X_status, if_neg (by intro z; exact absurd (congrArg Int32.toInt z) (by rw [ti_nI (by omega)]; show ¬ (j9 : Int) = -1; omega)), inI_of (by rw [ti_nI (by omega)]; exact Int.natCast_nonneg _) (by rw [ti_nI (by omega)]; show (j9 : Int) ≤ 6; omega), if_neg (by decide), nI_clamp (by omega), ← fS1_all F hj9, show 7 = k9 by omega, ← ha]) h11 rfl h15 (by decide) (by decide) (by decide) (fun k k0 k1 k6 => rfl) rfl) dX5_status_57
      · skip
        refine lv_iload_n hx hb dX5_status_28 rfl (lv_at hl 2 rfl) ?_
        refine lv_iload_n hx hb dX5_status_29 rfl (lv_at hl 1 rfl) ?_
        refine lv_if_lt (tgt := 38) hx hb dX5_status_30 (by decide) (fun c_4 => absurd c_4 (nI_pos (by omega))) (fun c_4 => ?_)
        refine lv_iload_n hx hb dX5_status_33 rfl (lv_at hl 1 rfl) ?_
        refine lv_iload_n hx hb dX5_status_34 rfl (lv_at hl 3 rfl) ?_
        refine nn_ne (a := j9) (b := k9) (by omega) (by omega) (tgt := 47) hx hb dX5_status_35 (by decide) (fun c_5 => ?_) (fun c_5 => ?_)
        · skip
          refine lv_iconst (v := 0) hx hb dX5_status_47 (by decide) ?_
          refine lv_iadd hx hb dX5_status_48 ?_
          refine lv_istore_n (lv' := [(2, .int (a9 + 0)), (0, .ref (gad G 34)), (1, .int (nI j9)), (3, .int (nI k9))]) hx hb dX5_status_49 rfl hl (by decide) rfl (fun ls hl => ?_)
          refine lv_iinc (v := nI (k9 + 1)) (lv' := [(3, .int (nI (k9 + 1))), (2, .int (a9 + 0)), (0, .ref (gad G 34)), (1, .int (nI j9))]) hx hb dX5_status_50 hl (k := 3) rfl (inc1 _) (by decide) rfl (fun ls hl => ?_)
          refine lv_goto (tgt := 22) hx hb dX5_status_53 (by decide) ?_
          exact ih22 (k9 + 1) (a9 + 0) (by omega) (by rw [ha, fS1, if_neg (fun z => c_5 z.symm)]) (by omega) _ _ _ hP hS (lv_sub hl [2, 3, 1, 0] rfl)
        · skip
          refine lv_aload_n hx hb dX5_status_38 rfl (lv_at hl 0 rfl) ?_
          refine mo_get hx hb hts hin5 hown hE hP rfl 4 (by decide) (hts (.fieldLink RX5 19 "HeldDoorModel" "found" "[I") (by decide +kernel)) (v := .ref (gad G 38)) rfl dX5_status_39 ?_
          refine lv_iload_n hx hb dX5_status_42 rfl (lv_at hl 3 rfl) ?_
          refine ar_ld hx hb hE hP 38 7 (by decide) (ar_at38 h15) k9 (by omega) dX5_status_43 ?_
          refine lv_goto (tgt := 48) hx hb dX5_status_44 (by decide) ?_
          refine lv_iadd hx hb dX5_status_48 ?_
          refine lv_istore_n (lv' := [(2, .int (a9 + (F k9))), (0, .ref (gad G 34)), (1, .int (nI j9)), (3, .int (nI k9))]) hx hb dX5_status_49 rfl hl (by decide) rfl (fun ls hl => ?_)
          refine lv_iinc (v := nI (k9 + 1)) (lv' := [(3, .int (nI (k9 + 1))), (2, .int (a9 + (F k9))), (0, .ref (gad G 34)), (1, .int (nI j9))]) hx hb dX5_status_50 hl (k := 3) rfl (inc1 _) (by decide) rfl (fun ls hl => ?_)
          refine lv_goto (tgt := 22) hx hb dX5_status_53 (by decide) ?_
          exact ih22 (k9 + 1) (a9 + (F k9)) (by omega) (by rw [ha, fS1, if_pos c_5.symm]) (by omega) _ _ _ hP hS (lv_sub hl [2, 3, 1, 0] rfl)
  exact J22 _ 0 0 (by omega) rfl (Nat.lt_succ_self _) _ _ _ hP hS (lv_sub hl [2, 3, 1, 0] rfl)
theorem c_X5_status (l : Launch) (G : Geo) (u : Sg) (M F : Nat → Int32) (h11 : u.1 11 = M) (h15 : u.1 15 = F) (hM : Wf M) (w : Int32) : CtI l G yX5_status wsX5_status (rmO 1 23) [.ref (gad G 34), .int w] u (P3 u 11 13 15 (X_status M F w)) := by
  by_cases hm1 : w = -1
  · subst hm1; exact c_X5_status_m l G u M F h11 h15 hM
  · cases hno : inI w 0 6
    · exact c_X5_status_o l G u M F h11 h15 hM w hm1 hno
    · obtain ⟨j9, -, hj, rfl⟩ := inI_nat hno rfl rfl (na := 0) (nb := 6) (by decide) (by decide)
      exact c_X5_status_j l G u M F h11 h15 hM j9 (by omega)
