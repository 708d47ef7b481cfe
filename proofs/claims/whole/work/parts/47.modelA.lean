set_option maxHeartbeats 4000000 in
set_option maxRecDepth 100000 in
theorem c_X5_door_0 (l : Launch) (G : Geo) (u : Sg) (M F : Nat → Int32) (h11 : u.1 11 = M) (h15 : u.1 15 = F) (hM : Wf M)  (x : Int32) : CtI l G yX5_door wsX5_door (rmO 1 23) [.ref (gad G 34), .int 0, .int x] u (P3 u 11 13 15 (X_door M F 0 x)) := by
  refine CtI.of (cc := cX5_door) (maxL := 3) (ret := (some .int)) (own := RX5) (by decide) rfl rfl ?_
  rintro pg ev s0 mm below meth cd ⟨hx, hb, hr, hml, hown, hts, hlocks⟩ hE hP ls hl
  have hS : va_S (gA G) s0.heap s0.heap [] := va_S.rf
  have hl : lv_has ls 3 [(0, .ref (gad G 34)), (1, .int 0), (2, .int x)] := hl
  have hn := hM.n
  have h8 := hM.n8
  refine lv_iload_n hx hb dX5_door_0 rfl (lv_at hl 1 rfl) ?_
  refine lv_i2l hx hb dX5_door_1 rfl ?_
  refine lv_iconst (v := 0) hx hb dX5_door_2 (by decide) ?_
  refine lv_iconst (v := 1) hx hb dX5_door_3 (by decide) ?_
  refine hd_callSi (As := [.long ((0 : Int32).toInt64), .int 0, .int 1]) (rest := []) ⟨hx, hb, hml, hown, hts⟩ hE hP hS (c_X5_inI l G u 0 0 1) rfl (va_cwS 3 hts gX5_door_X5_in rfl rfl rfl (by decide +kernel) ⟨Nat.le_of_ble_eq_true rfl, Nat.le_of_ble_eq_true rfl⟩) rfl hl.1 rfl (Nat.le_of_ble_eq_true rfl) dX5_door_4 (fun rq_1 vq_1 H locs q_1 hP hS => ?_)
  have hP := hP.cast (q_1.2)
  refine lv_cast q_1.1 ?_
  refine bo_eq (tgt := 41) hx hb dX5_door_7 (by decide) (fun c_2 => absurd c_2 (by decide)) (fun c_2 => ?_)
  refine lv_iload_n hx hb dX5_door_10 rfl (lv_at hl 2 rfl) ?_
  refine lv_i2l hx hb dX5_door_11 rfl ?_
  refine lv_iconst (v := 0) hx hb dX5_door_12 (by decide) ?_
  refine lv_iload_n hx hb dX5_door_13 rfl (lv_at hl 1 rfl) ?_
  refine lv_if_ne (tgt := 22) hx hb dX5_door_14 (by decide) (fun h => False.elim (by revert h; decide)) (fun _ => ?_)
  refine lv_bipush (v := 99) hx hb dX5_door_17 (by decide) ?_
  refine lv_goto (tgt := 24) hx hb dX5_door_19 (by decide) ?_
  refine hd_callSi (As := [.long x.toInt64, .int 0, .int 99]) (rest := []) ⟨hx, hb, hml, hown, hts⟩ hE hP hS (c_X5_inI l G u x 0 99) rfl (va_cwS 3 hts gX5_door_X5_in rfl rfl rfl (by decide +kernel) ⟨Nat.le_of_ble_eq_true rfl, Nat.le_of_ble_eq_true rfl⟩) rfl hl.1 rfl (Nat.le_of_ble_eq_true rfl) dX5_door_24 (fun rq_3 vq_3 H locs q_3 hP hS => ?_)
  have hP := hP.cast (q_3.2)
  refine lv_cast q_3.1 ?_
  refine bo_eq (tgt := 41) hx hb dX5_door_27 (by decide) (fun c_4 => ?_) (fun c_4 => ?_)
  · skip
    refine lv_aload_n hx hb dX5_door_41 rfl (lv_at hl 0 rfl) ?_
    refine lv_ldc (v := (-1000000001)) hx hb hown (hts (.constant RX5 35 ((-1000000001))) (by decide +kernel)) dX5_door_42 ?_
    refine hd_callVi (As := [.int (-1000000001)]) (rest := []) ⟨hx, hb, hml, hown, hts⟩ hE hP hS (c_X5_finds_0 l G u F h15) rfl (cwV 1 hts gX5_door_X5_finds rfl rfl rfl (by decide +kernel) ⟨Nat.le_of_ble_eq_true rfl, Nat.le_of_ble_eq_true rfl⟩) (mo_recv hE hP) rfl hl.1 rfl (Nat.le_of_ble_eq_true rfl) dX5_door_44 (fun rq_5 vq_5 H locs q_5 hP hS => ?_)
    have hP := hP.cast (q_5.2)
    refine lv_cast q_5.1 ?_
    exact hd_iret hx hb hr hlocks hP hS (P3.of (by first | rfl | (simp [X_door, bey, none3, bmp, c_4, c_2]; done) | (exfalso; simp_all; done) | (simp only [X_door, bey, none3, bmp, c_4, c_2, ↓reduceIte] <;> rfl)) ((sI_ne _ _ (by decide)).trans h11) ((sI_ne _ _ (by decide)).trans rfl) (sI_at _ _ _) (by decide) (by decide) (by decide) (fun k k0 k1 k6 => ((sI_ne _ _ k6).trans rfl)) rfl) dX5_door_47
  · skip
    refine lv_aload_n hx hb dX5_door_30 rfl (lv_at hl 0 rfl) ?_
    refine lv_iconst (v := 1) hx hb dX5_door_31 (by decide) ?_
    refine lv_iload_n hx hb dX5_door_32 rfl (lv_at hl 1 rfl) ?_
    refine lv_iadd hx hb dX5_door_33 ?_
    refine lv_cast (y := 1) (by decide) ?_
    refine lv_iload_n hx hb dX5_door_34 rfl (lv_at hl 2 rfl) ?_
    refine hd_callVi (As := [.int 1, .int x]) (rest := []) ⟨hx, hb, hml, hown, hts⟩ hE hP hS (c_X5_becomes l G u M 1 (by omega) x) ((sI_id h11).symm) (cwV 2 hts gX5_door_X5_becomes rfl rfl rfl (by decide +kernel) ⟨Nat.le_of_ble_eq_true rfl, Nat.le_of_ble_eq_true rfl⟩) (mo_recv hE hP) rfl hl.1 rfl (Nat.le_of_ble_eq_true rfl) dX5_door_35 (fun rq_6 vq_6 H locs q_6 hP hS => ?_)
    have hP := hP.cast (q_6.2)
    refine lv_cast q_6.1 ?_
    refine lv_goto (tgt := 47) hx hb dX5_door_38 (by decide) ?_
    exact hd_iret hx hb hr hlocks hP hS (P3.of (by first | rfl | (simp [X_door, bey, none3, bmp, c_4, c_2]; done) | (exfalso; simp_all; done) | (simp only [X_door, bey, none3, bmp, c_4, c_2, ↓reduceIte] <;> rfl)) (sI_at _ _ _) ((sI_ne _ _ (by decide)).trans rfl) ((sI_ne _ _ (by decide)).trans h15) (by decide) (by decide) (by decide) (fun k k0 k1 k6 => ((sI_ne _ _ k0).trans rfl)) rfl) dX5_door_47
set_option maxHeartbeats 4000000 in
set_option maxRecDepth 100000 in
theorem c_X5_door_1 (l : Launch) (G : Geo) (u : Sg) (M F : Nat → Int32) (h11 : u.1 11 = M) (h15 : u.1 15 = F) (hM : Wf M)  (x : Int32) : CtI l G yX5_door wsX5_door (rmO 1 23) [.ref (gad G 34), .int 1, .int x] u (P3 u 11 13 15 (X_door M F 1 x)) := by
  refine CtI.of (cc := cX5_door) (maxL := 3) (ret := (some .int)) (own := RX5) (by decide) rfl rfl ?_
  rintro pg ev s0 mm below meth cd ⟨hx, hb, hr, hml, hown, hts, hlocks⟩ hE hP ls hl
  have hS : va_S (gA G) s0.heap s0.heap [] := va_S.rf
  have hl : lv_has ls 3 [(0, .ref (gad G 34)), (1, .int 1), (2, .int x)] := hl
  have hn := hM.n
  have h8 := hM.n8
  refine lv_iload_n hx hb dX5_door_0 rfl (lv_at hl 1 rfl) ?_
  refine lv_i2l hx hb dX5_door_1 rfl ?_
  refine lv_iconst (v := 0) hx hb dX5_door_2 (by decide) ?_
  refine lv_iconst (v := 1) hx hb dX5_door_3 (by decide) ?_
  refine hd_callSi (As := [.long ((1 : Int32).toInt64), .int 0, .int 1]) (rest := []) ⟨hx, hb, hml, hown, hts⟩ hE hP hS (c_X5_inI l G u 1 0 1) rfl (va_cwS 3 hts gX5_door_X5_in rfl rfl rfl (by decide +kernel) ⟨Nat.le_of_ble_eq_true rfl, Nat.le_of_ble_eq_true rfl⟩) rfl hl.1 rfl (Nat.le_of_ble_eq_true rfl) dX5_door_4 (fun rq_1 vq_1 H locs q_1 hP hS => ?_)
  have hP := hP.cast (q_1.2)
  refine lv_cast q_1.1 ?_
  refine bo_eq (tgt := 41) hx hb dX5_door_7 (by decide) (fun c_2 => absurd c_2 (by decide)) (fun c_2 => ?_)
  refine lv_iload_n hx hb dX5_door_10 rfl (lv_at hl 2 rfl) ?_
  refine lv_i2l hx hb dX5_door_11 rfl ?_
  refine lv_iconst (v := 0) hx hb dX5_door_12 (by decide) ?_
  refine lv_iload_n hx hb dX5_door_13 rfl (lv_at hl 1 rfl) ?_
  refine lv_if_ne (tgt := 22) hx hb dX5_door_14 (by decide) (fun _ => ?_) (fun h => False.elim (by revert h; decide))
  refine lv_bipush (v := 60) hx hb dX5_door_22 (by decide) ?_
  refine hd_callSi (As := [.long x.toInt64, .int 0, .int 60]) (rest := []) ⟨hx, hb, hml, hown, hts⟩ hE hP hS (c_X5_inI l G u x 0 60) rfl (va_cwS 3 hts gX5_door_X5_in rfl rfl rfl (by decide +kernel) ⟨Nat.le_of_ble_eq_true rfl, Nat.le_of_ble_eq_true rfl⟩) rfl hl.1 rfl (Nat.le_of_ble_eq_true rfl) dX5_door_24 (fun rq_3 vq_3 H locs q_3 hP hS => ?_)
  have hP := hP.cast (q_3.2)
  refine lv_cast q_3.1 ?_
  refine bo_eq (tgt := 41) hx hb dX5_door_27 (by decide) (fun c_4 => ?_) (fun c_4 => ?_)
  · skip
    refine lv_aload_n hx hb dX5_door_41 rfl (lv_at hl 0 rfl) ?_
    refine lv_ldc (v := (-1000000001)) hx hb hown (hts (.constant RX5 35 ((-1000000001))) (by decide +kernel)) dX5_door_42 ?_
    refine hd_callVi (As := [.int (-1000000001)]) (rest := []) ⟨hx, hb, hml, hown, hts⟩ hE hP hS (c_X5_finds_0 l G u F h15) rfl (cwV 1 hts gX5_door_X5_finds rfl rfl rfl (by decide +kernel) ⟨Nat.le_of_ble_eq_true rfl, Nat.le_of_ble_eq_true rfl⟩) (mo_recv hE hP) rfl hl.1 rfl (Nat.le_of_ble_eq_true rfl) dX5_door_44 (fun rq_5 vq_5 H locs q_5 hP hS => ?_)
    have hP := hP.cast (q_5.2)
    refine lv_cast q_5.1 ?_
    exact hd_iret hx hb hr hlocks hP hS (P3.of (by first | rfl | (simp [X_door, bey, none3, bmp, c_4, c_2]; done) | (exfalso; simp_all; done) | (simp only [X_door, bey, none3, bmp, c_4, c_2, ↓reduceIte] <;> rfl)) ((sI_ne _ _ (by decide)).trans h11) ((sI_ne _ _ (by decide)).trans rfl) (sI_at _ _ _) (by decide) (by decide) (by decide) (fun k k0 k1 k6 => ((sI_ne _ _ k6).trans rfl)) rfl) dX5_door_47
  · skip
    refine lv_aload_n hx hb dX5_door_30 rfl (lv_at hl 0 rfl) ?_
    refine lv_iconst (v := 1) hx hb dX5_door_31 (by decide) ?_
    refine lv_iload_n hx hb dX5_door_32 rfl (lv_at hl 1 rfl) ?_
    refine lv_iadd hx hb dX5_door_33 ?_
    refine lv_cast (y := 2) (by decide) ?_
    refine lv_iload_n hx hb dX5_door_34 rfl (lv_at hl 2 rfl) ?_
    refine hd_callVi (As := [.int 2, .int x]) (rest := []) ⟨hx, hb, hml, hown, hts⟩ hE hP hS (c_X5_becomes l G u M 2 (by omega) x) ((sI_id h11).symm) (cwV 2 hts gX5_door_X5_becomes rfl rfl rfl (by decide +kernel) ⟨Nat.le_of_ble_eq_true rfl, Nat.le_of_ble_eq_true rfl⟩) (mo_recv hE hP) rfl hl.1 rfl (Nat.le_of_ble_eq_true rfl) dX5_door_35 (fun rq_6 vq_6 H locs q_6 hP hS => ?_)
    have hP := hP.cast (q_6.2)
    refine lv_cast q_6.1 ?_
    refine lv_goto (tgt := 47) hx hb dX5_door_38 (by decide) ?_
    exact hd_iret hx hb hr hlocks hP hS (P3.of (by first | rfl | (simp [X_door, bey, none3, bmp, c_4, c_2]; done) | (exfalso; simp_all; done) | (simp only [X_door, bey, none3, bmp, c_4, c_2, ↓reduceIte] <;> rfl)) (sI_at _ _ _) ((sI_ne _ _ (by decide)).trans rfl) ((sI_ne _ _ (by decide)).trans h15) (by decide) (by decide) (by decide) (fun k k0 k1 k6 => ((sI_ne _ _ k0).trans rfl)) rfl) dX5_door_47
set_option maxHeartbeats 4000000 in
set_option maxRecDepth 100000 in
theorem c_X5_door_o (l : Launch) (G : Geo) (u : Sg) (M F : Nat → Int32) (h11 : u.1 11 = M) (h15 : u.1 15 = F) (hM : Wf M) (w : Int32) (x : Int32) (h_0 : ¬ w = 0) (h_1 : ¬ w = 1) : CtI l G yX5_door wsX5_door (rmO 1 23) [.ref (gad G 34), .int w, .int x] u (P3 u 11 13 15 (X_door M F w x)) := by
  refine CtI.of (cc := cX5_door) (maxL := 3) (ret := (some .int)) (own := RX5) (by decide) rfl rfl ?_
  rintro pg ev s0 mm below meth cd ⟨hx, hb, hr, hml, hown, hts, hlocks⟩ hE hP ls hl
  have hS : va_S (gA G) s0.heap s0.heap [] := va_S.rf
  have hl : lv_has ls 3 [(0, .ref (gad G 34)), (1, .int w), (2, .int x)] := hl
  have hn := hM.n
  have h8 := hM.n8
  refine lv_iload_n hx hb dX5_door_0 rfl (lv_at hl 1 rfl) ?_
  refine lv_i2l hx hb dX5_door_1 rfl ?_
  refine lv_iconst (v := 0) hx hb dX5_door_2 (by decide) ?_
  refine lv_iconst (v := 1) hx hb dX5_door_3 (by decide) ?_
  refine hd_callSi (As := [.long w.toInt64, .int 0, .int 1]) (rest := []) ⟨hx, hb, hml, hown, hts⟩ hE hP hS (c_X5_inI l G u w 0 1) rfl (va_cwS 3 hts gX5_door_X5_in rfl rfl rfl (by decide +kernel) ⟨Nat.le_of_ble_eq_true rfl, Nat.le_of_ble_eq_true rfl⟩) rfl hl.1 rfl (Nat.le_of_ble_eq_true rfl) dX5_door_4 (fun rq_1 vq_1 H locs q_1 hP hS => ?_)
  have hP := hP.cast (q_1.2)
  refine lv_cast q_1.1 ?_
  refine bo_eq (tgt := 41) hx hb dX5_door_7 (by decide) (fun c_2 => ?_) (fun c_2 => absurd (in01 c_2) (by simp [h_0, h_1]))
  refine lv_aload_n hx hb dX5_door_41 rfl (lv_at hl 0 rfl) ?_
  refine lv_ldc (v := (-1000000001)) hx hb hown (hts (.constant RX5 35 ((-1000000001))) (by decide +kernel)) dX5_door_42 ?_
  refine hd_callVi (As := [.int (-1000000001)]) (rest := []) ⟨hx, hb, hml, hown, hts⟩ hE hP hS (c_X5_finds_0 l G u F h15) rfl (cwV 1 hts gX5_door_X5_finds rfl rfl rfl (by decide +kernel) ⟨Nat.le_of_ble_eq_true rfl, Nat.le_of_ble_eq_true rfl⟩) (mo_recv hE hP) rfl hl.1 rfl (Nat.le_of_ble_eq_true rfl) dX5_door_44 (fun rq_3 vq_3 H locs q_3 hP hS => ?_)
  have hP := hP.cast (q_3.2)
  refine lv_cast q_3.1 ?_
  exact hd_iret hx hb hr hlocks hP hS (P3.of (by first | rfl | (simp [X_door, h_0, h_1, bey, none3, bmp, c_2]; done) | (exfalso; simp_all; done) | (simp only [X_door, h_0, h_1, bey, none3, bmp, c_2, ↓reduceIte] <;> rfl)) ((sI_ne _ _ (by decide)).trans h11) ((sI_ne _ _ (by decide)).trans rfl) (sI_at _ _ _) (by decide) (by decide) (by decide) (fun k k0 k1 k6 => ((sI_ne _ _ k6).trans rfl)) rfl) dX5_door_47
theorem c_X5_door (l : Launch) (G : Geo) (u : Sg) (M F : Nat → Int32) (h11 : u.1 11 = M) (h15 : u.1 15 = F) (hM : Wf M) (w : Int32) (x : Int32) : CtI l G yX5_door wsX5_door (rmO 1 23) [.ref (gad G 34), .int w, .int x] u (P3 u 11 13 15 (X_door M F w x)) := by
  by_cases h_0 : w = 0
  · subst h_0; exact c_X5_door_0 l G u M F h11 h15 hM x
  by_cases h_1 : w = 1
  · subst h_1; exact c_X5_door_1 l G u M F h11 h15 hM x
  exact c_X5_door_o l G u M F h11 h15 hM w x h_0 h_1
set_option maxHeartbeats 4000000 in
set_option maxRecDepth 100000 in
theorem c_X5_now_0 (l : Launch) (G : Geo) (u : Sg) (M F : Nat → Int32) (h11 : u.1 11 = M) (h15 : u.1 15 = F) (hM : Wf M) : CtI l G yX5_now wsX5_now (rmO 2 45) [.ref (gad G 34), .int 0] u (P3 u 11 13 15 (X_now M F 0)) := by
  refine CtI.of (cc := cX5_now) (maxL := 2) (ret := (some .int)) (own := RX5) (by decide) rfl rfl ?_
  rintro pg ev s0 mm below meth cd ⟨hx, hb, hr, hml, hown, hts, hlocks⟩ hE hP ls hl
  have hS : va_S (gA G) s0.heap s0.heap [] := va_S.rf
  have hl : lv_has ls 2 [(0, .ref (gad G 34)), (1, .int 0)] := hl
  have hin5 : ∀ w ∈ wsX50, w ∈ wsX5_now := by decide +kernel
  have hn := hM.n
  have h8 := hM.n8
  refine lv_iload_n hx hb dX5_now_0 rfl (lv_at hl 1 rfl) ?_
  refine lv_tableIn (tgt := 44) hx hb dX5_now_1 (by decide) (by decide) rfl (by decide) ?_
  refine lv_aload_n hx hb dX5_now_44 rfl (lv_at hl 0 rfl) ?_
  refine mo_get hx hb hts hin5 hown hE hP rfl 0 (by decide) (hts (.fieldLink RX5 9 "HeldDoorModel" "m" "[I") (by decide +kernel)) (v := .ref (gad G 35)) rfl dX5_now_45 ?_
  refine lv_iconst (v := 0) hx hb dX5_now_48 (by decide) ?_
  refine lv_iload_n hx hb dX5_now_49 rfl (lv_at hl 1 rfl) ?_
  refine lv_iadd hx hb dX5_now_50 ?_
  refine lv_cast (y := 0) (by decide) ?_
  refine ar_ld hx hb hE hP 35 53 (by decide) (ar_at35 h11) 0 (by omega) dX5_now_51 ?_
  exact hd_iret hx hb hr hlocks hP hS (P3.of (by first | rfl | (simp [X_now, bey, none3, bmp]; done) | (exfalso; simp_all; done) | (simp only [X_now, bey, none3, bmp, ↓reduceIte] <;> rfl)) h11 rfl h15 (by decide) (by decide) (by decide) (fun k k0 k1 k6 => rfl) rfl) dX5_now_52
set_option maxHeartbeats 4000000 in
set_option maxRecDepth 100000 in
theorem c_X5_now_1 (l : Launch) (G : Geo) (u : Sg) (M F : Nat → Int32) (h11 : u.1 11 = M) (h15 : u.1 15 = F) (hM : Wf M) : CtI l G yX5_now wsX5_now (rmO 2 45) [.ref (gad G 34), .int 1] u (P3 u 11 13 15 (X_now M F 1)) := by
  refine CtI.of (cc := cX5_now) (maxL := 2) (ret := (some .int)) (own := RX5) (by decide) rfl rfl ?_
  rintro pg ev s0 mm below meth cd ⟨hx, hb, hr, hml, hown, hts, hlocks⟩ hE hP ls hl
  have hS : va_S (gA G) s0.heap s0.heap [] := va_S.rf
  have hl : lv_has ls 2 [(0, .ref (gad G 34)), (1, .int 1)] := hl
  have hin5 : ∀ w ∈ wsX50, w ∈ wsX5_now := by decide +kernel
  have hn := hM.n
  have h8 := hM.n8
  refine lv_iload_n hx hb dX5_now_0 rfl (lv_at hl 1 rfl) ?_
  refine lv_tableIn (tgt := 44) hx hb dX5_now_1 (by decide) (by decide) rfl (by decide) ?_
  refine lv_aload_n hx hb dX5_now_44 rfl (lv_at hl 0 rfl) ?_
  refine mo_get hx hb hts hin5 hown hE hP rfl 0 (by decide) (hts (.fieldLink RX5 9 "HeldDoorModel" "m" "[I") (by decide +kernel)) (v := .ref (gad G 35)) rfl dX5_now_45 ?_
  refine lv_iconst (v := 0) hx hb dX5_now_48 (by decide) ?_
  refine lv_iload_n hx hb dX5_now_49 rfl (lv_at hl 1 rfl) ?_
  refine lv_iadd hx hb dX5_now_50 ?_
  refine lv_cast (y := 1) (by decide) ?_
  refine ar_ld hx hb hE hP 35 53 (by decide) (ar_at35 h11) 1 (by omega) dX5_now_51 ?_
  exact hd_iret hx hb hr hlocks hP hS (P3.of (by first | rfl | (simp [X_now, bey, none3, bmp]; done) | (exfalso; simp_all; done) | (simp only [X_now, bey, none3, bmp, ↓reduceIte] <;> rfl)) h11 rfl h15 (by decide) (by decide) (by decide) (fun k k0 k1 k6 => rfl) rfl) dX5_now_52
set_option maxHeartbeats 4000000 in
set_option maxRecDepth 100000 in
theorem c_X5_now_2 (l : Launch) (G : Geo) (u : Sg) (M F : Nat → Int32) (h11 : u.1 11 = M) (h15 : u.1 15 = F) (hM : Wf M) : CtI l G yX5_now wsX5_now (rmO 2 45) [.ref (gad G 34), .int 2] u (P3 u 11 13 15 (X_now M F 2)) := by
  refine CtI.of (cc := cX5_now) (maxL := 2) (ret := (some .int)) (own := RX5) (by decide) rfl rfl ?_
  rintro pg ev s0 mm below meth cd ⟨hx, hb, hr, hml, hown, hts, hlocks⟩ hE hP ls hl
  have hS : va_S (gA G) s0.heap s0.heap [] := va_S.rf
  have hl : lv_has ls 2 [(0, .ref (gad G 34)), (1, .int 2)] := hl
  have hin5 : ∀ w ∈ wsX50, w ∈ wsX5_now := by decide +kernel
  have hn := hM.n
  have h8 := hM.n8
  refine lv_iload_n hx hb dX5_now_0 rfl (lv_at hl 1 rfl) ?_
  refine lv_tableIn (tgt := 44) hx hb dX5_now_1 (by decide) (by decide) rfl (by decide) ?_
  refine lv_aload_n hx hb dX5_now_44 rfl (lv_at hl 0 rfl) ?_
  refine mo_get hx hb hts hin5 hown hE hP rfl 0 (by decide) (hts (.fieldLink RX5 9 "HeldDoorModel" "m" "[I") (by decide +kernel)) (v := .ref (gad G 35)) rfl dX5_now_45 ?_
  refine lv_iconst (v := 0) hx hb dX5_now_48 (by decide) ?_
  refine lv_iload_n hx hb dX5_now_49 rfl (lv_at hl 1 rfl) ?_
  refine lv_iadd hx hb dX5_now_50 ?_
  refine lv_cast (y := 2) (by decide) ?_
  refine ar_ld hx hb hE hP 35 53 (by decide) (ar_at35 h11) 2 (by omega) dX5_now_51 ?_
  exact hd_iret hx hb hr hlocks hP hS (P3.of (by first | rfl | (simp [X_now, bey, none3, bmp]; done) | (exfalso; simp_all; done) | (simp only [X_now, bey, none3, bmp, ↓reduceIte] <;> rfl)) h11 rfl h15 (by decide) (by decide) (by decide) (fun k k0 k1 k6 => rfl) rfl) dX5_now_52
set_option maxHeartbeats 4000000 in
set_option maxRecDepth 100000 in
theorem c_X5_now_3 (l : Launch) (G : Geo) (u : Sg) (M F : Nat → Int32) (h11 : u.1 11 = M) (h15 : u.1 15 = F) (hM : Wf M) : CtI l G yX5_now wsX5_now (rmO 2 45) [.ref (gad G 34), .int 3] u (P3 u 11 13 15 (X_now M F 3)) := by
  refine CtI.of (cc := cX5_now) (maxL := 2) (ret := (some .int)) (own := RX5) (by decide) rfl rfl ?_
  rintro pg ev s0 mm below meth cd ⟨hx, hb, hr, hml, hown, hts, hlocks⟩ hE hP ls hl
  have hS : va_S (gA G) s0.heap s0.heap [] := va_S.rf
  have hl : lv_has ls 2 [(0, .ref (gad G 34)), (1, .int 3)] := hl
  have hin5 : ∀ w ∈ wsX50, w ∈ wsX5_now := by decide +kernel
  have hn := hM.n
  have h8 := hM.n8
  refine lv_iload_n hx hb dX5_now_0 rfl (lv_at hl 1 rfl) ?_
  refine lv_tableIn (tgt := 44) hx hb dX5_now_1 (by decide) (by decide) rfl (by decide) ?_
  refine lv_aload_n hx hb dX5_now_44 rfl (lv_at hl 0 rfl) ?_
  refine mo_get hx hb hts hin5 hown hE hP rfl 0 (by decide) (hts (.fieldLink RX5 9 "HeldDoorModel" "m" "[I") (by decide +kernel)) (v := .ref (gad G 35)) rfl dX5_now_45 ?_
  refine lv_iconst (v := 0) hx hb dX5_now_48 (by decide) ?_
  refine lv_iload_n hx hb dX5_now_49 rfl (lv_at hl 1 rfl) ?_
  refine lv_iadd hx hb dX5_now_50 ?_
  refine lv_cast (y := 3) (by decide) ?_
  refine ar_ld hx hb hE hP 35 53 (by decide) (ar_at35 h11) 3 (by omega) dX5_now_51 ?_
  exact hd_iret hx hb hr hlocks hP hS (P3.of (by first | rfl | (simp [X_now, bey, none3, bmp]; done) | (exfalso; simp_all; done) | (simp only [X_now, bey, none3, bmp, ↓reduceIte] <;> rfl)) h11 rfl h15 (by decide) (by decide) (by decide) (fun k k0 k1 k6 => rfl) rfl) dX5_now_52
set_option maxHeartbeats 4000000 in
set_option maxRecDepth 100000 in
theorem c_X5_now_4 (l : Launch) (G : Geo) (u : Sg) (M F : Nat → Int32) (h11 : u.1 11 = M) (h15 : u.1 15 = F) (hM : Wf M) : CtI l G yX5_now wsX5_now (rmO 2 45) [.ref (gad G 34), .int 4] u (P3 u 11 13 15 (X_now M F 4)) := by
  refine CtI.of (cc := cX5_now) (maxL := 2) (ret := (some .int)) (own := RX5) (by decide) rfl rfl ?_
  rintro pg ev s0 mm below meth cd ⟨hx, hb, hr, hml, hown, hts, hlocks⟩ hE hP ls hl
  have hS : va_S (gA G) s0.heap s0.heap [] := va_S.rf
  have hl : lv_has ls 2 [(0, .ref (gad G 34)), (1, .int 4)] := hl
  have hn := hM.n
  have h8 := hM.n8
  refine lv_iload_n hx hb dX5_now_0 rfl (lv_at hl 1 rfl) ?_
  refine lv_tableIn (tgt := 53) hx hb dX5_now_1 (by decide) (by decide) rfl (by decide) ?_
  refine lv_aload_n hx hb dX5_now_53 rfl (lv_at hl 0 rfl) ?_
  refine hd_callVi (As := []) (rest := []) ⟨hx, hb, hml, hown, hts⟩ hE hP hS (c_X5_inside l G u M hM) ((sI_id h11).symm) (cwV 0 hts gX5_now_X5_inside rfl rfl rfl (by decide +kernel) ⟨Nat.le_of_ble_eq_true rfl, Nat.le_of_ble_eq_true rfl⟩) (mo_recv hE hP) rfl hl.1 rfl (Nat.le_of_ble_eq_true rfl) dX5_now_54 (fun rq_1 vq_1 H locs q_1 hP hS => ?_)
  have hP := hP.cast (q_1.2.trans ((sI_id h11).symm).symm)
  refine lv_cast q_1.1 ?_
  exact hd_iret hx hb hr hlocks hP hS (P3.of (by first | rfl | (simp [X_now, bey, none3, bmp]; done) | (exfalso; simp_all; done) | (simp only [X_now, bey, none3, bmp, ↓reduceIte] <;> rfl)) h11 rfl h15 (by decide) (by decide) (by decide) (fun k k0 k1 k6 => rfl) rfl) dX5_now_57
set_option maxHeartbeats 4000000 in
set_option maxRecDepth 100000 in
theorem c_X5_now_5 (l : Launch) (G : Geo) (u : Sg) (M F : Nat → Int32) (h11 : u.1 11 = M) (h15 : u.1 15 = F) (hM : Wf M) : CtI l G yX5_now wsX5_now (rmO 2 45) [.ref (gad G 34), .int 5] u (P3 u 11 13 15 (X_now M F 5)) := by
  refine CtI.of (cc := cX5_now) (maxL := 2) (ret := (some .int)) (own := RX5) (by decide) rfl rfl ?_
  rintro pg ev s0 mm below meth cd ⟨hx, hb, hr, hml, hown, hts, hlocks⟩ hE hP ls hl
  have hS : va_S (gA G) s0.heap s0.heap [] := va_S.rf
  have hl : lv_has ls 2 [(0, .ref (gad G 34)), (1, .int 5)] := hl
  have hn := hM.n
  have h8 := hM.n8
  refine lv_iload_n hx hb dX5_now_0 rfl (lv_at hl 1 rfl) ?_
  refine lv_tableIn (tgt := 58) hx hb dX5_now_1 (by decide) (by decide) rfl (by decide) ?_
  refine lv_aload_n hx hb dX5_now_58 rfl (lv_at hl 0 rfl) ?_
  refine hd_callVi (As := []) (rest := []) ⟨hx, hb, hml, hown, hts⟩ hE hP hS (c_X5_looseOnes l G u M hM) ((sI_id h11).symm) (cwV 0 hts gX5_now_X5_looseOnes rfl rfl rfl (by decide +kernel) ⟨Nat.le_of_ble_eq_true rfl, Nat.le_of_ble_eq_true rfl⟩) (mo_recv hE hP) rfl hl.1 rfl (Nat.le_of_ble_eq_true rfl) dX5_now_59 (fun rq_1 vq_1 H locs q_1 hP hS => ?_)
  have hP := hP.cast (q_1.2.trans ((sI_id h11).symm).symm)
  refine lv_cast q_1.1 ?_
  exact hd_iret hx hb hr hlocks hP hS (P3.of (by first | rfl | (simp [X_now, bey, none3, bmp]; done) | (exfalso; simp_all; done) | (simp only [X_now, bey, none3, bmp, ↓reduceIte] <;> rfl)) h11 rfl h15 (by decide) (by decide) (by decide) (fun k k0 k1 k6 => rfl) rfl) dX5_now_62
set_option maxHeartbeats 4000000 in
set_option maxRecDepth 100000 in
theorem c_X5_now_6 (l : Launch) (G : Geo) (u : Sg) (M F : Nat → Int32) (h11 : u.1 11 = M) (h15 : u.1 15 = F) (hM : Wf M) : CtI l G yX5_now wsX5_now (rmO 2 45) [.ref (gad G 34), .int 6] u (P3 u 11 13 15 (X_now M F 6)) := by
  refine CtI.of (cc := cX5_now) (maxL := 2) (ret := (some .int)) (own := RX5) (by decide) rfl rfl ?_
  rintro pg ev s0 mm below meth cd ⟨hx, hb, hr, hml, hown, hts, hlocks⟩ hE hP ls hl
  have hS : va_S (gA G) s0.heap s0.heap [] := va_S.rf
  have hl : lv_has ls 2 [(0, .ref (gad G 34)), (1, .int 6)] := hl
  have hn := hM.n
  have h8 := hM.n8
  refine lv_iload_n hx hb dX5_now_0 rfl (lv_at hl 1 rfl) ?_
  refine lv_tableIn (tgt := 63) hx hb dX5_now_1 (by decide) (by decide) rfl (by decide) ?_
  refine lv_aload_n hx hb dX5_now_63 rfl (lv_at hl 0 rfl) ?_
  refine lv_iconst (v := 5) hx hb dX5_now_64 (by decide) ?_
  refine hd_callVi (As := [.int 5]) (rest := []) ⟨hx, hb, hml, hown, hts⟩ hE hP hS (c_X5_sums l G u M hM 5 (by omega)) ((sI_id h11).symm) (cwV 1 hts gX5_now_X5_sums rfl rfl rfl (by decide +kernel) ⟨Nat.le_of_ble_eq_true rfl, Nat.le_of_ble_eq_true rfl⟩) (mo_recv hE hP) rfl hl.1 rfl (Nat.le_of_ble_eq_true rfl) dX5_now_65 (fun rq_1 vq_1 H locs q_1 hP hS => ?_)
  have hP := hP.cast (q_1.2.trans ((sI_id h11).symm).symm)
  refine lv_cast q_1.1 ?_
  exact hd_iret hx hb hr hlocks hP hS (P3.of (by first | rfl | (simp [X_now, bey, none3, bmp]; done) | (exfalso; simp_all; done) | (simp only [X_now, bey, none3, bmp, ↓reduceIte] <;> rfl)) h11 rfl h15 (by decide) (by decide) (by decide) (fun k k0 k1 k6 => rfl) rfl) dX5_now_68
set_option maxHeartbeats 4000000 in
set_option maxRecDepth 100000 in
theorem c_X5_now_o (l : Launch) (G : Geo) (u : Sg) (M F : Nat → Int32) (h11 : u.1 11 = M) (h15 : u.1 15 = F) (hM : Wf M) (w : Int32) (h_0 : ¬ w = 0) (h_1 : ¬ w = 1) (h_2 : ¬ w = 2) (h_3 : ¬ w = 3) (h_4 : ¬ w = 4) (h_5 : ¬ w = 5) (h_6 : ¬ w = 6) : CtI l G yX5_now wsX5_now (rmO 2 45) [.ref (gad G 34), .int w] u (P3 u 11 13 15 (X_now M F w)) := by
  refine CtI.of (cc := cX5_now) (maxL := 2) (ret := (some .int)) (own := RX5) (by decide) rfl rfl ?_
  rintro pg ev s0 mm below meth cd ⟨hx, hb, hr, hml, hown, hts, hlocks⟩ hE hP ls hl
  have hS : va_S (gA G) s0.heap s0.heap [] := va_S.rf
  have hl : lv_has ls 2 [(0, .ref (gad G 34)), (1, .int w)] := hl
  have hn := hM.n
  have h8 := hM.n8
  refine lv_iload_n hx hb dX5_now_0 rfl (lv_at hl 1 rfl) ?_
  refine lv_tableOut (tgt := 69) hx hb dX5_now_1 (sw_out (lo := 0) (hi := 6) (by decide) (by decide) (fun k h1 h2 => by
    rcases (show k = 0 ∨ k = 1 ∨ k = 2 ∨ k = 3 ∨ k = 4 ∨ k = 5 ∨ k = 6 by omega) with rfl | rfl | rfl | rfl | rfl | rfl | rfl
    · exact h_0
    · exact h_1
    · exact h_2
    · exact h_3
    · exact h_4
    · exact h_5
    · exact h_6
    )) (by decide) ?_
  refine lv_aload_n hx hb dX5_now_69 rfl (lv_at hl 0 rfl) ?_
  refine lv_ldc (v := (-1000000001)) hx hb hown (hts (.constant RX5 35 ((-1000000001))) (by decide +kernel)) dX5_now_70 ?_
  refine hd_callVi (As := [.int (-1000000001)]) (rest := []) ⟨hx, hb, hml, hown, hts⟩ hE hP hS (c_X5_finds_0 l G u F h15) rfl (cwV 1 hts gX5_now_X5_finds rfl rfl rfl (by decide +kernel) ⟨Nat.le_of_ble_eq_true rfl, Nat.le_of_ble_eq_true rfl⟩) (mo_recv hE hP) rfl hl.1 rfl (Nat.le_of_ble_eq_true rfl) dX5_now_72 (fun rq_1 vq_1 H locs q_1 hP hS => ?_)
  have hP := hP.cast (q_1.2)
  refine lv_cast q_1.1 ?_
  exact hd_iret hx hb hr hlocks hP hS (P3.of (by first | rfl | (simp [X_now, h_0, h_1, h_2, h_3, h_4, h_5, h_6, bey, none3, bmp]; done) | (exfalso; simp_all; done) | (simp only [X_now, h_0, h_1, h_2, h_3, h_4, h_5, h_6, bey, none3, bmp, ↓reduceIte] <;> rfl)) ((sI_ne _ _ (by decide)).trans h11) ((sI_ne _ _ (by decide)).trans rfl) (sI_at _ _ _) (by decide) (by decide) (by decide) (fun k k0 k1 k6 => ((sI_ne _ _ k6).trans rfl)) rfl) dX5_now_75
theorem c_X5_now (l : Launch) (G : Geo) (u : Sg) (M F : Nat → Int32) (h11 : u.1 11 = M) (h15 : u.1 15 = F) (hM : Wf M) (w : Int32) : CtI l G yX5_now wsX5_now (rmO 2 45) [.ref (gad G 34), .int w] u (P3 u 11 13 15 (X_now M F w)) := by
  by_cases h_0 : w = 0
  · subst h_0; exact c_X5_now_0 l G u M F h11 h15 hM
  by_cases h_1 : w = 1
  · subst h_1; exact c_X5_now_1 l G u M F h11 h15 hM
  by_cases h_2 : w = 2
  · subst h_2; exact c_X5_now_2 l G u M F h11 h15 hM
  by_cases h_3 : w = 3
  · subst h_3; exact c_X5_now_3 l G u M F h11 h15 hM
  by_cases h_4 : w = 4
  · subst h_4; exact c_X5_now_4 l G u M F h11 h15 hM
  by_cases h_5 : w = 5
  · subst h_5; exact c_X5_now_5 l G u M F h11 h15 hM
  by_cases h_6 : w = 6
  · subst h_6; exact c_X5_now_6 l G u M F h11 h15 hM
  exact c_X5_now_o l G u M F h11 h15 hM w h_0 h_1 h_2 h_3 h_4 h_5 h_6
set_option maxHeartbeats 4000000 in
set_option maxRecDepth 100000 in
theorem c_X5_person (l : Launch) (G : Geo) (u : Sg) (M F : Nat → Int32) (h11 : u.1 11 = M) (h15 : u.1 15 = F) (hM : Wf M) (k f : Int32) : CtI l G yX5_person wsX5_person (rmO 2 48) [.ref (gad G 34), .int k, .int f] u (P3 u 11 13 15 (X_person M F k f)) := by
  refine CtI.of (cc := cX5_person) (maxL := 3) (ret := (some .int)) (own := RX5) (by decide) rfl rfl ?_
  rintro pg ev s0 mm below meth cd ⟨hx, hb, hr, hml, hown, hts, hlocks⟩ hE hP ls hl
  have hS : va_S (gA G) s0.heap s0.heap [] := va_S.rf
  have hl : lv_has ls 3 [(0, .ref (gad G 34)), (1, .int k), (2, .int f)] := hl
  have hin5 : ∀ w ∈ wsX50, w ∈ wsX5_person := by decide +kernel
  have hn := hM.n
  have h8 := hM.n8
  refine lv_iload_n hx hb dX5_person_0 rfl (lv_at hl 1 rfl) ?_
  refine lv_i2l hx hb dX5_person_1 rfl ?_
  refine lv_iconst (v := 0) hx hb dX5_person_2 (by decide) ?_
  refine lv_iconst (v := 5) hx hb dX5_person_3 (by decide) ?_
  refine hd_callSi (As := [.long k.toInt64, .int 0, .int 5]) (rest := []) ⟨hx, hb, hml, hown, hts⟩ hE hP hS (c_X5_inI l G u k 0 5) rfl (va_cwS 3 hts gX5_person_X5_in rfl rfl rfl (by decide +kernel) ⟨Nat.le_of_ble_eq_true rfl, Nat.le_of_ble_eq_true rfl⟩) rfl hl.1 rfl (Nat.le_of_ble_eq_true rfl) dX5_person_4 (fun rq_1 vq_1 H locs q_1 hP hS => ?_)
  have hP := hP.cast (q_1.2)
  refine lv_cast q_1.1 ?_
  refine bo_eq (tgt := 22) hx hb dX5_person_7 (by decide) (fun c_2 => ?_) (fun c_2 => ?_)
  · skip
    refine lv_aload_n hx hb dX5_person_22 rfl (lv_at hl 0 rfl) ?_
    refine lv_ldc (v := (-1000000001)) hx hb hown (hts (.constant RX5 35 ((-1000000001))) (by decide +kernel)) dX5_person_23 ?_
    refine hd_callVi (As := [.int (-1000000001)]) (rest := []) ⟨hx, hb, hml, hown, hts⟩ hE hP hS (c_X5_finds_0 l G u F h15) rfl (cwV 1 hts gX5_person_X5_finds rfl rfl rfl (by decide +kernel) ⟨Nat.le_of_ble_eq_true rfl, Nat.le_of_ble_eq_true rfl⟩) (mo_recv hE hP) rfl hl.1 rfl (Nat.le_of_ble_eq_true rfl) dX5_person_25 (fun rq_3 vq_3 H locs q_3 hP hS => ?_)
    have hP := hP.cast (q_3.2)
    refine lv_cast q_3.1 ?_
    exact hd_iret hx hb hr hlocks hP hS (P3.of (by simp [X_person, bey, bmp, c_2]) ((sI_ne _ _ (by decide)).trans h11) ((sI_ne _ _ (by decide)).trans rfl) (sI_at _ _ _) (by decide) (by decide) (by decide) (fun k k0 k1 k6 => ((sI_ne _ _ k6).trans rfl)) rfl) dX5_person_28
  · skip
    refine lv_iload_n hx hb dX5_person_10 rfl (lv_at hl 2 rfl) ?_
    refine lv_i2l hx hb dX5_person_11 rfl ?_
    refine lv_iconst (v := 0) hx hb dX5_person_12 (by decide) ?_
    refine lv_sipush (v := 999) hx hb dX5_person_13 (by decide) ?_
    refine hd_callSi (As := [.long f.toInt64, .int 0, .int 999]) (rest := []) ⟨hx, hb, hml, hown, hts⟩ hE hP hS (c_X5_inI l G u f 0 999) rfl (va_cwS 3 hts gX5_person_X5_in rfl rfl rfl (by decide +kernel) ⟨Nat.le_of_ble_eq_true rfl, Nat.le_of_ble_eq_true rfl⟩) rfl hl.1 rfl (Nat.le_of_ble_eq_true rfl) dX5_person_16 (fun rq_4 vq_4 H locs q_4 hP hS => ?_)
    have hP := hP.cast (q_4.2)
    refine lv_cast q_4.1 ?_
    refine bo_ne (tgt := 29) hx hb dX5_person_19 (by decide) (fun c_5 => ?_) (fun c_5 => ?_)
    · skip
      refine lv_aload_n hx hb dX5_person_29 rfl (lv_at hl 0 rfl) ?_
      refine mo_get hx hb hts hin5 hown hE hP rfl 0 (by decide) (hts (.fieldLink RX5 9 "HeldDoorModel" "m" "[I") (by decide +kernel)) (v := .ref (gad G 35)) rfl dX5_person_30 ?_
      refine lv_iconst (v := 4) hx hb dX5_person_33 (by decide) ?_
      refine ar_ld hx hb hE hP 35 53 (by decide) (ar_at35 h11) 4 (by omega) dX5_person_34 ?_
      refine lv_cast hn ?_
      refine lv_bipush (v := 8) hx hb dX5_person_35 (by decide) ?_
      refine nn_ne (a := nP M) (b := 8) (by omega) (by omega) (tgt := 49) hx hb dX5_person_37 (by decide) (fun c_6 => ?_) (fun c_6 => ?_)
      · skip
        have hfu := full_n hM (show nP M < 8 by omega)
        refine lv_aload_n hx hb dX5_person_49 rfl (lv_at hl 0 rfl) ?_
        refine lv_iload_n hx hb dX5_person_50 rfl (lv_at hl 1 rfl) ?_
        refine lv_iload_n hx hb dX5_person_51 rfl (lv_at hl 2 rfl) ?_
        refine lv_iconst (v := 0) hx hb dX5_person_52 (by decide) ?_
        refine lv_iconst (v := 1) hx hb dX5_person_53 (by decide) ?_
        refine hd_callVi (As := [.int k, .int f, .int 0, .int 1]) (rest := []) ⟨hx, hb, hml, hown, hts⟩ hE hP hS (c_X5_comesAs l G u M (nP M) hn (by omega) k f 0 1) ((sI_id h11).symm) (cwV 4 hts gX5_person_X5_comesAs rfl rfl rfl (by decide +kernel) ⟨Nat.le_of_ble_eq_true rfl, Nat.le_of_ble_eq_true rfl⟩) (mo_recv hE hP) rfl hl.1 rfl (Nat.le_of_ble_eq_true rfl) dX5_person_54 (fun rq_7 vq_7 H locs q_7 hP hS => ?_)
        have hP := hP.cast (q_7.2)
        refine lv_cast q_7.1 ?_
        exact hd_iret hx hb hr hlocks hP hS (P3.of (by rw [X_person, c_2, if_neg (by decide), c_5, if_neg (by decide), hfu, if_neg (by decide), adM_C]) (sI_at _ _ _) ((sI_ne _ _ (by decide)).trans rfl) ((sI_ne _ _ (by decide)).trans h15) (by decide) (by decide) (by decide) (fun k k0 k1 k6 => ((sI_ne _ _ k0).trans rfl)) rfl) dX5_person_57
      · skip
        have hfu := full_t hM c_6
        refine lv_aload_n hx hb dX5_person_40 rfl (lv_at hl 0 rfl) ?_
        refine lv_ldc (v := (-1000000002)) hx hb hown (hts (.constant RX5 70 ((-1000000002))) (by decide +kernel)) dX5_person_41 ?_
        refine hd_callVi (As := [.int (-1000000002)]) (rest := []) ⟨hx, hb, hml, hown, hts⟩ hE hP hS (c_X5_finds_1 l G u F h15) rfl (cwV 1 hts gX5_person_X5_finds rfl rfl rfl (by decide +kernel) ⟨Nat.le_of_ble_eq_true rfl, Nat.le_of_ble_eq_true rfl⟩) (mo_recv hE hP) rfl hl.1 rfl (Nat.le_of_ble_eq_true rfl) dX5_person_43 (fun rq_8 vq_8 H locs q_8 hP hS => ?_)
        have hP := hP.cast (q_8.2)
        refine lv_cast q_8.1 ?_
        refine lv_goto (tgt := 57) hx hb dX5_person_46 (by decide) ?_
        exact hd_iret hx hb hr hlocks hP hS (P3.of (by rw [X_person, c_2, if_neg (by decide), c_5, if_neg (by decide), hfu, if_pos rfl]) ((sI_ne _ _ (by decide)).trans h11) ((sI_ne _ _ (by decide)).trans rfl) (sI_at _ _ _) (by decide) (by decide) (by decide) (fun k k0 k1 k6 => ((sI_ne _ _ k6).trans rfl)) rfl) dX5_person_57
    · skip
      refine lv_aload_n hx hb dX5_person_22 rfl (lv_at hl 0 rfl) ?_
      refine lv_ldc (v := (-1000000001)) hx hb hown (hts (.constant RX5 35 ((-1000000001))) (by decide +kernel)) dX5_person_23 ?_
      refine hd_callVi (As := [.int (-1000000001)]) (rest := []) ⟨hx, hb, hml, hown, hts⟩ hE hP hS (c_X5_finds_0 l G u F h15) rfl (cwV 1 hts gX5_person_X5_finds rfl rfl rfl (by decide +kernel) ⟨Nat.le_of_ble_eq_true rfl, Nat.le_of_ble_eq_true rfl⟩) (mo_recv hE hP) rfl hl.1 rfl (Nat.le_of_ble_eq_true rfl) dX5_person_25 (fun rq_9 vq_9 H locs q_9 hP hS => ?_)
      have hP := hP.cast (q_9.2)
      refine lv_cast q_9.1 ?_
      exact hd_iret hx hb hr hlocks hP hS (P3.of (by simp [X_person, bey, bmp, c_2, c_5]) ((sI_ne _ _ (by decide)).trans h11) ((sI_ne _ _ (by decide)).trans rfl) (sI_at _ _ _) (by decide) (by decide) (by decide) (fun k k0 k1 k6 => ((sI_ne _ _ k6).trans rfl)) rfl) dX5_person_28
set_option maxHeartbeats 4000000 in
set_option maxRecDepth 100000 in
theorem c_X5_of_0 (l : Launch) (G : Geo) (u : Sg) (M F : Nat → Int32) (h11 : u.1 11 = M) (h15 : u.1 15 = F) (hM : Wf M) (x : Int32) : CtI l G yX5_of wsX5_of (rmO 2 47) [.ref (gad G 34), .int x, .int 0] u (P3 u 11 13 15 (X_of M F x 0)) := by
  refine CtI.of (cc := cX5_of) (maxL := 3) (ret := (some .int)) (own := RX5) (by decide) rfl rfl ?_
  rintro pg ev s0 mm below meth cd ⟨hx, hb, hr, hml, hown, hts, hlocks⟩ hE hP ls hl
  have hS : va_S (gA G) s0.heap s0.heap [] := va_S.rf
  have hl : lv_has ls 3 [(0, .ref (gad G 34)), (1, .int x), (2, .int 0)] := hl
  have hn := hM.n
  have h8 := hM.n8
  refine lv_aload_n hx hb dX5_of_0 rfl (lv_at hl 0 rfl) ?_
  refine lv_iload_n hx hb dX5_of_1 rfl (lv_at hl 1 rfl) ?_
  refine hd_callVi (As := [.int x]) (rest := []) ⟨hx, hb, hml, hown, hts⟩ hE hP hS (c_X5_isPerson l G u M h11 x) rfl (cwV 1 hts gX5_of_X5_isPerson rfl rfl rfl (by decide +kernel) ⟨Nat.le_of_ble_eq_true rfl, Nat.le_of_ble_eq_true rfl⟩) (mo_recv hE hP) rfl hl.1 rfl (Nat.le_of_ble_eq_true rfl) dX5_of_2 (fun rq_1 vq_1 H locs q_1 hP hS => ?_)
  have hP := hP.cast (q_1.2)
  refine lv_cast q_1.1 ?_
  refine bo_eq (tgt := 19) hx hb dX5_of_5 (by decide) (fun c_2 => ?_) (fun c_2 => ?_)
  · skip
    refine lv_aload_n hx hb dX5_of_19 rfl (lv_at hl 0 rfl) ?_
    refine lv_ldc (v := (-1000000001)) hx hb hown (hts (.constant RX5 35 ((-1000000001))) (by decide +kernel)) dX5_of_20 ?_
    refine hd_callVi (As := [.int (-1000000001)]) (rest := []) ⟨hx, hb, hml, hown, hts⟩ hE hP hS (c_X5_finds_0 l G u F h15) rfl (cwV 1 hts gX5_of_X5_finds rfl rfl rfl (by decide +kernel) ⟨Nat.le_of_ble_eq_true rfl, Nat.le_of_ble_eq_true rfl⟩) (mo_recv hE hP) rfl hl.1 rfl (Nat.le_of_ble_eq_true rfl) dX5_of_22 (fun rq_3 vq_3 H locs q_3 hP hS => ?_)
    have hP := hP.cast (q_3.2)
    refine lv_cast q_3.1 ?_
    exact hd_iret hx hb hr hlocks hP hS (P3.of (by first | rfl | (simp [X_of, opn, bey, none3, bmp, c_2]; done) | (exfalso; simp_all; done) | (simp only [X_of, opn, bey, none3, bmp, c_2, ↓reduceIte] <;> rfl)) ((sI_ne _ _ (by decide)).trans h11) ((sI_ne _ _ (by decide)).trans rfl) (sI_at _ _ _) (by decide) (by decide) (by decide) (fun k k0 k1 k6 => ((sI_ne _ _ k6).trans rfl)) rfl) dX5_of_25
  · skip
    obtain ⟨q, hq, rfl⟩ := pe_get hM c_2
    refine lv_iload_n hx hb dX5_of_8 rfl (lv_at hl 2 rfl) ?_
    refine lv_i2l hx hb dX5_of_9 rfl ?_
    refine lv_iconst (v := 0) hx hb dX5_of_10 (by decide) ?_
    refine lv_bipush (v := 6) hx hb dX5_of_11 (by decide) ?_
    refine hd_callSi (As := [.long ((0 : Int32).toInt64), .int 0, .int 6]) (rest := []) ⟨hx, hb, hml, hown, hts⟩ hE hP hS (c_X5_inI l G u 0 0 6) rfl (va_cwS 3 hts gX5_of_X5_in rfl rfl rfl (by decide +kernel) ⟨Nat.le_of_ble_eq_true rfl, Nat.le_of_ble_eq_true rfl⟩) rfl hl.1 rfl (Nat.le_of_ble_eq_true rfl) dX5_of_13 (fun rq_4 vq_4 H locs q_4 hP hS => ?_)
    have hP := hP.cast (q_4.2)
    refine lv_cast q_4.1 ?_
    refine bo_ne (tgt := 26) hx hb dX5_of_16 (by decide) (fun c_5 => ?_) (fun c_5 => absurd c_5 (by decide))
    refine lv_iload_n hx hb dX5_of_26 rfl (lv_at hl 2 rfl) ?_
    refine lv_bipush (v := 6) hx hb dX5_of_27 (by decide) ?_
    refine lv_icmp_ge (tgt := 41) hx hb dX5_of_29 (by decide) (fun h => False.elim (by revert h; decide)) (fun _ => ?_)
    refine lv_aload_n hx hb dX5_of_32 rfl (lv_at hl 0 rfl) ?_
    refine lv_iload_n hx hb dX5_of_33 rfl (lv_at hl 1 rfl) ?_
    refine lv_iload_n hx hb dX5_of_34 rfl (lv_at hl 2 rfl) ?_
    refine hd_callVi (As := [.int (nI q), .int 0]) (rest := []) ⟨hx, hb, hml, hown, hts⟩ hE hP hS (c_X5_it l G u M q 0 (by omega) (by omega)) ((sI_id h11).symm) (cwV 2 hts gX5_of_X5_it rfl rfl rfl (by decide +kernel) ⟨Nat.le_of_ble_eq_true rfl, Nat.le_of_ble_eq_true rfl⟩) (mo_recv hE hP) rfl hl.1 rfl (Nat.le_of_ble_eq_true rfl) dX5_of_35 (fun rq_6 vq_6 H locs q_6 hP hS => ?_)
    have hP := hP.cast (q_6.2.trans ((sI_id h11).symm).symm)
    refine lv_cast q_6.1 ?_
    refine lv_goto (tgt := 60) hx hb dX5_of_38 (by decide) ?_
    exact hd_iret hx hb hr hlocks hP hS (P3.of (by first | rfl | (simp [X_of, opn, bey, none3, bmp, nI_clamp (show q < 2 ^ 31 by omega), c_2, c_5]; done) | (exfalso; simp_all; done) | (simp only [X_of, opn, bey, none3, bmp, nI_clamp (show q < 2 ^ 31 by omega), c_2, c_5, ↓reduceIte] <;> rfl)) h11 rfl h15 (by decide) (by decide) (by decide) (fun k k0 k1 k6 => rfl) rfl) dX5_of_60
set_option maxHeartbeats 4000000 in
set_option maxRecDepth 100000 in
theorem c_X5_of_1 (l : Launch) (G : Geo) (u : Sg) (M F : Nat → Int32) (h11 : u.1 11 = M) (h15 : u.1 15 = F) (hM : Wf M) (x : Int32) : CtI l G yX5_of wsX5_of (rmO 2 47) [.ref (gad G 34), .int x, .int 1] u (P3 u 11 13 15 (X_of M F x 1)) := by
  refine CtI.of (cc := cX5_of) (maxL := 3) (ret := (some .int)) (own := RX5) (by decide) rfl rfl ?_
  rintro pg ev s0 mm below meth cd ⟨hx, hb, hr, hml, hown, hts, hlocks⟩ hE hP ls hl
  have hS : va_S (gA G) s0.heap s0.heap [] := va_S.rf
  have hl : lv_has ls 3 [(0, .ref (gad G 34)), (1, .int x), (2, .int 1)] := hl
  have hn := hM.n
  have h8 := hM.n8
  refine lv_aload_n hx hb dX5_of_0 rfl (lv_at hl 0 rfl) ?_
  refine lv_iload_n hx hb dX5_of_1 rfl (lv_at hl 1 rfl) ?_
  refine hd_callVi (As := [.int x]) (rest := []) ⟨hx, hb, hml, hown, hts⟩ hE hP hS (c_X5_isPerson l G u M h11 x) rfl (cwV 1 hts gX5_of_X5_isPerson rfl rfl rfl (by decide +kernel) ⟨Nat.le_of_ble_eq_true rfl, Nat.le_of_ble_eq_true rfl⟩) (mo_recv hE hP) rfl hl.1 rfl (Nat.le_of_ble_eq_true rfl) dX5_of_2 (fun rq_1 vq_1 H locs q_1 hP hS => ?_)
  have hP := hP.cast (q_1.2)
  refine lv_cast q_1.1 ?_
  refine bo_eq (tgt := 19) hx hb dX5_of_5 (by decide) (fun c_2 => ?_) (fun c_2 => ?_)
  · skip
    refine lv_aload_n hx hb dX5_of_19 rfl (lv_at hl 0 rfl) ?_
    refine lv_ldc (v := (-1000000001)) hx hb hown (hts (.constant RX5 35 ((-1000000001))) (by decide +kernel)) dX5_of_20 ?_
    refine hd_callVi (As := [.int (-1000000001)]) (rest := []) ⟨hx, hb, hml, hown, hts⟩ hE hP hS (c_X5_finds_0 l G u F h15) rfl (cwV 1 hts gX5_of_X5_finds rfl rfl rfl (by decide +kernel) ⟨Nat.le_of_ble_eq_true rfl, Nat.le_of_ble_eq_true rfl⟩) (mo_recv hE hP) rfl hl.1 rfl (Nat.le_of_ble_eq_true rfl) dX5_of_22 (fun rq_3 vq_3 H locs q_3 hP hS => ?_)
    have hP := hP.cast (q_3.2)
    refine lv_cast q_3.1 ?_
    exact hd_iret hx hb hr hlocks hP hS (P3.of (by first | rfl | (simp [X_of, opn, bey, none3, bmp, c_2]; done) | (exfalso; simp_all; done) | (simp only [X_of, opn, bey, none3, bmp, c_2, ↓reduceIte] <;> rfl)) ((sI_ne _ _ (by decide)).trans h11) ((sI_ne _ _ (by decide)).trans rfl) (sI_at _ _ _) (by decide) (by decide) (by decide) (fun k k0 k1 k6 => ((sI_ne _ _ k6).trans rfl)) rfl) dX5_of_25
  · skip
    obtain ⟨q, hq, rfl⟩ := pe_get hM c_2
    refine lv_iload_n hx hb dX5_of_8 rfl (lv_at hl 2 rfl) ?_
    refine lv_i2l hx hb dX5_of_9 rfl ?_
    refine lv_iconst (v := 0) hx hb dX5_of_10 (by decide) ?_
    refine lv_bipush (v := 6) hx hb dX5_of_11 (by decide) ?_
    refine hd_callSi (As := [.long ((1 : Int32).toInt64), .int 0, .int 6]) (rest := []) ⟨hx, hb, hml, hown, hts⟩ hE hP hS (c_X5_inI l G u 1 0 6) rfl (va_cwS 3 hts gX5_of_X5_in rfl rfl rfl (by decide +kernel) ⟨Nat.le_of_ble_eq_true rfl, Nat.le_of_ble_eq_true rfl⟩) rfl hl.1 rfl (Nat.le_of_ble_eq_true rfl) dX5_of_13 (fun rq_4 vq_4 H locs q_4 hP hS => ?_)
    have hP := hP.cast (q_4.2)
    refine lv_cast q_4.1 ?_
    refine bo_ne (tgt := 26) hx hb dX5_of_16 (by decide) (fun c_5 => ?_) (fun c_5 => absurd c_5 (by decide))
    refine lv_iload_n hx hb dX5_of_26 rfl (lv_at hl 2 rfl) ?_
    refine lv_bipush (v := 6) hx hb dX5_of_27 (by decide) ?_
    refine lv_icmp_ge (tgt := 41) hx hb dX5_of_29 (by decide) (fun h => False.elim (by revert h; decide)) (fun _ => ?_)
    refine lv_aload_n hx hb dX5_of_32 rfl (lv_at hl 0 rfl) ?_
    refine lv_iload_n hx hb dX5_of_33 rfl (lv_at hl 1 rfl) ?_
    refine lv_iload_n hx hb dX5_of_34 rfl (lv_at hl 2 rfl) ?_
    refine hd_callVi (As := [.int (nI q), .int 1]) (rest := []) ⟨hx, hb, hml, hown, hts⟩ hE hP hS (c_X5_it l G u M q 1 (by omega) (by omega)) ((sI_id h11).symm) (cwV 2 hts gX5_of_X5_it rfl rfl rfl (by decide +kernel) ⟨Nat.le_of_ble_eq_true rfl, Nat.le_of_ble_eq_true rfl⟩) (mo_recv hE hP) rfl hl.1 rfl (Nat.le_of_ble_eq_true rfl) dX5_of_35 (fun rq_6 vq_6 H locs q_6 hP hS => ?_)
    have hP := hP.cast (q_6.2.trans ((sI_id h11).symm).symm)
    refine lv_cast q_6.1 ?_
    refine lv_goto (tgt := 60) hx hb dX5_of_38 (by decide) ?_
    exact hd_iret hx hb hr hlocks hP hS (P3.of (by first | rfl | (simp [X_of, opn, bey, none3, bmp, nI_clamp (show q < 2 ^ 31 by omega), c_2, c_5]; done) | (exfalso; simp_all; done) | (simp only [X_of, opn, bey, none3, bmp, nI_clamp (show q < 2 ^ 31 by omega), c_2, c_5, ↓reduceIte] <;> rfl)) h11 rfl h15 (by decide) (by decide) (by decide) (fun k k0 k1 k6 => rfl) rfl) dX5_of_60
set_option maxHeartbeats 4000000 in
set_option maxRecDepth 100000 in
theorem c_X5_of_2 (l : Launch) (G : Geo) (u : Sg) (M F : Nat → Int32) (h11 : u.1 11 = M) (h15 : u.1 15 = F) (hM : Wf M) (x : Int32) : CtI l G yX5_of wsX5_of (rmO 2 47) [.ref (gad G 34), .int x, .int 2] u (P3 u 11 13 15 (X_of M F x 2)) := by
  refine CtI.of (cc := cX5_of) (maxL := 3) (ret := (some .int)) (own := RX5) (by decide) rfl rfl ?_
  rintro pg ev s0 mm below meth cd ⟨hx, hb, hr, hml, hown, hts, hlocks⟩ hE hP ls hl
  have hS : va_S (gA G) s0.heap s0.heap [] := va_S.rf
  have hl : lv_has ls 3 [(0, .ref (gad G 34)), (1, .int x), (2, .int 2)] := hl
  have hn := hM.n
  have h8 := hM.n8
  refine lv_aload_n hx hb dX5_of_0 rfl (lv_at hl 0 rfl) ?_
  refine lv_iload_n hx hb dX5_of_1 rfl (lv_at hl 1 rfl) ?_
  refine hd_callVi (As := [.int x]) (rest := []) ⟨hx, hb, hml, hown, hts⟩ hE hP hS (c_X5_isPerson l G u M h11 x) rfl (cwV 1 hts gX5_of_X5_isPerson rfl rfl rfl (by decide +kernel) ⟨Nat.le_of_ble_eq_true rfl, Nat.le_of_ble_eq_true rfl⟩) (mo_recv hE hP) rfl hl.1 rfl (Nat.le_of_ble_eq_true rfl) dX5_of_2 (fun rq_1 vq_1 H locs q_1 hP hS => ?_)
  have hP := hP.cast (q_1.2)
  refine lv_cast q_1.1 ?_
  refine bo_eq (tgt := 19) hx hb dX5_of_5 (by decide) (fun c_2 => ?_) (fun c_2 => ?_)
  · skip
    refine lv_aload_n hx hb dX5_of_19 rfl (lv_at hl 0 rfl) ?_
    refine lv_ldc (v := (-1000000001)) hx hb hown (hts (.constant RX5 35 ((-1000000001))) (by decide +kernel)) dX5_of_20 ?_
    refine hd_callVi (As := [.int (-1000000001)]) (rest := []) ⟨hx, hb, hml, hown, hts⟩ hE hP hS (c_X5_finds_0 l G u F h15) rfl (cwV 1 hts gX5_of_X5_finds rfl rfl rfl (by decide +kernel) ⟨Nat.le_of_ble_eq_true rfl, Nat.le_of_ble_eq_true rfl⟩) (mo_recv hE hP) rfl hl.1 rfl (Nat.le_of_ble_eq_true rfl) dX5_of_22 (fun rq_3 vq_3 H locs q_3 hP hS => ?_)
    have hP := hP.cast (q_3.2)
    refine lv_cast q_3.1 ?_
    exact hd_iret hx hb hr hlocks hP hS (P3.of (by first | rfl | (simp [X_of, opn, bey, none3, bmp, c_2]; done) | (exfalso; simp_all; done) | (simp only [X_of, opn, bey, none3, bmp, c_2, ↓reduceIte] <;> rfl)) ((sI_ne _ _ (by decide)).trans h11) ((sI_ne _ _ (by decide)).trans rfl) (sI_at _ _ _) (by decide) (by decide) (by decide) (fun k k0 k1 k6 => ((sI_ne _ _ k6).trans rfl)) rfl) dX5_of_25
  · skip
    obtain ⟨q, hq, rfl⟩ := pe_get hM c_2
    refine lv_iload_n hx hb dX5_of_8 rfl (lv_at hl 2 rfl) ?_
    refine lv_i2l hx hb dX5_of_9 rfl ?_
    refine lv_iconst (v := 0) hx hb dX5_of_10 (by decide) ?_
    refine lv_bipush (v := 6) hx hb dX5_of_11 (by decide) ?_
    refine hd_callSi (As := [.long ((2 : Int32).toInt64), .int 0, .int 6]) (rest := []) ⟨hx, hb, hml, hown, hts⟩ hE hP hS (c_X5_inI l G u 2 0 6) rfl (va_cwS 3 hts gX5_of_X5_in rfl rfl rfl (by decide +kernel) ⟨Nat.le_of_ble_eq_true rfl, Nat.le_of_ble_eq_true rfl⟩) rfl hl.1 rfl (Nat.le_of_ble_eq_true rfl) dX5_of_13 (fun rq_4 vq_4 H locs q_4 hP hS => ?_)
    have hP := hP.cast (q_4.2)
    refine lv_cast q_4.1 ?_
    refine bo_ne (tgt := 26) hx hb dX5_of_16 (by decide) (fun c_5 => ?_) (fun c_5 => absurd c_5 (by decide))
    refine lv_iload_n hx hb dX5_of_26 rfl (lv_at hl 2 rfl) ?_
    refine lv_bipush (v := 6) hx hb dX5_of_27 (by decide) ?_
    refine lv_icmp_ge (tgt := 41) hx hb dX5_of_29 (by decide) (fun h => False.elim (by revert h; decide)) (fun _ => ?_)
    refine lv_aload_n hx hb dX5_of_32 rfl (lv_at hl 0 rfl) ?_
    refine lv_iload_n hx hb dX5_of_33 rfl (lv_at hl 1 rfl) ?_
    refine lv_iload_n hx hb dX5_of_34 rfl (lv_at hl 2 rfl) ?_
    refine hd_callVi (As := [.int (nI q), .int 2]) (rest := []) ⟨hx, hb, hml, hown, hts⟩ hE hP hS (c_X5_it l G u M q 2 (by omega) (by omega)) ((sI_id h11).symm) (cwV 2 hts gX5_of_X5_it rfl rfl rfl (by decide +kernel) ⟨Nat.le_of_ble_eq_true rfl, Nat.le_of_ble_eq_true rfl⟩) (mo_recv hE hP) rfl hl.1 rfl (Nat.le_of_ble_eq_true rfl) dX5_of_35 (fun rq_6 vq_6 H locs q_6 hP hS => ?_)
    have hP := hP.cast (q_6.2.trans ((sI_id h11).symm).symm)
    refine lv_cast q_6.1 ?_
    refine lv_goto (tgt := 60) hx hb dX5_of_38 (by decide) ?_
    exact hd_iret hx hb hr hlocks hP hS (P3.of (by first | rfl | (simp [X_of, opn, bey, none3, bmp, nI_clamp (show q < 2 ^ 31 by omega), c_2, c_5]; done) | (exfalso; simp_all; done) | (simp only [X_of, opn, bey, none3, bmp, nI_clamp (show q < 2 ^ 31 by omega), c_2, c_5, ↓reduceIte] <;> rfl)) h11 rfl h15 (by decide) (by decide) (by decide) (fun k k0 k1 k6 => rfl) rfl) dX5_of_60
set_option maxHeartbeats 4000000 in
set_option maxRecDepth 100000 in
theorem c_X5_of_3 (l : Launch) (G : Geo) (u : Sg) (M F : Nat → Int32) (h11 : u.1 11 = M) (h15 : u.1 15 = F) (hM : Wf M) (x : Int32) : CtI l G yX5_of wsX5_of (rmO 2 47) [.ref (gad G 34), .int x, .int 3] u (P3 u 11 13 15 (X_of M F x 3)) := by
  refine CtI.of (cc := cX5_of) (maxL := 3) (ret := (some .int)) (own := RX5) (by decide) rfl rfl ?_
  rintro pg ev s0 mm below meth cd ⟨hx, hb, hr, hml, hown, hts, hlocks⟩ hE hP ls hl
  have hS : va_S (gA G) s0.heap s0.heap [] := va_S.rf
  have hl : lv_has ls 3 [(0, .ref (gad G 34)), (1, .int x), (2, .int 3)] := hl
  have hn := hM.n
  have h8 := hM.n8
  refine lv_aload_n hx hb dX5_of_0 rfl (lv_at hl 0 rfl) ?_
  refine lv_iload_n hx hb dX5_of_1 rfl (lv_at hl 1 rfl) ?_
  refine hd_callVi (As := [.int x]) (rest := []) ⟨hx, hb, hml, hown, hts⟩ hE hP hS (c_X5_isPerson l G u M h11 x) rfl (cwV 1 hts gX5_of_X5_isPerson rfl rfl rfl (by decide +kernel) ⟨Nat.le_of_ble_eq_true rfl, Nat.le_of_ble_eq_true rfl⟩) (mo_recv hE hP) rfl hl.1 rfl (Nat.le_of_ble_eq_true rfl) dX5_of_2 (fun rq_1 vq_1 H locs q_1 hP hS => ?_)
  have hP := hP.cast (q_1.2)
  refine lv_cast q_1.1 ?_
  refine bo_eq (tgt := 19) hx hb dX5_of_5 (by decide) (fun c_2 => ?_) (fun c_2 => ?_)
  · skip
    refine lv_aload_n hx hb dX5_of_19 rfl (lv_at hl 0 rfl) ?_
    refine lv_ldc (v := (-1000000001)) hx hb hown (hts (.constant RX5 35 ((-1000000001))) (by decide +kernel)) dX5_of_20 ?_
    refine hd_callVi (As := [.int (-1000000001)]) (rest := []) ⟨hx, hb, hml, hown, hts⟩ hE hP hS (c_X5_finds_0 l G u F h15) rfl (cwV 1 hts gX5_of_X5_finds rfl rfl rfl (by decide +kernel) ⟨Nat.le_of_ble_eq_true rfl, Nat.le_of_ble_eq_true rfl⟩) (mo_recv hE hP) rfl hl.1 rfl (Nat.le_of_ble_eq_true rfl) dX5_of_22 (fun rq_3 vq_3 H locs q_3 hP hS => ?_)
    have hP := hP.cast (q_3.2)
    refine lv_cast q_3.1 ?_
    exact hd_iret hx hb hr hlocks hP hS (P3.of (by first | rfl | (simp [X_of, opn, bey, none3, bmp, c_2]; done) | (exfalso; simp_all; done) | (simp only [X_of, opn, bey, none3, bmp, c_2, ↓reduceIte] <;> rfl)) ((sI_ne _ _ (by decide)).trans h11) ((sI_ne _ _ (by decide)).trans rfl) (sI_at _ _ _) (by decide) (by decide) (by decide) (fun k k0 k1 k6 => ((sI_ne _ _ k6).trans rfl)) rfl) dX5_of_25
  · skip
    obtain ⟨q, hq, rfl⟩ := pe_get hM c_2
    refine lv_iload_n hx hb dX5_of_8 rfl (lv_at hl 2 rfl) ?_
    refine lv_i2l hx hb dX5_of_9 rfl ?_
    refine lv_iconst (v := 0) hx hb dX5_of_10 (by decide) ?_
    refine lv_bipush (v := 6) hx hb dX5_of_11 (by decide) ?_
    refine hd_callSi (As := [.long ((3 : Int32).toInt64), .int 0, .int 6]) (rest := []) ⟨hx, hb, hml, hown, hts⟩ hE hP hS (c_X5_inI l G u 3 0 6) rfl (va_cwS 3 hts gX5_of_X5_in rfl rfl rfl (by decide +kernel) ⟨Nat.le_of_ble_eq_true rfl, Nat.le_of_ble_eq_true rfl⟩) rfl hl.1 rfl (Nat.le_of_ble_eq_true rfl) dX5_of_13 (fun rq_4 vq_4 H locs q_4 hP hS => ?_)
    have hP := hP.cast (q_4.2)
    refine lv_cast q_4.1 ?_
    refine bo_ne (tgt := 26) hx hb dX5_of_16 (by decide) (fun c_5 => ?_) (fun c_5 => absurd c_5 (by decide))
    refine lv_iload_n hx hb dX5_of_26 rfl (lv_at hl 2 rfl) ?_
    refine lv_bipush (v := 6) hx hb dX5_of_27 (by decide) ?_
    refine lv_icmp_ge (tgt := 41) hx hb dX5_of_29 (by decide) (fun h => False.elim (by revert h; decide)) (fun _ => ?_)
    refine lv_aload_n hx hb dX5_of_32 rfl (lv_at hl 0 rfl) ?_
    refine lv_iload_n hx hb dX5_of_33 rfl (lv_at hl 1 rfl) ?_
    refine lv_iload_n hx hb dX5_of_34 rfl (lv_at hl 2 rfl) ?_
    refine hd_callVi (As := [.int (nI q), .int 3]) (rest := []) ⟨hx, hb, hml, hown, hts⟩ hE hP hS (c_X5_it l G u M q 3 (by omega) (by omega)) ((sI_id h11).symm) (cwV 2 hts gX5_of_X5_it rfl rfl rfl (by decide +kernel) ⟨Nat.le_of_ble_eq_true rfl, Nat.le_of_ble_eq_true rfl⟩) (mo_recv hE hP) rfl hl.1 rfl (Nat.le_of_ble_eq_true rfl) dX5_of_35 (fun rq_6 vq_6 H locs q_6 hP hS => ?_)
    have hP := hP.cast (q_6.2.trans ((sI_id h11).symm).symm)
    refine lv_cast q_6.1 ?_
    refine lv_goto (tgt := 60) hx hb dX5_of_38 (by decide) ?_
    exact hd_iret hx hb hr hlocks hP hS (P3.of (by first | rfl | (simp [X_of, opn, bey, none3, bmp, nI_clamp (show q < 2 ^ 31 by omega), c_2, c_5]; done) | (exfalso; simp_all; done) | (simp only [X_of, opn, bey, none3, bmp, nI_clamp (show q < 2 ^ 31 by omega), c_2, c_5, ↓reduceIte] <;> rfl)) h11 rfl h15 (by decide) (by decide) (by decide) (fun k k0 k1 k6 => rfl) rfl) dX5_of_60
set_option maxHeartbeats 4000000 in
set_option maxRecDepth 100000 in
theorem c_X5_of_4 (l : Launch) (G : Geo) (u : Sg) (M F : Nat → Int32) (h11 : u.1 11 = M) (h15 : u.1 15 = F) (hM : Wf M) (x : Int32) : CtI l G yX5_of wsX5_of (rmO 2 47) [.ref (gad G 34), .int x, .int 4] u (P3 u 11 13 15 (X_of M F x 4)) := by
  refine CtI.of (cc := cX5_of) (maxL := 3) (ret := (some .int)) (own := RX5) (by decide) rfl rfl ?_
  rintro pg ev s0 mm below meth cd ⟨hx, hb, hr, hml, hown, hts, hlocks⟩ hE hP ls hl
  have hS : va_S (gA G) s0.heap s0.heap [] := va_S.rf
  have hl : lv_has ls 3 [(0, .ref (gad G 34)), (1, .int x), (2, .int 4)] := hl
  have hn := hM.n
  have h8 := hM.n8
  refine lv_aload_n hx hb dX5_of_0 rfl (lv_at hl 0 rfl) ?_
  refine lv_iload_n hx hb dX5_of_1 rfl (lv_at hl 1 rfl) ?_
  refine hd_callVi (As := [.int x]) (rest := []) ⟨hx, hb, hml, hown, hts⟩ hE hP hS (c_X5_isPerson l G u M h11 x) rfl (cwV 1 hts gX5_of_X5_isPerson rfl rfl rfl (by decide +kernel) ⟨Nat.le_of_ble_eq_true rfl, Nat.le_of_ble_eq_true rfl⟩) (mo_recv hE hP) rfl hl.1 rfl (Nat.le_of_ble_eq_true rfl) dX5_of_2 (fun rq_1 vq_1 H locs q_1 hP hS => ?_)
  have hP := hP.cast (q_1.2)
  refine lv_cast q_1.1 ?_
  refine bo_eq (tgt := 19) hx hb dX5_of_5 (by decide) (fun c_2 => ?_) (fun c_2 => ?_)
  · skip
    refine lv_aload_n hx hb dX5_of_19 rfl (lv_at hl 0 rfl) ?_
    refine lv_ldc (v := (-1000000001)) hx hb hown (hts (.constant RX5 35 ((-1000000001))) (by decide +kernel)) dX5_of_20 ?_
    refine hd_callVi (As := [.int (-1000000001)]) (rest := []) ⟨hx, hb, hml, hown, hts⟩ hE hP hS (c_X5_finds_0 l G u F h15) rfl (cwV 1 hts gX5_of_X5_finds rfl rfl rfl (by decide +kernel) ⟨Nat.le_of_ble_eq_true rfl, Nat.le_of_ble_eq_true rfl⟩) (mo_recv hE hP) rfl hl.1 rfl (Nat.le_of_ble_eq_true rfl) dX5_of_22 (fun rq_3 vq_3 H locs q_3 hP hS => ?_)
    have hP := hP.cast (q_3.2)
    refine lv_cast q_3.1 ?_
    exact hd_iret hx hb hr hlocks hP hS (P3.of (by first | rfl | (simp [X_of, opn, bey, none3, bmp, c_2]; done) | (exfalso; simp_all; done) | (simp only [X_of, opn, bey, none3, bmp, c_2, ↓reduceIte] <;> rfl)) ((sI_ne _ _ (by decide)).trans h11) ((sI_ne _ _ (by decide)).trans rfl) (sI_at _ _ _) (by decide) (by decide) (by decide) (fun k k0 k1 k6 => ((sI_ne _ _ k6).trans rfl)) rfl) dX5_of_25
  · skip
    obtain ⟨q, hq, rfl⟩ := pe_get hM c_2
    refine lv_iload_n hx hb dX5_of_8 rfl (lv_at hl 2 rfl) ?_
    refine lv_i2l hx hb dX5_of_9 rfl ?_
    refine lv_iconst (v := 0) hx hb dX5_of_10 (by decide) ?_
    refine lv_bipush (v := 6) hx hb dX5_of_11 (by decide) ?_
    refine hd_callSi (As := [.long ((4 : Int32).toInt64), .int 0, .int 6]) (rest := []) ⟨hx, hb, hml, hown, hts⟩ hE hP hS (c_X5_inI l G u 4 0 6) rfl (va_cwS 3 hts gX5_of_X5_in rfl rfl rfl (by decide +kernel) ⟨Nat.le_of_ble_eq_true rfl, Nat.le_of_ble_eq_true rfl⟩) rfl hl.1 rfl (Nat.le_of_ble_eq_true rfl) dX5_of_13 (fun rq_4 vq_4 H locs q_4 hP hS => ?_)
    have hP := hP.cast (q_4.2)
    refine lv_cast q_4.1 ?_
    refine bo_ne (tgt := 26) hx hb dX5_of_16 (by decide) (fun c_5 => ?_) (fun c_5 => absurd c_5 (by decide))
    refine lv_iload_n hx hb dX5_of_26 rfl (lv_at hl 2 rfl) ?_
    refine lv_bipush (v := 6) hx hb dX5_of_27 (by decide) ?_
    refine lv_icmp_ge (tgt := 41) hx hb dX5_of_29 (by decide) (fun h => False.elim (by revert h; decide)) (fun _ => ?_)
    refine lv_aload_n hx hb dX5_of_32 rfl (lv_at hl 0 rfl) ?_
    refine lv_iload_n hx hb dX5_of_33 rfl (lv_at hl 1 rfl) ?_
    refine lv_iload_n hx hb dX5_of_34 rfl (lv_at hl 2 rfl) ?_
    refine hd_callVi (As := [.int (nI q), .int 4]) (rest := []) ⟨hx, hb, hml, hown, hts⟩ hE hP hS (c_X5_it l G u M q 4 (by omega) (by omega)) ((sI_id h11).symm) (cwV 2 hts gX5_of_X5_it rfl rfl rfl (by decide +kernel) ⟨Nat.le_of_ble_eq_true rfl, Nat.le_of_ble_eq_true rfl⟩) (mo_recv hE hP) rfl hl.1 rfl (Nat.le_of_ble_eq_true rfl) dX5_of_35 (fun rq_6 vq_6 H locs q_6 hP hS => ?_)
    have hP := hP.cast (q_6.2.trans ((sI_id h11).symm).symm)
    refine lv_cast q_6.1 ?_
    refine lv_goto (tgt := 60) hx hb dX5_of_38 (by decide) ?_
    exact hd_iret hx hb hr hlocks hP hS (P3.of (by first | rfl | (simp [X_of, opn, bey, none3, bmp, nI_clamp (show q < 2 ^ 31 by omega), c_2, c_5]; done) | (exfalso; simp_all; done) | (simp only [X_of, opn, bey, none3, bmp, nI_clamp (show q < 2 ^ 31 by omega), c_2, c_5, ↓reduceIte] <;> rfl)) h11 rfl h15 (by decide) (by decide) (by decide) (fun k k0 k1 k6 => rfl) rfl) dX5_of_60
set_option maxHeartbeats 4000000 in
set_option maxRecDepth 100000 in
theorem c_X5_of_5 (l : Launch) (G : Geo) (u : Sg) (M F : Nat → Int32) (h11 : u.1 11 = M) (h15 : u.1 15 = F) (hM : Wf M) (x : Int32) : CtI l G yX5_of wsX5_of (rmO 2 47) [.ref (gad G 34), .int x, .int 5] u (P3 u 11 13 15 (X_of M F x 5)) := by
  refine CtI.of (cc := cX5_of) (maxL := 3) (ret := (some .int)) (own := RX5) (by decide) rfl rfl ?_
  rintro pg ev s0 mm below meth cd ⟨hx, hb, hr, hml, hown, hts, hlocks⟩ hE hP ls hl
  have hS : va_S (gA G) s0.heap s0.heap [] := va_S.rf
  have hl : lv_has ls 3 [(0, .ref (gad G 34)), (1, .int x), (2, .int 5)] := hl
  have hn := hM.n
  have h8 := hM.n8
  refine lv_aload_n hx hb dX5_of_0 rfl (lv_at hl 0 rfl) ?_
  refine lv_iload_n hx hb dX5_of_1 rfl (lv_at hl 1 rfl) ?_
  refine hd_callVi (As := [.int x]) (rest := []) ⟨hx, hb, hml, hown, hts⟩ hE hP hS (c_X5_isPerson l G u M h11 x) rfl (cwV 1 hts gX5_of_X5_isPerson rfl rfl rfl (by decide +kernel) ⟨Nat.le_of_ble_eq_true rfl, Nat.le_of_ble_eq_true rfl⟩) (mo_recv hE hP) rfl hl.1 rfl (Nat.le_of_ble_eq_true rfl) dX5_of_2 (fun rq_1 vq_1 H locs q_1 hP hS => ?_)
  have hP := hP.cast (q_1.2)
  refine lv_cast q_1.1 ?_
  refine bo_eq (tgt := 19) hx hb dX5_of_5 (by decide) (fun c_2 => ?_) (fun c_2 => ?_)
  · skip
    refine lv_aload_n hx hb dX5_of_19 rfl (lv_at hl 0 rfl) ?_
    refine lv_ldc (v := (-1000000001)) hx hb hown (hts (.constant RX5 35 ((-1000000001))) (by decide +kernel)) dX5_of_20 ?_
    refine hd_callVi (As := [.int (-1000000001)]) (rest := []) ⟨hx, hb, hml, hown, hts⟩ hE hP hS (c_X5_finds_0 l G u F h15) rfl (cwV 1 hts gX5_of_X5_finds rfl rfl rfl (by decide +kernel) ⟨Nat.le_of_ble_eq_true rfl, Nat.le_of_ble_eq_true rfl⟩) (mo_recv hE hP) rfl hl.1 rfl (Nat.le_of_ble_eq_true rfl) dX5_of_22 (fun rq_3 vq_3 H locs q_3 hP hS => ?_)
    have hP := hP.cast (q_3.2)
    refine lv_cast q_3.1 ?_
    exact hd_iret hx hb hr hlocks hP hS (P3.of (by first | rfl | (simp [X_of, opn, bey, none3, bmp, c_2]; done) | (exfalso; simp_all; done) | (simp only [X_of, opn, bey, none3, bmp, c_2, ↓reduceIte] <;> rfl)) ((sI_ne _ _ (by decide)).trans h11) ((sI_ne _ _ (by decide)).trans rfl) (sI_at _ _ _) (by decide) (by decide) (by decide) (fun k k0 k1 k6 => ((sI_ne _ _ k6).trans rfl)) rfl) dX5_of_25
  · skip
    obtain ⟨q, hq, rfl⟩ := pe_get hM c_2
    refine lv_iload_n hx hb dX5_of_8 rfl (lv_at hl 2 rfl) ?_
    refine lv_i2l hx hb dX5_of_9 rfl ?_
    refine lv_iconst (v := 0) hx hb dX5_of_10 (by decide) ?_
    refine lv_bipush (v := 6) hx hb dX5_of_11 (by decide) ?_
    refine hd_callSi (As := [.long ((5 : Int32).toInt64), .int 0, .int 6]) (rest := []) ⟨hx, hb, hml, hown, hts⟩ hE hP hS (c_X5_inI l G u 5 0 6) rfl (va_cwS 3 hts gX5_of_X5_in rfl rfl rfl (by decide +kernel) ⟨Nat.le_of_ble_eq_true rfl, Nat.le_of_ble_eq_true rfl⟩) rfl hl.1 rfl (Nat.le_of_ble_eq_true rfl) dX5_of_13 (fun rq_4 vq_4 H locs q_4 hP hS => ?_)
    have hP := hP.cast (q_4.2)
    refine lv_cast q_4.1 ?_
    refine bo_ne (tgt := 26) hx hb dX5_of_16 (by decide) (fun c_5 => ?_) (fun c_5 => absurd c_5 (by decide))
    refine lv_iload_n hx hb dX5_of_26 rfl (lv_at hl 2 rfl) ?_
    refine lv_bipush (v := 6) hx hb dX5_of_27 (by decide) ?_
    refine lv_icmp_ge (tgt := 41) hx hb dX5_of_29 (by decide) (fun h => False.elim (by revert h; decide)) (fun _ => ?_)
    refine lv_aload_n hx hb dX5_of_32 rfl (lv_at hl 0 rfl) ?_
    refine lv_iload_n hx hb dX5_of_33 rfl (lv_at hl 1 rfl) ?_
    refine lv_iload_n hx hb dX5_of_34 rfl (lv_at hl 2 rfl) ?_
    refine hd_callVi (As := [.int (nI q), .int 5]) (rest := []) ⟨hx, hb, hml, hown, hts⟩ hE hP hS (c_X5_it l G u M q 5 (by omega) (by omega)) ((sI_id h11).symm) (cwV 2 hts gX5_of_X5_it rfl rfl rfl (by decide +kernel) ⟨Nat.le_of_ble_eq_true rfl, Nat.le_of_ble_eq_true rfl⟩) (mo_recv hE hP) rfl hl.1 rfl (Nat.le_of_ble_eq_true rfl) dX5_of_35 (fun rq_6 vq_6 H locs q_6 hP hS => ?_)
    have hP := hP.cast (q_6.2.trans ((sI_id h11).symm).symm)
    refine lv_cast q_6.1 ?_
    refine lv_goto (tgt := 60) hx hb dX5_of_38 (by decide) ?_
    exact hd_iret hx hb hr hlocks hP hS (P3.of (by first | rfl | (simp [X_of, opn, bey, none3, bmp, nI_clamp (show q < 2 ^ 31 by omega), c_2, c_5]; done) | (exfalso; simp_all; done) | (simp only [X_of, opn, bey, none3, bmp, nI_clamp (show q < 2 ^ 31 by omega), c_2, c_5, ↓reduceIte] <;> rfl)) h11 rfl h15 (by decide) (by decide) (by decide) (fun k k0 k1 k6 => rfl) rfl) dX5_of_60
set_option maxHeartbeats 4000000 in
set_option maxRecDepth 100000 in
theorem c_X5_of_6 (l : Launch) (G : Geo) (u : Sg) (M F : Nat → Int32) (h11 : u.1 11 = M) (h15 : u.1 15 = F) (hM : Wf M) (x : Int32) : CtI l G yX5_of wsX5_of (rmO 2 47) [.ref (gad G 34), .int x, .int 6] u (P3 u 11 13 15 (X_of M F x 6)) := by
  refine CtI.of (cc := cX5_of) (maxL := 3) (ret := (some .int)) (own := RX5) (by decide) rfl rfl ?_
  rintro pg ev s0 mm below meth cd ⟨hx, hb, hr, hml, hown, hts, hlocks⟩ hE hP ls hl
  have hS : va_S (gA G) s0.heap s0.heap [] := va_S.rf
  have hl : lv_has ls 3 [(0, .ref (gad G 34)), (1, .int x), (2, .int 6)] := hl
  have hin5 : ∀ w ∈ wsX50, w ∈ wsX5_of := by decide +kernel
  have hn := hM.n
  have h8 := hM.n8
  refine lv_aload_n hx hb dX5_of_0 rfl (lv_at hl 0 rfl) ?_
  refine lv_iload_n hx hb dX5_of_1 rfl (lv_at hl 1 rfl) ?_
  refine hd_callVi (As := [.int x]) (rest := []) ⟨hx, hb, hml, hown, hts⟩ hE hP hS (c_X5_isPerson l G u M h11 x) rfl (cwV 1 hts gX5_of_X5_isPerson rfl rfl rfl (by decide +kernel) ⟨Nat.le_of_ble_eq_true rfl, Nat.le_of_ble_eq_true rfl⟩) (mo_recv hE hP) rfl hl.1 rfl (Nat.le_of_ble_eq_true rfl) dX5_of_2 (fun rq_1 vq_1 H locs q_1 hP hS => ?_)
  have hP := hP.cast (q_1.2)
  refine lv_cast q_1.1 ?_
  refine bo_eq (tgt := 19) hx hb dX5_of_5 (by decide) (fun c_2 => ?_) (fun c_2 => ?_)
  · skip
    refine lv_aload_n hx hb dX5_of_19 rfl (lv_at hl 0 rfl) ?_
    refine lv_ldc (v := (-1000000001)) hx hb hown (hts (.constant RX5 35 ((-1000000001))) (by decide +kernel)) dX5_of_20 ?_
    refine hd_callVi (As := [.int (-1000000001)]) (rest := []) ⟨hx, hb, hml, hown, hts⟩ hE hP hS (c_X5_finds_0 l G u F h15) rfl (cwV 1 hts gX5_of_X5_finds rfl rfl rfl (by decide +kernel) ⟨Nat.le_of_ble_eq_true rfl, Nat.le_of_ble_eq_true rfl⟩) (mo_recv hE hP) rfl hl.1 rfl (Nat.le_of_ble_eq_true rfl) dX5_of_22 (fun rq_3 vq_3 H locs q_3 hP hS => ?_)
    have hP := hP.cast (q_3.2)
    refine lv_cast q_3.1 ?_
    exact hd_iret hx hb hr hlocks hP hS (P3.of (by first | rfl | (simp [X_of, opn, bey, none3, bmp, c_2]; done) | (exfalso; simp_all; done) | (simp only [X_of, opn, bey, none3, bmp, c_2, ↓reduceIte] <;> rfl)) ((sI_ne _ _ (by decide)).trans h11) ((sI_ne _ _ (by decide)).trans rfl) (sI_at _ _ _) (by decide) (by decide) (by decide) (fun k k0 k1 k6 => ((sI_ne _ _ k6).trans rfl)) rfl) dX5_of_25
  · skip
    obtain ⟨q, hq, rfl⟩ := pe_get hM c_2
    refine lv_iload_n hx hb dX5_of_8 rfl (lv_at hl 2 rfl) ?_
    refine lv_i2l hx hb dX5_of_9 rfl ?_
    refine lv_iconst (v := 0) hx hb dX5_of_10 (by decide) ?_
    refine lv_bipush (v := 6) hx hb dX5_of_11 (by decide) ?_
    refine hd_callSi (As := [.long ((6 : Int32).toInt64), .int 0, .int 6]) (rest := []) ⟨hx, hb, hml, hown, hts⟩ hE hP hS (c_X5_inI l G u 6 0 6) rfl (va_cwS 3 hts gX5_of_X5_in rfl rfl rfl (by decide +kernel) ⟨Nat.le_of_ble_eq_true rfl, Nat.le_of_ble_eq_true rfl⟩) rfl hl.1 rfl (Nat.le_of_ble_eq_true rfl) dX5_of_13 (fun rq_4 vq_4 H locs q_4 hP hS => ?_)
    have hP := hP.cast (q_4.2)
    refine lv_cast q_4.1 ?_
    refine bo_ne (tgt := 26) hx hb dX5_of_16 (by decide) (fun c_5 => ?_) (fun c_5 => absurd c_5 (by decide))
    refine lv_iload_n hx hb dX5_of_26 rfl (lv_at hl 2 rfl) ?_
    refine lv_bipush (v := 6) hx hb dX5_of_27 (by decide) ?_
    refine lv_icmp_ge (tgt := 41) hx hb dX5_of_29 (by decide) (fun _ => ?_) (fun h => False.elim (by revert h; decide))
    refine lv_aload_n hx hb dX5_of_41 rfl (lv_at hl 0 rfl) ?_
    refine lv_iload_n hx hb dX5_of_42 rfl (lv_at hl 1 rfl) ?_
    refine lv_aload_n hx hb dX5_of_43 rfl (lv_at hl 0 rfl) ?_
    refine mo_get hx hb hts hin5 hown hE hP rfl 0 (by decide) (hts (.fieldLink RX5 9 "HeldDoorModel" "m" "[I") (by decide +kernel)) (v := .ref (gad G 35)) rfl dX5_of_44 ?_
    refine lv_iconst (v := 2) hx hb dX5_of_47 (by decide) ?_
    refine ar_ld hx hb hE hP 35 53 (by decide) (ar_at35 h11) 2 (by omega) dX5_of_48 ?_
    refine lv_if_le (tgt := 56) hx hb dX5_of_49 (by decide) (fun c_6 => ?_) (fun c_6 => ?_)
    · skip
      refine lv_iconst (v := 0) hx hb dX5_of_56 (by decide) ?_
      refine hd_callVi (As := [.int (nI q), .int 0]) (rest := []) ⟨hx, hb, hml, hown, hts⟩ hE hP hS (c_X5_goesBy l G u M q (by omega) false) ((sI_id h11).symm) (cwV 2 hts gX5_of_X5_goesBy rfl rfl rfl (by decide +kernel) ⟨Nat.le_of_ble_eq_true rfl, Nat.le_of_ble_eq_true rfl⟩) (mo_recv hE hP) rfl hl.1 rfl (Nat.le_of_ble_eq_true rfl) dX5_of_57 (fun rq_7 vq_7 H locs q_7 hP hS => ?_)
      have hP := hP.cast (q_7.2.trans ((sI_id h11).symm).symm)
      refine lv_cast q_7.1 ?_
      exact hd_iret hx hb hr hlocks hP hS (P3.of (by first | rfl | (simp [X_of, opn, bey, none3, bmp, nI_clamp (show q < 2 ^ 31 by omega), c_2, c_6, c_5]; done) | (exfalso; simp_all; done) | (simp only [X_of, opn, bey, none3, bmp, nI_clamp (show q < 2 ^ 31 by omega), c_2, c_6, c_5, ↓reduceIte] <;> rfl)) h11 rfl h15 (by decide) (by decide) (by decide) (fun k k0 k1 k6 => rfl) rfl) dX5_of_60
    · skip
      refine lv_iconst (v := 1) hx hb dX5_of_52 (by decide) ?_
      refine lv_goto (tgt := 57) hx hb dX5_of_53 (by decide) ?_
      refine hd_callVi (As := [.int (nI q), .int 1]) (rest := []) ⟨hx, hb, hml, hown, hts⟩ hE hP hS (c_X5_goesBy l G u M q (by omega) true) ((sI_id h11).symm) (cwV 2 hts gX5_of_X5_goesBy rfl rfl rfl (by decide +kernel) ⟨Nat.le_of_ble_eq_true rfl, Nat.le_of_ble_eq_true rfl⟩) (mo_recv hE hP) rfl hl.1 rfl (Nat.le_of_ble_eq_true rfl) dX5_of_57 (fun rq_8 vq_8 H locs q_8 hP hS => ?_)
      have hP := hP.cast (q_8.2.trans ((sI_id h11).symm).symm)
      refine lv_cast q_8.1 ?_
      exact hd_iret hx hb hr hlocks hP hS (P3.of (by first | rfl | (simp [X_of, opn, bey, none3, bmp, nI_clamp (show q < 2 ^ 31 by omega), c_2, c_6, c_5]; done) | (exfalso; simp_all; done) | (simp only [X_of, opn, bey, none3, bmp, nI_clamp (show q < 2 ^ 31 by omega), c_2, c_6, c_5, ↓reduceIte] <;> rfl)) h11 rfl h15 (by decide) (by decide) (by decide) (fun k k0 k1 k6 => rfl) rfl) dX5_of_60
set_option maxHeartbeats 4000000 in
set_option maxRecDepth 100000 in
theorem c_X5_of_o (l : Launch) (G : Geo) (u : Sg) (M F : Nat → Int32) (h11 : u.1 11 = M) (h15 : u.1 15 = F) (hM : Wf M) (x : Int32) (w : Int32) (h_0 : ¬ w = 0) (h_1 : ¬ w = 1) (h_2 : ¬ w = 2) (h_3 : ¬ w = 3) (h_4 : ¬ w = 4) (h_5 : ¬ w = 5) (h_6 : ¬ w = 6) : CtI l G yX5_of wsX5_of (rmO 2 47) [.ref (gad G 34), .int x, .int w] u (P3 u 11 13 15 (X_of M F x w)) := by
  refine CtI.of (cc := cX5_of) (maxL := 3) (ret := (some .int)) (own := RX5) (by decide) rfl rfl ?_
  rintro pg ev s0 mm below meth cd ⟨hx, hb, hr, hml, hown, hts, hlocks⟩ hE hP ls hl
  have hS : va_S (gA G) s0.heap s0.heap [] := va_S.rf
  have hl : lv_has ls 3 [(0, .ref (gad G 34)), (1, .int x), (2, .int w)] := hl
  have hn := hM.n
  have h8 := hM.n8
  refine lv_aload_n hx hb dX5_of_0 rfl (lv_at hl 0 rfl) ?_
  refine lv_iload_n hx hb dX5_of_1 rfl (lv_at hl 1 rfl) ?_
  refine hd_callVi (As := [.int x]) (rest := []) ⟨hx, hb, hml, hown, hts⟩ hE hP hS (c_X5_isPerson l G u M h11 x) rfl (cwV 1 hts gX5_of_X5_isPerson rfl rfl rfl (by decide +kernel) ⟨Nat.le_of_ble_eq_true rfl, Nat.le_of_ble_eq_true rfl⟩) (mo_recv hE hP) rfl hl.1 rfl (Nat.le_of_ble_eq_true rfl) dX5_of_2 (fun rq_1 vq_1 H locs q_1 hP hS => ?_)
  have hP := hP.cast (q_1.2)
  refine lv_cast q_1.1 ?_
  refine bo_eq (tgt := 19) hx hb dX5_of_5 (by decide) (fun c_2 => ?_) (fun c_2 => ?_)
  · skip
    refine lv_aload_n hx hb dX5_of_19 rfl (lv_at hl 0 rfl) ?_
    refine lv_ldc (v := (-1000000001)) hx hb hown (hts (.constant RX5 35 ((-1000000001))) (by decide +kernel)) dX5_of_20 ?_
    refine hd_callVi (As := [.int (-1000000001)]) (rest := []) ⟨hx, hb, hml, hown, hts⟩ hE hP hS (c_X5_finds_0 l G u F h15) rfl (cwV 1 hts gX5_of_X5_finds rfl rfl rfl (by decide +kernel) ⟨Nat.le_of_ble_eq_true rfl, Nat.le_of_ble_eq_true rfl⟩) (mo_recv hE hP) rfl hl.1 rfl (Nat.le_of_ble_eq_true rfl) dX5_of_22 (fun rq_3 vq_3 H locs q_3 hP hS => ?_)
    have hP := hP.cast (q_3.2)
    refine lv_cast q_3.1 ?_
    exact hd_iret hx hb hr hlocks hP hS (P3.of (by first | rfl | (simp [X_of, opn, h_0, h_1, h_2, h_3, h_4, h_5, h_6, bey, none3, bmp, c_2]; done) | (exfalso; simp_all; done) | (simp only [X_of, opn, h_0, h_1, h_2, h_3, h_4, h_5, h_6, bey, none3, bmp, c_2, ↓reduceIte] <;> rfl)) ((sI_ne _ _ (by decide)).trans h11) ((sI_ne _ _ (by decide)).trans rfl) (sI_at _ _ _) (by decide) (by decide) (by decide) (fun k k0 k1 k6 => ((sI_ne _ _ k6).trans rfl)) rfl) dX5_of_25
  · skip
    obtain ⟨q, hq, rfl⟩ := pe_get hM c_2
    refine lv_iload_n hx hb dX5_of_8 rfl (lv_at hl 2 rfl) ?_
    refine lv_i2l hx hb dX5_of_9 rfl ?_
    refine lv_iconst (v := 0) hx hb dX5_of_10 (by decide) ?_
    refine lv_bipush (v := 6) hx hb dX5_of_11 (by decide) ?_
    refine hd_callSi (As := [.long w.toInt64, .int 0, .int 6]) (rest := []) ⟨hx, hb, hml, hown, hts⟩ hE hP hS (c_X5_inI l G u w 0 6) rfl (va_cwS 3 hts gX5_of_X5_in rfl rfl rfl (by decide +kernel) ⟨Nat.le_of_ble_eq_true rfl, Nat.le_of_ble_eq_true rfl⟩) rfl hl.1 rfl (Nat.le_of_ble_eq_true rfl) dX5_of_13 (fun rq_4 vq_4 H locs q_4 hP hS => ?_)
    have hP := hP.cast (q_4.2)
    refine lv_cast q_4.1 ?_
    refine bo_ne (tgt := 26) hx hb dX5_of_16 (by decide) (fun c_5 => absurd (in06 c_5) (by simp [h_0, h_1, h_2, h_3, h_4, h_5, h_6])) (fun c_5 => ?_)
    refine lv_aload_n hx hb dX5_of_19 rfl (lv_at hl 0 rfl) ?_
    refine lv_ldc (v := (-1000000001)) hx hb hown (hts (.constant RX5 35 ((-1000000001))) (by decide +kernel)) dX5_of_20 ?_
    refine hd_callVi (As := [.int (-1000000001)]) (rest := []) ⟨hx, hb, hml, hown, hts⟩ hE hP hS (c_X5_finds_0 l G u F h15) rfl (cwV 1 hts gX5_of_X5_finds rfl rfl rfl (by decide +kernel) ⟨Nat.le_of_ble_eq_true rfl, Nat.le_of_ble_eq_true rfl⟩) (mo_recv hE hP) rfl hl.1 rfl (Nat.le_of_ble_eq_true rfl) dX5_of_22 (fun rq_6 vq_6 H locs q_6 hP hS => ?_)
    have hP := hP.cast (q_6.2)
    refine lv_cast q_6.1 ?_
    exact hd_iret hx hb hr hlocks hP hS (P3.of (by first | rfl | (simp [X_of, opn, h_0, h_1, h_2, h_3, h_4, h_5, h_6, bey, none3, bmp, nI_clamp (show q < 2 ^ 31 by omega), c_2, c_5]; done) | (exfalso; simp_all; done) | (simp only [X_of, opn, h_0, h_1, h_2, h_3, h_4, h_5, h_6, bey, none3, bmp, nI_clamp (show q < 2 ^ 31 by omega), c_2, c_5, ↓reduceIte] <;> rfl)) ((sI_ne _ _ (by decide)).trans h11) ((sI_ne _ _ (by decide)).trans rfl) (sI_at _ _ _) (by decide) (by decide) (by decide) (fun k k0 k1 k6 => ((sI_ne _ _ k6).trans rfl)) rfl) dX5_of_25
theorem c_X5_of (l : Launch) (G : Geo) (u : Sg) (M F : Nat → Int32) (h11 : u.1 11 = M) (h15 : u.1 15 = F) (hM : Wf M) (x : Int32) (w : Int32) : CtI l G yX5_of wsX5_of (rmO 2 47) [.ref (gad G 34), .int x, .int w] u (P3 u 11 13 15 (X_of M F x w)) := by
  by_cases h_0 : w = 0
  · subst h_0; exact c_X5_of_0 l G u M F h11 h15 hM x
  by_cases h_1 : w = 1
  · subst h_1; exact c_X5_of_1 l G u M F h11 h15 hM x
  by_cases h_2 : w = 2
  · subst h_2; exact c_X5_of_2 l G u M F h11 h15 hM x
  by_cases h_3 : w = 3
  · subst h_3; exact c_X5_of_3 l G u M F h11 h15 hM x
  by_cases h_4 : w = 4
  · subst h_4; exact c_X5_of_4 l G u M F h11 h15 hM x
  by_cases h_5 : w = 5
  · subst h_5; exact c_X5_of_5 l G u M F h11 h15 hM x
  by_cases h_6 : w = 6
  · subst h_6; exact c_X5_of_6 l G u M F h11 h15 hM x
  exact c_X5_of_o l G u M F h11 h15 hM x w h_0 h_1 h_2 h_3 h_4 h_5 h_6
set_option maxHeartbeats 4000000 in
set_option maxRecDepth 100000 in
theorem c_X5_set_1 (l : Launch) (G : Geo) (u : Sg) (M F : Nat → Int32) (h11 : u.1 11 = M) (h15 : u.1 15 = F) (hM : Wf M) (x : Int32)  (z : Int32) : CtI l G yX5_set wsX5_set (rmO 2 44) [.ref (gad G 34), .int x, .int 1, .int z] u (P3 u 11 13 15 (X_set M F x 1 z)) := by
  refine CtI.of (cc := cX5_set) (maxL := 5) (ret := (some .int)) (own := RX5) (by decide) rfl rfl ?_
  rintro pg ev s0 mm below meth cd ⟨hx, hb, hr, hml, hown, hts, hlocks⟩ hE hP ls hl
  have hS : va_S (gA G) s0.heap s0.heap [] := va_S.rf
  have hl : lv_has ls 5 [(0, .ref (gad G 34)), (1, .int x), (2, .int 1), (3, .int z)] := hl
  have hn := hM.n
  have h8 := hM.n8
  refine lv_aload_n hx hb dX5_set_0 rfl (lv_at hl 0 rfl) ?_
  refine lv_iload_n hx hb dX5_set_1 rfl (lv_at hl 1 rfl) ?_
  refine hd_callVi (As := [.int x]) (rest := []) ⟨hx, hb, hml, hown, hts⟩ hE hP hS (c_X5_isPerson l G u M h11 x) rfl (cwV 1 hts gX5_set_X5_isPerson rfl rfl rfl (by decide +kernel) ⟨Nat.le_of_ble_eq_true rfl, Nat.le_of_ble_eq_true rfl⟩) (mo_recv hE hP) rfl hl.1 rfl (Nat.le_of_ble_eq_true rfl) dX5_set_2 (fun rq_1 vq_1 H locs q_1 hP hS => ?_)
  have hP := hP.cast (q_1.2)
  refine lv_cast q_1.1 ?_
  refine bo_eq (tgt := 35) hx hb dX5_set_5 (by decide) (fun c_2 => ?_) (fun c_2 => ?_)
  · skip
    refine lv_iconst (v := 0) hx hb dX5_set_35 (by decide) ?_
    refine lv_istore (lv' := [(4, .int 0), (0, .ref (gad G 34)), (1, .int x), (2, .int 1), (3, .int z)]) hx hb dX5_set_36 hl (by decide) rfl (fun ls hl => ?_)
    refine lv_iload hx hb dX5_set_38 (lv_at hl 0 rfl) ?_
    refine lv_if_eq (tgt := 59) hx hb dX5_set_40 (by decide) (fun _ => ?_) (fun h => False.elim (by revert h; decide))
    refine lv_aload_n hx hb dX5_set_59 rfl (lv_at hl 1 rfl) ?_
    refine lv_ldc (v := (-1000000001)) hx hb hown (hts (.constant RX5 35 ((-1000000001))) (by decide +kernel)) dX5_set_60 ?_
    refine hd_callVi (As := [.int (-1000000001)]) (rest := []) ⟨hx, hb, hml, hown, hts⟩ hE hP hS (c_X5_finds_0 l G u F h15) rfl (cwV 1 hts gX5_set_X5_finds rfl rfl rfl (by decide +kernel) ⟨Nat.le_of_ble_eq_true rfl, Nat.le_of_ble_eq_true rfl⟩) (mo_recv hE hP) rfl hl.1 rfl (Nat.le_of_ble_eq_true rfl) dX5_set_62 (fun rq_3 vq_3 H locs q_3 hP hS => ?_)
    have hP := hP.cast (q_3.2)
    refine lv_cast q_3.1 ?_
    exact hd_iret hx hb hr hlocks hP hS (P3.of (by first | rfl | (simp [X_set, bey, none3, bmp, c_2]; done) | (exfalso; simp_all; done) | (simp only [X_set, bey, none3, bmp, c_2, ↓reduceIte] <;> rfl)) ((sI_ne _ _ (by decide)).trans h11) ((sI_ne _ _ (by decide)).trans rfl) (sI_at _ _ _) (by decide) (by decide) (by decide) (fun k k0 k1 k6 => ((sI_ne _ _ k6).trans rfl)) rfl) dX5_set_65
  · skip
    obtain ⟨q, hq, rfl⟩ := pe_get hM c_2
    refine lv_iload_n hx hb dX5_set_8 rfl (lv_at hl 2 rfl) ?_
    refine lv_i2l hx hb dX5_set_9 rfl ?_
    refine lv_iconst (v := 1) hx hb dX5_set_10 (by decide) ?_
    refine lv_iconst (v := 5) hx hb dX5_set_11 (by decide) ?_
    refine hd_callSi (As := [.long ((1 : Int32).toInt64), .int 1, .int 5]) (rest := []) ⟨hx, hb, hml, hown, hts⟩ hE hP hS (c_X5_inI l G u 1 1 5) rfl (va_cwS 3 hts gX5_set_X5_in rfl rfl rfl (by decide +kernel) ⟨Nat.le_of_ble_eq_true rfl, Nat.le_of_ble_eq_true rfl⟩) rfl hl.1 rfl (Nat.le_of_ble_eq_true rfl) dX5_set_12 (fun rq_4 vq_4 H locs q_4 hP hS => ?_)
    have hP := hP.cast (q_4.2)
    refine lv_cast q_4.1 ?_
    refine bo_eq (tgt := 35) hx hb dX5_set_15 (by decide) (fun c_5 => absurd c_5 (by decide)) (fun c_5 => ?_)
    refine lv_iload_n hx hb dX5_set_18 rfl (lv_at hl 3 rfl) ?_
    refine lv_i2l hx hb dX5_set_19 rfl ?_
    refine lv_iconst (v := 0) hx hb dX5_set_20 (by decide) ?_
    refine lv_iload_n hx hb dX5_set_21 rfl (lv_at hl 2 rfl) ?_
    refine hd_callSi (As := [.int 1]) (rest := [.int 0, .long z.toInt64]) ⟨hx, hb, hml, hown, hts⟩ hE hP hS (c_X5_mostOf_1 l G u) rfl (va_cwS 1 hts gX5_set_X5_mostOf rfl rfl rfl (by decide +kernel) ⟨Nat.le_of_ble_eq_true rfl, Nat.le_of_ble_eq_true rfl⟩) rfl hl.1 rfl (Nat.le_of_ble_eq_true rfl) dX5_set_22 (fun rq_6 vq_6 H locs q_6 hP hS => ?_)
    have hP := hP.cast (q_6.2)
    refine lv_cast q_6.1 ?_
    refine hd_callSi (As := [.long z.toInt64, .int 0, .int 1]) (rest := []) ⟨hx, hb, hml, hown, hts⟩ hE hP hS (c_X5_inI l G u z 0 1) rfl (va_cwS 3 hts gX5_set_X5_in rfl rfl rfl (by decide +kernel) ⟨Nat.le_of_ble_eq_true rfl, Nat.le_of_ble_eq_true rfl⟩) rfl hl.1 rfl (Nat.le_of_ble_eq_true rfl) dX5_set_25 (fun rq_7 vq_7 H locs q_7 hP hS => ?_)
    have hP := hP.cast (q_7.2)
    refine lv_cast q_7.1 ?_
    refine bo_eq (tgt := 35) hx hb dX5_set_28 (by decide) (fun c_8 => ?_) (fun c_8 => ?_)
    · skip
      refine lv_iconst (v := 0) hx hb dX5_set_35 (by decide) ?_
      refine lv_istore (lv' := [(4, .int 0), (0, .ref (gad G 34)), (1, .int (nI q)), (2, .int 1), (3, .int z)]) hx hb dX5_set_36 hl (by decide) rfl (fun ls hl => ?_)
      refine lv_iload hx hb dX5_set_38 (lv_at hl 0 rfl) ?_
      refine lv_if_eq (tgt := 59) hx hb dX5_set_40 (by decide) (fun _ => ?_) (fun h => False.elim (by revert h; decide))
      refine lv_aload_n hx hb dX5_set_59 rfl (lv_at hl 1 rfl) ?_
      refine lv_ldc (v := (-1000000001)) hx hb hown (hts (.constant RX5 35 ((-1000000001))) (by decide +kernel)) dX5_set_60 ?_
      refine hd_callVi (As := [.int (-1000000001)]) (rest := []) ⟨hx, hb, hml, hown, hts⟩ hE hP hS (c_X5_finds_0 l G u F h15) rfl (cwV 1 hts gX5_set_X5_finds rfl rfl rfl (by decide +kernel) ⟨Nat.le_of_ble_eq_true rfl, Nat.le_of_ble_eq_true rfl⟩) (mo_recv hE hP) rfl hl.1 rfl (Nat.le_of_ble_eq_true rfl) dX5_set_62 (fun rq_9 vq_9 H locs q_9 hP hS => ?_)
      have hP := hP.cast (q_9.2)
      refine lv_cast q_9.1 ?_
      exact hd_iret hx hb hr hlocks hP hS (P3.of (by first | rfl | (simp [X_set, bey, none3, bmp, nI_clamp (show q < 2 ^ 31 by omega), c_2, c_8, c_5]; done) | (exfalso; simp_all; done) | (simp only [X_set, bey, none3, bmp, nI_clamp (show q < 2 ^ 31 by omega), c_2, c_8, c_5, ↓reduceIte] <;> rfl)) ((sI_ne _ _ (by decide)).trans h11) ((sI_ne _ _ (by decide)).trans rfl) (sI_at _ _ _) (by decide) (by decide) (by decide) (fun k k0 k1 k6 => ((sI_ne _ _ k6).trans rfl)) rfl) dX5_set_65
    · skip
      refine lv_iconst (v := 1) hx hb dX5_set_31 (by decide) ?_
      refine lv_goto (tgt := 36) hx hb dX5_set_32 (by decide) ?_
      refine lv_istore (lv' := [(4, .int 1), (0, .ref (gad G 34)), (1, .int (nI q)), (2, .int 1), (3, .int z)]) hx hb dX5_set_36 hl (by decide) rfl (fun ls hl => ?_)
      refine lv_iload hx hb dX5_set_38 (lv_at hl 0 rfl) ?_
      refine lv_if_eq (tgt := 59) hx hb dX5_set_40 (by decide) (fun h => False.elim (by revert h; decide)) (fun _ => ?_)
      refine lv_aload_n hx hb dX5_set_43 rfl (lv_at hl 1 rfl) ?_
      refine lv_iconst (v := 5) hx hb dX5_set_44 (by decide) ?_
      refine lv_bipush (v := 6) hx hb dX5_set_45 (by decide) ?_
      refine lv_iload_n hx hb dX5_set_47 rfl (lv_at hl 2 rfl) ?_
      refine nn_imul (a := 6) (b := q) hx hb dX5_set_48 ?_
      refine nn_iadd (a := 5) (b := 6 * q) hx hb dX5_set_49 ?_
      refine lv_iload_n hx hb dX5_set_50 rfl (lv_at hl 3 rfl) ?_
      refine nn_iadd (a := 5 + 6 * q) (b := 1) hx hb dX5_set_51 ?_
      refine lv_iload_n hx hb dX5_set_52 rfl (lv_at hl 4 rfl) ?_
      refine hd_callVi (As := [.int (nI (5 + 6 * q + 1)), .int z]) (rest := []) ⟨hx, hb, hml, hown, hts⟩ hE hP hS (c_X5_becomes l G u M (5 + 6 * q + 1) (by omega) z) ((sI_id h11).symm) (cwV 2 hts gX5_set_X5_becomes rfl rfl rfl (by decide +kernel) ⟨Nat.le_of_ble_eq_true rfl, Nat.le_of_ble_eq_true rfl⟩) (mo_recv hE hP) rfl hl.1 rfl (Nat.le_of_ble_eq_true rfl) dX5_set_53 (fun rq_10 vq_10 H locs q_10 hP hS => ?_)
      have hP := hP.cast (q_10.2)
      refine lv_cast q_10.1 ?_
      refine lv_goto (tgt := 65) hx hb dX5_set_56 (by decide) ?_
      exact hd_iret hx hb hr hlocks hP hS (P3.of (by first | rfl | (simp [X_set, bey, none3, bmp, nI_clamp (show q < 2 ^ 31 by omega), c_2, c_8, c_5]; done) | (exfalso; simp_all; done) | (simp only [X_set, bey, none3, bmp, nI_clamp (show q < 2 ^ 31 by omega), c_2, c_8, c_5, ↓reduceIte] <;> rfl)) (sI_at _ _ _) ((sI_ne _ _ (by decide)).trans rfl) ((sI_ne _ _ (by decide)).trans h15) (by decide) (by decide) (by decide) (fun k k0 k1 k6 => ((sI_ne _ _ k0).trans rfl)) rfl) dX5_set_65
set_option maxHeartbeats 4000000 in
set_option maxRecDepth 100000 in
theorem c_X5_set_2 (l : Launch) (G : Geo) (u : Sg) (M F : Nat → Int32) (h11 : u.1 11 = M) (h15 : u.1 15 = F) (hM : Wf M) (x : Int32)  (z : Int32) : CtI l G yX5_set wsX5_set (rmO 2 44) [.ref (gad G 34), .int x, .int 2, .int z] u (P3 u 11 13 15 (X_set M F x 2 z)) := by
  refine CtI.of (cc := cX5_set) (maxL := 5) (ret := (some .int)) (own := RX5) (by decide) rfl rfl ?_
  rintro pg ev s0 mm below meth cd ⟨hx, hb, hr, hml, hown, hts, hlocks⟩ hE hP ls hl
  have hS : va_S (gA G) s0.heap s0.heap [] := va_S.rf
  have hl : lv_has ls 5 [(0, .ref (gad G 34)), (1, .int x), (2, .int 2), (3, .int z)] := hl
  have hn := hM.n
  have h8 := hM.n8
  refine lv_aload_n hx hb dX5_set_0 rfl (lv_at hl 0 rfl) ?_
  refine lv_iload_n hx hb dX5_set_1 rfl (lv_at hl 1 rfl) ?_
  refine hd_callVi (As := [.int x]) (rest := []) ⟨hx, hb, hml, hown, hts⟩ hE hP hS (c_X5_isPerson l G u M h11 x) rfl (cwV 1 hts gX5_set_X5_isPerson rfl rfl rfl (by decide +kernel) ⟨Nat.le_of_ble_eq_true rfl, Nat.le_of_ble_eq_true rfl⟩) (mo_recv hE hP) rfl hl.1 rfl (Nat.le_of_ble_eq_true rfl) dX5_set_2 (fun rq_1 vq_1 H locs q_1 hP hS => ?_)
  have hP := hP.cast (q_1.2)
  refine lv_cast q_1.1 ?_
  refine bo_eq (tgt := 35) hx hb dX5_set_5 (by decide) (fun c_2 => ?_) (fun c_2 => ?_)
  · skip
    refine lv_iconst (v := 0) hx hb dX5_set_35 (by decide) ?_
    refine lv_istore (lv' := [(4, .int 0), (0, .ref (gad G 34)), (1, .int x), (2, .int 2), (3, .int z)]) hx hb dX5_set_36 hl (by decide) rfl (fun ls hl => ?_)
    refine lv_iload hx hb dX5_set_38 (lv_at hl 0 rfl) ?_
    refine lv_if_eq (tgt := 59) hx hb dX5_set_40 (by decide) (fun _ => ?_) (fun h => False.elim (by revert h; decide))
    refine lv_aload_n hx hb dX5_set_59 rfl (lv_at hl 1 rfl) ?_
    refine lv_ldc (v := (-1000000001)) hx hb hown (hts (.constant RX5 35 ((-1000000001))) (by decide +kernel)) dX5_set_60 ?_
    refine hd_callVi (As := [.int (-1000000001)]) (rest := []) ⟨hx, hb, hml, hown, hts⟩ hE hP hS (c_X5_finds_0 l G u F h15) rfl (cwV 1 hts gX5_set_X5_finds rfl rfl rfl (by decide +kernel) ⟨Nat.le_of_ble_eq_true rfl, Nat.le_of_ble_eq_true rfl⟩) (mo_recv hE hP) rfl hl.1 rfl (Nat.le_of_ble_eq_true rfl) dX5_set_62 (fun rq_3 vq_3 H locs q_3 hP hS => ?_)
    have hP := hP.cast (q_3.2)
    refine lv_cast q_3.1 ?_
    exact hd_iret hx hb hr hlocks hP hS (P3.of (by first | rfl | (simp [X_set, bey, none3, bmp, c_2]; done) | (exfalso; simp_all; done) | (simp only [X_set, bey, none3, bmp, c_2, ↓reduceIte] <;> rfl)) ((sI_ne _ _ (by decide)).trans h11) ((sI_ne _ _ (by decide)).trans rfl) (sI_at _ _ _) (by decide) (by decide) (by decide) (fun k k0 k1 k6 => ((sI_ne _ _ k6).trans rfl)) rfl) dX5_set_65
  · skip
    obtain ⟨q, hq, rfl⟩ := pe_get hM c_2
    refine lv_iload_n hx hb dX5_set_8 rfl (lv_at hl 2 rfl) ?_
    refine lv_i2l hx hb dX5_set_9 rfl ?_
    refine lv_iconst (v := 1) hx hb dX5_set_10 (by decide) ?_
    refine lv_iconst (v := 5) hx hb dX5_set_11 (by decide) ?_
    refine hd_callSi (As := [.long ((2 : Int32).toInt64), .int 1, .int 5]) (rest := []) ⟨hx, hb, hml, hown, hts⟩ hE hP hS (c_X5_inI l G u 2 1 5) rfl (va_cwS 3 hts gX5_set_X5_in rfl rfl rfl (by decide +kernel) ⟨Nat.le_of_ble_eq_true rfl, Nat.le_of_ble_eq_true rfl⟩) rfl hl.1 rfl (Nat.le_of_ble_eq_true rfl) dX5_set_12 (fun rq_4 vq_4 H locs q_4 hP hS => ?_)
    have hP := hP.cast (q_4.2)
    refine lv_cast q_4.1 ?_
    refine bo_eq (tgt := 35) hx hb dX5_set_15 (by decide) (fun c_5 => absurd c_5 (by decide)) (fun c_5 => ?_)
    refine lv_iload_n hx hb dX5_set_18 rfl (lv_at hl 3 rfl) ?_
    refine lv_i2l hx hb dX5_set_19 rfl ?_
    refine lv_iconst (v := 0) hx hb dX5_set_20 (by decide) ?_
    refine lv_iload_n hx hb dX5_set_21 rfl (lv_at hl 2 rfl) ?_
    refine hd_callSi (As := [.int 2]) (rest := [.int 0, .long z.toInt64]) ⟨hx, hb, hml, hown, hts⟩ hE hP hS (c_X5_mostOf_2 l G u) rfl (va_cwS 1 hts gX5_set_X5_mostOf rfl rfl rfl (by decide +kernel) ⟨Nat.le_of_ble_eq_true rfl, Nat.le_of_ble_eq_true rfl⟩) rfl hl.1 rfl (Nat.le_of_ble_eq_true rfl) dX5_set_22 (fun rq_6 vq_6 H locs q_6 hP hS => ?_)
    have hP := hP.cast (q_6.2)
    refine lv_cast q_6.1 ?_
    refine hd_callSi (As := [.long z.toInt64, .int 0, .int 9]) (rest := []) ⟨hx, hb, hml, hown, hts⟩ hE hP hS (c_X5_inI l G u z 0 9) rfl (va_cwS 3 hts gX5_set_X5_in rfl rfl rfl (by decide +kernel) ⟨Nat.le_of_ble_eq_true rfl, Nat.le_of_ble_eq_true rfl⟩) rfl hl.1 rfl (Nat.le_of_ble_eq_true rfl) dX5_set_25 (fun rq_7 vq_7 H locs q_7 hP hS => ?_)
    have hP := hP.cast (q_7.2)
    refine lv_cast q_7.1 ?_
    refine bo_eq (tgt := 35) hx hb dX5_set_28 (by decide) (fun c_8 => ?_) (fun c_8 => ?_)
    · skip
      refine lv_iconst (v := 0) hx hb dX5_set_35 (by decide) ?_
      refine lv_istore (lv' := [(4, .int 0), (0, .ref (gad G 34)), (1, .int (nI q)), (2, .int 2), (3, .int z)]) hx hb dX5_set_36 hl (by decide) rfl (fun ls hl => ?_)
      refine lv_iload hx hb dX5_set_38 (lv_at hl 0 rfl) ?_
      refine lv_if_eq (tgt := 59) hx hb dX5_set_40 (by decide) (fun _ => ?_) (fun h => False.elim (by revert h; decide))
      refine lv_aload_n hx hb dX5_set_59 rfl (lv_at hl 1 rfl) ?_
      refine lv_ldc (v := (-1000000001)) hx hb hown (hts (.constant RX5 35 ((-1000000001))) (by decide +kernel)) dX5_set_60 ?_
      refine hd_callVi (As := [.int (-1000000001)]) (rest := []) ⟨hx, hb, hml, hown, hts⟩ hE hP hS (c_X5_finds_0 l G u F h15) rfl (cwV 1 hts gX5_set_X5_finds rfl rfl rfl (by decide +kernel) ⟨Nat.le_of_ble_eq_true rfl, Nat.le_of_ble_eq_true rfl⟩) (mo_recv hE hP) rfl hl.1 rfl (Nat.le_of_ble_eq_true rfl) dX5_set_62 (fun rq_9 vq_9 H locs q_9 hP hS => ?_)
      have hP := hP.cast (q_9.2)
      refine lv_cast q_9.1 ?_
      exact hd_iret hx hb hr hlocks hP hS (P3.of (by first | rfl | (simp [X_set, bey, none3, bmp, nI_clamp (show q < 2 ^ 31 by omega), c_2, c_8, c_5]; done) | (exfalso; simp_all; done) | (simp only [X_set, bey, none3, bmp, nI_clamp (show q < 2 ^ 31 by omega), c_2, c_8, c_5, ↓reduceIte] <;> rfl)) ((sI_ne _ _ (by decide)).trans h11) ((sI_ne _ _ (by decide)).trans rfl) (sI_at _ _ _) (by decide) (by decide) (by decide) (fun k k0 k1 k6 => ((sI_ne _ _ k6).trans rfl)) rfl) dX5_set_65
    · skip
      refine lv_iconst (v := 1) hx hb dX5_set_31 (by decide) ?_
      refine lv_goto (tgt := 36) hx hb dX5_set_32 (by decide) ?_
      refine lv_istore (lv' := [(4, .int 1), (0, .ref (gad G 34)), (1, .int (nI q)), (2, .int 2), (3, .int z)]) hx hb dX5_set_36 hl (by decide) rfl (fun ls hl => ?_)
      refine lv_iload hx hb dX5_set_38 (lv_at hl 0 rfl) ?_
      refine lv_if_eq (tgt := 59) hx hb dX5_set_40 (by decide) (fun h => False.elim (by revert h; decide)) (fun _ => ?_)
      refine lv_aload_n hx hb dX5_set_43 rfl (lv_at hl 1 rfl) ?_
      refine lv_iconst (v := 5) hx hb dX5_set_44 (by decide) ?_
      refine lv_bipush (v := 6) hx hb dX5_set_45 (by decide) ?_
      refine lv_iload_n hx hb dX5_set_47 rfl (lv_at hl 2 rfl) ?_
      refine nn_imul (a := 6) (b := q) hx hb dX5_set_48 ?_
      refine nn_iadd (a := 5) (b := 6 * q) hx hb dX5_set_49 ?_
      refine lv_iload_n hx hb dX5_set_50 rfl (lv_at hl 3 rfl) ?_
      refine nn_iadd (a := 5 + 6 * q) (b := 2) hx hb dX5_set_51 ?_
      refine lv_iload_n hx hb dX5_set_52 rfl (lv_at hl 4 rfl) ?_
      refine hd_callVi (As := [.int (nI (5 + 6 * q + 2)), .int z]) (rest := []) ⟨hx, hb, hml, hown, hts⟩ hE hP hS (c_X5_becomes l G u M (5 + 6 * q + 2) (by omega) z) ((sI_id h11).symm) (cwV 2 hts gX5_set_X5_becomes rfl rfl rfl (by decide +kernel) ⟨Nat.le_of_ble_eq_true rfl, Nat.le_of_ble_eq_true rfl⟩) (mo_recv hE hP) rfl hl.1 rfl (Nat.le_of_ble_eq_true rfl) dX5_set_53 (fun rq_10 vq_10 H locs q_10 hP hS => ?_)
      have hP := hP.cast (q_10.2)
      refine lv_cast q_10.1 ?_
      refine lv_goto (tgt := 65) hx hb dX5_set_56 (by decide) ?_
      exact hd_iret hx hb hr hlocks hP hS (P3.of (by first | rfl | (simp [X_set, bey, none3, bmp, nI_clamp (show q < 2 ^ 31 by omega), c_2, c_8, c_5]; done) | (exfalso; simp_all; done) | (simp only [X_set, bey, none3, bmp, nI_clamp (show q < 2 ^ 31 by omega), c_2, c_8, c_5, ↓reduceIte] <;> rfl)) (sI_at _ _ _) ((sI_ne _ _ (by decide)).trans rfl) ((sI_ne _ _ (by decide)).trans h15) (by decide) (by decide) (by decide) (fun k k0 k1 k6 => ((sI_ne _ _ k0).trans rfl)) rfl) dX5_set_65
set_option maxHeartbeats 4000000 in
set_option maxRecDepth 100000 in
theorem c_X5_set_3 (l : Launch) (G : Geo) (u : Sg) (M F : Nat → Int32) (h11 : u.1 11 = M) (h15 : u.1 15 = F) (hM : Wf M) (x : Int32)  (z : Int32) : CtI l G yX5_set wsX5_set (rmO 2 44) [.ref (gad G 34), .int x, .int 3, .int z] u (P3 u 11 13 15 (X_set M F x 3 z)) := by
  refine CtI.of (cc := cX5_set) (maxL := 5) (ret := (some .int)) (own := RX5) (by decide) rfl rfl ?_
  rintro pg ev s0 mm below meth cd ⟨hx, hb, hr, hml, hown, hts, hlocks⟩ hE hP ls hl
  have hS : va_S (gA G) s0.heap s0.heap [] := va_S.rf
  have hl : lv_has ls 5 [(0, .ref (gad G 34)), (1, .int x), (2, .int 3), (3, .int z)] := hl
  have hn := hM.n
  have h8 := hM.n8
  refine lv_aload_n hx hb dX5_set_0 rfl (lv_at hl 0 rfl) ?_
  refine lv_iload_n hx hb dX5_set_1 rfl (lv_at hl 1 rfl) ?_
  refine hd_callVi (As := [.int x]) (rest := []) ⟨hx, hb, hml, hown, hts⟩ hE hP hS (c_X5_isPerson l G u M h11 x) rfl (cwV 1 hts gX5_set_X5_isPerson rfl rfl rfl (by decide +kernel) ⟨Nat.le_of_ble_eq_true rfl, Nat.le_of_ble_eq_true rfl⟩) (mo_recv hE hP) rfl hl.1 rfl (Nat.le_of_ble_eq_true rfl) dX5_set_2 (fun rq_1 vq_1 H locs q_1 hP hS => ?_)
  have hP := hP.cast (q_1.2)
  refine lv_cast q_1.1 ?_
  refine bo_eq (tgt := 35) hx hb dX5_set_5 (by decide) (fun c_2 => ?_) (fun c_2 => ?_)
  · skip
    refine lv_iconst (v := 0) hx hb dX5_set_35 (by decide) ?_
    refine lv_istore (lv' := [(4, .int 0), (0, .ref (gad G 34)), (1, .int x), (2, .int 3), (3, .int z)]) hx hb dX5_set_36 hl (by decide) rfl (fun ls hl => ?_)
    refine lv_iload hx hb dX5_set_38 (lv_at hl 0 rfl) ?_
    refine lv_if_eq (tgt := 59) hx hb dX5_set_40 (by decide) (fun _ => ?_) (fun h => False.elim (by revert h; decide))
    refine lv_aload_n hx hb dX5_set_59 rfl (lv_at hl 1 rfl) ?_
    refine lv_ldc (v := (-1000000001)) hx hb hown (hts (.constant RX5 35 ((-1000000001))) (by decide +kernel)) dX5_set_60 ?_
    refine hd_callVi (As := [.int (-1000000001)]) (rest := []) ⟨hx, hb, hml, hown, hts⟩ hE hP hS (c_X5_finds_0 l G u F h15) rfl (cwV 1 hts gX5_set_X5_finds rfl rfl rfl (by decide +kernel) ⟨Nat.le_of_ble_eq_true rfl, Nat.le_of_ble_eq_true rfl⟩) (mo_recv hE hP) rfl hl.1 rfl (Nat.le_of_ble_eq_true rfl) dX5_set_62 (fun rq_3 vq_3 H locs q_3 hP hS => ?_)
    have hP := hP.cast (q_3.2)
    refine lv_cast q_3.1 ?_
    exact hd_iret hx hb hr hlocks hP hS (P3.of (by first | rfl | (simp [X_set, bey, none3, bmp, c_2]; done) | (exfalso; simp_all; done) | (simp only [X_set, bey, none3, bmp, c_2, ↓reduceIte] <;> rfl)) ((sI_ne _ _ (by decide)).trans h11) ((sI_ne _ _ (by decide)).trans rfl) (sI_at _ _ _) (by decide) (by decide) (by decide) (fun k k0 k1 k6 => ((sI_ne _ _ k6).trans rfl)) rfl) dX5_set_65
  · skip
    obtain ⟨q, hq, rfl⟩ := pe_get hM c_2
    refine lv_iload_n hx hb dX5_set_8 rfl (lv_at hl 2 rfl) ?_
    refine lv_i2l hx hb dX5_set_9 rfl ?_
    refine lv_iconst (v := 1) hx hb dX5_set_10 (by decide) ?_
    refine lv_iconst (v := 5) hx hb dX5_set_11 (by decide) ?_
    refine hd_callSi (As := [.long ((3 : Int32).toInt64), .int 1, .int 5]) (rest := []) ⟨hx, hb, hml, hown, hts⟩ hE hP hS (c_X5_inI l G u 3 1 5) rfl (va_cwS 3 hts gX5_set_X5_in rfl rfl rfl (by decide +kernel) ⟨Nat.le_of_ble_eq_true rfl, Nat.le_of_ble_eq_true rfl⟩) rfl hl.1 rfl (Nat.le_of_ble_eq_true rfl) dX5_set_12 (fun rq_4 vq_4 H locs q_4 hP hS => ?_)
    have hP := hP.cast (q_4.2)
    refine lv_cast q_4.1 ?_
    refine bo_eq (tgt := 35) hx hb dX5_set_15 (by decide) (fun c_5 => absurd c_5 (by decide)) (fun c_5 => ?_)
    refine lv_iload_n hx hb dX5_set_18 rfl (lv_at hl 3 rfl) ?_
    refine lv_i2l hx hb dX5_set_19 rfl ?_
    refine lv_iconst (v := 0) hx hb dX5_set_20 (by decide) ?_
    refine lv_iload_n hx hb dX5_set_21 rfl (lv_at hl 2 rfl) ?_
    refine hd_callSi (As := [.int 3]) (rest := [.int 0, .long z.toInt64]) ⟨hx, hb, hml, hown, hts⟩ hE hP hS (c_X5_mostOf_3 l G u) rfl (va_cwS 1 hts gX5_set_X5_mostOf rfl rfl rfl (by decide +kernel) ⟨Nat.le_of_ble_eq_true rfl, Nat.le_of_ble_eq_true rfl⟩) rfl hl.1 rfl (Nat.le_of_ble_eq_true rfl) dX5_set_22 (fun rq_6 vq_6 H locs q_6 hP hS => ?_)
    have hP := hP.cast (q_6.2)
    refine lv_cast q_6.1 ?_
    refine hd_callSi (As := [.long z.toInt64, .int 0, .int 999]) (rest := []) ⟨hx, hb, hml, hown, hts⟩ hE hP hS (c_X5_inI l G u z 0 999) rfl (va_cwS 3 hts gX5_set_X5_in rfl rfl rfl (by decide +kernel) ⟨Nat.le_of_ble_eq_true rfl, Nat.le_of_ble_eq_true rfl⟩) rfl hl.1 rfl (Nat.le_of_ble_eq_true rfl) dX5_set_25 (fun rq_7 vq_7 H locs q_7 hP hS => ?_)
    have hP := hP.cast (q_7.2)
    refine lv_cast q_7.1 ?_
    refine bo_eq (tgt := 35) hx hb dX5_set_28 (by decide) (fun c_8 => ?_) (fun c_8 => ?_)
    · skip
      refine lv_iconst (v := 0) hx hb dX5_set_35 (by decide) ?_
      refine lv_istore (lv' := [(4, .int 0), (0, .ref (gad G 34)), (1, .int (nI q)), (2, .int 3), (3, .int z)]) hx hb dX5_set_36 hl (by decide) rfl (fun ls hl => ?_)
      refine lv_iload hx hb dX5_set_38 (lv_at hl 0 rfl) ?_
      refine lv_if_eq (tgt := 59) hx hb dX5_set_40 (by decide) (fun _ => ?_) (fun h => False.elim (by revert h; decide))
      refine lv_aload_n hx hb dX5_set_59 rfl (lv_at hl 1 rfl) ?_
      refine lv_ldc (v := (-1000000001)) hx hb hown (hts (.constant RX5 35 ((-1000000001))) (by decide +kernel)) dX5_set_60 ?_
      refine hd_callVi (As := [.int (-1000000001)]) (rest := []) ⟨hx, hb, hml, hown, hts⟩ hE hP hS (c_X5_finds_0 l G u F h15) rfl (cwV 1 hts gX5_set_X5_finds rfl rfl rfl (by decide +kernel) ⟨Nat.le_of_ble_eq_true rfl, Nat.le_of_ble_eq_true rfl⟩) (mo_recv hE hP) rfl hl.1 rfl (Nat.le_of_ble_eq_true rfl) dX5_set_62 (fun rq_9 vq_9 H locs q_9 hP hS => ?_)
      have hP := hP.cast (q_9.2)
      refine lv_cast q_9.1 ?_
      exact hd_iret hx hb hr hlocks hP hS (P3.of (by first | rfl | (simp [X_set, bey, none3, bmp, nI_clamp (show q < 2 ^ 31 by omega), c_2, c_8, c_5]; done) | (exfalso; simp_all; done) | (simp only [X_set, bey, none3, bmp, nI_clamp (show q < 2 ^ 31 by omega), c_2, c_8, c_5, ↓reduceIte] <;> rfl)) ((sI_ne _ _ (by decide)).trans h11) ((sI_ne _ _ (by decide)).trans rfl) (sI_at _ _ _) (by decide) (by decide) (by decide) (fun k k0 k1 k6 => ((sI_ne _ _ k6).trans rfl)) rfl) dX5_set_65
    · skip
      refine lv_iconst (v := 1) hx hb dX5_set_31 (by decide) ?_
      refine lv_goto (tgt := 36) hx hb dX5_set_32 (by decide) ?_
      refine lv_istore (lv' := [(4, .int 1), (0, .ref (gad G 34)), (1, .int (nI q)), (2, .int 3), (3, .int z)]) hx hb dX5_set_36 hl (by decide) rfl (fun ls hl => ?_)
      refine lv_iload hx hb dX5_set_38 (lv_at hl 0 rfl) ?_
      refine lv_if_eq (tgt := 59) hx hb dX5_set_40 (by decide) (fun h => False.elim (by revert h; decide)) (fun _ => ?_)
      refine lv_aload_n hx hb dX5_set_43 rfl (lv_at hl 1 rfl) ?_
      refine lv_iconst (v := 5) hx hb dX5_set_44 (by decide) ?_
      refine lv_bipush (v := 6) hx hb dX5_set_45 (by decide) ?_
      refine lv_iload_n hx hb dX5_set_47 rfl (lv_at hl 2 rfl) ?_
      refine nn_imul (a := 6) (b := q) hx hb dX5_set_48 ?_
      refine nn_iadd (a := 5) (b := 6 * q) hx hb dX5_set_49 ?_
      refine lv_iload_n hx hb dX5_set_50 rfl (lv_at hl 3 rfl) ?_
      refine nn_iadd (a := 5 + 6 * q) (b := 3) hx hb dX5_set_51 ?_
      refine lv_iload_n hx hb dX5_set_52 rfl (lv_at hl 4 rfl) ?_
      refine hd_callVi (As := [.int (nI (5 + 6 * q + 3)), .int z]) (rest := []) ⟨hx, hb, hml, hown, hts⟩ hE hP hS (c_X5_becomes l G u M (5 + 6 * q + 3) (by omega) z) ((sI_id h11).symm) (cwV 2 hts gX5_set_X5_becomes rfl rfl rfl (by decide +kernel) ⟨Nat.le_of_ble_eq_true rfl, Nat.le_of_ble_eq_true rfl⟩) (mo_recv hE hP) rfl hl.1 rfl (Nat.le_of_ble_eq_true rfl) dX5_set_53 (fun rq_10 vq_10 H locs q_10 hP hS => ?_)
      have hP := hP.cast (q_10.2)
      refine lv_cast q_10.1 ?_
      refine lv_goto (tgt := 65) hx hb dX5_set_56 (by decide) ?_
      exact hd_iret hx hb hr hlocks hP hS (P3.of (by first | rfl | (simp [X_set, bey, none3, bmp, nI_clamp (show q < 2 ^ 31 by omega), c_2, c_8, c_5]; done) | (exfalso; simp_all; done) | (simp only [X_set, bey, none3, bmp, nI_clamp (show q < 2 ^ 31 by omega), c_2, c_8, c_5, ↓reduceIte] <;> rfl)) (sI_at _ _ _) ((sI_ne _ _ (by decide)).trans rfl) ((sI_ne _ _ (by decide)).trans h15) (by decide) (by decide) (by decide) (fun k k0 k1 k6 => ((sI_ne _ _ k0).trans rfl)) rfl) dX5_set_65
set_option maxHeartbeats 4000000 in
set_option maxRecDepth 100000 in
theorem c_X5_set_4 (l : Launch) (G : Geo) (u : Sg) (M F : Nat → Int32) (h11 : u.1 11 = M) (h15 : u.1 15 = F) (hM : Wf M) (x : Int32)  (z : Int32) : CtI l G yX5_set wsX5_set (rmO 2 44) [.ref (gad G 34), .int x, .int 4, .int z] u (P3 u 11 13 15 (X_set M F x 4 z)) := by
  refine CtI.of (cc := cX5_set) (maxL := 5) (ret := (some .int)) (own := RX5) (by decide) rfl rfl ?_
  rintro pg ev s0 mm below meth cd ⟨hx, hb, hr, hml, hown, hts, hlocks⟩ hE hP ls hl
  have hS : va_S (gA G) s0.heap s0.heap [] := va_S.rf
  have hl : lv_has ls 5 [(0, .ref (gad G 34)), (1, .int x), (2, .int 4), (3, .int z)] := hl
  have hn := hM.n
  have h8 := hM.n8
  refine lv_aload_n hx hb dX5_set_0 rfl (lv_at hl 0 rfl) ?_
  refine lv_iload_n hx hb dX5_set_1 rfl (lv_at hl 1 rfl) ?_
  refine hd_callVi (As := [.int x]) (rest := []) ⟨hx, hb, hml, hown, hts⟩ hE hP hS (c_X5_isPerson l G u M h11 x) rfl (cwV 1 hts gX5_set_X5_isPerson rfl rfl rfl (by decide +kernel) ⟨Nat.le_of_ble_eq_true rfl, Nat.le_of_ble_eq_true rfl⟩) (mo_recv hE hP) rfl hl.1 rfl (Nat.le_of_ble_eq_true rfl) dX5_set_2 (fun rq_1 vq_1 H locs q_1 hP hS => ?_)
  have hP := hP.cast (q_1.2)
  refine lv_cast q_1.1 ?_
  refine bo_eq (tgt := 35) hx hb dX5_set_5 (by decide) (fun c_2 => ?_) (fun c_2 => ?_)
  · skip
    refine lv_iconst (v := 0) hx hb dX5_set_35 (by decide) ?_
    refine lv_istore (lv' := [(4, .int 0), (0, .ref (gad G 34)), (1, .int x), (2, .int 4), (3, .int z)]) hx hb dX5_set_36 hl (by decide) rfl (fun ls hl => ?_)
    refine lv_iload hx hb dX5_set_38 (lv_at hl 0 rfl) ?_
    refine lv_if_eq (tgt := 59) hx hb dX5_set_40 (by decide) (fun _ => ?_) (fun h => False.elim (by revert h; decide))
    refine lv_aload_n hx hb dX5_set_59 rfl (lv_at hl 1 rfl) ?_
    refine lv_ldc (v := (-1000000001)) hx hb hown (hts (.constant RX5 35 ((-1000000001))) (by decide +kernel)) dX5_set_60 ?_
    refine hd_callVi (As := [.int (-1000000001)]) (rest := []) ⟨hx, hb, hml, hown, hts⟩ hE hP hS (c_X5_finds_0 l G u F h15) rfl (cwV 1 hts gX5_set_X5_finds rfl rfl rfl (by decide +kernel) ⟨Nat.le_of_ble_eq_true rfl, Nat.le_of_ble_eq_true rfl⟩) (mo_recv hE hP) rfl hl.1 rfl (Nat.le_of_ble_eq_true rfl) dX5_set_62 (fun rq_3 vq_3 H locs q_3 hP hS => ?_)
    have hP := hP.cast (q_3.2)
    refine lv_cast q_3.1 ?_
    exact hd_iret hx hb hr hlocks hP hS (P3.of (by first | rfl | (simp [X_set, bey, none3, bmp, c_2]; done) | (exfalso; simp_all; done) | (simp only [X_set, bey, none3, bmp, c_2, ↓reduceIte] <;> rfl)) ((sI_ne _ _ (by decide)).trans h11) ((sI_ne _ _ (by decide)).trans rfl) (sI_at _ _ _) (by decide) (by decide) (by decide) (fun k k0 k1 k6 => ((sI_ne _ _ k6).trans rfl)) rfl) dX5_set_65
  · skip
    obtain ⟨q, hq, rfl⟩ := pe_get hM c_2
    refine lv_iload_n hx hb dX5_set_8 rfl (lv_at hl 2 rfl) ?_
    refine lv_i2l hx hb dX5_set_9 rfl ?_
    refine lv_iconst (v := 1) hx hb dX5_set_10 (by decide) ?_
    refine lv_iconst (v := 5) hx hb dX5_set_11 (by decide) ?_
    refine hd_callSi (As := [.long ((4 : Int32).toInt64), .int 1, .int 5]) (rest := []) ⟨hx, hb, hml, hown, hts⟩ hE hP hS (c_X5_inI l G u 4 1 5) rfl (va_cwS 3 hts gX5_set_X5_in rfl rfl rfl (by decide +kernel) ⟨Nat.le_of_ble_eq_true rfl, Nat.le_of_ble_eq_true rfl⟩) rfl hl.1 rfl (Nat.le_of_ble_eq_true rfl) dX5_set_12 (fun rq_4 vq_4 H locs q_4 hP hS => ?_)
    have hP := hP.cast (q_4.2)
    refine lv_cast q_4.1 ?_
    refine bo_eq (tgt := 35) hx hb dX5_set_15 (by decide) (fun c_5 => absurd c_5 (by decide)) (fun c_5 => ?_)
    refine lv_iload_n hx hb dX5_set_18 rfl (lv_at hl 3 rfl) ?_
    refine lv_i2l hx hb dX5_set_19 rfl ?_
    refine lv_iconst (v := 0) hx hb dX5_set_20 (by decide) ?_
    refine lv_iload_n hx hb dX5_set_21 rfl (lv_at hl 2 rfl) ?_
    refine hd_callSi (As := [.int 4]) (rest := [.int 0, .long z.toInt64]) ⟨hx, hb, hml, hown, hts⟩ hE hP hS (c_X5_mostOf_4 l G u) rfl (va_cwS 1 hts gX5_set_X5_mostOf rfl rfl rfl (by decide +kernel) ⟨Nat.le_of_ble_eq_true rfl, Nat.le_of_ble_eq_true rfl⟩) rfl hl.1 rfl (Nat.le_of_ble_eq_true rfl) dX5_set_22 (fun rq_6 vq_6 H locs q_6 hP hS => ?_)
    have hP := hP.cast (q_6.2)
    refine lv_cast q_6.1 ?_
    refine hd_callSi (As := [.long z.toInt64, .int 0, .int 1]) (rest := []) ⟨hx, hb, hml, hown, hts⟩ hE hP hS (c_X5_inI l G u z 0 1) rfl (va_cwS 3 hts gX5_set_X5_in rfl rfl rfl (by decide +kernel) ⟨Nat.le_of_ble_eq_true rfl, Nat.le_of_ble_eq_true rfl⟩) rfl hl.1 rfl (Nat.le_of_ble_eq_true rfl) dX5_set_25 (fun rq_7 vq_7 H locs q_7 hP hS => ?_)
    have hP := hP.cast (q_7.2)
    refine lv_cast q_7.1 ?_
    refine bo_eq (tgt := 35) hx hb dX5_set_28 (by decide) (fun c_8 => ?_) (fun c_8 => ?_)
    · skip
      refine lv_iconst (v := 0) hx hb dX5_set_35 (by decide) ?_
      refine lv_istore (lv' := [(4, .int 0), (0, .ref (gad G 34)), (1, .int (nI q)), (2, .int 4), (3, .int z)]) hx hb dX5_set_36 hl (by decide) rfl (fun ls hl => ?_)
      refine lv_iload hx hb dX5_set_38 (lv_at hl 0 rfl) ?_
      refine lv_if_eq (tgt := 59) hx hb dX5_set_40 (by decide) (fun _ => ?_) (fun h => False.elim (by revert h; decide))
      refine lv_aload_n hx hb dX5_set_59 rfl (lv_at hl 1 rfl) ?_
      refine lv_ldc (v := (-1000000001)) hx hb hown (hts (.constant RX5 35 ((-1000000001))) (by decide +kernel)) dX5_set_60 ?_
      refine hd_callVi (As := [.int (-1000000001)]) (rest := []) ⟨hx, hb, hml, hown, hts⟩ hE hP hS (c_X5_finds_0 l G u F h15) rfl (cwV 1 hts gX5_set_X5_finds rfl rfl rfl (by decide +kernel) ⟨Nat.le_of_ble_eq_true rfl, Nat.le_of_ble_eq_true rfl⟩) (mo_recv hE hP) rfl hl.1 rfl (Nat.le_of_ble_eq_true rfl) dX5_set_62 (fun rq_9 vq_9 H locs q_9 hP hS => ?_)
      have hP := hP.cast (q_9.2)
      refine lv_cast q_9.1 ?_
      exact hd_iret hx hb hr hlocks hP hS (P3.of (by first | rfl | (simp [X_set, bey, none3, bmp, nI_clamp (show q < 2 ^ 31 by omega), c_2, c_8, c_5]; done) | (exfalso; simp_all; done) | (simp only [X_set, bey, none3, bmp, nI_clamp (show q < 2 ^ 31 by omega), c_2, c_8, c_5, ↓reduceIte] <;> rfl)) ((sI_ne _ _ (by decide)).trans h11) ((sI_ne _ _ (by decide)).trans rfl) (sI_at _ _ _) (by decide) (by decide) (by decide) (fun k k0 k1 k6 => ((sI_ne _ _ k6).trans rfl)) rfl) dX5_set_65
    · skip
      refine lv_iconst (v := 1) hx hb dX5_set_31 (by decide) ?_
      refine lv_goto (tgt := 36) hx hb dX5_set_32 (by decide) ?_
      refine lv_istore (lv' := [(4, .int 1), (0, .ref (gad G 34)), (1, .int (nI q)), (2, .int 4), (3, .int z)]) hx hb dX5_set_36 hl (by decide) rfl (fun ls hl => ?_)
      refine lv_iload hx hb dX5_set_38 (lv_at hl 0 rfl) ?_
      refine lv_if_eq (tgt := 59) hx hb dX5_set_40 (by decide) (fun h => False.elim (by revert h; decide)) (fun _ => ?_)
      refine lv_aload_n hx hb dX5_set_43 rfl (lv_at hl 1 rfl) ?_
      refine lv_iconst (v := 5) hx hb dX5_set_44 (by decide) ?_
      refine lv_bipush (v := 6) hx hb dX5_set_45 (by decide) ?_
      refine lv_iload_n hx hb dX5_set_47 rfl (lv_at hl 2 rfl) ?_
      refine nn_imul (a := 6) (b := q) hx hb dX5_set_48 ?_
      refine nn_iadd (a := 5) (b := 6 * q) hx hb dX5_set_49 ?_
      refine lv_iload_n hx hb dX5_set_50 rfl (lv_at hl 3 rfl) ?_
      refine nn_iadd (a := 5 + 6 * q) (b := 4) hx hb dX5_set_51 ?_
      refine lv_iload_n hx hb dX5_set_52 rfl (lv_at hl 4 rfl) ?_
      refine hd_callVi (As := [.int (nI (5 + 6 * q + 4)), .int z]) (rest := []) ⟨hx, hb, hml, hown, hts⟩ hE hP hS (c_X5_becomes l G u M (5 + 6 * q + 4) (by omega) z) ((sI_id h11).symm) (cwV 2 hts gX5_set_X5_becomes rfl rfl rfl (by decide +kernel) ⟨Nat.le_of_ble_eq_true rfl, Nat.le_of_ble_eq_true rfl⟩) (mo_recv hE hP) rfl hl.1 rfl (Nat.le_of_ble_eq_true rfl) dX5_set_53 (fun rq_10 vq_10 H locs q_10 hP hS => ?_)
      have hP := hP.cast (q_10.2)
      refine lv_cast q_10.1 ?_
      refine lv_goto (tgt := 65) hx hb dX5_set_56 (by decide) ?_
      exact hd_iret hx hb hr hlocks hP hS (P3.of (by first | rfl | (simp [X_set, bey, none3, bmp, nI_clamp (show q < 2 ^ 31 by omega), c_2, c_8, c_5]; done) | (exfalso; simp_all; done) | (simp only [X_set, bey, none3, bmp, nI_clamp (show q < 2 ^ 31 by omega), c_2, c_8, c_5, ↓reduceIte] <;> rfl)) (sI_at _ _ _) ((sI_ne _ _ (by decide)).trans rfl) ((sI_ne _ _ (by decide)).trans h15) (by decide) (by decide) (by decide) (fun k k0 k1 k6 => ((sI_ne _ _ k0).trans rfl)) rfl) dX5_set_65
set_option maxHeartbeats 4000000 in
set_option maxRecDepth 100000 in
theorem c_X5_set_5 (l : Launch) (G : Geo) (u : Sg) (M F : Nat → Int32) (h11 : u.1 11 = M) (h15 : u.1 15 = F) (hM : Wf M) (x : Int32)  (z : Int32) : CtI l G yX5_set wsX5_set (rmO 2 44) [.ref (gad G 34), .int x, .int 5, .int z] u (P3 u 11 13 15 (X_set M F x 5 z)) := by
  refine CtI.of (cc := cX5_set) (maxL := 5) (ret := (some .int)) (own := RX5) (by decide) rfl rfl ?_
  rintro pg ev s0 mm below meth cd ⟨hx, hb, hr, hml, hown, hts, hlocks⟩ hE hP ls hl
  have hS : va_S (gA G) s0.heap s0.heap [] := va_S.rf
  have hl : lv_has ls 5 [(0, .ref (gad G 34)), (1, .int x), (2, .int 5), (3, .int z)] := hl
  have hn := hM.n
  have h8 := hM.n8
  refine lv_aload_n hx hb dX5_set_0 rfl (lv_at hl 0 rfl) ?_
  refine lv_iload_n hx hb dX5_set_1 rfl (lv_at hl 1 rfl) ?_
  refine hd_callVi (As := [.int x]) (rest := []) ⟨hx, hb, hml, hown, hts⟩ hE hP hS (c_X5_isPerson l G u M h11 x) rfl (cwV 1 hts gX5_set_X5_isPerson rfl rfl rfl (by decide +kernel) ⟨Nat.le_of_ble_eq_true rfl, Nat.le_of_ble_eq_true rfl⟩) (mo_recv hE hP) rfl hl.1 rfl (Nat.le_of_ble_eq_true rfl) dX5_set_2 (fun rq_1 vq_1 H locs q_1 hP hS => ?_)
  have hP := hP.cast (q_1.2)
  refine lv_cast q_1.1 ?_
  refine bo_eq (tgt := 35) hx hb dX5_set_5 (by decide) (fun c_2 => ?_) (fun c_2 => ?_)
  · skip
    refine lv_iconst (v := 0) hx hb dX5_set_35 (by decide) ?_
    refine lv_istore (lv' := [(4, .int 0), (0, .ref (gad G 34)), (1, .int x), (2, .int 5), (3, .int z)]) hx hb dX5_set_36 hl (by decide) rfl (fun ls hl => ?_)
    refine lv_iload hx hb dX5_set_38 (lv_at hl 0 rfl) ?_
    refine lv_if_eq (tgt := 59) hx hb dX5_set_40 (by decide) (fun _ => ?_) (fun h => False.elim (by revert h; decide))
    refine lv_aload_n hx hb dX5_set_59 rfl (lv_at hl 1 rfl) ?_
    refine lv_ldc (v := (-1000000001)) hx hb hown (hts (.constant RX5 35 ((-1000000001))) (by decide +kernel)) dX5_set_60 ?_
    refine hd_callVi (As := [.int (-1000000001)]) (rest := []) ⟨hx, hb, hml, hown, hts⟩ hE hP hS (c_X5_finds_0 l G u F h15) rfl (cwV 1 hts gX5_set_X5_finds rfl rfl rfl (by decide +kernel) ⟨Nat.le_of_ble_eq_true rfl, Nat.le_of_ble_eq_true rfl⟩) (mo_recv hE hP) rfl hl.1 rfl (Nat.le_of_ble_eq_true rfl) dX5_set_62 (fun rq_3 vq_3 H locs q_3 hP hS => ?_)
    have hP := hP.cast (q_3.2)
    refine lv_cast q_3.1 ?_
    exact hd_iret hx hb hr hlocks hP hS (P3.of (by first | rfl | (simp [X_set, bey, none3, bmp, c_2]; done) | (exfalso; simp_all; done) | (simp only [X_set, bey, none3, bmp, c_2, ↓reduceIte] <;> rfl)) ((sI_ne _ _ (by decide)).trans h11) ((sI_ne _ _ (by decide)).trans rfl) (sI_at _ _ _) (by decide) (by decide) (by decide) (fun k k0 k1 k6 => ((sI_ne _ _ k6).trans rfl)) rfl) dX5_set_65
  · skip
    obtain ⟨q, hq, rfl⟩ := pe_get hM c_2
    refine lv_iload_n hx hb dX5_set_8 rfl (lv_at hl 2 rfl) ?_
    refine lv_i2l hx hb dX5_set_9 rfl ?_
    refine lv_iconst (v := 1) hx hb dX5_set_10 (by decide) ?_
    refine lv_iconst (v := 5) hx hb dX5_set_11 (by decide) ?_
    refine hd_callSi (As := [.long ((5 : Int32).toInt64), .int 1, .int 5]) (rest := []) ⟨hx, hb, hml, hown, hts⟩ hE hP hS (c_X5_inI l G u 5 1 5) rfl (va_cwS 3 hts gX5_set_X5_in rfl rfl rfl (by decide +kernel) ⟨Nat.le_of_ble_eq_true rfl, Nat.le_of_ble_eq_true rfl⟩) rfl hl.1 rfl (Nat.le_of_ble_eq_true rfl) dX5_set_12 (fun rq_4 vq_4 H locs q_4 hP hS => ?_)
    have hP := hP.cast (q_4.2)
    refine lv_cast q_4.1 ?_
    refine bo_eq (tgt := 35) hx hb dX5_set_15 (by decide) (fun c_5 => absurd c_5 (by decide)) (fun c_5 => ?_)
    refine lv_iload_n hx hb dX5_set_18 rfl (lv_at hl 3 rfl) ?_
    refine lv_i2l hx hb dX5_set_19 rfl ?_
    refine lv_iconst (v := 0) hx hb dX5_set_20 (by decide) ?_
    refine lv_iload_n hx hb dX5_set_21 rfl (lv_at hl 2 rfl) ?_
    refine hd_callSi (As := [.int 5]) (rest := [.int 0, .long z.toInt64]) ⟨hx, hb, hml, hown, hts⟩ hE hP hS (c_X5_mostOf_5 l G u) rfl (va_cwS 1 hts gX5_set_X5_mostOf rfl rfl rfl (by decide +kernel) ⟨Nat.le_of_ble_eq_true rfl, Nat.le_of_ble_eq_true rfl⟩) rfl hl.1 rfl (Nat.le_of_ble_eq_true rfl) dX5_set_22 (fun rq_6 vq_6 H locs q_6 hP hS => ?_)
    have hP := hP.cast (q_6.2)
    refine lv_cast q_6.1 ?_
    refine hd_callSi (As := [.long z.toInt64, .int 0, .int 999]) (rest := []) ⟨hx, hb, hml, hown, hts⟩ hE hP hS (c_X5_inI l G u z 0 999) rfl (va_cwS 3 hts gX5_set_X5_in rfl rfl rfl (by decide +kernel) ⟨Nat.le_of_ble_eq_true rfl, Nat.le_of_ble_eq_true rfl⟩) rfl hl.1 rfl (Nat.le_of_ble_eq_true rfl) dX5_set_25 (fun rq_7 vq_7 H locs q_7 hP hS => ?_)
    have hP := hP.cast (q_7.2)
    refine lv_cast q_7.1 ?_
    refine bo_eq (tgt := 35) hx hb dX5_set_28 (by decide) (fun c_8 => ?_) (fun c_8 => ?_)
    · skip
      refine lv_iconst (v := 0) hx hb dX5_set_35 (by decide) ?_
      refine lv_istore (lv' := [(4, .int 0), (0, .ref (gad G 34)), (1, .int (nI q)), (2, .int 5), (3, .int z)]) hx hb dX5_set_36 hl (by decide) rfl (fun ls hl => ?_)
      refine lv_iload hx hb dX5_set_38 (lv_at hl 0 rfl) ?_
      refine lv_if_eq (tgt := 59) hx hb dX5_set_40 (by decide) (fun _ => ?_) (fun h => False.elim (by revert h; decide))
      refine lv_aload_n hx hb dX5_set_59 rfl (lv_at hl 1 rfl) ?_
      refine lv_ldc (v := (-1000000001)) hx hb hown (hts (.constant RX5 35 ((-1000000001))) (by decide +kernel)) dX5_set_60 ?_
      refine hd_callVi (As := [.int (-1000000001)]) (rest := []) ⟨hx, hb, hml, hown, hts⟩ hE hP hS (c_X5_finds_0 l G u F h15) rfl (cwV 1 hts gX5_set_X5_finds rfl rfl rfl (by decide +kernel) ⟨Nat.le_of_ble_eq_true rfl, Nat.le_of_ble_eq_true rfl⟩) (mo_recv hE hP) rfl hl.1 rfl (Nat.le_of_ble_eq_true rfl) dX5_set_62 (fun rq_9 vq_9 H locs q_9 hP hS => ?_)
      have hP := hP.cast (q_9.2)
      refine lv_cast q_9.1 ?_
      exact hd_iret hx hb hr hlocks hP hS (P3.of (by first | rfl | (simp [X_set, bey, none3, bmp, nI_clamp (show q < 2 ^ 31 by omega), c_2, c_8, c_5]; done) | (exfalso; simp_all; done) | (simp only [X_set, bey, none3, bmp, nI_clamp (show q < 2 ^ 31 by omega), c_2, c_8, c_5, ↓reduceIte] <;> rfl)) ((sI_ne _ _ (by decide)).trans h11) ((sI_ne _ _ (by decide)).trans rfl) (sI_at _ _ _) (by decide) (by decide) (by decide) (fun k k0 k1 k6 => ((sI_ne _ _ k6).trans rfl)) rfl) dX5_set_65
    · skip
      refine lv_iconst (v := 1) hx hb dX5_set_31 (by decide) ?_
      refine lv_goto (tgt := 36) hx hb dX5_set_32 (by decide) ?_
      refine lv_istore (lv' := [(4, .int 1), (0, .ref (gad G 34)), (1, .int (nI q)), (2, .int 5), (3, .int z)]) hx hb dX5_set_36 hl (by decide) rfl (fun ls hl => ?_)
      refine lv_iload hx hb dX5_set_38 (lv_at hl 0 rfl) ?_
      refine lv_if_eq (tgt := 59) hx hb dX5_set_40 (by decide) (fun h => False.elim (by revert h; decide)) (fun _ => ?_)
      refine lv_aload_n hx hb dX5_set_43 rfl (lv_at hl 1 rfl) ?_
      refine lv_iconst (v := 5) hx hb dX5_set_44 (by decide) ?_
      refine lv_bipush (v := 6) hx hb dX5_set_45 (by decide) ?_
      refine lv_iload_n hx hb dX5_set_47 rfl (lv_at hl 2 rfl) ?_
      refine nn_imul (a := 6) (b := q) hx hb dX5_set_48 ?_
      refine nn_iadd (a := 5) (b := 6 * q) hx hb dX5_set_49 ?_
      refine lv_iload_n hx hb dX5_set_50 rfl (lv_at hl 3 rfl) ?_
      refine nn_iadd (a := 5 + 6 * q) (b := 5) hx hb dX5_set_51 ?_
      refine lv_iload_n hx hb dX5_set_52 rfl (lv_at hl 4 rfl) ?_
      refine hd_callVi (As := [.int (nI (5 + 6 * q + 5)), .int z]) (rest := []) ⟨hx, hb, hml, hown, hts⟩ hE hP hS (c_X5_becomes l G u M (5 + 6 * q + 5) (by omega) z) ((sI_id h11).symm) (cwV 2 hts gX5_set_X5_becomes rfl rfl rfl (by decide +kernel) ⟨Nat.le_of_ble_eq_true rfl, Nat.le_of_ble_eq_true rfl⟩) (mo_recv hE hP) rfl hl.1 rfl (Nat.le_of_ble_eq_true rfl) dX5_set_53 (fun rq_10 vq_10 H locs q_10 hP hS => ?_)
      have hP := hP.cast (q_10.2)
      refine lv_cast q_10.1 ?_
      refine lv_goto (tgt := 65) hx hb dX5_set_56 (by decide) ?_
      exact hd_iret hx hb hr hlocks hP hS (P3.of (by first | rfl | (simp [X_set, bey, none3, bmp, nI_clamp (show q < 2 ^ 31 by omega), c_2, c_8, c_5]; done) | (exfalso; simp_all; done) | (simp only [X_set, bey, none3, bmp, nI_clamp (show q < 2 ^ 31 by omega), c_2, c_8, c_5, ↓reduceIte] <;> rfl)) (sI_at _ _ _) ((sI_ne _ _ (by decide)).trans rfl) ((sI_ne _ _ (by decide)).trans h15) (by decide) (by decide) (by decide) (fun k k0 k1 k6 => ((sI_ne _ _ k0).trans rfl)) rfl) dX5_set_65
set_option maxHeartbeats 4000000 in
set_option maxRecDepth 100000 in
theorem c_X5_set_o (l : Launch) (G : Geo) (u : Sg) (M F : Nat → Int32) (h11 : u.1 11 = M) (h15 : u.1 15 = F) (hM : Wf M) (x : Int32) (w : Int32) (z : Int32) (h_1 : ¬ w = 1) (h_2 : ¬ w = 2) (h_3 : ¬ w = 3) (h_4 : ¬ w = 4) (h_5 : ¬ w = 5) : CtI l G yX5_set wsX5_set (rmO 2 44) [.ref (gad G 34), .int x, .int w, .int z] u (P3 u 11 13 15 (X_set M F x w z)) := by
  refine CtI.of (cc := cX5_set) (maxL := 5) (ret := (some .int)) (own := RX5) (by decide) rfl rfl ?_
  rintro pg ev s0 mm below meth cd ⟨hx, hb, hr, hml, hown, hts, hlocks⟩ hE hP ls hl
  have hS : va_S (gA G) s0.heap s0.heap [] := va_S.rf
  have hl : lv_has ls 5 [(0, .ref (gad G 34)), (1, .int x), (2, .int w), (3, .int z)] := hl
  have hn := hM.n
  have h8 := hM.n8
  refine lv_aload_n hx hb dX5_set_0 rfl (lv_at hl 0 rfl) ?_
  refine lv_iload_n hx hb dX5_set_1 rfl (lv_at hl 1 rfl) ?_
  refine hd_callVi (As := [.int x]) (rest := []) ⟨hx, hb, hml, hown, hts⟩ hE hP hS (c_X5_isPerson l G u M h11 x) rfl (cwV 1 hts gX5_set_X5_isPerson rfl rfl rfl (by decide +kernel) ⟨Nat.le_of_ble_eq_true rfl, Nat.le_of_ble_eq_true rfl⟩) (mo_recv hE hP) rfl hl.1 rfl (Nat.le_of_ble_eq_true rfl) dX5_set_2 (fun rq_1 vq_1 H locs q_1 hP hS => ?_)
  have hP := hP.cast (q_1.2)
  refine lv_cast q_1.1 ?_
  refine bo_eq (tgt := 35) hx hb dX5_set_5 (by decide) (fun c_2 => ?_) (fun c_2 => ?_)
  · skip
    refine lv_iconst (v := 0) hx hb dX5_set_35 (by decide) ?_
    refine lv_istore (lv' := [(4, .int 0), (0, .ref (gad G 34)), (1, .int x), (2, .int w), (3, .int z)]) hx hb dX5_set_36 hl (by decide) rfl (fun ls hl => ?_)
    refine lv_iload hx hb dX5_set_38 (lv_at hl 0 rfl) ?_
    refine lv_if_eq (tgt := 59) hx hb dX5_set_40 (by decide) (fun _ => ?_) (fun h => False.elim (by revert h; decide))
    refine lv_aload_n hx hb dX5_set_59 rfl (lv_at hl 1 rfl) ?_
    refine lv_ldc (v := (-1000000001)) hx hb hown (hts (.constant RX5 35 ((-1000000001))) (by decide +kernel)) dX5_set_60 ?_
    refine hd_callVi (As := [.int (-1000000001)]) (rest := []) ⟨hx, hb, hml, hown, hts⟩ hE hP hS (c_X5_finds_0 l G u F h15) rfl (cwV 1 hts gX5_set_X5_finds rfl rfl rfl (by decide +kernel) ⟨Nat.le_of_ble_eq_true rfl, Nat.le_of_ble_eq_true rfl⟩) (mo_recv hE hP) rfl hl.1 rfl (Nat.le_of_ble_eq_true rfl) dX5_set_62 (fun rq_3 vq_3 H locs q_3 hP hS => ?_)
    have hP := hP.cast (q_3.2)
    refine lv_cast q_3.1 ?_
    exact hd_iret hx hb hr hlocks hP hS (P3.of (by first | rfl | (simp [X_set, h_1, h_2, h_3, h_4, h_5, bey, none3, bmp, c_2]; done) | (exfalso; simp_all; done) | (simp only [X_set, h_1, h_2, h_3, h_4, h_5, bey, none3, bmp, c_2, ↓reduceIte] <;> rfl)) ((sI_ne _ _ (by decide)).trans h11) ((sI_ne _ _ (by decide)).trans rfl) (sI_at _ _ _) (by decide) (by decide) (by decide) (fun k k0 k1 k6 => ((sI_ne _ _ k6).trans rfl)) rfl) dX5_set_65
  · skip
    obtain ⟨q, hq, rfl⟩ := pe_get hM c_2
    refine lv_iload_n hx hb dX5_set_8 rfl (lv_at hl 2 rfl) ?_
    refine lv_i2l hx hb dX5_set_9 rfl ?_
    refine lv_iconst (v := 1) hx hb dX5_set_10 (by decide) ?_
    refine lv_iconst (v := 5) hx hb dX5_set_11 (by decide) ?_
    refine hd_callSi (As := [.long w.toInt64, .int 1, .int 5]) (rest := []) ⟨hx, hb, hml, hown, hts⟩ hE hP hS (c_X5_inI l G u w 1 5) rfl (va_cwS 3 hts gX5_set_X5_in rfl rfl rfl (by decide +kernel) ⟨Nat.le_of_ble_eq_true rfl, Nat.le_of_ble_eq_true rfl⟩) rfl hl.1 rfl (Nat.le_of_ble_eq_true rfl) dX5_set_12 (fun rq_4 vq_4 H locs q_4 hP hS => ?_)
    have hP := hP.cast (q_4.2)
    refine lv_cast q_4.1 ?_
    refine bo_eq (tgt := 35) hx hb dX5_set_15 (by decide) (fun c_5 => ?_) (fun c_5 => absurd (in15 c_5) (by simp [h_1, h_2, h_3, h_4, h_5]))
    refine lv_iconst (v := 0) hx hb dX5_set_35 (by decide) ?_
    refine lv_istore (lv' := [(4, .int 0), (0, .ref (gad G 34)), (1, .int (nI q)), (2, .int w), (3, .int z)]) hx hb dX5_set_36 hl (by decide) rfl (fun ls hl => ?_)
    refine lv_iload hx hb dX5_set_38 (lv_at hl 0 rfl) ?_
    refine lv_if_eq (tgt := 59) hx hb dX5_set_40 (by decide) (fun _ => ?_) (fun h => False.elim (by revert h; decide))
    refine lv_aload_n hx hb dX5_set_59 rfl (lv_at hl 1 rfl) ?_
    refine lv_ldc (v := (-1000000001)) hx hb hown (hts (.constant RX5 35 ((-1000000001))) (by decide +kernel)) dX5_set_60 ?_
    refine hd_callVi (As := [.int (-1000000001)]) (rest := []) ⟨hx, hb, hml, hown, hts⟩ hE hP hS (c_X5_finds_0 l G u F h15) rfl (cwV 1 hts gX5_set_X5_finds rfl rfl rfl (by decide +kernel) ⟨Nat.le_of_ble_eq_true rfl, Nat.le_of_ble_eq_true rfl⟩) (mo_recv hE hP) rfl hl.1 rfl (Nat.le_of_ble_eq_true rfl) dX5_set_62 (fun rq_6 vq_6 H locs q_6 hP hS => ?_)
    have hP := hP.cast (q_6.2)
    refine lv_cast q_6.1 ?_
    exact hd_iret hx hb hr hlocks hP hS (P3.of (by first | rfl | (simp [X_set, h_1, h_2, h_3, h_4, h_5, bey, none3, bmp, nI_clamp (show q < 2 ^ 31 by omega), c_2, c_5]; done) | (exfalso; simp_all; done) | (simp only [X_set, h_1, h_2, h_3, h_4, h_5, bey, none3, bmp, nI_clamp (show q < 2 ^ 31 by omega), c_2, c_5, ↓reduceIte] <;> rfl)) ((sI_ne _ _ (by decide)).trans h11) ((sI_ne _ _ (by decide)).trans rfl) (sI_at _ _ _) (by decide) (by decide) (by decide) (fun k k0 k1 k6 => ((sI_ne _ _ k6).trans rfl)) rfl) dX5_set_65
theorem c_X5_set (l : Launch) (G : Geo) (u : Sg) (M F : Nat → Int32) (h11 : u.1 11 = M) (h15 : u.1 15 = F) (hM : Wf M) (x : Int32) (w : Int32) (z : Int32) : CtI l G yX5_set wsX5_set (rmO 2 44) [.ref (gad G 34), .int x, .int w, .int z] u (P3 u 11 13 15 (X_set M F x w z)) := by
  by_cases h_1 : w = 1
  · subst h_1; exact c_X5_set_1 l G u M F h11 h15 hM x z
  by_cases h_2 : w = 2
  · subst h_2; exact c_X5_set_2 l G u M F h11 h15 hM x z
  by_cases h_3 : w = 3
  · subst h_3; exact c_X5_set_3 l G u M F h11 h15 hM x z
  by_cases h_4 : w = 4
  · subst h_4; exact c_X5_set_4 l G u M F h11 h15 hM x z
  by_cases h_5 : w = 5
  · subst h_5; exact c_X5_set_5 l G u M F h11 h15 hM x z
  exact c_X5_set_o l G u M F h11 h15 hM x w z h_1 h_2 h_3 h_4 h_5
set_option maxHeartbeats 4000000 in
set_option maxRecDepth 100000 in
theorem c_X5_turn (l : Launch) (G : Geo) (u : Sg) (M F : Nat → Int32) (h11 : u.1 11 = M) (h15 : u.1 15 = F) (hM : Wf M) (x k : Int32) : CtI l G yX5_turn wsX5_turn (rmO 2 44) [.ref (gad G 34), .int x, .int k] u (P3 u 11 13 15 (X_turn M F x k)) := by
  refine CtI.of (cc := cX5_turn) (maxL := 3) (ret := (some .int)) (own := RX5) (by decide) rfl rfl ?_
  rintro pg ev s0 mm below meth cd ⟨hx, hb, hr, hml, hown, hts, hlocks⟩ hE hP ls hl
  have hS : va_S (gA G) s0.heap s0.heap [] := va_S.rf
  have hl : lv_has ls 3 [(0, .ref (gad G 34)), (1, .int x), (2, .int k)] := hl
  have hn := hM.n
  have h8 := hM.n8
  refine lv_aload_n hx hb dX5_turn_0 rfl (lv_at hl 0 rfl) ?_
  refine lv_iload_n hx hb dX5_turn_1 rfl (lv_at hl 1 rfl) ?_
  refine hd_callVi (As := [.int x]) (rest := []) ⟨hx, hb, hml, hown, hts⟩ hE hP hS (c_X5_isPerson l G u M h11 x) rfl (cwV 1 hts gX5_turn_X5_isPerson rfl rfl rfl (by decide +kernel) ⟨Nat.le_of_ble_eq_true rfl, Nat.le_of_ble_eq_true rfl⟩) (mo_recv hE hP) rfl hl.1 rfl (Nat.le_of_ble_eq_true rfl) dX5_turn_2 (fun rq_1 vq_1 H locs q_1 hP hS => ?_)
  have hP := hP.cast (q_1.2)
  refine lv_cast q_1.1 ?_
  refine bo_eq (tgt := 32) hx hb dX5_turn_5 (by decide) (fun c_2 => ?_) (fun c_2 => ?_)
  · skip
    refine lv_aload_n hx hb dX5_turn_32 rfl (lv_at hl 0 rfl) ?_
    refine lv_ldc (v := (-1000000001)) hx hb hown (hts (.constant RX5 35 ((-1000000001))) (by decide +kernel)) dX5_turn_33 ?_
    refine hd_callVi (As := [.int (-1000000001)]) (rest := []) ⟨hx, hb, hml, hown, hts⟩ hE hP hS (c_X5_finds_0 l G u F h15) rfl (cwV 1 hts gX5_turn_X5_finds rfl rfl rfl (by decide +kernel) ⟨Nat.le_of_ble_eq_true rfl, Nat.le_of_ble_eq_true rfl⟩) (mo_recv hE hP) rfl hl.1 rfl (Nat.le_of_ble_eq_true rfl) dX5_turn_35 (fun rq_3 vq_3 H locs q_3 hP hS => ?_)
    have hP := hP.cast (q_3.2)
    refine lv_cast q_3.1 ?_
    exact hd_iret hx hb hr hlocks hP hS (P3.of (by first | rfl | (simp [X_turn, bey, none3, bmp, c_2]; done) | (exfalso; simp_all; done) | (simp only [X_turn, bey, none3, bmp, c_2, ↓reduceIte] <;> rfl)) ((sI_ne _ _ (by decide)).trans h11) ((sI_ne _ _ (by decide)).trans rfl) (sI_at _ _ _) (by decide) (by decide) (by decide) (fun k k0 k1 k6 => ((sI_ne _ _ k6).trans rfl)) rfl) dX5_turn_38
  · skip
    obtain ⟨q, hq, rfl⟩ := pe_get hM c_2
    refine lv_iload_n hx hb dX5_turn_8 rfl (lv_at hl 2 rfl) ?_
    refine lv_i2l hx hb dX5_turn_9 rfl ?_
    refine lv_iconst (v := 0) hx hb dX5_turn_10 (by decide) ?_
    refine lv_iconst (v := 5) hx hb dX5_turn_11 (by decide) ?_
    refine hd_callSi (As := [.long k.toInt64, .int 0, .int 5]) (rest := []) ⟨hx, hb, hml, hown, hts⟩ hE hP hS (c_X5_inI l G u k 0 5) rfl (va_cwS 3 hts gX5_turn_X5_in rfl rfl rfl (by decide +kernel) ⟨Nat.le_of_ble_eq_true rfl, Nat.le_of_ble_eq_true rfl⟩) rfl hl.1 rfl (Nat.le_of_ble_eq_true rfl) dX5_turn_12 (fun rq_4 vq_4 H locs q_4 hP hS => ?_)
    have hP := hP.cast (q_4.2)
    refine lv_cast q_4.1 ?_
    refine bo_eq (tgt := 32) hx hb dX5_turn_15 (by decide) (fun c_5 => ?_) (fun c_5 => ?_)
    · skip
      refine lv_aload_n hx hb dX5_turn_32 rfl (lv_at hl 0 rfl) ?_
      refine lv_ldc (v := (-1000000001)) hx hb hown (hts (.constant RX5 35 ((-1000000001))) (by decide +kernel)) dX5_turn_33 ?_
      refine hd_callVi (As := [.int (-1000000001)]) (rest := []) ⟨hx, hb, hml, hown, hts⟩ hE hP hS (c_X5_finds_0 l G u F h15) rfl (cwV 1 hts gX5_turn_X5_finds rfl rfl rfl (by decide +kernel) ⟨Nat.le_of_ble_eq_true rfl, Nat.le_of_ble_eq_true rfl⟩) (mo_recv hE hP) rfl hl.1 rfl (Nat.le_of_ble_eq_true rfl) dX5_turn_35 (fun rq_6 vq_6 H locs q_6 hP hS => ?_)
      have hP := hP.cast (q_6.2)
      refine lv_cast q_6.1 ?_
      exact hd_iret hx hb hr hlocks hP hS (P3.of (by first | rfl | (simp [X_turn, bey, none3, bmp, nI_clamp (show q < 2 ^ 31 by omega), c_2, c_5]; done) | (exfalso; simp_all; done) | (simp only [X_turn, bey, none3, bmp, nI_clamp (show q < 2 ^ 31 by omega), c_2, c_5, ↓reduceIte] <;> rfl)) ((sI_ne _ _ (by decide)).trans h11) ((sI_ne _ _ (by decide)).trans rfl) (sI_at _ _ _) (by decide) (by decide) (by decide) (fun k k0 k1 k6 => ((sI_ne _ _ k6).trans rfl)) rfl) dX5_turn_38
    · skip
      refine lv_aload_n hx hb dX5_turn_18 rfl (lv_at hl 0 rfl) ?_
      refine lv_iconst (v := 5) hx hb dX5_turn_19 (by decide) ?_
      refine lv_bipush (v := 6) hx hb dX5_turn_20 (by decide) ?_
      refine lv_iload_n hx hb dX5_turn_22 rfl (lv_at hl 1 rfl) ?_
      refine nn_imul (a := 6) (b := q) hx hb dX5_turn_23 ?_
      refine nn_iadd (a := 5) (b := 6 * q) hx hb dX5_turn_24 ?_
      refine lv_iload_n hx hb dX5_turn_25 rfl (lv_at hl 2 rfl) ?_
      refine hd_callVi (As := [.int (nI (5 + 6 * q)), .int k]) (rest := []) ⟨hx, hb, hml, hown, hts⟩ hE hP hS (c_X5_becomes l G u M (5 + 6 * q) (by omega) k) ((sI_id h11).symm) (cwV 2 hts gX5_turn_X5_becomes rfl rfl rfl (by decide +kernel) ⟨Nat.le_of_ble_eq_true rfl, Nat.le_of_ble_eq_true rfl⟩) (mo_recv hE hP) rfl hl.1 rfl (Nat.le_of_ble_eq_true rfl) dX5_turn_26 (fun rq_7 vq_7 H locs q_7 hP hS => ?_)
      have hP := hP.cast (q_7.2)
      refine lv_cast q_7.1 ?_
      refine lv_goto (tgt := 38) hx hb dX5_turn_29 (by decide) ?_
      exact hd_iret hx hb hr hlocks hP hS (P3.of (by first | rfl | (simp [X_turn, bey, none3, bmp, nI_clamp (show q < 2 ^ 31 by omega), c_2, c_5]; done) | (exfalso; simp_all; done) | (simp only [X_turn, bey, none3, bmp, nI_clamp (show q < 2 ^ 31 by omega), c_2, c_5, ↓reduceIte] <;> rfl)) (sI_at _ _ _) ((sI_ne _ _ (by decide)).trans rfl) ((sI_ne _ _ (by decide)).trans h15) (by decide) (by decide) (by decide) (fun k k0 k1 k6 => ((sI_ne _ _ k0).trans rfl)) rfl) dX5_turn_38
set_option maxHeartbeats 4000000 in
set_option maxRecDepth 100000 in
theorem c_X5_as (l : Launch) (G : Geo) (u : Sg) (M F : Nat → Int32) (h11 : u.1 11 = M) (h15 : u.1 15 = F) (hM : Wf M) (x k : Int32) : CtI l G yX5_as wsX5_as (rmO 2 44) [.ref (gad G 34), .int x, .int k] u (P3 u 11 13 15 (X_as M F x k)) := by
  refine CtI.of (cc := cX5_as) (maxL := 5) (ret := (some .int)) (own := RX5) (by decide) rfl rfl ?_
  rintro pg ev s0 mm below meth cd ⟨hx, hb, hr, hml, hown, hts, hlocks⟩ hE hP ls hl
  have hS : va_S (gA G) s0.heap s0.heap [] := va_S.rf
  have hl : lv_has ls 5 [(0, .ref (gad G 34)), (1, .int x), (2, .int k)] := hl
  have hn := hM.n
  have h8 := hM.n8
  refine lv_aload_n hx hb dX5_as_0 rfl (lv_at hl 0 rfl) ?_
  refine lv_iload_n hx hb dX5_as_1 rfl (lv_at hl 1 rfl) ?_
  refine hd_callVi (As := [.int x]) (rest := []) ⟨hx, hb, hml, hown, hts⟩ hE hP hS (c_X5_isPerson l G u M h11 x) rfl (cwV 1 hts gX5_as_X5_isPerson rfl rfl rfl (by decide +kernel) ⟨Nat.le_of_ble_eq_true rfl, Nat.le_of_ble_eq_true rfl⟩) (mo_recv hE hP) rfl hl.1 rfl (Nat.le_of_ble_eq_true rfl) dX5_as_2 (fun rq_1 vq_1 H locs q_1 hP hS => ?_)
  have hP := hP.cast (q_1.2)
  refine lv_cast q_1.1 ?_
  refine bo_eq (tgt := 18) hx hb dX5_as_5 (by decide) (fun c_2 => ?_) (fun c_2 => ?_)
  · skip
    refine lv_aload_n hx hb dX5_as_18 rfl (lv_at hl 0 rfl) ?_
    refine lv_ldc (v := (-1000000001)) hx hb hown (hts (.constant RX5 35 ((-1000000001))) (by decide +kernel)) dX5_as_19 ?_
    refine hd_callVi (As := [.int (-1000000001)]) (rest := []) ⟨hx, hb, hml, hown, hts⟩ hE hP hS (c_X5_finds_0 l G u F h15) rfl (cwV 1 hts gX5_as_X5_finds rfl rfl rfl (by decide +kernel) ⟨Nat.le_of_ble_eq_true rfl, Nat.le_of_ble_eq_true rfl⟩) (mo_recv hE hP) rfl hl.1 rfl (Nat.le_of_ble_eq_true rfl) dX5_as_21 (fun rq_3 vq_3 H locs q_3 hP hS => ?_)
    have hP := hP.cast (q_3.2)
    refine lv_cast q_3.1 ?_
    exact hd_iret hx hb hr hlocks hP hS (P3.of (by simp [X_as, bey, bmp, c_2]) ((sI_ne _ _ (by decide)).trans h11) ((sI_ne _ _ (by decide)).trans rfl) (sI_at _ _ _) (by decide) (by decide) (by decide) (fun k k0 k1 k6 => ((sI_ne _ _ k6).trans rfl)) rfl) dX5_as_24
  · skip
    obtain ⟨q, hq, rfl⟩ := pe_get hM c_2
    refine lv_iload_n hx hb dX5_as_8 rfl (lv_at hl 2 rfl) ?_
    refine lv_i2l hx hb dX5_as_9 rfl ?_
    refine lv_iconst (v := 0) hx hb dX5_as_10 (by decide) ?_
    refine lv_iconst (v := 5) hx hb dX5_as_11 (by decide) ?_
    refine hd_callSi (As := [.long k.toInt64, .int 0, .int 5]) (rest := []) ⟨hx, hb, hml, hown, hts⟩ hE hP hS (c_X5_inI l G u k 0 5) rfl (va_cwS 3 hts gX5_as_X5_in rfl rfl rfl (by decide +kernel) ⟨Nat.le_of_ble_eq_true rfl, Nat.le_of_ble_eq_true rfl⟩) rfl hl.1 rfl (Nat.le_of_ble_eq_true rfl) dX5_as_12 (fun rq_4 vq_4 H locs q_4 hP hS => ?_)
    have hP := hP.cast (q_4.2)
    refine lv_cast q_4.1 ?_
    refine bo_ne (tgt := 25) hx hb dX5_as_15 (by decide) (fun c_5 => ?_) (fun c_5 => ?_)
    · skip
      refine lv_aload_n hx hb dX5_as_25 rfl (lv_at hl 0 rfl) ?_
      refine lv_iload_n hx hb dX5_as_26 rfl (lv_at hl 1 rfl) ?_
      refine lv_iconst (v := 0) hx hb dX5_as_27 (by decide) ?_
      refine hd_callVi (As := [.int (nI q), .int 0]) (rest := []) ⟨hx, hb, hml, hown, hts⟩ hE hP hS (c_X5_it l G u M q 0 (by omega) (by omega)) ((sI_id h11).symm) (cwV 2 hts gX5_as_X5_it rfl rfl rfl (by decide +kernel) ⟨Nat.le_of_ble_eq_true rfl, Nat.le_of_ble_eq_true rfl⟩) (mo_recv hE hP) rfl hl.1 rfl (Nat.le_of_ble_eq_true rfl) dX5_as_28 (fun rq_6 vq_6 H locs q_6 hP hS => ?_)
      have hP := hP.cast (q_6.2.trans ((sI_id h11).symm).symm)
      refine lv_cast q_6.1 ?_
      refine lv_istore_n (lv' := [(3, .int (M (5 + 6 * q + 0))), (0, .ref (gad G 34)), (1, .int (nI q)), (2, .int k)]) hx hb dX5_as_31 rfl hl (by decide) rfl (fun ls hl => ?_)
      refine lv_iload_n hx hb dX5_as_32 rfl (lv_at hl 3 rfl) ?_
      refine lv_if_eq (tgt := 61) hx hb dX5_as_33 (by decide) (fun c_7 => ?_) (fun c_7 => ?_)
      · skip
        refine lv_iconst (v := 1) hx hb dX5_as_61 (by decide) ?_
        refine lv_goto (tgt := 66) hx hb dX5_as_62 (by decide) ?_
        refine lv_istore (lv' := [(4, .int 1), (3, .int (M (5 + 6 * q + 0))), (0, .ref (gad G 34)), (1, .int (nI q)), (2, .int k)]) hx hb dX5_as_66 hl (by decide) rfl (fun ls hl => ?_)
        refine lv_iload hx hb dX5_as_68 (lv_at hl 0 rfl) ?_
        refine lv_if_eq (tgt := 82) hx hb dX5_as_70 (by decide) (fun h => False.elim (by revert h; decide)) (fun _ => ?_)
        refine lv_aload_n hx hb dX5_as_73 rfl (lv_at hl 2 rfl) ?_
        refine lv_iload_n hx hb dX5_as_74 rfl (lv_at hl 3 rfl) ?_
        refine lv_iconst (v := 3) hx hb dX5_as_75 (by decide) ?_
        refine hd_callVi (As := [.int (nI q), .int 3]) (rest := []) ⟨hx, hb, hml, hown, hts⟩ hE hP hS (c_X5_it l G u M q 3 (by omega) (by omega)) ((sI_id h11).symm) (cwV 2 hts gX5_as_X5_it rfl rfl rfl (by decide +kernel) ⟨Nat.le_of_ble_eq_true rfl, Nat.le_of_ble_eq_true rfl⟩) (mo_recv hE hP) rfl hl.1 rfl (Nat.le_of_ble_eq_true rfl) dX5_as_76 (fun rq_8 vq_8 H locs q_8 hP hS => ?_)
        have hP := hP.cast (q_8.2.trans ((sI_id h11).symm).symm)
        refine lv_cast q_8.1 ?_
        refine lv_goto (tgt := 88) hx hb dX5_as_79 (by decide) ?_
        exact hd_iret hx hb hr hlocks hP hS (P3.of (by rw [X_as, c_2, if_neg (by decide), c_5, if_neg (by decide), nI_clamp (show q < 2 ^ 31 by omega), show asMay (M (5 + 6 * q + 0)) k = true from (by simp only [asMay, decide_eq_true c_7]; rfl), if_neg (by decide)]) h11 rfl h15 (by decide) (by decide) (by decide) (fun k k0 k1 k6 => rfl) rfl) dX5_as_88
      · skip
        refine lv_iload_n hx hb dX5_as_36 rfl (lv_at hl 3 rfl) ?_
        refine lv_iload_n hx hb dX5_as_37 rfl (lv_at hl 0 rfl) ?_
        refine lv_icmp_eq (tgt := 61) hx hb dX5_as_38 (by decide) (fun c_9 => ?_) (fun c_9 => ?_)
        · skip
          refine lv_iconst (v := 1) hx hb dX5_as_61 (by decide) ?_
          refine lv_goto (tgt := 66) hx hb dX5_as_62 (by decide) ?_
          refine lv_istore (lv' := [(4, .int 1), (3, .int (M (5 + 6 * q + 0))), (0, .ref (gad G 34)), (1, .int (nI q)), (2, .int k)]) hx hb dX5_as_66 hl (by decide) rfl (fun ls hl => ?_)
          refine lv_iload hx hb dX5_as_68 (lv_at hl 0 rfl) ?_
          refine lv_if_eq (tgt := 82) hx hb dX5_as_70 (by decide) (fun h => False.elim (by revert h; decide)) (fun _ => ?_)
          refine lv_aload_n hx hb dX5_as_73 rfl (lv_at hl 2 rfl) ?_
          refine lv_iload_n hx hb dX5_as_74 rfl (lv_at hl 3 rfl) ?_
          refine lv_iconst (v := 3) hx hb dX5_as_75 (by decide) ?_
          refine hd_callVi (As := [.int (nI q), .int 3]) (rest := []) ⟨hx, hb, hml, hown, hts⟩ hE hP hS (c_X5_it l G u M q 3 (by omega) (by omega)) ((sI_id h11).symm) (cwV 2 hts gX5_as_X5_it rfl rfl rfl (by decide +kernel) ⟨Nat.le_of_ble_eq_true rfl, Nat.le_of_ble_eq_true rfl⟩) (mo_recv hE hP) rfl hl.1 rfl (Nat.le_of_ble_eq_true rfl) dX5_as_76 (fun rq_10 vq_10 H locs q_10 hP hS => ?_)
          have hP := hP.cast (q_10.2.trans ((sI_id h11).symm).symm)
          refine lv_cast q_10.1 ?_
          refine lv_goto (tgt := 88) hx hb dX5_as_79 (by decide) ?_
          exact hd_iret hx hb hr hlocks hP hS (P3.of (by rw [X_as, c_2, if_neg (by decide), c_5, if_neg (by decide), nI_clamp (show q < 2 ^ 31 by omega), show asMay (M (5 + 6 * q + 0)) k = true from (by simp only [asMay, decide_eq_false c_7, decide_eq_true c_9]; rfl), if_neg (by decide)]) h11 rfl h15 (by decide) (by decide) (by decide) (fun k k0 k1 k6 => rfl) rfl) dX5_as_88
        · skip
          refine lv_iload_n hx hb dX5_as_41 rfl (lv_at hl 3 rfl) ?_
          refine lv_iconst (v := 3) hx hb dX5_as_42 (by decide) ?_
          refine lv_icmp_ne (tgt := 51) hx hb dX5_as_43 (by decide) (fun c_11 => ?_) (fun c_11 => ?_)
          · skip
            refine lv_iload_n hx hb dX5_as_51 rfl (lv_at hl 3 rfl) ?_
            refine lv_iconst (v := 2) hx hb dX5_as_52 (by decide) ?_
            refine lv_icmp_ne (tgt := 65) hx hb dX5_as_53 (by decide) (fun c_12 => ?_) (fun c_12 => ?_)
            · skip
              refine lv_iconst (v := 0) hx hb dX5_as_65 (by decide) ?_
              refine lv_istore (lv' := [(4, .int 0), (3, .int (M (5 + 6 * q + 0))), (0, .ref (gad G 34)), (1, .int (nI q)), (2, .int k)]) hx hb dX5_as_66 hl (by decide) rfl (fun ls hl => ?_)
              refine lv_iload hx hb dX5_as_68 (lv_at hl 0 rfl) ?_
              refine lv_if_eq (tgt := 82) hx hb dX5_as_70 (by decide) (fun _ => ?_) (fun h => False.elim (by revert h; decide))
              refine lv_aload_n hx hb dX5_as_82 rfl (lv_at hl 2 rfl) ?_
              refine lv_ldc (v := (-1000000003)) hx hb hown (hts (.constant RX5 86 ((-1000000003))) (by decide +kernel)) dX5_as_83 ?_
              refine hd_callVi (As := [.int (-1000000003)]) (rest := []) ⟨hx, hb, hml, hown, hts⟩ hE hP hS (c_X5_finds_2 l G u F h15) rfl (cwV 1 hts gX5_as_X5_finds rfl rfl rfl (by decide +kernel) ⟨Nat.le_of_ble_eq_true rfl, Nat.le_of_ble_eq_true rfl⟩) (mo_recv hE hP) rfl hl.1 rfl (Nat.le_of_ble_eq_true rfl) dX5_as_85 (fun rq_13 vq_13 H locs q_13 hP hS => ?_)
              have hP := hP.cast (q_13.2)
              refine lv_cast q_13.1 ?_
              exact hd_iret hx hb hr hlocks hP hS (P3.of (by rw [X_as, c_2, if_neg (by decide), c_5, if_neg (by decide), nI_clamp (show q < 2 ^ 31 by omega), show asMay (M (5 + 6 * q + 0)) k = false from (by simp only [asMay, decide_eq_false c_7, decide_eq_false c_9, decide_eq_false c_11, decide_eq_false c_12]; rfl), if_pos rfl]) ((sI_ne _ _ (by decide)).trans h11) ((sI_ne _ _ (by decide)).trans rfl) (sI_at _ _ _) (by decide) (by decide) (by decide) (fun k k0 k1 k6 => ((sI_ne _ _ k6).trans rfl)) rfl) dX5_as_88
            · skip
              refine lv_iload_n hx hb dX5_as_56 rfl (lv_at hl 0 rfl) ?_
              refine lv_iconst (v := 5) hx hb dX5_as_57 (by decide) ?_
              refine lv_icmp_ne (tgt := 65) hx hb dX5_as_58 (by decide) (fun c_14 => ?_) (fun c_14 => ?_)
              · skip
                refine lv_iconst (v := 0) hx hb dX5_as_65 (by decide) ?_
                refine lv_istore (lv' := [(4, .int 0), (3, .int (M (5 + 6 * q + 0))), (0, .ref (gad G 34)), (1, .int (nI q)), (2, .int k)]) hx hb dX5_as_66 hl (by decide) rfl (fun ls hl => ?_)
                refine lv_iload hx hb dX5_as_68 (lv_at hl 0 rfl) ?_
                refine lv_if_eq (tgt := 82) hx hb dX5_as_70 (by decide) (fun _ => ?_) (fun h => False.elim (by revert h; decide))
                refine lv_aload_n hx hb dX5_as_82 rfl (lv_at hl 2 rfl) ?_
                refine lv_ldc (v := (-1000000003)) hx hb hown (hts (.constant RX5 86 ((-1000000003))) (by decide +kernel)) dX5_as_83 ?_
                refine hd_callVi (As := [.int (-1000000003)]) (rest := []) ⟨hx, hb, hml, hown, hts⟩ hE hP hS (c_X5_finds_2 l G u F h15) rfl (cwV 1 hts gX5_as_X5_finds rfl rfl rfl (by decide +kernel) ⟨Nat.le_of_ble_eq_true rfl, Nat.le_of_ble_eq_true rfl⟩) (mo_recv hE hP) rfl hl.1 rfl (Nat.le_of_ble_eq_true rfl) dX5_as_85 (fun rq_15 vq_15 H locs q_15 hP hS => ?_)
                have hP := hP.cast (q_15.2)
                refine lv_cast q_15.1 ?_
                exact hd_iret hx hb hr hlocks hP hS (P3.of (by rw [X_as, c_2, if_neg (by decide), c_5, if_neg (by decide), nI_clamp (show q < 2 ^ 31 by omega), show asMay (M (5 + 6 * q + 0)) k = false from (by simp only [asMay, decide_eq_false c_7, decide_eq_false c_9, decide_eq_false c_11, decide_eq_true c_12, decide_eq_false c_14]; rfl), if_pos rfl]) ((sI_ne _ _ (by decide)).trans h11) ((sI_ne _ _ (by decide)).trans rfl) (sI_at _ _ _) (by decide) (by decide) (by decide) (fun k k0 k1 k6 => ((sI_ne _ _ k6).trans rfl)) rfl) dX5_as_88
              · skip
                refine lv_iconst (v := 1) hx hb dX5_as_61 (by decide) ?_
                refine lv_goto (tgt := 66) hx hb dX5_as_62 (by decide) ?_
                refine lv_istore (lv' := [(4, .int 1), (3, .int (M (5 + 6 * q + 0))), (0, .ref (gad G 34)), (1, .int (nI q)), (2, .int k)]) hx hb dX5_as_66 hl (by decide) rfl (fun ls hl => ?_)
                refine lv_iload hx hb dX5_as_68 (lv_at hl 0 rfl) ?_
                refine lv_if_eq (tgt := 82) hx hb dX5_as_70 (by decide) (fun h => False.elim (by revert h; decide)) (fun _ => ?_)
                refine lv_aload_n hx hb dX5_as_73 rfl (lv_at hl 2 rfl) ?_
                refine lv_iload_n hx hb dX5_as_74 rfl (lv_at hl 3 rfl) ?_
                refine lv_iconst (v := 3) hx hb dX5_as_75 (by decide) ?_
                refine hd_callVi (As := [.int (nI q), .int 3]) (rest := []) ⟨hx, hb, hml, hown, hts⟩ hE hP hS (c_X5_it l G u M q 3 (by omega) (by omega)) ((sI_id h11).symm) (cwV 2 hts gX5_as_X5_it rfl rfl rfl (by decide +kernel) ⟨Nat.le_of_ble_eq_true rfl, Nat.le_of_ble_eq_true rfl⟩) (mo_recv hE hP) rfl hl.1 rfl (Nat.le_of_ble_eq_true rfl) dX5_as_76 (fun rq_16 vq_16 H locs q_16 hP hS => ?_)
                have hP := hP.cast (q_16.2.trans ((sI_id h11).symm).symm)
                refine lv_cast q_16.1 ?_
                refine lv_goto (tgt := 88) hx hb dX5_as_79 (by decide) ?_
                exact hd_iret hx hb hr hlocks hP hS (P3.of (by rw [X_as, c_2, if_neg (by decide), c_5, if_neg (by decide), nI_clamp (show q < 2 ^ 31 by omega), show asMay (M (5 + 6 * q + 0)) k = true from (by simp only [asMay, decide_eq_false c_7, decide_eq_false c_9, decide_eq_false c_11, decide_eq_true c_12, decide_eq_true c_14]; rfl), if_neg (by decide)]) h11 rfl h15 (by decide) (by decide) (by decide) (fun k k0 k1 k6 => rfl) rfl) dX5_as_88
          · skip
            refine lv_iload_n hx hb dX5_as_46 rfl (lv_at hl 0 rfl) ?_
            refine lv_iconst (v := 4) hx hb dX5_as_47 (by decide) ?_
            refine lv_icmp_eq (tgt := 61) hx hb dX5_as_48 (by decide) (fun c_17 => ?_) (fun c_17 => ?_)
            · skip
              refine lv_iconst (v := 1) hx hb dX5_as_61 (by decide) ?_
              refine lv_goto (tgt := 66) hx hb dX5_as_62 (by decide) ?_
              refine lv_istore (lv' := [(4, .int 1), (3, .int (M (5 + 6 * q + 0))), (0, .ref (gad G 34)), (1, .int (nI q)), (2, .int k)]) hx hb dX5_as_66 hl (by decide) rfl (fun ls hl => ?_)
              refine lv_iload hx hb dX5_as_68 (lv_at hl 0 rfl) ?_
              refine lv_if_eq (tgt := 82) hx hb dX5_as_70 (by decide) (fun h => False.elim (by revert h; decide)) (fun _ => ?_)
              refine lv_aload_n hx hb dX5_as_73 rfl (lv_at hl 2 rfl) ?_
              refine lv_iload_n hx hb dX5_as_74 rfl (lv_at hl 3 rfl) ?_
              refine lv_iconst (v := 3) hx hb dX5_as_75 (by decide) ?_
              refine hd_callVi (As := [.int (nI q), .int 3]) (rest := []) ⟨hx, hb, hml, hown, hts⟩ hE hP hS (c_X5_it l G u M q 3 (by omega) (by omega)) ((sI_id h11).symm) (cwV 2 hts gX5_as_X5_it rfl rfl rfl (by decide +kernel) ⟨Nat.le_of_ble_eq_true rfl, Nat.le_of_ble_eq_true rfl⟩) (mo_recv hE hP) rfl hl.1 rfl (Nat.le_of_ble_eq_true rfl) dX5_as_76 (fun rq_18 vq_18 H locs q_18 hP hS => ?_)
              have hP := hP.cast (q_18.2.trans ((sI_id h11).symm).symm)
              refine lv_cast q_18.1 ?_
              refine lv_goto (tgt := 88) hx hb dX5_as_79 (by decide) ?_
              exact hd_iret hx hb hr hlocks hP hS (P3.of (by rw [X_as, c_2, if_neg (by decide), c_5, if_neg (by decide), nI_clamp (show q < 2 ^ 31 by omega), show asMay (M (5 + 6 * q + 0)) k = true from (by simp only [asMay, decide_eq_false c_7, decide_eq_false c_9, decide_eq_true c_11, decide_eq_true c_17]; rfl), if_neg (by decide)]) h11 rfl h15 (by decide) (by decide) (by decide) (fun k k0 k1 k6 => rfl) rfl) dX5_as_88
            · skip
              refine lv_iload_n hx hb dX5_as_51 rfl (lv_at hl 3 rfl) ?_
              refine lv_iconst (v := 2) hx hb dX5_as_52 (by decide) ?_
              refine lv_icmp_ne (tgt := 65) hx hb dX5_as_53 (by decide) (fun c_19 => ?_) (fun c_19 => ?_)
              · skip
                refine lv_iconst (v := 0) hx hb dX5_as_65 (by decide) ?_
                refine lv_istore (lv' := [(4, .int 0), (3, .int (M (5 + 6 * q + 0))), (0, .ref (gad G 34)), (1, .int (nI q)), (2, .int k)]) hx hb dX5_as_66 hl (by decide) rfl (fun ls hl => ?_)
                refine lv_iload hx hb dX5_as_68 (lv_at hl 0 rfl) ?_
                refine lv_if_eq (tgt := 82) hx hb dX5_as_70 (by decide) (fun _ => ?_) (fun h => False.elim (by revert h; decide))
                refine lv_aload_n hx hb dX5_as_82 rfl (lv_at hl 2 rfl) ?_
                refine lv_ldc (v := (-1000000003)) hx hb hown (hts (.constant RX5 86 ((-1000000003))) (by decide +kernel)) dX5_as_83 ?_
                refine hd_callVi (As := [.int (-1000000003)]) (rest := []) ⟨hx, hb, hml, hown, hts⟩ hE hP hS (c_X5_finds_2 l G u F h15) rfl (cwV 1 hts gX5_as_X5_finds rfl rfl rfl (by decide +kernel) ⟨Nat.le_of_ble_eq_true rfl, Nat.le_of_ble_eq_true rfl⟩) (mo_recv hE hP) rfl hl.1 rfl (Nat.le_of_ble_eq_true rfl) dX5_as_85 (fun rq_20 vq_20 H locs q_20 hP hS => ?_)
                have hP := hP.cast (q_20.2)
                refine lv_cast q_20.1 ?_
                exact hd_iret hx hb hr hlocks hP hS (P3.of (by rw [X_as, c_2, if_neg (by decide), c_5, if_neg (by decide), nI_clamp (show q < 2 ^ 31 by omega), show asMay (M (5 + 6 * q + 0)) k = false from (by simp only [asMay, decide_eq_false c_7, decide_eq_false c_9, decide_eq_true c_11, decide_eq_false c_17, decide_eq_false c_19]; rfl), if_pos rfl]) ((sI_ne _ _ (by decide)).trans h11) ((sI_ne _ _ (by decide)).trans rfl) (sI_at _ _ _) (by decide) (by decide) (by decide) (fun k k0 k1 k6 => ((sI_ne _ _ k6).trans rfl)) rfl) dX5_as_88
              · skip
                refine lv_iload_n hx hb dX5_as_56 rfl (lv_at hl 0 rfl) ?_
                refine lv_iconst (v := 5) hx hb dX5_as_57 (by decide) ?_
                refine lv_icmp_ne (tgt := 65) hx hb dX5_as_58 (by decide) (fun c_21 => ?_) (fun c_21 => ?_)
                · skip
                  refine lv_iconst (v := 0) hx hb dX5_as_65 (by decide) ?_
                  refine lv_istore (lv' := [(4, .int 0), (3, .int (M (5 + 6 * q + 0))), (0, .ref (gad G 34)), (1, .int (nI q)), (2, .int k)]) hx hb dX5_as_66 hl (by decide) rfl (fun ls hl => ?_)
                  refine lv_iload hx hb dX5_as_68 (lv_at hl 0 rfl) ?_
                  refine lv_if_eq (tgt := 82) hx hb dX5_as_70 (by decide) (fun _ => ?_) (fun h => False.elim (by revert h; decide))
                  refine lv_aload_n hx hb dX5_as_82 rfl (lv_at hl 2 rfl) ?_
                  refine lv_ldc (v := (-1000000003)) hx hb hown (hts (.constant RX5 86 ((-1000000003))) (by decide +kernel)) dX5_as_83 ?_
                  refine hd_callVi (As := [.int (-1000000003)]) (rest := []) ⟨hx, hb, hml, hown, hts⟩ hE hP hS (c_X5_finds_2 l G u F h15) rfl (cwV 1 hts gX5_as_X5_finds rfl rfl rfl (by decide +kernel) ⟨Nat.le_of_ble_eq_true rfl, Nat.le_of_ble_eq_true rfl⟩) (mo_recv hE hP) rfl hl.1 rfl (Nat.le_of_ble_eq_true rfl) dX5_as_85 (fun rq_22 vq_22 H locs q_22 hP hS => ?_)
                  have hP := hP.cast (q_22.2)
                  refine lv_cast q_22.1 ?_
                  exact hd_iret hx hb hr hlocks hP hS (P3.of (by rw [X_as, c_2, if_neg (by decide), c_5, if_neg (by decide), nI_clamp (show q < 2 ^ 31 by omega), show asMay (M (5 + 6 * q + 0)) k = false from (by simp only [asMay, decide_eq_false c_7, decide_eq_false c_9, decide_eq_true c_11, decide_eq_false c_17, decide_eq_true c_19, decide_eq_false c_21]; rfl), if_pos rfl]) ((sI_ne _ _ (by decide)).trans h11) ((sI_ne _ _ (by decide)).trans rfl) (sI_at _ _ _) (by decide) (by decide) (by decide) (fun k k0 k1 k6 => ((sI_ne _ _ k6).trans rfl)) rfl) dX5_as_88
                · skip
                  refine lv_iconst (v := 1) hx hb dX5_as_61 (by decide) ?_
                  refine lv_goto (tgt := 66) hx hb dX5_as_62 (by decide) ?_
                  refine lv_istore (lv' := [(4, .int 1), (3, .int (M (5 + 6 * q + 0))), (0, .ref (gad G 34)), (1, .int (nI q)), (2, .int k)]) hx hb dX5_as_66 hl (by decide) rfl (fun ls hl => ?_)
                  refine lv_iload hx hb dX5_as_68 (lv_at hl 0 rfl) ?_
                  refine lv_if_eq (tgt := 82) hx hb dX5_as_70 (by decide) (fun h => False.elim (by revert h; decide)) (fun _ => ?_)
                  refine lv_aload_n hx hb dX5_as_73 rfl (lv_at hl 2 rfl) ?_
                  refine lv_iload_n hx hb dX5_as_74 rfl (lv_at hl 3 rfl) ?_
                  refine lv_iconst (v := 3) hx hb dX5_as_75 (by decide) ?_
                  refine hd_callVi (As := [.int (nI q), .int 3]) (rest := []) ⟨hx, hb, hml, hown, hts⟩ hE hP hS (c_X5_it l G u M q 3 (by omega) (by omega)) ((sI_id h11).symm) (cwV 2 hts gX5_as_X5_it rfl rfl rfl (by decide +kernel) ⟨Nat.le_of_ble_eq_true rfl, Nat.le_of_ble_eq_true rfl⟩) (mo_recv hE hP) rfl hl.1 rfl (Nat.le_of_ble_eq_true rfl) dX5_as_76 (fun rq_23 vq_23 H locs q_23 hP hS => ?_)
                  have hP := hP.cast (q_23.2.trans ((sI_id h11).symm).symm)
                  refine lv_cast q_23.1 ?_
                  refine lv_goto (tgt := 88) hx hb dX5_as_79 (by decide) ?_
                  exact hd_iret hx hb hr hlocks hP hS (P3.of (by rw [X_as, c_2, if_neg (by decide), c_5, if_neg (by decide), nI_clamp (show q < 2 ^ 31 by omega), show asMay (M (5 + 6 * q + 0)) k = true from (by simp only [asMay, decide_eq_false c_7, decide_eq_false c_9, decide_eq_true c_11, decide_eq_false c_17, decide_eq_true c_19, decide_eq_true c_21]; rfl), if_neg (by decide)]) h11 rfl h15 (by decide) (by decide) (by decide) (fun k k0 k1 k6 => rfl) rfl) dX5_as_88
    · skip
      refine lv_aload_n hx hb dX5_as_18 rfl (lv_at hl 0 rfl) ?_
      refine lv_ldc (v := (-1000000001)) hx hb hown (hts (.constant RX5 35 ((-1000000001))) (by decide +kernel)) dX5_as_19 ?_
      refine hd_callVi (As := [.int (-1000000001)]) (rest := []) ⟨hx, hb, hml, hown, hts⟩ hE hP hS (c_X5_finds_0 l G u F h15) rfl (cwV 1 hts gX5_as_X5_finds rfl rfl rfl (by decide +kernel) ⟨Nat.le_of_ble_eq_true rfl, Nat.le_of_ble_eq_true rfl⟩) (mo_recv hE hP) rfl hl.1 rfl (Nat.le_of_ble_eq_true rfl) dX5_as_21 (fun rq_24 vq_24 H locs q_24 hP hS => ?_)
      have hP := hP.cast (q_24.2)
      refine lv_cast q_24.1 ?_
      exact hd_iret hx hb hr hlocks hP hS (P3.of (by simp [X_as, bey, bmp, c_2, c_5]) ((sI_ne _ _ (by decide)).trans h11) ((sI_ne _ _ (by decide)).trans rfl) (sI_at _ _ _) (by decide) (by decide) (by decide) (fun k k0 k1 k6 => ((sI_ne _ _ k6).trans rfl)) rfl) dX5_as_24
set_option maxHeartbeats 4000000 in
set_option maxRecDepth 100000 in
theorem c_X5_holds (l : Launch) (G : Geo) (u : Sg) (M F : Nat → Int32) (h11 : u.1 11 = M) (h15 : u.1 15 = F) (hM : Wf M) (x y : Int32) : CtI l G yX5_holds wsX5_holds (rmO 3 66) [.ref (gad G 34), .int x, .int y] u (P3 u 11 13 15 (X_holds M F x y)) := by
  refine CtI.of (cc := cX5_holds) (maxL := 3) (ret := (some .int)) (own := RX5) (by decide) rfl rfl ?_
  rintro pg ev s0 mm below meth cd ⟨hx, hb, hr, hml, hown, hts, hlocks⟩ hE hP ls hl
  have hS : va_S (gA G) s0.heap s0.heap [] := va_S.rf
  have hl : lv_has ls 3 [(0, .ref (gad G 34)), (1, .int x), (2, .int y)] := hl
  have hn := hM.n
  have h8 := hM.n8
  refine lv_aload_n hx hb dX5_holds_0 rfl (lv_at hl 0 rfl) ?_
  refine lv_iload_n hx hb dX5_holds_1 rfl (lv_at hl 1 rfl) ?_
  refine lv_iload_n hx hb dX5_holds_2 rfl (lv_at hl 2 rfl) ?_
  refine hd_callVi (As := [.int x, .int y]) (rest := []) ⟨hx, hb, hml, hown, hts⟩ hE hP hS (c_X5_areTwo l G u M h11 x y) rfl (cwV 2 hts gX5_holds_X5_areTwo rfl rfl rfl (by decide +kernel) ⟨Nat.le_of_ble_eq_true rfl, Nat.le_of_ble_eq_true rfl⟩) (mo_recv hE hP) rfl hl.1 rfl (Nat.le_of_ble_eq_true rfl) dX5_holds_3 (fun rq_1 vq_1 H locs q_1 hP hS => ?_)
  have hP := hP.cast (q_1.2)
  refine lv_cast q_1.1 ?_
  refine bo_eq (tgt := 18) hx hb dX5_holds_6 (by decide) (fun c_2 => ?_) (fun c_2 => ?_)
  · skip
    refine lv_aload_n hx hb dX5_holds_18 rfl (lv_at hl 0 rfl) ?_
    refine lv_ldc (v := (-1000000001)) hx hb hown (hts (.constant RX5 35 ((-1000000001))) (by decide +kernel)) dX5_holds_19 ?_
    refine hd_callVi (As := [.int (-1000000001)]) (rest := []) ⟨hx, hb, hml, hown, hts⟩ hE hP hS (c_X5_finds_0 l G u F h15) rfl (cwV 1 hts gX5_holds_X5_finds rfl rfl rfl (by decide +kernel) ⟨Nat.le_of_ble_eq_true rfl, Nat.le_of_ble_eq_true rfl⟩) (mo_recv hE hP) rfl hl.1 rfl (Nat.le_of_ble_eq_true rfl) dX5_holds_21 (fun rq_3 vq_3 H locs q_3 hP hS => ?_)
    have hP := hP.cast (q_3.2)
    refine lv_cast q_3.1 ?_
    exact hd_iret hx hb hr hlocks hP hS (P3.of (by first | rfl | (simp [X_holds, bey, none3, bmp, c_2]; done) | (exfalso; simp_all; done) | (simp only [X_holds, bey, none3, bmp, c_2, ↓reduceIte] <;> rfl)) ((sI_ne _ _ (by decide)).trans h11) ((sI_ne _ _ (by decide)).trans rfl) (sI_at _ _ _) (by decide) (by decide) (by decide) (fun k k0 k1 k6 => ((sI_ne _ _ k6).trans rfl)) rfl) dX5_holds_24
  · skip
    obtain ⟨q, q2, hq, hq2, rfl, rfl⟩ := pr_get hM c_2
    refine lv_aload_n hx hb dX5_holds_9 rfl (lv_at hl 0 rfl) ?_
    refine lv_iload_n hx hb dX5_holds_10 rfl (lv_at hl 1 rfl) ?_
    refine lv_iload_n hx hb dX5_holds_11 rfl (lv_at hl 2 rfl) ?_
    refine hd_callVi (As := [.int (nI q), .int (nI q2)]) (rest := []) ⟨hx, hb, hml, hown, hts⟩ hE hP hS (c_X5_holdsFor l G u M q q2 (by omega) (by omega)) ((sI_id h11).symm) (cwV 2 hts gX5_holds_X5_holdsFor rfl rfl rfl (by decide +kernel) ⟨Nat.le_of_ble_eq_true rfl, Nat.le_of_ble_eq_true rfl⟩) (mo_recv hE hP) rfl hl.1 rfl (Nat.le_of_ble_eq_true rfl) dX5_holds_12 (fun rq_4 vq_4 H locs q_4 hP hS => ?_)
    have hP := hP.cast (q_4.2.trans ((sI_id h11).symm).symm)
    refine lv_cast q_4.1 ?_
    refine lv_goto (tgt := 24) hx hb dX5_holds_15 (by decide) ?_
    exact hd_iret hx hb hr hlocks hP hS (P3.of (by first | rfl | (simp [X_holds, bey, none3, bmp, nI_clamp (show q < 2 ^ 31 by omega), nI_clamp (show q2 < 2 ^ 31 by omega), c_2]; done) | (exfalso; simp_all; done) | (simp only [X_holds, bey, none3, bmp, nI_clamp (show q < 2 ^ 31 by omega), nI_clamp (show q2 < 2 ^ 31 by omega), c_2, ↓reduceIte] <;> rfl)) h11 rfl h15 (by decide) (by decide) (by decide) (fun k k0 k1 k6 => rfl) rfl) dX5_holds_24
set_option maxHeartbeats 4000000 in
set_option maxRecDepth 100000 in
theorem c_X5_asks (l : Launch) (G : Geo) (u : Sg) (M F : Nat → Int32) (h11 : u.1 11 = M) (h15 : u.1 15 = F) (hM : Wf M) (x y : Int32) : CtI l G yX5_asks wsX5_asks (rmO 3 66) [.ref (gad G 34), .int x, .int y] u (P3 u 11 13 15 (X_asks M F x y)) := by
  refine CtI.of (cc := cX5_asks) (maxL := 3) (ret := (some .int)) (own := RX5) (by decide) rfl rfl ?_
  rintro pg ev s0 mm below meth cd ⟨hx, hb, hr, hml, hown, hts, hlocks⟩ hE hP ls hl
  have hS : va_S (gA G) s0.heap s0.heap [] := va_S.rf
  have hl : lv_has ls 3 [(0, .ref (gad G 34)), (1, .int x), (2, .int y)] := hl
  have hn := hM.n
  have h8 := hM.n8
  refine lv_aload_n hx hb dX5_asks_0 rfl (lv_at hl 0 rfl) ?_
  refine lv_iload_n hx hb dX5_asks_1 rfl (lv_at hl 1 rfl) ?_
  refine lv_iload_n hx hb dX5_asks_2 rfl (lv_at hl 2 rfl) ?_
  refine hd_callVi (As := [.int x, .int y]) (rest := []) ⟨hx, hb, hml, hown, hts⟩ hE hP hS (c_X5_areTwo l G u M h11 x y) rfl (cwV 2 hts gX5_asks_X5_areTwo rfl rfl rfl (by decide +kernel) ⟨Nat.le_of_ble_eq_true rfl, Nat.le_of_ble_eq_true rfl⟩) (mo_recv hE hP) rfl hl.1 rfl (Nat.le_of_ble_eq_true rfl) dX5_asks_3 (fun rq_1 vq_1 H locs q_1 hP hS => ?_)
  have hP := hP.cast (q_1.2)
  refine lv_cast q_1.1 ?_
  refine bo_eq (tgt := 26) hx hb dX5_asks_6 (by decide) (fun c_2 => ?_) (fun c_2 => ?_)
  · skip
    refine lv_aload_n hx hb dX5_asks_26 rfl (lv_at hl 0 rfl) ?_
    refine lv_ldc (v := (-1000000001)) hx hb hown (hts (.constant RX5 35 ((-1000000001))) (by decide +kernel)) dX5_asks_27 ?_
    refine hd_callVi (As := [.int (-1000000001)]) (rest := []) ⟨hx, hb, hml, hown, hts⟩ hE hP hS (c_X5_finds_0 l G u F h15) rfl (cwV 1 hts gX5_asks_X5_finds rfl rfl rfl (by decide +kernel) ⟨Nat.le_of_ble_eq_true rfl, Nat.le_of_ble_eq_true rfl⟩) (mo_recv hE hP) rfl hl.1 rfl (Nat.le_of_ble_eq_true rfl) dX5_asks_29 (fun rq_3 vq_3 H locs q_3 hP hS => ?_)
    have hP := hP.cast (q_3.2)
    refine lv_cast q_3.1 ?_
    exact hd_iret hx hb hr hlocks hP hS (P3.of (by first | rfl | (simp [X_asks, bI, bey, none3, bmp, c_2]; done) | (exfalso; simp_all; done) | (simp only [X_asks, bI, bey, none3, bmp, c_2, ↓reduceIte] <;> rfl)) ((sI_ne _ _ (by decide)).trans h11) ((sI_ne _ _ (by decide)).trans rfl) (sI_at _ _ _) (by decide) (by decide) (by decide) (fun k k0 k1 k6 => ((sI_ne _ _ k6).trans rfl)) rfl) dX5_asks_32
  · skip
    obtain ⟨q, q2, hq, hq2, rfl, rfl⟩ := pr_get hM c_2
    refine lv_aload_n hx hb dX5_asks_9 rfl (lv_at hl 0 rfl) ?_
    refine lv_iload_n hx hb dX5_asks_10 rfl (lv_at hl 1 rfl) ?_
    refine lv_iload_n hx hb dX5_asks_11 rfl (lv_at hl 2 rfl) ?_
    refine hd_callVi (As := [.int (nI q), .int (nI q2)]) (rest := []) ⟨hx, hb, hml, hown, hts⟩ hE hP hS (c_X5_doesAsk l G u M q q2 (by omega) (by omega)) ((sI_id h11).symm) (cwV 2 hts gX5_asks_X5_doesAsk rfl rfl rfl (by decide +kernel) ⟨Nat.le_of_ble_eq_true rfl, Nat.le_of_ble_eq_true rfl⟩) (mo_recv hE hP) rfl hl.1 rfl (Nat.le_of_ble_eq_true rfl) dX5_asks_12 (fun rq_4 vq_4 H locs q_4 hP hS => ?_)
    have hP := hP.cast (q_4.2.trans ((sI_id h11).symm).symm)
    refine lv_cast q_4.1 ?_
    refine bo_eq (tgt := 22) hx hb dX5_asks_15 (by decide) (fun c_5 => ?_) (fun c_5 => ?_)
    · skip
      refine lv_iconst (v := 0) hx hb dX5_asks_22 (by decide) ?_
      refine lv_goto (tgt := 32) hx hb dX5_asks_23 (by decide) ?_
      exact hd_iret hx hb hr hlocks hP hS (P3.of (by first | rfl | (simp [X_asks, bI, bey, none3, bmp, nI_clamp (show q < 2 ^ 31 by omega), nI_clamp (show q2 < 2 ^ 31 by omega), c_2, c_5]; done) | (exfalso; simp_all; done) | (simp only [X_asks, bI, bey, none3, bmp, nI_clamp (show q < 2 ^ 31 by omega), nI_clamp (show q2 < 2 ^ 31 by omega), c_2, c_5, ↓reduceIte] <;> rfl)) h11 rfl h15 (by decide) (by decide) (by decide) (fun k k0 k1 k6 => rfl) rfl) dX5_asks_32
    · skip
      refine lv_iconst (v := 1) hx hb dX5_asks_18 (by decide) ?_
      refine lv_goto (tgt := 32) hx hb dX5_asks_19 (by decide) ?_
      exact hd_iret hx hb hr hlocks hP hS (P3.of (by first | rfl | (simp [X_asks, bI, bey, none3, bmp, nI_clamp (show q < 2 ^ 31 by omega), nI_clamp (show q2 < 2 ^ 31 by omega), c_2, c_5]; done) | (exfalso; simp_all; done) | (simp only [X_asks, bI, bey, none3, bmp, nI_clamp (show q < 2 ^ 31 by omega), nI_clamp (show q2 < 2 ^ 31 by omega), c_2, c_5, ↓reduceIte] <;> rfl)) h11 rfl h15 (by decide) (by decide) (by decide) (fun k k0 k1 k6 => rfl) rfl) dX5_asks_32
