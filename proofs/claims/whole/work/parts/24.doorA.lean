set_option maxHeartbeats 4000000 in
set_option maxRecDepth 100000 in
theorem c_X4_door (l : Launch) (G : Geo) (u : Sg) (M F : Nat → Int32) (h0 : u.1 0 = M) (h6 : u.1 6 = F) (hM : Wf M) (w x : Int32) : CtI l G yX4_door wsX4_door (rmO 2 44) [.ref (gad G 0), .int w, .int x] u (P3 u 0 1 6 (X_door M F w x)) := by
  refine CtI.of (cc := cX4_door) (maxL := 4) (ret := (some .int)) (own := RX4) (by decide) rfl rfl ?_
  rintro pg ev s0 mm below meth cd ⟨hx, hb, hr, hml, hown, hts, hlocks⟩ hE hP ls hl
  have hS : va_S (gA G) s0.heap s0.heap [] := va_S.rf
  have hl : lv_has ls 4 [(0, .ref (gad G 0)), (1, .int w), (2, .int x)] := hl
  have hin1 : ∀ w ∈ wsX10, w ∈ wsX4_door := by decide +kernel
  have hin4 : ∀ w ∈ wsX40, w ∈ wsX4_door := by decide +kernel
  have hn := hM.n
  have h8 := hM.n8
  refine lv_iload_n hx hb dX4_door_0 rfl (lv_at hl 1 rfl) ?_
  refine lv_if_ne (tgt := 33) hx hb dX4_door_1 (by decide) (fun c_1 => ?_) (fun c_1 => ?_)
  · skip
    refine lv_iload_n hx hb dX4_door_33 rfl (lv_at hl 1 rfl) ?_
    refine lv_iconst (v := 1) hx hb dX4_door_34 (by decide) ?_
    refine lv_icmp_ne (tgt := 67) hx hb dX4_door_35 (by decide) (fun c_2 => ?_) (fun c_2 => ?_)
    · skip
      refine lv_aload_n hx hb dX4_door_67 rfl (lv_at hl 0 rfl) ?_
      refine lv_ldc (v := (-1000000001)) hx hb hown (hts (.constant RX4 55 ((-1000000001))) (by decide +kernel)) dX4_door_68 ?_
      refine hd_callVi (As := [.int (-1000000001)]) (rest := []) ⟨hx, hb, hml, hown, hts⟩ hE hP hS (c_X4_found_0 l G u F h6) rfl (cwV 1 hts gX4_door_X4_found rfl rfl rfl (by decide +kernel) ⟨Nat.le_of_ble_eq_true rfl, Nat.le_of_ble_eq_true rfl⟩) (do_recv hE hP) rfl hl.1 rfl (Nat.le_of_ble_eq_true rfl) dX4_door_70 (fun rq_3 vq_3 H locs q_3 hP hS => ?_)
      have hP := hP.cast (q_3.2)
      refine lv_cast q_3.1 ?_
      refine lv_istore_n (lv' := [(3, .int (-1000000001)), (0, .ref (gad G 0)), (1, .int w), (2, .int x)]) hx hb dX4_door_73 rfl hl (by decide) rfl (fun ls hl => ?_)
      refine lv_iload_n hx hb dX4_door_74 rfl (lv_at hl 0 rfl) ?_
      exact hd_iret hx hb hr hlocks hP hS (P3.of (by first | rfl | (simp [X_door, bey, none3, bmp, c_1, c_2]; done) | (exfalso; simp_all; done) | (simp only [X_door, bey, none3, bmp, c_1, c_2, ↓reduceIte] <;> rfl)) ((sI_ne _ _ (by decide)).trans h0) ((sI_ne _ _ (by decide)).trans rfl) (sI_at _ _ _) (by decide) (by decide) (by decide) (fun k k0 k1 k6 => ((sI_ne _ _ k6).trans rfl)) rfl) dX4_door_75
    · skip
      refine lv_iconst (v := 0) hx hb dX4_door_38 (by decide) ?_
      refine lv_bipush (v := 60) hx hb dX4_door_39 (by decide) ?_
      refine lv_iload_n hx hb dX4_door_41 rfl (lv_at hl 2 rfl) ?_
      refine hd_callSi (As := [.int 0, .int 60, .int x]) (rest := []) ⟨hx, hb, hml, hown, hts⟩ hE hP hS (c_X4_isFrom l G u 0 60 x) rfl (va_cwS 3 hts gX4_door_X4_isFrom rfl rfl rfl (by decide +kernel) ⟨Nat.le_of_ble_eq_true rfl, Nat.le_of_ble_eq_true rfl⟩) rfl hl.1 rfl (Nat.le_of_ble_eq_true rfl) dX4_door_42 (fun rq_4 vq_4 H locs q_4 hP hS => ?_)
      have hP := hP.cast (q_4.2)
      refine lv_cast q_4.1 ?_
      refine bo_eq (tgt := 67) hx hb dX4_door_45 (by decide) (fun c_5 => ?_) (fun c_5 => ?_)
      · skip
        refine lv_aload_n hx hb dX4_door_67 rfl (lv_at hl 0 rfl) ?_
        refine lv_ldc (v := (-1000000001)) hx hb hown (hts (.constant RX4 55 ((-1000000001))) (by decide +kernel)) dX4_door_68 ?_
        refine hd_callVi (As := [.int (-1000000001)]) (rest := []) ⟨hx, hb, hml, hown, hts⟩ hE hP hS (c_X4_found_0 l G u F h6) rfl (cwV 1 hts gX4_door_X4_found rfl rfl rfl (by decide +kernel) ⟨Nat.le_of_ble_eq_true rfl, Nat.le_of_ble_eq_true rfl⟩) (do_recv hE hP) rfl hl.1 rfl (Nat.le_of_ble_eq_true rfl) dX4_door_70 (fun rq_6 vq_6 H locs q_6 hP hS => ?_)
        have hP := hP.cast (q_6.2)
        refine lv_cast q_6.1 ?_
        refine lv_istore_n (lv' := [(3, .int (-1000000001)), (0, .ref (gad G 0)), (1, .int w), (2, .int x)]) hx hb dX4_door_73 rfl hl (by decide) rfl (fun ls hl => ?_)
        refine lv_iload_n hx hb dX4_door_74 rfl (lv_at hl 0 rfl) ?_
        exact hd_iret hx hb hr hlocks hP hS (P3.of (by first | rfl | (simp [X_door, bey, none3, bmp, c_1, c_2, c_5]; done) | (exfalso; simp_all; done) | (simp only [X_door, bey, none3, bmp, c_1, c_2, c_5, ↓reduceIte] <;> rfl)) ((sI_ne _ _ (by decide)).trans h0) ((sI_ne _ _ (by decide)).trans rfl) (sI_at _ _ _) (by decide) (by decide) (by decide) (fun k k0 k1 k6 => ((sI_ne _ _ k6).trans rfl)) rfl) dX4_door_75
      · skip
        refine lv_aload_n hx hb dX4_door_48 rfl (lv_at hl 0 rfl) ?_
        refine do_get hx hb hts hin4 hown hE hP rfl 0 (by decide) (hts (.fieldLink RX4 10 "HeldDoor" "scene" "LHeldDoor$Scene;") (by decide +kernel)) (v := .ref (gS G 0)) rfl dX4_door_49 ?_
        refine sc_get hx hb hts hin1 hown hE hP (by decide) h0 2 (by decide) (hts (.fieldLink RX4 52 "HeldDoor$Scene" "open" "I") (by decide +kernel)) (v := .int (M 2)) rfl dX4_door_52 ?_
        refine lv_istore_n (lv' := [(3, .int (M 2)), (0, .ref (gad G 0)), (1, .int w), (2, .int x)]) hx hb dX4_door_55 rfl hl (by decide) rfl (fun ls hl => ?_)
        refine lv_aload_n hx hb dX4_door_56 rfl (lv_at hl 1 rfl) ?_
        refine do_get hx hb hts hin4 hown hE hP rfl 0 (by decide) (hts (.fieldLink RX4 10 "HeldDoor" "scene" "LHeldDoor$Scene;") (by decide +kernel)) (v := .ref (gS G 0)) rfl dX4_door_57 ?_
        refine lv_iload_n hx hb dX4_door_60 rfl (lv_at hl 3 rfl) ?_
        refine sc_put hx hb hts hin1 hown hE hP hS (by decide) h0 2 (by decide) (hts (.fieldLink RX4 52 "HeldDoor$Scene" "open" "I") (by decide +kernel)) rfl dX4_door_61 (fun H locs hP hS => ?_)
        refine lv_goto (tgt := 74) hx hb dX4_door_64 (by decide) ?_
        refine lv_iload_n hx hb dX4_door_74 rfl (lv_at hl 0 rfl) ?_
        exact hd_iret hx hb hr hlocks hP hS (P3.of (by first | rfl | (simp [X_door, bey, none3, bmp, c_1, c_2, c_5]; done) | (exfalso; simp_all; done) | (simp only [X_door, bey, none3, bmp, c_1, c_2, c_5, ↓reduceIte] <;> rfl)) (sI_at _ _ _) ((sI_ne _ _ (by decide)).trans rfl) ((sI_ne _ _ (by decide)).trans h6) (by decide) (by decide) (by decide) (fun k k0 k1 k6 => ((sI_ne _ _ k0).trans rfl)) rfl) dX4_door_75
  · skip
    refine lv_iconst (v := 0) hx hb dX4_door_4 (by decide) ?_
    refine lv_bipush (v := 99) hx hb dX4_door_5 (by decide) ?_
    refine lv_iload_n hx hb dX4_door_7 rfl (lv_at hl 2 rfl) ?_
    refine hd_callSi (As := [.int 0, .int 99, .int x]) (rest := []) ⟨hx, hb, hml, hown, hts⟩ hE hP hS (c_X4_isFrom l G u 0 99 x) rfl (va_cwS 3 hts gX4_door_X4_isFrom rfl rfl rfl (by decide +kernel) ⟨Nat.le_of_ble_eq_true rfl, Nat.le_of_ble_eq_true rfl⟩) rfl hl.1 rfl (Nat.le_of_ble_eq_true rfl) dX4_door_8 (fun rq_7 vq_7 H locs q_7 hP hS => ?_)
    have hP := hP.cast (q_7.2)
    refine lv_cast q_7.1 ?_
    refine bo_eq (tgt := 33) hx hb dX4_door_11 (by decide) (fun c_8 => ?_) (fun c_8 => ?_)
    · skip
      refine lv_iload_n hx hb dX4_door_33 rfl (lv_at hl 1 rfl) ?_
      refine lv_iconst (v := 1) hx hb dX4_door_34 (by decide) ?_
      refine lv_icmp_ne (tgt := 67) hx hb dX4_door_35 (by decide) (fun c_9 => ?_) (fun c_9 => ?_)
      · skip
        refine lv_aload_n hx hb dX4_door_67 rfl (lv_at hl 0 rfl) ?_
        refine lv_ldc (v := (-1000000001)) hx hb hown (hts (.constant RX4 55 ((-1000000001))) (by decide +kernel)) dX4_door_68 ?_
        refine hd_callVi (As := [.int (-1000000001)]) (rest := []) ⟨hx, hb, hml, hown, hts⟩ hE hP hS (c_X4_found_0 l G u F h6) rfl (cwV 1 hts gX4_door_X4_found rfl rfl rfl (by decide +kernel) ⟨Nat.le_of_ble_eq_true rfl, Nat.le_of_ble_eq_true rfl⟩) (do_recv hE hP) rfl hl.1 rfl (Nat.le_of_ble_eq_true rfl) dX4_door_70 (fun rq_10 vq_10 H locs q_10 hP hS => ?_)
        have hP := hP.cast (q_10.2)
        refine lv_cast q_10.1 ?_
        refine lv_istore_n (lv' := [(3, .int (-1000000001)), (0, .ref (gad G 0)), (1, .int w), (2, .int x)]) hx hb dX4_door_73 rfl hl (by decide) rfl (fun ls hl => ?_)
        refine lv_iload_n hx hb dX4_door_74 rfl (lv_at hl 0 rfl) ?_
        exact hd_iret hx hb hr hlocks hP hS (P3.of (by first | rfl | (simp [X_door, bey, none3, bmp, c_1, c_8, c_9]; done) | (exfalso; simp_all; done) | (simp only [X_door, bey, none3, bmp, c_1, c_8, c_9, ↓reduceIte] <;> rfl)) ((sI_ne _ _ (by decide)).trans h0) ((sI_ne _ _ (by decide)).trans rfl) (sI_at _ _ _) (by decide) (by decide) (by decide) (fun k k0 k1 k6 => ((sI_ne _ _ k6).trans rfl)) rfl) dX4_door_75
      · skip
        refine lv_iconst (v := 0) hx hb dX4_door_38 (by decide) ?_
        refine lv_bipush (v := 60) hx hb dX4_door_39 (by decide) ?_
        refine lv_iload_n hx hb dX4_door_41 rfl (lv_at hl 2 rfl) ?_
        refine hd_callSi (As := [.int 0, .int 60, .int x]) (rest := []) ⟨hx, hb, hml, hown, hts⟩ hE hP hS (c_X4_isFrom l G u 0 60 x) rfl (va_cwS 3 hts gX4_door_X4_isFrom rfl rfl rfl (by decide +kernel) ⟨Nat.le_of_ble_eq_true rfl, Nat.le_of_ble_eq_true rfl⟩) rfl hl.1 rfl (Nat.le_of_ble_eq_true rfl) dX4_door_42 (fun rq_11 vq_11 H locs q_11 hP hS => ?_)
        have hP := hP.cast (q_11.2)
        refine lv_cast q_11.1 ?_
        refine bo_eq (tgt := 67) hx hb dX4_door_45 (by decide) (fun c_12 => ?_) (fun c_12 => ?_)
        · skip
          refine lv_aload_n hx hb dX4_door_67 rfl (lv_at hl 0 rfl) ?_
          refine lv_ldc (v := (-1000000001)) hx hb hown (hts (.constant RX4 55 ((-1000000001))) (by decide +kernel)) dX4_door_68 ?_
          refine hd_callVi (As := [.int (-1000000001)]) (rest := []) ⟨hx, hb, hml, hown, hts⟩ hE hP hS (c_X4_found_0 l G u F h6) rfl (cwV 1 hts gX4_door_X4_found rfl rfl rfl (by decide +kernel) ⟨Nat.le_of_ble_eq_true rfl, Nat.le_of_ble_eq_true rfl⟩) (do_recv hE hP) rfl hl.1 rfl (Nat.le_of_ble_eq_true rfl) dX4_door_70 (fun rq_13 vq_13 H locs q_13 hP hS => ?_)
          have hP := hP.cast (q_13.2)
          refine lv_cast q_13.1 ?_
          refine lv_istore_n (lv' := [(3, .int (-1000000001)), (0, .ref (gad G 0)), (1, .int w), (2, .int x)]) hx hb dX4_door_73 rfl hl (by decide) rfl (fun ls hl => ?_)
          refine lv_iload_n hx hb dX4_door_74 rfl (lv_at hl 0 rfl) ?_
          exact hd_iret hx hb hr hlocks hP hS (P3.of (by first | rfl | (simp [X_door, bey, none3, bmp, c_1, c_8, c_9, c_12]; done) | (exfalso; simp_all; done) | (simp only [X_door, bey, none3, bmp, c_1, c_8, c_9, c_12, ↓reduceIte] <;> rfl)) ((sI_ne _ _ (by decide)).trans h0) ((sI_ne _ _ (by decide)).trans rfl) (sI_at _ _ _) (by decide) (by decide) (by decide) (fun k k0 k1 k6 => ((sI_ne _ _ k6).trans rfl)) rfl) dX4_door_75
        · skip
          refine lv_aload_n hx hb dX4_door_48 rfl (lv_at hl 0 rfl) ?_
          refine do_get hx hb hts hin4 hown hE hP rfl 0 (by decide) (hts (.fieldLink RX4 10 "HeldDoor" "scene" "LHeldDoor$Scene;") (by decide +kernel)) (v := .ref (gS G 0)) rfl dX4_door_49 ?_
          refine sc_get hx hb hts hin1 hown hE hP (by decide) h0 2 (by decide) (hts (.fieldLink RX4 52 "HeldDoor$Scene" "open" "I") (by decide +kernel)) (v := .int (M 2)) rfl dX4_door_52 ?_
          refine lv_istore_n (lv' := [(3, .int (M 2)), (0, .ref (gad G 0)), (1, .int w), (2, .int x)]) hx hb dX4_door_55 rfl hl (by decide) rfl (fun ls hl => ?_)
          refine lv_aload_n hx hb dX4_door_56 rfl (lv_at hl 1 rfl) ?_
          refine do_get hx hb hts hin4 hown hE hP rfl 0 (by decide) (hts (.fieldLink RX4 10 "HeldDoor" "scene" "LHeldDoor$Scene;") (by decide +kernel)) (v := .ref (gS G 0)) rfl dX4_door_57 ?_
          refine lv_iload_n hx hb dX4_door_60 rfl (lv_at hl 3 rfl) ?_
          refine sc_put hx hb hts hin1 hown hE hP hS (by decide) h0 2 (by decide) (hts (.fieldLink RX4 52 "HeldDoor$Scene" "open" "I") (by decide +kernel)) rfl dX4_door_61 (fun H locs hP hS => ?_)
          refine lv_goto (tgt := 74) hx hb dX4_door_64 (by decide) ?_
          refine lv_iload_n hx hb dX4_door_74 rfl (lv_at hl 0 rfl) ?_
          exact hd_iret hx hb hr hlocks hP hS (P3.of (by first | rfl | (simp [X_door, bey, none3, bmp, c_1, c_8, c_9, c_12]; done) | (exfalso; simp_all; done) | (simp only [X_door, bey, none3, bmp, c_1, c_8, c_9, c_12, ↓reduceIte] <;> rfl)) (sI_at _ _ _) ((sI_ne _ _ (by decide)).trans rfl) ((sI_ne _ _ (by decide)).trans h6) (by decide) (by decide) (by decide) (fun k k0 k1 k6 => ((sI_ne _ _ k0).trans rfl)) rfl) dX4_door_75
    · skip
      refine lv_aload_n hx hb dX4_door_14 rfl (lv_at hl 0 rfl) ?_
      refine do_get hx hb hts hin4 hown hE hP rfl 0 (by decide) (hts (.fieldLink RX4 10 "HeldDoor" "scene" "LHeldDoor$Scene;") (by decide +kernel)) (v := .ref (gS G 0)) rfl dX4_door_15 ?_
      refine sc_get hx hb hts hin1 hown hE hP (by decide) h0 1 (by decide) (hts (.fieldLink RX4 48 "HeldDoor$Scene" "care" "I") (by decide +kernel)) (v := .int (M 1)) rfl dX4_door_18 ?_
      refine lv_istore_n (lv' := [(3, .int (M 1)), (0, .ref (gad G 0)), (1, .int w), (2, .int x)]) hx hb dX4_door_21 rfl hl (by decide) rfl (fun ls hl => ?_)
      refine lv_aload_n hx hb dX4_door_22 rfl (lv_at hl 1 rfl) ?_
      refine do_get hx hb hts hin4 hown hE hP rfl 0 (by decide) (hts (.fieldLink RX4 10 "HeldDoor" "scene" "LHeldDoor$Scene;") (by decide +kernel)) (v := .ref (gS G 0)) rfl dX4_door_23 ?_
      refine lv_iload_n hx hb dX4_door_26 rfl (lv_at hl 3 rfl) ?_
      refine sc_put hx hb hts hin1 hown hE hP hS (by decide) h0 1 (by decide) (hts (.fieldLink RX4 48 "HeldDoor$Scene" "care" "I") (by decide +kernel)) rfl dX4_door_27 (fun H locs hP hS => ?_)
      refine lv_goto (tgt := 74) hx hb dX4_door_30 (by decide) ?_
      refine lv_iload_n hx hb dX4_door_74 rfl (lv_at hl 0 rfl) ?_
      exact hd_iret hx hb hr hlocks hP hS (P3.of (by first | rfl | (simp [X_door, bey, none3, bmp, c_1, c_8]; done) | (exfalso; simp_all; done) | (simp only [X_door, bey, none3, bmp, c_1, c_8, ↓reduceIte] <;> rfl)) (sI_at _ _ _) ((sI_ne _ _ (by decide)).trans rfl) ((sI_ne _ _ (by decide)).trans h6) (by decide) (by decide) (by decide) (fun k k0 k1 k6 => ((sI_ne _ _ k0).trans rfl)) rfl) dX4_door_75
set_option maxHeartbeats 4000000 in
set_option maxRecDepth 100000 in
theorem c_X4_now (l : Launch) (G : Geo) (u : Sg) (M F : Nat → Int32) (h0 : u.1 0 = M) (h6 : u.1 6 = F) (hM : Wf M) (w : Int32) : CtI l G yX4_now wsX4_now (rmO 2 44) [.ref (gad G 0), .int w] u (P3 u 0 1 6 (X_now M F w)) := by
  refine CtI.of (cc := cX4_now) (maxL := 2) (ret := (some .int)) (own := RX4) (by decide) rfl rfl ?_
  rintro pg ev s0 mm below meth cd ⟨hx, hb, hr, hml, hown, hts, hlocks⟩ hE hP ls hl
  have hS : va_S (gA G) s0.heap s0.heap [] := va_S.rf
  have hl : lv_has ls 2 [(0, .ref (gad G 0)), (1, .int w)] := hl
  have hin1 : ∀ w ∈ wsX10, w ∈ wsX4_now := by decide +kernel
  have hin4 : ∀ w ∈ wsX40, w ∈ wsX4_now := by decide +kernel
  have hn := hM.n
  have h8 := hM.n8
  refine lv_iload_n hx hb dX4_now_0 rfl (lv_at hl 1 rfl) ?_
  by_cases k_1 : w = 0
  · refine lv_cast k_1 ?_
    refine lv_tableIn (tgt := 44) hx hb dX4_now_1 (by decide) (by decide) rfl (by decide) ?_
    refine lv_aload_n hx hb dX4_now_44 rfl (lv_at hl 0 rfl) ?_
    refine do_get hx hb hts hin4 hown hE hP rfl 0 (by decide) (hts (.fieldLink RX4 10 "HeldDoor" "scene" "LHeldDoor$Scene;") (by decide +kernel)) (v := .ref (gS G 0)) rfl dX4_now_45 ?_
    refine sc_get hx hb hts hin1 hown hE hP (by decide) h0 0 (by decide) (hts (.fieldLink RX4 60 "HeldDoor$Scene" "second" "I") (by decide +kernel)) (v := .int (M 0)) rfl dX4_now_48 ?_
    exact hd_iret hx hb hr hlocks hP hS (P3.of (by first | rfl | (simp [X_now, bey, none3, bmp, k_1]; done) | (exfalso; simp_all; done) | (simp only [X_now, bey, none3, bmp, k_1, ↓reduceIte] <;> rfl)) h0 rfl h6 (by decide) (by decide) (by decide) (fun k k0 k1 k6 => rfl) rfl) dX4_now_51
  by_cases k_2 : w = 1
  · refine lv_cast k_2 ?_
    refine lv_tableIn (tgt := 52) hx hb dX4_now_1 (by decide) (by decide) rfl (by decide) ?_
    refine lv_aload_n hx hb dX4_now_52 rfl (lv_at hl 0 rfl) ?_
    refine do_get hx hb hts hin4 hown hE hP rfl 0 (by decide) (hts (.fieldLink RX4 10 "HeldDoor" "scene" "LHeldDoor$Scene;") (by decide +kernel)) (v := .ref (gS G 0)) rfl dX4_now_53 ?_
    refine sc_get hx hb hts hin1 hown hE hP (by decide) h0 1 (by decide) (hts (.fieldLink RX4 48 "HeldDoor$Scene" "care" "I") (by decide +kernel)) (v := .int (M 1)) rfl dX4_now_56 ?_
    exact hd_iret hx hb hr hlocks hP hS (P3.of (by first | rfl | (simp [X_now, bey, none3, bmp, k_1, k_2]; done) | (exfalso; simp_all; done) | (simp only [X_now, bey, none3, bmp, k_1, k_2, ↓reduceIte] <;> rfl)) h0 rfl h6 (by decide) (by decide) (by decide) (fun k k0 k1 k6 => rfl) rfl) dX4_now_59
  by_cases k_3 : w = 2
  · refine lv_cast k_3 ?_
    refine lv_tableIn (tgt := 60) hx hb dX4_now_1 (by decide) (by decide) rfl (by decide) ?_
    refine lv_aload_n hx hb dX4_now_60 rfl (lv_at hl 0 rfl) ?_
    refine do_get hx hb hts hin4 hown hE hP rfl 0 (by decide) (hts (.fieldLink RX4 10 "HeldDoor" "scene" "LHeldDoor$Scene;") (by decide +kernel)) (v := .ref (gS G 0)) rfl dX4_now_61 ?_
    refine sc_get hx hb hts hin1 hown hE hP (by decide) h0 2 (by decide) (hts (.fieldLink RX4 52 "HeldDoor$Scene" "open" "I") (by decide +kernel)) (v := .int (M 2)) rfl dX4_now_64 ?_
    exact hd_iret hx hb hr hlocks hP hS (P3.of (by first | rfl | (simp [X_now, bey, none3, bmp, k_1, k_2, k_3]; done) | (exfalso; simp_all; done) | (simp only [X_now, bey, none3, bmp, k_1, k_2, k_3, ↓reduceIte] <;> rfl)) h0 rfl h6 (by decide) (by decide) (by decide) (fun k k0 k1 k6 => rfl) rfl) dX4_now_67
  by_cases k_4 : w = 3
  · refine lv_cast k_4 ?_
    refine lv_tableIn (tgt := 68) hx hb dX4_now_1 (by decide) (by decide) rfl (by decide) ?_
    refine lv_aload_n hx hb dX4_now_68 rfl (lv_at hl 0 rfl) ?_
    refine do_get hx hb hts hin4 hown hE hP rfl 0 (by decide) (hts (.fieldLink RX4 10 "HeldDoor" "scene" "LHeldDoor$Scene;") (by decide +kernel)) (v := .ref (gS G 0)) rfl dX4_now_69 ?_
    refine sc_get hx hb hts hin1 hown hE hP (by decide) h0 3 (by decide) (hts (.fieldLink RX4 63 "HeldDoor$Scene" "by" "I") (by decide +kernel)) (v := .int (M 3)) rfl dX4_now_72 ?_
    exact hd_iret hx hb hr hlocks hP hS (P3.of (by first | rfl | (simp [X_now, bey, none3, bmp, k_1, k_2, k_3, k_4]; done) | (exfalso; simp_all; done) | (simp only [X_now, bey, none3, bmp, k_1, k_2, k_3, k_4, ↓reduceIte] <;> rfl)) h0 rfl h6 (by decide) (by decide) (by decide) (fun k k0 k1 k6 => rfl) rfl) dX4_now_75
  by_cases k_5 : w = 4
  · refine lv_cast k_5 ?_
    refine lv_tableIn (tgt := 76) hx hb dX4_now_1 (by decide) (by decide) rfl (by decide) ?_
    refine lv_aload_n hx hb dX4_now_76 rfl (lv_at hl 0 rfl) ?_
    refine do_get hx hb hts hin4 hown hE hP rfl 0 (by decide) (hts (.fieldLink RX4 10 "HeldDoor" "scene" "LHeldDoor$Scene;") (by decide +kernel)) (v := .ref (gS G 0)) rfl dX4_now_77 ?_
    refine hd_callVi (As := []) (rest := []) ⟨hx, hb, hml, hown, hts⟩ hE hP hS (c_X1_setOfIn l G u 0 (by decide) M hM) ((sI_id h0).symm) (cwV 0 hts gX4_now_X1_setOfIn rfl rfl rfl (by decide +kernel) ⟨Nat.le_of_ble_eq_true rfl, Nat.le_of_ble_eq_true rfl⟩) (sc_recv hE hP (by decide)) rfl hl.1 rfl (Nat.le_of_ble_eq_true rfl) dX4_now_80 (fun rq_6 vq_6 H locs q_6 hP hS => ?_)
    have hP := hP.cast (q_6.2.trans ((sI_id h0).symm).symm)
    refine lv_cast q_6.1 ?_
    exact hd_iret hx hb hr hlocks hP hS (P3.of (by first | rfl | (simp [X_now, bey, none3, bmp, k_1, k_2, k_3, k_4, k_5]; done) | (exfalso; simp_all; done) | (simp only [X_now, bey, none3, bmp, k_1, k_2, k_3, k_4, k_5, ↓reduceIte] <;> rfl)) h0 rfl h6 (by decide) (by decide) (by decide) (fun k k0 k1 k6 => rfl) rfl) dX4_now_83
  by_cases k_7 : w = 5
  · refine lv_cast k_7 ?_
    refine lv_tableIn (tgt := 84) hx hb dX4_now_1 (by decide) (by decide) rfl (by decide) ?_
    refine lv_aload_n hx hb dX4_now_84 rfl (lv_at hl 0 rfl) ?_
    refine do_get hx hb hts hin4 hown hE hP rfl 0 (by decide) (hts (.fieldLink RX4 10 "HeldDoor" "scene" "LHeldDoor$Scene;") (by decide +kernel)) (v := .ref (gS G 0)) rfl dX4_now_85 ?_
    refine hd_callVi (As := []) (rest := []) ⟨hx, hb, hml, hown, hts⟩ hE hP hS (c_X1_setOfLoose l G u 0 (by decide) M hM) ((sI_id h0).symm) (cwV 0 hts gX4_now_X1_setOfLoose rfl rfl rfl (by decide +kernel) ⟨Nat.le_of_ble_eq_true rfl, Nat.le_of_ble_eq_true rfl⟩) (sc_recv hE hP (by decide)) rfl hl.1 rfl (Nat.le_of_ble_eq_true rfl) dX4_now_88 (fun rq_8 vq_8 H locs q_8 hP hS => ?_)
    have hP := hP.cast (q_8.2.trans ((sI_id h0).symm).symm)
    refine lv_cast q_8.1 ?_
    exact hd_iret hx hb hr hlocks hP hS (P3.of (by first | rfl | (simp [X_now, bey, none3, bmp, k_1, k_2, k_3, k_4, k_5, k_7]; done) | (exfalso; simp_all; done) | (simp only [X_now, bey, none3, bmp, k_1, k_2, k_3, k_4, k_5, k_7, ↓reduceIte] <;> rfl)) h0 rfl h6 (by decide) (by decide) (by decide) (fun k k0 k1 k6 => rfl) rfl) dX4_now_91
  by_cases k_9 : w = 6
  · refine lv_cast k_9 ?_
    refine lv_tableIn (tgt := 92) hx hb dX4_now_1 (by decide) (by decide) rfl (by decide) ?_
    refine lv_aload_n hx hb dX4_now_92 rfl (lv_at hl 0 rfl) ?_
    refine do_get hx hb hts hin4 hown hE hP rfl 0 (by decide) (hts (.fieldLink RX4 10 "HeldDoor" "scene" "LHeldDoor$Scene;") (by decide +kernel)) (v := .ref (gS G 0)) rfl dX4_now_93 ?_
    refine lv_aload_n hx hb dX4_now_96 rfl (lv_at hl 0 rfl) ?_
    refine do_get hx hb hts hin4 hown hE hP rfl 0 (by decide) (hts (.fieldLink RX4 10 "HeldDoor" "scene" "LHeldDoor$Scene;") (by decide +kernel)) (v := .ref (gS G 0)) rfl dX4_now_97 ?_
    refine sc_get hx hb hts hin1 hown hE hP (by decide) h0 10 (by decide) (hts (.fieldLink RX4 73 "HeldDoor$Scene" "asked" "[I") (by decide +kernel)) (v := .ref (gSA G 0 5)) rfl dX4_now_100 ?_
    refine hd_callVi (As := [.ref (gSA G 0 5)]) (rest := []) ⟨hx, hb, hml, hown, hts⟩ hE hP hS (c_X1_sumOf l G u 0 (by decide) M hM 5 (by decide)) ((sI_id h0).symm) (cwV 1 hts gX4_now_X1_sumOf rfl rfl rfl (by decide +kernel) ⟨Nat.le_of_ble_eq_true rfl, Nat.le_of_ble_eq_true rfl⟩) (sc_recv hE hP (by decide)) rfl hl.1 rfl (Nat.le_of_ble_eq_true rfl) dX4_now_103 (fun rq_10 vq_10 H locs q_10 hP hS => ?_)
    have hP := hP.cast (q_10.2.trans ((sI_id h0).symm).symm)
    refine lv_cast q_10.1 ?_
    exact hd_iret hx hb hr hlocks hP hS (P3.of (by first | rfl | (simp [X_now, bey, none3, bmp, k_1, k_2, k_3, k_4, k_5, k_7, k_9]; done) | (exfalso; simp_all; done) | (simp only [X_now, bey, none3, bmp, k_1, k_2, k_3, k_4, k_5, k_7, k_9, ↓reduceIte] <;> rfl)) h0 rfl h6 (by decide) (by decide) (by decide) (fun k k0 k1 k6 => rfl) rfl) dX4_now_106
  refine lv_tableOut (tgt := 107) hx hb dX4_now_1 (sw_out (lo := 0) (hi := 6) (by decide) (by decide) (fun k h1 h2 => by
    rcases (show k = 0 ∨ k = 1 ∨ k = 2 ∨ k = 3 ∨ k = 4 ∨ k = 5 ∨ k = 6 by omega) with rfl | rfl | rfl | rfl | rfl | rfl | rfl
    · exact k_1
    · exact k_2
    · exact k_3
    · exact k_4
    · exact k_5
    · exact k_7
    · exact k_9
    )) (by decide) ?_
  refine lv_aload_n hx hb dX4_now_107 rfl (lv_at hl 0 rfl) ?_
  refine lv_ldc (v := (-1000000001)) hx hb hown (hts (.constant RX4 55 ((-1000000001))) (by decide +kernel)) dX4_now_108 ?_
  refine hd_callVi (As := [.int (-1000000001)]) (rest := []) ⟨hx, hb, hml, hown, hts⟩ hE hP hS (c_X4_found_0 l G u F h6) rfl (cwV 1 hts gX4_now_X4_found rfl rfl rfl (by decide +kernel) ⟨Nat.le_of_ble_eq_true rfl, Nat.le_of_ble_eq_true rfl⟩) (do_recv hE hP) rfl hl.1 rfl (Nat.le_of_ble_eq_true rfl) dX4_now_110 (fun rq_11 vq_11 H locs q_11 hP hS => ?_)
  have hP := hP.cast (q_11.2)
  refine lv_cast q_11.1 ?_
  exact hd_iret hx hb hr hlocks hP hS (P3.of (by first | rfl | (simp [X_now, bey, none3, bmp, k_1, k_2, k_3, k_4, k_5, k_7, k_9]; done) | (exfalso; simp_all; done) | (simp only [X_now, bey, none3, bmp, k_1, k_2, k_3, k_4, k_5, k_7, k_9, ↓reduceIte] <;> rfl)) ((sI_ne _ _ (by decide)).trans h0) ((sI_ne _ _ (by decide)).trans rfl) (sI_at _ _ _) (by decide) (by decide) (by decide) (fun k k0 k1 k6 => ((sI_ne _ _ k6).trans rfl)) rfl) dX4_now_113
set_option maxHeartbeats 4000000 in
set_option maxRecDepth 100000 in
theorem c_X4_person (l : Launch) (G : Geo) (u : Sg) (M F : Nat → Int32) (h0 : u.1 0 = M) (h6 : u.1 6 = F) (hM : Wf M) (k f : Int32) : CtI l G yX4_person wsX4_person (rmO 2 44) [.ref (gad G 0), .int k, .int f] u (P3 u 0 1 6 (X_person M F k f)) := by
  refine CtI.of (cc := cX4_person) (maxL := 3) (ret := (some .int)) (own := RX4) (by decide) rfl rfl ?_
  rintro pg ev s0 mm below meth cd ⟨hx, hb, hr, hml, hown, hts, hlocks⟩ hE hP ls hl
  have hS : va_S (gA G) s0.heap s0.heap [] := va_S.rf
  have hl : lv_has ls 3 [(0, .ref (gad G 0)), (1, .int k), (2, .int f)] := hl
  have hin4 : ∀ w ∈ wsX40, w ∈ wsX4_person := by decide +kernel
  have hn := hM.n
  have h8 := hM.n8
  refine lv_iload_n hx hb dX4_person_0 rfl (lv_at hl 1 rfl) ?_
  refine hd_callSi (As := [.int k]) (rest := []) ⟨hx, hb, hml, hown, hts⟩ hE hP hS (c_X0_isKind l G u k) rfl (va_cwS 1 hts gX4_person_X0_isKind rfl rfl rfl (by decide +kernel) ⟨Nat.le_of_ble_eq_true rfl, Nat.le_of_ble_eq_true rfl⟩) rfl hl.1 rfl (Nat.le_of_ble_eq_true rfl) dX4_person_1 (fun rq_1 vq_1 H locs q_1 hP hS => ?_)
  have hP := hP.cast (q_1.2)
  refine lv_cast q_1.1 ?_
  refine lv_cast (congrArg bI (isKd_in _)) ?_
  refine bo_eq (tgt := 18) hx hb dX4_person_4 (by decide) (fun c_2 => ?_) (fun c_2 => ?_)
  · skip
    refine lv_aload_n hx hb dX4_person_18 rfl (lv_at hl 0 rfl) ?_
    refine lv_ldc (v := (-1000000001)) hx hb hown (hts (.constant RX4 55 ((-1000000001))) (by decide +kernel)) dX4_person_19 ?_
    refine hd_callVi (As := [.int (-1000000001)]) (rest := []) ⟨hx, hb, hml, hown, hts⟩ hE hP hS (c_X4_found_0 l G u F h6) rfl (cwV 1 hts gX4_person_X4_found rfl rfl rfl (by decide +kernel) ⟨Nat.le_of_ble_eq_true rfl, Nat.le_of_ble_eq_true rfl⟩) (do_recv hE hP) rfl hl.1 rfl (Nat.le_of_ble_eq_true rfl) dX4_person_21 (fun rq_3 vq_3 H locs q_3 hP hS => ?_)
    have hP := hP.cast (q_3.2)
    refine lv_cast q_3.1 ?_
    exact hd_iret hx hb hr hlocks hP hS (P3.of (by first | rfl | (simp [X_person, bey, none3, bmp, c_2]; done) | (exfalso; simp_all; done) | (simp only [X_person, bey, none3, bmp, c_2, ↓reduceIte] <;> rfl)) ((sI_ne _ _ (by decide)).trans h0) ((sI_ne _ _ (by decide)).trans rfl) (sI_at _ _ _) (by decide) (by decide) (by decide) (fun k k0 k1 k6 => ((sI_ne _ _ k6).trans rfl)) rfl) dX4_person_24
  · skip
    refine lv_iconst (v := 0) hx hb dX4_person_7 (by decide) ?_
    refine lv_sipush (v := 999) hx hb dX4_person_8 (by decide) ?_
    refine lv_iload_n hx hb dX4_person_11 rfl (lv_at hl 2 rfl) ?_
    refine hd_callSi (As := [.int 0, .int 999, .int f]) (rest := []) ⟨hx, hb, hml, hown, hts⟩ hE hP hS (c_X4_isFrom l G u 0 999 f) rfl (va_cwS 3 hts gX4_person_X4_isFrom rfl rfl rfl (by decide +kernel) ⟨Nat.le_of_ble_eq_true rfl, Nat.le_of_ble_eq_true rfl⟩) rfl hl.1 rfl (Nat.le_of_ble_eq_true rfl) dX4_person_12 (fun rq_4 vq_4 H locs q_4 hP hS => ?_)
    have hP := hP.cast (q_4.2)
    refine lv_cast q_4.1 ?_
    refine bo_ne (tgt := 25) hx hb dX4_person_15 (by decide) (fun c_5 => ?_) (fun c_5 => ?_)
    · skip
      refine lv_aload_n hx hb dX4_person_25 rfl (lv_at hl 0 rfl) ?_
      refine do_get hx hb hts hin4 hown hE hP rfl 0 (by decide) (hts (.fieldLink RX4 10 "HeldDoor" "scene" "LHeldDoor$Scene;") (by decide +kernel)) (v := .ref (gS G 0)) rfl dX4_person_26 ?_
      refine hd_callVi (As := []) (rest := []) ⟨hx, hb, hml, hown, hts⟩ hE hP hS (c_X1_isFull l G u 0 (by decide) M) ((sI_id h0).symm) (cwV 0 hts gX4_person_X1_isFull rfl rfl rfl (by decide +kernel) ⟨Nat.le_of_ble_eq_true rfl, Nat.le_of_ble_eq_true rfl⟩) (sc_recv hE hP (by decide)) rfl hl.1 rfl (Nat.le_of_ble_eq_true rfl) dX4_person_29 (fun rq_6 vq_6 H locs q_6 hP hS => ?_)
      have hP := hP.cast (q_6.2.trans ((sI_id h0).symm).symm)
      refine lv_cast q_6.1 ?_
      refine bo_eq (tgt := 42) hx hb dX4_person_32 (by decide) (fun c_7 => ?_) (fun c_7 => ?_)
      · skip
        have h8 := full_f hM c_7
        refine lv_aload_n hx hb dX4_person_42 rfl (lv_at hl 0 rfl) ?_
        refine do_get hx hb hts hin4 hown hE hP rfl 0 (by decide) (hts (.fieldLink RX4 10 "HeldDoor" "scene" "LHeldDoor$Scene;") (by decide +kernel)) (v := .ref (gS G 0)) rfl dX4_person_43 ?_
        refine lv_iload_n hx hb dX4_person_46 rfl (lv_at hl 1 rfl) ?_
        refine lv_iload_n hx hb dX4_person_47 rfl (lv_at hl 2 rfl) ?_
        refine hd_callVi (As := [.int k, .int f]) (rest := []) ⟨hx, hb, hml, hown, hts⟩ hE hP hS (c_X1_add l G u 0 (by decide) M (nP M) hn (by omega) k f) ((sI_id h0).symm) (cwV 2 hts gX4_person_X1_add rfl rfl rfl (by decide +kernel) ⟨Nat.le_of_ble_eq_true rfl, Nat.le_of_ble_eq_true rfl⟩) (sc_recv hE hP (by decide)) rfl hl.1 rfl (Nat.le_of_ble_eq_true rfl) dX4_person_48 (fun rq_8 vq_8 H locs q_8 hP hS => ?_)
        have hP := hP.cast (q_8.2)
        refine lv_cast q_8.1 ?_
        exact hd_iret hx hb hr hlocks hP hS (P3.of (by first | rfl | (simp [X_person, bey, none3, bmp, c_2, c_5, c_7]; done) | (exfalso; simp_all; done) | (simp only [X_person, bey, none3, bmp, c_2, c_5, c_7, ↓reduceIte] <;> rfl)) (sI_at _ _ _) ((sI_ne _ _ (by decide)).trans rfl) ((sI_ne _ _ (by decide)).trans h6) (by decide) (by decide) (by decide) (fun k k0 k1 k6 => ((sI_ne _ _ k0).trans rfl)) rfl) dX4_person_51
      · skip
        refine lv_aload_n hx hb dX4_person_35 rfl (lv_at hl 0 rfl) ?_
        refine lv_ldc (v := (-1000000002)) hx hb hown (hts (.constant RX4 90 ((-1000000002))) (by decide +kernel)) dX4_person_36 ?_
        refine hd_callVi (As := [.int (-1000000002)]) (rest := []) ⟨hx, hb, hml, hown, hts⟩ hE hP hS (c_X4_found_1 l G u F h6) rfl (cwV 1 hts gX4_person_X4_found rfl rfl rfl (by decide +kernel) ⟨Nat.le_of_ble_eq_true rfl, Nat.le_of_ble_eq_true rfl⟩) (do_recv hE hP) rfl hl.1 rfl (Nat.le_of_ble_eq_true rfl) dX4_person_38 (fun rq_9 vq_9 H locs q_9 hP hS => ?_)
        have hP := hP.cast (q_9.2)
        refine lv_cast q_9.1 ?_
        exact hd_iret hx hb hr hlocks hP hS (P3.of (by first | rfl | (simp [X_person, bey, none3, bmp, c_2, c_5, c_7]; done) | (exfalso; simp_all; done) | (simp only [X_person, bey, none3, bmp, c_2, c_5, c_7, ↓reduceIte] <;> rfl)) ((sI_ne _ _ (by decide)).trans h0) ((sI_ne _ _ (by decide)).trans rfl) (sI_at _ _ _) (by decide) (by decide) (by decide) (fun k k0 k1 k6 => ((sI_ne _ _ k6).trans rfl)) rfl) dX4_person_41
    · skip
      refine lv_aload_n hx hb dX4_person_18 rfl (lv_at hl 0 rfl) ?_
      refine lv_ldc (v := (-1000000001)) hx hb hown (hts (.constant RX4 55 ((-1000000001))) (by decide +kernel)) dX4_person_19 ?_
      refine hd_callVi (As := [.int (-1000000001)]) (rest := []) ⟨hx, hb, hml, hown, hts⟩ hE hP hS (c_X4_found_0 l G u F h6) rfl (cwV 1 hts gX4_person_X4_found rfl rfl rfl (by decide +kernel) ⟨Nat.le_of_ble_eq_true rfl, Nat.le_of_ble_eq_true rfl⟩) (do_recv hE hP) rfl hl.1 rfl (Nat.le_of_ble_eq_true rfl) dX4_person_21 (fun rq_10 vq_10 H locs q_10 hP hS => ?_)
      have hP := hP.cast (q_10.2)
      refine lv_cast q_10.1 ?_
      exact hd_iret hx hb hr hlocks hP hS (P3.of (by first | rfl | (simp [X_person, bey, none3, bmp, c_2, c_5]; done) | (exfalso; simp_all; done) | (simp only [X_person, bey, none3, bmp, c_2, c_5, ↓reduceIte] <;> rfl)) ((sI_ne _ _ (by decide)).trans h0) ((sI_ne _ _ (by decide)).trans rfl) (sI_at _ _ _) (by decide) (by decide) (by decide) (fun k k0 k1 k6 => ((sI_ne _ _ k6).trans rfl)) rfl) dX4_person_24
set_option maxHeartbeats 4000000 in
set_option maxRecDepth 100000 in
theorem c_X4_turn (l : Launch) (G : Geo) (u : Sg) (M F : Nat → Int32) (h0 : u.1 0 = M) (h6 : u.1 6 = F) (hM : Wf M) (x k : Int32) : CtI l G yX4_turn wsX4_turn (rmO 2 44) [.ref (gad G 0), .int x, .int k] u (P3 u 0 1 6 (X_turn M F x k)) := by
  refine CtI.of (cc := cX4_turn) (maxL := 4) (ret := (some .int)) (own := RX4) (by decide) rfl rfl ?_
  rintro pg ev s0 mm below meth cd ⟨hx, hb, hr, hml, hown, hts, hlocks⟩ hE hP ls hl
  have hS : va_S (gA G) s0.heap s0.heap [] := va_S.rf
  have hl : lv_has ls 4 [(0, .ref (gad G 0)), (1, .int x), (2, .int k)] := hl
  have hin1 : ∀ w ∈ wsX10, w ∈ wsX4_turn := by decide +kernel
  have hin4 : ∀ w ∈ wsX40, w ∈ wsX4_turn := by decide +kernel
  have hn := hM.n
  have h8 := hM.n8
  refine lv_aload_n hx hb dX4_turn_0 rfl (lv_at hl 0 rfl) ?_
  refine lv_iload_n hx hb dX4_turn_1 rfl (lv_at hl 1 rfl) ?_
  refine hd_callVi (As := [.int x]) (rest := []) ⟨hx, hb, hml, hown, hts⟩ hE hP hS (c_X4_isPerson l G u M h0 x) rfl (cwV 1 hts gX4_turn_X4_isPerson rfl rfl rfl (by decide +kernel) ⟨Nat.le_of_ble_eq_true rfl, Nat.le_of_ble_eq_true rfl⟩) (do_recv hE hP) rfl hl.1 rfl (Nat.le_of_ble_eq_true rfl) dX4_turn_2 (fun rq_1 vq_1 H locs q_1 hP hS => ?_)
  have hP := hP.cast (q_1.2)
  refine lv_cast q_1.1 ?_
  refine bo_eq (tgt := 15) hx hb dX4_turn_5 (by decide) (fun c_2 => ?_) (fun c_2 => ?_)
  · skip
    refine lv_aload_n hx hb dX4_turn_15 rfl (lv_at hl 0 rfl) ?_
    refine lv_ldc (v := (-1000000001)) hx hb hown (hts (.constant RX4 55 ((-1000000001))) (by decide +kernel)) dX4_turn_16 ?_
    refine hd_callVi (As := [.int (-1000000001)]) (rest := []) ⟨hx, hb, hml, hown, hts⟩ hE hP hS (c_X4_found_0 l G u F h6) rfl (cwV 1 hts gX4_turn_X4_found rfl rfl rfl (by decide +kernel) ⟨Nat.le_of_ble_eq_true rfl, Nat.le_of_ble_eq_true rfl⟩) (do_recv hE hP) rfl hl.1 rfl (Nat.le_of_ble_eq_true rfl) dX4_turn_18 (fun rq_3 vq_3 H locs q_3 hP hS => ?_)
    have hP := hP.cast (q_3.2)
    refine lv_cast q_3.1 ?_
    exact hd_iret hx hb hr hlocks hP hS (P3.of (by first | rfl | (simp [X_turn, bey, none3, bmp, c_2]; done) | (exfalso; simp_all; done) | (simp only [X_turn, bey, none3, bmp, c_2, ↓reduceIte] <;> rfl)) ((sI_ne _ _ (by decide)).trans h0) ((sI_ne _ _ (by decide)).trans rfl) (sI_at _ _ _) (by decide) (by decide) (by decide) (fun k k0 k1 k6 => ((sI_ne _ _ k6).trans rfl)) rfl) dX4_turn_21
  · skip
    obtain ⟨q, hq, rfl⟩ := pe_get hM c_2
    refine lv_iload_n hx hb dX4_turn_8 rfl (lv_at hl 2 rfl) ?_
    refine hd_callSi (As := [.int k]) (rest := []) ⟨hx, hb, hml, hown, hts⟩ hE hP hS (c_X0_isKind l G u k) rfl (va_cwS 1 hts gX4_turn_X0_isKind rfl rfl rfl (by decide +kernel) ⟨Nat.le_of_ble_eq_true rfl, Nat.le_of_ble_eq_true rfl⟩) rfl hl.1 rfl (Nat.le_of_ble_eq_true rfl) dX4_turn_9 (fun rq_4 vq_4 H locs q_4 hP hS => ?_)
    have hP := hP.cast (q_4.2)
    refine lv_cast q_4.1 ?_
    refine lv_cast (congrArg bI (isKd_in _)) ?_
    refine bo_ne (tgt := 22) hx hb dX4_turn_12 (by decide) (fun c_5 => ?_) (fun c_5 => ?_)
    · skip
      refine lv_aload_n hx hb dX4_turn_22 rfl (lv_at hl 0 rfl) ?_
      refine do_get hx hb hts hin4 hown hE hP rfl 0 (by decide) (hts (.fieldLink RX4 10 "HeldDoor" "scene" "LHeldDoor$Scene;") (by decide +kernel)) (v := .ref (gS G 0)) rfl dX4_turn_23 ?_
      refine sc_get hx hb hts hin1 hown hE hP (by decide) h0 5 (by decide) (hts (.fieldLink RX4 108 "HeldDoor$Scene" "kinds" "[I") (by decide +kernel)) (v := .ref (gSA G 0 0)) rfl dX4_turn_26 ?_
      refine lv_iload_n hx hb dX4_turn_29 rfl (lv_at hl 1 rfl) ?_
      refine sc_ald hx hb hE hP (by decide) h0 0 (by decide) q (by omega) dX4_turn_30 ?_
      refine lv_istore_n (lv' := [(3, .int (M (5 + 6 * q + 0))), (0, .ref (gad G 0)), (1, .int (nI q)), (2, .int k)]) hx hb dX4_turn_31 rfl hl (by decide) rfl (fun ls hl => ?_)
      refine lv_aload_n hx hb dX4_turn_32 rfl (lv_at hl 1 rfl) ?_
      refine do_get hx hb hts hin4 hown hE hP rfl 0 (by decide) (hts (.fieldLink RX4 10 "HeldDoor" "scene" "LHeldDoor$Scene;") (by decide +kernel)) (v := .ref (gS G 0)) rfl dX4_turn_33 ?_
      refine sc_get hx hb hts hin1 hown hE hP (by decide) h0 5 (by decide) (hts (.fieldLink RX4 108 "HeldDoor$Scene" "kinds" "[I") (by decide +kernel)) (v := .ref (gSA G 0 0)) rfl dX4_turn_36 ?_
      refine lv_iload_n hx hb dX4_turn_39 rfl (lv_at hl 2 rfl) ?_
      refine lv_iload_n hx hb dX4_turn_40 rfl (lv_at hl 3 rfl) ?_
      refine sc_ast hx hb hE hP hS (by decide) h0 0 (by decide) q (by omega) rfl dX4_turn_41 (fun H locs hP hS => ?_)
      refine lv_iload_n hx hb dX4_turn_42 rfl (lv_at hl 0 rfl) ?_
      exact hd_iret hx hb hr hlocks hP hS (P3.of (by first | rfl | (simp [X_turn, bey, none3, bmp, nI_clamp (show q < 2 ^ 31 by omega), c_2, c_5]; done) | (exfalso; simp_all; done) | (simp only [X_turn, bey, none3, bmp, nI_clamp (show q < 2 ^ 31 by omega), c_2, c_5, ↓reduceIte] <;> rfl)) (sI_at _ _ _) ((sI_ne _ _ (by decide)).trans rfl) ((sI_ne _ _ (by decide)).trans h6) (by decide) (by decide) (by decide) (fun k k0 k1 k6 => ((sI_ne _ _ k0).trans rfl)) rfl) dX4_turn_43
    · skip
      refine lv_aload_n hx hb dX4_turn_15 rfl (lv_at hl 0 rfl) ?_
      refine lv_ldc (v := (-1000000001)) hx hb hown (hts (.constant RX4 55 ((-1000000001))) (by decide +kernel)) dX4_turn_16 ?_
      refine hd_callVi (As := [.int (-1000000001)]) (rest := []) ⟨hx, hb, hml, hown, hts⟩ hE hP hS (c_X4_found_0 l G u F h6) rfl (cwV 1 hts gX4_turn_X4_found rfl rfl rfl (by decide +kernel) ⟨Nat.le_of_ble_eq_true rfl, Nat.le_of_ble_eq_true rfl⟩) (do_recv hE hP) rfl hl.1 rfl (Nat.le_of_ble_eq_true rfl) dX4_turn_18 (fun rq_6 vq_6 H locs q_6 hP hS => ?_)
      have hP := hP.cast (q_6.2)
      refine lv_cast q_6.1 ?_
      exact hd_iret hx hb hr hlocks hP hS (P3.of (by first | rfl | (simp [X_turn, bey, none3, bmp, nI_clamp (show q < 2 ^ 31 by omega), c_2, c_5]; done) | (exfalso; simp_all; done) | (simp only [X_turn, bey, none3, bmp, nI_clamp (show q < 2 ^ 31 by omega), c_2, c_5, ↓reduceIte] <;> rfl)) ((sI_ne _ _ (by decide)).trans h0) ((sI_ne _ _ (by decide)).trans rfl) (sI_at _ _ _) (by decide) (by decide) (by decide) (fun k k0 k1 k6 => ((sI_ne _ _ k6).trans rfl)) rfl) dX4_turn_21
set_option maxHeartbeats 4000000 in
set_option maxRecDepth 100000 in
theorem c_X4_as (l : Launch) (G : Geo) (u : Sg) (M F : Nat → Int32) (h0 : u.1 0 = M) (h6 : u.1 6 = F) (hM : Wf M) (x k : Int32) : CtI l G yX4_as wsX4_as (rmO 2 44) [.ref (gad G 0), .int x, .int k] u (P3 u 0 1 6 (X_as M F x k)) := by
  refine CtI.of (cc := cX4_as) (maxL := 3) (ret := (some .int)) (own := RX4) (by decide) rfl rfl ?_
  rintro pg ev s0 mm below meth cd ⟨hx, hb, hr, hml, hown, hts, hlocks⟩ hE hP ls hl
  have hS : va_S (gA G) s0.heap s0.heap [] := va_S.rf
  have hl : lv_has ls 3 [(0, .ref (gad G 0)), (1, .int x), (2, .int k)] := hl
  have hin1 : ∀ w ∈ wsX10, w ∈ wsX4_as := by decide +kernel
  have hin4 : ∀ w ∈ wsX40, w ∈ wsX4_as := by decide +kernel
  have hn := hM.n
  have h8 := hM.n8
  refine lv_aload_n hx hb dX4_as_0 rfl (lv_at hl 0 rfl) ?_
  refine lv_iload_n hx hb dX4_as_1 rfl (lv_at hl 1 rfl) ?_
  refine hd_callVi (As := [.int x]) (rest := []) ⟨hx, hb, hml, hown, hts⟩ hE hP hS (c_X4_isPerson l G u M h0 x) rfl (cwV 1 hts gX4_as_X4_isPerson rfl rfl rfl (by decide +kernel) ⟨Nat.le_of_ble_eq_true rfl, Nat.le_of_ble_eq_true rfl⟩) (do_recv hE hP) rfl hl.1 rfl (Nat.le_of_ble_eq_true rfl) dX4_as_2 (fun rq_1 vq_1 H locs q_1 hP hS => ?_)
  have hP := hP.cast (q_1.2)
  refine lv_cast q_1.1 ?_
  refine bo_eq (tgt := 15) hx hb dX4_as_5 (by decide) (fun c_2 => ?_) (fun c_2 => ?_)
  · skip
    refine lv_aload_n hx hb dX4_as_15 rfl (lv_at hl 0 rfl) ?_
    refine lv_ldc (v := (-1000000001)) hx hb hown (hts (.constant RX4 55 ((-1000000001))) (by decide +kernel)) dX4_as_16 ?_
    refine hd_callVi (As := [.int (-1000000001)]) (rest := []) ⟨hx, hb, hml, hown, hts⟩ hE hP hS (c_X4_found_0 l G u F h6) rfl (cwV 1 hts gX4_as_X4_found rfl rfl rfl (by decide +kernel) ⟨Nat.le_of_ble_eq_true rfl, Nat.le_of_ble_eq_true rfl⟩) (do_recv hE hP) rfl hl.1 rfl (Nat.le_of_ble_eq_true rfl) dX4_as_18 (fun rq_3 vq_3 H locs q_3 hP hS => ?_)
    have hP := hP.cast (q_3.2)
    refine lv_cast q_3.1 ?_
    exact hd_iret hx hb hr hlocks hP hS (P3.of (by first | rfl | (simp [X_as, bey, none3, bmp, c_2]; done) | (exfalso; simp_all; done) | (simp only [X_as, bey, none3, bmp, c_2, ↓reduceIte] <;> rfl)) ((sI_ne _ _ (by decide)).trans h0) ((sI_ne _ _ (by decide)).trans rfl) (sI_at _ _ _) (by decide) (by decide) (by decide) (fun k k0 k1 k6 => ((sI_ne _ _ k6).trans rfl)) rfl) dX4_as_21
  · skip
    obtain ⟨q, hq, rfl⟩ := pe_get hM c_2
    refine lv_iload_n hx hb dX4_as_8 rfl (lv_at hl 2 rfl) ?_
    refine hd_callSi (As := [.int k]) (rest := []) ⟨hx, hb, hml, hown, hts⟩ hE hP hS (c_X0_isKind l G u k) rfl (va_cwS 1 hts gX4_as_X0_isKind rfl rfl rfl (by decide +kernel) ⟨Nat.le_of_ble_eq_true rfl, Nat.le_of_ble_eq_true rfl⟩) rfl hl.1 rfl (Nat.le_of_ble_eq_true rfl) dX4_as_9 (fun rq_4 vq_4 H locs q_4 hP hS => ?_)
    have hP := hP.cast (q_4.2)
    refine lv_cast q_4.1 ?_
    refine lv_cast (congrArg bI (isKd_in _)) ?_
    refine bo_ne (tgt := 22) hx hb dX4_as_12 (by decide) (fun c_5 => ?_) (fun c_5 => ?_)
    · skip
      refine lv_aload_n hx hb dX4_as_22 rfl (lv_at hl 0 rfl) ?_
      refine do_get hx hb hts hin4 hown hE hP rfl 0 (by decide) (hts (.fieldLink RX4 10 "HeldDoor" "scene" "LHeldDoor$Scene;") (by decide +kernel)) (v := .ref (gS G 0)) rfl dX4_as_23 ?_
      refine sc_get hx hb hts hin1 hown hE hP (by decide) h0 5 (by decide) (hts (.fieldLink RX4 108 "HeldDoor$Scene" "kinds" "[I") (by decide +kernel)) (v := .ref (gSA G 0 0)) rfl dX4_as_26 ?_
      refine lv_iload_n hx hb dX4_as_29 rfl (lv_at hl 1 rfl) ?_
      refine sc_ald hx hb hE hP (by decide) h0 0 (by decide) q (by omega) dX4_as_30 ?_
      refine lv_iload_n hx hb dX4_as_31 rfl (lv_at hl 2 rfl) ?_
      refine hd_callSi (As := [.int (M (5 + 6 * q + 0)), .int k]) (rest := []) ⟨hx, hb, hml, hown, hts⟩ hE hP hS (c_X0_isUnder l G u (M (5 + 6 * q + 0)) k (wf_kd hM (by omega))) rfl (va_cwS 2 hts gX4_as_X0_isUnder rfl rfl rfl (by decide +kernel) ⟨Nat.le_of_ble_eq_true rfl, Nat.le_of_ble_eq_true rfl⟩) rfl hl.1 rfl (Nat.le_of_ble_eq_true rfl) dX4_as_32 (fun rq_6 vq_6 H locs q_6 hP hS => ?_)
      have hP := hP.cast (q_6.2)
      refine lv_cast q_6.1 ?_
      refine bo_ne (tgt := 45) hx hb dX4_as_35 (by decide) (fun c_7 => ?_) (fun c_7 => ?_)
      · skip
        refine lv_aload_n hx hb dX4_as_45 rfl (lv_at hl 0 rfl) ?_
        refine do_get hx hb hts hin4 hown hE hP rfl 0 (by decide) (hts (.fieldLink RX4 10 "HeldDoor" "scene" "LHeldDoor$Scene;") (by decide +kernel)) (v := .ref (gS G 0)) rfl dX4_as_46 ?_
        refine sc_get hx hb hts hin1 hown hE hP (by decide) h0 8 (by decide) (hts (.fieldLink RX4 116 "HeldDoor$Scene" "feet" "[I") (by decide +kernel)) (v := .ref (gSA G 0 3)) rfl dX4_as_49 ?_
        refine lv_iload_n hx hb dX4_as_52 rfl (lv_at hl 1 rfl) ?_
        refine sc_ald hx hb hE hP (by decide) h0 3 (by decide) q (by omega) dX4_as_53 ?_
        exact hd_iret hx hb hr hlocks hP hS (P3.of (by first | rfl | (simp [X_as, bey, none3, bmp, nI_clamp (show q < 2 ^ 31 by omega), c_2, c_5, c_7]; done) | (exfalso; simp_all; done) | (simp only [X_as, bey, none3, bmp, nI_clamp (show q < 2 ^ 31 by omega), c_2, c_5, c_7, ↓reduceIte] <;> rfl)) h0 rfl h6 (by decide) (by decide) (by decide) (fun k k0 k1 k6 => rfl) rfl) dX4_as_54
      · skip
        refine lv_aload_n hx hb dX4_as_38 rfl (lv_at hl 0 rfl) ?_
        refine lv_ldc (v := (-1000000003)) hx hb hown (hts (.constant RX4 115 ((-1000000003))) (by decide +kernel)) dX4_as_39 ?_
        refine hd_callVi (As := [.int (-1000000003)]) (rest := []) ⟨hx, hb, hml, hown, hts⟩ hE hP hS (c_X4_found_2 l G u F h6) rfl (cwV 1 hts gX4_as_X4_found rfl rfl rfl (by decide +kernel) ⟨Nat.le_of_ble_eq_true rfl, Nat.le_of_ble_eq_true rfl⟩) (do_recv hE hP) rfl hl.1 rfl (Nat.le_of_ble_eq_true rfl) dX4_as_41 (fun rq_8 vq_8 H locs q_8 hP hS => ?_)
        have hP := hP.cast (q_8.2)
        refine lv_cast q_8.1 ?_
        exact hd_iret hx hb hr hlocks hP hS (P3.of (by first | rfl | (simp [X_as, bey, none3, bmp, nI_clamp (show q < 2 ^ 31 by omega), c_2, c_5, c_7]; done) | (exfalso; simp_all; done) | (simp only [X_as, bey, none3, bmp, nI_clamp (show q < 2 ^ 31 by omega), c_2, c_5, c_7, ↓reduceIte] <;> rfl)) ((sI_ne _ _ (by decide)).trans h0) ((sI_ne _ _ (by decide)).trans rfl) (sI_at _ _ _) (by decide) (by decide) (by decide) (fun k k0 k1 k6 => ((sI_ne _ _ k6).trans rfl)) rfl) dX4_as_44
    · skip
      refine lv_aload_n hx hb dX4_as_15 rfl (lv_at hl 0 rfl) ?_
      refine lv_ldc (v := (-1000000001)) hx hb hown (hts (.constant RX4 55 ((-1000000001))) (by decide +kernel)) dX4_as_16 ?_
      refine hd_callVi (As := [.int (-1000000001)]) (rest := []) ⟨hx, hb, hml, hown, hts⟩ hE hP hS (c_X4_found_0 l G u F h6) rfl (cwV 1 hts gX4_as_X4_found rfl rfl rfl (by decide +kernel) ⟨Nat.le_of_ble_eq_true rfl, Nat.le_of_ble_eq_true rfl⟩) (do_recv hE hP) rfl hl.1 rfl (Nat.le_of_ble_eq_true rfl) dX4_as_18 (fun rq_9 vq_9 H locs q_9 hP hS => ?_)
      have hP := hP.cast (q_9.2)
      refine lv_cast q_9.1 ?_
      exact hd_iret hx hb hr hlocks hP hS (P3.of (by first | rfl | (simp [X_as, bey, none3, bmp, nI_clamp (show q < 2 ^ 31 by omega), c_2, c_5]; done) | (exfalso; simp_all; done) | (simp only [X_as, bey, none3, bmp, nI_clamp (show q < 2 ^ 31 by omega), c_2, c_5, ↓reduceIte] <;> rfl)) ((sI_ne _ _ (by decide)).trans h0) ((sI_ne _ _ (by decide)).trans rfl) (sI_at _ _ _) (by decide) (by decide) (by decide) (fun k k0 k1 k6 => ((sI_ne _ _ k6).trans rfl)) rfl) dX4_as_21
set_option maxHeartbeats 4000000 in
set_option maxRecDepth 100000 in
theorem c_X4_holds (l : Launch) (G : Geo) (u : Sg) (M F : Nat → Int32) (h0 : u.1 0 = M) (h6 : u.1 6 = F) (hM : Wf M) (x y : Int32) : CtI l G yX4_holds wsX4_holds (rmO 3 65) [.ref (gad G 0), .int x, .int y] u (P3 u 0 1 6 (X_holds M F x y)) := by
  refine CtI.of (cc := cX4_holds) (maxL := 3) (ret := (some .int)) (own := RX4) (by decide) rfl rfl ?_
  rintro pg ev s0 mm below meth cd ⟨hx, hb, hr, hml, hown, hts, hlocks⟩ hE hP ls hl
  have hS : va_S (gA G) s0.heap s0.heap [] := va_S.rf
  have hl : lv_has ls 3 [(0, .ref (gad G 0)), (1, .int x), (2, .int y)] := hl
  have hin4 : ∀ w ∈ wsX40, w ∈ wsX4_holds := by decide +kernel
  have hn := hM.n
  have h8 := hM.n8
  refine lv_aload_n hx hb dX4_holds_0 rfl (lv_at hl 0 rfl) ?_
  refine lv_iload_n hx hb dX4_holds_1 rfl (lv_at hl 1 rfl) ?_
  refine lv_iload_n hx hb dX4_holds_2 rfl (lv_at hl 2 rfl) ?_
  refine hd_callVi (As := [.int x, .int y]) (rest := []) ⟨hx, hb, hml, hown, hts⟩ hE hP hS (c_X4_isPair l G u M h0 x y) rfl (cwV 2 hts gX4_holds_X4_isPair rfl rfl rfl (by decide +kernel) ⟨Nat.le_of_ble_eq_true rfl, Nat.le_of_ble_eq_true rfl⟩) (do_recv hE hP) rfl hl.1 rfl (Nat.le_of_ble_eq_true rfl) dX4_holds_3 (fun rq_1 vq_1 H locs q_1 hP hS => ?_)
  have hP := hP.cast (q_1.2)
  refine lv_cast q_1.1 ?_
  refine bo_ne (tgt := 16) hx hb dX4_holds_6 (by decide) (fun c_2 => ?_) (fun c_2 => ?_)
  · skip
    obtain ⟨q, q2, hq, hq2, rfl, rfl⟩ := pr_get hM c_2
    refine lv_aload_n hx hb dX4_holds_16 rfl (lv_at hl 0 rfl) ?_
    refine do_get hx hb hts hin4 hown hE hP rfl 0 (by decide) (hts (.fieldLink RX4 10 "HeldDoor" "scene" "LHeldDoor$Scene;") (by decide +kernel)) (v := .ref (gS G 0)) rfl dX4_holds_17 ?_
    refine lv_iload_n hx hb dX4_holds_20 rfl (lv_at hl 1 rfl) ?_
    refine lv_iload_n hx hb dX4_holds_21 rfl (lv_at hl 2 rfl) ?_
    refine hd_callVi (As := [.int (nI q), .int (nI q2)]) (rest := []) ⟨hx, hb, hml, hown, hts⟩ hE hP hS (c_X1_holdsFor l G u 0 (by decide) M q q2 (by omega) (by omega)) ((sI_id h0).symm) (cwV 2 hts gX4_holds_X1_holdsFor rfl rfl rfl (by decide +kernel) ⟨Nat.le_of_ble_eq_true rfl, Nat.le_of_ble_eq_true rfl⟩) (sc_recv hE hP (by decide)) rfl hl.1 rfl (Nat.le_of_ble_eq_true rfl) dX4_holds_22 (fun rq_3 vq_3 H locs q_3 hP hS => ?_)
    have hP := hP.cast (q_3.2.trans ((sI_id h0).symm).symm)
    refine lv_cast q_3.1 ?_
    exact hd_iret hx hb hr hlocks hP hS (P3.of (by first | rfl | (simp [X_holds, bey, none3, bmp, nI_clamp (show q < 2 ^ 31 by omega), nI_clamp (show q2 < 2 ^ 31 by omega), c_2]; done) | (exfalso; simp_all; done) | (simp only [X_holds, bey, none3, bmp, nI_clamp (show q < 2 ^ 31 by omega), nI_clamp (show q2 < 2 ^ 31 by omega), c_2, ↓reduceIte] <;> rfl)) h0 rfl h6 (by decide) (by decide) (by decide) (fun k k0 k1 k6 => rfl) rfl) dX4_holds_25
  · skip
    refine lv_aload_n hx hb dX4_holds_9 rfl (lv_at hl 0 rfl) ?_
    refine lv_ldc (v := (-1000000001)) hx hb hown (hts (.constant RX4 55 ((-1000000001))) (by decide +kernel)) dX4_holds_10 ?_
    refine hd_callVi (As := [.int (-1000000001)]) (rest := []) ⟨hx, hb, hml, hown, hts⟩ hE hP hS (c_X4_found_0 l G u F h6) rfl (cwV 1 hts gX4_holds_X4_found rfl rfl rfl (by decide +kernel) ⟨Nat.le_of_ble_eq_true rfl, Nat.le_of_ble_eq_true rfl⟩) (do_recv hE hP) rfl hl.1 rfl (Nat.le_of_ble_eq_true rfl) dX4_holds_12 (fun rq_4 vq_4 H locs q_4 hP hS => ?_)
    have hP := hP.cast (q_4.2)
    refine lv_cast q_4.1 ?_
    exact hd_iret hx hb hr hlocks hP hS (P3.of (by first | rfl | (simp [X_holds, bey, none3, bmp, c_2]; done) | (exfalso; simp_all; done) | (simp only [X_holds, bey, none3, bmp, c_2, ↓reduceIte] <;> rfl)) ((sI_ne _ _ (by decide)).trans h0) ((sI_ne _ _ (by decide)).trans rfl) (sI_at _ _ _) (by decide) (by decide) (by decide) (fun k k0 k1 k6 => ((sI_ne _ _ k6).trans rfl)) rfl) dX4_holds_15
set_option maxHeartbeats 4000000 in
set_option maxRecDepth 100000 in
theorem c_X4_asks (l : Launch) (G : Geo) (u : Sg) (M F : Nat → Int32) (h0 : u.1 0 = M) (h6 : u.1 6 = F) (hM : Wf M) (x y : Int32) : CtI l G yX4_asks wsX4_asks (rmO 3 65) [.ref (gad G 0), .int x, .int y] u (P3 u 0 1 6 (X_asks M F x y)) := by
  refine CtI.of (cc := cX4_asks) (maxL := 3) (ret := (some .int)) (own := RX4) (by decide) rfl rfl ?_
  rintro pg ev s0 mm below meth cd ⟨hx, hb, hr, hml, hown, hts, hlocks⟩ hE hP ls hl
  have hS : va_S (gA G) s0.heap s0.heap [] := va_S.rf
  have hl : lv_has ls 3 [(0, .ref (gad G 0)), (1, .int x), (2, .int y)] := hl
  have hin4 : ∀ w ∈ wsX40, w ∈ wsX4_asks := by decide +kernel
  have hn := hM.n
  have h8 := hM.n8
  refine lv_aload_n hx hb dX4_asks_0 rfl (lv_at hl 0 rfl) ?_
  refine lv_iload_n hx hb dX4_asks_1 rfl (lv_at hl 1 rfl) ?_
  refine lv_iload_n hx hb dX4_asks_2 rfl (lv_at hl 2 rfl) ?_
  refine hd_callVi (As := [.int x, .int y]) (rest := []) ⟨hx, hb, hml, hown, hts⟩ hE hP hS (c_X4_isPair l G u M h0 x y) rfl (cwV 2 hts gX4_asks_X4_isPair rfl rfl rfl (by decide +kernel) ⟨Nat.le_of_ble_eq_true rfl, Nat.le_of_ble_eq_true rfl⟩) (do_recv hE hP) rfl hl.1 rfl (Nat.le_of_ble_eq_true rfl) dX4_asks_3 (fun rq_1 vq_1 H locs q_1 hP hS => ?_)
  have hP := hP.cast (q_1.2)
  refine lv_cast q_1.1 ?_
  refine bo_ne (tgt := 16) hx hb dX4_asks_6 (by decide) (fun c_2 => ?_) (fun c_2 => ?_)
  · skip
    obtain ⟨q, q2, hq, hq2, rfl, rfl⟩ := pr_get hM c_2
    refine lv_aload_n hx hb dX4_asks_16 rfl (lv_at hl 0 rfl) ?_
    refine do_get hx hb hts hin4 hown hE hP rfl 0 (by decide) (hts (.fieldLink RX4 10 "HeldDoor" "scene" "LHeldDoor$Scene;") (by decide +kernel)) (v := .ref (gS G 0)) rfl dX4_asks_17 ?_
    refine lv_iload_n hx hb dX4_asks_20 rfl (lv_at hl 1 rfl) ?_
    refine lv_iload_n hx hb dX4_asks_21 rfl (lv_at hl 2 rfl) ?_
    refine hd_callVi (As := [.int (nI q), .int (nI q2)]) (rest := []) ⟨hx, hb, hml, hown, hts⟩ hE hP hS (c_X1_isAsking l G u 0 (by decide) M q q2 (by omega) (by omega)) ((sI_id h0).symm) (cwV 2 hts gX4_asks_X1_isAsking rfl rfl rfl (by decide +kernel) ⟨Nat.le_of_ble_eq_true rfl, Nat.le_of_ble_eq_true rfl⟩) (sc_recv hE hP (by decide)) rfl hl.1 rfl (Nat.le_of_ble_eq_true rfl) dX4_asks_22 (fun rq_3 vq_3 H locs q_3 hP hS => ?_)
    have hP := hP.cast (q_3.2.trans ((sI_id h0).symm).symm)
    refine lv_cast q_3.1 ?_
    refine bo_eq (tgt := 32) hx hb dX4_asks_25 (by decide) (fun c_4 => ?_) (fun c_4 => ?_)
    · skip
      refine lv_iconst (v := 0) hx hb dX4_asks_32 (by decide) ?_
      exact hd_iret hx hb hr hlocks hP hS (P3.of (by first | rfl | (simp [X_asks, bI, bey, none3, bmp, nI_clamp (show q < 2 ^ 31 by omega), nI_clamp (show q2 < 2 ^ 31 by omega), c_2, c_4]; done) | (exfalso; simp_all; done) | (simp only [X_asks, bI, bey, none3, bmp, nI_clamp (show q < 2 ^ 31 by omega), nI_clamp (show q2 < 2 ^ 31 by omega), c_2, c_4, ↓reduceIte] <;> rfl)) h0 rfl h6 (by decide) (by decide) (by decide) (fun k k0 k1 k6 => rfl) rfl) dX4_asks_33
    · skip
      refine lv_iconst (v := 1) hx hb dX4_asks_28 (by decide) ?_
      refine lv_goto (tgt := 33) hx hb dX4_asks_29 (by decide) ?_
      exact hd_iret hx hb hr hlocks hP hS (P3.of (by first | rfl | (simp [X_asks, bI, bey, none3, bmp, nI_clamp (show q < 2 ^ 31 by omega), nI_clamp (show q2 < 2 ^ 31 by omega), c_2, c_4]; done) | (exfalso; simp_all; done) | (simp only [X_asks, bI, bey, none3, bmp, nI_clamp (show q < 2 ^ 31 by omega), nI_clamp (show q2 < 2 ^ 31 by omega), c_2, c_4, ↓reduceIte] <;> rfl)) h0 rfl h6 (by decide) (by decide) (by decide) (fun k k0 k1 k6 => rfl) rfl) dX4_asks_33
  · skip
    refine lv_aload_n hx hb dX4_asks_9 rfl (lv_at hl 0 rfl) ?_
    refine lv_ldc (v := (-1000000001)) hx hb hown (hts (.constant RX4 55 ((-1000000001))) (by decide +kernel)) dX4_asks_10 ?_
    refine hd_callVi (As := [.int (-1000000001)]) (rest := []) ⟨hx, hb, hml, hown, hts⟩ hE hP hS (c_X4_found_0 l G u F h6) rfl (cwV 1 hts gX4_asks_X4_found rfl rfl rfl (by decide +kernel) ⟨Nat.le_of_ble_eq_true rfl, Nat.le_of_ble_eq_true rfl⟩) (do_recv hE hP) rfl hl.1 rfl (Nat.le_of_ble_eq_true rfl) dX4_asks_12 (fun rq_5 vq_5 H locs q_5 hP hS => ?_)
    have hP := hP.cast (q_5.2)
    refine lv_cast q_5.1 ?_
    exact hd_iret hx hb hr hlocks hP hS (P3.of (by first | rfl | (simp [X_asks, bI, bey, none3, bmp, c_2]; done) | (exfalso; simp_all; done) | (simp only [X_asks, bI, bey, none3, bmp, c_2, ↓reduceIte] <;> rfl)) ((sI_ne _ _ (by decide)).trans h0) ((sI_ne _ _ (by decide)).trans rfl) (sI_at _ _ _) (by decide) (by decide) (by decide) (fun k k0 k1 k6 => ((sI_ne _ _ k6).trans rfl)) rfl) dX4_asks_15
set_option maxHeartbeats 4000000 in
set_option maxRecDepth 100000 in
theorem c_X4_of_0 (l : Launch) (G : Geo) (u : Sg) (M F : Nat → Int32) (h0 : u.1 0 = M) (h6 : u.1 6 = F) (hM : Wf M) (x : Int32) : CtI l G yX4_of wsX4_of (rmO 3 65) [.ref (gad G 0), .int x, .int 0] u (P3 u 0 1 6 (X_of M F x 0)) := by
  refine CtI.of (cc := cX4_of) (maxL := 4) (ret := (some .int)) (own := RX4) (by decide) rfl rfl ?_
  rintro pg ev s0 mm below meth cd ⟨hx, hb, hr, hml, hown, hts, hlocks⟩ hE hP ls hl
  have hS : va_S (gA G) s0.heap s0.heap [] := va_S.rf
  have hl : lv_has ls 4 [(0, .ref (gad G 0)), (1, .int x), (2, .int 0)] := hl
  have hin4 : ∀ w ∈ wsX40, w ∈ wsX4_of := by decide +kernel
  have hn := hM.n
  have h8 := hM.n8
  refine lv_aload_n hx hb dX4_of_0 rfl (lv_at hl 0 rfl) ?_
  refine lv_iload_n hx hb dX4_of_1 rfl (lv_at hl 1 rfl) ?_
  refine hd_callVi (As := [.int x]) (rest := []) ⟨hx, hb, hml, hown, hts⟩ hE hP hS (c_X4_isPerson l G u M h0 x) rfl (cwV 1 hts gX4_of_X4_isPerson rfl rfl rfl (by decide +kernel) ⟨Nat.le_of_ble_eq_true rfl, Nat.le_of_ble_eq_true rfl⟩) (do_recv hE hP) rfl hl.1 rfl (Nat.le_of_ble_eq_true rfl) dX4_of_2 (fun rq_1 vq_1 H locs q_1 hP hS => ?_)
  have hP := hP.cast (q_1.2)
  refine lv_cast q_1.1 ?_
  refine bo_ne (tgt := 15) hx hb dX4_of_5 (by decide) (fun c_2 => ?_) (fun c_2 => ?_)
  · skip
    obtain ⟨q, hq, rfl⟩ := pe_get hM c_2
    refine lv_iload_n hx hb dX4_of_15 rfl (lv_at hl 2 rfl) ?_
    refine lv_bipush (v := 6) hx hb dX4_of_16 (by decide) ?_
    refine lv_icmp_ne (tgt := 30) hx hb dX4_of_18 (by decide) (fun _ => ?_) (fun h => False.elim (by revert h; decide))
    refine lv_aload_n hx hb dX4_of_30 rfl (lv_at hl 0 rfl) ?_
    refine do_get hx hb hts hin4 hown hE hP rfl 0 (by decide) (hts (.fieldLink RX4 10 "HeldDoor" "scene" "LHeldDoor$Scene;") (by decide +kernel)) (v := .ref (gS G 0)) rfl dX4_of_31 ?_
    refine lv_iload_n hx hb dX4_of_34 rfl (lv_at hl 2 rfl) ?_
    refine hd_callVr (As := [.int 0]) (rest := []) ⟨hx, hb, hml, hown, hts⟩ hE hP hS (c_X1_rowOf_0 l G u 0 (by decide) M) ((sI_id h0).symm) (cwV 1 hts gX4_of_X1_rowOf rfl rfl rfl (by decide +kernel) ⟨Nat.le_of_ble_eq_true rfl, Nat.le_of_ble_eq_true rfl⟩) (sc_recv hE hP (by decide)) rfl hl.1 rfl (Nat.le_of_ble_eq_true rfl) dX4_of_35 (fun H locs hP hS => ?_)
    have hP := hP.cast ((sI_id h0).symm).symm
    refine lv_astore_n (lv' := [(3, .ref (gSA G 0 0)), (0, .ref (gad G 0)), (1, .int (nI q)), (2, .int 0)]) hx hb dX4_of_38 rfl hl (by decide) rfl (fun ls hl => ?_)
    refine lv_aload_n hx hb dX4_of_39 rfl (lv_at hl 0 rfl) ?_
    refine lv_ifnonnull (tgt := 52) hx hb dX4_of_40 (by decide) ?_
    refine lv_aload_n hx hb dX4_of_52 rfl (lv_at hl 0 rfl) ?_
    refine lv_iload_n hx hb dX4_of_53 rfl (lv_at hl 2 rfl) ?_
    refine sc_ald hx hb hE hP (by decide) h0 0 (by decide) q (by omega) dX4_of_54 ?_
    exact hd_iret hx hb hr hlocks hP hS (P3.of (by first | rfl | (simp [X_of, bey, none3, bmp, nI_clamp (show q < 2 ^ 31 by omega), c_2]; done) | (exfalso; simp_all; done) | (simp only [X_of, bey, none3, bmp, nI_clamp (show q < 2 ^ 31 by omega), c_2, ↓reduceIte] <;> rfl)) h0 rfl h6 (by decide) (by decide) (by decide) (fun k k0 k1 k6 => rfl) rfl) dX4_of_55
  · skip
    refine lv_aload_n hx hb dX4_of_8 rfl (lv_at hl 0 rfl) ?_
    refine lv_ldc (v := (-1000000001)) hx hb hown (hts (.constant RX4 55 ((-1000000001))) (by decide +kernel)) dX4_of_9 ?_
    refine hd_callVi (As := [.int (-1000000001)]) (rest := []) ⟨hx, hb, hml, hown, hts⟩ hE hP hS (c_X4_found_0 l G u F h6) rfl (cwV 1 hts gX4_of_X4_found rfl rfl rfl (by decide +kernel) ⟨Nat.le_of_ble_eq_true rfl, Nat.le_of_ble_eq_true rfl⟩) (do_recv hE hP) rfl hl.1 rfl (Nat.le_of_ble_eq_true rfl) dX4_of_11 (fun rq_4 vq_4 H locs q_4 hP hS => ?_)
    have hP := hP.cast (q_4.2)
    refine lv_cast q_4.1 ?_
    exact hd_iret hx hb hr hlocks hP hS (P3.of (by first | rfl | (simp [X_of, bey, none3, bmp, c_2]; done) | (exfalso; simp_all; done) | (simp only [X_of, bey, none3, bmp, c_2, ↓reduceIte] <;> rfl)) ((sI_ne _ _ (by decide)).trans h0) ((sI_ne _ _ (by decide)).trans rfl) (sI_at _ _ _) (by decide) (by decide) (by decide) (fun k k0 k1 k6 => ((sI_ne _ _ k6).trans rfl)) rfl) dX4_of_14
set_option maxHeartbeats 4000000 in
set_option maxRecDepth 100000 in
theorem c_X4_of_1 (l : Launch) (G : Geo) (u : Sg) (M F : Nat → Int32) (h0 : u.1 0 = M) (h6 : u.1 6 = F) (hM : Wf M) (x : Int32) : CtI l G yX4_of wsX4_of (rmO 3 65) [.ref (gad G 0), .int x, .int 1] u (P3 u 0 1 6 (X_of M F x 1)) := by
  refine CtI.of (cc := cX4_of) (maxL := 4) (ret := (some .int)) (own := RX4) (by decide) rfl rfl ?_
  rintro pg ev s0 mm below meth cd ⟨hx, hb, hr, hml, hown, hts, hlocks⟩ hE hP ls hl
  have hS : va_S (gA G) s0.heap s0.heap [] := va_S.rf
  have hl : lv_has ls 4 [(0, .ref (gad G 0)), (1, .int x), (2, .int 1)] := hl
  have hin4 : ∀ w ∈ wsX40, w ∈ wsX4_of := by decide +kernel
  have hn := hM.n
  have h8 := hM.n8
  refine lv_aload_n hx hb dX4_of_0 rfl (lv_at hl 0 rfl) ?_
  refine lv_iload_n hx hb dX4_of_1 rfl (lv_at hl 1 rfl) ?_
  refine hd_callVi (As := [.int x]) (rest := []) ⟨hx, hb, hml, hown, hts⟩ hE hP hS (c_X4_isPerson l G u M h0 x) rfl (cwV 1 hts gX4_of_X4_isPerson rfl rfl rfl (by decide +kernel) ⟨Nat.le_of_ble_eq_true rfl, Nat.le_of_ble_eq_true rfl⟩) (do_recv hE hP) rfl hl.1 rfl (Nat.le_of_ble_eq_true rfl) dX4_of_2 (fun rq_1 vq_1 H locs q_1 hP hS => ?_)
  have hP := hP.cast (q_1.2)
  refine lv_cast q_1.1 ?_
  refine bo_ne (tgt := 15) hx hb dX4_of_5 (by decide) (fun c_2 => ?_) (fun c_2 => ?_)
  · skip
    obtain ⟨q, hq, rfl⟩ := pe_get hM c_2
    refine lv_iload_n hx hb dX4_of_15 rfl (lv_at hl 2 rfl) ?_
    refine lv_bipush (v := 6) hx hb dX4_of_16 (by decide) ?_
    refine lv_icmp_ne (tgt := 30) hx hb dX4_of_18 (by decide) (fun _ => ?_) (fun h => False.elim (by revert h; decide))
    refine lv_aload_n hx hb dX4_of_30 rfl (lv_at hl 0 rfl) ?_
    refine do_get hx hb hts hin4 hown hE hP rfl 0 (by decide) (hts (.fieldLink RX4 10 "HeldDoor" "scene" "LHeldDoor$Scene;") (by decide +kernel)) (v := .ref (gS G 0)) rfl dX4_of_31 ?_
    refine lv_iload_n hx hb dX4_of_34 rfl (lv_at hl 2 rfl) ?_
    refine hd_callVr (As := [.int 1]) (rest := []) ⟨hx, hb, hml, hown, hts⟩ hE hP hS (c_X1_rowOf_1 l G u 0 (by decide) M) ((sI_id h0).symm) (cwV 1 hts gX4_of_X1_rowOf rfl rfl rfl (by decide +kernel) ⟨Nat.le_of_ble_eq_true rfl, Nat.le_of_ble_eq_true rfl⟩) (sc_recv hE hP (by decide)) rfl hl.1 rfl (Nat.le_of_ble_eq_true rfl) dX4_of_35 (fun H locs hP hS => ?_)
    have hP := hP.cast ((sI_id h0).symm).symm
    refine lv_astore_n (lv' := [(3, .ref (gSA G 0 1)), (0, .ref (gad G 0)), (1, .int (nI q)), (2, .int 1)]) hx hb dX4_of_38 rfl hl (by decide) rfl (fun ls hl => ?_)
    refine lv_aload_n hx hb dX4_of_39 rfl (lv_at hl 0 rfl) ?_
    refine lv_ifnonnull (tgt := 52) hx hb dX4_of_40 (by decide) ?_
    refine lv_aload_n hx hb dX4_of_52 rfl (lv_at hl 0 rfl) ?_
    refine lv_iload_n hx hb dX4_of_53 rfl (lv_at hl 2 rfl) ?_
    refine sc_ald hx hb hE hP (by decide) h0 1 (by decide) q (by omega) dX4_of_54 ?_
    exact hd_iret hx hb hr hlocks hP hS (P3.of (by first | rfl | (simp [X_of, bey, none3, bmp, nI_clamp (show q < 2 ^ 31 by omega), c_2]; done) | (exfalso; simp_all; done) | (simp only [X_of, bey, none3, bmp, nI_clamp (show q < 2 ^ 31 by omega), c_2, ↓reduceIte] <;> rfl)) h0 rfl h6 (by decide) (by decide) (by decide) (fun k k0 k1 k6 => rfl) rfl) dX4_of_55
  · skip
    refine lv_aload_n hx hb dX4_of_8 rfl (lv_at hl 0 rfl) ?_
    refine lv_ldc (v := (-1000000001)) hx hb hown (hts (.constant RX4 55 ((-1000000001))) (by decide +kernel)) dX4_of_9 ?_
    refine hd_callVi (As := [.int (-1000000001)]) (rest := []) ⟨hx, hb, hml, hown, hts⟩ hE hP hS (c_X4_found_0 l G u F h6) rfl (cwV 1 hts gX4_of_X4_found rfl rfl rfl (by decide +kernel) ⟨Nat.le_of_ble_eq_true rfl, Nat.le_of_ble_eq_true rfl⟩) (do_recv hE hP) rfl hl.1 rfl (Nat.le_of_ble_eq_true rfl) dX4_of_11 (fun rq_4 vq_4 H locs q_4 hP hS => ?_)
    have hP := hP.cast (q_4.2)
    refine lv_cast q_4.1 ?_
    exact hd_iret hx hb hr hlocks hP hS (P3.of (by first | rfl | (simp [X_of, bey, none3, bmp, c_2]; done) | (exfalso; simp_all; done) | (simp only [X_of, bey, none3, bmp, c_2, ↓reduceIte] <;> rfl)) ((sI_ne _ _ (by decide)).trans h0) ((sI_ne _ _ (by decide)).trans rfl) (sI_at _ _ _) (by decide) (by decide) (by decide) (fun k k0 k1 k6 => ((sI_ne _ _ k6).trans rfl)) rfl) dX4_of_14
set_option maxHeartbeats 4000000 in
set_option maxRecDepth 100000 in
theorem c_X4_of_2 (l : Launch) (G : Geo) (u : Sg) (M F : Nat → Int32) (h0 : u.1 0 = M) (h6 : u.1 6 = F) (hM : Wf M) (x : Int32) : CtI l G yX4_of wsX4_of (rmO 3 65) [.ref (gad G 0), .int x, .int 2] u (P3 u 0 1 6 (X_of M F x 2)) := by
  refine CtI.of (cc := cX4_of) (maxL := 4) (ret := (some .int)) (own := RX4) (by decide) rfl rfl ?_
  rintro pg ev s0 mm below meth cd ⟨hx, hb, hr, hml, hown, hts, hlocks⟩ hE hP ls hl
  have hS : va_S (gA G) s0.heap s0.heap [] := va_S.rf
  have hl : lv_has ls 4 [(0, .ref (gad G 0)), (1, .int x), (2, .int 2)] := hl
  have hin4 : ∀ w ∈ wsX40, w ∈ wsX4_of := by decide +kernel
  have hn := hM.n
  have h8 := hM.n8
  refine lv_aload_n hx hb dX4_of_0 rfl (lv_at hl 0 rfl) ?_
  refine lv_iload_n hx hb dX4_of_1 rfl (lv_at hl 1 rfl) ?_
  refine hd_callVi (As := [.int x]) (rest := []) ⟨hx, hb, hml, hown, hts⟩ hE hP hS (c_X4_isPerson l G u M h0 x) rfl (cwV 1 hts gX4_of_X4_isPerson rfl rfl rfl (by decide +kernel) ⟨Nat.le_of_ble_eq_true rfl, Nat.le_of_ble_eq_true rfl⟩) (do_recv hE hP) rfl hl.1 rfl (Nat.le_of_ble_eq_true rfl) dX4_of_2 (fun rq_1 vq_1 H locs q_1 hP hS => ?_)
  have hP := hP.cast (q_1.2)
  refine lv_cast q_1.1 ?_
  refine bo_ne (tgt := 15) hx hb dX4_of_5 (by decide) (fun c_2 => ?_) (fun c_2 => ?_)
  · skip
    obtain ⟨q, hq, rfl⟩ := pe_get hM c_2
    refine lv_iload_n hx hb dX4_of_15 rfl (lv_at hl 2 rfl) ?_
    refine lv_bipush (v := 6) hx hb dX4_of_16 (by decide) ?_
    refine lv_icmp_ne (tgt := 30) hx hb dX4_of_18 (by decide) (fun _ => ?_) (fun h => False.elim (by revert h; decide))
    refine lv_aload_n hx hb dX4_of_30 rfl (lv_at hl 0 rfl) ?_
    refine do_get hx hb hts hin4 hown hE hP rfl 0 (by decide) (hts (.fieldLink RX4 10 "HeldDoor" "scene" "LHeldDoor$Scene;") (by decide +kernel)) (v := .ref (gS G 0)) rfl dX4_of_31 ?_
    refine lv_iload_n hx hb dX4_of_34 rfl (lv_at hl 2 rfl) ?_
    refine hd_callVr (As := [.int 2]) (rest := []) ⟨hx, hb, hml, hown, hts⟩ hE hP hS (c_X1_rowOf_2 l G u 0 (by decide) M) ((sI_id h0).symm) (cwV 1 hts gX4_of_X1_rowOf rfl rfl rfl (by decide +kernel) ⟨Nat.le_of_ble_eq_true rfl, Nat.le_of_ble_eq_true rfl⟩) (sc_recv hE hP (by decide)) rfl hl.1 rfl (Nat.le_of_ble_eq_true rfl) dX4_of_35 (fun H locs hP hS => ?_)
    have hP := hP.cast ((sI_id h0).symm).symm
    refine lv_astore_n (lv' := [(3, .ref (gSA G 0 2)), (0, .ref (gad G 0)), (1, .int (nI q)), (2, .int 2)]) hx hb dX4_of_38 rfl hl (by decide) rfl (fun ls hl => ?_)
    refine lv_aload_n hx hb dX4_of_39 rfl (lv_at hl 0 rfl) ?_
    refine lv_ifnonnull (tgt := 52) hx hb dX4_of_40 (by decide) ?_
    refine lv_aload_n hx hb dX4_of_52 rfl (lv_at hl 0 rfl) ?_
    refine lv_iload_n hx hb dX4_of_53 rfl (lv_at hl 2 rfl) ?_
    refine sc_ald hx hb hE hP (by decide) h0 2 (by decide) q (by omega) dX4_of_54 ?_
    exact hd_iret hx hb hr hlocks hP hS (P3.of (by first | rfl | (simp [X_of, bey, none3, bmp, nI_clamp (show q < 2 ^ 31 by omega), c_2]; done) | (exfalso; simp_all; done) | (simp only [X_of, bey, none3, bmp, nI_clamp (show q < 2 ^ 31 by omega), c_2, ↓reduceIte] <;> rfl)) h0 rfl h6 (by decide) (by decide) (by decide) (fun k k0 k1 k6 => rfl) rfl) dX4_of_55
  · skip
    refine lv_aload_n hx hb dX4_of_8 rfl (lv_at hl 0 rfl) ?_
    refine lv_ldc (v := (-1000000001)) hx hb hown (hts (.constant RX4 55 ((-1000000001))) (by decide +kernel)) dX4_of_9 ?_
    refine hd_callVi (As := [.int (-1000000001)]) (rest := []) ⟨hx, hb, hml, hown, hts⟩ hE hP hS (c_X4_found_0 l G u F h6) rfl (cwV 1 hts gX4_of_X4_found rfl rfl rfl (by decide +kernel) ⟨Nat.le_of_ble_eq_true rfl, Nat.le_of_ble_eq_true rfl⟩) (do_recv hE hP) rfl hl.1 rfl (Nat.le_of_ble_eq_true rfl) dX4_of_11 (fun rq_4 vq_4 H locs q_4 hP hS => ?_)
    have hP := hP.cast (q_4.2)
    refine lv_cast q_4.1 ?_
    exact hd_iret hx hb hr hlocks hP hS (P3.of (by first | rfl | (simp [X_of, bey, none3, bmp, c_2]; done) | (exfalso; simp_all; done) | (simp only [X_of, bey, none3, bmp, c_2, ↓reduceIte] <;> rfl)) ((sI_ne _ _ (by decide)).trans h0) ((sI_ne _ _ (by decide)).trans rfl) (sI_at _ _ _) (by decide) (by decide) (by decide) (fun k k0 k1 k6 => ((sI_ne _ _ k6).trans rfl)) rfl) dX4_of_14
set_option maxHeartbeats 4000000 in
set_option maxRecDepth 100000 in
theorem c_X4_of_3 (l : Launch) (G : Geo) (u : Sg) (M F : Nat → Int32) (h0 : u.1 0 = M) (h6 : u.1 6 = F) (hM : Wf M) (x : Int32) : CtI l G yX4_of wsX4_of (rmO 3 65) [.ref (gad G 0), .int x, .int 3] u (P3 u 0 1 6 (X_of M F x 3)) := by
  refine CtI.of (cc := cX4_of) (maxL := 4) (ret := (some .int)) (own := RX4) (by decide) rfl rfl ?_
  rintro pg ev s0 mm below meth cd ⟨hx, hb, hr, hml, hown, hts, hlocks⟩ hE hP ls hl
  have hS : va_S (gA G) s0.heap s0.heap [] := va_S.rf
  have hl : lv_has ls 4 [(0, .ref (gad G 0)), (1, .int x), (2, .int 3)] := hl
  have hin4 : ∀ w ∈ wsX40, w ∈ wsX4_of := by decide +kernel
  have hn := hM.n
  have h8 := hM.n8
  refine lv_aload_n hx hb dX4_of_0 rfl (lv_at hl 0 rfl) ?_
  refine lv_iload_n hx hb dX4_of_1 rfl (lv_at hl 1 rfl) ?_
  refine hd_callVi (As := [.int x]) (rest := []) ⟨hx, hb, hml, hown, hts⟩ hE hP hS (c_X4_isPerson l G u M h0 x) rfl (cwV 1 hts gX4_of_X4_isPerson rfl rfl rfl (by decide +kernel) ⟨Nat.le_of_ble_eq_true rfl, Nat.le_of_ble_eq_true rfl⟩) (do_recv hE hP) rfl hl.1 rfl (Nat.le_of_ble_eq_true rfl) dX4_of_2 (fun rq_1 vq_1 H locs q_1 hP hS => ?_)
  have hP := hP.cast (q_1.2)
  refine lv_cast q_1.1 ?_
  refine bo_ne (tgt := 15) hx hb dX4_of_5 (by decide) (fun c_2 => ?_) (fun c_2 => ?_)
  · skip
    obtain ⟨q, hq, rfl⟩ := pe_get hM c_2
    refine lv_iload_n hx hb dX4_of_15 rfl (lv_at hl 2 rfl) ?_
    refine lv_bipush (v := 6) hx hb dX4_of_16 (by decide) ?_
    refine lv_icmp_ne (tgt := 30) hx hb dX4_of_18 (by decide) (fun _ => ?_) (fun h => False.elim (by revert h; decide))
    refine lv_aload_n hx hb dX4_of_30 rfl (lv_at hl 0 rfl) ?_
    refine do_get hx hb hts hin4 hown hE hP rfl 0 (by decide) (hts (.fieldLink RX4 10 "HeldDoor" "scene" "LHeldDoor$Scene;") (by decide +kernel)) (v := .ref (gS G 0)) rfl dX4_of_31 ?_
    refine lv_iload_n hx hb dX4_of_34 rfl (lv_at hl 2 rfl) ?_
    refine hd_callVr (As := [.int 3]) (rest := []) ⟨hx, hb, hml, hown, hts⟩ hE hP hS (c_X1_rowOf_3 l G u 0 (by decide) M) ((sI_id h0).symm) (cwV 1 hts gX4_of_X1_rowOf rfl rfl rfl (by decide +kernel) ⟨Nat.le_of_ble_eq_true rfl, Nat.le_of_ble_eq_true rfl⟩) (sc_recv hE hP (by decide)) rfl hl.1 rfl (Nat.le_of_ble_eq_true rfl) dX4_of_35 (fun H locs hP hS => ?_)
    have hP := hP.cast ((sI_id h0).symm).symm
    refine lv_astore_n (lv' := [(3, .ref (gSA G 0 3)), (0, .ref (gad G 0)), (1, .int (nI q)), (2, .int 3)]) hx hb dX4_of_38 rfl hl (by decide) rfl (fun ls hl => ?_)
    refine lv_aload_n hx hb dX4_of_39 rfl (lv_at hl 0 rfl) ?_
    refine lv_ifnonnull (tgt := 52) hx hb dX4_of_40 (by decide) ?_
    refine lv_aload_n hx hb dX4_of_52 rfl (lv_at hl 0 rfl) ?_
    refine lv_iload_n hx hb dX4_of_53 rfl (lv_at hl 2 rfl) ?_
    refine sc_ald hx hb hE hP (by decide) h0 3 (by decide) q (by omega) dX4_of_54 ?_
    exact hd_iret hx hb hr hlocks hP hS (P3.of (by first | rfl | (simp [X_of, bey, none3, bmp, nI_clamp (show q < 2 ^ 31 by omega), c_2]; done) | (exfalso; simp_all; done) | (simp only [X_of, bey, none3, bmp, nI_clamp (show q < 2 ^ 31 by omega), c_2, ↓reduceIte] <;> rfl)) h0 rfl h6 (by decide) (by decide) (by decide) (fun k k0 k1 k6 => rfl) rfl) dX4_of_55
  · skip
    refine lv_aload_n hx hb dX4_of_8 rfl (lv_at hl 0 rfl) ?_
    refine lv_ldc (v := (-1000000001)) hx hb hown (hts (.constant RX4 55 ((-1000000001))) (by decide +kernel)) dX4_of_9 ?_
    refine hd_callVi (As := [.int (-1000000001)]) (rest := []) ⟨hx, hb, hml, hown, hts⟩ hE hP hS (c_X4_found_0 l G u F h6) rfl (cwV 1 hts gX4_of_X4_found rfl rfl rfl (by decide +kernel) ⟨Nat.le_of_ble_eq_true rfl, Nat.le_of_ble_eq_true rfl⟩) (do_recv hE hP) rfl hl.1 rfl (Nat.le_of_ble_eq_true rfl) dX4_of_11 (fun rq_4 vq_4 H locs q_4 hP hS => ?_)
    have hP := hP.cast (q_4.2)
    refine lv_cast q_4.1 ?_
    exact hd_iret hx hb hr hlocks hP hS (P3.of (by first | rfl | (simp [X_of, bey, none3, bmp, c_2]; done) | (exfalso; simp_all; done) | (simp only [X_of, bey, none3, bmp, c_2, ↓reduceIte] <;> rfl)) ((sI_ne _ _ (by decide)).trans h0) ((sI_ne _ _ (by decide)).trans rfl) (sI_at _ _ _) (by decide) (by decide) (by decide) (fun k k0 k1 k6 => ((sI_ne _ _ k6).trans rfl)) rfl) dX4_of_14
set_option maxHeartbeats 4000000 in
set_option maxRecDepth 100000 in
theorem c_X4_of_4 (l : Launch) (G : Geo) (u : Sg) (M F : Nat → Int32) (h0 : u.1 0 = M) (h6 : u.1 6 = F) (hM : Wf M) (x : Int32) : CtI l G yX4_of wsX4_of (rmO 3 65) [.ref (gad G 0), .int x, .int 4] u (P3 u 0 1 6 (X_of M F x 4)) := by
  refine CtI.of (cc := cX4_of) (maxL := 4) (ret := (some .int)) (own := RX4) (by decide) rfl rfl ?_
  rintro pg ev s0 mm below meth cd ⟨hx, hb, hr, hml, hown, hts, hlocks⟩ hE hP ls hl
  have hS : va_S (gA G) s0.heap s0.heap [] := va_S.rf
  have hl : lv_has ls 4 [(0, .ref (gad G 0)), (1, .int x), (2, .int 4)] := hl
  have hin4 : ∀ w ∈ wsX40, w ∈ wsX4_of := by decide +kernel
  have hn := hM.n
  have h8 := hM.n8
  refine lv_aload_n hx hb dX4_of_0 rfl (lv_at hl 0 rfl) ?_
  refine lv_iload_n hx hb dX4_of_1 rfl (lv_at hl 1 rfl) ?_
  refine hd_callVi (As := [.int x]) (rest := []) ⟨hx, hb, hml, hown, hts⟩ hE hP hS (c_X4_isPerson l G u M h0 x) rfl (cwV 1 hts gX4_of_X4_isPerson rfl rfl rfl (by decide +kernel) ⟨Nat.le_of_ble_eq_true rfl, Nat.le_of_ble_eq_true rfl⟩) (do_recv hE hP) rfl hl.1 rfl (Nat.le_of_ble_eq_true rfl) dX4_of_2 (fun rq_1 vq_1 H locs q_1 hP hS => ?_)
  have hP := hP.cast (q_1.2)
  refine lv_cast q_1.1 ?_
  refine bo_ne (tgt := 15) hx hb dX4_of_5 (by decide) (fun c_2 => ?_) (fun c_2 => ?_)
  · skip
    obtain ⟨q, hq, rfl⟩ := pe_get hM c_2
    refine lv_iload_n hx hb dX4_of_15 rfl (lv_at hl 2 rfl) ?_
    refine lv_bipush (v := 6) hx hb dX4_of_16 (by decide) ?_
    refine lv_icmp_ne (tgt := 30) hx hb dX4_of_18 (by decide) (fun _ => ?_) (fun h => False.elim (by revert h; decide))
    refine lv_aload_n hx hb dX4_of_30 rfl (lv_at hl 0 rfl) ?_
    refine do_get hx hb hts hin4 hown hE hP rfl 0 (by decide) (hts (.fieldLink RX4 10 "HeldDoor" "scene" "LHeldDoor$Scene;") (by decide +kernel)) (v := .ref (gS G 0)) rfl dX4_of_31 ?_
    refine lv_iload_n hx hb dX4_of_34 rfl (lv_at hl 2 rfl) ?_
    refine hd_callVr (As := [.int 4]) (rest := []) ⟨hx, hb, hml, hown, hts⟩ hE hP hS (c_X1_rowOf_4 l G u 0 (by decide) M) ((sI_id h0).symm) (cwV 1 hts gX4_of_X1_rowOf rfl rfl rfl (by decide +kernel) ⟨Nat.le_of_ble_eq_true rfl, Nat.le_of_ble_eq_true rfl⟩) (sc_recv hE hP (by decide)) rfl hl.1 rfl (Nat.le_of_ble_eq_true rfl) dX4_of_35 (fun H locs hP hS => ?_)
    have hP := hP.cast ((sI_id h0).symm).symm
    refine lv_astore_n (lv' := [(3, .ref (gSA G 0 4)), (0, .ref (gad G 0)), (1, .int (nI q)), (2, .int 4)]) hx hb dX4_of_38 rfl hl (by decide) rfl (fun ls hl => ?_)
    refine lv_aload_n hx hb dX4_of_39 rfl (lv_at hl 0 rfl) ?_
    refine lv_ifnonnull (tgt := 52) hx hb dX4_of_40 (by decide) ?_
    refine lv_aload_n hx hb dX4_of_52 rfl (lv_at hl 0 rfl) ?_
    refine lv_iload_n hx hb dX4_of_53 rfl (lv_at hl 2 rfl) ?_
    refine sc_ald hx hb hE hP (by decide) h0 4 (by decide) q (by omega) dX4_of_54 ?_
    exact hd_iret hx hb hr hlocks hP hS (P3.of (by first | rfl | (simp [X_of, bey, none3, bmp, nI_clamp (show q < 2 ^ 31 by omega), c_2]; done) | (exfalso; simp_all; done) | (simp only [X_of, bey, none3, bmp, nI_clamp (show q < 2 ^ 31 by omega), c_2, ↓reduceIte] <;> rfl)) h0 rfl h6 (by decide) (by decide) (by decide) (fun k k0 k1 k6 => rfl) rfl) dX4_of_55
  · skip
    refine lv_aload_n hx hb dX4_of_8 rfl (lv_at hl 0 rfl) ?_
    refine lv_ldc (v := (-1000000001)) hx hb hown (hts (.constant RX4 55 ((-1000000001))) (by decide +kernel)) dX4_of_9 ?_
    refine hd_callVi (As := [.int (-1000000001)]) (rest := []) ⟨hx, hb, hml, hown, hts⟩ hE hP hS (c_X4_found_0 l G u F h6) rfl (cwV 1 hts gX4_of_X4_found rfl rfl rfl (by decide +kernel) ⟨Nat.le_of_ble_eq_true rfl, Nat.le_of_ble_eq_true rfl⟩) (do_recv hE hP) rfl hl.1 rfl (Nat.le_of_ble_eq_true rfl) dX4_of_11 (fun rq_4 vq_4 H locs q_4 hP hS => ?_)
    have hP := hP.cast (q_4.2)
    refine lv_cast q_4.1 ?_
    exact hd_iret hx hb hr hlocks hP hS (P3.of (by first | rfl | (simp [X_of, bey, none3, bmp, c_2]; done) | (exfalso; simp_all; done) | (simp only [X_of, bey, none3, bmp, c_2, ↓reduceIte] <;> rfl)) ((sI_ne _ _ (by decide)).trans h0) ((sI_ne _ _ (by decide)).trans rfl) (sI_at _ _ _) (by decide) (by decide) (by decide) (fun k k0 k1 k6 => ((sI_ne _ _ k6).trans rfl)) rfl) dX4_of_14
set_option maxHeartbeats 4000000 in
set_option maxRecDepth 100000 in
theorem c_X4_of_5 (l : Launch) (G : Geo) (u : Sg) (M F : Nat → Int32) (h0 : u.1 0 = M) (h6 : u.1 6 = F) (hM : Wf M) (x : Int32) : CtI l G yX4_of wsX4_of (rmO 3 65) [.ref (gad G 0), .int x, .int 5] u (P3 u 0 1 6 (X_of M F x 5)) := by
  refine CtI.of (cc := cX4_of) (maxL := 4) (ret := (some .int)) (own := RX4) (by decide) rfl rfl ?_
  rintro pg ev s0 mm below meth cd ⟨hx, hb, hr, hml, hown, hts, hlocks⟩ hE hP ls hl
  have hS : va_S (gA G) s0.heap s0.heap [] := va_S.rf
  have hl : lv_has ls 4 [(0, .ref (gad G 0)), (1, .int x), (2, .int 5)] := hl
  have hin4 : ∀ w ∈ wsX40, w ∈ wsX4_of := by decide +kernel
  have hn := hM.n
  have h8 := hM.n8
  refine lv_aload_n hx hb dX4_of_0 rfl (lv_at hl 0 rfl) ?_
  refine lv_iload_n hx hb dX4_of_1 rfl (lv_at hl 1 rfl) ?_
  refine hd_callVi (As := [.int x]) (rest := []) ⟨hx, hb, hml, hown, hts⟩ hE hP hS (c_X4_isPerson l G u M h0 x) rfl (cwV 1 hts gX4_of_X4_isPerson rfl rfl rfl (by decide +kernel) ⟨Nat.le_of_ble_eq_true rfl, Nat.le_of_ble_eq_true rfl⟩) (do_recv hE hP) rfl hl.1 rfl (Nat.le_of_ble_eq_true rfl) dX4_of_2 (fun rq_1 vq_1 H locs q_1 hP hS => ?_)
  have hP := hP.cast (q_1.2)
  refine lv_cast q_1.1 ?_
  refine bo_ne (tgt := 15) hx hb dX4_of_5 (by decide) (fun c_2 => ?_) (fun c_2 => ?_)
  · skip
    obtain ⟨q, hq, rfl⟩ := pe_get hM c_2
    refine lv_iload_n hx hb dX4_of_15 rfl (lv_at hl 2 rfl) ?_
    refine lv_bipush (v := 6) hx hb dX4_of_16 (by decide) ?_
    refine lv_icmp_ne (tgt := 30) hx hb dX4_of_18 (by decide) (fun _ => ?_) (fun h => False.elim (by revert h; decide))
    refine lv_aload_n hx hb dX4_of_30 rfl (lv_at hl 0 rfl) ?_
    refine do_get hx hb hts hin4 hown hE hP rfl 0 (by decide) (hts (.fieldLink RX4 10 "HeldDoor" "scene" "LHeldDoor$Scene;") (by decide +kernel)) (v := .ref (gS G 0)) rfl dX4_of_31 ?_
    refine lv_iload_n hx hb dX4_of_34 rfl (lv_at hl 2 rfl) ?_
    refine hd_callVr (As := [.int 5]) (rest := []) ⟨hx, hb, hml, hown, hts⟩ hE hP hS (c_X1_rowOf_5 l G u 0 (by decide) M) ((sI_id h0).symm) (cwV 1 hts gX4_of_X1_rowOf rfl rfl rfl (by decide +kernel) ⟨Nat.le_of_ble_eq_true rfl, Nat.le_of_ble_eq_true rfl⟩) (sc_recv hE hP (by decide)) rfl hl.1 rfl (Nat.le_of_ble_eq_true rfl) dX4_of_35 (fun H locs hP hS => ?_)
    have hP := hP.cast ((sI_id h0).symm).symm
    refine lv_astore_n (lv' := [(3, .ref (gSA G 0 5)), (0, .ref (gad G 0)), (1, .int (nI q)), (2, .int 5)]) hx hb dX4_of_38 rfl hl (by decide) rfl (fun ls hl => ?_)
    refine lv_aload_n hx hb dX4_of_39 rfl (lv_at hl 0 rfl) ?_
    refine lv_ifnonnull (tgt := 52) hx hb dX4_of_40 (by decide) ?_
    refine lv_aload_n hx hb dX4_of_52 rfl (lv_at hl 0 rfl) ?_
    refine lv_iload_n hx hb dX4_of_53 rfl (lv_at hl 2 rfl) ?_
    refine sc_ald hx hb hE hP (by decide) h0 5 (by decide) q (by omega) dX4_of_54 ?_
    exact hd_iret hx hb hr hlocks hP hS (P3.of (by first | rfl | (simp [X_of, bey, none3, bmp, nI_clamp (show q < 2 ^ 31 by omega), c_2]; done) | (exfalso; simp_all; done) | (simp only [X_of, bey, none3, bmp, nI_clamp (show q < 2 ^ 31 by omega), c_2, ↓reduceIte] <;> rfl)) h0 rfl h6 (by decide) (by decide) (by decide) (fun k k0 k1 k6 => rfl) rfl) dX4_of_55
  · skip
    refine lv_aload_n hx hb dX4_of_8 rfl (lv_at hl 0 rfl) ?_
    refine lv_ldc (v := (-1000000001)) hx hb hown (hts (.constant RX4 55 ((-1000000001))) (by decide +kernel)) dX4_of_9 ?_
    refine hd_callVi (As := [.int (-1000000001)]) (rest := []) ⟨hx, hb, hml, hown, hts⟩ hE hP hS (c_X4_found_0 l G u F h6) rfl (cwV 1 hts gX4_of_X4_found rfl rfl rfl (by decide +kernel) ⟨Nat.le_of_ble_eq_true rfl, Nat.le_of_ble_eq_true rfl⟩) (do_recv hE hP) rfl hl.1 rfl (Nat.le_of_ble_eq_true rfl) dX4_of_11 (fun rq_4 vq_4 H locs q_4 hP hS => ?_)
    have hP := hP.cast (q_4.2)
    refine lv_cast q_4.1 ?_
    exact hd_iret hx hb hr hlocks hP hS (P3.of (by first | rfl | (simp [X_of, bey, none3, bmp, c_2]; done) | (exfalso; simp_all; done) | (simp only [X_of, bey, none3, bmp, c_2, ↓reduceIte] <;> rfl)) ((sI_ne _ _ (by decide)).trans h0) ((sI_ne _ _ (by decide)).trans rfl) (sI_at _ _ _) (by decide) (by decide) (by decide) (fun k k0 k1 k6 => ((sI_ne _ _ k6).trans rfl)) rfl) dX4_of_14
set_option maxHeartbeats 4000000 in
set_option maxRecDepth 100000 in
theorem c_X4_of_6 (l : Launch) (G : Geo) (u : Sg) (M F : Nat → Int32) (h0 : u.1 0 = M) (h6 : u.1 6 = F) (hM : Wf M) (x : Int32) : CtI l G yX4_of wsX4_of (rmO 3 65) [.ref (gad G 0), .int x, .int 6] u (P3 u 0 1 6 (X_of M F x 6)) := by
  refine CtI.of (cc := cX4_of) (maxL := 4) (ret := (some .int)) (own := RX4) (by decide) rfl rfl ?_
  rintro pg ev s0 mm below meth cd ⟨hx, hb, hr, hml, hown, hts, hlocks⟩ hE hP ls hl
  have hS : va_S (gA G) s0.heap s0.heap [] := va_S.rf
  have hl : lv_has ls 4 [(0, .ref (gad G 0)), (1, .int x), (2, .int 6)] := hl
  have hin4 : ∀ w ∈ wsX40, w ∈ wsX4_of := by decide +kernel
  have hn := hM.n
  have h8 := hM.n8
  refine lv_aload_n hx hb dX4_of_0 rfl (lv_at hl 0 rfl) ?_
  refine lv_iload_n hx hb dX4_of_1 rfl (lv_at hl 1 rfl) ?_
  refine hd_callVi (As := [.int x]) (rest := []) ⟨hx, hb, hml, hown, hts⟩ hE hP hS (c_X4_isPerson l G u M h0 x) rfl (cwV 1 hts gX4_of_X4_isPerson rfl rfl rfl (by decide +kernel) ⟨Nat.le_of_ble_eq_true rfl, Nat.le_of_ble_eq_true rfl⟩) (do_recv hE hP) rfl hl.1 rfl (Nat.le_of_ble_eq_true rfl) dX4_of_2 (fun rq_1 vq_1 H locs q_1 hP hS => ?_)
  have hP := hP.cast (q_1.2)
  refine lv_cast q_1.1 ?_
  refine bo_ne (tgt := 15) hx hb dX4_of_5 (by decide) (fun c_2 => ?_) (fun c_2 => ?_)
  · skip
    obtain ⟨q, hq, rfl⟩ := pe_get hM c_2
    refine lv_iload_n hx hb dX4_of_15 rfl (lv_at hl 2 rfl) ?_
    refine lv_bipush (v := 6) hx hb dX4_of_16 (by decide) ?_
    refine lv_icmp_ne (tgt := 30) hx hb dX4_of_18 (by decide) (fun h => False.elim (by revert h; decide)) (fun _ => ?_)
    refine lv_aload_n hx hb dX4_of_21 rfl (lv_at hl 0 rfl) ?_
    refine do_get hx hb hts hin4 hown hE hP rfl 0 (by decide) (hts (.fieldLink RX4 10 "HeldDoor" "scene" "LHeldDoor$Scene;") (by decide +kernel)) (v := .ref (gS G 0)) rfl dX4_of_22 ?_
    refine lv_iload_n hx hb dX4_of_25 rfl (lv_at hl 1 rfl) ?_
    refine hd_callVi (As := [.int (nI q)]) (rest := []) ⟨hx, hb, hml, hown, hts⟩ hE hP hS (c_X1_goesNow l G u 0 (by decide) M q (by omega)) ((sI_id h0).symm) (cwV 1 hts gX4_of_X1_goesNow rfl rfl rfl (by decide +kernel) ⟨Nat.le_of_ble_eq_true rfl, Nat.le_of_ble_eq_true rfl⟩) (sc_recv hE hP (by decide)) rfl hl.1 rfl (Nat.le_of_ble_eq_true rfl) dX4_of_26 (fun rq_3 vq_3 H locs q_3 hP hS => ?_)
    have hP := hP.cast (q_3.2.trans ((sI_id h0).symm).symm)
    refine lv_cast q_3.1 ?_
    exact hd_iret hx hb hr hlocks hP hS (P3.of (by first | rfl | (simp [X_of, bey, none3, bmp, nI_clamp (show q < 2 ^ 31 by omega), c_2]; done) | (exfalso; simp_all; done) | (simp only [X_of, bey, none3, bmp, nI_clamp (show q < 2 ^ 31 by omega), c_2, ↓reduceIte] <;> rfl)) h0 rfl h6 (by decide) (by decide) (by decide) (fun k k0 k1 k6 => rfl) rfl) dX4_of_29
  · skip
    refine lv_aload_n hx hb dX4_of_8 rfl (lv_at hl 0 rfl) ?_
    refine lv_ldc (v := (-1000000001)) hx hb hown (hts (.constant RX4 55 ((-1000000001))) (by decide +kernel)) dX4_of_9 ?_
    refine hd_callVi (As := [.int (-1000000001)]) (rest := []) ⟨hx, hb, hml, hown, hts⟩ hE hP hS (c_X4_found_0 l G u F h6) rfl (cwV 1 hts gX4_of_X4_found rfl rfl rfl (by decide +kernel) ⟨Nat.le_of_ble_eq_true rfl, Nat.le_of_ble_eq_true rfl⟩) (do_recv hE hP) rfl hl.1 rfl (Nat.le_of_ble_eq_true rfl) dX4_of_11 (fun rq_4 vq_4 H locs q_4 hP hS => ?_)
    have hP := hP.cast (q_4.2)
    refine lv_cast q_4.1 ?_
    exact hd_iret hx hb hr hlocks hP hS (P3.of (by first | rfl | (simp [X_of, bey, none3, bmp, c_2]; done) | (exfalso; simp_all; done) | (simp only [X_of, bey, none3, bmp, c_2, ↓reduceIte] <;> rfl)) ((sI_ne _ _ (by decide)).trans h0) ((sI_ne _ _ (by decide)).trans rfl) (sI_at _ _ _) (by decide) (by decide) (by decide) (fun k k0 k1 k6 => ((sI_ne _ _ k6).trans rfl)) rfl) dX4_of_14
set_option maxHeartbeats 4000000 in
set_option maxRecDepth 100000 in
theorem c_X4_of_o (l : Launch) (G : Geo) (u : Sg) (M F : Nat → Int32) (h0 : u.1 0 = M) (h6 : u.1 6 = F) (hM : Wf M) (x : Int32) (w : Int32) (h_0 : ¬ w = 0) (h_1 : ¬ w = 1) (h_2 : ¬ w = 2) (h_3 : ¬ w = 3) (h_4 : ¬ w = 4) (h_5 : ¬ w = 5) (h_6 : ¬ w = 6) : CtI l G yX4_of wsX4_of (rmO 3 65) [.ref (gad G 0), .int x, .int w] u (P3 u 0 1 6 (X_of M F x w)) := by
  refine CtI.of (cc := cX4_of) (maxL := 4) (ret := (some .int)) (own := RX4) (by decide) rfl rfl ?_
  rintro pg ev s0 mm below meth cd ⟨hx, hb, hr, hml, hown, hts, hlocks⟩ hE hP ls hl
  have hS : va_S (gA G) s0.heap s0.heap [] := va_S.rf
  have hl : lv_has ls 4 [(0, .ref (gad G 0)), (1, .int x), (2, .int w)] := hl
  have hin4 : ∀ w ∈ wsX40, w ∈ wsX4_of := by decide +kernel
  have hn := hM.n
  have h8 := hM.n8
  refine lv_aload_n hx hb dX4_of_0 rfl (lv_at hl 0 rfl) ?_
  refine lv_iload_n hx hb dX4_of_1 rfl (lv_at hl 1 rfl) ?_
  refine hd_callVi (As := [.int x]) (rest := []) ⟨hx, hb, hml, hown, hts⟩ hE hP hS (c_X4_isPerson l G u M h0 x) rfl (cwV 1 hts gX4_of_X4_isPerson rfl rfl rfl (by decide +kernel) ⟨Nat.le_of_ble_eq_true rfl, Nat.le_of_ble_eq_true rfl⟩) (do_recv hE hP) rfl hl.1 rfl (Nat.le_of_ble_eq_true rfl) dX4_of_2 (fun rq_1 vq_1 H locs q_1 hP hS => ?_)
  have hP := hP.cast (q_1.2)
  refine lv_cast q_1.1 ?_
  refine bo_ne (tgt := 15) hx hb dX4_of_5 (by decide) (fun c_2 => ?_) (fun c_2 => ?_)
  · skip
    obtain ⟨q, hq, rfl⟩ := pe_get hM c_2
    refine lv_iload_n hx hb dX4_of_15 rfl (lv_at hl 2 rfl) ?_
    refine lv_bipush (v := 6) hx hb dX4_of_16 (by decide) ?_
    refine lv_icmp_ne (tgt := 30) hx hb dX4_of_18 (by decide) (fun c_3 => ?_) (fun c_3 => absurd c_3 h_6)
    refine lv_aload_n hx hb dX4_of_30 rfl (lv_at hl 0 rfl) ?_
    refine do_get hx hb hts hin4 hown hE hP rfl 0 (by decide) (hts (.fieldLink RX4 10 "HeldDoor" "scene" "LHeldDoor$Scene;") (by decide +kernel)) (v := .ref (gS G 0)) rfl dX4_of_31 ?_
    refine lv_iload_n hx hb dX4_of_34 rfl (lv_at hl 2 rfl) ?_
    refine hd_callVn (As := [.int w]) (rest := []) ⟨hx, hb, hml, hown, hts⟩ hE hP hS (c_X1_rowOf_n l G u 0 (by decide) M w h_0 h_1 h_2 h_3 h_4 h_5) ((sI_id h0).symm) (cwV 1 hts gX4_of_X1_rowOf rfl rfl rfl (by decide +kernel) ⟨Nat.le_of_ble_eq_true rfl, Nat.le_of_ble_eq_true rfl⟩) (sc_recv hE hP (by decide)) rfl hl.1 rfl (Nat.le_of_ble_eq_true rfl) dX4_of_35 (fun H locs hP hS => ?_)
    have hP := hP.cast ((sI_id h0).symm).symm
    refine lv_astore_nN (lv' := [(3, .null), (0, .ref (gad G 0)), (1, .int (nI q)), (2, .int w)]) hx hb dX4_of_38 rfl hl (by decide) rfl (fun ls hl => ?_)
    refine lv_aload_nN hx hb dX4_of_39 rfl (lv_at hl 0 rfl) ?_
    refine lv_ifnonnullN hx hb dX4_of_40 ?_
    refine lv_aload_n hx hb dX4_of_43 rfl (lv_at hl 1 rfl) ?_
    refine lv_ldc (v := (-1000000001)) hx hb hown (hts (.constant RX4 55 ((-1000000001))) (by decide +kernel)) dX4_of_44 ?_
    refine hd_callVi (As := [.int (-1000000001)]) (rest := []) ⟨hx, hb, hml, hown, hts⟩ hE hP hS (c_X4_found_0 l G u F h6) rfl (cwV 1 hts gX4_of_X4_found rfl rfl rfl (by decide +kernel) ⟨Nat.le_of_ble_eq_true rfl, Nat.le_of_ble_eq_true rfl⟩) (do_recv hE hP) rfl hl.1 rfl (Nat.le_of_ble_eq_true rfl) dX4_of_46 (fun rq_5 vq_5 H locs q_5 hP hS => ?_)
    have hP := hP.cast (q_5.2)
    refine lv_cast q_5.1 ?_
    refine lv_goto (tgt := 55) hx hb dX4_of_49 (by decide) ?_
    exact hd_iret hx hb hr hlocks hP hS (P3.of (by first | rfl | (simp [X_of, h_0, h_1, h_2, h_3, h_4, h_5, h_6, bey, none3, bmp, nI_clamp (show q < 2 ^ 31 by omega), c_2, c_3]; done) | (exfalso; simp_all; done) | (simp only [X_of, h_0, h_1, h_2, h_3, h_4, h_5, h_6, bey, none3, bmp, nI_clamp (show q < 2 ^ 31 by omega), c_2, c_3, ↓reduceIte] <;> rfl)) ((sI_ne _ _ (by decide)).trans h0) ((sI_ne _ _ (by decide)).trans rfl) (sI_at _ _ _) (by decide) (by decide) (by decide) (fun k k0 k1 k6 => ((sI_ne _ _ k6).trans rfl)) rfl) dX4_of_55
  · skip
    refine lv_aload_n hx hb dX4_of_8 rfl (lv_at hl 0 rfl) ?_
    refine lv_ldc (v := (-1000000001)) hx hb hown (hts (.constant RX4 55 ((-1000000001))) (by decide +kernel)) dX4_of_9 ?_
    refine hd_callVi (As := [.int (-1000000001)]) (rest := []) ⟨hx, hb, hml, hown, hts⟩ hE hP hS (c_X4_found_0 l G u F h6) rfl (cwV 1 hts gX4_of_X4_found rfl rfl rfl (by decide +kernel) ⟨Nat.le_of_ble_eq_true rfl, Nat.le_of_ble_eq_true rfl⟩) (do_recv hE hP) rfl hl.1 rfl (Nat.le_of_ble_eq_true rfl) dX4_of_11 (fun rq_6 vq_6 H locs q_6 hP hS => ?_)
    have hP := hP.cast (q_6.2)
    refine lv_cast q_6.1 ?_
    exact hd_iret hx hb hr hlocks hP hS (P3.of (by first | rfl | (simp [X_of, h_0, h_1, h_2, h_3, h_4, h_5, h_6, bey, none3, bmp, c_2]; done) | (exfalso; simp_all; done) | (simp only [X_of, h_0, h_1, h_2, h_3, h_4, h_5, h_6, bey, none3, bmp, c_2, ↓reduceIte] <;> rfl)) ((sI_ne _ _ (by decide)).trans h0) ((sI_ne _ _ (by decide)).trans rfl) (sI_at _ _ _) (by decide) (by decide) (by decide) (fun k k0 k1 k6 => ((sI_ne _ _ k6).trans rfl)) rfl) dX4_of_14
theorem c_X4_of (l : Launch) (G : Geo) (u : Sg) (M F : Nat → Int32) (h0 : u.1 0 = M) (h6 : u.1 6 = F) (hM : Wf M) (x : Int32) (w : Int32) : CtI l G yX4_of wsX4_of (rmO 3 65) [.ref (gad G 0), .int x, .int w] u (P3 u 0 1 6 (X_of M F x w)) := by
  by_cases h_0 : w = 0
  · subst h_0; exact c_X4_of_0 l G u M F h0 h6 hM x
  by_cases h_1 : w = 1
  · subst h_1; exact c_X4_of_1 l G u M F h0 h6 hM x
  by_cases h_2 : w = 2
  · subst h_2; exact c_X4_of_2 l G u M F h0 h6 hM x
  by_cases h_3 : w = 3
  · subst h_3; exact c_X4_of_3 l G u M F h0 h6 hM x
  by_cases h_4 : w = 4
  · subst h_4; exact c_X4_of_4 l G u M F h0 h6 hM x
  by_cases h_5 : w = 5
  · subst h_5; exact c_X4_of_5 l G u M F h0 h6 hM x
  by_cases h_6 : w = 6
  · subst h_6; exact c_X4_of_6 l G u M F h0 h6 hM x
  exact c_X4_of_o l G u M F h0 h6 hM x w h_0 h_1 h_2 h_3 h_4 h_5 h_6
set_option maxHeartbeats 4000000 in
set_option maxRecDepth 100000 in
theorem c_X4_set_0 (l : Launch) (G : Geo) (u : Sg) (M F : Nat → Int32) (h0 : u.1 0 = M) (h6 : u.1 6 = F) (hM : Wf M) (x : Int32)  (z : Int32) : CtI l G yX4_set wsX4_set (rmO 2 44) [.ref (gad G 0), .int x, .int 0, .int z] u (P3 u 0 1 6 (X_set M F x 0 z)) := by
  refine CtI.of (cc := cX4_set) (maxL := 6) (ret := (some .int)) (own := RX4) (by decide) rfl rfl ?_
  rintro pg ev s0 mm below meth cd ⟨hx, hb, hr, hml, hown, hts, hlocks⟩ hE hP ls hl
  have hS : va_S (gA G) s0.heap s0.heap [] := va_S.rf
  have hl : lv_has ls 6 [(0, .ref (gad G 0)), (1, .int x), (2, .int 0), (3, .int z)] := hl
  have hin4 : ∀ w ∈ wsX40, w ∈ wsX4_set := by decide +kernel
  have hn := hM.n
  have h8 := hM.n8
  refine lv_aload_n hx hb dX4_set_0 rfl (lv_at hl 0 rfl) ?_
  refine do_get hx hb hts hin4 hown hE hP rfl 0 (by decide) (hts (.fieldLink RX4 10 "HeldDoor" "scene" "LHeldDoor$Scene;") (by decide +kernel)) (v := .ref (gS G 0)) rfl dX4_set_1 ?_
  refine lv_iload_n hx hb dX4_set_4 rfl (lv_at hl 2 rfl) ?_
  refine hd_callVr (As := [.int 0]) (rest := []) ⟨hx, hb, hml, hown, hts⟩ hE hP hS (c_X1_rowOf_0 l G u 0 (by decide) M) ((sI_id h0).symm) (cwV 1 hts gX4_set_X1_rowOf rfl rfl rfl (by decide +kernel) ⟨Nat.le_of_ble_eq_true rfl, Nat.le_of_ble_eq_true rfl⟩) (sc_recv hE hP (by decide)) rfl hl.1 rfl (Nat.le_of_ble_eq_true rfl) dX4_set_5 (fun H locs hP hS => ?_)
  have hP := hP.cast ((sI_id h0).symm).symm
  refine lv_astore (lv' := [(4, .ref (gSA G 0 0)), (0, .ref (gad G 0)), (1, .int x), (2, .int 0), (3, .int z)]) hx hb dX4_set_8 hl (by decide) rfl (fun ls hl => ?_)
  refine lv_aload_n hx hb dX4_set_10 rfl (lv_at hl 1 rfl) ?_
  refine lv_iload_n hx hb dX4_set_11 rfl (lv_at hl 2 rfl) ?_
  refine hd_callVi (As := [.int x]) (rest := []) ⟨hx, hb, hml, hown, hts⟩ hE hP hS (c_X4_isPerson l G u M h0 x) rfl (cwV 1 hts gX4_set_X4_isPerson rfl rfl rfl (by decide +kernel) ⟨Nat.le_of_ble_eq_true rfl, Nat.le_of_ble_eq_true rfl⟩) (do_recv hE hP) rfl hl.1 rfl (Nat.le_of_ble_eq_true rfl) dX4_set_12 (fun rq_2 vq_2 H locs q_2 hP hS => ?_)
  have hP := hP.cast (q_2.2)
  refine lv_cast q_2.1 ?_
  refine bo_eq (tgt := 39) hx hb dX4_set_15 (by decide) (fun c_3 => ?_) (fun c_3 => ?_)
  · skip
    refine lv_aload_n hx hb dX4_set_39 rfl (lv_at hl 1 rfl) ?_
    refine lv_ldc (v := (-1000000001)) hx hb hown (hts (.constant RX4 55 ((-1000000001))) (by decide +kernel)) dX4_set_40 ?_
    refine hd_callVi (As := [.int (-1000000001)]) (rest := []) ⟨hx, hb, hml, hown, hts⟩ hE hP hS (c_X4_found_0 l G u F h6) rfl (cwV 1 hts gX4_set_X4_found rfl rfl rfl (by decide +kernel) ⟨Nat.le_of_ble_eq_true rfl, Nat.le_of_ble_eq_true rfl⟩) (do_recv hE hP) rfl hl.1 rfl (Nat.le_of_ble_eq_true rfl) dX4_set_42 (fun rq_4 vq_4 H locs q_4 hP hS => ?_)
    have hP := hP.cast (q_4.2)
    refine lv_cast q_4.1 ?_
    exact hd_iret hx hb hr hlocks hP hS (P3.of (by first | rfl | (simp [X_set, bey, none3, bmp, c_3]; done) | (exfalso; simp_all; done) | (simp only [X_set, bey, none3, bmp, c_3, ↓reduceIte] <;> rfl)) ((sI_ne _ _ (by decide)).trans h0) ((sI_ne _ _ (by decide)).trans rfl) (sI_at _ _ _) (by decide) (by decide) (by decide) (fun k k0 k1 k6 => ((sI_ne _ _ k6).trans rfl)) rfl) dX4_set_45
  · skip
    obtain ⟨q, hq, rfl⟩ := pe_get hM c_3
    refine lv_aload hx hb dX4_set_18 (lv_at hl 0 rfl) ?_
    refine lv_ifnull hx hb dX4_set_20 ?_
    refine lv_iload_n hx hb dX4_set_23 rfl (lv_at hl 3 rfl) ?_
    refine lv_if_eq (tgt := 39) hx hb dX4_set_24 (by decide) (fun _ => ?_) (fun h => False.elim (by revert h; decide))
    refine lv_aload_n hx hb dX4_set_39 rfl (lv_at hl 1 rfl) ?_
    refine lv_ldc (v := (-1000000001)) hx hb hown (hts (.constant RX4 55 ((-1000000001))) (by decide +kernel)) dX4_set_40 ?_
    refine hd_callVi (As := [.int (-1000000001)]) (rest := []) ⟨hx, hb, hml, hown, hts⟩ hE hP hS (c_X4_found_0 l G u F h6) rfl (cwV 1 hts gX4_set_X4_found rfl rfl rfl (by decide +kernel) ⟨Nat.le_of_ble_eq_true rfl, Nat.le_of_ble_eq_true rfl⟩) (do_recv hE hP) rfl hl.1 rfl (Nat.le_of_ble_eq_true rfl) dX4_set_42 (fun rq_5 vq_5 H locs q_5 hP hS => ?_)
    have hP := hP.cast (q_5.2)
    refine lv_cast q_5.1 ?_
    exact hd_iret hx hb hr hlocks hP hS (P3.of (by first | rfl | (simp [X_set, bey, none3, bmp, nI_clamp (show q < 2 ^ 31 by omega), c_3]; done) | (exfalso; simp_all; done) | (simp only [X_set, bey, none3, bmp, nI_clamp (show q < 2 ^ 31 by omega), c_3, ↓reduceIte] <;> rfl)) ((sI_ne _ _ (by decide)).trans h0) ((sI_ne _ _ (by decide)).trans rfl) (sI_at _ _ _) (by decide) (by decide) (by decide) (fun k k0 k1 k6 => ((sI_ne _ _ k6).trans rfl)) rfl) dX4_set_45
set_option maxHeartbeats 4000000 in
set_option maxRecDepth 100000 in
theorem c_X4_set_1 (l : Launch) (G : Geo) (u : Sg) (M F : Nat → Int32) (h0 : u.1 0 = M) (h6 : u.1 6 = F) (hM : Wf M) (x : Int32)  (z : Int32) : CtI l G yX4_set wsX4_set (rmO 2 44) [.ref (gad G 0), .int x, .int 1, .int z] u (P3 u 0 1 6 (X_set M F x 1 z)) := by
  refine CtI.of (cc := cX4_set) (maxL := 6) (ret := (some .int)) (own := RX4) (by decide) rfl rfl ?_
  rintro pg ev s0 mm below meth cd ⟨hx, hb, hr, hml, hown, hts, hlocks⟩ hE hP ls hl
  have hS : va_S (gA G) s0.heap s0.heap [] := va_S.rf
  have hl : lv_has ls 6 [(0, .ref (gad G 0)), (1, .int x), (2, .int 1), (3, .int z)] := hl
  have hin4 : ∀ w ∈ wsX40, w ∈ wsX4_set := by decide +kernel
  have hn := hM.n
  have h8 := hM.n8
  refine lv_aload_n hx hb dX4_set_0 rfl (lv_at hl 0 rfl) ?_
  refine do_get hx hb hts hin4 hown hE hP rfl 0 (by decide) (hts (.fieldLink RX4 10 "HeldDoor" "scene" "LHeldDoor$Scene;") (by decide +kernel)) (v := .ref (gS G 0)) rfl dX4_set_1 ?_
  refine lv_iload_n hx hb dX4_set_4 rfl (lv_at hl 2 rfl) ?_
  refine hd_callVr (As := [.int 1]) (rest := []) ⟨hx, hb, hml, hown, hts⟩ hE hP hS (c_X1_rowOf_1 l G u 0 (by decide) M) ((sI_id h0).symm) (cwV 1 hts gX4_set_X1_rowOf rfl rfl rfl (by decide +kernel) ⟨Nat.le_of_ble_eq_true rfl, Nat.le_of_ble_eq_true rfl⟩) (sc_recv hE hP (by decide)) rfl hl.1 rfl (Nat.le_of_ble_eq_true rfl) dX4_set_5 (fun H locs hP hS => ?_)
  have hP := hP.cast ((sI_id h0).symm).symm
  refine lv_astore (lv' := [(4, .ref (gSA G 0 1)), (0, .ref (gad G 0)), (1, .int x), (2, .int 1), (3, .int z)]) hx hb dX4_set_8 hl (by decide) rfl (fun ls hl => ?_)
  refine lv_aload_n hx hb dX4_set_10 rfl (lv_at hl 1 rfl) ?_
  refine lv_iload_n hx hb dX4_set_11 rfl (lv_at hl 2 rfl) ?_
  refine hd_callVi (As := [.int x]) (rest := []) ⟨hx, hb, hml, hown, hts⟩ hE hP hS (c_X4_isPerson l G u M h0 x) rfl (cwV 1 hts gX4_set_X4_isPerson rfl rfl rfl (by decide +kernel) ⟨Nat.le_of_ble_eq_true rfl, Nat.le_of_ble_eq_true rfl⟩) (do_recv hE hP) rfl hl.1 rfl (Nat.le_of_ble_eq_true rfl) dX4_set_12 (fun rq_2 vq_2 H locs q_2 hP hS => ?_)
  have hP := hP.cast (q_2.2)
  refine lv_cast q_2.1 ?_
  refine bo_eq (tgt := 39) hx hb dX4_set_15 (by decide) (fun c_3 => ?_) (fun c_3 => ?_)
  · skip
    refine lv_aload_n hx hb dX4_set_39 rfl (lv_at hl 1 rfl) ?_
    refine lv_ldc (v := (-1000000001)) hx hb hown (hts (.constant RX4 55 ((-1000000001))) (by decide +kernel)) dX4_set_40 ?_
    refine hd_callVi (As := [.int (-1000000001)]) (rest := []) ⟨hx, hb, hml, hown, hts⟩ hE hP hS (c_X4_found_0 l G u F h6) rfl (cwV 1 hts gX4_set_X4_found rfl rfl rfl (by decide +kernel) ⟨Nat.le_of_ble_eq_true rfl, Nat.le_of_ble_eq_true rfl⟩) (do_recv hE hP) rfl hl.1 rfl (Nat.le_of_ble_eq_true rfl) dX4_set_42 (fun rq_4 vq_4 H locs q_4 hP hS => ?_)
    have hP := hP.cast (q_4.2)
    refine lv_cast q_4.1 ?_
    exact hd_iret hx hb hr hlocks hP hS (P3.of (by first | rfl | (simp [X_set, bey, none3, bmp, c_3]; done) | (exfalso; simp_all; done) | (simp only [X_set, bey, none3, bmp, c_3, ↓reduceIte] <;> rfl)) ((sI_ne _ _ (by decide)).trans h0) ((sI_ne _ _ (by decide)).trans rfl) (sI_at _ _ _) (by decide) (by decide) (by decide) (fun k k0 k1 k6 => ((sI_ne _ _ k6).trans rfl)) rfl) dX4_set_45
  · skip
    obtain ⟨q, hq, rfl⟩ := pe_get hM c_3
    refine lv_aload hx hb dX4_set_18 (lv_at hl 0 rfl) ?_
    refine lv_ifnull hx hb dX4_set_20 ?_
    refine lv_iload_n hx hb dX4_set_23 rfl (lv_at hl 3 rfl) ?_
    refine lv_if_eq (tgt := 39) hx hb dX4_set_24 (by decide) (fun h => False.elim (by revert h; decide)) (fun _ => ?_)
    refine lv_iconst (v := 0) hx hb dX4_set_27 (by decide) ?_
    refine lv_iload_n hx hb dX4_set_28 rfl (lv_at hl 3 rfl) ?_
    refine hd_callSi (As := [.int 1]) (rest := [.int 0]) ⟨hx, hb, hml, hown, hts⟩ hE hP hS (c_X4_mostOf l G u 1) rfl (va_cwS 1 hts gX4_set_X4_mostOf rfl rfl rfl (by decide +kernel) ⟨Nat.le_of_ble_eq_true rfl, Nat.le_of_ble_eq_true rfl⟩) rfl hl.1 rfl (Nat.le_of_ble_eq_true rfl) dX4_set_29 (fun rq_5 vq_5 H locs q_5 hP hS => ?_)
    have hP := hP.cast (q_5.2)
    refine lv_cast q_5.1 ?_
    refine lv_cast (y := 1) (by decide) ?_
    refine lv_iload_n hx hb dX4_set_32 rfl (lv_at hl 4 rfl) ?_
    refine hd_callSi (As := [.int 0, .int 1, .int z]) (rest := []) ⟨hx, hb, hml, hown, hts⟩ hE hP hS (c_X4_isFrom l G u 0 1 z) rfl (va_cwS 3 hts gX4_set_X4_isFrom rfl rfl rfl (by decide +kernel) ⟨Nat.le_of_ble_eq_true rfl, Nat.le_of_ble_eq_true rfl⟩) rfl hl.1 rfl (Nat.le_of_ble_eq_true rfl) dX4_set_33 (fun rq_6 vq_6 H locs q_6 hP hS => ?_)
    have hP := hP.cast (q_6.2)
    refine lv_cast q_6.1 ?_
    refine bo_ne (tgt := 46) hx hb dX4_set_36 (by decide) (fun c_7 => ?_) (fun c_7 => ?_)
    · skip
      refine lv_aload hx hb dX4_set_46 (lv_at hl 0 rfl) ?_
      refine lv_iload_n hx hb dX4_set_48 rfl (lv_at hl 2 rfl) ?_
      refine sc_ald hx hb hE hP (by decide) h0 1 (by decide) q (by omega) dX4_set_49 ?_
      refine lv_istore (lv' := [(5, .int (M (5 + 6 * q + 1))), (4, .ref (gSA G 0 1)), (0, .ref (gad G 0)), (1, .int (nI q)), (2, .int 1), (3, .int z)]) hx hb dX4_set_50 hl (by decide) rfl (fun ls hl => ?_)
      refine lv_aload hx hb dX4_set_52 (lv_at hl 1 rfl) ?_
      refine lv_iload_n hx hb dX4_set_54 rfl (lv_at hl 3 rfl) ?_
      refine lv_iload_n hx hb dX4_set_55 rfl (lv_at hl 5 rfl) ?_
      refine sc_ast hx hb hE hP hS (by decide) h0 1 (by decide) q (by omega) rfl dX4_set_56 (fun H locs hP hS => ?_)
      refine lv_iload hx hb dX4_set_57 (lv_at hl 0 rfl) ?_
      exact hd_iret hx hb hr hlocks hP hS (P3.of (by first | rfl | (simp [X_set, bey, none3, bmp, nI_clamp (show q < 2 ^ 31 by omega), c_3, c_7]; done) | (exfalso; simp_all; done) | (simp only [X_set, bey, none3, bmp, nI_clamp (show q < 2 ^ 31 by omega), c_3, c_7, ↓reduceIte] <;> rfl)) (sI_at _ _ _) ((sI_ne _ _ (by decide)).trans rfl) ((sI_ne _ _ (by decide)).trans h6) (by decide) (by decide) (by decide) (fun k k0 k1 k6 => ((sI_ne _ _ k0).trans rfl)) rfl) dX4_set_59
    · skip
      refine lv_aload_n hx hb dX4_set_39 rfl (lv_at hl 1 rfl) ?_
      refine lv_ldc (v := (-1000000001)) hx hb hown (hts (.constant RX4 55 ((-1000000001))) (by decide +kernel)) dX4_set_40 ?_
      refine hd_callVi (As := [.int (-1000000001)]) (rest := []) ⟨hx, hb, hml, hown, hts⟩ hE hP hS (c_X4_found_0 l G u F h6) rfl (cwV 1 hts gX4_set_X4_found rfl rfl rfl (by decide +kernel) ⟨Nat.le_of_ble_eq_true rfl, Nat.le_of_ble_eq_true rfl⟩) (do_recv hE hP) rfl hl.1 rfl (Nat.le_of_ble_eq_true rfl) dX4_set_42 (fun rq_8 vq_8 H locs q_8 hP hS => ?_)
      have hP := hP.cast (q_8.2)
      refine lv_cast q_8.1 ?_
      exact hd_iret hx hb hr hlocks hP hS (P3.of (by first | rfl | (simp [X_set, bey, none3, bmp, nI_clamp (show q < 2 ^ 31 by omega), c_3, c_7]; done) | (exfalso; simp_all; done) | (simp only [X_set, bey, none3, bmp, nI_clamp (show q < 2 ^ 31 by omega), c_3, c_7, ↓reduceIte] <;> rfl)) ((sI_ne _ _ (by decide)).trans h0) ((sI_ne _ _ (by decide)).trans rfl) (sI_at _ _ _) (by decide) (by decide) (by decide) (fun k k0 k1 k6 => ((sI_ne _ _ k6).trans rfl)) rfl) dX4_set_45
set_option maxHeartbeats 4000000 in
set_option maxRecDepth 100000 in
theorem c_X4_set_2 (l : Launch) (G : Geo) (u : Sg) (M F : Nat → Int32) (h0 : u.1 0 = M) (h6 : u.1 6 = F) (hM : Wf M) (x : Int32)  (z : Int32) : CtI l G yX4_set wsX4_set (rmO 2 44) [.ref (gad G 0), .int x, .int 2, .int z] u (P3 u 0 1 6 (X_set M F x 2 z)) := by
  refine CtI.of (cc := cX4_set) (maxL := 6) (ret := (some .int)) (own := RX4) (by decide) rfl rfl ?_
  rintro pg ev s0 mm below meth cd ⟨hx, hb, hr, hml, hown, hts, hlocks⟩ hE hP ls hl
  have hS : va_S (gA G) s0.heap s0.heap [] := va_S.rf
  have hl : lv_has ls 6 [(0, .ref (gad G 0)), (1, .int x), (2, .int 2), (3, .int z)] := hl
  have hin4 : ∀ w ∈ wsX40, w ∈ wsX4_set := by decide +kernel
  have hn := hM.n
  have h8 := hM.n8
  refine lv_aload_n hx hb dX4_set_0 rfl (lv_at hl 0 rfl) ?_
  refine do_get hx hb hts hin4 hown hE hP rfl 0 (by decide) (hts (.fieldLink RX4 10 "HeldDoor" "scene" "LHeldDoor$Scene;") (by decide +kernel)) (v := .ref (gS G 0)) rfl dX4_set_1 ?_
  refine lv_iload_n hx hb dX4_set_4 rfl (lv_at hl 2 rfl) ?_
  refine hd_callVr (As := [.int 2]) (rest := []) ⟨hx, hb, hml, hown, hts⟩ hE hP hS (c_X1_rowOf_2 l G u 0 (by decide) M) ((sI_id h0).symm) (cwV 1 hts gX4_set_X1_rowOf rfl rfl rfl (by decide +kernel) ⟨Nat.le_of_ble_eq_true rfl, Nat.le_of_ble_eq_true rfl⟩) (sc_recv hE hP (by decide)) rfl hl.1 rfl (Nat.le_of_ble_eq_true rfl) dX4_set_5 (fun H locs hP hS => ?_)
  have hP := hP.cast ((sI_id h0).symm).symm
  refine lv_astore (lv' := [(4, .ref (gSA G 0 2)), (0, .ref (gad G 0)), (1, .int x), (2, .int 2), (3, .int z)]) hx hb dX4_set_8 hl (by decide) rfl (fun ls hl => ?_)
  refine lv_aload_n hx hb dX4_set_10 rfl (lv_at hl 1 rfl) ?_
  refine lv_iload_n hx hb dX4_set_11 rfl (lv_at hl 2 rfl) ?_
  refine hd_callVi (As := [.int x]) (rest := []) ⟨hx, hb, hml, hown, hts⟩ hE hP hS (c_X4_isPerson l G u M h0 x) rfl (cwV 1 hts gX4_set_X4_isPerson rfl rfl rfl (by decide +kernel) ⟨Nat.le_of_ble_eq_true rfl, Nat.le_of_ble_eq_true rfl⟩) (do_recv hE hP) rfl hl.1 rfl (Nat.le_of_ble_eq_true rfl) dX4_set_12 (fun rq_2 vq_2 H locs q_2 hP hS => ?_)
  have hP := hP.cast (q_2.2)
  refine lv_cast q_2.1 ?_
  refine bo_eq (tgt := 39) hx hb dX4_set_15 (by decide) (fun c_3 => ?_) (fun c_3 => ?_)
  · skip
    refine lv_aload_n hx hb dX4_set_39 rfl (lv_at hl 1 rfl) ?_
    refine lv_ldc (v := (-1000000001)) hx hb hown (hts (.constant RX4 55 ((-1000000001))) (by decide +kernel)) dX4_set_40 ?_
    refine hd_callVi (As := [.int (-1000000001)]) (rest := []) ⟨hx, hb, hml, hown, hts⟩ hE hP hS (c_X4_found_0 l G u F h6) rfl (cwV 1 hts gX4_set_X4_found rfl rfl rfl (by decide +kernel) ⟨Nat.le_of_ble_eq_true rfl, Nat.le_of_ble_eq_true rfl⟩) (do_recv hE hP) rfl hl.1 rfl (Nat.le_of_ble_eq_true rfl) dX4_set_42 (fun rq_4 vq_4 H locs q_4 hP hS => ?_)
    have hP := hP.cast (q_4.2)
    refine lv_cast q_4.1 ?_
    exact hd_iret hx hb hr hlocks hP hS (P3.of (by first | rfl | (simp [X_set, bey, none3, bmp, c_3]; done) | (exfalso; simp_all; done) | (simp only [X_set, bey, none3, bmp, c_3, ↓reduceIte] <;> rfl)) ((sI_ne _ _ (by decide)).trans h0) ((sI_ne _ _ (by decide)).trans rfl) (sI_at _ _ _) (by decide) (by decide) (by decide) (fun k k0 k1 k6 => ((sI_ne _ _ k6).trans rfl)) rfl) dX4_set_45
  · skip
    obtain ⟨q, hq, rfl⟩ := pe_get hM c_3
    refine lv_aload hx hb dX4_set_18 (lv_at hl 0 rfl) ?_
    refine lv_ifnull hx hb dX4_set_20 ?_
    refine lv_iload_n hx hb dX4_set_23 rfl (lv_at hl 3 rfl) ?_
    refine lv_if_eq (tgt := 39) hx hb dX4_set_24 (by decide) (fun h => False.elim (by revert h; decide)) (fun _ => ?_)
    refine lv_iconst (v := 0) hx hb dX4_set_27 (by decide) ?_
    refine lv_iload_n hx hb dX4_set_28 rfl (lv_at hl 3 rfl) ?_
    refine hd_callSi (As := [.int 2]) (rest := [.int 0]) ⟨hx, hb, hml, hown, hts⟩ hE hP hS (c_X4_mostOf l G u 2) rfl (va_cwS 1 hts gX4_set_X4_mostOf rfl rfl rfl (by decide +kernel) ⟨Nat.le_of_ble_eq_true rfl, Nat.le_of_ble_eq_true rfl⟩) rfl hl.1 rfl (Nat.le_of_ble_eq_true rfl) dX4_set_29 (fun rq_5 vq_5 H locs q_5 hP hS => ?_)
    have hP := hP.cast (q_5.2)
    refine lv_cast q_5.1 ?_
    refine lv_cast (y := 9) (by decide) ?_
    refine lv_iload_n hx hb dX4_set_32 rfl (lv_at hl 4 rfl) ?_
    refine hd_callSi (As := [.int 0, .int 9, .int z]) (rest := []) ⟨hx, hb, hml, hown, hts⟩ hE hP hS (c_X4_isFrom l G u 0 9 z) rfl (va_cwS 3 hts gX4_set_X4_isFrom rfl rfl rfl (by decide +kernel) ⟨Nat.le_of_ble_eq_true rfl, Nat.le_of_ble_eq_true rfl⟩) rfl hl.1 rfl (Nat.le_of_ble_eq_true rfl) dX4_set_33 (fun rq_6 vq_6 H locs q_6 hP hS => ?_)
    have hP := hP.cast (q_6.2)
    refine lv_cast q_6.1 ?_
    refine bo_ne (tgt := 46) hx hb dX4_set_36 (by decide) (fun c_7 => ?_) (fun c_7 => ?_)
    · skip
      refine lv_aload hx hb dX4_set_46 (lv_at hl 0 rfl) ?_
      refine lv_iload_n hx hb dX4_set_48 rfl (lv_at hl 2 rfl) ?_
      refine sc_ald hx hb hE hP (by decide) h0 2 (by decide) q (by omega) dX4_set_49 ?_
      refine lv_istore (lv' := [(5, .int (M (5 + 6 * q + 2))), (4, .ref (gSA G 0 2)), (0, .ref (gad G 0)), (1, .int (nI q)), (2, .int 2), (3, .int z)]) hx hb dX4_set_50 hl (by decide) rfl (fun ls hl => ?_)
      refine lv_aload hx hb dX4_set_52 (lv_at hl 1 rfl) ?_
      refine lv_iload_n hx hb dX4_set_54 rfl (lv_at hl 3 rfl) ?_
      refine lv_iload_n hx hb dX4_set_55 rfl (lv_at hl 5 rfl) ?_
      refine sc_ast hx hb hE hP hS (by decide) h0 2 (by decide) q (by omega) rfl dX4_set_56 (fun H locs hP hS => ?_)
      refine lv_iload hx hb dX4_set_57 (lv_at hl 0 rfl) ?_
      exact hd_iret hx hb hr hlocks hP hS (P3.of (by first | rfl | (simp [X_set, bey, none3, bmp, nI_clamp (show q < 2 ^ 31 by omega), c_3, c_7]; done) | (exfalso; simp_all; done) | (simp only [X_set, bey, none3, bmp, nI_clamp (show q < 2 ^ 31 by omega), c_3, c_7, ↓reduceIte] <;> rfl)) (sI_at _ _ _) ((sI_ne _ _ (by decide)).trans rfl) ((sI_ne _ _ (by decide)).trans h6) (by decide) (by decide) (by decide) (fun k k0 k1 k6 => ((sI_ne _ _ k0).trans rfl)) rfl) dX4_set_59
    · skip
      refine lv_aload_n hx hb dX4_set_39 rfl (lv_at hl 1 rfl) ?_
      refine lv_ldc (v := (-1000000001)) hx hb hown (hts (.constant RX4 55 ((-1000000001))) (by decide +kernel)) dX4_set_40 ?_
      refine hd_callVi (As := [.int (-1000000001)]) (rest := []) ⟨hx, hb, hml, hown, hts⟩ hE hP hS (c_X4_found_0 l G u F h6) rfl (cwV 1 hts gX4_set_X4_found rfl rfl rfl (by decide +kernel) ⟨Nat.le_of_ble_eq_true rfl, Nat.le_of_ble_eq_true rfl⟩) (do_recv hE hP) rfl hl.1 rfl (Nat.le_of_ble_eq_true rfl) dX4_set_42 (fun rq_8 vq_8 H locs q_8 hP hS => ?_)
      have hP := hP.cast (q_8.2)
      refine lv_cast q_8.1 ?_
      exact hd_iret hx hb hr hlocks hP hS (P3.of (by first | rfl | (simp [X_set, bey, none3, bmp, nI_clamp (show q < 2 ^ 31 by omega), c_3, c_7]; done) | (exfalso; simp_all; done) | (simp only [X_set, bey, none3, bmp, nI_clamp (show q < 2 ^ 31 by omega), c_3, c_7, ↓reduceIte] <;> rfl)) ((sI_ne _ _ (by decide)).trans h0) ((sI_ne _ _ (by decide)).trans rfl) (sI_at _ _ _) (by decide) (by decide) (by decide) (fun k k0 k1 k6 => ((sI_ne _ _ k6).trans rfl)) rfl) dX4_set_45
set_option maxHeartbeats 4000000 in
set_option maxRecDepth 100000 in
theorem c_X4_set_3 (l : Launch) (G : Geo) (u : Sg) (M F : Nat → Int32) (h0 : u.1 0 = M) (h6 : u.1 6 = F) (hM : Wf M) (x : Int32)  (z : Int32) : CtI l G yX4_set wsX4_set (rmO 2 44) [.ref (gad G 0), .int x, .int 3, .int z] u (P3 u 0 1 6 (X_set M F x 3 z)) := by
  refine CtI.of (cc := cX4_set) (maxL := 6) (ret := (some .int)) (own := RX4) (by decide) rfl rfl ?_
  rintro pg ev s0 mm below meth cd ⟨hx, hb, hr, hml, hown, hts, hlocks⟩ hE hP ls hl
  have hS : va_S (gA G) s0.heap s0.heap [] := va_S.rf
  have hl : lv_has ls 6 [(0, .ref (gad G 0)), (1, .int x), (2, .int 3), (3, .int z)] := hl
  have hin4 : ∀ w ∈ wsX40, w ∈ wsX4_set := by decide +kernel
  have hn := hM.n
  have h8 := hM.n8
  refine lv_aload_n hx hb dX4_set_0 rfl (lv_at hl 0 rfl) ?_
  refine do_get hx hb hts hin4 hown hE hP rfl 0 (by decide) (hts (.fieldLink RX4 10 "HeldDoor" "scene" "LHeldDoor$Scene;") (by decide +kernel)) (v := .ref (gS G 0)) rfl dX4_set_1 ?_
  refine lv_iload_n hx hb dX4_set_4 rfl (lv_at hl 2 rfl) ?_
  refine hd_callVr (As := [.int 3]) (rest := []) ⟨hx, hb, hml, hown, hts⟩ hE hP hS (c_X1_rowOf_3 l G u 0 (by decide) M) ((sI_id h0).symm) (cwV 1 hts gX4_set_X1_rowOf rfl rfl rfl (by decide +kernel) ⟨Nat.le_of_ble_eq_true rfl, Nat.le_of_ble_eq_true rfl⟩) (sc_recv hE hP (by decide)) rfl hl.1 rfl (Nat.le_of_ble_eq_true rfl) dX4_set_5 (fun H locs hP hS => ?_)
  have hP := hP.cast ((sI_id h0).symm).symm
  refine lv_astore (lv' := [(4, .ref (gSA G 0 3)), (0, .ref (gad G 0)), (1, .int x), (2, .int 3), (3, .int z)]) hx hb dX4_set_8 hl (by decide) rfl (fun ls hl => ?_)
  refine lv_aload_n hx hb dX4_set_10 rfl (lv_at hl 1 rfl) ?_
  refine lv_iload_n hx hb dX4_set_11 rfl (lv_at hl 2 rfl) ?_
  refine hd_callVi (As := [.int x]) (rest := []) ⟨hx, hb, hml, hown, hts⟩ hE hP hS (c_X4_isPerson l G u M h0 x) rfl (cwV 1 hts gX4_set_X4_isPerson rfl rfl rfl (by decide +kernel) ⟨Nat.le_of_ble_eq_true rfl, Nat.le_of_ble_eq_true rfl⟩) (do_recv hE hP) rfl hl.1 rfl (Nat.le_of_ble_eq_true rfl) dX4_set_12 (fun rq_2 vq_2 H locs q_2 hP hS => ?_)
  have hP := hP.cast (q_2.2)
  refine lv_cast q_2.1 ?_
  refine bo_eq (tgt := 39) hx hb dX4_set_15 (by decide) (fun c_3 => ?_) (fun c_3 => ?_)
  · skip
    refine lv_aload_n hx hb dX4_set_39 rfl (lv_at hl 1 rfl) ?_
    refine lv_ldc (v := (-1000000001)) hx hb hown (hts (.constant RX4 55 ((-1000000001))) (by decide +kernel)) dX4_set_40 ?_
    refine hd_callVi (As := [.int (-1000000001)]) (rest := []) ⟨hx, hb, hml, hown, hts⟩ hE hP hS (c_X4_found_0 l G u F h6) rfl (cwV 1 hts gX4_set_X4_found rfl rfl rfl (by decide +kernel) ⟨Nat.le_of_ble_eq_true rfl, Nat.le_of_ble_eq_true rfl⟩) (do_recv hE hP) rfl hl.1 rfl (Nat.le_of_ble_eq_true rfl) dX4_set_42 (fun rq_4 vq_4 H locs q_4 hP hS => ?_)
    have hP := hP.cast (q_4.2)
    refine lv_cast q_4.1 ?_
    exact hd_iret hx hb hr hlocks hP hS (P3.of (by first | rfl | (simp [X_set, bey, none3, bmp, c_3]; done) | (exfalso; simp_all; done) | (simp only [X_set, bey, none3, bmp, c_3, ↓reduceIte] <;> rfl)) ((sI_ne _ _ (by decide)).trans h0) ((sI_ne _ _ (by decide)).trans rfl) (sI_at _ _ _) (by decide) (by decide) (by decide) (fun k k0 k1 k6 => ((sI_ne _ _ k6).trans rfl)) rfl) dX4_set_45
  · skip
    obtain ⟨q, hq, rfl⟩ := pe_get hM c_3
    refine lv_aload hx hb dX4_set_18 (lv_at hl 0 rfl) ?_
    refine lv_ifnull hx hb dX4_set_20 ?_
    refine lv_iload_n hx hb dX4_set_23 rfl (lv_at hl 3 rfl) ?_
    refine lv_if_eq (tgt := 39) hx hb dX4_set_24 (by decide) (fun h => False.elim (by revert h; decide)) (fun _ => ?_)
    refine lv_iconst (v := 0) hx hb dX4_set_27 (by decide) ?_
    refine lv_iload_n hx hb dX4_set_28 rfl (lv_at hl 3 rfl) ?_
    refine hd_callSi (As := [.int 3]) (rest := [.int 0]) ⟨hx, hb, hml, hown, hts⟩ hE hP hS (c_X4_mostOf l G u 3) rfl (va_cwS 1 hts gX4_set_X4_mostOf rfl rfl rfl (by decide +kernel) ⟨Nat.le_of_ble_eq_true rfl, Nat.le_of_ble_eq_true rfl⟩) rfl hl.1 rfl (Nat.le_of_ble_eq_true rfl) dX4_set_29 (fun rq_5 vq_5 H locs q_5 hP hS => ?_)
    have hP := hP.cast (q_5.2)
    refine lv_cast q_5.1 ?_
    refine lv_cast (y := 999) (by decide) ?_
    refine lv_iload_n hx hb dX4_set_32 rfl (lv_at hl 4 rfl) ?_
    refine hd_callSi (As := [.int 0, .int 999, .int z]) (rest := []) ⟨hx, hb, hml, hown, hts⟩ hE hP hS (c_X4_isFrom l G u 0 999 z) rfl (va_cwS 3 hts gX4_set_X4_isFrom rfl rfl rfl (by decide +kernel) ⟨Nat.le_of_ble_eq_true rfl, Nat.le_of_ble_eq_true rfl⟩) rfl hl.1 rfl (Nat.le_of_ble_eq_true rfl) dX4_set_33 (fun rq_6 vq_6 H locs q_6 hP hS => ?_)
    have hP := hP.cast (q_6.2)
    refine lv_cast q_6.1 ?_
    refine bo_ne (tgt := 46) hx hb dX4_set_36 (by decide) (fun c_7 => ?_) (fun c_7 => ?_)
    · skip
      refine lv_aload hx hb dX4_set_46 (lv_at hl 0 rfl) ?_
      refine lv_iload_n hx hb dX4_set_48 rfl (lv_at hl 2 rfl) ?_
      refine sc_ald hx hb hE hP (by decide) h0 3 (by decide) q (by omega) dX4_set_49 ?_
      refine lv_istore (lv' := [(5, .int (M (5 + 6 * q + 3))), (4, .ref (gSA G 0 3)), (0, .ref (gad G 0)), (1, .int (nI q)), (2, .int 3), (3, .int z)]) hx hb dX4_set_50 hl (by decide) rfl (fun ls hl => ?_)
      refine lv_aload hx hb dX4_set_52 (lv_at hl 1 rfl) ?_
      refine lv_iload_n hx hb dX4_set_54 rfl (lv_at hl 3 rfl) ?_
      refine lv_iload_n hx hb dX4_set_55 rfl (lv_at hl 5 rfl) ?_
      refine sc_ast hx hb hE hP hS (by decide) h0 3 (by decide) q (by omega) rfl dX4_set_56 (fun H locs hP hS => ?_)
      refine lv_iload hx hb dX4_set_57 (lv_at hl 0 rfl) ?_
      exact hd_iret hx hb hr hlocks hP hS (P3.of (by first | rfl | (simp [X_set, bey, none3, bmp, nI_clamp (show q < 2 ^ 31 by omega), c_3, c_7]; done) | (exfalso; simp_all; done) | (simp only [X_set, bey, none3, bmp, nI_clamp (show q < 2 ^ 31 by omega), c_3, c_7, ↓reduceIte] <;> rfl)) (sI_at _ _ _) ((sI_ne _ _ (by decide)).trans rfl) ((sI_ne _ _ (by decide)).trans h6) (by decide) (by decide) (by decide) (fun k k0 k1 k6 => ((sI_ne _ _ k0).trans rfl)) rfl) dX4_set_59
    · skip
      refine lv_aload_n hx hb dX4_set_39 rfl (lv_at hl 1 rfl) ?_
      refine lv_ldc (v := (-1000000001)) hx hb hown (hts (.constant RX4 55 ((-1000000001))) (by decide +kernel)) dX4_set_40 ?_
      refine hd_callVi (As := [.int (-1000000001)]) (rest := []) ⟨hx, hb, hml, hown, hts⟩ hE hP hS (c_X4_found_0 l G u F h6) rfl (cwV 1 hts gX4_set_X4_found rfl rfl rfl (by decide +kernel) ⟨Nat.le_of_ble_eq_true rfl, Nat.le_of_ble_eq_true rfl⟩) (do_recv hE hP) rfl hl.1 rfl (Nat.le_of_ble_eq_true rfl) dX4_set_42 (fun rq_8 vq_8 H locs q_8 hP hS => ?_)
      have hP := hP.cast (q_8.2)
      refine lv_cast q_8.1 ?_
      exact hd_iret hx hb hr hlocks hP hS (P3.of (by first | rfl | (simp [X_set, bey, none3, bmp, nI_clamp (show q < 2 ^ 31 by omega), c_3, c_7]; done) | (exfalso; simp_all; done) | (simp only [X_set, bey, none3, bmp, nI_clamp (show q < 2 ^ 31 by omega), c_3, c_7, ↓reduceIte] <;> rfl)) ((sI_ne _ _ (by decide)).trans h0) ((sI_ne _ _ (by decide)).trans rfl) (sI_at _ _ _) (by decide) (by decide) (by decide) (fun k k0 k1 k6 => ((sI_ne _ _ k6).trans rfl)) rfl) dX4_set_45
set_option maxHeartbeats 4000000 in
set_option maxRecDepth 100000 in
theorem c_X4_set_4 (l : Launch) (G : Geo) (u : Sg) (M F : Nat → Int32) (h0 : u.1 0 = M) (h6 : u.1 6 = F) (hM : Wf M) (x : Int32)  (z : Int32) : CtI l G yX4_set wsX4_set (rmO 2 44) [.ref (gad G 0), .int x, .int 4, .int z] u (P3 u 0 1 6 (X_set M F x 4 z)) := by
  refine CtI.of (cc := cX4_set) (maxL := 6) (ret := (some .int)) (own := RX4) (by decide) rfl rfl ?_
  rintro pg ev s0 mm below meth cd ⟨hx, hb, hr, hml, hown, hts, hlocks⟩ hE hP ls hl
  have hS : va_S (gA G) s0.heap s0.heap [] := va_S.rf
  have hl : lv_has ls 6 [(0, .ref (gad G 0)), (1, .int x), (2, .int 4), (3, .int z)] := hl
  have hin4 : ∀ w ∈ wsX40, w ∈ wsX4_set := by decide +kernel
  have hn := hM.n
  have h8 := hM.n8
  refine lv_aload_n hx hb dX4_set_0 rfl (lv_at hl 0 rfl) ?_
  refine do_get hx hb hts hin4 hown hE hP rfl 0 (by decide) (hts (.fieldLink RX4 10 "HeldDoor" "scene" "LHeldDoor$Scene;") (by decide +kernel)) (v := .ref (gS G 0)) rfl dX4_set_1 ?_
  refine lv_iload_n hx hb dX4_set_4 rfl (lv_at hl 2 rfl) ?_
  refine hd_callVr (As := [.int 4]) (rest := []) ⟨hx, hb, hml, hown, hts⟩ hE hP hS (c_X1_rowOf_4 l G u 0 (by decide) M) ((sI_id h0).symm) (cwV 1 hts gX4_set_X1_rowOf rfl rfl rfl (by decide +kernel) ⟨Nat.le_of_ble_eq_true rfl, Nat.le_of_ble_eq_true rfl⟩) (sc_recv hE hP (by decide)) rfl hl.1 rfl (Nat.le_of_ble_eq_true rfl) dX4_set_5 (fun H locs hP hS => ?_)
  have hP := hP.cast ((sI_id h0).symm).symm
  refine lv_astore (lv' := [(4, .ref (gSA G 0 4)), (0, .ref (gad G 0)), (1, .int x), (2, .int 4), (3, .int z)]) hx hb dX4_set_8 hl (by decide) rfl (fun ls hl => ?_)
  refine lv_aload_n hx hb dX4_set_10 rfl (lv_at hl 1 rfl) ?_
  refine lv_iload_n hx hb dX4_set_11 rfl (lv_at hl 2 rfl) ?_
  refine hd_callVi (As := [.int x]) (rest := []) ⟨hx, hb, hml, hown, hts⟩ hE hP hS (c_X4_isPerson l G u M h0 x) rfl (cwV 1 hts gX4_set_X4_isPerson rfl rfl rfl (by decide +kernel) ⟨Nat.le_of_ble_eq_true rfl, Nat.le_of_ble_eq_true rfl⟩) (do_recv hE hP) rfl hl.1 rfl (Nat.le_of_ble_eq_true rfl) dX4_set_12 (fun rq_2 vq_2 H locs q_2 hP hS => ?_)
  have hP := hP.cast (q_2.2)
  refine lv_cast q_2.1 ?_
  refine bo_eq (tgt := 39) hx hb dX4_set_15 (by decide) (fun c_3 => ?_) (fun c_3 => ?_)
  · skip
    refine lv_aload_n hx hb dX4_set_39 rfl (lv_at hl 1 rfl) ?_
    refine lv_ldc (v := (-1000000001)) hx hb hown (hts (.constant RX4 55 ((-1000000001))) (by decide +kernel)) dX4_set_40 ?_
    refine hd_callVi (As := [.int (-1000000001)]) (rest := []) ⟨hx, hb, hml, hown, hts⟩ hE hP hS (c_X4_found_0 l G u F h6) rfl (cwV 1 hts gX4_set_X4_found rfl rfl rfl (by decide +kernel) ⟨Nat.le_of_ble_eq_true rfl, Nat.le_of_ble_eq_true rfl⟩) (do_recv hE hP) rfl hl.1 rfl (Nat.le_of_ble_eq_true rfl) dX4_set_42 (fun rq_4 vq_4 H locs q_4 hP hS => ?_)
    have hP := hP.cast (q_4.2)
    refine lv_cast q_4.1 ?_
    exact hd_iret hx hb hr hlocks hP hS (P3.of (by first | rfl | (simp [X_set, bey, none3, bmp, c_3]; done) | (exfalso; simp_all; done) | (simp only [X_set, bey, none3, bmp, c_3, ↓reduceIte] <;> rfl)) ((sI_ne _ _ (by decide)).trans h0) ((sI_ne _ _ (by decide)).trans rfl) (sI_at _ _ _) (by decide) (by decide) (by decide) (fun k k0 k1 k6 => ((sI_ne _ _ k6).trans rfl)) rfl) dX4_set_45
  · skip
    obtain ⟨q, hq, rfl⟩ := pe_get hM c_3
    refine lv_aload hx hb dX4_set_18 (lv_at hl 0 rfl) ?_
    refine lv_ifnull hx hb dX4_set_20 ?_
    refine lv_iload_n hx hb dX4_set_23 rfl (lv_at hl 3 rfl) ?_
    refine lv_if_eq (tgt := 39) hx hb dX4_set_24 (by decide) (fun h => False.elim (by revert h; decide)) (fun _ => ?_)
    refine lv_iconst (v := 0) hx hb dX4_set_27 (by decide) ?_
    refine lv_iload_n hx hb dX4_set_28 rfl (lv_at hl 3 rfl) ?_
    refine hd_callSi (As := [.int 4]) (rest := [.int 0]) ⟨hx, hb, hml, hown, hts⟩ hE hP hS (c_X4_mostOf l G u 4) rfl (va_cwS 1 hts gX4_set_X4_mostOf rfl rfl rfl (by decide +kernel) ⟨Nat.le_of_ble_eq_true rfl, Nat.le_of_ble_eq_true rfl⟩) rfl hl.1 rfl (Nat.le_of_ble_eq_true rfl) dX4_set_29 (fun rq_5 vq_5 H locs q_5 hP hS => ?_)
    have hP := hP.cast (q_5.2)
    refine lv_cast q_5.1 ?_
    refine lv_cast (y := 1) (by decide) ?_
    refine lv_iload_n hx hb dX4_set_32 rfl (lv_at hl 4 rfl) ?_
    refine hd_callSi (As := [.int 0, .int 1, .int z]) (rest := []) ⟨hx, hb, hml, hown, hts⟩ hE hP hS (c_X4_isFrom l G u 0 1 z) rfl (va_cwS 3 hts gX4_set_X4_isFrom rfl rfl rfl (by decide +kernel) ⟨Nat.le_of_ble_eq_true rfl, Nat.le_of_ble_eq_true rfl⟩) rfl hl.1 rfl (Nat.le_of_ble_eq_true rfl) dX4_set_33 (fun rq_6 vq_6 H locs q_6 hP hS => ?_)
    have hP := hP.cast (q_6.2)
    refine lv_cast q_6.1 ?_
    refine bo_ne (tgt := 46) hx hb dX4_set_36 (by decide) (fun c_7 => ?_) (fun c_7 => ?_)
    · skip
      refine lv_aload hx hb dX4_set_46 (lv_at hl 0 rfl) ?_
      refine lv_iload_n hx hb dX4_set_48 rfl (lv_at hl 2 rfl) ?_
      refine sc_ald hx hb hE hP (by decide) h0 4 (by decide) q (by omega) dX4_set_49 ?_
      refine lv_istore (lv' := [(5, .int (M (5 + 6 * q + 4))), (4, .ref (gSA G 0 4)), (0, .ref (gad G 0)), (1, .int (nI q)), (2, .int 4), (3, .int z)]) hx hb dX4_set_50 hl (by decide) rfl (fun ls hl => ?_)
      refine lv_aload hx hb dX4_set_52 (lv_at hl 1 rfl) ?_
      refine lv_iload_n hx hb dX4_set_54 rfl (lv_at hl 3 rfl) ?_
      refine lv_iload_n hx hb dX4_set_55 rfl (lv_at hl 5 rfl) ?_
      refine sc_ast hx hb hE hP hS (by decide) h0 4 (by decide) q (by omega) rfl dX4_set_56 (fun H locs hP hS => ?_)
      refine lv_iload hx hb dX4_set_57 (lv_at hl 0 rfl) ?_
      exact hd_iret hx hb hr hlocks hP hS (P3.of (by first | rfl | (simp [X_set, bey, none3, bmp, nI_clamp (show q < 2 ^ 31 by omega), c_3, c_7]; done) | (exfalso; simp_all; done) | (simp only [X_set, bey, none3, bmp, nI_clamp (show q < 2 ^ 31 by omega), c_3, c_7, ↓reduceIte] <;> rfl)) (sI_at _ _ _) ((sI_ne _ _ (by decide)).trans rfl) ((sI_ne _ _ (by decide)).trans h6) (by decide) (by decide) (by decide) (fun k k0 k1 k6 => ((sI_ne _ _ k0).trans rfl)) rfl) dX4_set_59
    · skip
      refine lv_aload_n hx hb dX4_set_39 rfl (lv_at hl 1 rfl) ?_
      refine lv_ldc (v := (-1000000001)) hx hb hown (hts (.constant RX4 55 ((-1000000001))) (by decide +kernel)) dX4_set_40 ?_
      refine hd_callVi (As := [.int (-1000000001)]) (rest := []) ⟨hx, hb, hml, hown, hts⟩ hE hP hS (c_X4_found_0 l G u F h6) rfl (cwV 1 hts gX4_set_X4_found rfl rfl rfl (by decide +kernel) ⟨Nat.le_of_ble_eq_true rfl, Nat.le_of_ble_eq_true rfl⟩) (do_recv hE hP) rfl hl.1 rfl (Nat.le_of_ble_eq_true rfl) dX4_set_42 (fun rq_8 vq_8 H locs q_8 hP hS => ?_)
      have hP := hP.cast (q_8.2)
      refine lv_cast q_8.1 ?_
      exact hd_iret hx hb hr hlocks hP hS (P3.of (by first | rfl | (simp [X_set, bey, none3, bmp, nI_clamp (show q < 2 ^ 31 by omega), c_3, c_7]; done) | (exfalso; simp_all; done) | (simp only [X_set, bey, none3, bmp, nI_clamp (show q < 2 ^ 31 by omega), c_3, c_7, ↓reduceIte] <;> rfl)) ((sI_ne _ _ (by decide)).trans h0) ((sI_ne _ _ (by decide)).trans rfl) (sI_at _ _ _) (by decide) (by decide) (by decide) (fun k k0 k1 k6 => ((sI_ne _ _ k6).trans rfl)) rfl) dX4_set_45
set_option maxHeartbeats 4000000 in
set_option maxRecDepth 100000 in
theorem c_X4_set_5 (l : Launch) (G : Geo) (u : Sg) (M F : Nat → Int32) (h0 : u.1 0 = M) (h6 : u.1 6 = F) (hM : Wf M) (x : Int32)  (z : Int32) : CtI l G yX4_set wsX4_set (rmO 2 44) [.ref (gad G 0), .int x, .int 5, .int z] u (P3 u 0 1 6 (X_set M F x 5 z)) := by
  refine CtI.of (cc := cX4_set) (maxL := 6) (ret := (some .int)) (own := RX4) (by decide) rfl rfl ?_
  rintro pg ev s0 mm below meth cd ⟨hx, hb, hr, hml, hown, hts, hlocks⟩ hE hP ls hl
  have hS : va_S (gA G) s0.heap s0.heap [] := va_S.rf
  have hl : lv_has ls 6 [(0, .ref (gad G 0)), (1, .int x), (2, .int 5), (3, .int z)] := hl
  have hin4 : ∀ w ∈ wsX40, w ∈ wsX4_set := by decide +kernel
  have hn := hM.n
  have h8 := hM.n8
  refine lv_aload_n hx hb dX4_set_0 rfl (lv_at hl 0 rfl) ?_
  refine do_get hx hb hts hin4 hown hE hP rfl 0 (by decide) (hts (.fieldLink RX4 10 "HeldDoor" "scene" "LHeldDoor$Scene;") (by decide +kernel)) (v := .ref (gS G 0)) rfl dX4_set_1 ?_
  refine lv_iload_n hx hb dX4_set_4 rfl (lv_at hl 2 rfl) ?_
  refine hd_callVr (As := [.int 5]) (rest := []) ⟨hx, hb, hml, hown, hts⟩ hE hP hS (c_X1_rowOf_5 l G u 0 (by decide) M) ((sI_id h0).symm) (cwV 1 hts gX4_set_X1_rowOf rfl rfl rfl (by decide +kernel) ⟨Nat.le_of_ble_eq_true rfl, Nat.le_of_ble_eq_true rfl⟩) (sc_recv hE hP (by decide)) rfl hl.1 rfl (Nat.le_of_ble_eq_true rfl) dX4_set_5 (fun H locs hP hS => ?_)
  have hP := hP.cast ((sI_id h0).symm).symm
  refine lv_astore (lv' := [(4, .ref (gSA G 0 5)), (0, .ref (gad G 0)), (1, .int x), (2, .int 5), (3, .int z)]) hx hb dX4_set_8 hl (by decide) rfl (fun ls hl => ?_)
  refine lv_aload_n hx hb dX4_set_10 rfl (lv_at hl 1 rfl) ?_
  refine lv_iload_n hx hb dX4_set_11 rfl (lv_at hl 2 rfl) ?_
  refine hd_callVi (As := [.int x]) (rest := []) ⟨hx, hb, hml, hown, hts⟩ hE hP hS (c_X4_isPerson l G u M h0 x) rfl (cwV 1 hts gX4_set_X4_isPerson rfl rfl rfl (by decide +kernel) ⟨Nat.le_of_ble_eq_true rfl, Nat.le_of_ble_eq_true rfl⟩) (do_recv hE hP) rfl hl.1 rfl (Nat.le_of_ble_eq_true rfl) dX4_set_12 (fun rq_2 vq_2 H locs q_2 hP hS => ?_)
  have hP := hP.cast (q_2.2)
  refine lv_cast q_2.1 ?_
  refine bo_eq (tgt := 39) hx hb dX4_set_15 (by decide) (fun c_3 => ?_) (fun c_3 => ?_)
  · skip
    refine lv_aload_n hx hb dX4_set_39 rfl (lv_at hl 1 rfl) ?_
    refine lv_ldc (v := (-1000000001)) hx hb hown (hts (.constant RX4 55 ((-1000000001))) (by decide +kernel)) dX4_set_40 ?_
    refine hd_callVi (As := [.int (-1000000001)]) (rest := []) ⟨hx, hb, hml, hown, hts⟩ hE hP hS (c_X4_found_0 l G u F h6) rfl (cwV 1 hts gX4_set_X4_found rfl rfl rfl (by decide +kernel) ⟨Nat.le_of_ble_eq_true rfl, Nat.le_of_ble_eq_true rfl⟩) (do_recv hE hP) rfl hl.1 rfl (Nat.le_of_ble_eq_true rfl) dX4_set_42 (fun rq_4 vq_4 H locs q_4 hP hS => ?_)
    have hP := hP.cast (q_4.2)
    refine lv_cast q_4.1 ?_
    exact hd_iret hx hb hr hlocks hP hS (P3.of (by first | rfl | (simp [X_set, bey, none3, bmp, c_3]; done) | (exfalso; simp_all; done) | (simp only [X_set, bey, none3, bmp, c_3, ↓reduceIte] <;> rfl)) ((sI_ne _ _ (by decide)).trans h0) ((sI_ne _ _ (by decide)).trans rfl) (sI_at _ _ _) (by decide) (by decide) (by decide) (fun k k0 k1 k6 => ((sI_ne _ _ k6).trans rfl)) rfl) dX4_set_45
  · skip
    obtain ⟨q, hq, rfl⟩ := pe_get hM c_3
    refine lv_aload hx hb dX4_set_18 (lv_at hl 0 rfl) ?_
    refine lv_ifnull hx hb dX4_set_20 ?_
    refine lv_iload_n hx hb dX4_set_23 rfl (lv_at hl 3 rfl) ?_
    refine lv_if_eq (tgt := 39) hx hb dX4_set_24 (by decide) (fun h => False.elim (by revert h; decide)) (fun _ => ?_)
    refine lv_iconst (v := 0) hx hb dX4_set_27 (by decide) ?_
    refine lv_iload_n hx hb dX4_set_28 rfl (lv_at hl 3 rfl) ?_
    refine hd_callSi (As := [.int 5]) (rest := [.int 0]) ⟨hx, hb, hml, hown, hts⟩ hE hP hS (c_X4_mostOf l G u 5) rfl (va_cwS 1 hts gX4_set_X4_mostOf rfl rfl rfl (by decide +kernel) ⟨Nat.le_of_ble_eq_true rfl, Nat.le_of_ble_eq_true rfl⟩) rfl hl.1 rfl (Nat.le_of_ble_eq_true rfl) dX4_set_29 (fun rq_5 vq_5 H locs q_5 hP hS => ?_)
    have hP := hP.cast (q_5.2)
    refine lv_cast q_5.1 ?_
    refine lv_cast (y := 999) (by decide) ?_
    refine lv_iload_n hx hb dX4_set_32 rfl (lv_at hl 4 rfl) ?_
    refine hd_callSi (As := [.int 0, .int 999, .int z]) (rest := []) ⟨hx, hb, hml, hown, hts⟩ hE hP hS (c_X4_isFrom l G u 0 999 z) rfl (va_cwS 3 hts gX4_set_X4_isFrom rfl rfl rfl (by decide +kernel) ⟨Nat.le_of_ble_eq_true rfl, Nat.le_of_ble_eq_true rfl⟩) rfl hl.1 rfl (Nat.le_of_ble_eq_true rfl) dX4_set_33 (fun rq_6 vq_6 H locs q_6 hP hS => ?_)
    have hP := hP.cast (q_6.2)
    refine lv_cast q_6.1 ?_
    refine bo_ne (tgt := 46) hx hb dX4_set_36 (by decide) (fun c_7 => ?_) (fun c_7 => ?_)
    · skip
      refine lv_aload hx hb dX4_set_46 (lv_at hl 0 rfl) ?_
      refine lv_iload_n hx hb dX4_set_48 rfl (lv_at hl 2 rfl) ?_
      refine sc_ald hx hb hE hP (by decide) h0 5 (by decide) q (by omega) dX4_set_49 ?_
      refine lv_istore (lv' := [(5, .int (M (5 + 6 * q + 5))), (4, .ref (gSA G 0 5)), (0, .ref (gad G 0)), (1, .int (nI q)), (2, .int 5), (3, .int z)]) hx hb dX4_set_50 hl (by decide) rfl (fun ls hl => ?_)
      refine lv_aload hx hb dX4_set_52 (lv_at hl 1 rfl) ?_
      refine lv_iload_n hx hb dX4_set_54 rfl (lv_at hl 3 rfl) ?_
      refine lv_iload_n hx hb dX4_set_55 rfl (lv_at hl 5 rfl) ?_
      refine sc_ast hx hb hE hP hS (by decide) h0 5 (by decide) q (by omega) rfl dX4_set_56 (fun H locs hP hS => ?_)
      refine lv_iload hx hb dX4_set_57 (lv_at hl 0 rfl) ?_
      exact hd_iret hx hb hr hlocks hP hS (P3.of (by first | rfl | (simp [X_set, bey, none3, bmp, nI_clamp (show q < 2 ^ 31 by omega), c_3, c_7]; done) | (exfalso; simp_all; done) | (simp only [X_set, bey, none3, bmp, nI_clamp (show q < 2 ^ 31 by omega), c_3, c_7, ↓reduceIte] <;> rfl)) (sI_at _ _ _) ((sI_ne _ _ (by decide)).trans rfl) ((sI_ne _ _ (by decide)).trans h6) (by decide) (by decide) (by decide) (fun k k0 k1 k6 => ((sI_ne _ _ k0).trans rfl)) rfl) dX4_set_59
    · skip
      refine lv_aload_n hx hb dX4_set_39 rfl (lv_at hl 1 rfl) ?_
      refine lv_ldc (v := (-1000000001)) hx hb hown (hts (.constant RX4 55 ((-1000000001))) (by decide +kernel)) dX4_set_40 ?_
      refine hd_callVi (As := [.int (-1000000001)]) (rest := []) ⟨hx, hb, hml, hown, hts⟩ hE hP hS (c_X4_found_0 l G u F h6) rfl (cwV 1 hts gX4_set_X4_found rfl rfl rfl (by decide +kernel) ⟨Nat.le_of_ble_eq_true rfl, Nat.le_of_ble_eq_true rfl⟩) (do_recv hE hP) rfl hl.1 rfl (Nat.le_of_ble_eq_true rfl) dX4_set_42 (fun rq_8 vq_8 H locs q_8 hP hS => ?_)
      have hP := hP.cast (q_8.2)
      refine lv_cast q_8.1 ?_
      exact hd_iret hx hb hr hlocks hP hS (P3.of (by first | rfl | (simp [X_set, bey, none3, bmp, nI_clamp (show q < 2 ^ 31 by omega), c_3, c_7]; done) | (exfalso; simp_all; done) | (simp only [X_set, bey, none3, bmp, nI_clamp (show q < 2 ^ 31 by omega), c_3, c_7, ↓reduceIte] <;> rfl)) ((sI_ne _ _ (by decide)).trans h0) ((sI_ne _ _ (by decide)).trans rfl) (sI_at _ _ _) (by decide) (by decide) (by decide) (fun k k0 k1 k6 => ((sI_ne _ _ k6).trans rfl)) rfl) dX4_set_45
set_option maxHeartbeats 4000000 in
set_option maxRecDepth 100000 in
theorem c_X4_set_o (l : Launch) (G : Geo) (u : Sg) (M F : Nat → Int32) (h0 : u.1 0 = M) (h6 : u.1 6 = F) (hM : Wf M) (x : Int32) (w : Int32) (z : Int32) (h_0 : ¬ w = 0) (h_1 : ¬ w = 1) (h_2 : ¬ w = 2) (h_3 : ¬ w = 3) (h_4 : ¬ w = 4) (h_5 : ¬ w = 5) : CtI l G yX4_set wsX4_set (rmO 2 44) [.ref (gad G 0), .int x, .int w, .int z] u (P3 u 0 1 6 (X_set M F x w z)) := by
  refine CtI.of (cc := cX4_set) (maxL := 6) (ret := (some .int)) (own := RX4) (by decide) rfl rfl ?_
  rintro pg ev s0 mm below meth cd ⟨hx, hb, hr, hml, hown, hts, hlocks⟩ hE hP ls hl
  have hS : va_S (gA G) s0.heap s0.heap [] := va_S.rf
  have hl : lv_has ls 6 [(0, .ref (gad G 0)), (1, .int x), (2, .int w), (3, .int z)] := hl
  have hin4 : ∀ w ∈ wsX40, w ∈ wsX4_set := by decide +kernel
  have hn := hM.n
  have h8 := hM.n8
  refine lv_aload_n hx hb dX4_set_0 rfl (lv_at hl 0 rfl) ?_
  refine do_get hx hb hts hin4 hown hE hP rfl 0 (by decide) (hts (.fieldLink RX4 10 "HeldDoor" "scene" "LHeldDoor$Scene;") (by decide +kernel)) (v := .ref (gS G 0)) rfl dX4_set_1 ?_
  refine lv_iload_n hx hb dX4_set_4 rfl (lv_at hl 2 rfl) ?_
  refine hd_callVn (As := [.int w]) (rest := []) ⟨hx, hb, hml, hown, hts⟩ hE hP hS (c_X1_rowOf_n l G u 0 (by decide) M w h_0 h_1 h_2 h_3 h_4 h_5) ((sI_id h0).symm) (cwV 1 hts gX4_set_X1_rowOf rfl rfl rfl (by decide +kernel) ⟨Nat.le_of_ble_eq_true rfl, Nat.le_of_ble_eq_true rfl⟩) (sc_recv hE hP (by decide)) rfl hl.1 rfl (Nat.le_of_ble_eq_true rfl) dX4_set_5 (fun H locs hP hS => ?_)
  have hP := hP.cast ((sI_id h0).symm).symm
  refine lv_astoreN (lv' := [(4, .null), (0, .ref (gad G 0)), (1, .int x), (2, .int w), (3, .int z)]) hx hb dX4_set_8 hl (by decide) rfl (fun ls hl => ?_)
  refine lv_aload_n hx hb dX4_set_10 rfl (lv_at hl 1 rfl) ?_
  refine lv_iload_n hx hb dX4_set_11 rfl (lv_at hl 2 rfl) ?_
  refine hd_callVi (As := [.int x]) (rest := []) ⟨hx, hb, hml, hown, hts⟩ hE hP hS (c_X4_isPerson l G u M h0 x) rfl (cwV 1 hts gX4_set_X4_isPerson rfl rfl rfl (by decide +kernel) ⟨Nat.le_of_ble_eq_true rfl, Nat.le_of_ble_eq_true rfl⟩) (do_recv hE hP) rfl hl.1 rfl (Nat.le_of_ble_eq_true rfl) dX4_set_12 (fun rq_2 vq_2 H locs q_2 hP hS => ?_)
  have hP := hP.cast (q_2.2)
  refine lv_cast q_2.1 ?_
  refine bo_eq (tgt := 39) hx hb dX4_set_15 (by decide) (fun c_3 => ?_) (fun c_3 => ?_)
  · skip
    refine lv_aload_n hx hb dX4_set_39 rfl (lv_at hl 1 rfl) ?_
    refine lv_ldc (v := (-1000000001)) hx hb hown (hts (.constant RX4 55 ((-1000000001))) (by decide +kernel)) dX4_set_40 ?_
    refine hd_callVi (As := [.int (-1000000001)]) (rest := []) ⟨hx, hb, hml, hown, hts⟩ hE hP hS (c_X4_found_0 l G u F h6) rfl (cwV 1 hts gX4_set_X4_found rfl rfl rfl (by decide +kernel) ⟨Nat.le_of_ble_eq_true rfl, Nat.le_of_ble_eq_true rfl⟩) (do_recv hE hP) rfl hl.1 rfl (Nat.le_of_ble_eq_true rfl) dX4_set_42 (fun rq_4 vq_4 H locs q_4 hP hS => ?_)
    have hP := hP.cast (q_4.2)
    refine lv_cast q_4.1 ?_
    exact hd_iret hx hb hr hlocks hP hS (P3.of (by first | rfl | (simp [X_set, h_0, h_1, h_2, h_3, h_4, h_5, bey, none3, bmp, c_3]; done) | (exfalso; simp_all; done) | (simp only [X_set, h_0, h_1, h_2, h_3, h_4, h_5, bey, none3, bmp, c_3, ↓reduceIte] <;> rfl)) ((sI_ne _ _ (by decide)).trans h0) ((sI_ne _ _ (by decide)).trans rfl) (sI_at _ _ _) (by decide) (by decide) (by decide) (fun k k0 k1 k6 => ((sI_ne _ _ k6).trans rfl)) rfl) dX4_set_45
  · skip
    obtain ⟨q, hq, rfl⟩ := pe_get hM c_3
    refine lv_aloadN hx hb dX4_set_18 (lv_at hl 0 rfl) ?_
    refine lv_ifnullN (tgt := 39) hx hb dX4_set_20 (by decide) ?_
    refine lv_aload_n hx hb dX4_set_39 rfl (lv_at hl 1 rfl) ?_
    refine lv_ldc (v := (-1000000001)) hx hb hown (hts (.constant RX4 55 ((-1000000001))) (by decide +kernel)) dX4_set_40 ?_
    refine hd_callVi (As := [.int (-1000000001)]) (rest := []) ⟨hx, hb, hml, hown, hts⟩ hE hP hS (c_X4_found_0 l G u F h6) rfl (cwV 1 hts gX4_set_X4_found rfl rfl rfl (by decide +kernel) ⟨Nat.le_of_ble_eq_true rfl, Nat.le_of_ble_eq_true rfl⟩) (do_recv hE hP) rfl hl.1 rfl (Nat.le_of_ble_eq_true rfl) dX4_set_42 (fun rq_5 vq_5 H locs q_5 hP hS => ?_)
    have hP := hP.cast (q_5.2)
    refine lv_cast q_5.1 ?_
    exact hd_iret hx hb hr hlocks hP hS (P3.of (by first | rfl | (simp [X_set, h_0, h_1, h_2, h_3, h_4, h_5, bey, none3, bmp, nI_clamp (show q < 2 ^ 31 by omega), c_3]; done) | (exfalso; simp_all; done) | (simp only [X_set, h_0, h_1, h_2, h_3, h_4, h_5, bey, none3, bmp, nI_clamp (show q < 2 ^ 31 by omega), c_3, ↓reduceIte] <;> rfl)) ((sI_ne _ _ (by decide)).trans h0) ((sI_ne _ _ (by decide)).trans rfl) (sI_at _ _ _) (by decide) (by decide) (by decide) (fun k k0 k1 k6 => ((sI_ne _ _ k6).trans rfl)) rfl) dX4_set_45
theorem c_X4_set (l : Launch) (G : Geo) (u : Sg) (M F : Nat → Int32) (h0 : u.1 0 = M) (h6 : u.1 6 = F) (hM : Wf M) (x : Int32) (w : Int32) (z : Int32) : CtI l G yX4_set wsX4_set (rmO 2 44) [.ref (gad G 0), .int x, .int w, .int z] u (P3 u 0 1 6 (X_set M F x w z)) := by
  by_cases h_0 : w = 0
  · subst h_0; exact c_X4_set_0 l G u M F h0 h6 hM x z
  by_cases h_1 : w = 1
  · subst h_1; exact c_X4_set_1 l G u M F h0 h6 hM x z
  by_cases h_2 : w = 2
  · subst h_2; exact c_X4_set_2 l G u M F h0 h6 hM x z
  by_cases h_3 : w = 3
  · subst h_3; exact c_X4_set_3 l G u M F h0 h6 hM x z
  by_cases h_4 : w = 4
  · subst h_4; exact c_X4_set_4 l G u M F h0 h6 hM x z
  by_cases h_5 : w = 5
  · subst h_5; exact c_X4_set_5 l G u M F h0 h6 hM x z
  exact c_X4_set_o l G u M F h0 h6 hM x w z h_0 h_1 h_2 h_3 h_4 h_5
