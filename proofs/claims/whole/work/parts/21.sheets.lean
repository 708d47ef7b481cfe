set_option maxHeartbeats 4000000 in
set_option maxRecDepth 100000 in
/-- Sheet.isWidth -/
theorem c_X2_isWidth (l : Launch) (G : Geo) (u : Sg) (b : Int32) : CtI l G yX2_isWidth wsX2_isWidth (rmO 0 0) [.int b] u (fun r v => r = bI (wid b) ∧ v = u) := by
  refine CtI.of (cc := cX2_isWidth) (maxL := 1) (ret := (some .boolean)) (own := RX2) (by decide) rfl rfl ?_
  rintro pg ev s0 mm below meth cd ⟨hx, hb, hr, hml, hown, hts, hlocks⟩ hE hP ls hl
  have hS : va_S (gA G) s0.heap s0.heap [] := va_S.rf
  have hl : lv_has ls 1 [(0, .int b)] := hl
  refine lv_iload_n hx hb dX2_isWidth_0 rfl (lv_at hl 0 rfl) ?_
  refine lv_if_eq (tgt := 22) hx hb dX2_isWidth_1 (by decide) (fun c_1 => ?_) (fun c_1 => ?_)
  · skip
    refine lv_iconst (v := 1) hx hb dX2_isWidth_22 (by decide) ?_
    refine lv_goto (tgt := 27) hx hb dX2_isWidth_23 (by decide) ?_
    exact hd_zret hx hb hr hlocks hP hS ⟨(by first | rfl | (simp only [wid, bI, c_1, ↓reduceIte]; done) | (simp only [wid, bI, c_1, ↓reduceIte] <;> rfl) | (simp [wid, bI, c_1]; done)), rfl⟩ rfl dX2_isWidth_27
  · skip
    refine lv_iload_n hx hb dX2_isWidth_4 rfl (lv_at hl 0 rfl) ?_
    refine lv_bipush (v := 8) hx hb dX2_isWidth_5 (by decide) ?_
    refine lv_icmp_eq (tgt := 22) hx hb dX2_isWidth_7 (by decide) (fun c_2 => ?_) (fun c_2 => ?_)
    · skip
      refine lv_iconst (v := 1) hx hb dX2_isWidth_22 (by decide) ?_
      refine lv_goto (tgt := 27) hx hb dX2_isWidth_23 (by decide) ?_
      exact hd_zret hx hb hr hlocks hP hS ⟨(by first | rfl | (simp only [wid, bI, c_1, c_2, ↓reduceIte]; done) | (simp only [wid, bI, c_1, c_2, ↓reduceIte] <;> rfl) | (simp [wid, bI, c_1, c_2]; done)), rfl⟩ rfl dX2_isWidth_27
    · skip
      refine lv_iload_n hx hb dX2_isWidth_10 rfl (lv_at hl 0 rfl) ?_
      refine lv_bipush (v := 16) hx hb dX2_isWidth_11 (by decide) ?_
      refine lv_icmp_eq (tgt := 22) hx hb dX2_isWidth_13 (by decide) (fun c_3 => ?_) (fun c_3 => ?_)
      · skip
        refine lv_iconst (v := 1) hx hb dX2_isWidth_22 (by decide) ?_
        refine lv_goto (tgt := 27) hx hb dX2_isWidth_23 (by decide) ?_
        exact hd_zret hx hb hr hlocks hP hS ⟨(by first | rfl | (simp only [wid, bI, c_1, c_2, c_3, ↓reduceIte]; done) | (simp only [wid, bI, c_1, c_2, c_3, ↓reduceIte] <;> rfl) | (simp [wid, bI, c_1, c_2, c_3]; done)), rfl⟩ rfl dX2_isWidth_27
      · skip
        refine lv_iload_n hx hb dX2_isWidth_16 rfl (lv_at hl 0 rfl) ?_
        refine lv_bipush (v := 64) hx hb dX2_isWidth_17 (by decide) ?_
        refine lv_icmp_ne (tgt := 26) hx hb dX2_isWidth_19 (by decide) (fun c_4 => ?_) (fun c_4 => ?_)
        · skip
          refine lv_iconst (v := 0) hx hb dX2_isWidth_26 (by decide) ?_
          exact hd_zret hx hb hr hlocks hP hS ⟨(by first | rfl | (simp only [wid, bI, c_1, c_2, c_3, c_4, ↓reduceIte]; done) | (simp only [wid, bI, c_1, c_2, c_3, c_4, ↓reduceIte] <;> rfl) | (simp [wid, bI, c_1, c_2, c_3, c_4]; done)), rfl⟩ rfl dX2_isWidth_27
        · skip
          refine lv_iconst (v := 1) hx hb dX2_isWidth_22 (by decide) ?_
          refine lv_goto (tgt := 27) hx hb dX2_isWidth_23 (by decide) ?_
          exact hd_zret hx hb hr hlocks hP hS ⟨(by first | rfl | (simp only [wid, bI, c_1, c_2, c_3, c_4, ↓reduceIte]; done) | (simp only [wid, bI, c_1, c_2, c_3, c_4, ↓reduceIte] <;> rfl) | (simp [wid, bI, c_1, c_2, c_3, c_4]; done)), rfl⟩ rfl dX2_isWidth_27
set_option maxHeartbeats 4000000 in
set_option maxRecDepth 100000 in
/-- Sheet.isMissing -/
theorem c_X2_isMissing (l : Launch) (G : Geo) (u : Sg) (s : Nat) (hs : s < 4) (B : Nat → Int32) (hB : u.1 (7 + s) = B) : CtI l G yX2_isMissing wsX2_isMissing (rmO 0 0) [.ref (gH G s)] u (fun r v => r = bI (mis B) ∧ v = u) := by
  refine CtI.of (cc := cX2_isMissing) (maxL := 1) (ret := (some .boolean)) (own := RX2) (by decide) rfl rfl ?_
  rintro pg ev s0 mm below meth cd ⟨hx, hb, hr, hml, hown, hts, hlocks⟩ hE hP ls hl
  have hS : va_S (gA G) s0.heap s0.heap [] := va_S.rf
  have hl : lv_has ls 1 [(0, .ref (gH G s))] := hl
  have hin2 : ∀ w ∈ wsX20, w ∈ wsX2_isMissing := by decide +kernel
  refine lv_aload_n hx hb dX2_isMissing_0 rfl (lv_at hl 0 rfl) ?_
  refine sh_get hx hb hts hin2 hown hE hP (by omega) hB 0 (by decide) (hts (.fieldLink RX2 9 "HeldDoor$Sheet" "bits" "I") (by decide +kernel)) (v := .int (B 0)) rfl dX2_isMissing_1 ?_
  refine lv_if_ne (tgt := 11) hx hb dX2_isMissing_4 (by decide) (fun c_1 => ?_) (fun c_1 => ?_)
  · skip
    refine lv_iconst (v := 0) hx hb dX2_isMissing_11 (by decide) ?_
    exact hd_zret hx hb hr hlocks hP hS ⟨(by first | rfl | (simp only [mis, bI, c_1, ↓reduceIte]; done) | (simp only [mis, bI, c_1, ↓reduceIte] <;> rfl) | (simp [mis, bI, c_1]; done)), rfl⟩ rfl dX2_isMissing_12
  · skip
    refine lv_iconst (v := 1) hx hb dX2_isMissing_7 (by decide) ?_
    refine lv_goto (tgt := 12) hx hb dX2_isMissing_8 (by decide) ?_
    exact hd_zret hx hb hr hlocks hP hS ⟨(by first | rfl | (simp only [mis, bI, c_1, ↓reduceIte]; done) | (simp only [mis, bI, c_1, ↓reduceIte] <;> rfl) | (simp [mis, bI, c_1]; done)), rfl⟩ rfl dX2_isMissing_12
set_option maxHeartbeats 4000000 in
set_option maxRecDepth 100000 in
/-- Sheet.hasRun -/
theorem c_X2_hasRun (l : Launch) (G : Geo) (u : Sg) (s : Nat) (hs : s < 4) (B : Nat → Int32) (hB : u.1 (7 + s) = B) (a n : Int32) : CtI l G yX2_hasRun wsX2_hasRun (rmO 0 0) [.ref (gH G s), .int a, .int n] u (fun r v => r = bI (hasR (B 1) a n) ∧ v = u) := by
  refine CtI.of (cc := cX2_hasRun) (maxL := 3) (ret := (some .boolean)) (own := RX2) (by decide) rfl rfl ?_
  rintro pg ev s0 mm below meth cd ⟨hx, hb, hr, hml, hown, hts, hlocks⟩ hE hP ls hl
  have hS : va_S (gA G) s0.heap s0.heap [] := va_S.rf
  have hl : lv_has ls 3 [(0, .ref (gH G s)), (1, .int a), (2, .int n)] := hl
  have hin2 : ∀ w ∈ wsX20, w ∈ wsX2_hasRun := by decide +kernel
  refine lv_iload_n hx hb dX2_hasRun_0 rfl (lv_at hl 1 rfl) ?_
  refine lv_if_lt (tgt := 30) hx hb dX2_hasRun_1 (by decide) (fun c_1 => ?_) (fun c_1 => ?_)
  · skip
    refine lv_iconst (v := 0) hx hb dX2_hasRun_30 (by decide) ?_
    exact hd_zret hx hb hr hlocks hP hS ⟨(by first | rfl | (simp only [hasR, bI, c_1, ↓reduceIte]; done) | (simp only [hasR, bI, c_1, ↓reduceIte] <;> rfl) | (simp [hasR, bI, c_1]; done)), rfl⟩ rfl dX2_hasRun_31
  · skip
    refine lv_iload_n hx hb dX2_hasRun_4 rfl (lv_at hl 2 rfl) ?_
    refine lv_if_lt (tgt := 30) hx hb dX2_hasRun_5 (by decide) (fun c_2 => ?_) (fun c_2 => ?_)
    · skip
      refine lv_iconst (v := 0) hx hb dX2_hasRun_30 (by decide) ?_
      exact hd_zret hx hb hr hlocks hP hS ⟨(by first | rfl | (simp only [hasR, bI, c_1, c_2, ↓reduceIte]; done) | (simp only [hasR, bI, c_1, c_2, ↓reduceIte] <;> rfl) | (simp [hasR, bI, c_1, c_2]; done)), rfl⟩ rfl dX2_hasRun_31
    · skip
      refine lv_iload_n hx hb dX2_hasRun_8 rfl (lv_at hl 2 rfl) ?_
      refine lv_aload_n hx hb dX2_hasRun_9 rfl (lv_at hl 0 rfl) ?_
      refine sh_get hx hb hts hin2 hown hE hP (by omega) hB 1 (by decide) (hts (.fieldLink RX2 15 "HeldDoor$Sheet" "size" "I") (by decide +kernel)) (v := .int (B 1)) rfl dX2_hasRun_10 ?_
      refine lv_icmp_gt (tgt := 30) hx hb dX2_hasRun_13 (by decide) (fun c_3 => ?_) (fun c_3 => ?_)
      · skip
        refine lv_iconst (v := 0) hx hb dX2_hasRun_30 (by decide) ?_
        exact hd_zret hx hb hr hlocks hP hS ⟨(by first | rfl | (simp only [hasR, bI, c_1, c_2, c_3, ↓reduceIte]; done) | (simp only [hasR, bI, c_1, c_2, c_3, ↓reduceIte] <;> rfl) | (simp [hasR, bI, c_1, c_2, c_3]; done)), rfl⟩ rfl dX2_hasRun_31
      · skip
        refine lv_iload_n hx hb dX2_hasRun_16 rfl (lv_at hl 1 rfl) ?_
        refine lv_aload_n hx hb dX2_hasRun_17 rfl (lv_at hl 0 rfl) ?_
        refine sh_get hx hb hts hin2 hown hE hP (by omega) hB 1 (by decide) (hts (.fieldLink RX2 15 "HeldDoor$Sheet" "size" "I") (by decide +kernel)) (v := .int (B 1)) rfl dX2_hasRun_18 ?_
        refine lv_iload_n hx hb dX2_hasRun_21 rfl (lv_at hl 2 rfl) ?_
        refine lv_isub hx hb dX2_hasRun_22 ?_
        refine lv_icmp_gt (tgt := 30) hx hb dX2_hasRun_23 (by decide) (fun c_4 => ?_) (fun c_4 => ?_)
        · skip
          refine lv_iconst (v := 0) hx hb dX2_hasRun_30 (by decide) ?_
          exact hd_zret hx hb hr hlocks hP hS ⟨(by first | rfl | (simp only [hasR, bI, c_1, c_2, c_3, c_4, ↓reduceIte]; done) | (simp only [hasR, bI, c_1, c_2, c_3, c_4, ↓reduceIte] <;> rfl) | (simp [hasR, bI, c_1, c_2, c_3, c_4]; done)), rfl⟩ rfl dX2_hasRun_31
        · skip
          refine lv_iconst (v := 1) hx hb dX2_hasRun_26 (by decide) ?_
          refine lv_goto (tgt := 31) hx hb dX2_hasRun_27 (by decide) ?_
          exact hd_zret hx hb hr hlocks hP hS ⟨(by first | rfl | (simp only [hasR, bI, c_1, c_2, c_3, c_4, ↓reduceIte]; done) | (simp only [hasR, bI, c_1, c_2, c_3, c_4, ↓reduceIte] <;> rfl) | (simp [hasR, bI, c_1, c_2, c_3, c_4]; done)), rfl⟩ rfl dX2_hasRun_31
set_option maxHeartbeats 4000000 in
set_option maxRecDepth 100000 in
/-- Sheet.put -/
theorem c_X2_put (l : Launch) (G : Geo) (u : Sg) (s : Nat) (hs : s < 4) (B : Nat → Int32) (hB : u.1 (7 + s) = B) (F : Nat → Int64) (hF9 : u.2 s = F) (j : Nat) (hj : j < 40) (x : Int64) : CtV l G yX2_put wsX2_put (rmO 0 0) [.ref (gH G s), .int (nI j), .long x] u (fun v => v = sL u s (vp_updL F j (cutL (B 0) x))) := by
  refine CtV.of (cc := cX2_put) (maxL := 4) (ret := none) (own := RX2) (by decide) rfl rfl ?_
  rintro pg ev s0 mm below meth cd ⟨hx, hb, hr, hml, hown, hts, hlocks⟩ hE hP ls hl
  have hS : va_S (gA G) s0.heap s0.heap [] := va_S.rf
  have hl : lv_has ls 4 [(0, .ref (gH G s)), (1, .int (nI j)), (2, .long x)] := hl
  have hin2 : ∀ w ∈ wsX20, w ∈ wsX2_put := by decide +kernel
  refine lv_aload_n hx hb dX2_put_0 rfl (lv_at hl 0 rfl) ?_
  refine sh_get hx hb hts hin2 hown hE hP (by omega) hB 0 (by decide) (hts (.fieldLink RX2 9 "HeldDoor$Sheet" "bits" "I") (by decide +kernel)) (v := .int (B 0)) rfl dX2_put_1 ?_
  by_cases k_1 : B 0 = 8
  · refine lv_cast k_1 ?_
    refine lv_lookup (tgt := 32) (off := 28) hx hb dX2_put_4 (by decide) (by decide) (by decide) ?_
    refine lv_aload_n hx hb dX2_put_32 rfl (lv_at hl 0 rfl) ?_
    refine sh_get hx hb hts hin2 hown hE hP (by omega) hB 2 (by decide) (hts (.fieldLink RX2 18 "HeldDoor$Sheet" "numbers" "[J") (by decide +kernel)) (v := .ref (gHN G s)) rfl dX2_put_33 ?_
    refine lv_iload_n hx hb dX2_put_36 rfl (lv_at hl 1 rfl) ?_
    refine lv_lload_n hx hb dX2_put_37 rfl (lv_at hl 2 rfl) ?_
    refine lv_l2i hx hb dX2_put_38 rfl ?_
    refine lv_i2b hx hb dX2_put_39 rfl ?_
    refine lv_i2l hx hb dX2_put_40 rfl ?_
    refine sn_st hx hb hE hP hS (by omega) hF9 j (by omega) rfl dX2_put_41 (fun H locs hP hS => ?_)
    refine lv_goto (tgt := 65) hx hb dX2_put_42 (by decide) ?_
    exact hd_vret hx hb hr hlocks hP hS (by simp only [cutL, k_1, ↓reduceIte] <;> rfl) dX2_put_65
  by_cases k_2 : B 0 = 16
  · refine lv_cast k_2 ?_
    refine lv_lookup (tgt := 45) (off := 41) hx hb dX2_put_4 (by decide) (by decide) (by decide) ?_
    refine lv_aload_n hx hb dX2_put_45 rfl (lv_at hl 0 rfl) ?_
    refine sh_get hx hb hts hin2 hown hE hP (by omega) hB 2 (by decide) (hts (.fieldLink RX2 18 "HeldDoor$Sheet" "numbers" "[J") (by decide +kernel)) (v := .ref (gHN G s)) rfl dX2_put_46 ?_
    refine lv_iload_n hx hb dX2_put_49 rfl (lv_at hl 1 rfl) ?_
    refine lv_lload_n hx hb dX2_put_50 rfl (lv_at hl 2 rfl) ?_
    refine lv_l2i hx hb dX2_put_51 rfl ?_
    refine lv_i2s hx hb dX2_put_52 rfl ?_
    refine lv_i2l hx hb dX2_put_53 rfl ?_
    refine sn_st hx hb hE hP hS (by omega) hF9 j (by omega) rfl dX2_put_54 (fun H locs hP hS => ?_)
    refine lv_goto (tgt := 65) hx hb dX2_put_55 (by decide) ?_
    exact hd_vret hx hb hr hlocks hP hS (by simp only [cutL, k_1, k_2, ↓reduceIte] <;> rfl) dX2_put_65
  refine lv_lookup (tgt := 58) (off := 54) hx hb dX2_put_4 (by decide) (lk_out2 k_1 k_2) (by decide) ?_
  refine lv_aload_n hx hb dX2_put_58 rfl (lv_at hl 0 rfl) ?_
  refine sh_get hx hb hts hin2 hown hE hP (by omega) hB 2 (by decide) (hts (.fieldLink RX2 18 "HeldDoor$Sheet" "numbers" "[J") (by decide +kernel)) (v := .ref (gHN G s)) rfl dX2_put_59 ?_
  refine lv_iload_n hx hb dX2_put_62 rfl (lv_at hl 1 rfl) ?_
  refine lv_lload_n hx hb dX2_put_63 rfl (lv_at hl 2 rfl) ?_
  refine sn_st hx hb hE hP hS (by omega) hF9 j (by omega) rfl dX2_put_64 (fun H locs hP hS => ?_)
  exact hd_vret hx hb hr hlocks hP hS (by simp only [cutL, k_1, k_2, ↓reduceIte] <;> rfl) dX2_put_65
set_option maxHeartbeats 4000000 in
set_option maxRecDepth 100000 in
/-- Sheet.renew -/
theorem c_X2_renew (l : Launch) (G : Geo) (u : Sg) (s : Nat) (hs : s < 4) (B : Nat → Int32) (hB : u.1 (7 + s) = B) (F : Nat → Int64) (hF9 : u.2 s = F) (b n : Int32) : CtV l G yX2_renew wsX2_renew (rmO 0 0) [.ref (gH G s), .int b, .int n] u (fun v => v = sL (sI u (7 + s) (rnB B b n)) s (zrN F 40)) := by
  refine CtV.of (cc := cX2_renew) (maxL := 4) (ret := none) (own := RX2) (by decide) rfl rfl ?_
  rintro pg ev s0 mm below meth cd ⟨hx, hb, hr, hml, hown, hts, hlocks⟩ hE hP ls hl
  have hS : va_S (gA G) s0.heap s0.heap [] := va_S.rf
  have hl : lv_has ls 4 [(0, .ref (gH G s)), (1, .int b), (2, .int n)] := hl
  have hin2 : ∀ w ∈ wsX20, w ∈ wsX2_renew := by decide +kernel
  refine lv_aload_n hx hb dX2_renew_0 rfl (lv_at hl 0 rfl) ?_
  refine lv_iload_n hx hb dX2_renew_1 rfl (lv_at hl 1 rfl) ?_
  refine sh_put hx hb hts hin2 hown hE hP hS (by omega) hB 0 (by decide) (hts (.fieldLink RX2 9 "HeldDoor$Sheet" "bits" "I") (by decide +kernel)) rfl dX2_renew_2 (fun H locs hP hS => ?_)
  refine lv_aload_n hx hb dX2_renew_5 rfl (lv_at hl 0 rfl) ?_
  refine lv_iload_n hx hb dX2_renew_6 rfl (lv_at hl 1 rfl) ?_
  refine lv_if_ne (tgt := 14) hx hb dX2_renew_7 (by decide) (fun c_1 => ?_) (fun c_1 => ?_)
  · skip
    refine lv_iload_n hx hb dX2_renew_14 rfl (lv_at hl 2 rfl) ?_
    refine sh_put hx hb hts hin2 hown hE hP hS (by omega) (sI_at _ _ _) 1 (by decide) (hts (.fieldLink RX2 15 "HeldDoor$Sheet" "size" "I") (by decide +kernel)) (sI_sI _ _ _ _) dX2_renew_15 (fun H locs hP hS => ?_)
    refine lv_iconst (v := 0) hx hb dX2_renew_18 (by decide) ?_
    refine lv_istore_n (lv' := [(3, .int 0), (0, .ref (gH G s)), (1, .int b), (2, .int n)]) hx hb dX2_renew_19 rfl hl (by decide) rfl (fun ls hl => ?_)
    have J20 : ∀ (fu : Nat) (k : Nat) (C : Nat → Int32) (E : Nat → Int64) (hk : k ≤ 40) (hC : C = rnB B b n) (hG : E = zrN F k) (hrk : 40 - k < fu) (H : Heap) (locs : List Loc) (ls : Array Slot), WP G (sL (sI u (7 + s) C) s E) H → va_S (gA G) s0.heap H locs → lv_has ls 4 [(0, .ref (gH G s)), (1, .int b), (2, .int n), (3, .int (nI k))] → W pg l ev (headSpec wsX2_renew (rmO 0 0)).room s0 mm ([.ref (gH G s), .int b, .int n] : List Value).toArray below meth cd H locs 0 0 (MQ below (va_Qv (fun v => v = sL (sI u (7 + s) (rnB B b n)) s (zrN F 40)) (fun v t => WP G v t.heap) (gA G)) ([.ref (gH G s), .int b, .int n] : List Value).toArray s0 0 0 (gA G)) (F0 mm 20 ls []) := by
      intro fu
      induction fu with
      | zero => intro k C E hk hC hG hrk; exact absurd hrk (Nat.not_lt_zero _)
      | succ fu ih20 =>
        intro k C E hk hC hG hrk H locs ls hP hS hl
        refine lv_iload_n hx hb dX2_renew_20 rfl (lv_at hl 3 rfl) ?_
        refine lv_bipush (v := 40) hx hb dX2_renew_21 (by decide) ?_
        refine nn_ge (a := k) (b := 40) (by omega) (by omega) (tgt := 39) hx hb dX2_renew_23 (by decide) (fun c_2 => ?_) (fun c_2 => ?_)
        · skip
          exact hd_vret hx hb hr hlocks hP hS (by rw [hG, show k = 40 by omega, hC]) dX2_renew_39
        · skip
          refine lv_aload_n hx hb dX2_renew_26 rfl (lv_at hl 0 rfl) ?_
          refine sh_get hx hb hts hin2 hown hE hP (by omega) (sL_1r (sI_at _ _ _)) 2 (by decide) (hts (.fieldLink RX2 18 "HeldDoor$Sheet" "numbers" "[J") (by decide +kernel)) (v := .ref (gHN G s)) rfl dX2_renew_27 ?_
          refine lv_iload_n hx hb dX2_renew_30 rfl (lv_at hl 3 rfl) ?_
          refine lv_lconst (v := 0) hx hb dX2_renew_31 (by decide) ?_
          refine sn_st hx hb hE hP hS (by omega) (sL_at _ _ _) k (by omega) (sL_sL _ _ _ _) dX2_renew_32 (fun H locs hP hS => ?_)
          refine lv_iinc (v := nI (k + 1)) (lv' := [(3, .int (nI (k + 1))), (0, .ref (gH G s)), (1, .int b), (2, .int n)]) hx hb dX2_renew_33 hl (k := 3) rfl (inc1 _) (by decide) rfl (fun ls hl => ?_)
          refine lv_goto (tgt := 20) hx hb dX2_renew_36 (by decide) ?_
          exact ih20 (k + 1) C (vp_updL E k 0) (by omega) hC (by rw [hG]; exact zrN_s F k) (by omega) _ _ _ hP hS (lv_sub hl [1, 2, 3, 0] rfl)
    exact J20 _ 0 (upd (upd B 0 b) 1 n) F (Nat.zero_le _) (by rw [rnB, if_neg c_1]) ((zrN_0 F).symm) (Nat.lt_succ_self _) _ _ _ (hP.cast (by show _ = sL _ s F; rw [show F = (sI u (7 + s) _).2 s from hF9.symm]; exact (sL_self _ s).symm)) hS (lv_sub hl [1, 2, 3, 0] rfl)
  · skip
    refine lv_iconst (v := 0) hx hb dX2_renew_10 (by decide) ?_
    refine lv_goto (tgt := 15) hx hb dX2_renew_11 (by decide) ?_
    refine sh_put hx hb hts hin2 hown hE hP hS (by omega) (sI_at _ _ _) 1 (by decide) (hts (.fieldLink RX2 15 "HeldDoor$Sheet" "size" "I") (by decide +kernel)) (sI_sI _ _ _ _) dX2_renew_15 (fun H locs hP hS => ?_)
    refine lv_iconst (v := 0) hx hb dX2_renew_18 (by decide) ?_
    refine lv_istore_n (lv' := [(3, .int 0), (0, .ref (gH G s)), (1, .int b), (2, .int n)]) hx hb dX2_renew_19 rfl hl (by decide) rfl (fun ls hl => ?_)
    have J20 : ∀ (fu : Nat) (k : Nat) (C : Nat → Int32) (E : Nat → Int64) (hk : k ≤ 40) (hC : C = rnB B b n) (hG : E = zrN F k) (hrk : 40 - k < fu) (H : Heap) (locs : List Loc) (ls : Array Slot), WP G (sL (sI u (7 + s) C) s E) H → va_S (gA G) s0.heap H locs → lv_has ls 4 [(0, .ref (gH G s)), (1, .int b), (2, .int n), (3, .int (nI k))] → W pg l ev (headSpec wsX2_renew (rmO 0 0)).room s0 mm ([.ref (gH G s), .int b, .int n] : List Value).toArray below meth cd H locs 0 0 (MQ below (va_Qv (fun v => v = sL (sI u (7 + s) (rnB B b n)) s (zrN F 40)) (fun v t => WP G v t.heap) (gA G)) ([.ref (gH G s), .int b, .int n] : List Value).toArray s0 0 0 (gA G)) (F0 mm 20 ls []) := by
      intro fu
      induction fu with
      | zero => intro k C E hk hC hG hrk; exact absurd hrk (Nat.not_lt_zero _)
      | succ fu ih20 =>
        intro k C E hk hC hG hrk H locs ls hP hS hl
        refine lv_iload_n hx hb dX2_renew_20 rfl (lv_at hl 3 rfl) ?_
        refine lv_bipush (v := 40) hx hb dX2_renew_21 (by decide) ?_
        refine nn_ge (a := k) (b := 40) (by omega) (by omega) (tgt := 39) hx hb dX2_renew_23 (by decide) (fun c_3 => ?_) (fun c_3 => ?_)
        · skip
          exact hd_vret hx hb hr hlocks hP hS (by rw [hG, show k = 40 by omega, hC]) dX2_renew_39
        · skip
          refine lv_aload_n hx hb dX2_renew_26 rfl (lv_at hl 0 rfl) ?_
          refine sh_get hx hb hts hin2 hown hE hP (by omega) (sL_1r (sI_at _ _ _)) 2 (by decide) (hts (.fieldLink RX2 18 "HeldDoor$Sheet" "numbers" "[J") (by decide +kernel)) (v := .ref (gHN G s)) rfl dX2_renew_27 ?_
          refine lv_iload_n hx hb dX2_renew_30 rfl (lv_at hl 3 rfl) ?_
          refine lv_lconst (v := 0) hx hb dX2_renew_31 (by decide) ?_
          refine sn_st hx hb hE hP hS (by omega) (sL_at _ _ _) k (by omega) (sL_sL _ _ _ _) dX2_renew_32 (fun H locs hP hS => ?_)
          refine lv_iinc (v := nI (k + 1)) (lv' := [(3, .int (nI (k + 1))), (0, .ref (gH G s)), (1, .int b), (2, .int n)]) hx hb dX2_renew_33 hl (k := 3) rfl (inc1 _) (by decide) rfl (fun ls hl => ?_)
          refine lv_goto (tgt := 20) hx hb dX2_renew_36 (by decide) ?_
          exact ih20 (k + 1) C (vp_updL E k 0) (by omega) hC (by rw [hG]; exact zrN_s F k) (by omega) _ _ _ hP hS (lv_sub hl [1, 2, 3, 0] rfl)
    exact J20 _ 0 (upd (upd B 0 b) 1 0) F (Nat.zero_le _) (by rw [rnB, if_pos c_1]) ((zrN_0 F).symm) (Nat.lt_succ_self _) _ _ _ (hP.cast (by show _ = sL _ s F; rw [show F = (sI u (7 + s) _).2 s from hF9.symm]; exact (sL_self _ s).symm)) hS (lv_sub hl [1, 2, 3, 0] rfl)
