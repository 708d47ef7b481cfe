theorem isKd_cases {k : Int32} (h : isKd k = true) : k = 0 ∨ k = 1 ∨ k = 2 ∨ k = 3 ∨ k = 4 ∨ k = 5 := by
  unfold isKd at h
  by_cases h1 : k < 0
  · simp [h1] at h
  · by_cases h2 : 6 ≤ k
    · simp [h1, h2] at h
    · have h3 : 0 ≤ k.toInt := by
        have h0 : ¬ k.toInt < (0 : Int32).toInt := fun q => h1 (ti_lt.mpr q)
        rw [show (0 : Int32).toInt = 0 from rfl] at h0
        omega
      have h4 : k.toInt < 6 := by
        have h0 : ¬ (6 : Int32).toInt ≤ k.toInt := fun q => h2 (ti_le.mpr q)
        rw [show (6 : Int32).toInt = 6 from rfl] at h0
        omega
      have hf := nI_back h3
      have hc := clamp_toInt h3
      rw [hf]
      generalize k.toNatClampNeg = j at *
      rcases (show j = 0 ∨ j = 1 ∨ j = 2 ∨ j = 3 ∨ j = 4 ∨ j = 5 by omega) with rfl | rfl | rfl | rfl | rfl | rfl <;> decide
set_option maxHeartbeats 4000000 in
set_option maxRecDepth 100000 in
/-- Kinds.isKind -/
theorem c_X0_isKind (l : Launch) (G : Geo) (u : Sg) (k : Int32) : CtI l G yX0_isKind wsX0_isKind (rmO 0 0) [.int k] u (fun r v => r = bI (isKd k) ∧ v = u) := by
  refine CtI.of (cc := cX0_isKind) (maxL := 1) (ret := (some .boolean)) (own := RX0) (by decide) rfl rfl ?_
  rintro pg ev s0 mm below meth cd ⟨hx, hb, hr, hml, hown, hts, hlocks⟩ hE hP ls hl
  have hS : va_S (gA G) s0.heap s0.heap [] := va_S.rf
  have hl : lv_has ls 1 [(0, .int k)] := hl
  refine lv_iload_n hx hb dX0_isKind_0 rfl (lv_at hl 0 rfl) ?_
  refine lv_if_lt (tgt := 14) hx hb dX0_isKind_1 (by decide) (fun c_1 => ?_) (fun c_1 => ?_)
  · skip
    refine lv_iconst (v := 0) hx hb dX0_isKind_14 (by decide) ?_
    exact hd_zret hx hb hr hlocks hP hS ⟨(by first | rfl | (simp only [isKd, bI, c_1, ↓reduceIte]; done) | (simp only [isKd, bI, c_1, ↓reduceIte] <;> rfl) | (simp [isKd, bI, c_1]; done)), rfl⟩ rfl dX0_isKind_15
  · skip
    refine lv_iload_n hx hb dX0_isKind_4 rfl (lv_at hl 0 rfl) ?_
    refine lv_bipush (v := 6) hx hb dX0_isKind_5 (by decide) ?_
    refine lv_icmp_ge (tgt := 14) hx hb dX0_isKind_7 (by decide) (fun c_2 => ?_) (fun c_2 => ?_)
    · skip
      refine lv_iconst (v := 0) hx hb dX0_isKind_14 (by decide) ?_
      exact hd_zret hx hb hr hlocks hP hS ⟨(by first | rfl | (simp only [isKd, bI, c_1, c_2, ↓reduceIte]; done) | (simp only [isKd, bI, c_1, c_2, ↓reduceIte] <;> rfl) | (simp [isKd, bI, c_1, c_2]; done)), rfl⟩ rfl dX0_isKind_15
    · skip
      refine lv_iconst (v := 1) hx hb dX0_isKind_10 (by decide) ?_
      refine lv_goto (tgt := 15) hx hb dX0_isKind_11 (by decide) ?_
      exact hd_zret hx hb hr hlocks hP hS ⟨(by first | rfl | (simp only [isKd, bI, c_1, c_2, ↓reduceIte]; done) | (simp only [isKd, bI, c_1, c_2, ↓reduceIte] <;> rfl) | (simp [isKd, bI, c_1, c_2]; done)), rfl⟩ rfl dX0_isKind_15
set_option maxHeartbeats 4000000 in
set_option maxRecDepth 100000 in
/-- Kinds.kindAbove -/
theorem c_X0_kindAbove (l : Launch) (G : Geo) (u : Sg) (k : Int32) : CtI l G yX0_kindAbove wsX0_kindAbove (rmO 0 0) [.int k] u (fun r v => r = kAb k ∧ v = u) := by
  refine CtI.of (cc := cX0_kindAbove) (maxL := 1) (ret := (some .int)) (own := RX0) (by decide) rfl rfl ?_
  rintro pg ev s0 mm below meth cd ⟨hx, hb, hr, hml, hown, hts, hlocks⟩ hE hP ls hl
  have hS : va_S (gA G) s0.heap s0.heap [] := va_S.rf
  have hl : lv_has ls 1 [(0, .int k)] := hl
  refine lv_iload_n hx hb dX0_kindAbove_0 rfl (lv_at hl 0 rfl) ?_
  by_cases k_1 : k = 1
  · refine lv_cast k_1 ?_
    refine lv_tableIn (tgt := 36) hx hb dX0_kindAbove_1 (by decide) (by decide) rfl (by decide) ?_
    refine lv_iconst (v := 0) hx hb dX0_kindAbove_36 (by decide) ?_
    exact hd_iret hx hb hr hlocks hP hS ⟨(by first | rfl | (simp only [kAb, k_1, ↓reduceIte]; done) | (simp only [kAb, k_1, ↓reduceIte] <;> rfl) | (simp [kAb, k_1]; done)), rfl⟩ dX0_kindAbove_37
  by_cases k_2 : k = 2
  · refine lv_cast k_2 ?_
    refine lv_tableIn (tgt := 36) hx hb dX0_kindAbove_1 (by decide) (by decide) rfl (by decide) ?_
    refine lv_iconst (v := 0) hx hb dX0_kindAbove_36 (by decide) ?_
    exact hd_iret hx hb hr hlocks hP hS ⟨(by first | rfl | (simp only [kAb, k_1, k_2, ↓reduceIte]; done) | (simp only [kAb, k_1, k_2, ↓reduceIte] <;> rfl) | (simp [kAb, k_1, k_2]; done)), rfl⟩ dX0_kindAbove_37
  by_cases k_3 : k = 3
  · refine lv_cast k_3 ?_
    refine lv_tableIn (tgt := 36) hx hb dX0_kindAbove_1 (by decide) (by decide) rfl (by decide) ?_
    refine lv_iconst (v := 0) hx hb dX0_kindAbove_36 (by decide) ?_
    exact hd_iret hx hb hr hlocks hP hS ⟨(by first | rfl | (simp only [kAb, k_1, k_2, k_3, ↓reduceIte]; done) | (simp only [kAb, k_1, k_2, k_3, ↓reduceIte] <;> rfl) | (simp [kAb, k_1, k_2, k_3]; done)), rfl⟩ dX0_kindAbove_37
  by_cases k_4 : k = 4
  · refine lv_cast k_4 ?_
    refine lv_tableIn (tgt := 38) hx hb dX0_kindAbove_1 (by decide) (by decide) rfl (by decide) ?_
    refine lv_iconst (v := 3) hx hb dX0_kindAbove_38 (by decide) ?_
    exact hd_iret hx hb hr hlocks hP hS ⟨(by first | rfl | (simp only [kAb, k_1, k_2, k_3, k_4, ↓reduceIte]; done) | (simp only [kAb, k_1, k_2, k_3, k_4, ↓reduceIte] <;> rfl) | (simp [kAb, k_1, k_2, k_3, k_4]; done)), rfl⟩ dX0_kindAbove_39
  by_cases k_5 : k = 5
  · refine lv_cast k_5 ?_
    refine lv_tableIn (tgt := 40) hx hb dX0_kindAbove_1 (by decide) (by decide) rfl (by decide) ?_
    refine lv_iconst (v := 2) hx hb dX0_kindAbove_40 (by decide) ?_
    exact hd_iret hx hb hr hlocks hP hS ⟨(by first | rfl | (simp only [kAb, k_1, k_2, k_3, k_4, k_5, ↓reduceIte]; done) | (simp only [kAb, k_1, k_2, k_3, k_4, k_5, ↓reduceIte] <;> rfl) | (simp [kAb, k_1, k_2, k_3, k_4, k_5]; done)), rfl⟩ dX0_kindAbove_41
  refine lv_tableOut (tgt := 42) hx hb dX0_kindAbove_1 (sw_out (lo := 1) (hi := 5) (by decide) (by decide) (fun k h1 h2 => by
    rcases (show k = 1 ∨ k = 2 ∨ k = 3 ∨ k = 4 ∨ k = 5 by omega) with rfl | rfl | rfl | rfl | rfl
    · exact k_1
    · exact k_2
    · exact k_3
    · exact k_4
    · exact k_5
    )) (by decide) ?_
  refine lv_iconst (v := (-1)) hx hb dX0_kindAbove_42 (by decide) ?_
  exact hd_iret hx hb hr hlocks hP hS ⟨(by first | rfl | (simp only [kAb, k_1, k_2, k_3, k_4, k_5, ↓reduceIte]; done) | (simp only [kAb, k_1, k_2, k_3, k_4, k_5, ↓reduceIte] <;> rfl) | (simp [kAb, k_1, k_2, k_3, k_4, k_5]; done)), rfl⟩ dX0_kindAbove_43
set_option maxHeartbeats 4000000 in
set_option maxRecDepth 100000 in
/-- Kinds.isUnder of kind 0 -/
theorem c_X0_isUnder_0 (l : Launch) (G : Geo) (u : Sg) (ab : Int32) : CtI l G yX0_isUnder wsX0_isUnder (rmO 1 20) [.int 0, .int ab] u (fun r v => r = bI (asMay 0 ab) ∧ v = u) := by
  refine CtI.of (cc := cX0_isUnder) (maxL := 4) (ret := (some .boolean)) (own := RX0) (by decide) rfl rfl ?_
  rintro pg ev s0 mm below meth cd ⟨hx, hb, hr, hml, hown, hts, hlocks⟩ hE hP ls hl
  have hS : va_S (gA G) s0.heap s0.heap [] := va_S.rf
  have hl : lv_has ls 4 [(0, .int 0), (1, .int ab)] := hl
  refine lv_iload_n hx hb dX0_isUnder_0 rfl (lv_at hl 0 rfl) ?_
  refine lv_istore_n (lv' := [(2, .int 0), (0, .int 0), (1, .int ab)]) hx hb dX0_isUnder_1 rfl hl (by decide) rfl (fun ls hl => ?_)
  refine lv_iconst (v := 0) hx hb dX0_isUnder_2 (by decide) ?_
  refine lv_istore_n (lv' := [(3, .int 0), (2, .int 0), (0, .int 0), (1, .int ab)]) hx hb dX0_isUnder_3 rfl hl (by decide) rfl (fun ls hl => ?_)
  refine lv_iload_n hx hb dX0_isUnder_4 rfl (lv_at hl 0 rfl) ?_
  refine lv_bipush (v := 6) hx hb dX0_isUnder_5 (by decide) ?_
  refine lv_icmp_ge (tgt := 32) hx hb dX0_isUnder_7 (by decide) (fun h => False.elim (by revert h; decide)) (fun _ => ?_)
  refine lv_iload_n hx hb dX0_isUnder_10 rfl (lv_at hl 1 rfl) ?_
  refine lv_if_lt (tgt := 32) hx hb dX0_isUnder_11 (by decide) (fun h => False.elim (by revert h; decide)) (fun _ => ?_)
  refine lv_iload_n hx hb dX0_isUnder_14 rfl (lv_at hl 1 rfl) ?_
  refine lv_iload_n hx hb dX0_isUnder_15 rfl (lv_at hl 3 rfl) ?_
  refine lv_icmp_ne (tgt := 21) hx hb dX0_isUnder_16 (by decide) (fun c_1 => ?_) (fun c_1 => ?_)
  · skip
    refine lv_iload_n hx hb dX0_isUnder_21 rfl (lv_at hl 1 rfl) ?_
    refine hd_callSi (As := [.int 0]) (rest := []) ⟨hx, hb, hml, hown, hts⟩ hE hP hS (c_X0_kindAbove l G u 0) rfl (va_cwS 1 hts gX0_isUnder_X0_kindAbove rfl rfl rfl (by decide +kernel) ⟨Nat.le_of_ble_eq_true rfl, Nat.le_of_ble_eq_true rfl⟩) rfl hl.1 rfl (Nat.le_of_ble_eq_true rfl) dX0_isUnder_22 (fun rq_2 vq_2 H locs q_2 hP hS => ?_)
    have hP := hP.cast (q_2.2)
    refine lv_cast q_2.1 ?_
    refine lv_cast (y := (-1)) (by decide) ?_
    refine lv_istore_n (lv' := [(2, .int (-1)), (3, .int 0), (0, .int 0), (1, .int ab)]) hx hb dX0_isUnder_25 rfl hl (by decide) rfl (fun ls hl => ?_)
    refine lv_iinc (v := 1) (lv' := [(3, .int 1), (2, .int (-1)), (0, .int 0), (1, .int ab)]) hx hb dX0_isUnder_26 hl (k := 1) rfl (by decide) (by decide) rfl (fun ls hl => ?_)
    refine lv_goto (tgt := 4) hx hb dX0_isUnder_29 (by decide) ?_
    refine lv_iload_n hx hb dX0_isUnder_4 rfl (lv_at hl 0 rfl) ?_
    refine lv_bipush (v := 6) hx hb dX0_isUnder_5 (by decide) ?_
    refine lv_icmp_ge (tgt := 32) hx hb dX0_isUnder_7 (by decide) (fun h => False.elim (by revert h; decide)) (fun _ => ?_)
    refine lv_iload_n hx hb dX0_isUnder_10 rfl (lv_at hl 1 rfl) ?_
    refine lv_if_lt (tgt := 32) hx hb dX0_isUnder_11 (by decide) (fun _ => ?_) (fun h => False.elim (by revert h; decide))
    refine lv_iconst (v := 0) hx hb dX0_isUnder_32 (by decide) ?_
    exact hd_zret hx hb hr hlocks hP hS ⟨(by simp [asMay, bI, Ne.symm c_1]; done), rfl⟩ rfl dX0_isUnder_33
  · skip
    refine lv_iconst (v := 1) hx hb dX0_isUnder_19 (by decide) ?_
    exact hd_zret hx hb hr hlocks hP hS ⟨(by subst c_1; decide), rfl⟩ rfl dX0_isUnder_20
set_option maxHeartbeats 4000000 in
set_option maxRecDepth 100000 in
/-- Kinds.isUnder of kind 1 -/
theorem c_X0_isUnder_1 (l : Launch) (G : Geo) (u : Sg) (ab : Int32) : CtI l G yX0_isUnder wsX0_isUnder (rmO 1 20) [.int 1, .int ab] u (fun r v => r = bI (asMay 1 ab) ∧ v = u) := by
  refine CtI.of (cc := cX0_isUnder) (maxL := 4) (ret := (some .boolean)) (own := RX0) (by decide) rfl rfl ?_
  rintro pg ev s0 mm below meth cd ⟨hx, hb, hr, hml, hown, hts, hlocks⟩ hE hP ls hl
  have hS : va_S (gA G) s0.heap s0.heap [] := va_S.rf
  have hl : lv_has ls 4 [(0, .int 1), (1, .int ab)] := hl
  refine lv_iload_n hx hb dX0_isUnder_0 rfl (lv_at hl 0 rfl) ?_
  refine lv_istore_n (lv' := [(2, .int 1), (0, .int 1), (1, .int ab)]) hx hb dX0_isUnder_1 rfl hl (by decide) rfl (fun ls hl => ?_)
  refine lv_iconst (v := 0) hx hb dX0_isUnder_2 (by decide) ?_
  refine lv_istore_n (lv' := [(3, .int 0), (2, .int 1), (0, .int 1), (1, .int ab)]) hx hb dX0_isUnder_3 rfl hl (by decide) rfl (fun ls hl => ?_)
  refine lv_iload_n hx hb dX0_isUnder_4 rfl (lv_at hl 0 rfl) ?_
  refine lv_bipush (v := 6) hx hb dX0_isUnder_5 (by decide) ?_
  refine lv_icmp_ge (tgt := 32) hx hb dX0_isUnder_7 (by decide) (fun h => False.elim (by revert h; decide)) (fun _ => ?_)
  refine lv_iload_n hx hb dX0_isUnder_10 rfl (lv_at hl 1 rfl) ?_
  refine lv_if_lt (tgt := 32) hx hb dX0_isUnder_11 (by decide) (fun h => False.elim (by revert h; decide)) (fun _ => ?_)
  refine lv_iload_n hx hb dX0_isUnder_14 rfl (lv_at hl 1 rfl) ?_
  refine lv_iload_n hx hb dX0_isUnder_15 rfl (lv_at hl 3 rfl) ?_
  refine lv_icmp_ne (tgt := 21) hx hb dX0_isUnder_16 (by decide) (fun c_1 => ?_) (fun c_1 => ?_)
  · skip
    refine lv_iload_n hx hb dX0_isUnder_21 rfl (lv_at hl 1 rfl) ?_
    refine hd_callSi (As := [.int 1]) (rest := []) ⟨hx, hb, hml, hown, hts⟩ hE hP hS (c_X0_kindAbove l G u 1) rfl (va_cwS 1 hts gX0_isUnder_X0_kindAbove rfl rfl rfl (by decide +kernel) ⟨Nat.le_of_ble_eq_true rfl, Nat.le_of_ble_eq_true rfl⟩) rfl hl.1 rfl (Nat.le_of_ble_eq_true rfl) dX0_isUnder_22 (fun rq_2 vq_2 H locs q_2 hP hS => ?_)
    have hP := hP.cast (q_2.2)
    refine lv_cast q_2.1 ?_
    refine lv_cast (y := 0) (by decide) ?_
    refine lv_istore_n (lv' := [(2, .int 0), (3, .int 0), (0, .int 1), (1, .int ab)]) hx hb dX0_isUnder_25 rfl hl (by decide) rfl (fun ls hl => ?_)
    refine lv_iinc (v := 1) (lv' := [(3, .int 1), (2, .int 0), (0, .int 1), (1, .int ab)]) hx hb dX0_isUnder_26 hl (k := 1) rfl (by decide) (by decide) rfl (fun ls hl => ?_)
    refine lv_goto (tgt := 4) hx hb dX0_isUnder_29 (by decide) ?_
    refine lv_iload_n hx hb dX0_isUnder_4 rfl (lv_at hl 0 rfl) ?_
    refine lv_bipush (v := 6) hx hb dX0_isUnder_5 (by decide) ?_
    refine lv_icmp_ge (tgt := 32) hx hb dX0_isUnder_7 (by decide) (fun h => False.elim (by revert h; decide)) (fun _ => ?_)
    refine lv_iload_n hx hb dX0_isUnder_10 rfl (lv_at hl 1 rfl) ?_
    refine lv_if_lt (tgt := 32) hx hb dX0_isUnder_11 (by decide) (fun h => False.elim (by revert h; decide)) (fun _ => ?_)
    refine lv_iload_n hx hb dX0_isUnder_14 rfl (lv_at hl 1 rfl) ?_
    refine lv_iload_n hx hb dX0_isUnder_15 rfl (lv_at hl 3 rfl) ?_
    refine lv_icmp_ne (tgt := 21) hx hb dX0_isUnder_16 (by decide) (fun c_3 => ?_) (fun c_3 => ?_)
    · skip
      refine lv_iload_n hx hb dX0_isUnder_21 rfl (lv_at hl 1 rfl) ?_
      refine hd_callSi (As := [.int 0]) (rest := []) ⟨hx, hb, hml, hown, hts⟩ hE hP hS (c_X0_kindAbove l G u 0) rfl (va_cwS 1 hts gX0_isUnder_X0_kindAbove rfl rfl rfl (by decide +kernel) ⟨Nat.le_of_ble_eq_true rfl, Nat.le_of_ble_eq_true rfl⟩) rfl hl.1 rfl (Nat.le_of_ble_eq_true rfl) dX0_isUnder_22 (fun rq_4 vq_4 H locs q_4 hP hS => ?_)
      have hP := hP.cast (q_4.2)
      refine lv_cast q_4.1 ?_
      refine lv_cast (y := (-1)) (by decide) ?_
      refine lv_istore_n (lv' := [(2, .int (-1)), (3, .int 1), (0, .int 1), (1, .int ab)]) hx hb dX0_isUnder_25 rfl hl (by decide) rfl (fun ls hl => ?_)
      refine lv_iinc (v := 2) (lv' := [(3, .int 2), (2, .int (-1)), (0, .int 1), (1, .int ab)]) hx hb dX0_isUnder_26 hl (k := 1) rfl (by decide) (by decide) rfl (fun ls hl => ?_)
      refine lv_goto (tgt := 4) hx hb dX0_isUnder_29 (by decide) ?_
      refine lv_iload_n hx hb dX0_isUnder_4 rfl (lv_at hl 0 rfl) ?_
      refine lv_bipush (v := 6) hx hb dX0_isUnder_5 (by decide) ?_
      refine lv_icmp_ge (tgt := 32) hx hb dX0_isUnder_7 (by decide) (fun h => False.elim (by revert h; decide)) (fun _ => ?_)
      refine lv_iload_n hx hb dX0_isUnder_10 rfl (lv_at hl 1 rfl) ?_
      refine lv_if_lt (tgt := 32) hx hb dX0_isUnder_11 (by decide) (fun _ => ?_) (fun h => False.elim (by revert h; decide))
      refine lv_iconst (v := 0) hx hb dX0_isUnder_32 (by decide) ?_
      exact hd_zret hx hb hr hlocks hP hS ⟨(by simp [asMay, bI, Ne.symm c_1, Ne.symm c_3]; done), rfl⟩ rfl dX0_isUnder_33
    · skip
      refine lv_iconst (v := 1) hx hb dX0_isUnder_19 (by decide) ?_
      exact hd_zret hx hb hr hlocks hP hS ⟨(by subst c_3; decide), rfl⟩ rfl dX0_isUnder_20
  · skip
    refine lv_iconst (v := 1) hx hb dX0_isUnder_19 (by decide) ?_
    exact hd_zret hx hb hr hlocks hP hS ⟨(by subst c_1; decide), rfl⟩ rfl dX0_isUnder_20
set_option maxHeartbeats 4000000 in
set_option maxRecDepth 100000 in
/-- Kinds.isUnder of kind 2 -/
theorem c_X0_isUnder_2 (l : Launch) (G : Geo) (u : Sg) (ab : Int32) : CtI l G yX0_isUnder wsX0_isUnder (rmO 1 20) [.int 2, .int ab] u (fun r v => r = bI (asMay 2 ab) ∧ v = u) := by
  refine CtI.of (cc := cX0_isUnder) (maxL := 4) (ret := (some .boolean)) (own := RX0) (by decide) rfl rfl ?_
  rintro pg ev s0 mm below meth cd ⟨hx, hb, hr, hml, hown, hts, hlocks⟩ hE hP ls hl
  have hS : va_S (gA G) s0.heap s0.heap [] := va_S.rf
  have hl : lv_has ls 4 [(0, .int 2), (1, .int ab)] := hl
  refine lv_iload_n hx hb dX0_isUnder_0 rfl (lv_at hl 0 rfl) ?_
  refine lv_istore_n (lv' := [(2, .int 2), (0, .int 2), (1, .int ab)]) hx hb dX0_isUnder_1 rfl hl (by decide) rfl (fun ls hl => ?_)
  refine lv_iconst (v := 0) hx hb dX0_isUnder_2 (by decide) ?_
  refine lv_istore_n (lv' := [(3, .int 0), (2, .int 2), (0, .int 2), (1, .int ab)]) hx hb dX0_isUnder_3 rfl hl (by decide) rfl (fun ls hl => ?_)
  refine lv_iload_n hx hb dX0_isUnder_4 rfl (lv_at hl 0 rfl) ?_
  refine lv_bipush (v := 6) hx hb dX0_isUnder_5 (by decide) ?_
  refine lv_icmp_ge (tgt := 32) hx hb dX0_isUnder_7 (by decide) (fun h => False.elim (by revert h; decide)) (fun _ => ?_)
  refine lv_iload_n hx hb dX0_isUnder_10 rfl (lv_at hl 1 rfl) ?_
  refine lv_if_lt (tgt := 32) hx hb dX0_isUnder_11 (by decide) (fun h => False.elim (by revert h; decide)) (fun _ => ?_)
  refine lv_iload_n hx hb dX0_isUnder_14 rfl (lv_at hl 1 rfl) ?_
  refine lv_iload_n hx hb dX0_isUnder_15 rfl (lv_at hl 3 rfl) ?_
  refine lv_icmp_ne (tgt := 21) hx hb dX0_isUnder_16 (by decide) (fun c_1 => ?_) (fun c_1 => ?_)
  · skip
    refine lv_iload_n hx hb dX0_isUnder_21 rfl (lv_at hl 1 rfl) ?_
    refine hd_callSi (As := [.int 2]) (rest := []) ⟨hx, hb, hml, hown, hts⟩ hE hP hS (c_X0_kindAbove l G u 2) rfl (va_cwS 1 hts gX0_isUnder_X0_kindAbove rfl rfl rfl (by decide +kernel) ⟨Nat.le_of_ble_eq_true rfl, Nat.le_of_ble_eq_true rfl⟩) rfl hl.1 rfl (Nat.le_of_ble_eq_true rfl) dX0_isUnder_22 (fun rq_2 vq_2 H locs q_2 hP hS => ?_)
    have hP := hP.cast (q_2.2)
    refine lv_cast q_2.1 ?_
    refine lv_cast (y := 0) (by decide) ?_
    refine lv_istore_n (lv' := [(2, .int 0), (3, .int 0), (0, .int 2), (1, .int ab)]) hx hb dX0_isUnder_25 rfl hl (by decide) rfl (fun ls hl => ?_)
    refine lv_iinc (v := 1) (lv' := [(3, .int 1), (2, .int 0), (0, .int 2), (1, .int ab)]) hx hb dX0_isUnder_26 hl (k := 1) rfl (by decide) (by decide) rfl (fun ls hl => ?_)
    refine lv_goto (tgt := 4) hx hb dX0_isUnder_29 (by decide) ?_
    refine lv_iload_n hx hb dX0_isUnder_4 rfl (lv_at hl 0 rfl) ?_
    refine lv_bipush (v := 6) hx hb dX0_isUnder_5 (by decide) ?_
    refine lv_icmp_ge (tgt := 32) hx hb dX0_isUnder_7 (by decide) (fun h => False.elim (by revert h; decide)) (fun _ => ?_)
    refine lv_iload_n hx hb dX0_isUnder_10 rfl (lv_at hl 1 rfl) ?_
    refine lv_if_lt (tgt := 32) hx hb dX0_isUnder_11 (by decide) (fun h => False.elim (by revert h; decide)) (fun _ => ?_)
    refine lv_iload_n hx hb dX0_isUnder_14 rfl (lv_at hl 1 rfl) ?_
    refine lv_iload_n hx hb dX0_isUnder_15 rfl (lv_at hl 3 rfl) ?_
    refine lv_icmp_ne (tgt := 21) hx hb dX0_isUnder_16 (by decide) (fun c_3 => ?_) (fun c_3 => ?_)
    · skip
      refine lv_iload_n hx hb dX0_isUnder_21 rfl (lv_at hl 1 rfl) ?_
      refine hd_callSi (As := [.int 0]) (rest := []) ⟨hx, hb, hml, hown, hts⟩ hE hP hS (c_X0_kindAbove l G u 0) rfl (va_cwS 1 hts gX0_isUnder_X0_kindAbove rfl rfl rfl (by decide +kernel) ⟨Nat.le_of_ble_eq_true rfl, Nat.le_of_ble_eq_true rfl⟩) rfl hl.1 rfl (Nat.le_of_ble_eq_true rfl) dX0_isUnder_22 (fun rq_4 vq_4 H locs q_4 hP hS => ?_)
      have hP := hP.cast (q_4.2)
      refine lv_cast q_4.1 ?_
      refine lv_cast (y := (-1)) (by decide) ?_
      refine lv_istore_n (lv' := [(2, .int (-1)), (3, .int 1), (0, .int 2), (1, .int ab)]) hx hb dX0_isUnder_25 rfl hl (by decide) rfl (fun ls hl => ?_)
      refine lv_iinc (v := 2) (lv' := [(3, .int 2), (2, .int (-1)), (0, .int 2), (1, .int ab)]) hx hb dX0_isUnder_26 hl (k := 1) rfl (by decide) (by decide) rfl (fun ls hl => ?_)
      refine lv_goto (tgt := 4) hx hb dX0_isUnder_29 (by decide) ?_
      refine lv_iload_n hx hb dX0_isUnder_4 rfl (lv_at hl 0 rfl) ?_
      refine lv_bipush (v := 6) hx hb dX0_isUnder_5 (by decide) ?_
      refine lv_icmp_ge (tgt := 32) hx hb dX0_isUnder_7 (by decide) (fun h => False.elim (by revert h; decide)) (fun _ => ?_)
      refine lv_iload_n hx hb dX0_isUnder_10 rfl (lv_at hl 1 rfl) ?_
      refine lv_if_lt (tgt := 32) hx hb dX0_isUnder_11 (by decide) (fun _ => ?_) (fun h => False.elim (by revert h; decide))
      refine lv_iconst (v := 0) hx hb dX0_isUnder_32 (by decide) ?_
      exact hd_zret hx hb hr hlocks hP hS ⟨(by simp [asMay, bI, Ne.symm c_1, Ne.symm c_3]; done), rfl⟩ rfl dX0_isUnder_33
    · skip
      refine lv_iconst (v := 1) hx hb dX0_isUnder_19 (by decide) ?_
      exact hd_zret hx hb hr hlocks hP hS ⟨(by subst c_3; decide), rfl⟩ rfl dX0_isUnder_20
  · skip
    refine lv_iconst (v := 1) hx hb dX0_isUnder_19 (by decide) ?_
    exact hd_zret hx hb hr hlocks hP hS ⟨(by subst c_1; decide), rfl⟩ rfl dX0_isUnder_20
set_option maxHeartbeats 4000000 in
set_option maxRecDepth 100000 in
/-- Kinds.isUnder of kind 3 -/
theorem c_X0_isUnder_3 (l : Launch) (G : Geo) (u : Sg) (ab : Int32) : CtI l G yX0_isUnder wsX0_isUnder (rmO 1 20) [.int 3, .int ab] u (fun r v => r = bI (asMay 3 ab) ∧ v = u) := by
  refine CtI.of (cc := cX0_isUnder) (maxL := 4) (ret := (some .boolean)) (own := RX0) (by decide) rfl rfl ?_
  rintro pg ev s0 mm below meth cd ⟨hx, hb, hr, hml, hown, hts, hlocks⟩ hE hP ls hl
  have hS : va_S (gA G) s0.heap s0.heap [] := va_S.rf
  have hl : lv_has ls 4 [(0, .int 3), (1, .int ab)] := hl
  refine lv_iload_n hx hb dX0_isUnder_0 rfl (lv_at hl 0 rfl) ?_
  refine lv_istore_n (lv' := [(2, .int 3), (0, .int 3), (1, .int ab)]) hx hb dX0_isUnder_1 rfl hl (by decide) rfl (fun ls hl => ?_)
  refine lv_iconst (v := 0) hx hb dX0_isUnder_2 (by decide) ?_
  refine lv_istore_n (lv' := [(3, .int 0), (2, .int 3), (0, .int 3), (1, .int ab)]) hx hb dX0_isUnder_3 rfl hl (by decide) rfl (fun ls hl => ?_)
  refine lv_iload_n hx hb dX0_isUnder_4 rfl (lv_at hl 0 rfl) ?_
  refine lv_bipush (v := 6) hx hb dX0_isUnder_5 (by decide) ?_
  refine lv_icmp_ge (tgt := 32) hx hb dX0_isUnder_7 (by decide) (fun h => False.elim (by revert h; decide)) (fun _ => ?_)
  refine lv_iload_n hx hb dX0_isUnder_10 rfl (lv_at hl 1 rfl) ?_
  refine lv_if_lt (tgt := 32) hx hb dX0_isUnder_11 (by decide) (fun h => False.elim (by revert h; decide)) (fun _ => ?_)
  refine lv_iload_n hx hb dX0_isUnder_14 rfl (lv_at hl 1 rfl) ?_
  refine lv_iload_n hx hb dX0_isUnder_15 rfl (lv_at hl 3 rfl) ?_
  refine lv_icmp_ne (tgt := 21) hx hb dX0_isUnder_16 (by decide) (fun c_1 => ?_) (fun c_1 => ?_)
  · skip
    refine lv_iload_n hx hb dX0_isUnder_21 rfl (lv_at hl 1 rfl) ?_
    refine hd_callSi (As := [.int 3]) (rest := []) ⟨hx, hb, hml, hown, hts⟩ hE hP hS (c_X0_kindAbove l G u 3) rfl (va_cwS 1 hts gX0_isUnder_X0_kindAbove rfl rfl rfl (by decide +kernel) ⟨Nat.le_of_ble_eq_true rfl, Nat.le_of_ble_eq_true rfl⟩) rfl hl.1 rfl (Nat.le_of_ble_eq_true rfl) dX0_isUnder_22 (fun rq_2 vq_2 H locs q_2 hP hS => ?_)
    have hP := hP.cast (q_2.2)
    refine lv_cast q_2.1 ?_
    refine lv_cast (y := 0) (by decide) ?_
    refine lv_istore_n (lv' := [(2, .int 0), (3, .int 0), (0, .int 3), (1, .int ab)]) hx hb dX0_isUnder_25 rfl hl (by decide) rfl (fun ls hl => ?_)
    refine lv_iinc (v := 1) (lv' := [(3, .int 1), (2, .int 0), (0, .int 3), (1, .int ab)]) hx hb dX0_isUnder_26 hl (k := 1) rfl (by decide) (by decide) rfl (fun ls hl => ?_)
    refine lv_goto (tgt := 4) hx hb dX0_isUnder_29 (by decide) ?_
    refine lv_iload_n hx hb dX0_isUnder_4 rfl (lv_at hl 0 rfl) ?_
    refine lv_bipush (v := 6) hx hb dX0_isUnder_5 (by decide) ?_
    refine lv_icmp_ge (tgt := 32) hx hb dX0_isUnder_7 (by decide) (fun h => False.elim (by revert h; decide)) (fun _ => ?_)
    refine lv_iload_n hx hb dX0_isUnder_10 rfl (lv_at hl 1 rfl) ?_
    refine lv_if_lt (tgt := 32) hx hb dX0_isUnder_11 (by decide) (fun h => False.elim (by revert h; decide)) (fun _ => ?_)
    refine lv_iload_n hx hb dX0_isUnder_14 rfl (lv_at hl 1 rfl) ?_
    refine lv_iload_n hx hb dX0_isUnder_15 rfl (lv_at hl 3 rfl) ?_
    refine lv_icmp_ne (tgt := 21) hx hb dX0_isUnder_16 (by decide) (fun c_3 => ?_) (fun c_3 => ?_)
    · skip
      refine lv_iload_n hx hb dX0_isUnder_21 rfl (lv_at hl 1 rfl) ?_
      refine hd_callSi (As := [.int 0]) (rest := []) ⟨hx, hb, hml, hown, hts⟩ hE hP hS (c_X0_kindAbove l G u 0) rfl (va_cwS 1 hts gX0_isUnder_X0_kindAbove rfl rfl rfl (by decide +kernel) ⟨Nat.le_of_ble_eq_true rfl, Nat.le_of_ble_eq_true rfl⟩) rfl hl.1 rfl (Nat.le_of_ble_eq_true rfl) dX0_isUnder_22 (fun rq_4 vq_4 H locs q_4 hP hS => ?_)
      have hP := hP.cast (q_4.2)
      refine lv_cast q_4.1 ?_
      refine lv_cast (y := (-1)) (by decide) ?_
      refine lv_istore_n (lv' := [(2, .int (-1)), (3, .int 1), (0, .int 3), (1, .int ab)]) hx hb dX0_isUnder_25 rfl hl (by decide) rfl (fun ls hl => ?_)
      refine lv_iinc (v := 2) (lv' := [(3, .int 2), (2, .int (-1)), (0, .int 3), (1, .int ab)]) hx hb dX0_isUnder_26 hl (k := 1) rfl (by decide) (by decide) rfl (fun ls hl => ?_)
      refine lv_goto (tgt := 4) hx hb dX0_isUnder_29 (by decide) ?_
      refine lv_iload_n hx hb dX0_isUnder_4 rfl (lv_at hl 0 rfl) ?_
      refine lv_bipush (v := 6) hx hb dX0_isUnder_5 (by decide) ?_
      refine lv_icmp_ge (tgt := 32) hx hb dX0_isUnder_7 (by decide) (fun h => False.elim (by revert h; decide)) (fun _ => ?_)
      refine lv_iload_n hx hb dX0_isUnder_10 rfl (lv_at hl 1 rfl) ?_
      refine lv_if_lt (tgt := 32) hx hb dX0_isUnder_11 (by decide) (fun _ => ?_) (fun h => False.elim (by revert h; decide))
      refine lv_iconst (v := 0) hx hb dX0_isUnder_32 (by decide) ?_
      exact hd_zret hx hb hr hlocks hP hS ⟨(by simp [asMay, bI, Ne.symm c_1, Ne.symm c_3]; done), rfl⟩ rfl dX0_isUnder_33
    · skip
      refine lv_iconst (v := 1) hx hb dX0_isUnder_19 (by decide) ?_
      exact hd_zret hx hb hr hlocks hP hS ⟨(by subst c_3; decide), rfl⟩ rfl dX0_isUnder_20
  · skip
    refine lv_iconst (v := 1) hx hb dX0_isUnder_19 (by decide) ?_
    exact hd_zret hx hb hr hlocks hP hS ⟨(by subst c_1; decide), rfl⟩ rfl dX0_isUnder_20
set_option maxHeartbeats 4000000 in
set_option maxRecDepth 100000 in
/-- Kinds.isUnder of kind 4 -/
theorem c_X0_isUnder_4 (l : Launch) (G : Geo) (u : Sg) (ab : Int32) : CtI l G yX0_isUnder wsX0_isUnder (rmO 1 20) [.int 4, .int ab] u (fun r v => r = bI (asMay 4 ab) ∧ v = u) := by
  refine CtI.of (cc := cX0_isUnder) (maxL := 4) (ret := (some .boolean)) (own := RX0) (by decide) rfl rfl ?_
  rintro pg ev s0 mm below meth cd ⟨hx, hb, hr, hml, hown, hts, hlocks⟩ hE hP ls hl
  have hS : va_S (gA G) s0.heap s0.heap [] := va_S.rf
  have hl : lv_has ls 4 [(0, .int 4), (1, .int ab)] := hl
  refine lv_iload_n hx hb dX0_isUnder_0 rfl (lv_at hl 0 rfl) ?_
  refine lv_istore_n (lv' := [(2, .int 4), (0, .int 4), (1, .int ab)]) hx hb dX0_isUnder_1 rfl hl (by decide) rfl (fun ls hl => ?_)
  refine lv_iconst (v := 0) hx hb dX0_isUnder_2 (by decide) ?_
  refine lv_istore_n (lv' := [(3, .int 0), (2, .int 4), (0, .int 4), (1, .int ab)]) hx hb dX0_isUnder_3 rfl hl (by decide) rfl (fun ls hl => ?_)
  refine lv_iload_n hx hb dX0_isUnder_4 rfl (lv_at hl 0 rfl) ?_
  refine lv_bipush (v := 6) hx hb dX0_isUnder_5 (by decide) ?_
  refine lv_icmp_ge (tgt := 32) hx hb dX0_isUnder_7 (by decide) (fun h => False.elim (by revert h; decide)) (fun _ => ?_)
  refine lv_iload_n hx hb dX0_isUnder_10 rfl (lv_at hl 1 rfl) ?_
  refine lv_if_lt (tgt := 32) hx hb dX0_isUnder_11 (by decide) (fun h => False.elim (by revert h; decide)) (fun _ => ?_)
  refine lv_iload_n hx hb dX0_isUnder_14 rfl (lv_at hl 1 rfl) ?_
  refine lv_iload_n hx hb dX0_isUnder_15 rfl (lv_at hl 3 rfl) ?_
  refine lv_icmp_ne (tgt := 21) hx hb dX0_isUnder_16 (by decide) (fun c_1 => ?_) (fun c_1 => ?_)
  · skip
    refine lv_iload_n hx hb dX0_isUnder_21 rfl (lv_at hl 1 rfl) ?_
    refine hd_callSi (As := [.int 4]) (rest := []) ⟨hx, hb, hml, hown, hts⟩ hE hP hS (c_X0_kindAbove l G u 4) rfl (va_cwS 1 hts gX0_isUnder_X0_kindAbove rfl rfl rfl (by decide +kernel) ⟨Nat.le_of_ble_eq_true rfl, Nat.le_of_ble_eq_true rfl⟩) rfl hl.1 rfl (Nat.le_of_ble_eq_true rfl) dX0_isUnder_22 (fun rq_2 vq_2 H locs q_2 hP hS => ?_)
    have hP := hP.cast (q_2.2)
    refine lv_cast q_2.1 ?_
    refine lv_cast (y := 3) (by decide) ?_
    refine lv_istore_n (lv' := [(2, .int 3), (3, .int 0), (0, .int 4), (1, .int ab)]) hx hb dX0_isUnder_25 rfl hl (by decide) rfl (fun ls hl => ?_)
    refine lv_iinc (v := 1) (lv' := [(3, .int 1), (2, .int 3), (0, .int 4), (1, .int ab)]) hx hb dX0_isUnder_26 hl (k := 1) rfl (by decide) (by decide) rfl (fun ls hl => ?_)
    refine lv_goto (tgt := 4) hx hb dX0_isUnder_29 (by decide) ?_
    refine lv_iload_n hx hb dX0_isUnder_4 rfl (lv_at hl 0 rfl) ?_
    refine lv_bipush (v := 6) hx hb dX0_isUnder_5 (by decide) ?_
    refine lv_icmp_ge (tgt := 32) hx hb dX0_isUnder_7 (by decide) (fun h => False.elim (by revert h; decide)) (fun _ => ?_)
    refine lv_iload_n hx hb dX0_isUnder_10 rfl (lv_at hl 1 rfl) ?_
    refine lv_if_lt (tgt := 32) hx hb dX0_isUnder_11 (by decide) (fun h => False.elim (by revert h; decide)) (fun _ => ?_)
    refine lv_iload_n hx hb dX0_isUnder_14 rfl (lv_at hl 1 rfl) ?_
    refine lv_iload_n hx hb dX0_isUnder_15 rfl (lv_at hl 3 rfl) ?_
    refine lv_icmp_ne (tgt := 21) hx hb dX0_isUnder_16 (by decide) (fun c_3 => ?_) (fun c_3 => ?_)
    · skip
      refine lv_iload_n hx hb dX0_isUnder_21 rfl (lv_at hl 1 rfl) ?_
      refine hd_callSi (As := [.int 3]) (rest := []) ⟨hx, hb, hml, hown, hts⟩ hE hP hS (c_X0_kindAbove l G u 3) rfl (va_cwS 1 hts gX0_isUnder_X0_kindAbove rfl rfl rfl (by decide +kernel) ⟨Nat.le_of_ble_eq_true rfl, Nat.le_of_ble_eq_true rfl⟩) rfl hl.1 rfl (Nat.le_of_ble_eq_true rfl) dX0_isUnder_22 (fun rq_4 vq_4 H locs q_4 hP hS => ?_)
      have hP := hP.cast (q_4.2)
      refine lv_cast q_4.1 ?_
      refine lv_cast (y := 0) (by decide) ?_
      refine lv_istore_n (lv' := [(2, .int 0), (3, .int 1), (0, .int 4), (1, .int ab)]) hx hb dX0_isUnder_25 rfl hl (by decide) rfl (fun ls hl => ?_)
      refine lv_iinc (v := 2) (lv' := [(3, .int 2), (2, .int 0), (0, .int 4), (1, .int ab)]) hx hb dX0_isUnder_26 hl (k := 1) rfl (by decide) (by decide) rfl (fun ls hl => ?_)
      refine lv_goto (tgt := 4) hx hb dX0_isUnder_29 (by decide) ?_
      refine lv_iload_n hx hb dX0_isUnder_4 rfl (lv_at hl 0 rfl) ?_
      refine lv_bipush (v := 6) hx hb dX0_isUnder_5 (by decide) ?_
      refine lv_icmp_ge (tgt := 32) hx hb dX0_isUnder_7 (by decide) (fun h => False.elim (by revert h; decide)) (fun _ => ?_)
      refine lv_iload_n hx hb dX0_isUnder_10 rfl (lv_at hl 1 rfl) ?_
      refine lv_if_lt (tgt := 32) hx hb dX0_isUnder_11 (by decide) (fun h => False.elim (by revert h; decide)) (fun _ => ?_)
      refine lv_iload_n hx hb dX0_isUnder_14 rfl (lv_at hl 1 rfl) ?_
      refine lv_iload_n hx hb dX0_isUnder_15 rfl (lv_at hl 3 rfl) ?_
      refine lv_icmp_ne (tgt := 21) hx hb dX0_isUnder_16 (by decide) (fun c_5 => ?_) (fun c_5 => ?_)
      · skip
        refine lv_iload_n hx hb dX0_isUnder_21 rfl (lv_at hl 1 rfl) ?_
        refine hd_callSi (As := [.int 0]) (rest := []) ⟨hx, hb, hml, hown, hts⟩ hE hP hS (c_X0_kindAbove l G u 0) rfl (va_cwS 1 hts gX0_isUnder_X0_kindAbove rfl rfl rfl (by decide +kernel) ⟨Nat.le_of_ble_eq_true rfl, Nat.le_of_ble_eq_true rfl⟩) rfl hl.1 rfl (Nat.le_of_ble_eq_true rfl) dX0_isUnder_22 (fun rq_6 vq_6 H locs q_6 hP hS => ?_)
        have hP := hP.cast (q_6.2)
        refine lv_cast q_6.1 ?_
        refine lv_cast (y := (-1)) (by decide) ?_
        refine lv_istore_n (lv' := [(2, .int (-1)), (3, .int 2), (0, .int 4), (1, .int ab)]) hx hb dX0_isUnder_25 rfl hl (by decide) rfl (fun ls hl => ?_)
        refine lv_iinc (v := 3) (lv' := [(3, .int 3), (2, .int (-1)), (0, .int 4), (1, .int ab)]) hx hb dX0_isUnder_26 hl (k := 1) rfl (by decide) (by decide) rfl (fun ls hl => ?_)
        refine lv_goto (tgt := 4) hx hb dX0_isUnder_29 (by decide) ?_
        refine lv_iload_n hx hb dX0_isUnder_4 rfl (lv_at hl 0 rfl) ?_
        refine lv_bipush (v := 6) hx hb dX0_isUnder_5 (by decide) ?_
        refine lv_icmp_ge (tgt := 32) hx hb dX0_isUnder_7 (by decide) (fun h => False.elim (by revert h; decide)) (fun _ => ?_)
        refine lv_iload_n hx hb dX0_isUnder_10 rfl (lv_at hl 1 rfl) ?_
        refine lv_if_lt (tgt := 32) hx hb dX0_isUnder_11 (by decide) (fun _ => ?_) (fun h => False.elim (by revert h; decide))
        refine lv_iconst (v := 0) hx hb dX0_isUnder_32 (by decide) ?_
        exact hd_zret hx hb hr hlocks hP hS ⟨(by simp [asMay, bI, Ne.symm c_1, Ne.symm c_3, Ne.symm c_5]; done), rfl⟩ rfl dX0_isUnder_33
      · skip
        refine lv_iconst (v := 1) hx hb dX0_isUnder_19 (by decide) ?_
        exact hd_zret hx hb hr hlocks hP hS ⟨(by subst c_5; decide), rfl⟩ rfl dX0_isUnder_20
    · skip
      refine lv_iconst (v := 1) hx hb dX0_isUnder_19 (by decide) ?_
      exact hd_zret hx hb hr hlocks hP hS ⟨(by subst c_3; decide), rfl⟩ rfl dX0_isUnder_20
  · skip
    refine lv_iconst (v := 1) hx hb dX0_isUnder_19 (by decide) ?_
    exact hd_zret hx hb hr hlocks hP hS ⟨(by subst c_1; decide), rfl⟩ rfl dX0_isUnder_20
set_option maxHeartbeats 4000000 in
set_option maxRecDepth 100000 in
/-- Kinds.isUnder of kind 5 -/
theorem c_X0_isUnder_5 (l : Launch) (G : Geo) (u : Sg) (ab : Int32) : CtI l G yX0_isUnder wsX0_isUnder (rmO 1 20) [.int 5, .int ab] u (fun r v => r = bI (asMay 5 ab) ∧ v = u) := by
  refine CtI.of (cc := cX0_isUnder) (maxL := 4) (ret := (some .boolean)) (own := RX0) (by decide) rfl rfl ?_
  rintro pg ev s0 mm below meth cd ⟨hx, hb, hr, hml, hown, hts, hlocks⟩ hE hP ls hl
  have hS : va_S (gA G) s0.heap s0.heap [] := va_S.rf
  have hl : lv_has ls 4 [(0, .int 5), (1, .int ab)] := hl
  refine lv_iload_n hx hb dX0_isUnder_0 rfl (lv_at hl 0 rfl) ?_
  refine lv_istore_n (lv' := [(2, .int 5), (0, .int 5), (1, .int ab)]) hx hb dX0_isUnder_1 rfl hl (by decide) rfl (fun ls hl => ?_)
  refine lv_iconst (v := 0) hx hb dX0_isUnder_2 (by decide) ?_
  refine lv_istore_n (lv' := [(3, .int 0), (2, .int 5), (0, .int 5), (1, .int ab)]) hx hb dX0_isUnder_3 rfl hl (by decide) rfl (fun ls hl => ?_)
  refine lv_iload_n hx hb dX0_isUnder_4 rfl (lv_at hl 0 rfl) ?_
  refine lv_bipush (v := 6) hx hb dX0_isUnder_5 (by decide) ?_
  refine lv_icmp_ge (tgt := 32) hx hb dX0_isUnder_7 (by decide) (fun h => False.elim (by revert h; decide)) (fun _ => ?_)
  refine lv_iload_n hx hb dX0_isUnder_10 rfl (lv_at hl 1 rfl) ?_
  refine lv_if_lt (tgt := 32) hx hb dX0_isUnder_11 (by decide) (fun h => False.elim (by revert h; decide)) (fun _ => ?_)
  refine lv_iload_n hx hb dX0_isUnder_14 rfl (lv_at hl 1 rfl) ?_
  refine lv_iload_n hx hb dX0_isUnder_15 rfl (lv_at hl 3 rfl) ?_
  refine lv_icmp_ne (tgt := 21) hx hb dX0_isUnder_16 (by decide) (fun c_1 => ?_) (fun c_1 => ?_)
  · skip
    refine lv_iload_n hx hb dX0_isUnder_21 rfl (lv_at hl 1 rfl) ?_
    refine hd_callSi (As := [.int 5]) (rest := []) ⟨hx, hb, hml, hown, hts⟩ hE hP hS (c_X0_kindAbove l G u 5) rfl (va_cwS 1 hts gX0_isUnder_X0_kindAbove rfl rfl rfl (by decide +kernel) ⟨Nat.le_of_ble_eq_true rfl, Nat.le_of_ble_eq_true rfl⟩) rfl hl.1 rfl (Nat.le_of_ble_eq_true rfl) dX0_isUnder_22 (fun rq_2 vq_2 H locs q_2 hP hS => ?_)
    have hP := hP.cast (q_2.2)
    refine lv_cast q_2.1 ?_
    refine lv_cast (y := 2) (by decide) ?_
    refine lv_istore_n (lv' := [(2, .int 2), (3, .int 0), (0, .int 5), (1, .int ab)]) hx hb dX0_isUnder_25 rfl hl (by decide) rfl (fun ls hl => ?_)
    refine lv_iinc (v := 1) (lv' := [(3, .int 1), (2, .int 2), (0, .int 5), (1, .int ab)]) hx hb dX0_isUnder_26 hl (k := 1) rfl (by decide) (by decide) rfl (fun ls hl => ?_)
    refine lv_goto (tgt := 4) hx hb dX0_isUnder_29 (by decide) ?_
    refine lv_iload_n hx hb dX0_isUnder_4 rfl (lv_at hl 0 rfl) ?_
    refine lv_bipush (v := 6) hx hb dX0_isUnder_5 (by decide) ?_
    refine lv_icmp_ge (tgt := 32) hx hb dX0_isUnder_7 (by decide) (fun h => False.elim (by revert h; decide)) (fun _ => ?_)
    refine lv_iload_n hx hb dX0_isUnder_10 rfl (lv_at hl 1 rfl) ?_
    refine lv_if_lt (tgt := 32) hx hb dX0_isUnder_11 (by decide) (fun h => False.elim (by revert h; decide)) (fun _ => ?_)
    refine lv_iload_n hx hb dX0_isUnder_14 rfl (lv_at hl 1 rfl) ?_
    refine lv_iload_n hx hb dX0_isUnder_15 rfl (lv_at hl 3 rfl) ?_
    refine lv_icmp_ne (tgt := 21) hx hb dX0_isUnder_16 (by decide) (fun c_3 => ?_) (fun c_3 => ?_)
    · skip
      refine lv_iload_n hx hb dX0_isUnder_21 rfl (lv_at hl 1 rfl) ?_
      refine hd_callSi (As := [.int 2]) (rest := []) ⟨hx, hb, hml, hown, hts⟩ hE hP hS (c_X0_kindAbove l G u 2) rfl (va_cwS 1 hts gX0_isUnder_X0_kindAbove rfl rfl rfl (by decide +kernel) ⟨Nat.le_of_ble_eq_true rfl, Nat.le_of_ble_eq_true rfl⟩) rfl hl.1 rfl (Nat.le_of_ble_eq_true rfl) dX0_isUnder_22 (fun rq_4 vq_4 H locs q_4 hP hS => ?_)
      have hP := hP.cast (q_4.2)
      refine lv_cast q_4.1 ?_
      refine lv_cast (y := 0) (by decide) ?_
      refine lv_istore_n (lv' := [(2, .int 0), (3, .int 1), (0, .int 5), (1, .int ab)]) hx hb dX0_isUnder_25 rfl hl (by decide) rfl (fun ls hl => ?_)
      refine lv_iinc (v := 2) (lv' := [(3, .int 2), (2, .int 0), (0, .int 5), (1, .int ab)]) hx hb dX0_isUnder_26 hl (k := 1) rfl (by decide) (by decide) rfl (fun ls hl => ?_)
      refine lv_goto (tgt := 4) hx hb dX0_isUnder_29 (by decide) ?_
      refine lv_iload_n hx hb dX0_isUnder_4 rfl (lv_at hl 0 rfl) ?_
      refine lv_bipush (v := 6) hx hb dX0_isUnder_5 (by decide) ?_
      refine lv_icmp_ge (tgt := 32) hx hb dX0_isUnder_7 (by decide) (fun h => False.elim (by revert h; decide)) (fun _ => ?_)
      refine lv_iload_n hx hb dX0_isUnder_10 rfl (lv_at hl 1 rfl) ?_
      refine lv_if_lt (tgt := 32) hx hb dX0_isUnder_11 (by decide) (fun h => False.elim (by revert h; decide)) (fun _ => ?_)
      refine lv_iload_n hx hb dX0_isUnder_14 rfl (lv_at hl 1 rfl) ?_
      refine lv_iload_n hx hb dX0_isUnder_15 rfl (lv_at hl 3 rfl) ?_
      refine lv_icmp_ne (tgt := 21) hx hb dX0_isUnder_16 (by decide) (fun c_5 => ?_) (fun c_5 => ?_)
      · skip
        refine lv_iload_n hx hb dX0_isUnder_21 rfl (lv_at hl 1 rfl) ?_
        refine hd_callSi (As := [.int 0]) (rest := []) ⟨hx, hb, hml, hown, hts⟩ hE hP hS (c_X0_kindAbove l G u 0) rfl (va_cwS 1 hts gX0_isUnder_X0_kindAbove rfl rfl rfl (by decide +kernel) ⟨Nat.le_of_ble_eq_true rfl, Nat.le_of_ble_eq_true rfl⟩) rfl hl.1 rfl (Nat.le_of_ble_eq_true rfl) dX0_isUnder_22 (fun rq_6 vq_6 H locs q_6 hP hS => ?_)
        have hP := hP.cast (q_6.2)
        refine lv_cast q_6.1 ?_
        refine lv_cast (y := (-1)) (by decide) ?_
        refine lv_istore_n (lv' := [(2, .int (-1)), (3, .int 2), (0, .int 5), (1, .int ab)]) hx hb dX0_isUnder_25 rfl hl (by decide) rfl (fun ls hl => ?_)
        refine lv_iinc (v := 3) (lv' := [(3, .int 3), (2, .int (-1)), (0, .int 5), (1, .int ab)]) hx hb dX0_isUnder_26 hl (k := 1) rfl (by decide) (by decide) rfl (fun ls hl => ?_)
        refine lv_goto (tgt := 4) hx hb dX0_isUnder_29 (by decide) ?_
        refine lv_iload_n hx hb dX0_isUnder_4 rfl (lv_at hl 0 rfl) ?_
        refine lv_bipush (v := 6) hx hb dX0_isUnder_5 (by decide) ?_
        refine lv_icmp_ge (tgt := 32) hx hb dX0_isUnder_7 (by decide) (fun h => False.elim (by revert h; decide)) (fun _ => ?_)
        refine lv_iload_n hx hb dX0_isUnder_10 rfl (lv_at hl 1 rfl) ?_
        refine lv_if_lt (tgt := 32) hx hb dX0_isUnder_11 (by decide) (fun _ => ?_) (fun h => False.elim (by revert h; decide))
        refine lv_iconst (v := 0) hx hb dX0_isUnder_32 (by decide) ?_
        exact hd_zret hx hb hr hlocks hP hS ⟨(by simp [asMay, bI, Ne.symm c_1, Ne.symm c_3, Ne.symm c_5]; done), rfl⟩ rfl dX0_isUnder_33
      · skip
        refine lv_iconst (v := 1) hx hb dX0_isUnder_19 (by decide) ?_
        exact hd_zret hx hb hr hlocks hP hS ⟨(by subst c_5; decide), rfl⟩ rfl dX0_isUnder_20
    · skip
      refine lv_iconst (v := 1) hx hb dX0_isUnder_19 (by decide) ?_
      exact hd_zret hx hb hr hlocks hP hS ⟨(by subst c_3; decide), rfl⟩ rfl dX0_isUnder_20
  · skip
    refine lv_iconst (v := 1) hx hb dX0_isUnder_19 (by decide) ?_
    exact hd_zret hx hb hr hlocks hP hS ⟨(by subst c_1; decide), rfl⟩ rfl dX0_isUnder_20
theorem c_X0_isUnder (l : Launch) (G : Geo) (u : Sg) (k ab : Int32) (hk : isKd k = true) : CtI l G yX0_isUnder wsX0_isUnder (rmO 1 20) [.int k, .int ab] u (fun r v => r = bI (asMay k ab) ∧ v = u) := by
  have h := isKd_cases hk
  rcases h with rfl | rfl | rfl | rfl | rfl | rfl
  · exact c_X0_isUnder_0 l G u ab
  · exact c_X0_isUnder_1 l G u ab
  · exact c_X0_isUnder_2 l G u ab
  · exact c_X0_isUnder_3 l G u ab
  · exact c_X0_isUnder_4 l G u ab
  · exact c_X0_isUnder_5 l G u ab
set_option maxHeartbeats 4000000 in
set_option maxRecDepth 100000 in
/-- Kinds.strangerGoes -/
theorem c_X0_strangerGoes (l : Launch) (G : Geo) (u : Sg) (load : Int32) (o : Bool) : CtI l G yX0_strangerGoes wsX0_strangerGoes (rmO 0 0) [.int load, .int (bI o)] u (fun r v => r = stGo load o ∧ v = u) := by
  refine CtI.of (cc := cX0_strangerGoes) (maxL := 2) (ret := (some .int)) (own := RX0) (by decide) rfl rfl ?_
  rintro pg ev s0 mm below meth cd ⟨hx, hb, hr, hml, hown, hts, hlocks⟩ hE hP ls hl
  have hS : va_S (gA G) s0.heap s0.heap [] := va_S.rf
  have hl : lv_has ls 2 [(0, .int load), (1, .int (bI o))] := hl
  refine lv_iload_n hx hb dX0_strangerGoes_0 rfl (lv_at hl 1 rfl) ?_
  refine bo_ne (tgt := 6) hx hb dX0_strangerGoes_1 (by decide) (fun c_1 => ?_) (fun c_1 => ?_)
  · skip
    refine lv_iload_n hx hb dX0_strangerGoes_6 rfl (lv_at hl 0 rfl) ?_
    refine lv_if_le (tgt := 15) hx hb dX0_strangerGoes_7 (by decide) (fun c_2 => ?_) (fun c_2 => ?_)
    · skip
      refine lv_bipush (v := 7) hx hb dX0_strangerGoes_15 (by decide) ?_
      exact hd_iret hx hb hr hlocks hP hS ⟨(by first | rfl | (simp only [stGo, c_1, c_2, ↓reduceIte]; done) | (simp only [stGo, c_1, c_2, ↓reduceIte] <;> rfl) | (simp [stGo, c_1, c_2]; done)), rfl⟩ dX0_strangerGoes_17
    · skip
      refine lv_bipush (v := 6) hx hb dX0_strangerGoes_10 (by decide) ?_
      refine lv_goto (tgt := 17) hx hb dX0_strangerGoes_12 (by decide) ?_
      exact hd_iret hx hb hr hlocks hP hS ⟨(by first | rfl | (simp only [stGo, c_1, c_2, ↓reduceIte]; done) | (simp only [stGo, c_1, c_2, ↓reduceIte] <;> rfl) | (simp [stGo, c_1, c_2]; done)), rfl⟩ dX0_strangerGoes_17
  · skip
    refine lv_iconst (v := 4) hx hb dX0_strangerGoes_4 (by decide) ?_
    exact hd_iret hx hb hr hlocks hP hS ⟨(by first | rfl | (simp only [stGo, c_1, ↓reduceIte]; done) | (simp only [stGo, c_1, ↓reduceIte] <;> rfl) | (simp [stGo, c_1]; done)), rfl⟩ dX0_strangerGoes_5
set_option maxHeartbeats 4000000 in
set_option maxRecDepth 100000 in
/-- Kinds.goesOf -/
theorem c_X0_goesOf (l : Launch) (G : Geo) (u : Sg) (k load : Int32) (o : Bool) : CtI l G yX0_goesOf wsX0_goesOf (rmO 1 21) [.int k, .int load, .int (bI o)] u (fun r v => r = goesBy k load o ∧ v = u) := by
  refine CtI.of (cc := cX0_goesOf) (maxL := 4) (ret := (some .int)) (own := RX0) (by decide) rfl rfl ?_
  rintro pg ev s0 mm below meth cd ⟨hx, hb, hr, hml, hown, hts, hlocks⟩ hE hP ls hl
  have hS : va_S (gA G) s0.heap s0.heap [] := va_S.rf
  have hl : lv_has ls 4 [(0, .int k), (1, .int load), (2, .int (bI o))] := hl
  refine lv_iload_n hx hb dX0_goesOf_0 rfl (lv_at hl 0 rfl) ?_
  by_cases k_1 : k = 2
  · refine lv_cast k_1 ?_
    refine lv_tableIn (tgt := 32) hx hb dX0_goesOf_1 (by decide) (by decide) rfl (by decide) ?_
    refine lv_iconst (v := 3) hx hb dX0_goesOf_32 (by decide) ?_
    refine lv_istore_n (lv' := [(3, .int 3), (0, .int k), (1, .int load), (2, .int (bI o))]) hx hb dX0_goesOf_33 rfl hl (by decide) rfl (fun ls hl => ?_)
    refine lv_goto (tgt := 59) hx hb dX0_goesOf_34 (by decide) ?_
    refine lv_iload_n hx hb dX0_goesOf_59 rfl (lv_at hl 2 rfl) ?_
    refine lv_iconst (v := 5) hx hb dX0_goesOf_60 (by decide) ?_
    refine lv_icmp_lt (tgt := 67) hx hb dX0_goesOf_61 (by decide) (fun c_2 => ?_) (fun c_2 => ?_)
    · skip
      refine lv_iload_n hx hb dX0_goesOf_67 rfl (lv_at hl 0 rfl) ?_
      refine lv_iconst (v := 1) hx hb dX0_goesOf_68 (by decide) ?_
      refine va_mmax hx hb (hml.trans hl.1.symm) hown (hts (.methodLink RX0 29 Lib.Math.max.name) (by decide +kernel)) (hts (.static Lib.Math.max.name) (by decide +kernel)) (hts (.initialized "java/lang/Math") (by decide +kernel)) (hts (.code Lib.Math.max.name Lib.Math.max.code 2 (some .int)) (by decide +kernel)) (Nat.le_of_ble_eq_true rfl) (Nat.le_of_ble_eq_true rfl) (Nat.zero_le _) (Nat.zero_le _) dX0_goesOf_69 ?_
      exact hd_iret hx hb hr hlocks hP hS ⟨(by first | (simp [goesBy, goesV, k_1, c_2]; done) | (rcases stGo_v load o with h9 | h9 | h9 <;> simp [goesBy, goesV, k_1, c_2, h9])), rfl⟩ dX0_goesOf_72
    · skip
      refine lv_iinc (v := 2) (lv' := [(3, .int 2), (0, .int k), (1, .int load), (2, .int (bI o))]) hx hb dX0_goesOf_64 hl (k := 0) rfl (by decide) (by decide) rfl (fun ls hl => ?_)
      refine lv_iload_n hx hb dX0_goesOf_67 rfl (lv_at hl 0 rfl) ?_
      refine lv_iconst (v := 1) hx hb dX0_goesOf_68 (by decide) ?_
      refine va_mmax hx hb (hml.trans hl.1.symm) hown (hts (.methodLink RX0 29 Lib.Math.max.name) (by decide +kernel)) (hts (.static Lib.Math.max.name) (by decide +kernel)) (hts (.initialized "java/lang/Math") (by decide +kernel)) (hts (.code Lib.Math.max.name Lib.Math.max.code 2 (some .int)) (by decide +kernel)) (Nat.le_of_ble_eq_true rfl) (Nat.le_of_ble_eq_true rfl) (Nat.zero_le _) (Nat.zero_le _) dX0_goesOf_69 ?_
      exact hd_iret hx hb hr hlocks hP hS ⟨(by first | (simp [goesBy, goesV, k_1, c_2]; done) | (rcases stGo_v load o with h9 | h9 | h9 <;> simp [goesBy, goesV, k_1, c_2, h9])), rfl⟩ dX0_goesOf_72
  by_cases k_3 : k = 3
  · refine lv_cast k_3 ?_
    refine lv_tableIn (tgt := 37) hx hb dX0_goesOf_1 (by decide) (by decide) rfl (by decide) ?_
    refine lv_iload_n hx hb dX0_goesOf_37 rfl (lv_at hl 1 rfl) ?_
    refine lv_iload_n hx hb dX0_goesOf_38 rfl (lv_at hl 2 rfl) ?_
    refine hd_callSi (As := [.int load, .int (bI o)]) (rest := []) ⟨hx, hb, hml, hown, hts⟩ hE hP hS (c_X0_strangerGoes l G u load o) rfl (va_cwS 2 hts gX0_goesOf_X0_strangerGoes rfl rfl rfl (by decide +kernel) ⟨Nat.le_of_ble_eq_true rfl, Nat.le_of_ble_eq_true rfl⟩) rfl hl.1 rfl (Nat.le_of_ble_eq_true rfl) dX0_goesOf_39 (fun rq_4 vq_4 H locs q_4 hP hS => ?_)
    have hP := hP.cast (q_4.2)
    refine lv_cast q_4.1 ?_
    refine lv_istore_n (lv' := [(3, .int (stGo load o)), (0, .int k), (1, .int load), (2, .int (bI o))]) hx hb dX0_goesOf_42 rfl hl (by decide) rfl (fun ls hl => ?_)
    refine lv_goto (tgt := 59) hx hb dX0_goesOf_43 (by decide) ?_
    refine lv_iload_n hx hb dX0_goesOf_59 rfl (lv_at hl 2 rfl) ?_
    refine lv_iconst (v := 5) hx hb dX0_goesOf_60 (by decide) ?_
    refine lv_icmp_lt (tgt := 67) hx hb dX0_goesOf_61 (by decide) (fun c_5 => ?_) (fun c_5 => ?_)
    · skip
      refine lv_iload_n hx hb dX0_goesOf_67 rfl (lv_at hl 0 rfl) ?_
      refine lv_iconst (v := 1) hx hb dX0_goesOf_68 (by decide) ?_
      refine va_mmax hx hb (hml.trans hl.1.symm) hown (hts (.methodLink RX0 29 Lib.Math.max.name) (by decide +kernel)) (hts (.static Lib.Math.max.name) (by decide +kernel)) (hts (.initialized "java/lang/Math") (by decide +kernel)) (hts (.code Lib.Math.max.name Lib.Math.max.code 2 (some .int)) (by decide +kernel)) (Nat.le_of_ble_eq_true rfl) (Nat.le_of_ble_eq_true rfl) (Nat.zero_le _) (Nat.zero_le _) dX0_goesOf_69 ?_
      exact hd_iret hx hb hr hlocks hP hS ⟨(by first | (simp [goesBy, goesV, k_1, k_3, c_5]; done) | (rcases stGo_v load o with h9 | h9 | h9 <;> simp [goesBy, goesV, k_1, k_3, c_5, h9])), rfl⟩ dX0_goesOf_72
    · skip
      refine lv_iinc (v := (stGo load o) + (-1)) (lv' := [(3, .int ((stGo load o) + (-1))), (0, .int k), (1, .int load), (2, .int (bI o))]) hx hb dX0_goesOf_64 hl (k := 0) rfl rfl (by decide) rfl (fun ls hl => ?_)
      refine lv_iload_n hx hb dX0_goesOf_67 rfl (lv_at hl 0 rfl) ?_
      refine lv_iconst (v := 1) hx hb dX0_goesOf_68 (by decide) ?_
      refine va_mmax hx hb (hml.trans hl.1.symm) hown (hts (.methodLink RX0 29 Lib.Math.max.name) (by decide +kernel)) (hts (.static Lib.Math.max.name) (by decide +kernel)) (hts (.initialized "java/lang/Math") (by decide +kernel)) (hts (.code Lib.Math.max.name Lib.Math.max.code 2 (some .int)) (by decide +kernel)) (Nat.le_of_ble_eq_true rfl) (Nat.le_of_ble_eq_true rfl) (Nat.zero_le _) (Nat.zero_le _) dX0_goesOf_69 ?_
      exact hd_iret hx hb hr hlocks hP hS ⟨(by first | (simp [goesBy, goesV, k_1, k_3, c_5]; done) | (rcases stGo_v load o with h9 | h9 | h9 <;> simp [goesBy, goesV, k_1, k_3, c_5, h9])), rfl⟩ dX0_goesOf_72
  by_cases k_6 : k = 4
  · refine lv_cast k_6 ?_
    refine lv_tableIn (tgt := 46) hx hb dX0_goesOf_1 (by decide) (by decide) rfl (by decide) ?_
    refine lv_iload_n hx hb dX0_goesOf_46 rfl (lv_at hl 1 rfl) ?_
    refine lv_iload_n hx hb dX0_goesOf_47 rfl (lv_at hl 2 rfl) ?_
    refine hd_callSi (As := [.int load, .int (bI o)]) (rest := []) ⟨hx, hb, hml, hown, hts⟩ hE hP hS (c_X0_strangerGoes l G u load o) rfl (va_cwS 2 hts gX0_goesOf_X0_strangerGoes rfl rfl rfl (by decide +kernel) ⟨Nat.le_of_ble_eq_true rfl, Nat.le_of_ble_eq_true rfl⟩) rfl hl.1 rfl (Nat.le_of_ble_eq_true rfl) dX0_goesOf_48 (fun rq_7 vq_7 H locs q_7 hP hS => ?_)
    have hP := hP.cast (q_7.2)
    refine lv_cast q_7.1 ?_
    refine lv_iconst (v := 1) hx hb dX0_goesOf_51 (by decide) ?_
    refine lv_isub hx hb dX0_goesOf_52 ?_
    refine lv_istore_n (lv' := [(3, .int ((stGo load o) - 1)), (0, .int k), (1, .int load), (2, .int (bI o))]) hx hb dX0_goesOf_53 rfl hl (by decide) rfl (fun ls hl => ?_)
    refine lv_goto (tgt := 59) hx hb dX0_goesOf_54 (by decide) ?_
    refine lv_iload_n hx hb dX0_goesOf_59 rfl (lv_at hl 2 rfl) ?_
    refine lv_iconst (v := 5) hx hb dX0_goesOf_60 (by decide) ?_
    refine lv_icmp_lt (tgt := 67) hx hb dX0_goesOf_61 (by decide) (fun c_8 => ?_) (fun c_8 => ?_)
    · skip
      refine lv_iload_n hx hb dX0_goesOf_67 rfl (lv_at hl 0 rfl) ?_
      refine lv_iconst (v := 1) hx hb dX0_goesOf_68 (by decide) ?_
      refine va_mmax hx hb (hml.trans hl.1.symm) hown (hts (.methodLink RX0 29 Lib.Math.max.name) (by decide +kernel)) (hts (.static Lib.Math.max.name) (by decide +kernel)) (hts (.initialized "java/lang/Math") (by decide +kernel)) (hts (.code Lib.Math.max.name Lib.Math.max.code 2 (some .int)) (by decide +kernel)) (Nat.le_of_ble_eq_true rfl) (Nat.le_of_ble_eq_true rfl) (Nat.zero_le _) (Nat.zero_le _) dX0_goesOf_69 ?_
      exact hd_iret hx hb hr hlocks hP hS ⟨(by first | (simp [goesBy, goesV, k_1, k_3, k_6, c_8]; done) | (rcases stGo_v load o with h9 | h9 | h9 <;> simp [goesBy, goesV, k_1, k_3, k_6, c_8, h9])), rfl⟩ dX0_goesOf_72
    · skip
      refine lv_iinc (v := ((stGo load o) - 1) + (-1)) (lv' := [(3, .int (((stGo load o) - 1) + (-1))), (0, .int k), (1, .int load), (2, .int (bI o))]) hx hb dX0_goesOf_64 hl (k := 0) rfl rfl (by decide) rfl (fun ls hl => ?_)
      refine lv_iload_n hx hb dX0_goesOf_67 rfl (lv_at hl 0 rfl) ?_
      refine lv_iconst (v := 1) hx hb dX0_goesOf_68 (by decide) ?_
      refine va_mmax hx hb (hml.trans hl.1.symm) hown (hts (.methodLink RX0 29 Lib.Math.max.name) (by decide +kernel)) (hts (.static Lib.Math.max.name) (by decide +kernel)) (hts (.initialized "java/lang/Math") (by decide +kernel)) (hts (.code Lib.Math.max.name Lib.Math.max.code 2 (some .int)) (by decide +kernel)) (Nat.le_of_ble_eq_true rfl) (Nat.le_of_ble_eq_true rfl) (Nat.zero_le _) (Nat.zero_le _) dX0_goesOf_69 ?_
      exact hd_iret hx hb hr hlocks hP hS ⟨(by first | (simp [goesBy, goesV, k_1, k_3, k_6, c_8]; done) | (rcases stGo_v load o with h9 | h9 | h9 <;> simp [goesBy, goesV, k_1, k_3, k_6, c_8, h9])), rfl⟩ dX0_goesOf_72
  by_cases k_9 : k = 5
  · refine lv_cast k_9 ?_
    refine lv_tableIn (tgt := 32) hx hb dX0_goesOf_1 (by decide) (by decide) rfl (by decide) ?_
    refine lv_iconst (v := 3) hx hb dX0_goesOf_32 (by decide) ?_
    refine lv_istore_n (lv' := [(3, .int 3), (0, .int k), (1, .int load), (2, .int (bI o))]) hx hb dX0_goesOf_33 rfl hl (by decide) rfl (fun ls hl => ?_)
    refine lv_goto (tgt := 59) hx hb dX0_goesOf_34 (by decide) ?_
    refine lv_iload_n hx hb dX0_goesOf_59 rfl (lv_at hl 2 rfl) ?_
    refine lv_iconst (v := 5) hx hb dX0_goesOf_60 (by decide) ?_
    refine lv_icmp_lt (tgt := 67) hx hb dX0_goesOf_61 (by decide) (fun c_10 => ?_) (fun c_10 => ?_)
    · skip
      refine lv_iload_n hx hb dX0_goesOf_67 rfl (lv_at hl 0 rfl) ?_
      refine lv_iconst (v := 1) hx hb dX0_goesOf_68 (by decide) ?_
      refine va_mmax hx hb (hml.trans hl.1.symm) hown (hts (.methodLink RX0 29 Lib.Math.max.name) (by decide +kernel)) (hts (.static Lib.Math.max.name) (by decide +kernel)) (hts (.initialized "java/lang/Math") (by decide +kernel)) (hts (.code Lib.Math.max.name Lib.Math.max.code 2 (some .int)) (by decide +kernel)) (Nat.le_of_ble_eq_true rfl) (Nat.le_of_ble_eq_true rfl) (Nat.zero_le _) (Nat.zero_le _) dX0_goesOf_69 ?_
      exact hd_iret hx hb hr hlocks hP hS ⟨(by first | (simp [goesBy, goesV, k_1, k_3, k_6, k_9, c_10]; done) | (rcases stGo_v load o with h9 | h9 | h9 <;> simp [goesBy, goesV, k_1, k_3, k_6, k_9, c_10, h9])), rfl⟩ dX0_goesOf_72
    · skip
      refine lv_iinc (v := 2) (lv' := [(3, .int 2), (0, .int k), (1, .int load), (2, .int (bI o))]) hx hb dX0_goesOf_64 hl (k := 0) rfl (by decide) (by decide) rfl (fun ls hl => ?_)
      refine lv_iload_n hx hb dX0_goesOf_67 rfl (lv_at hl 0 rfl) ?_
      refine lv_iconst (v := 1) hx hb dX0_goesOf_68 (by decide) ?_
      refine va_mmax hx hb (hml.trans hl.1.symm) hown (hts (.methodLink RX0 29 Lib.Math.max.name) (by decide +kernel)) (hts (.static Lib.Math.max.name) (by decide +kernel)) (hts (.initialized "java/lang/Math") (by decide +kernel)) (hts (.code Lib.Math.max.name Lib.Math.max.code 2 (some .int)) (by decide +kernel)) (Nat.le_of_ble_eq_true rfl) (Nat.le_of_ble_eq_true rfl) (Nat.zero_le _) (Nat.zero_le _) dX0_goesOf_69 ?_
      exact hd_iret hx hb hr hlocks hP hS ⟨(by first | (simp [goesBy, goesV, k_1, k_3, k_6, k_9, c_10]; done) | (rcases stGo_v load o with h9 | h9 | h9 <;> simp [goesBy, goesV, k_1, k_3, k_6, k_9, c_10, h9])), rfl⟩ dX0_goesOf_72
  refine lv_tableOut (tgt := 57) hx hb dX0_goesOf_1 (sw_out (lo := 2) (hi := 5) (by decide) (by decide) (fun k h1 h2 => by
    rcases (show k = 2 ∨ k = 3 ∨ k = 4 ∨ k = 5 by omega) with rfl | rfl | rfl | rfl
    · exact k_1
    · exact k_3
    · exact k_6
    · exact k_9
    )) (by decide) ?_
  refine lv_iconst (v := 4) hx hb dX0_goesOf_57 (by decide) ?_
  refine lv_istore_n (lv' := [(3, .int 4), (0, .int k), (1, .int load), (2, .int (bI o))]) hx hb dX0_goesOf_58 rfl hl (by decide) rfl (fun ls hl => ?_)
  refine lv_iload_n hx hb dX0_goesOf_59 rfl (lv_at hl 2 rfl) ?_
  refine lv_iconst (v := 5) hx hb dX0_goesOf_60 (by decide) ?_
  refine lv_icmp_lt (tgt := 67) hx hb dX0_goesOf_61 (by decide) (fun c_11 => ?_) (fun c_11 => ?_)
  · skip
    refine lv_iload_n hx hb dX0_goesOf_67 rfl (lv_at hl 0 rfl) ?_
    refine lv_iconst (v := 1) hx hb dX0_goesOf_68 (by decide) ?_
    refine va_mmax hx hb (hml.trans hl.1.symm) hown (hts (.methodLink RX0 29 Lib.Math.max.name) (by decide +kernel)) (hts (.static Lib.Math.max.name) (by decide +kernel)) (hts (.initialized "java/lang/Math") (by decide +kernel)) (hts (.code Lib.Math.max.name Lib.Math.max.code 2 (some .int)) (by decide +kernel)) (Nat.le_of_ble_eq_true rfl) (Nat.le_of_ble_eq_true rfl) (Nat.zero_le _) (Nat.zero_le _) dX0_goesOf_69 ?_
    exact hd_iret hx hb hr hlocks hP hS ⟨(by first | (simp [goesBy, goesV, k_1, k_3, k_6, k_9, c_11]; done) | (rcases stGo_v load o with h9 | h9 | h9 <;> simp [goesBy, goesV, k_1, k_3, k_6, k_9, c_11, h9])), rfl⟩ dX0_goesOf_72
  · skip
    refine lv_iinc (v := 3) (lv' := [(3, .int 3), (0, .int k), (1, .int load), (2, .int (bI o))]) hx hb dX0_goesOf_64 hl (k := 0) rfl (by decide) (by decide) rfl (fun ls hl => ?_)
    refine lv_iload_n hx hb dX0_goesOf_67 rfl (lv_at hl 0 rfl) ?_
    refine lv_iconst (v := 1) hx hb dX0_goesOf_68 (by decide) ?_
    refine va_mmax hx hb (hml.trans hl.1.symm) hown (hts (.methodLink RX0 29 Lib.Math.max.name) (by decide +kernel)) (hts (.static Lib.Math.max.name) (by decide +kernel)) (hts (.initialized "java/lang/Math") (by decide +kernel)) (hts (.code Lib.Math.max.name Lib.Math.max.code 2 (some .int)) (by decide +kernel)) (Nat.le_of_ble_eq_true rfl) (Nat.le_of_ble_eq_true rfl) (Nat.zero_le _) (Nat.zero_le _) dX0_goesOf_69 ?_
    exact hd_iret hx hb hr hlocks hP hS ⟨(by first | (simp [goesBy, goesV, k_1, k_3, k_6, k_9, c_11]; done) | (rcases stGo_v load o with h9 | h9 | h9 <;> simp [goesBy, goesV, k_1, k_3, k_6, k_9, c_11, h9])), rfl⟩ dX0_goesOf_72
set_option maxHeartbeats 4000000 in
set_option maxRecDepth 100000 in
/-- Kinds.holdsOf -/
theorem c_X0_holdsOf (l : Launch) (G : Geo) (u : Sg) (k f ld b : Int32) : CtI l G yX0_holdsOf wsX0_holdsOf (rmO 0 0) [.int k, .int f, .int ld, .int b] u (fun r v => r = hlds k f ld b ∧ v = u) := by
  refine CtI.of (cc := cX0_holdsOf) (maxL := 5) (ret := (some .int)) (own := RX0) (by decide) rfl rfl ?_
  rintro pg ev s0 mm below meth cd ⟨hx, hb, hr, hml, hown, hts, hlocks⟩ hE hP ls hl
  have hS : va_S (gA G) s0.heap s0.heap [] := va_S.rf
  have hl : lv_has ls 5 [(0, .int k), (1, .int f), (2, .int ld), (3, .int b)] := hl
  refine lv_iload_n hx hb dX0_holdsOf_0 rfl (lv_at hl 1 rfl) ?_
  refine lv_bipush (v := 12) hx hb dX0_holdsOf_1 (by decide) ?_
  refine lv_icmp_lt (tgt := 10) hx hb dX0_holdsOf_3 (by decide) (fun c_1 => ?_) (fun c_1 => ?_)
  · skip
    refine lv_iload_n hx hb dX0_holdsOf_10 rfl (lv_at hl 1 rfl) ?_
    refine lv_iconst (v := 4) hx hb dX0_holdsOf_11 (by decide) ?_
    refine lv_idiv hx hb dX0_holdsOf_12 (by decide) ?_
    refine lv_iconst (v := 1) hx hb dX0_holdsOf_13 (by decide) ?_
    refine lv_iadd hx hb dX0_holdsOf_14 ?_
    refine lv_istore (lv' := [(4, .int ((f / 4) + 1)), (0, .int k), (1, .int f), (2, .int ld), (3, .int b)]) hx hb dX0_holdsOf_15 hl (by decide) rfl (fun ls hl => ?_)
    refine lv_iload_n hx hb dX0_holdsOf_17 rfl (lv_at hl 1 rfl) ?_
    by_cases k_2 : k = 1
    · refine lv_cast k_2 ?_
      refine lv_tableIn (tgt := 52) hx hb dX0_holdsOf_18 (by decide) (by decide) rfl (by decide) ?_
      refine lv_iload_n hx hb dX0_holdsOf_52 rfl (lv_at hl 3 rfl) ?_
      refine lv_if_ne (tgt := 60) hx hb dX0_holdsOf_53 (by decide) (fun c_3 => ?_) (fun c_3 => ?_)
      · skip
        refine lv_iload hx hb dX0_holdsOf_60 (lv_at hl 0 rfl) ?_
        exact hd_iret hx hb hr hlocks hP hS ⟨(by first | rfl | (simp only [hlds, wkr, c_1, k_2, c_3, ↓reduceIte]; done) | (simp only [hlds, wkr, c_1, k_2, c_3, ↓reduceIte] <;> rfl) | (simp [hlds, wkr, c_1, k_2, c_3]; done)), rfl⟩ dX0_holdsOf_62
      · skip
        refine lv_iconst (v := 0) hx hb dX0_holdsOf_56 (by decide) ?_
        refine lv_goto (tgt := 62) hx hb dX0_holdsOf_57 (by decide) ?_
        exact hd_iret hx hb hr hlocks hP hS ⟨(by first | rfl | (simp only [hlds, wkr, c_1, k_2, c_3, ↓reduceIte]; done) | (simp only [hlds, wkr, c_1, k_2, c_3, ↓reduceIte] <;> rfl) | (simp [hlds, wkr, c_1, k_2, c_3]; done)), rfl⟩ dX0_holdsOf_62
    by_cases k_4 : k = 2
    · refine lv_cast k_4 ?_
      refine lv_tableIn (tgt := 63) hx hb dX0_holdsOf_18 (by decide) (by decide) rfl (by decide) ?_
      refine lv_iload hx hb dX0_holdsOf_63 (lv_at hl 0 rfl) ?_
      refine lv_iload_n hx hb dX0_holdsOf_65 rfl (lv_at hl 3 rfl) ?_
      refine lv_iadd hx hb dX0_holdsOf_66 ?_
      exact hd_iret hx hb hr hlocks hP hS ⟨(by first | rfl | (simp only [hlds, wkr, c_1, k_2, k_4, ↓reduceIte]; done) | (simp only [hlds, wkr, c_1, k_2, k_4, ↓reduceIte] <;> rfl) | (simp [hlds, wkr, c_1, k_2, k_4]; done)), rfl⟩ dX0_holdsOf_67
    by_cases k_5 : k = 3
    · refine lv_cast k_5 ?_
      refine lv_tableIn (tgt := 68) hx hb dX0_holdsOf_18 (by decide) (by decide) rfl (by decide) ?_
      refine lv_bipush (v := 9) hx hb dX0_holdsOf_68 (by decide) ?_
      exact hd_iret hx hb hr hlocks hP hS ⟨(by first | rfl | (simp only [hlds, wkr, c_1, k_2, k_4, k_5, ↓reduceIte]; done) | (simp only [hlds, wkr, c_1, k_2, k_4, k_5, ↓reduceIte] <;> rfl) | (simp [hlds, wkr, c_1, k_2, k_4, k_5]; done)), rfl⟩ dX0_holdsOf_70
    by_cases k_6 : k = 4
    · refine lv_cast k_6 ?_
      refine lv_tableIn (tgt := 71) hx hb dX0_holdsOf_18 (by decide) (by decide) rfl (by decide) ?_
      refine lv_iconst (v := 0) hx hb dX0_holdsOf_71 (by decide) ?_
      exact hd_iret hx hb hr hlocks hP hS ⟨(by first | rfl | (simp only [hlds, wkr, c_1, k_2, k_4, k_5, k_6, ↓reduceIte]; done) | (simp only [hlds, wkr, c_1, k_2, k_4, k_5, k_6, ↓reduceIte] <;> rfl) | (simp [hlds, wkr, c_1, k_2, k_4, k_5, k_6]; done)), rfl⟩ dX0_holdsOf_72
    by_cases k_7 : k = 5
    · refine lv_cast k_7 ?_
      refine lv_tableIn (tgt := 73) hx hb dX0_holdsOf_18 (by decide) (by decide) rfl (by decide) ?_
      refine lv_iload_n hx hb dX0_holdsOf_73 rfl (lv_at hl 4 rfl) ?_
      refine lv_if_ne (tgt := 81) hx hb dX0_holdsOf_74 (by decide) (fun c_8 => ?_) (fun c_8 => ?_)
      · skip
        refine lv_iload hx hb dX0_holdsOf_81 (lv_at hl 0 rfl) ?_
        refine lv_iload_n hx hb dX0_holdsOf_83 rfl (lv_at hl 3 rfl) ?_
        refine lv_iadd hx hb dX0_holdsOf_84 ?_
        exact hd_iret hx hb hr hlocks hP hS ⟨(by first | rfl | (simp only [hlds, wkr, c_1, k_2, k_4, k_5, k_6, k_7, c_8, ↓reduceIte]; done) | (simp only [hlds, wkr, c_1, k_2, k_4, k_5, k_6, k_7, c_8, ↓reduceIte] <;> rfl) | (simp [hlds, wkr, c_1, k_2, k_4, k_5, k_6, k_7, c_8]; done)), rfl⟩ dX0_holdsOf_85
      · skip
        refine lv_iconst (v := 0) hx hb dX0_holdsOf_77 (by decide) ?_
        refine lv_goto (tgt := 85) hx hb dX0_holdsOf_78 (by decide) ?_
        exact hd_iret hx hb hr hlocks hP hS ⟨(by first | rfl | (simp only [hlds, wkr, c_1, k_2, k_4, k_5, k_6, k_7, c_8, ↓reduceIte]; done) | (simp only [hlds, wkr, c_1, k_2, k_4, k_5, k_6, k_7, c_8, ↓reduceIte] <;> rfl) | (simp [hlds, wkr, c_1, k_2, k_4, k_5, k_6, k_7, c_8]; done)), rfl⟩ dX0_holdsOf_85
    refine lv_tableOut (tgt := 86) hx hb dX0_holdsOf_18 (sw_out (lo := 1) (hi := 5) (by decide) (by decide) (fun k h1 h2 => by
      rcases (show k = 1 ∨ k = 2 ∨ k = 3 ∨ k = 4 ∨ k = 5 by omega) with rfl | rfl | rfl | rfl | rfl
      · exact k_2
      · exact k_4
      · exact k_5
      · exact k_6
      · exact k_7
      )) (by decide) ?_
    refine lv_iload hx hb dX0_holdsOf_86 (lv_at hl 0 rfl) ?_
    exact hd_iret hx hb hr hlocks hP hS ⟨(by first | rfl | (simp only [hlds, wkr, c_1, k_2, k_4, k_5, k_6, k_7, ↓reduceIte]; done) | (simp only [hlds, wkr, c_1, k_2, k_4, k_5, k_6, k_7, ↓reduceIte] <;> rfl) | (simp [hlds, wkr, c_1, k_2, k_4, k_5, k_6, k_7]; done)), rfl⟩ dX0_holdsOf_88
  · skip
    refine lv_iconst (v := 0) hx hb dX0_holdsOf_6 (by decide) ?_
    refine lv_goto (tgt := 15) hx hb dX0_holdsOf_7 (by decide) ?_
    refine lv_istore (lv' := [(4, .int 0), (0, .int k), (1, .int f), (2, .int ld), (3, .int b)]) hx hb dX0_holdsOf_15 hl (by decide) rfl (fun ls hl => ?_)
    refine lv_iload_n hx hb dX0_holdsOf_17 rfl (lv_at hl 1 rfl) ?_
    by_cases k_9 : k = 1
    · refine lv_cast k_9 ?_
      refine lv_tableIn (tgt := 52) hx hb dX0_holdsOf_18 (by decide) (by decide) rfl (by decide) ?_
      refine lv_iload_n hx hb dX0_holdsOf_52 rfl (lv_at hl 3 rfl) ?_
      refine lv_if_ne (tgt := 60) hx hb dX0_holdsOf_53 (by decide) (fun c_10 => ?_) (fun c_10 => ?_)
      · skip
        refine lv_iload hx hb dX0_holdsOf_60 (lv_at hl 0 rfl) ?_
        exact hd_iret hx hb hr hlocks hP hS ⟨(by first | rfl | (simp only [hlds, wkr, c_1, k_9, c_10, ↓reduceIte]; done) | (simp only [hlds, wkr, c_1, k_9, c_10, ↓reduceIte] <;> rfl) | (simp [hlds, wkr, c_1, k_9, c_10]; done)), rfl⟩ dX0_holdsOf_62
      · skip
        refine lv_iconst (v := 0) hx hb dX0_holdsOf_56 (by decide) ?_
        refine lv_goto (tgt := 62) hx hb dX0_holdsOf_57 (by decide) ?_
        exact hd_iret hx hb hr hlocks hP hS ⟨(by first | rfl | (simp only [hlds, wkr, c_1, k_9, c_10, ↓reduceIte]; done) | (simp only [hlds, wkr, c_1, k_9, c_10, ↓reduceIte] <;> rfl) | (simp [hlds, wkr, c_1, k_9, c_10]; done)), rfl⟩ dX0_holdsOf_62
    by_cases k_11 : k = 2
    · refine lv_cast k_11 ?_
      refine lv_tableIn (tgt := 63) hx hb dX0_holdsOf_18 (by decide) (by decide) rfl (by decide) ?_
      refine lv_iload hx hb dX0_holdsOf_63 (lv_at hl 0 rfl) ?_
      refine lv_iload_n hx hb dX0_holdsOf_65 rfl (lv_at hl 3 rfl) ?_
      refine lv_iadd hx hb dX0_holdsOf_66 ?_
      exact hd_iret hx hb hr hlocks hP hS ⟨(by first | rfl | (simp only [hlds, wkr, c_1, k_9, k_11, ↓reduceIte]; done) | (simp only [hlds, wkr, c_1, k_9, k_11, ↓reduceIte] <;> rfl) | (simp [hlds, wkr, c_1, k_9, k_11]; done)), rfl⟩ dX0_holdsOf_67
    by_cases k_12 : k = 3
    · refine lv_cast k_12 ?_
      refine lv_tableIn (tgt := 68) hx hb dX0_holdsOf_18 (by decide) (by decide) rfl (by decide) ?_
      refine lv_bipush (v := 9) hx hb dX0_holdsOf_68 (by decide) ?_
      exact hd_iret hx hb hr hlocks hP hS ⟨(by first | rfl | (simp only [hlds, wkr, c_1, k_9, k_11, k_12, ↓reduceIte]; done) | (simp only [hlds, wkr, c_1, k_9, k_11, k_12, ↓reduceIte] <;> rfl) | (simp [hlds, wkr, c_1, k_9, k_11, k_12]; done)), rfl⟩ dX0_holdsOf_70
    by_cases k_13 : k = 4
    · refine lv_cast k_13 ?_
      refine lv_tableIn (tgt := 71) hx hb dX0_holdsOf_18 (by decide) (by decide) rfl (by decide) ?_
      refine lv_iconst (v := 0) hx hb dX0_holdsOf_71 (by decide) ?_
      exact hd_iret hx hb hr hlocks hP hS ⟨(by first | rfl | (simp only [hlds, wkr, c_1, k_9, k_11, k_12, k_13, ↓reduceIte]; done) | (simp only [hlds, wkr, c_1, k_9, k_11, k_12, k_13, ↓reduceIte] <;> rfl) | (simp [hlds, wkr, c_1, k_9, k_11, k_12, k_13]; done)), rfl⟩ dX0_holdsOf_72
    by_cases k_14 : k = 5
    · refine lv_cast k_14 ?_
      refine lv_tableIn (tgt := 73) hx hb dX0_holdsOf_18 (by decide) (by decide) rfl (by decide) ?_
      refine lv_iload_n hx hb dX0_holdsOf_73 rfl (lv_at hl 4 rfl) ?_
      refine lv_if_ne (tgt := 81) hx hb dX0_holdsOf_74 (by decide) (fun c_15 => ?_) (fun c_15 => ?_)
      · skip
        refine lv_iload hx hb dX0_holdsOf_81 (lv_at hl 0 rfl) ?_
        refine lv_iload_n hx hb dX0_holdsOf_83 rfl (lv_at hl 3 rfl) ?_
        refine lv_iadd hx hb dX0_holdsOf_84 ?_
        exact hd_iret hx hb hr hlocks hP hS ⟨(by first | rfl | (simp only [hlds, wkr, c_1, k_9, k_11, k_12, k_13, k_14, c_15, ↓reduceIte]; done) | (simp only [hlds, wkr, c_1, k_9, k_11, k_12, k_13, k_14, c_15, ↓reduceIte] <;> rfl) | (simp [hlds, wkr, c_1, k_9, k_11, k_12, k_13, k_14, c_15]; done)), rfl⟩ dX0_holdsOf_85
      · skip
        refine lv_iconst (v := 0) hx hb dX0_holdsOf_77 (by decide) ?_
        refine lv_goto (tgt := 85) hx hb dX0_holdsOf_78 (by decide) ?_
        exact hd_iret hx hb hr hlocks hP hS ⟨(by first | rfl | (simp only [hlds, wkr, c_1, k_9, k_11, k_12, k_13, k_14, c_15, ↓reduceIte]; done) | (simp only [hlds, wkr, c_1, k_9, k_11, k_12, k_13, k_14, c_15, ↓reduceIte] <;> rfl) | (simp [hlds, wkr, c_1, k_9, k_11, k_12, k_13, k_14, c_15]; done)), rfl⟩ dX0_holdsOf_85
    refine lv_tableOut (tgt := 86) hx hb dX0_holdsOf_18 (sw_out (lo := 1) (hi := 5) (by decide) (by decide) (fun k h1 h2 => by
      rcases (show k = 1 ∨ k = 2 ∨ k = 3 ∨ k = 4 ∨ k = 5 by omega) with rfl | rfl | rfl | rfl | rfl
      · exact k_9
      · exact k_11
      · exact k_12
      · exact k_13
      · exact k_14
      )) (by decide) ?_
    refine lv_iload hx hb dX0_holdsOf_86 (lv_at hl 0 rfl) ?_
    exact hd_iret hx hb hr hlocks hP hS ⟨(by first | rfl | (simp only [hlds, wkr, c_1, k_9, k_11, k_12, k_13, k_14, ↓reduceIte]; done) | (simp only [hlds, wkr, c_1, k_9, k_11, k_12, k_13, k_14, ↓reduceIte] <;> rfl) | (simp [hlds, wkr, c_1, k_9, k_11, k_12, k_13, k_14]; done)), rfl⟩ dX0_holdsOf_88
set_option maxHeartbeats 4000000 in
set_option maxRecDepth 100000 in
/-- Kinds.asksOf -/
theorem c_X0_asksOf (l : Launch) (G : Geo) (u : Sg) (k ca ld : Int32) : CtI l G yX0_asksOf wsX0_asksOf (rmO 0 0) [.int k, .int ca, .int ld] u (fun r v => r = bI (asks k ca ld) ∧ v = u) := by
  refine CtI.of (cc := cX0_asksOf) (maxL := 3) (ret := (some .boolean)) (own := RX0) (by decide) rfl rfl ?_
  rintro pg ev s0 mm below meth cd ⟨hx, hb, hr, hml, hown, hts, hlocks⟩ hE hP ls hl
  have hS : va_S (gA G) s0.heap s0.heap [] := va_S.rf
  have hl : lv_has ls 3 [(0, .int k), (1, .int ca), (2, .int ld)] := hl
  refine lv_iload_n hx hb dX0_asksOf_0 rfl (lv_at hl 0 rfl) ?_
  by_cases k_1 : k = 1
  · refine lv_cast k_1 ?_
    refine lv_tableIn (tgt := 36) hx hb dX0_asksOf_1 (by decide) (by decide) rfl (by decide) ?_
    refine lv_iload_n hx hb dX0_asksOf_36 rfl (lv_at hl 1 rfl) ?_
    refine lv_bipush (v := 20) hx hb dX0_asksOf_37 (by decide) ?_
    refine lv_icmp_lt (tgt := 46) hx hb dX0_asksOf_39 (by decide) (fun c_2 => ?_) (fun c_2 => ?_)
    · skip
      refine lv_iconst (v := 0) hx hb dX0_asksOf_46 (by decide) ?_
      exact hd_zret hx hb hr hlocks hP hS ⟨(by first | rfl | (simp only [asks, bI, k_1, c_2, ↓reduceIte]; done) | (simp only [asks, bI, k_1, c_2, ↓reduceIte] <;> rfl) | (simp [asks, bI, k_1, c_2]; done)), rfl⟩ rfl dX0_asksOf_47
    · skip
      refine lv_iconst (v := 1) hx hb dX0_asksOf_42 (by decide) ?_
      refine lv_goto (tgt := 47) hx hb dX0_asksOf_43 (by decide) ?_
      exact hd_zret hx hb hr hlocks hP hS ⟨(by first | rfl | (simp only [asks, bI, k_1, c_2, ↓reduceIte]; done) | (simp only [asks, bI, k_1, c_2, ↓reduceIte] <;> rfl) | (simp [asks, bI, k_1, c_2]; done)), rfl⟩ rfl dX0_asksOf_47
  by_cases k_3 : k = 2
  · refine lv_cast k_3 ?_
    refine lv_tableIn (tgt := 48) hx hb dX0_asksOf_1 (by decide) (by decide) rfl (by decide) ?_
    refine lv_iload_n hx hb dX0_asksOf_48 rfl (lv_at hl 1 rfl) ?_
    refine lv_bipush (v := 90) hx hb dX0_asksOf_49 (by decide) ?_
    refine lv_icmp_lt (tgt := 58) hx hb dX0_asksOf_51 (by decide) (fun c_4 => ?_) (fun c_4 => ?_)
    · skip
      refine lv_iconst (v := 0) hx hb dX0_asksOf_58 (by decide) ?_
      exact hd_zret hx hb hr hlocks hP hS ⟨(by first | rfl | (simp only [asks, bI, k_1, k_3, c_4, ↓reduceIte]; done) | (simp only [asks, bI, k_1, k_3, c_4, ↓reduceIte] <;> rfl) | (simp [asks, bI, k_1, k_3, c_4]; done)), rfl⟩ rfl dX0_asksOf_59
    · skip
      refine lv_iconst (v := 1) hx hb dX0_asksOf_54 (by decide) ?_
      refine lv_goto (tgt := 59) hx hb dX0_asksOf_55 (by decide) ?_
      exact hd_zret hx hb hr hlocks hP hS ⟨(by first | rfl | (simp only [asks, bI, k_1, k_3, c_4, ↓reduceIte]; done) | (simp only [asks, bI, k_1, k_3, c_4, ↓reduceIte] <;> rfl) | (simp [asks, bI, k_1, k_3, c_4]; done)), rfl⟩ rfl dX0_asksOf_59
  by_cases k_5 : k = 3
  · refine lv_cast k_5 ?_
    refine lv_tableIn (tgt := 60) hx hb dX0_asksOf_1 (by decide) (by decide) rfl (by decide) ?_
    refine lv_iconst (v := 0) hx hb dX0_asksOf_60 (by decide) ?_
    exact hd_zret hx hb hr hlocks hP hS ⟨(by first | rfl | (simp only [asks, bI, k_1, k_3, k_5, ↓reduceIte]; done) | (simp only [asks, bI, k_1, k_3, k_5, ↓reduceIte] <;> rfl) | (simp [asks, bI, k_1, k_3, k_5]; done)), rfl⟩ rfl dX0_asksOf_61
  by_cases k_6 : k = 4
  · refine lv_cast k_6 ?_
    refine lv_tableIn (tgt := 60) hx hb dX0_asksOf_1 (by decide) (by decide) rfl (by decide) ?_
    refine lv_iconst (v := 0) hx hb dX0_asksOf_60 (by decide) ?_
    exact hd_zret hx hb hr hlocks hP hS ⟨(by first | rfl | (simp only [asks, bI, k_1, k_3, k_5, k_6, ↓reduceIte]; done) | (simp only [asks, bI, k_1, k_3, k_5, k_6, ↓reduceIte] <;> rfl) | (simp [asks, bI, k_1, k_3, k_5, k_6]; done)), rfl⟩ rfl dX0_asksOf_61
  by_cases k_7 : k = 5
  · refine lv_cast k_7 ?_
    refine lv_tableIn (tgt := 62) hx hb dX0_asksOf_1 (by decide) (by decide) rfl (by decide) ?_
    refine lv_iload_n hx hb dX0_asksOf_62 rfl (lv_at hl 1 rfl) ?_
    refine lv_bipush (v := 10) hx hb dX0_asksOf_63 (by decide) ?_
    refine lv_icmp_lt (tgt := 72) hx hb dX0_asksOf_65 (by decide) (fun c_8 => ?_) (fun c_8 => ?_)
    · skip
      refine lv_iconst (v := 0) hx hb dX0_asksOf_72 (by decide) ?_
      exact hd_zret hx hb hr hlocks hP hS ⟨(by first | rfl | (simp only [asks, bI, k_1, k_3, k_5, k_6, k_7, c_8, ↓reduceIte]; done) | (simp only [asks, bI, k_1, k_3, k_5, k_6, k_7, c_8, ↓reduceIte] <;> rfl) | (simp [asks, bI, k_1, k_3, k_5, k_6, k_7, c_8]; done)), rfl⟩ rfl dX0_asksOf_73
    · skip
      refine lv_iconst (v := 1) hx hb dX0_asksOf_68 (by decide) ?_
      refine lv_goto (tgt := 73) hx hb dX0_asksOf_69 (by decide) ?_
      exact hd_zret hx hb hr hlocks hP hS ⟨(by first | rfl | (simp only [asks, bI, k_1, k_3, k_5, k_6, k_7, c_8, ↓reduceIte]; done) | (simp only [asks, bI, k_1, k_3, k_5, k_6, k_7, c_8, ↓reduceIte] <;> rfl) | (simp [asks, bI, k_1, k_3, k_5, k_6, k_7, c_8]; done)), rfl⟩ rfl dX0_asksOf_73
  refine lv_tableOut (tgt := 74) hx hb dX0_asksOf_1 (sw_out (lo := 1) (hi := 5) (by decide) (by decide) (fun k h1 h2 => by
    rcases (show k = 1 ∨ k = 2 ∨ k = 3 ∨ k = 4 ∨ k = 5 by omega) with rfl | rfl | rfl | rfl | rfl
    · exact k_1
    · exact k_3
    · exact k_5
    · exact k_6
    · exact k_7
    )) (by decide) ?_
  refine lv_iload_n hx hb dX0_asksOf_74 rfl (lv_at hl 1 rfl) ?_
  refine lv_bipush (v := 50) hx hb dX0_asksOf_75 (by decide) ?_
  refine lv_icmp_lt (tgt := 88) hx hb dX0_asksOf_77 (by decide) (fun c_9 => ?_) (fun c_9 => ?_)
  · skip
    refine lv_iconst (v := 0) hx hb dX0_asksOf_88 (by decide) ?_
    exact hd_zret hx hb hr hlocks hP hS ⟨(by first | rfl | (simp only [asks, bI, k_1, k_3, k_5, k_6, k_7, c_9, ↓reduceIte]; done) | (simp only [asks, bI, k_1, k_3, k_5, k_6, k_7, c_9, ↓reduceIte] <;> rfl) | (simp [asks, bI, k_1, k_3, k_5, k_6, k_7, c_9]; done)), rfl⟩ rfl dX0_asksOf_89
  · skip
    refine lv_iload_n hx hb dX0_asksOf_80 rfl (lv_at hl 2 rfl) ?_
    refine lv_if_ne (tgt := 88) hx hb dX0_asksOf_81 (by decide) (fun c_10 => ?_) (fun c_10 => ?_)
    · skip
      refine lv_iconst (v := 0) hx hb dX0_asksOf_88 (by decide) ?_
      exact hd_zret hx hb hr hlocks hP hS ⟨(by first | rfl | (simp only [asks, bI, k_1, k_3, k_5, k_6, k_7, c_9, c_10, ↓reduceIte]; done) | (simp only [asks, bI, k_1, k_3, k_5, k_6, k_7, c_9, c_10, ↓reduceIte] <;> rfl) | (simp [asks, bI, k_1, k_3, k_5, k_6, k_7, c_9, c_10]; done)), rfl⟩ rfl dX0_asksOf_89
    · skip
      refine lv_iconst (v := 1) hx hb dX0_asksOf_84 (by decide) ?_
      refine lv_goto (tgt := 89) hx hb dX0_asksOf_85 (by decide) ?_
      exact hd_zret hx hb hr hlocks hP hS ⟨(by first | rfl | (simp only [asks, bI, k_1, k_3, k_5, k_6, k_7, c_9, c_10, ↓reduceIte]; done) | (simp only [asks, bI, k_1, k_3, k_5, k_6, k_7, c_9, c_10, ↓reduceIte] <;> rfl) | (simp [asks, bI, k_1, k_3, k_5, k_6, k_7, c_9, c_10]; done)), rfl⟩ rfl dX0_asksOf_89
