set_option maxHeartbeats 1000000 in
set_option maxRecDepth 100000 in
/-- one call of the law -/
theorem law_call {pg : Program} {l : Launch} {ev : Env} {s0 : State} {mm : MethodId} {below : List Frame} {meth : Method} {cd : Code} {b L : Nat} {xs : Nat → Int32} (hL : L ≤ 3072) (C0 : lw_At pg s0 mm meth cd b L xs) {G : Geo} (hE : E0 G s0 s0.heap) (hbA : ¬ gA G b) (hz : ∀ q, gA G q → s0.heap.size ≤ q) (i : Nat) (hi : i + 6 ≤ L) {u : Sg} (hI : Inv u) {H : Heap} {locs : List Loc} {ls : Array Slot} (hP : WP G u H) (hS : va_S (gA G) s0.heap H locs) (hl : lv_has ls 4 [(0, .ref b), (1, .ref (gad G 0)), (2, .ref (gad G 34)), (3, .int (nI i))])
    (kk : ∀ (u : Sg) (H : Heap) (locs : List Loc), Inv u → WP G u H → va_S (gA G) s0.heap H locs → W pg l ev room_1 s0 mm #[Value.ref b] below meth cd H locs 600000 7302250 (lw_Z below #[Value.ref b] s0) (F0 mm 1204 ls [])) : W pg l ev room_1 s0 mm #[Value.ref b] below meth cd H locs 600000 7302250 (lw_Z below #[Value.ref b] s0) (F0 mm 27 ls []) := by
  have C1 := C0
  obtain ⟨hx, hb, hr, hml, hown, hts0, hX, hbl, hlocks, hgv⟩ := C1
  refine lv_aload_n hx hb dL_law_27 rfl (lv_at hl 0 rfl) ?_
  refine lv_iload_n hx hb dL_law_28 rfl (lv_at hl 3 rfl) ?_
  refine va_sld hx hb hX hbl hbA hS (vp_in_nI (show i < L by omega) (by omega)) dL_law_29 ?_
  refine lv_bipush (v := 63) hx hb dL_law_30 (by decide) ?_
  refine lv_iand hx hb dL_law_32 ?_
  generalize xs (nI i).toNatClampNeg &&& 63 = x9
  by_cases h_0 : x9 = 0
  · refine lv_cast h_0 ?_
    refine lv_tableIn (tgt := 188) hx hb dL_law_33 (by decide) (by decide) rfl (by decide) ?_
    exact lawc_door hL C0 hE hbA i hi hI hP hS hl kk
  by_cases h_1 : x9 = 1
  · refine lv_cast h_1 ?_
    refine lv_tableIn (tgt := 221) hx hb dL_law_33 (by decide) (by decide) rfl (by decide) ?_
    exact lawc_now hL C0 hE hbA i hi hI hP hS hl kk
  by_cases h_2 : x9 = 2
  · refine lv_cast h_2 ?_
    refine lv_tableIn (tgt := 244) hx hb dL_law_33 (by decide) (by decide) rfl (by decide) ?_
    exact lawc_person hL C0 hE hbA i hi hI hP hS hl kk
  by_cases h_3 : x9 = 3
  · refine lv_cast h_3 ?_
    refine lv_tableIn (tgt := 277) hx hb dL_law_33 (by decide) (by decide) rfl (by decide) ?_
    exact lawc_of hL C0 hE hbA i hi hI hP hS hl kk
  by_cases h_4 : x9 = 4
  · refine lv_cast h_4 ?_
    refine lv_tableIn (tgt := 310) hx hb dL_law_33 (by decide) (by decide) rfl (by decide) ?_
    exact lawc_set hL C0 hE hbA i hi hI hP hS hl kk
  by_cases h_5 : x9 = 5
  · refine lv_cast h_5 ?_
    refine lv_tableIn (tgt := 353) hx hb dL_law_33 (by decide) (by decide) rfl (by decide) ?_
    exact lawc_turn hL C0 hE hbA i hi hI hP hS hl kk
  by_cases h_6 : x9 = 6
  · refine lv_cast h_6 ?_
    refine lv_tableIn (tgt := 386) hx hb dL_law_33 (by decide) (by decide) rfl (by decide) ?_
    exact lawc_as hL C0 hE hbA i hi hI hP hS hl kk
  by_cases h_7 : x9 = 7
  · refine lv_cast h_7 ?_
    refine lv_tableIn (tgt := 419) hx hb dL_law_33 (by decide) (by decide) rfl (by decide) ?_
    exact lawc_holds hL C0 hE hbA i hi hI hP hS hl kk
  by_cases h_8 : x9 = 8
  · refine lv_cast h_8 ?_
    refine lv_tableIn (tgt := 452) hx hb dL_law_33 (by decide) (by decide) rfl (by decide) ?_
    exact lawc_asks hL C0 hE hbA i hi hI hP hS hl kk
  by_cases h_9 : x9 = 9
  · refine lv_cast h_9 ?_
    refine lv_tableIn (tgt := 485) hx hb dL_law_33 (by decide) (by decide) rfl (by decide) ?_
    exact lawc_seconds hL C0 hE hbA i hi hI hP hS hl kk
  by_cases h_10 : x9 = 10
  · refine lv_cast h_10 ?_
    refine lv_tableIn (tgt := 508) hx hb dL_law_33 (by decide) (by decide) rfl (by decide) ?_
    exact lawc_on hL C0 hE hbA i hi hI hP hS hl kk
  by_cases h_11 : x9 = 11
  · refine lv_cast h_11 ?_
    refine lv_tableIn (tgt := 551) hx hb dL_law_33 (by decide) (by decide) rfl (by decide) ?_
    exact lawc_loose hL C0 hE hbA i hi hI hP hS hl kk
  by_cases h_12 : x9 = 12
  · refine lv_cast h_12 ?_
    refine lv_tableIn (tgt := 574) hx hb dL_law_33 (by decide) (by decide) rfl (by decide) ?_
    exact lawc_comes hL C0 hE hbA i hi hI hP hS hl kk
  by_cases h_13 : x9 = 13
  · refine lv_cast h_13 ?_
    refine lv_tableIn (tgt := 597) hx hb dL_law_33 (by decide) (by decide) rfl (by decide) ?_
    exact lawc_shuts hL C0 hE hbA i hi hI hP hS hl kk
  by_cases h_14 : x9 = 14
  · refine lv_cast h_14 ?_
    refine lv_tableIn (tgt := 610) hx hb dL_law_33 (by decide) (by decide) rfl (by decide) ?_
    exact lawc_all hL C0 hE hbA i hi hI hP hS hl kk
  by_cases h_15 : x9 = 15
  · refine lv_cast h_15 ?_
    refine lv_tableIn (tgt := 623) hx hb dL_law_33 (by decide) (by decide) rfl (by decide) ?_
    exact lawc_care hL C0 hE hbA i hi hI hP hS hl kk
  by_cases h_16 : x9 = 16
  · refine lv_cast h_16 ?_
    refine lv_tableIn (tgt := 646) hx hb dL_law_33 (by decide) (by decide) rfl (by decide) ?_
    exact lawc_kind hL C0 hE hbA i hi hI hP hS hl kk
  by_cases h_17 : x9 = 17
  · refine lv_cast h_17 ?_
    refine lv_tableIn (tgt := 679) hx hb dL_law_33 (by decide) (by decide) rfl (by decide) ?_
    exact lawc_far hL C0 hE hbA i hi hI hP hS hl kk
  by_cases h_18 : x9 = 18
  · refine lv_cast h_18 ?_
    refine lv_tableIn (tgt := 712) hx hb dL_law_33 (by decide) (by decide) rfl (by decide) ?_
    exact lawc_order hL C0 hE hbA i hi hI hP hS hl kk
  by_cases h_19 : x9 = 19
  · refine lv_cast h_19 ?_
    refine lv_tableIn (tgt := 735) hx hb dL_law_33 (by decide) (by decide) rfl (by decide) ?_
    exact lawc_take hL C0 hE hbA i hi hI hP hS hl kk
  by_cases h_20 : x9 = 20
  · refine lv_cast h_20 ?_
    refine lv_tableIn (tgt := 758) hx hb dL_law_33 (by decide) (by decide) rfl (by decide) ?_
    exact lawc_load hL C0 hE hbA i hi hI hP hS hl kk
  by_cases h_21 : x9 = 21
  · refine lv_cast h_21 ?_
    refine lv_tableIn (tgt := 791) hx hb dL_law_33 (by decide) (by decide) rfl (by decide) ?_
    exact lawc_feed hL C0 hE hbA i hi hI hP hS hl kk
  by_cases h_22 : x9 = 22
  · refine lv_cast h_22 ?_
    refine lv_tableIn (tgt := 824) hx hb dL_law_33 (by decide) (by decide) rfl (by decide) ?_
    exact lawc_wipe hL C0 hE hbA i hi hI hP hS hl kk
  by_cases h_23 : x9 = 23
  · refine lv_cast h_23 ?_
    refine lv_tableIn (tgt := 837) hx hb dL_law_33 (by decide) (by decide) rfl (by decide) ?_
    exact lawc_morning hL C0 hE hbA i hi hI hP hS hl kk
  by_cases h_24 : x9 = 24
  · refine lv_cast h_24 ?_
    refine lv_tableIn (tgt := 850) hx hb dL_law_33 (by decide) (by decide) rfl (by decide) ?_
    exact lawc_sheet hL C0 hE hbA i hi hI hP hS hl kk
  by_cases h_25 : x9 = 25
  · refine lv_cast h_25 ?_
    refine lv_tableIn (tgt := 893) hx hb dL_law_33 (by decide) (by decide) rfl (by decide) ?_
    exact lawc_write hL C0 hE hbA i hi hI hP hS hl kk
  by_cases h_26 : x9 = 26
  · refine lv_cast h_26 ?_
    refine lv_tableIn (tgt := 967) hx hb dL_law_33 (by decide) (by decide) rfl (by decide) ?_
    exact lawc_copy hL C0 hE hbA i hi hI hP hS hl kk
  by_cases h_27 : x9 = 27
  · refine lv_cast h_27 ?_
    refine lv_tableIn (tgt := 1030) hx hb dL_law_33 (by decide) (by decide) rfl (by decide) ?_
    exact lawc_lays hL C0 hE hbA i hi hI hP hS hl kk
  by_cases h_28 : x9 = 28
  · refine lv_cast h_28 ?_
    refine lv_tableIn (tgt := 1053) hx hb dL_law_33 (by decide) (by decide) rfl (by decide) ?_
    exact lawc_book hL C0 hE hbA i hi hI hP hS hl kk
  by_cases h_29 : x9 = 29
  · refine lv_cast h_29 ?_
    refine lv_tableIn (tgt := 1086) hx hb dL_law_33 (by decide) (by decide) rfl (by decide) ?_
    exact lawc_read hL C0 hE hbA i hi hI hP hS hl kk
  by_cases h_30 : x9 = 30
  · refine lv_cast h_30 ?_
    refine lv_tableIn (tgt := 1119) hx hb dL_law_33 (by decide) (by decide) rfl (by decide) ?_
    exact lawc_image hL C0 hE hbA i hi hI hP hS hl kk
  by_cases h_31 : x9 = 31
  · refine lv_cast h_31 ?_
    refine lv_tableIn (tgt := 1132) hx hb dL_law_33 (by decide) (by decide) rfl (by decide) ?_
    exact lawc_undo hL C0 hE hbA i hi hI hP hS hl kk
  by_cases h_32 : x9 = 32
  · refine lv_cast h_32 ?_
    refine lv_tableIn (tgt := 1145) hx hb dL_law_33 (by decide) (by decide) rfl (by decide) ?_
    exact lawc_tear hL C0 hE hbA i hi hI hP hS hl kk
  by_cases h_33 : x9 = 33
  · refine lv_cast h_33 ?_
    refine lv_tableIn (tgt := 1158) hx hb dL_law_33 (by decide) (by decide) rfl (by decide) ?_
    exact lawc_count hL C0 hE hbA i hi hI hP hS hl kk
  by_cases h_34 : x9 = 34
  · refine lv_cast h_34 ?_
    refine lv_tableIn (tgt := 1181) hx hb dL_law_33 (by decide) (by decide) rfl (by decide) ?_
    exact lawc_status hL C0 hE hbA i hi hI hP hS hl kk
  refine lv_tableOut (tgt := 1204) hx hb dL_law_33 (sw_out (lo := 0) (hi := 34) (by decide) (by decide) (fun k h1 h2 => by
    rcases (show k = 0 ∨ k = 1 ∨ k = 2 ∨ k = 3 ∨ k = 4 ∨ k = 5 ∨ k = 6 ∨ k = 7 ∨ k = 8 ∨ k = 9 ∨ k = 10 ∨ k = 11 ∨ k = 12 ∨ k = 13 ∨ k = 14 ∨ k = 15 ∨ k = 16 ∨ k = 17 ∨ k = 18 ∨ k = 19 ∨ k = 20 ∨ k = 21 ∨ k = 22 ∨ k = 23 ∨ k = 24 ∨ k = 25 ∨ k = 26 ∨ k = 27 ∨ k = 28 ∨ k = 29 ∨ k = 30 ∨ k = 31 ∨ k = 32 ∨ k = 33 ∨ k = 34 by omega) with rfl | rfl | rfl | rfl | rfl | rfl | rfl | rfl | rfl | rfl | rfl | rfl | rfl | rfl | rfl | rfl | rfl | rfl | rfl | rfl | rfl | rfl | rfl | rfl | rfl | rfl | rfl | rfl | rfl | rfl | rfl | rfl | rfl | rfl | rfl
    · exact h_0
    · exact h_1
    · exact h_2
    · exact h_3
    · exact h_4
    · exact h_5
    · exact h_6
    · exact h_7
    · exact h_8
    · exact h_9
    · exact h_10
    · exact h_11
    · exact h_12
    · exact h_13
    · exact h_14
    · exact h_15
    · exact h_16
    · exact h_17
    · exact h_18
    · exact h_19
    · exact h_20
    · exact h_21
    · exact h_22
    · exact h_23
    · exact h_24
    · exact h_25
    · exact h_26
    · exact h_27
    · exact h_28
    · exact h_29
    · exact h_30
    · exact h_31
    · exact h_32
    · exact h_33
    · exact h_34
    )) (by decide) ?_
  exact kk u H locs hI hP hS
set_option maxHeartbeats 1000000 in
set_option maxRecDepth 100000 in
/-- the law's loop, from its head -/
theorem law_loop {pg : Program} {l : Launch} {ev : Env} {s0 : State} {mm : MethodId} {below : List Frame} {meth : Method} {cd : Code} {b L : Nat} {xs : Nat → Int32} (hL : L ≤ 3072) (C0 : lw_At pg s0 mm meth cd b L xs) {G : Geo} (hE : E0 G s0 s0.heap) (hbA : ¬ gA G b) (hz : ∀ q, gA G q → s0.heap.size ≤ q) : ∀ (n i : Nat), i ≤ L → L + 1 ≤ i + n → ∀ (u : Sg) (H : Heap) (locs : List Loc) (ls : Array Slot), Inv u → WP G u H → va_S (gA G) s0.heap H locs → lv_has ls 4 [(0, .ref b), (1, .ref (gad G 0)), (2, .ref (gad G 34)), (3, .int (nI i))] → W pg l ev room_1 s0 mm #[Value.ref b] below meth cd H locs 600000 7302250 (lw_Z below #[Value.ref b] s0) (F0 mm 18 ls []) := by
  have C1 := C0
  obtain ⟨hx, hb, hr, hml, hown, hts0, hX, hbl, hlocks, hgv⟩ := C1
  intro n
  induction n with
  | zero => intro i h1 h2; exact absurd h2 (by omega)
  | succ n ih =>
    intro i h1 h2 u H locs ls hI hP hS hl
    refine lv_iload_n hx hb dL_law_18 rfl (lv_at hl 3 rfl) ?_
    refine lv_aload_n hx hb dL_law_19 rfl (lv_at hl 0 rfl) ?_
    refine va_slen hx hb hX hbl hbA hS dL_law_20 ?_
    refine lv_bipush (v := 6) hx hb dL_law_21 (by decide) ?_
    refine lv_isub hx hb dL_law_23 ?_
    have e9 : (Int32.ofNat L - 6).toInt = (L : Int) - 6 := by
      have hq : (Int32.ofNat L).toInt = (L : Int) := nI_toInt (by omega)
      have h6 : (6 : Int32).toInt = 6 := rfl
      rw [ti_sub (by omega) (by omega), hq, h6]
    have ei : (nI i).toInt = (i : Int) := nI_toInt (by omega)
    refine lv_icmp_gt (tgt := 1210) hx hb dL_law_24 (by decide) (fun c9 => ?_) (fun c9 => ?_)
    · refine lv_iconst (v := 1) hx hb dL_law_1210 (by decide) ?_
      refine va_forget (fun q hq => hz _ (hS.2.2 q hq)) ?_
      exact lw_ret hx hb hr hlocks dL_law_1211
    · have hi : i + 6 ≤ L := by
        rcases Nat.lt_or_ge L (i + 6) with q | q
        · exact absurd (ti_lt.mpr (by rw [e9, ei]; omega)) c9
        · exact q
      refine law_call hL C0 hE hbA hz i hi hI hP hS hl (fun u H locs hI hP hS => ?_)
      refine lv_iinc (v := nI (i + 6)) (lv' := [(3, .int (nI (i + 6))), (0, .ref b), (1, .ref (gad G 0)), (2, .ref (gad G 34))]) hx hb dL_law_1204 hl (k := 3) rfl (incN _ _) (by decide) rfl (fun ls hl => ?_)
      refine lv_goto (tgt := 18) hx hb dL_law_1207 (by decide) ?_
      exact ih (i + 6) hi (by omega) u H locs ls hI hP hS (lv_sub hl [1, 2, 3, 0] rfl)
