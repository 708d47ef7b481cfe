set_option maxHeartbeats 4000000 in
set_option maxRecDepth 100000 in
theorem lawc_comes {pg : Program} {l : Launch} {ev : Env} {s0 : State} {mm : MethodId} {below : List Frame} {meth : Method} {cd : Code} {b L : Nat} {xs : Nat → Int32} (hL : L ≤ 3072) (C0 : lw_At pg s0 mm meth cd b L xs) {G : Geo} (hE : E0 G s0 s0.heap) (hbA : ¬ gA G b) (i : Nat) (hi : i + 6 ≤ L) {u : Sg} (hI : Inv u) {H : Heap} {locs : List Loc} {ls : Array Slot} (hP : WP G u H) (hS : va_S (gA G) s0.heap H locs) (hl : lv_has ls 4 [(0, .ref b), (1, .ref (gad G 0)), (2, .ref (gad G 34)), (3, .int (nI i))])
    (kk : ∀ (u : Sg) (H : Heap) (locs : List Loc), Inv u → WP G u H → va_S (gA G) s0.heap H locs → W pg l ev room_1 s0 mm #[Value.ref b] below meth cd H locs 600000 7302250 (lw_Z below #[Value.ref b] s0) (F0 mm 1204 ls [])) : W pg l ev room_1 s0 mm #[Value.ref b] below meth cd H locs 600000 7302250 (lw_Z below #[Value.ref b] s0) (F0 mm 574 ls []) := by
  obtain ⟨hx, hb, hr, hml, hown, hts0, hX, hbl, hlocks, hgv⟩ := C0
  have hts : ∀ w ∈ wsL_law, w.before #[Value.ref b] s0 = true := fun w h => hts0 w (wsL_law_in w h)
  refine lv_aload_n hx hb dL_law_574 rfl (lv_at hl 1 rfl) ?_
  refine lv_aload_n hx hb dL_law_575 rfl (lv_at hl 0 rfl) ?_
  refine lv_iload_n hx hb dL_law_576 rfl (lv_at hl 3 rfl) ?_
  refine lv_iconst (v := 1) hx hb dL_law_577 (by decide) ?_
  refine nn_iadd (a := i) (b := 1) hx hb dL_law_578 ?_
  refine va_sld hx hb hX hbl hbA hS (vp_in_nI (show i + 1 < L by omega) (by omega)) dL_law_579 ?_
  refine lv_cast (y := xs (i + 1)) (by rw [nI_clamp (show i + 1 < 2 ^ 31 by omega)]) ?_
  refine hl_callVi (As := [.int (xs (i + 1))]) (rest := []) ⟨hx, hb, hml, hown, hts⟩ hE hP hS (c_X4_comes l G u (u.1 0) (u.1 6) rfl rfl hI.1.1.2.1.1 (u.1 1) rfl hI.2.1 (xs (i + 1))) rfl (cwV 1 hts gL_law_X4_comes rfl rfl rfl (by decide +kernel) ⟨Nat.le_of_ble_eq_true rfl, Nat.le_of_ble_eq_true rfl⟩) (do_recv hE hP) rfl hl.1 rfl (Nat.le_of_ble_eq_true rfl) dL_law_580 ⟨Nat.le_refl _, Nat.le_refl _⟩ (fun r1 v1 H locs q1 hP hS => ?_)
  refine lv_aload_n hx hb dL_law_583 rfl (lv_at hl 2 rfl) ?_
  refine lv_aload_n hx hb dL_law_584 rfl (lv_at hl 0 rfl) ?_
  refine lv_iload_n hx hb dL_law_585 rfl (lv_at hl 3 rfl) ?_
  refine lv_iconst (v := 1) hx hb dL_law_586 (by decide) ?_
  refine nn_iadd (a := i) (b := 1) hx hb dL_law_587 ?_
  refine va_sld hx hb hX hbl hbA hS (vp_in_nI (show i + 1 < L by omega) (by omega)) dL_law_588 ?_
  refine lv_cast (y := xs (i + 1)) (by rw [nI_clamp (show i + 1 < 2 ^ 31 by omega)]) ?_
  refine hl_callVi (As := [.int (xs (i + 1))]) (rest := [.int r1]) ⟨hx, hb, hml, hown, hts⟩ hE hP hS (c_X5_comes l G v1 (u.1 0) (u.1 6) ((q1.fr (by decide) (by decide) (by decide)).trans hI.1.1.1.symm) ((q1.fr (by decide) (by decide) (by decide)).trans hI.1.1.2.2.symm) hI.1.1.2.1.1 (u.1 13) (q1.fr (by decide) (by decide) (by decide)) hI.2.2 (xs (i + 1))) rfl (cwV 1 hts gL_law_X5_comes rfl rfl rfl (by decide +kernel) ⟨Nat.le_of_ble_eq_true rfl, Nat.le_of_ble_eq_true rfl⟩) (mo_recv hE hP) rfl hl.1 rfl (Nat.le_of_ble_eq_true rfl) dL_law_589 ⟨Nat.le_refl _, Nat.le_refl _⟩ (fun r2 v2 H locs q2 hP hS => ?_)
  have hq := inv_P3 hI q1 q2 (hI.1.1.2.1.k (k_comes _ _ _))
  exact lv_icmp_eq (tgt := 1204) hx hb dL_law_592 (by decide) (fun _ => kk _ _ _ hq.2.tr hP.tr2 hS) (fun c9 => absurd hq.1 c9)
set_option maxHeartbeats 4000000 in
set_option maxRecDepth 100000 in
theorem lawc_shuts {pg : Program} {l : Launch} {ev : Env} {s0 : State} {mm : MethodId} {below : List Frame} {meth : Method} {cd : Code} {b L : Nat} {xs : Nat → Int32} (hL : L ≤ 3072) (C0 : lw_At pg s0 mm meth cd b L xs) {G : Geo} (hE : E0 G s0 s0.heap) (hbA : ¬ gA G b) (i : Nat) (hi : i + 6 ≤ L) {u : Sg} (hI : Inv u) {H : Heap} {locs : List Loc} {ls : Array Slot} (hP : WP G u H) (hS : va_S (gA G) s0.heap H locs) (hl : lv_has ls 4 [(0, .ref b), (1, .ref (gad G 0)), (2, .ref (gad G 34)), (3, .int (nI i))])
    (kk : ∀ (u : Sg) (H : Heap) (locs : List Loc), Inv u → WP G u H → va_S (gA G) s0.heap H locs → W pg l ev room_1 s0 mm #[Value.ref b] below meth cd H locs 600000 7302250 (lw_Z below #[Value.ref b] s0) (F0 mm 1204 ls [])) : W pg l ev room_1 s0 mm #[Value.ref b] below meth cd H locs 600000 7302250 (lw_Z below #[Value.ref b] s0) (F0 mm 597 ls []) := by
  obtain ⟨hx, hb, hr, hml, hown, hts0, hX, hbl, hlocks, hgv⟩ := C0
  have hts : ∀ w ∈ wsL_law, w.before #[Value.ref b] s0 = true := fun w h => hts0 w (wsL_law_in w h)
  refine lv_aload_n hx hb dL_law_597 rfl (lv_at hl 1 rfl) ?_
  refine hl_callVi (As := []) (rest := []) ⟨hx, hb, hml, hown, hts⟩ hE hP hS (c_X4_shuts l G u (u.1 0) (u.1 6) rfl rfl hI.1.1.2.1.1 (u.1 1) rfl hI.2.1 ) rfl (cwV 0 hts gL_law_X4_shuts rfl rfl rfl (by decide +kernel) ⟨Nat.le_of_ble_eq_true rfl, Nat.le_of_ble_eq_true rfl⟩) (do_recv hE hP) rfl hl.1 rfl (Nat.le_of_ble_eq_true rfl) dL_law_598 ⟨Nat.le_refl _, Nat.le_refl _⟩ (fun r1 v1 H locs q1 hP hS => ?_)
  refine lv_aload_n hx hb dL_law_601 rfl (lv_at hl 2 rfl) ?_
  refine hl_callVi (As := []) (rest := [.int r1]) ⟨hx, hb, hml, hown, hts⟩ hE hP hS (c_X5_shuts l G v1 (u.1 0) (u.1 6) ((q1.fr (by decide) (by decide) (by decide)).trans hI.1.1.1.symm) ((q1.fr (by decide) (by decide) (by decide)).trans hI.1.1.2.2.symm) hI.1.1.2.1.1 (u.1 13) (q1.fr (by decide) (by decide) (by decide)) hI.2.2 ) rfl (cwV 0 hts gL_law_X5_shuts rfl rfl rfl (by decide +kernel) ⟨Nat.le_of_ble_eq_true rfl, Nat.le_of_ble_eq_true rfl⟩) (mo_recv hE hP) rfl hl.1 rfl (Nat.le_of_ble_eq_true rfl) dL_law_602 ⟨Nat.le_refl _, Nat.le_refl _⟩ (fun r2 v2 H locs q2 hP hS => ?_)
  have hq := inv_P3 hI q1 q2 (hI.1.1.2.1.k (k_shuts _ _))
  exact lv_icmp_eq (tgt := 1204) hx hb dL_law_605 (by decide) (fun _ => kk _ _ _ hq.2.tr hP.tr2 hS) (fun c9 => absurd hq.1 c9)
set_option maxHeartbeats 4000000 in
set_option maxRecDepth 100000 in
theorem lawc_all {pg : Program} {l : Launch} {ev : Env} {s0 : State} {mm : MethodId} {below : List Frame} {meth : Method} {cd : Code} {b L : Nat} {xs : Nat → Int32} (hL : L ≤ 3072) (C0 : lw_At pg s0 mm meth cd b L xs) {G : Geo} (hE : E0 G s0 s0.heap) (hbA : ¬ gA G b) (i : Nat) (hi : i + 6 ≤ L) {u : Sg} (hI : Inv u) {H : Heap} {locs : List Loc} {ls : Array Slot} (hP : WP G u H) (hS : va_S (gA G) s0.heap H locs) (hl : lv_has ls 4 [(0, .ref b), (1, .ref (gad G 0)), (2, .ref (gad G 34)), (3, .int (nI i))])
    (kk : ∀ (u : Sg) (H : Heap) (locs : List Loc), Inv u → WP G u H → va_S (gA G) s0.heap H locs → W pg l ev room_1 s0 mm #[Value.ref b] below meth cd H locs 600000 7302250 (lw_Z below #[Value.ref b] s0) (F0 mm 1204 ls [])) : W pg l ev room_1 s0 mm #[Value.ref b] below meth cd H locs 600000 7302250 (lw_Z below #[Value.ref b] s0) (F0 mm 610 ls []) := by
  obtain ⟨hx, hb, hr, hml, hown, hts0, hX, hbl, hlocks, hgv⟩ := C0
  have hts : ∀ w ∈ wsL_law, w.before #[Value.ref b] s0 = true := fun w h => hts0 w (wsL_law_in w h)
  refine lv_aload_n hx hb dL_law_610 rfl (lv_at hl 1 rfl) ?_
  refine hl_callVi (As := []) (rest := []) ⟨hx, hb, hml, hown, hts⟩ hE hP hS (c_X4_all l G u (u.1 0) (u.1 6) rfl rfl hI.1.1.2.1.1 (u.1 1) rfl hI.2.1 ) rfl (cwV 0 hts gL_law_X4_all rfl rfl rfl (by decide +kernel) ⟨Nat.le_of_ble_eq_true rfl, Nat.le_of_ble_eq_true rfl⟩) (do_recv hE hP) rfl hl.1 rfl (Nat.le_of_ble_eq_true rfl) dL_law_611 ⟨Nat.le_refl _, Nat.le_refl _⟩ (fun r1 v1 H locs q1 hP hS => ?_)
  refine lv_aload_n hx hb dL_law_614 rfl (lv_at hl 2 rfl) ?_
  refine hl_callVi (As := []) (rest := [.int r1]) ⟨hx, hb, hml, hown, hts⟩ hE hP hS (c_X5_all l G v1 (u.1 0) (u.1 6) ((q1.fr (by decide) (by decide) (by decide)).trans hI.1.1.1.symm) ((q1.fr (by decide) (by decide) (by decide)).trans hI.1.1.2.2.symm) hI.1.1.2.1.1 (u.1 13) (q1.fr (by decide) (by decide) (by decide)) hI.2.2 ) rfl (cwV 0 hts gL_law_X5_all rfl rfl rfl (by decide +kernel) ⟨Nat.le_of_ble_eq_true rfl, Nat.le_of_ble_eq_true rfl⟩) (mo_recv hE hP) rfl hl.1 rfl (Nat.le_of_ble_eq_true rfl) dL_law_615 ⟨Nat.le_refl _, Nat.le_refl _⟩ (fun r2 v2 H locs q2 hP hS => ?_)
  have hq := inv_P3 hI q1 q2 (hI.1.1.2.1.k (k_all _ _))
  exact lv_icmp_eq (tgt := 1204) hx hb dL_law_618 (by decide) (fun _ => kk _ _ _ hq.2.tr hP.tr2 hS) (fun c9 => absurd hq.1 c9)
set_option maxHeartbeats 4000000 in
set_option maxRecDepth 100000 in
theorem lawc_care {pg : Program} {l : Launch} {ev : Env} {s0 : State} {mm : MethodId} {below : List Frame} {meth : Method} {cd : Code} {b L : Nat} {xs : Nat → Int32} (hL : L ≤ 3072) (C0 : lw_At pg s0 mm meth cd b L xs) {G : Geo} (hE : E0 G s0 s0.heap) (hbA : ¬ gA G b) (i : Nat) (hi : i + 6 ≤ L) {u : Sg} (hI : Inv u) {H : Heap} {locs : List Loc} {ls : Array Slot} (hP : WP G u H) (hS : va_S (gA G) s0.heap H locs) (hl : lv_has ls 4 [(0, .ref b), (1, .ref (gad G 0)), (2, .ref (gad G 34)), (3, .int (nI i))])
    (kk : ∀ (u : Sg) (H : Heap) (locs : List Loc), Inv u → WP G u H → va_S (gA G) s0.heap H locs → W pg l ev room_1 s0 mm #[Value.ref b] below meth cd H locs 600000 7302250 (lw_Z below #[Value.ref b] s0) (F0 mm 1204 ls [])) : W pg l ev room_1 s0 mm #[Value.ref b] below meth cd H locs 600000 7302250 (lw_Z below #[Value.ref b] s0) (F0 mm 623 ls []) := by
  obtain ⟨hx, hb, hr, hml, hown, hts0, hX, hbl, hlocks, hgv⟩ := C0
  have hts : ∀ w ∈ wsL_law, w.before #[Value.ref b] s0 = true := fun w h => hts0 w (wsL_law_in w h)
  refine lv_aload_n hx hb dL_law_623 rfl (lv_at hl 1 rfl) ?_
  refine lv_aload_n hx hb dL_law_624 rfl (lv_at hl 0 rfl) ?_
  refine lv_iload_n hx hb dL_law_625 rfl (lv_at hl 3 rfl) ?_
  refine lv_iconst (v := 1) hx hb dL_law_626 (by decide) ?_
  refine nn_iadd (a := i) (b := 1) hx hb dL_law_627 ?_
  refine va_sld hx hb hX hbl hbA hS (vp_in_nI (show i + 1 < L by omega) (by omega)) dL_law_628 ?_
  refine lv_cast (y := xs (i + 1)) (by rw [nI_clamp (show i + 1 < 2 ^ 31 by omega)]) ?_
  refine hl_callVi (As := [.int (xs (i + 1))]) (rest := []) ⟨hx, hb, hml, hown, hts⟩ hE hP hS (c_X4_care l G u (u.1 0) (u.1 6) rfl rfl hI.1.1.2.1.1 (u.1 1) rfl hI.2.1 (xs (i + 1))) rfl (cwV 1 hts gL_law_X4_care rfl rfl rfl (by decide +kernel) ⟨Nat.le_of_ble_eq_true rfl, Nat.le_of_ble_eq_true rfl⟩) (do_recv hE hP) rfl hl.1 rfl (Nat.le_of_ble_eq_true rfl) dL_law_629 ⟨Nat.le_refl _, Nat.le_refl _⟩ (fun r1 v1 H locs q1 hP hS => ?_)
  refine lv_aload_n hx hb dL_law_632 rfl (lv_at hl 2 rfl) ?_
  refine lv_aload_n hx hb dL_law_633 rfl (lv_at hl 0 rfl) ?_
  refine lv_iload_n hx hb dL_law_634 rfl (lv_at hl 3 rfl) ?_
  refine lv_iconst (v := 1) hx hb dL_law_635 (by decide) ?_
  refine nn_iadd (a := i) (b := 1) hx hb dL_law_636 ?_
  refine va_sld hx hb hX hbl hbA hS (vp_in_nI (show i + 1 < L by omega) (by omega)) dL_law_637 ?_
  refine lv_cast (y := xs (i + 1)) (by rw [nI_clamp (show i + 1 < 2 ^ 31 by omega)]) ?_
  refine hl_callVi (As := [.int (xs (i + 1))]) (rest := [.int r1]) ⟨hx, hb, hml, hown, hts⟩ hE hP hS (c_X5_care l G v1 (u.1 0) (u.1 6) ((q1.fr (by decide) (by decide) (by decide)).trans hI.1.1.1.symm) ((q1.fr (by decide) (by decide) (by decide)).trans hI.1.1.2.2.symm) hI.1.1.2.1.1 (u.1 13) (q1.fr (by decide) (by decide) (by decide)) hI.2.2 (xs (i + 1))) rfl (cwV 1 hts gL_law_X5_care rfl rfl rfl (by decide +kernel) ⟨Nat.le_of_ble_eq_true rfl, Nat.le_of_ble_eq_true rfl⟩) (mo_recv hE hP) rfl hl.1 rfl (Nat.le_of_ble_eq_true rfl) dL_law_638 ⟨Nat.le_refl _, Nat.le_refl _⟩ (fun r2 v2 H locs q2 hP hS => ?_)
  have hq := inv_P3 hI q1 q2 (hI.1.1.2.1.k (k_care _ _ _))
  exact lv_icmp_eq (tgt := 1204) hx hb dL_law_641 (by decide) (fun _ => kk _ _ _ hq.2.tr hP.tr2 hS) (fun c9 => absurd hq.1 c9)
set_option maxHeartbeats 4000000 in
set_option maxRecDepth 100000 in
theorem lawc_kind {pg : Program} {l : Launch} {ev : Env} {s0 : State} {mm : MethodId} {below : List Frame} {meth : Method} {cd : Code} {b L : Nat} {xs : Nat → Int32} (hL : L ≤ 3072) (C0 : lw_At pg s0 mm meth cd b L xs) {G : Geo} (hE : E0 G s0 s0.heap) (hbA : ¬ gA G b) (i : Nat) (hi : i + 6 ≤ L) {u : Sg} (hI : Inv u) {H : Heap} {locs : List Loc} {ls : Array Slot} (hP : WP G u H) (hS : va_S (gA G) s0.heap H locs) (hl : lv_has ls 4 [(0, .ref b), (1, .ref (gad G 0)), (2, .ref (gad G 34)), (3, .int (nI i))])
    (kk : ∀ (u : Sg) (H : Heap) (locs : List Loc), Inv u → WP G u H → va_S (gA G) s0.heap H locs → W pg l ev room_1 s0 mm #[Value.ref b] below meth cd H locs 600000 7302250 (lw_Z below #[Value.ref b] s0) (F0 mm 1204 ls [])) : W pg l ev room_1 s0 mm #[Value.ref b] below meth cd H locs 600000 7302250 (lw_Z below #[Value.ref b] s0) (F0 mm 646 ls []) := by
  obtain ⟨hx, hb, hr, hml, hown, hts0, hX, hbl, hlocks, hgv⟩ := C0
  have hts : ∀ w ∈ wsL_law, w.before #[Value.ref b] s0 = true := fun w h => hts0 w (wsL_law_in w h)
  refine lv_aload_n hx hb dL_law_646 rfl (lv_at hl 1 rfl) ?_
  refine lv_aload_n hx hb dL_law_647 rfl (lv_at hl 0 rfl) ?_
  refine lv_iload_n hx hb dL_law_648 rfl (lv_at hl 3 rfl) ?_
  refine lv_iconst (v := 1) hx hb dL_law_649 (by decide) ?_
  refine nn_iadd (a := i) (b := 1) hx hb dL_law_650 ?_
  refine va_sld hx hb hX hbl hbA hS (vp_in_nI (show i + 1 < L by omega) (by omega)) dL_law_651 ?_
  refine lv_cast (y := xs (i + 1)) (by rw [nI_clamp (show i + 1 < 2 ^ 31 by omega)]) ?_
  refine lv_aload_n hx hb dL_law_652 rfl (lv_at hl 0 rfl) ?_
  refine lv_iload_n hx hb dL_law_653 rfl (lv_at hl 3 rfl) ?_
  refine lv_iconst (v := 2) hx hb dL_law_654 (by decide) ?_
  refine nn_iadd (a := i) (b := 2) hx hb dL_law_655 ?_
  refine va_sld hx hb hX hbl hbA hS (vp_in_nI (show i + 2 < L by omega) (by omega)) dL_law_656 ?_
  refine lv_cast (y := xs (i + 2)) (by rw [nI_clamp (show i + 2 < 2 ^ 31 by omega)]) ?_
  refine hl_callVi (As := [.int (xs (i + 1)), .int (xs (i + 2))]) (rest := []) ⟨hx, hb, hml, hown, hts⟩ hE hP hS (c_X4_kind l G u (u.1 0) (u.1 6) rfl rfl hI.1.1.2.1.1 (u.1 1) rfl hI.2.1 (xs (i + 1)) (xs (i + 2))) rfl (cwV 2 hts gL_law_X4_kind rfl rfl rfl (by decide +kernel) ⟨Nat.le_of_ble_eq_true rfl, Nat.le_of_ble_eq_true rfl⟩) (do_recv hE hP) rfl hl.1 rfl (Nat.le_of_ble_eq_true rfl) dL_law_657 ⟨Nat.le_refl _, Nat.le_refl _⟩ (fun r1 v1 H locs q1 hP hS => ?_)
  refine lv_aload_n hx hb dL_law_660 rfl (lv_at hl 2 rfl) ?_
  refine lv_aload_n hx hb dL_law_661 rfl (lv_at hl 0 rfl) ?_
  refine lv_iload_n hx hb dL_law_662 rfl (lv_at hl 3 rfl) ?_
  refine lv_iconst (v := 1) hx hb dL_law_663 (by decide) ?_
  refine nn_iadd (a := i) (b := 1) hx hb dL_law_664 ?_
  refine va_sld hx hb hX hbl hbA hS (vp_in_nI (show i + 1 < L by omega) (by omega)) dL_law_665 ?_
  refine lv_cast (y := xs (i + 1)) (by rw [nI_clamp (show i + 1 < 2 ^ 31 by omega)]) ?_
  refine lv_aload_n hx hb dL_law_666 rfl (lv_at hl 0 rfl) ?_
  refine lv_iload_n hx hb dL_law_667 rfl (lv_at hl 3 rfl) ?_
  refine lv_iconst (v := 2) hx hb dL_law_668 (by decide) ?_
  refine nn_iadd (a := i) (b := 2) hx hb dL_law_669 ?_
  refine va_sld hx hb hX hbl hbA hS (vp_in_nI (show i + 2 < L by omega) (by omega)) dL_law_670 ?_
  refine lv_cast (y := xs (i + 2)) (by rw [nI_clamp (show i + 2 < 2 ^ 31 by omega)]) ?_
  refine hl_callVi (As := [.int (xs (i + 1)), .int (xs (i + 2))]) (rest := [.int r1]) ⟨hx, hb, hml, hown, hts⟩ hE hP hS (c_X5_kind l G v1 (u.1 0) (u.1 6) ((q1.fr (by decide) (by decide) (by decide)).trans hI.1.1.1.symm) ((q1.fr (by decide) (by decide) (by decide)).trans hI.1.1.2.2.symm) hI.1.1.2.1.1 (u.1 13) (q1.fr (by decide) (by decide) (by decide)) hI.2.2 (xs (i + 1)) (xs (i + 2))) rfl (cwV 2 hts gL_law_X5_kind rfl rfl rfl (by decide +kernel) ⟨Nat.le_of_ble_eq_true rfl, Nat.le_of_ble_eq_true rfl⟩) (mo_recv hE hP) rfl hl.1 rfl (Nat.le_of_ble_eq_true rfl) dL_law_671 ⟨Nat.le_refl _, Nat.le_refl _⟩ (fun r2 v2 H locs q2 hP hS => ?_)
  have hq := inv_P3 hI q1 q2 (hI.1.1.2.1.k (k_kind _ _ _ _))
  exact lv_icmp_eq (tgt := 1204) hx hb dL_law_674 (by decide) (fun _ => kk _ _ _ hq.2.tr hP.tr2 hS) (fun c9 => absurd hq.1 c9)
set_option maxHeartbeats 4000000 in
set_option maxRecDepth 100000 in
theorem lawc_far {pg : Program} {l : Launch} {ev : Env} {s0 : State} {mm : MethodId} {below : List Frame} {meth : Method} {cd : Code} {b L : Nat} {xs : Nat → Int32} (hL : L ≤ 3072) (C0 : lw_At pg s0 mm meth cd b L xs) {G : Geo} (hE : E0 G s0 s0.heap) (hbA : ¬ gA G b) (i : Nat) (hi : i + 6 ≤ L) {u : Sg} (hI : Inv u) {H : Heap} {locs : List Loc} {ls : Array Slot} (hP : WP G u H) (hS : va_S (gA G) s0.heap H locs) (hl : lv_has ls 4 [(0, .ref b), (1, .ref (gad G 0)), (2, .ref (gad G 34)), (3, .int (nI i))])
    (kk : ∀ (u : Sg) (H : Heap) (locs : List Loc), Inv u → WP G u H → va_S (gA G) s0.heap H locs → W pg l ev room_1 s0 mm #[Value.ref b] below meth cd H locs 600000 7302250 (lw_Z below #[Value.ref b] s0) (F0 mm 1204 ls [])) : W pg l ev room_1 s0 mm #[Value.ref b] below meth cd H locs 600000 7302250 (lw_Z below #[Value.ref b] s0) (F0 mm 679 ls []) := by
  obtain ⟨hx, hb, hr, hml, hown, hts0, hX, hbl, hlocks, hgv⟩ := C0
  have hts : ∀ w ∈ wsL_law, w.before #[Value.ref b] s0 = true := fun w h => hts0 w (wsL_law_in w h)
  refine lv_aload_n hx hb dL_law_679 rfl (lv_at hl 1 rfl) ?_
  refine lv_aload_n hx hb dL_law_680 rfl (lv_at hl 0 rfl) ?_
  refine lv_iload_n hx hb dL_law_681 rfl (lv_at hl 3 rfl) ?_
  refine lv_iconst (v := 1) hx hb dL_law_682 (by decide) ?_
  refine nn_iadd (a := i) (b := 1) hx hb dL_law_683 ?_
  refine va_sld hx hb hX hbl hbA hS (vp_in_nI (show i + 1 < L by omega) (by omega)) dL_law_684 ?_
  refine lv_cast (y := xs (i + 1)) (by rw [nI_clamp (show i + 1 < 2 ^ 31 by omega)]) ?_
  refine lv_aload_n hx hb dL_law_685 rfl (lv_at hl 0 rfl) ?_
  refine lv_iload_n hx hb dL_law_686 rfl (lv_at hl 3 rfl) ?_
  refine lv_iconst (v := 2) hx hb dL_law_687 (by decide) ?_
  refine nn_iadd (a := i) (b := 2) hx hb dL_law_688 ?_
  refine va_sld hx hb hX hbl hbA hS (vp_in_nI (show i + 2 < L by omega) (by omega)) dL_law_689 ?_
  refine lv_cast (y := xs (i + 2)) (by rw [nI_clamp (show i + 2 < 2 ^ 31 by omega)]) ?_
  refine hl_callVi (As := [.int (xs (i + 1)), .int (xs (i + 2))]) (rest := []) ⟨hx, hb, hml, hown, hts⟩ hE hP hS (c_X4_far l G u (u.1 0) (u.1 6) rfl rfl hI.1.1.2.1.1 (u.1 1) rfl hI.2.1 (xs (i + 1)) (xs (i + 2))) rfl (cwV 2 hts gL_law_X4_far rfl rfl rfl (by decide +kernel) ⟨Nat.le_of_ble_eq_true rfl, Nat.le_of_ble_eq_true rfl⟩) (do_recv hE hP) rfl hl.1 rfl (Nat.le_of_ble_eq_true rfl) dL_law_690 ⟨Nat.le_refl _, Nat.le_refl _⟩ (fun r1 v1 H locs q1 hP hS => ?_)
  refine lv_aload_n hx hb dL_law_693 rfl (lv_at hl 2 rfl) ?_
  refine lv_aload_n hx hb dL_law_694 rfl (lv_at hl 0 rfl) ?_
  refine lv_iload_n hx hb dL_law_695 rfl (lv_at hl 3 rfl) ?_
  refine lv_iconst (v := 1) hx hb dL_law_696 (by decide) ?_
  refine nn_iadd (a := i) (b := 1) hx hb dL_law_697 ?_
  refine va_sld hx hb hX hbl hbA hS (vp_in_nI (show i + 1 < L by omega) (by omega)) dL_law_698 ?_
  refine lv_cast (y := xs (i + 1)) (by rw [nI_clamp (show i + 1 < 2 ^ 31 by omega)]) ?_
  refine lv_aload_n hx hb dL_law_699 rfl (lv_at hl 0 rfl) ?_
  refine lv_iload_n hx hb dL_law_700 rfl (lv_at hl 3 rfl) ?_
  refine lv_iconst (v := 2) hx hb dL_law_701 (by decide) ?_
  refine nn_iadd (a := i) (b := 2) hx hb dL_law_702 ?_
  refine va_sld hx hb hX hbl hbA hS (vp_in_nI (show i + 2 < L by omega) (by omega)) dL_law_703 ?_
  refine lv_cast (y := xs (i + 2)) (by rw [nI_clamp (show i + 2 < 2 ^ 31 by omega)]) ?_
  refine hl_callVi (As := [.int (xs (i + 1)), .int (xs (i + 2))]) (rest := [.int r1]) ⟨hx, hb, hml, hown, hts⟩ hE hP hS (c_X5_far l G v1 (u.1 0) (u.1 6) ((q1.fr (by decide) (by decide) (by decide)).trans hI.1.1.1.symm) ((q1.fr (by decide) (by decide) (by decide)).trans hI.1.1.2.2.symm) hI.1.1.2.1.1 (u.1 13) (q1.fr (by decide) (by decide) (by decide)) hI.2.2 (xs (i + 1)) (xs (i + 2))) rfl (cwV 2 hts gL_law_X5_far rfl rfl rfl (by decide +kernel) ⟨Nat.le_of_ble_eq_true rfl, Nat.le_of_ble_eq_true rfl⟩) (mo_recv hE hP) rfl hl.1 rfl (Nat.le_of_ble_eq_true rfl) dL_law_704 ⟨Nat.le_refl _, Nat.le_refl _⟩ (fun r2 v2 H locs q2 hP hS => ?_)
  have hq := inv_P3 hI q1 q2 (hI.1.1.2.1.k (k_far _ _ _ _))
  exact lv_icmp_eq (tgt := 1204) hx hb dL_law_707 (by decide) (fun _ => kk _ _ _ hq.2.tr hP.tr2 hS) (fun c9 => absurd hq.1 c9)
set_option maxHeartbeats 4000000 in
set_option maxRecDepth 100000 in
theorem lawc_order {pg : Program} {l : Launch} {ev : Env} {s0 : State} {mm : MethodId} {below : List Frame} {meth : Method} {cd : Code} {b L : Nat} {xs : Nat → Int32} (hL : L ≤ 3072) (C0 : lw_At pg s0 mm meth cd b L xs) {G : Geo} (hE : E0 G s0 s0.heap) (hbA : ¬ gA G b) (i : Nat) (hi : i + 6 ≤ L) {u : Sg} (hI : Inv u) {H : Heap} {locs : List Loc} {ls : Array Slot} (hP : WP G u H) (hS : va_S (gA G) s0.heap H locs) (hl : lv_has ls 4 [(0, .ref b), (1, .ref (gad G 0)), (2, .ref (gad G 34)), (3, .int (nI i))])
    (kk : ∀ (u : Sg) (H : Heap) (locs : List Loc), Inv u → WP G u H → va_S (gA G) s0.heap H locs → W pg l ev room_1 s0 mm #[Value.ref b] below meth cd H locs 600000 7302250 (lw_Z below #[Value.ref b] s0) (F0 mm 1204 ls [])) : W pg l ev room_1 s0 mm #[Value.ref b] below meth cd H locs 600000 7302250 (lw_Z below #[Value.ref b] s0) (F0 mm 712 ls []) := by
  obtain ⟨hx, hb, hr, hml, hown, hts0, hX, hbl, hlocks, hgv⟩ := C0
  have hts : ∀ w ∈ wsL_law, w.before #[Value.ref b] s0 = true := fun w h => hts0 w (wsL_law_in w h)
  refine lv_aload_n hx hb dL_law_712 rfl (lv_at hl 1 rfl) ?_
  refine lv_aload_n hx hb dL_law_713 rfl (lv_at hl 0 rfl) ?_
  refine lv_iload_n hx hb dL_law_714 rfl (lv_at hl 3 rfl) ?_
  refine lv_iconst (v := 1) hx hb dL_law_715 (by decide) ?_
  refine nn_iadd (a := i) (b := 1) hx hb dL_law_716 ?_
  refine va_sld hx hb hX hbl hbA hS (vp_in_nI (show i + 1 < L by omega) (by omega)) dL_law_717 ?_
  refine lv_cast (y := xs (i + 1)) (by rw [nI_clamp (show i + 1 < 2 ^ 31 by omega)]) ?_
  refine hl_callVi (As := [.int (xs (i + 1))]) (rest := []) ⟨hx, hb, hml, hown, hts⟩ hE hP hS (c_X4_order l G u (u.1 0) (u.1 6) rfl rfl hI.1.1.2.1.1 (u.1 1) rfl hI.2.1 (xs (i + 1))) rfl (cwV 1 hts gL_law_X4_order rfl rfl rfl (by decide +kernel) ⟨Nat.le_of_ble_eq_true rfl, Nat.le_of_ble_eq_true rfl⟩) (do_recv hE hP) rfl hl.1 rfl (Nat.le_of_ble_eq_true rfl) dL_law_718 ⟨Nat.le_refl _, Nat.le_refl _⟩ (fun r1 v1 H locs q1 hP hS => ?_)
  refine lv_aload_n hx hb dL_law_721 rfl (lv_at hl 2 rfl) ?_
  refine lv_aload_n hx hb dL_law_722 rfl (lv_at hl 0 rfl) ?_
  refine lv_iload_n hx hb dL_law_723 rfl (lv_at hl 3 rfl) ?_
  refine lv_iconst (v := 1) hx hb dL_law_724 (by decide) ?_
  refine nn_iadd (a := i) (b := 1) hx hb dL_law_725 ?_
  refine va_sld hx hb hX hbl hbA hS (vp_in_nI (show i + 1 < L by omega) (by omega)) dL_law_726 ?_
  refine lv_cast (y := xs (i + 1)) (by rw [nI_clamp (show i + 1 < 2 ^ 31 by omega)]) ?_
  refine hl_callVi (As := [.int (xs (i + 1))]) (rest := [.int r1]) ⟨hx, hb, hml, hown, hts⟩ hE hP hS (c_X5_order l G v1 (u.1 0) (u.1 6) ((q1.fr (by decide) (by decide) (by decide)).trans hI.1.1.1.symm) ((q1.fr (by decide) (by decide) (by decide)).trans hI.1.1.2.2.symm) hI.1.1.2.1.1 (u.1 13) (q1.fr (by decide) (by decide) (by decide)) hI.2.2 (xs (i + 1))) rfl (cwV 1 hts gL_law_X5_order rfl rfl rfl (by decide +kernel) ⟨Nat.le_of_ble_eq_true rfl, Nat.le_of_ble_eq_true rfl⟩) (mo_recv hE hP) rfl hl.1 rfl (Nat.le_of_ble_eq_true rfl) dL_law_727 ⟨Nat.le_refl _, Nat.le_refl _⟩ (fun r2 v2 H locs q2 hP hS => ?_)
  have hq := inv_P3 hI q1 q2 (hI.1.1.2.1.k (k_order _ _ _))
  exact lv_icmp_eq (tgt := 1204) hx hb dL_law_730 (by decide) (fun _ => kk _ _ _ hq.2.tr hP.tr2 hS) (fun c9 => absurd hq.1 c9)
set_option maxHeartbeats 4000000 in
set_option maxRecDepth 100000 in
theorem lawc_take {pg : Program} {l : Launch} {ev : Env} {s0 : State} {mm : MethodId} {below : List Frame} {meth : Method} {cd : Code} {b L : Nat} {xs : Nat → Int32} (hL : L ≤ 3072) (C0 : lw_At pg s0 mm meth cd b L xs) {G : Geo} (hE : E0 G s0 s0.heap) (hbA : ¬ gA G b) (i : Nat) (hi : i + 6 ≤ L) {u : Sg} (hI : Inv u) {H : Heap} {locs : List Loc} {ls : Array Slot} (hP : WP G u H) (hS : va_S (gA G) s0.heap H locs) (hl : lv_has ls 4 [(0, .ref b), (1, .ref (gad G 0)), (2, .ref (gad G 34)), (3, .int (nI i))])
    (kk : ∀ (u : Sg) (H : Heap) (locs : List Loc), Inv u → WP G u H → va_S (gA G) s0.heap H locs → W pg l ev room_1 s0 mm #[Value.ref b] below meth cd H locs 600000 7302250 (lw_Z below #[Value.ref b] s0) (F0 mm 1204 ls [])) : W pg l ev room_1 s0 mm #[Value.ref b] below meth cd H locs 600000 7302250 (lw_Z below #[Value.ref b] s0) (F0 mm 735 ls []) := by
  obtain ⟨hx, hb, hr, hml, hown, hts0, hX, hbl, hlocks, hgv⟩ := C0
  have hts : ∀ w ∈ wsL_law, w.before #[Value.ref b] s0 = true := fun w h => hts0 w (wsL_law_in w h)
  refine lv_aload_n hx hb dL_law_735 rfl (lv_at hl 1 rfl) ?_
  refine lv_aload_n hx hb dL_law_736 rfl (lv_at hl 0 rfl) ?_
  refine lv_iload_n hx hb dL_law_737 rfl (lv_at hl 3 rfl) ?_
  refine lv_iconst (v := 1) hx hb dL_law_738 (by decide) ?_
  refine nn_iadd (a := i) (b := 1) hx hb dL_law_739 ?_
  refine va_sld hx hb hX hbl hbA hS (vp_in_nI (show i + 1 < L by omega) (by omega)) dL_law_740 ?_
  refine lv_cast (y := xs (i + 1)) (by rw [nI_clamp (show i + 1 < 2 ^ 31 by omega)]) ?_
  refine hl_callVi (As := [.int (xs (i + 1))]) (rest := []) ⟨hx, hb, hml, hown, hts⟩ hE hP hS (c_X4_take l G u (u.1 0) (u.1 6) rfl rfl hI.1.1.2.1.1 (u.1 1) rfl hI.2.1 (xs (i + 1))) rfl (cwV 1 hts gL_law_X4_take rfl rfl rfl (by decide +kernel) ⟨Nat.le_of_ble_eq_true rfl, Nat.le_of_ble_eq_true rfl⟩) (do_recv hE hP) rfl hl.1 rfl (Nat.le_of_ble_eq_true rfl) dL_law_741 ⟨Nat.le_refl _, Nat.le_refl _⟩ (fun r1 v1 H locs q1 hP hS => ?_)
  refine lv_aload_n hx hb dL_law_744 rfl (lv_at hl 2 rfl) ?_
  refine lv_aload_n hx hb dL_law_745 rfl (lv_at hl 0 rfl) ?_
  refine lv_iload_n hx hb dL_law_746 rfl (lv_at hl 3 rfl) ?_
  refine lv_iconst (v := 1) hx hb dL_law_747 (by decide) ?_
  refine nn_iadd (a := i) (b := 1) hx hb dL_law_748 ?_
  refine va_sld hx hb hX hbl hbA hS (vp_in_nI (show i + 1 < L by omega) (by omega)) dL_law_749 ?_
  refine lv_cast (y := xs (i + 1)) (by rw [nI_clamp (show i + 1 < 2 ^ 31 by omega)]) ?_
  refine hl_callVi (As := [.int (xs (i + 1))]) (rest := [.int r1]) ⟨hx, hb, hml, hown, hts⟩ hE hP hS (c_X5_take l G v1 (u.1 0) (u.1 6) ((q1.fr (by decide) (by decide) (by decide)).trans hI.1.1.1.symm) ((q1.fr (by decide) (by decide) (by decide)).trans hI.1.1.2.2.symm) hI.1.1.2.1.1 (u.1 13) (q1.fr (by decide) (by decide) (by decide)) hI.2.2 (xs (i + 1))) rfl (cwV 1 hts gL_law_X5_take rfl rfl rfl (by decide +kernel) ⟨Nat.le_of_ble_eq_true rfl, Nat.le_of_ble_eq_true rfl⟩) (mo_recv hE hP) rfl hl.1 rfl (Nat.le_of_ble_eq_true rfl) dL_law_750 ⟨Nat.le_refl _, Nat.le_refl _⟩ (fun r2 v2 H locs q2 hP hS => ?_)
  have hq := inv_P3 hI q1 q2 (hI.1.1.2.1.k (k_take _ _ _))
  exact lv_icmp_eq (tgt := 1204) hx hb dL_law_753 (by decide) (fun _ => kk _ _ _ hq.2.tr hP.tr2 hS) (fun c9 => absurd hq.1 c9)
set_option maxHeartbeats 4000000 in
set_option maxRecDepth 100000 in
theorem lawc_load {pg : Program} {l : Launch} {ev : Env} {s0 : State} {mm : MethodId} {below : List Frame} {meth : Method} {cd : Code} {b L : Nat} {xs : Nat → Int32} (hL : L ≤ 3072) (C0 : lw_At pg s0 mm meth cd b L xs) {G : Geo} (hE : E0 G s0 s0.heap) (hbA : ¬ gA G b) (i : Nat) (hi : i + 6 ≤ L) {u : Sg} (hI : Inv u) {H : Heap} {locs : List Loc} {ls : Array Slot} (hP : WP G u H) (hS : va_S (gA G) s0.heap H locs) (hl : lv_has ls 4 [(0, .ref b), (1, .ref (gad G 0)), (2, .ref (gad G 34)), (3, .int (nI i))])
    (kk : ∀ (u : Sg) (H : Heap) (locs : List Loc), Inv u → WP G u H → va_S (gA G) s0.heap H locs → W pg l ev room_1 s0 mm #[Value.ref b] below meth cd H locs 600000 7302250 (lw_Z below #[Value.ref b] s0) (F0 mm 1204 ls [])) : W pg l ev room_1 s0 mm #[Value.ref b] below meth cd H locs 600000 7302250 (lw_Z below #[Value.ref b] s0) (F0 mm 758 ls []) := by
  obtain ⟨hx, hb, hr, hml, hown, hts0, hX, hbl, hlocks, hgv⟩ := C0
  have hts : ∀ w ∈ wsL_law, w.before #[Value.ref b] s0 = true := fun w h => hts0 w (wsL_law_in w h)
  refine lv_aload_n hx hb dL_law_758 rfl (lv_at hl 1 rfl) ?_
  refine lv_aload_n hx hb dL_law_759 rfl (lv_at hl 0 rfl) ?_
  refine lv_iload_n hx hb dL_law_760 rfl (lv_at hl 3 rfl) ?_
  refine lv_iconst (v := 1) hx hb dL_law_761 (by decide) ?_
  refine nn_iadd (a := i) (b := 1) hx hb dL_law_762 ?_
  refine va_sld hx hb hX hbl hbA hS (vp_in_nI (show i + 1 < L by omega) (by omega)) dL_law_763 ?_
  refine lv_cast (y := xs (i + 1)) (by rw [nI_clamp (show i + 1 < 2 ^ 31 by omega)]) ?_
  refine lv_aload_n hx hb dL_law_764 rfl (lv_at hl 0 rfl) ?_
  refine lv_iload_n hx hb dL_law_765 rfl (lv_at hl 3 rfl) ?_
  refine lv_iconst (v := 2) hx hb dL_law_766 (by decide) ?_
  refine nn_iadd (a := i) (b := 2) hx hb dL_law_767 ?_
  refine va_sld hx hb hX hbl hbA hS (vp_in_nI (show i + 2 < L by omega) (by omega)) dL_law_768 ?_
  refine lv_cast (y := xs (i + 2)) (by rw [nI_clamp (show i + 2 < 2 ^ 31 by omega)]) ?_
  refine hl_callVi (As := [.int (xs (i + 1)), .int (xs (i + 2))]) (rest := []) ⟨hx, hb, hml, hown, hts⟩ hE hP hS (c_X4_load l G u (u.1 0) (u.1 6) rfl rfl hI.1.1.2.1.1 (u.1 1) rfl hI.2.1 (xs (i + 1)) (xs (i + 2))) rfl (cwV 2 hts gL_law_X4_load rfl rfl rfl (by decide +kernel) ⟨Nat.le_of_ble_eq_true rfl, Nat.le_of_ble_eq_true rfl⟩) (do_recv hE hP) rfl hl.1 rfl (Nat.le_of_ble_eq_true rfl) dL_law_769 ⟨Nat.le_refl _, Nat.le_refl _⟩ (fun r1 v1 H locs q1 hP hS => ?_)
  refine lv_aload_n hx hb dL_law_772 rfl (lv_at hl 2 rfl) ?_
  refine lv_aload_n hx hb dL_law_773 rfl (lv_at hl 0 rfl) ?_
  refine lv_iload_n hx hb dL_law_774 rfl (lv_at hl 3 rfl) ?_
  refine lv_iconst (v := 1) hx hb dL_law_775 (by decide) ?_
  refine nn_iadd (a := i) (b := 1) hx hb dL_law_776 ?_
  refine va_sld hx hb hX hbl hbA hS (vp_in_nI (show i + 1 < L by omega) (by omega)) dL_law_777 ?_
  refine lv_cast (y := xs (i + 1)) (by rw [nI_clamp (show i + 1 < 2 ^ 31 by omega)]) ?_
  refine lv_aload_n hx hb dL_law_778 rfl (lv_at hl 0 rfl) ?_
  refine lv_iload_n hx hb dL_law_779 rfl (lv_at hl 3 rfl) ?_
  refine lv_iconst (v := 2) hx hb dL_law_780 (by decide) ?_
  refine nn_iadd (a := i) (b := 2) hx hb dL_law_781 ?_
  refine va_sld hx hb hX hbl hbA hS (vp_in_nI (show i + 2 < L by omega) (by omega)) dL_law_782 ?_
  refine lv_cast (y := xs (i + 2)) (by rw [nI_clamp (show i + 2 < 2 ^ 31 by omega)]) ?_
  refine hl_callVi (As := [.int (xs (i + 1)), .int (xs (i + 2))]) (rest := [.int r1]) ⟨hx, hb, hml, hown, hts⟩ hE hP hS (c_X5_load l G v1 (u.1 0) (u.1 6) ((q1.fr (by decide) (by decide) (by decide)).trans hI.1.1.1.symm) ((q1.fr (by decide) (by decide) (by decide)).trans hI.1.1.2.2.symm) hI.1.1.2.1.1 (u.1 13) (q1.fr (by decide) (by decide) (by decide)) hI.2.2 (xs (i + 1)) (xs (i + 2))) rfl (cwV 2 hts gL_law_X5_load rfl rfl rfl (by decide +kernel) ⟨Nat.le_of_ble_eq_true rfl, Nat.le_of_ble_eq_true rfl⟩) (mo_recv hE hP) rfl hl.1 rfl (Nat.le_of_ble_eq_true rfl) dL_law_783 ⟨Nat.le_refl _, Nat.le_refl _⟩ (fun r2 v2 H locs q2 hP hS => ?_)
  have hq := inv_P3 hI q1 q2 (hI.1.1.2.1.k (k_load _ _ _ _))
  exact lv_icmp_eq (tgt := 1204) hx hb dL_law_786 (by decide) (fun _ => kk _ _ _ hq.2.tr hP.tr2 hS) (fun c9 => absurd hq.1 c9)
set_option maxHeartbeats 4000000 in
set_option maxRecDepth 100000 in
theorem lawc_feed {pg : Program} {l : Launch} {ev : Env} {s0 : State} {mm : MethodId} {below : List Frame} {meth : Method} {cd : Code} {b L : Nat} {xs : Nat → Int32} (hL : L ≤ 3072) (C0 : lw_At pg s0 mm meth cd b L xs) {G : Geo} (hE : E0 G s0 s0.heap) (hbA : ¬ gA G b) (i : Nat) (hi : i + 6 ≤ L) {u : Sg} (hI : Inv u) {H : Heap} {locs : List Loc} {ls : Array Slot} (hP : WP G u H) (hS : va_S (gA G) s0.heap H locs) (hl : lv_has ls 4 [(0, .ref b), (1, .ref (gad G 0)), (2, .ref (gad G 34)), (3, .int (nI i))])
    (kk : ∀ (u : Sg) (H : Heap) (locs : List Loc), Inv u → WP G u H → va_S (gA G) s0.heap H locs → W pg l ev room_1 s0 mm #[Value.ref b] below meth cd H locs 600000 7302250 (lw_Z below #[Value.ref b] s0) (F0 mm 1204 ls [])) : W pg l ev room_1 s0 mm #[Value.ref b] below meth cd H locs 600000 7302250 (lw_Z below #[Value.ref b] s0) (F0 mm 791 ls []) := by
  obtain ⟨hx, hb, hr, hml, hown, hts0, hX, hbl, hlocks, hgv⟩ := C0
  have hts : ∀ w ∈ wsL_law, w.before #[Value.ref b] s0 = true := fun w h => hts0 w (wsL_law_in w h)
  obtain ⟨ln, hl9, h41, h146, htp⟩ := hI.1.2.2.1
  refine lv_aload_n hx hb dL_law_791 rfl (lv_at hl 1 rfl) ?_
  refine lv_aload_n hx hb dL_law_792 rfl (lv_at hl 0 rfl) ?_
  refine lv_iload_n hx hb dL_law_793 rfl (lv_at hl 3 rfl) ?_
  refine lv_iconst (v := 1) hx hb dL_law_794 (by decide) ?_
  refine nn_iadd (a := i) (b := 1) hx hb dL_law_795 ?_
  refine va_sld hx hb hX hbl hbA hS (vp_in_nI (show i + 1 < L by omega) (by omega)) dL_law_796 ?_
  refine lv_cast (y := xs (i + 1)) (by rw [nI_clamp (show i + 1 < 2 ^ 31 by omega)]) ?_
  refine lv_aload_n hx hb dL_law_797 rfl (lv_at hl 0 rfl) ?_
  refine lv_iload_n hx hb dL_law_798 rfl (lv_at hl 3 rfl) ?_
  refine lv_iconst (v := 2) hx hb dL_law_799 (by decide) ?_
  refine nn_iadd (a := i) (b := 2) hx hb dL_law_800 ?_
  refine va_sld hx hb hX hbl hbA hS (vp_in_nI (show i + 2 < L by omega) (by omega)) dL_law_801 ?_
  refine lv_cast (y := xs (i + 2)) (by rw [nI_clamp (show i + 2 < 2 ^ 31 by omega)]) ?_
  refine hl_callVi (As := [.int (xs (i + 1)), .int (xs (i + 2))]) (rest := []) ⟨hx, hb, hml, hown, hts⟩ hE hP hS (c_X4_feed l G u (u.1 4) (u.1 5) rfl rfl ln h41 hl9 (u.1 6) rfl (xs (i + 1)) (xs (i + 2))) rfl (cwV 2 hts gL_law_X4_feed rfl rfl rfl (by decide +kernel) ⟨Nat.le_of_ble_eq_true rfl, Nat.le_of_ble_eq_true rfl⟩) (do_recv hE hP) rfl hl.1 rfl (Nat.le_of_ble_eq_true rfl) dL_law_802 ⟨Nat.le_refl _, Nat.le_refl _⟩ (fun r1 v1 H locs q1 hP hS => ?_)
  have w14 : v1.1 14 = u.1 14 := q1.fr (by decide) (fun _ z => by rw [z.2, sI_ne _ _ (by decide), sI_ne _ _ (by decide)])
  refine lv_aload_n hx hb dL_law_805 rfl (lv_at hl 2 rfl) ?_
  refine lv_aload_n hx hb dL_law_806 rfl (lv_at hl 0 rfl) ?_
  refine lv_iload_n hx hb dL_law_807 rfl (lv_at hl 3 rfl) ?_
  refine lv_iconst (v := 1) hx hb dL_law_808 (by decide) ?_
  refine nn_iadd (a := i) (b := 1) hx hb dL_law_809 ?_
  refine va_sld hx hb hX hbl hbA hS (vp_in_nI (show i + 1 < L by omega) (by omega)) dL_law_810 ?_
  refine lv_cast (y := xs (i + 1)) (by rw [nI_clamp (show i + 1 < 2 ^ 31 by omega)]) ?_
  refine lv_aload_n hx hb dL_law_811 rfl (lv_at hl 0 rfl) ?_
  refine lv_iload_n hx hb dL_law_812 rfl (lv_at hl 3 rfl) ?_
  refine lv_iconst (v := 2) hx hb dL_law_813 (by decide) ?_
  refine nn_iadd (a := i) (b := 2) hx hb dL_law_814 ?_
  refine va_sld hx hb hX hbl hbA hS (vp_in_nI (show i + 2 < L by omega) (by omega)) dL_law_815 ?_
  refine lv_cast (y := xs (i + 2)) (by rw [nI_clamp (show i + 2 < 2 ^ 31 by omega)]) ?_
  refine hl_callVi (As := [.int (xs (i + 1)), .int (xs (i + 2))]) (rest := [.int r1]) ⟨hx, hb, hml, hown, hts⟩ hE hP hS (c_X5_feed l G v1 (v1.1 14) (v1.1 16) rfl rfl ln (by rw [w14]; exact h146) hl9 (v1.1 15) rfl (xs (i + 1)) (xs (i + 2))) rfl (cwV 2 hts gL_law_X5_feed rfl rfl rfl (by decide +kernel) ⟨Nat.le_of_ble_eq_true rfl, Nat.le_of_ble_eq_true rfl⟩) (mo_recv hE hP) rfl hl.1 rfl (Nat.le_of_ble_eq_true rfl) dL_law_816 ⟨Nat.le_refl _, Nat.le_refl _⟩ (fun r2 v2 H locs q2 hP hS => ?_)
  have hq := inv_PS hI rfl rfl rfl q1 q2 (fun hf z1 z2 => inv_feed hI hl9 h41 h146 htp hf z1 z2)
  exact lv_icmp_eq (tgt := 1204) hx hb dL_law_819 (by decide) (fun _ => kk _ _ _ hq.2.tr hP.tr2 hS) (fun c9 => absurd hq.1 c9)
set_option maxHeartbeats 4000000 in
set_option maxRecDepth 100000 in
theorem lawc_wipe {pg : Program} {l : Launch} {ev : Env} {s0 : State} {mm : MethodId} {below : List Frame} {meth : Method} {cd : Code} {b L : Nat} {xs : Nat → Int32} (hL : L ≤ 3072) (C0 : lw_At pg s0 mm meth cd b L xs) {G : Geo} (hE : E0 G s0 s0.heap) (hbA : ¬ gA G b) (i : Nat) (hi : i + 6 ≤ L) {u : Sg} (hI : Inv u) {H : Heap} {locs : List Loc} {ls : Array Slot} (hP : WP G u H) (hS : va_S (gA G) s0.heap H locs) (hl : lv_has ls 4 [(0, .ref b), (1, .ref (gad G 0)), (2, .ref (gad G 34)), (3, .int (nI i))])
    (kk : ∀ (u : Sg) (H : Heap) (locs : List Loc), Inv u → WP G u H → va_S (gA G) s0.heap H locs → W pg l ev room_1 s0 mm #[Value.ref b] below meth cd H locs 600000 7302250 (lw_Z below #[Value.ref b] s0) (F0 mm 1204 ls [])) : W pg l ev room_1 s0 mm #[Value.ref b] below meth cd H locs 600000 7302250 (lw_Z below #[Value.ref b] s0) (F0 mm 824 ls []) := by
  obtain ⟨hx, hb, hr, hml, hown, hts0, hX, hbl, hlocks, hgv⟩ := C0
  have hts : ∀ w ∈ wsL_law, w.before #[Value.ref b] s0 = true := fun w h => hts0 w (wsL_law_in w h)
  refine lv_aload_n hx hb dL_law_824 rfl (lv_at hl 1 rfl) ?_
  refine hl_callVi (As := []) (rest := []) ⟨hx, hb, hml, hown, hts⟩ hE hP hS (c_X4_wipe l G u (u.1 4) rfl) rfl (cwV 0 hts gL_law_X4_wipe rfl rfl rfl (by decide +kernel) ⟨Nat.le_of_ble_eq_true rfl, Nat.le_of_ble_eq_true rfl⟩) (do_recv hE hP) rfl hl.1 rfl (Nat.le_of_ble_eq_true rfl) dL_law_825 ⟨Nat.le_refl _, Nat.le_refl _⟩ (fun r1 v1 H locs q1 hP hS => ?_)
  refine lv_aload_n hx hb dL_law_828 rfl (lv_at hl 2 rfl) ?_
  refine hl_callVi (As := []) (rest := [.int r1]) ⟨hx, hb, hml, hown, hts⟩ hE hP hS (c_X5_wipe l G v1 (v1.1 14) rfl) rfl (cwV 0 hts gL_law_X5_wipe rfl rfl rfl (by decide +kernel) ⟨Nat.le_of_ble_eq_true rfl, Nat.le_of_ble_eq_true rfl⟩) (mo_recv hE hP) rfl hl.1 rfl (Nat.le_of_ble_eq_true rfl) dL_law_829 ⟨Nat.le_refl _, Nat.le_refl _⟩ (fun r2 v2 H locs q2 hP hS => ?_)
  have hq := inv_wipe hI q1 q2
  exact lv_icmp_eq (tgt := 1204) hx hb dL_law_832 (by decide) (fun _ => kk _ _ _ hq.2.tr hP.tr2 hS) (fun c9 => absurd hq.1 c9)
set_option maxHeartbeats 4000000 in
set_option maxRecDepth 100000 in
theorem lawc_morning {pg : Program} {l : Launch} {ev : Env} {s0 : State} {mm : MethodId} {below : List Frame} {meth : Method} {cd : Code} {b L : Nat} {xs : Nat → Int32} (hL : L ≤ 3072) (C0 : lw_At pg s0 mm meth cd b L xs) {G : Geo} (hE : E0 G s0 s0.heap) (hbA : ¬ gA G b) (i : Nat) (hi : i + 6 ≤ L) {u : Sg} (hI : Inv u) {H : Heap} {locs : List Loc} {ls : Array Slot} (hP : WP G u H) (hS : va_S (gA G) s0.heap H locs) (hl : lv_has ls 4 [(0, .ref b), (1, .ref (gad G 0)), (2, .ref (gad G 34)), (3, .int (nI i))])
    (kk : ∀ (u : Sg) (H : Heap) (locs : List Loc), Inv u → WP G u H → va_S (gA G) s0.heap H locs → W pg l ev room_1 s0 mm #[Value.ref b] below meth cd H locs 600000 7302250 (lw_Z below #[Value.ref b] s0) (F0 mm 1204 ls [])) : W pg l ev room_1 s0 mm #[Value.ref b] below meth cd H locs 600000 7302250 (lw_Z below #[Value.ref b] s0) (F0 mm 837 ls []) := by
  obtain ⟨hx, hb, hr, hml, hown, hts0, hX, hbl, hlocks, hgv⟩ := C0
  have hts : ∀ w ∈ wsL_law, w.before #[Value.ref b] s0 = true := fun w h => hts0 w (wsL_law_in w h)
  obtain ⟨ln, hl9, h41, h146, htp⟩ := hI.1.2.2.1
  obtain ⟨R, hR⟩ : ∃ R : TS, R = ttS (u.1 5) ln 120 (ntF (u.1 5) ln (upd (u.1 4) 4 0)) (u.1 0) 1 := ⟨_, rfl⟩
  obtain ⟨R2, hR2⟩ : ∃ R2 : (Nat → Int32) × (Nat → Int32) × Nat, R2 = mrS (u.1 16) ln 121 (itX (u.1 16) ln (nP (u.1 0)) (rdF (u.1 16) ln (upd (upd (u.1 14) 9 0) 11 0))) (itM (u.1 16) ln (nP (u.1 0)) (u.1 0) (rdF (u.1 16) ln (upd (upd (u.1 14) 9 0) 11 0))) 1 := ⟨_, rfl⟩
  refine lv_aload_n hx hb dL_law_837 rfl (lv_at hl 1 rfl) ?_
  refine hl_callVi (As := []) (rest := []) ⟨hx, hb, hml, hown, hts⟩ hE hP hS (c_X4_morningR l G u (u.1 4) (u.1 5) ln hl9 rfl rfl h41 (u.1 0) (u.1 1) rfl rfl hI.1.1.2.1.NT hI.2.1 R hR) rfl (cwV 0 hts gL_law_X4_morning rfl rfl rfl (by decide +kernel) ⟨Nat.le_of_ble_eq_true rfl, Nat.le_of_ble_eq_true rfl⟩) (do_recv hE hP) rfl hl.1 rfl (Nat.le_of_ble_eq_true rfl) dL_law_838 ⟨Nat.le_refl _, Nat.le_refl _⟩ (fun r1 v1 H locs q1 hP hS => ?_)
  have w : ∀ k, k ≠ 0 → k ≠ 1 → k ≠ 4 → v1.1 k = u.1 k := fun k k0 k1 k4 => by rw [q1.2, sI_ne _ _ k0, sI_ne _ _ k4, sI_ne _ _ k1]
  refine lv_aload_n hx hb dL_law_841 rfl (lv_at hl 2 rfl) ?_
  refine hl_callVi (As := []) (rest := [.int r1]) ⟨hx, hb, hml, hown, hts⟩ hE hP hS (c_X5_morningR l G v1 (u.1 14) (u.1 16) ln hl9 (w 14 (by decide) (by decide) (by decide)) (w 16 (by decide) (by decide) (by decide)) h146 (u.1 0) (u.1 13) ((w 11 (by decide) (by decide) (by decide)).trans hI.1.1.1.symm) (w 13 (by decide) (by decide) (by decide)) hI.1.1.2.1.1.1 hI.2.2 hI.1.1.2.1.1.n hI.1.1.2.1.1.n8 R2 hR2) rfl (cwV 0 hts gL_law_X5_morning rfl rfl rfl (by decide +kernel) ⟨Nat.le_of_ble_eq_true rfl, Nat.le_of_ble_eq_true rfl⟩) (mo_recv hE hP) rfl hl.1 rfl (Nat.le_of_ble_eq_true rfl) dL_law_842 ⟨Nat.le_refl _, Nat.le_refl _⟩ (fun r2 v2 H locs q2 hP hS => ?_)
  have hq := inv_morning hI hl9 h41 h146 htp hR hR2 q1 q2
  exact lv_icmp_eq (tgt := 1204) hx hb dL_law_845 (by decide) (fun _ => kk _ _ _ hq.2.tr hP.tr2 hS) (fun c9 => absurd hq.1 c9)
