set_option maxHeartbeats 4000000 in
set_option maxRecDepth 100000 in
theorem lawc_sheet {pg : Program} {l : Launch} {ev : Env} {s0 : State} {mm : MethodId} {below : List Frame} {meth : Method} {cd : Code} {b L : Nat} {xs : Nat → Int32} (hL : L ≤ 3072) (C0 : lw_At pg s0 mm meth cd b L xs) {G : Geo} (hE : E0 G s0 s0.heap) (hbA : ¬ gA G b) (i : Nat) (hi : i + 6 ≤ L) {u : Sg} (hI : Inv u) {H : Heap} {locs : List Loc} {ls : Array Slot} (hP : WP G u H) (hS : va_S (gA G) s0.heap H locs) (hl : lv_has ls 4 [(0, .ref b), (1, .ref (gad G 0)), (2, .ref (gad G 34)), (3, .int (nI i))])
    (kk : ∀ (u : Sg) (H : Heap) (locs : List Loc), Inv u → WP G u H → va_S (gA G) s0.heap H locs → W pg l ev room_1 s0 mm #[Value.ref b] below meth cd H locs 600000 7302250 (lw_Z below #[Value.ref b] s0) (F0 mm 1204 ls [])) : W pg l ev room_1 s0 mm #[Value.ref b] below meth cd H locs 600000 7302250 (lw_Z below #[Value.ref b] s0) (F0 mm 850 ls []) := by
  obtain ⟨hx, hb, hr, hml, hown, hts0, hX, hbl, hlocks, hgv⟩ := C0
  have hts : ∀ w ∈ wsL_law, w.before #[Value.ref b] s0 = true := fun w h => hts0 w (wsL_law_in w h)
  refine lv_aload_n hx hb dL_law_850 rfl (lv_at hl 1 rfl) ?_
  refine lv_aload_n hx hb dL_law_851 rfl (lv_at hl 0 rfl) ?_
  refine lv_iload_n hx hb dL_law_852 rfl (lv_at hl 3 rfl) ?_
  refine lv_iconst (v := 1) hx hb dL_law_853 (by decide) ?_
  refine nn_iadd (a := i) (b := 1) hx hb dL_law_854 ?_
  refine va_sld hx hb hX hbl hbA hS (vp_in_nI (show i + 1 < L by omega) (by omega)) dL_law_855 ?_
  refine lv_cast (y := xs (i + 1)) (by rw [nI_clamp (show i + 1 < 2 ^ 31 by omega)]) ?_
  refine lv_aload_n hx hb dL_law_856 rfl (lv_at hl 0 rfl) ?_
  refine lv_iload_n hx hb dL_law_857 rfl (lv_at hl 3 rfl) ?_
  refine lv_iconst (v := 2) hx hb dL_law_858 (by decide) ?_
  refine nn_iadd (a := i) (b := 2) hx hb dL_law_859 ?_
  refine va_sld hx hb hX hbl hbA hS (vp_in_nI (show i + 2 < L by omega) (by omega)) dL_law_860 ?_
  refine lv_cast (y := xs (i + 2)) (by rw [nI_clamp (show i + 2 < 2 ^ 31 by omega)]) ?_
  refine lv_aload_n hx hb dL_law_861 rfl (lv_at hl 0 rfl) ?_
  refine lv_iload_n hx hb dL_law_862 rfl (lv_at hl 3 rfl) ?_
  refine lv_iconst (v := 3) hx hb dL_law_863 (by decide) ?_
  refine nn_iadd (a := i) (b := 3) hx hb dL_law_864 ?_
  refine va_sld hx hb hX hbl hbA hS (vp_in_nI (show i + 3 < L by omega) (by omega)) dL_law_865 ?_
  refine lv_cast (y := xs (i + 3)) (by rw [nI_clamp (show i + 3 < 2 ^ 31 by omega)]) ?_
  refine hl_callVi (As := [.int (xs (i + 1)), .int (xs (i + 2)), .int (xs (i + 3))]) (rest := []) ⟨hx, hb, hml, hown, hts⟩ hE hP hS (c_X4_sheet l G u (u.1 6) rfl (xs (i + 1)) (xs (i + 2)) (xs (i + 3))) rfl (cwV 3 hts gL_law_X4_sheet rfl rfl rfl (by decide +kernel) ⟨Nat.le_of_ble_eq_true rfl, Nat.le_of_ble_eq_true rfl⟩) (do_recv hE hP) rfl hl.1 rfl (Nat.le_of_ble_eq_true rfl) dL_law_866 ⟨Nat.le_refl _, Nat.le_refl _⟩ (fun r1 v1 H locs q1 hP hS => ?_)
  refine lv_aload_n hx hb dL_law_869 rfl (lv_at hl 2 rfl) ?_
  refine lv_aload_n hx hb dL_law_870 rfl (lv_at hl 0 rfl) ?_
  refine lv_iload_n hx hb dL_law_871 rfl (lv_at hl 3 rfl) ?_
  refine lv_iconst (v := 1) hx hb dL_law_872 (by decide) ?_
  refine nn_iadd (a := i) (b := 1) hx hb dL_law_873 ?_
  refine va_sld hx hb hX hbl hbA hS (vp_in_nI (show i + 1 < L by omega) (by omega)) dL_law_874 ?_
  refine lv_cast (y := xs (i + 1)) (by rw [nI_clamp (show i + 1 < 2 ^ 31 by omega)]) ?_
  refine lv_aload_n hx hb dL_law_875 rfl (lv_at hl 0 rfl) ?_
  refine lv_iload_n hx hb dL_law_876 rfl (lv_at hl 3 rfl) ?_
  refine lv_iconst (v := 2) hx hb dL_law_877 (by decide) ?_
  refine nn_iadd (a := i) (b := 2) hx hb dL_law_878 ?_
  refine va_sld hx hb hX hbl hbA hS (vp_in_nI (show i + 2 < L by omega) (by omega)) dL_law_879 ?_
  refine lv_cast (y := xs (i + 2)) (by rw [nI_clamp (show i + 2 < 2 ^ 31 by omega)]) ?_
  refine lv_aload_n hx hb dL_law_880 rfl (lv_at hl 0 rfl) ?_
  refine lv_iload_n hx hb dL_law_881 rfl (lv_at hl 3 rfl) ?_
  refine lv_iconst (v := 3) hx hb dL_law_882 (by decide) ?_
  refine nn_iadd (a := i) (b := 3) hx hb dL_law_883 ?_
  refine va_sld hx hb hX hbl hbA hS (vp_in_nI (show i + 3 < L by omega) (by omega)) dL_law_884 ?_
  refine lv_cast (y := xs (i + 3)) (by rw [nI_clamp (show i + 3 < 2 ^ 31 by omega)]) ?_
  refine hl_callVi (As := [.int (xs (i + 1)), .int (xs (i + 2)), .int (xs (i + 3))]) (rest := [.int r1]) ⟨hx, hb, hml, hown, hts⟩ hE hP hS (c_X5_sheet l G v1 (v1.1 15) rfl (xs (i + 1)) (xs (i + 2)) (xs (i + 3))) rfl (cwV 3 hts gL_law_X5_sheet rfl rfl rfl (by decide +kernel) ⟨Nat.le_of_ble_eq_true rfl, Nat.le_of_ble_eq_true rfl⟩) (mo_recv hE hP) rfl hl.1 rfl (Nat.le_of_ble_eq_true rfl) dL_law_885 ⟨Nat.le_refl _, Nat.le_refl _⟩ (fun r2 v2 H locs q2 hP hS => ?_)
  have hq := inv_PS hI rfl rfl rfl q1 q2 (fun hf z1 z2 => inv_sheet hI hf z1 z2)
  exact lv_icmp_eq (tgt := 1204) hx hb dL_law_888 (by decide) (fun _ => kk _ _ _ hq.2.tr hP.tr2 hS) (fun c9 => absurd hq.1 c9)
set_option maxHeartbeats 4000000 in
set_option maxRecDepth 100000 in
theorem lawc_write {pg : Program} {l : Launch} {ev : Env} {s0 : State} {mm : MethodId} {below : List Frame} {meth : Method} {cd : Code} {b L : Nat} {xs : Nat → Int32} (hL : L ≤ 3072) (C0 : lw_At pg s0 mm meth cd b L xs) {G : Geo} (hE : E0 G s0 s0.heap) (hbA : ¬ gA G b) (i : Nat) (hi : i + 6 ≤ L) {u : Sg} (hI : Inv u) {H : Heap} {locs : List Loc} {ls : Array Slot} (hP : WP G u H) (hS : va_S (gA G) s0.heap H locs) (hl : lv_has ls 4 [(0, .ref b), (1, .ref (gad G 0)), (2, .ref (gad G 34)), (3, .int (nI i))])
    (kk : ∀ (u : Sg) (H : Heap) (locs : List Loc), Inv u → WP G u H → va_S (gA G) s0.heap H locs → W pg l ev room_1 s0 mm #[Value.ref b] below meth cd H locs 600000 7302250 (lw_Z below #[Value.ref b] s0) (F0 mm 1204 ls [])) : W pg l ev room_1 s0 mm #[Value.ref b] below meth cd H locs 600000 7302250 (lw_Z below #[Value.ref b] s0) (F0 mm 893 ls []) := by
  obtain ⟨hx, hb, hr, hml, hown, hts0, hX, hbl, hlocks, hgv⟩ := C0
  have hts : ∀ w ∈ wsL_law, w.before #[Value.ref b] s0 = true := fun w h => hts0 w (wsL_law_in w h)
  refine lv_aload_n hx hb dL_law_893 rfl (lv_at hl 1 rfl) ?_
  refine lv_aload_n hx hb dL_law_894 rfl (lv_at hl 0 rfl) ?_
  refine lv_iload_n hx hb dL_law_895 rfl (lv_at hl 3 rfl) ?_
  refine lv_iconst (v := 1) hx hb dL_law_896 (by decide) ?_
  refine nn_iadd (a := i) (b := 1) hx hb dL_law_897 ?_
  refine va_sld hx hb hX hbl hbA hS (vp_in_nI (show i + 1 < L by omega) (by omega)) dL_law_898 ?_
  refine lv_cast (y := xs (i + 1)) (by rw [nI_clamp (show i + 1 < 2 ^ 31 by omega)]) ?_
  refine lv_aload_n hx hb dL_law_899 rfl (lv_at hl 0 rfl) ?_
  refine lv_iload_n hx hb dL_law_900 rfl (lv_at hl 3 rfl) ?_
  refine lv_iconst (v := 2) hx hb dL_law_901 (by decide) ?_
  refine nn_iadd (a := i) (b := 2) hx hb dL_law_902 ?_
  refine va_sld hx hb hX hbl hbA hS (vp_in_nI (show i + 2 < L by omega) (by omega)) dL_law_903 ?_
  refine lv_cast (y := xs (i + 2)) (by rw [nI_clamp (show i + 2 < 2 ^ 31 by omega)]) ?_
  refine lv_aload_n hx hb dL_law_904 rfl (lv_at hl 0 rfl) ?_
  refine lv_iload_n hx hb dL_law_905 rfl (lv_at hl 3 rfl) ?_
  refine lv_iconst (v := 3) hx hb dL_law_906 (by decide) ?_
  refine nn_iadd (a := i) (b := 3) hx hb dL_law_907 ?_
  refine va_sld hx hb hX hbl hbA hS (vp_in_nI (show i + 3 < L by omega) (by omega)) dL_law_908 ?_
  refine lv_cast (y := xs (i + 3)) (by rw [nI_clamp (show i + 3 < 2 ^ 31 by omega)]) ?_
  refine lv_i2l hx hb dL_law_909 rfl ?_
  refine lv_bipush (v := 32) hx hb dL_law_910 (by decide) ?_
  refine lv_lshl hx hb dL_law_912 rfl ?_
  refine lv_aload_n hx hb dL_law_913 rfl (lv_at hl 0 rfl) ?_
  refine lv_iload_n hx hb dL_law_914 rfl (lv_at hl 3 rfl) ?_
  refine lv_iconst (v := 4) hx hb dL_law_915 (by decide) ?_
  refine nn_iadd (a := i) (b := 4) hx hb dL_law_916 ?_
  refine va_sld hx hb hX hbl hbA hS (vp_in_nI (show i + 4 < L by omega) (by omega)) dL_law_917 ?_
  refine lv_cast (y := xs (i + 4)) (by rw [nI_clamp (show i + 4 < 2 ^ 31 by omega)]) ?_
  refine lv_i2l hx hb dL_law_918 rfl ?_
  refine lv_ldc2 (v := 4294967295) hx hb hown (hts (.constantLong RL 117 (4294967295)) (by decide +kernel)) dL_law_919 ?_
  refine lv_land hx hb dL_law_922 ?_
  refine lv_lor hx hb dL_law_923 ?_
  refine hl_callVl (As := [.int (xs (i + 1)), .int (xs (i + 2)), .long ((((xs (i + 3)).toInt64) <<< ((32 : Int32).toInt64 &&& 63)) ||| (((xs (i + 4)).toInt64) &&& 4294967295))]) (rest := []) ⟨hx, hb, hml, hown, hts⟩ hE hP hS (c_X4_write l G u (u.1 6) rfl hI.1.2.2.2.sz (xs (i + 1)) (xs (i + 2)) ((((xs (i + 3)).toInt64) <<< ((32 : Int32).toInt64 &&& 63)) ||| (((xs (i + 4)).toInt64) &&& 4294967295))) rfl (cwV 3 hts gL_law_X4_write rfl rfl rfl (by decide +kernel) ⟨Nat.le_of_ble_eq_true rfl, Nat.le_of_ble_eq_true rfl⟩) (do_recv hE hP) rfl hl.1 rfl (Nat.le_of_ble_eq_true rfl) dL_law_924 ⟨Nat.le_refl _, Nat.le_refl _⟩ (fun r1 v1 H locs q1 hP hS => ?_)
  have w11 : v1.1 11 = u.1 11 := q1.fr (by decide) (fun _ z => by rw [z.2]; rfl)
  have w13 : v1.1 13 = u.1 13 := q1.fr (by decide) (fun _ z => by rw [z.2]; rfl)
  have w17 : v1.1 17 = u.1 17 := q1.fr (by decide) (fun _ z => by rw [z.2]; rfl)
  have w18 : v1.1 18 = u.1 18 := q1.fr (by decide) (fun _ z => by rw [z.2]; rfl)
  refine lv_aload_n hx hb dL_law_927 rfl (lv_at hl 2 rfl) ?_
  refine lv_aload_n hx hb dL_law_928 rfl (lv_at hl 0 rfl) ?_
  refine lv_iload_n hx hb dL_law_929 rfl (lv_at hl 3 rfl) ?_
  refine lv_iconst (v := 1) hx hb dL_law_930 (by decide) ?_
  refine nn_iadd (a := i) (b := 1) hx hb dL_law_931 ?_
  refine va_sld hx hb hX hbl hbA hS (vp_in_nI (show i + 1 < L by omega) (by omega)) dL_law_932 ?_
  refine lv_cast (y := xs (i + 1)) (by rw [nI_clamp (show i + 1 < 2 ^ 31 by omega)]) ?_
  refine lv_aload_n hx hb dL_law_933 rfl (lv_at hl 0 rfl) ?_
  refine lv_iload_n hx hb dL_law_934 rfl (lv_at hl 3 rfl) ?_
  refine lv_iconst (v := 2) hx hb dL_law_935 (by decide) ?_
  refine nn_iadd (a := i) (b := 2) hx hb dL_law_936 ?_
  refine va_sld hx hb hX hbl hbA hS (vp_in_nI (show i + 2 < L by omega) (by omega)) dL_law_937 ?_
  refine lv_cast (y := xs (i + 2)) (by rw [nI_clamp (show i + 2 < 2 ^ 31 by omega)]) ?_
  refine lv_aload_n hx hb dL_law_938 rfl (lv_at hl 0 rfl) ?_
  refine lv_iload_n hx hb dL_law_939 rfl (lv_at hl 3 rfl) ?_
  refine lv_iconst (v := 3) hx hb dL_law_940 (by decide) ?_
  refine nn_iadd (a := i) (b := 3) hx hb dL_law_941 ?_
  refine va_sld hx hb hX hbl hbA hS (vp_in_nI (show i + 3 < L by omega) (by omega)) dL_law_942 ?_
  refine lv_cast (y := xs (i + 3)) (by rw [nI_clamp (show i + 3 < 2 ^ 31 by omega)]) ?_
  refine lv_i2l hx hb dL_law_943 rfl ?_
  refine lv_bipush (v := 32) hx hb dL_law_944 (by decide) ?_
  refine lv_lshl hx hb dL_law_946 rfl ?_
  refine lv_aload_n hx hb dL_law_947 rfl (lv_at hl 0 rfl) ?_
  refine lv_iload_n hx hb dL_law_948 rfl (lv_at hl 3 rfl) ?_
  refine lv_iconst (v := 4) hx hb dL_law_949 (by decide) ?_
  refine nn_iadd (a := i) (b := 4) hx hb dL_law_950 ?_
  refine va_sld hx hb hX hbl hbA hS (vp_in_nI (show i + 4 < L by omega) (by omega)) dL_law_951 ?_
  refine lv_cast (y := xs (i + 4)) (by rw [nI_clamp (show i + 4 < 2 ^ 31 by omega)]) ?_
  refine lv_i2l hx hb dL_law_952 rfl ?_
  refine lv_ldc2 (v := 4294967295) hx hb hown (hts (.constantLong RL 117 (4294967295)) (by decide +kernel)) dL_law_953 ?_
  refine lv_land hx hb dL_law_956 ?_
  refine lv_lor hx hb dL_law_957 ?_
  refine hl_callVl (As := [.int (xs (i + 1)), .int (xs (i + 2)), .long ((((xs (i + 3)).toInt64) <<< ((32 : Int32).toInt64 &&& 63)) ||| (((xs (i + 4)).toInt64) &&& 4294967295))]) (rest := [.long r1]) ⟨hx, hb, hml, hown, hts⟩ hE hP hS (c_X5_write l G v1 (v1.1 15) rfl (hI.1.2.2.2.sz2 w18) (xs (i + 1)) (xs (i + 2)) ((((xs (i + 3)).toInt64) <<< ((32 : Int32).toInt64 &&& 63)) ||| (((xs (i + 4)).toInt64) &&& 4294967295))) rfl (cwV 3 hts gL_law_X5_write rfl rfl rfl (by decide +kernel) ⟨Nat.le_of_ble_eq_true rfl, Nat.le_of_ble_eq_true rfl⟩) (mo_recv hE hP) rfl hl.1 rfl (Nat.le_of_ble_eq_true rfl) dL_law_958 ⟨Nat.le_refl _, Nat.le_refl _⟩ (fun r2 v2 H locs q2 hP hS => ?_)
  have hq := inv_PSL hI rfl rfl (ff_write hI.1.2.2.2 w17 w18 _ _) q1 q2 (fun hf z1 z2 => inv_write hI hf z1 z2)
  refine W.lcmp hx hb dL_law_961 ?_
  exact lc_eq (tgt := 1204) hx hb dL_law_962 (by decide) (fun _ => kk _ _ _ hq.2.tr hP.tr2 hS) (fun c9 => absurd hq.1 c9)
set_option maxHeartbeats 4000000 in
set_option maxRecDepth 100000 in
theorem lawc_copy {pg : Program} {l : Launch} {ev : Env} {s0 : State} {mm : MethodId} {below : List Frame} {meth : Method} {cd : Code} {b L : Nat} {xs : Nat → Int32} (hL : L ≤ 3072) (C0 : lw_At pg s0 mm meth cd b L xs) {G : Geo} (hE : E0 G s0 s0.heap) (hbA : ¬ gA G b) (i : Nat) (hi : i + 6 ≤ L) {u : Sg} (hI : Inv u) {H : Heap} {locs : List Loc} {ls : Array Slot} (hP : WP G u H) (hS : va_S (gA G) s0.heap H locs) (hl : lv_has ls 4 [(0, .ref b), (1, .ref (gad G 0)), (2, .ref (gad G 34)), (3, .int (nI i))])
    (kk : ∀ (u : Sg) (H : Heap) (locs : List Loc), Inv u → WP G u H → va_S (gA G) s0.heap H locs → W pg l ev room_1 s0 mm #[Value.ref b] below meth cd H locs 600000 7302250 (lw_Z below #[Value.ref b] s0) (F0 mm 1204 ls [])) : W pg l ev room_1 s0 mm #[Value.ref b] below meth cd H locs 600000 7302250 (lw_Z below #[Value.ref b] s0) (F0 mm 967 ls []) := by
  obtain ⟨hx, hb, hr, hml, hown, hts0, hX, hbl, hlocks, hgv⟩ := C0
  have hts : ∀ w ∈ wsL_law, w.before #[Value.ref b] s0 = true := fun w h => hts0 w (wsL_law_in w h)
  refine lv_aload_n hx hb dL_law_967 rfl (lv_at hl 1 rfl) ?_
  refine lv_aload_n hx hb dL_law_968 rfl (lv_at hl 0 rfl) ?_
  refine lv_iload_n hx hb dL_law_969 rfl (lv_at hl 3 rfl) ?_
  refine lv_iconst (v := 1) hx hb dL_law_970 (by decide) ?_
  refine nn_iadd (a := i) (b := 1) hx hb dL_law_971 ?_
  refine va_sld hx hb hX hbl hbA hS (vp_in_nI (show i + 1 < L by omega) (by omega)) dL_law_972 ?_
  refine lv_cast (y := xs (i + 1)) (by rw [nI_clamp (show i + 1 < 2 ^ 31 by omega)]) ?_
  refine lv_aload_n hx hb dL_law_973 rfl (lv_at hl 0 rfl) ?_
  refine lv_iload_n hx hb dL_law_974 rfl (lv_at hl 3 rfl) ?_
  refine lv_iconst (v := 2) hx hb dL_law_975 (by decide) ?_
  refine nn_iadd (a := i) (b := 2) hx hb dL_law_976 ?_
  refine va_sld hx hb hX hbl hbA hS (vp_in_nI (show i + 2 < L by omega) (by omega)) dL_law_977 ?_
  refine lv_cast (y := xs (i + 2)) (by rw [nI_clamp (show i + 2 < 2 ^ 31 by omega)]) ?_
  refine lv_aload_n hx hb dL_law_978 rfl (lv_at hl 0 rfl) ?_
  refine lv_iload_n hx hb dL_law_979 rfl (lv_at hl 3 rfl) ?_
  refine lv_iconst (v := 3) hx hb dL_law_980 (by decide) ?_
  refine nn_iadd (a := i) (b := 3) hx hb dL_law_981 ?_
  refine va_sld hx hb hX hbl hbA hS (vp_in_nI (show i + 3 < L by omega) (by omega)) dL_law_982 ?_
  refine lv_cast (y := xs (i + 3)) (by rw [nI_clamp (show i + 3 < 2 ^ 31 by omega)]) ?_
  refine lv_aload_n hx hb dL_law_983 rfl (lv_at hl 0 rfl) ?_
  refine lv_iload_n hx hb dL_law_984 rfl (lv_at hl 3 rfl) ?_
  refine lv_iconst (v := 4) hx hb dL_law_985 (by decide) ?_
  refine nn_iadd (a := i) (b := 4) hx hb dL_law_986 ?_
  refine va_sld hx hb hX hbl hbA hS (vp_in_nI (show i + 4 < L by omega) (by omega)) dL_law_987 ?_
  refine lv_cast (y := xs (i + 4)) (by rw [nI_clamp (show i + 4 < 2 ^ 31 by omega)]) ?_
  refine lv_aload_n hx hb dL_law_988 rfl (lv_at hl 0 rfl) ?_
  refine lv_iload_n hx hb dL_law_989 rfl (lv_at hl 3 rfl) ?_
  refine lv_iconst (v := 5) hx hb dL_law_990 (by decide) ?_
  refine nn_iadd (a := i) (b := 5) hx hb dL_law_991 ?_
  refine va_sld hx hb hX hbl hbA hS (vp_in_nI (show i + 5 < L by omega) (by omega)) dL_law_992 ?_
  refine lv_cast (y := xs (i + 5)) (by rw [nI_clamp (show i + 5 < 2 ^ 31 by omega)]) ?_
  refine hl_callVi (As := [.int (xs (i + 1)), .int (xs (i + 2)), .int (xs (i + 3)), .int (xs (i + 4)), .int (xs (i + 5))]) (rest := []) ⟨hx, hb, hml, hown, hts⟩ hE hP hS (c_X4_copy l G u (u.1 6) rfl hI.1.2.2.2.sz (xs (i + 1)) (xs (i + 2)) (xs (i + 3)) (xs (i + 4)) (xs (i + 5))) rfl (cwV 5 hts gL_law_X4_copy rfl rfl rfl (by decide +kernel) ⟨Nat.le_of_ble_eq_true rfl, Nat.le_of_ble_eq_true rfl⟩) (do_recv hE hP) rfl hl.1 rfl (Nat.le_of_ble_eq_true rfl) dL_law_993 ⟨Nat.le_refl _, Nat.le_refl _⟩ (fun r1 v1 H locs q1 hP hS => ?_)
  have w11 : v1.1 11 = u.1 11 := q1.fr (by decide) (fun _ z => by rw [z.2]; rfl)
  have w13 : v1.1 13 = u.1 13 := q1.fr (by decide) (fun _ z => by rw [z.2]; rfl)
  have w17 : v1.1 17 = u.1 17 := q1.fr (by decide) (fun _ z => by rw [z.2]; rfl)
  have w18 : v1.1 18 = u.1 18 := q1.fr (by decide) (fun _ z => by rw [z.2]; rfl)
  refine lv_aload_n hx hb dL_law_996 rfl (lv_at hl 2 rfl) ?_
  refine lv_aload_n hx hb dL_law_997 rfl (lv_at hl 0 rfl) ?_
  refine lv_iload_n hx hb dL_law_998 rfl (lv_at hl 3 rfl) ?_
  refine lv_iconst (v := 1) hx hb dL_law_999 (by decide) ?_
  refine nn_iadd (a := i) (b := 1) hx hb dL_law_1000 ?_
  refine va_sld hx hb hX hbl hbA hS (vp_in_nI (show i + 1 < L by omega) (by omega)) dL_law_1001 ?_
  refine lv_cast (y := xs (i + 1)) (by rw [nI_clamp (show i + 1 < 2 ^ 31 by omega)]) ?_
  refine lv_aload_n hx hb dL_law_1002 rfl (lv_at hl 0 rfl) ?_
  refine lv_iload_n hx hb dL_law_1003 rfl (lv_at hl 3 rfl) ?_
  refine lv_iconst (v := 2) hx hb dL_law_1004 (by decide) ?_
  refine nn_iadd (a := i) (b := 2) hx hb dL_law_1005 ?_
  refine va_sld hx hb hX hbl hbA hS (vp_in_nI (show i + 2 < L by omega) (by omega)) dL_law_1006 ?_
  refine lv_cast (y := xs (i + 2)) (by rw [nI_clamp (show i + 2 < 2 ^ 31 by omega)]) ?_
  refine lv_aload_n hx hb dL_law_1007 rfl (lv_at hl 0 rfl) ?_
  refine lv_iload_n hx hb dL_law_1008 rfl (lv_at hl 3 rfl) ?_
  refine lv_iconst (v := 3) hx hb dL_law_1009 (by decide) ?_
  refine nn_iadd (a := i) (b := 3) hx hb dL_law_1010 ?_
  refine va_sld hx hb hX hbl hbA hS (vp_in_nI (show i + 3 < L by omega) (by omega)) dL_law_1011 ?_
  refine lv_cast (y := xs (i + 3)) (by rw [nI_clamp (show i + 3 < 2 ^ 31 by omega)]) ?_
  refine lv_aload_n hx hb dL_law_1012 rfl (lv_at hl 0 rfl) ?_
  refine lv_iload_n hx hb dL_law_1013 rfl (lv_at hl 3 rfl) ?_
  refine lv_iconst (v := 4) hx hb dL_law_1014 (by decide) ?_
  refine nn_iadd (a := i) (b := 4) hx hb dL_law_1015 ?_
  refine va_sld hx hb hX hbl hbA hS (vp_in_nI (show i + 4 < L by omega) (by omega)) dL_law_1016 ?_
  refine lv_cast (y := xs (i + 4)) (by rw [nI_clamp (show i + 4 < 2 ^ 31 by omega)]) ?_
  refine lv_aload_n hx hb dL_law_1017 rfl (lv_at hl 0 rfl) ?_
  refine lv_iload_n hx hb dL_law_1018 rfl (lv_at hl 3 rfl) ?_
  refine lv_iconst (v := 5) hx hb dL_law_1019 (by decide) ?_
  refine nn_iadd (a := i) (b := 5) hx hb dL_law_1020 ?_
  refine va_sld hx hb hX hbl hbA hS (vp_in_nI (show i + 5 < L by omega) (by omega)) dL_law_1021 ?_
  refine lv_cast (y := xs (i + 5)) (by rw [nI_clamp (show i + 5 < 2 ^ 31 by omega)]) ?_
  refine hl_callVi (As := [.int (xs (i + 1)), .int (xs (i + 2)), .int (xs (i + 3)), .int (xs (i + 4)), .int (xs (i + 5))]) (rest := [.int r1]) ⟨hx, hb, hml, hown, hts⟩ hE hP hS (c_X5_copy l G v1 (v1.1 15) rfl (hI.1.2.2.2.sz2 w18) (xs (i + 1)) (xs (i + 2)) (xs (i + 3)) (xs (i + 4)) (xs (i + 5))) rfl (cwV 5 hts gL_law_X5_copy rfl rfl rfl (by decide +kernel) ⟨Nat.le_of_ble_eq_true rfl, Nat.le_of_ble_eq_true rfl⟩) (mo_recv hE hP) rfl hl.1 rfl (Nat.le_of_ble_eq_true rfl) dL_law_1022 ⟨Nat.le_refl _, Nat.le_refl _⟩ (fun r2 v2 H locs q2 hP hS => ?_)
  have hq := inv_PS hI rfl rfl (ff_copy hI.1.2.2.2 w17 w18 _ _ _ _ _) q1 q2 (fun hf z1 z2 => inv_copy hI hf z1 z2)
  exact lv_icmp_eq (tgt := 1204) hx hb dL_law_1025 (by decide) (fun _ => kk _ _ _ hq.2.tr hP.tr2 hS) (fun c9 => absurd hq.1 c9)
set_option maxHeartbeats 4000000 in
set_option maxRecDepth 100000 in
theorem lawc_lays {pg : Program} {l : Launch} {ev : Env} {s0 : State} {mm : MethodId} {below : List Frame} {meth : Method} {cd : Code} {b L : Nat} {xs : Nat → Int32} (hL : L ≤ 3072) (C0 : lw_At pg s0 mm meth cd b L xs) {G : Geo} (hE : E0 G s0 s0.heap) (hbA : ¬ gA G b) (i : Nat) (hi : i + 6 ≤ L) {u : Sg} (hI : Inv u) {H : Heap} {locs : List Loc} {ls : Array Slot} (hP : WP G u H) (hS : va_S (gA G) s0.heap H locs) (hl : lv_has ls 4 [(0, .ref b), (1, .ref (gad G 0)), (2, .ref (gad G 34)), (3, .int (nI i))])
    (kk : ∀ (u : Sg) (H : Heap) (locs : List Loc), Inv u → WP G u H → va_S (gA G) s0.heap H locs → W pg l ev room_1 s0 mm #[Value.ref b] below meth cd H locs 600000 7302250 (lw_Z below #[Value.ref b] s0) (F0 mm 1204 ls [])) : W pg l ev room_1 s0 mm #[Value.ref b] below meth cd H locs 600000 7302250 (lw_Z below #[Value.ref b] s0) (F0 mm 1030 ls []) := by
  obtain ⟨hx, hb, hr, hml, hown, hts0, hX, hbl, hlocks, hgv⟩ := C0
  have hts : ∀ w ∈ wsL_law, w.before #[Value.ref b] s0 = true := fun w h => hts0 w (wsL_law_in w h)
  refine lv_aload_n hx hb dL_law_1030 rfl (lv_at hl 1 rfl) ?_
  refine lv_aload_n hx hb dL_law_1031 rfl (lv_at hl 0 rfl) ?_
  refine lv_iload_n hx hb dL_law_1032 rfl (lv_at hl 3 rfl) ?_
  refine lv_iconst (v := 1) hx hb dL_law_1033 (by decide) ?_
  refine nn_iadd (a := i) (b := 1) hx hb dL_law_1034 ?_
  refine va_sld hx hb hX hbl hbA hS (vp_in_nI (show i + 1 < L by omega) (by omega)) dL_law_1035 ?_
  refine lv_cast (y := xs (i + 1)) (by rw [nI_clamp (show i + 1 < 2 ^ 31 by omega)]) ?_
  refine hl_callVi (As := [.int (xs (i + 1))]) (rest := []) ⟨hx, hb, hml, hown, hts⟩ hE hP hS (c_X4_lays l G u (u.1 0) (u.1 6) rfl rfl hI.1.1.2.1.1 hI.1.2.2.2.sz (xs (i + 1))) rfl (cwV 1 hts gL_law_X4_lays rfl rfl rfl (by decide +kernel) ⟨Nat.le_of_ble_eq_true rfl, Nat.le_of_ble_eq_true rfl⟩) (do_recv hE hP) rfl hl.1 rfl (Nat.le_of_ble_eq_true rfl) dL_law_1036 ⟨Nat.le_refl _, Nat.le_refl _⟩ (fun r1 v1 H locs q1 hP hS => ?_)
  have w11 : v1.1 11 = u.1 11 := q1.fr (by decide) (fun hf z => fr_lays hI (by decide) hf z)
  have w13 : v1.1 13 = u.1 13 := q1.fr (by decide) (fun hf z => fr_lays hI (by decide) hf z)
  have w17 : v1.1 17 = u.1 17 := q1.fr (by decide) (fun hf z => fr_lays hI (by decide) hf z)
  have w18 : v1.1 18 = u.1 18 := q1.fr (by decide) (fun hf z => fr_lays hI (by decide) hf z)
  refine lv_aload_n hx hb dL_law_1039 rfl (lv_at hl 2 rfl) ?_
  refine lv_aload_n hx hb dL_law_1040 rfl (lv_at hl 0 rfl) ?_
  refine lv_iload_n hx hb dL_law_1041 rfl (lv_at hl 3 rfl) ?_
  refine lv_iconst (v := 1) hx hb dL_law_1042 (by decide) ?_
  refine nn_iadd (a := i) (b := 1) hx hb dL_law_1043 ?_
  refine va_sld hx hb hX hbl hbA hS (vp_in_nI (show i + 1 < L by omega) (by omega)) dL_law_1044 ?_
  refine lv_cast (y := xs (i + 1)) (by rw [nI_clamp (show i + 1 < 2 ^ 31 by omega)]) ?_
  refine hl_callVi (As := [.int (xs (i + 1))]) (rest := [.int r1]) ⟨hx, hb, hml, hown, hts⟩ hE hP hS (c_X5_lays l G v1 (v1.1 11) (v1.1 15) rfl rfl (by rw [w11, ← hI.1.1.1]; exact hI.1.1.2.1.1) (hI.1.2.2.2.sz2 w18) (xs (i + 1))) rfl (cwV 1 hts gL_law_X5_lays rfl rfl rfl (by decide +kernel) ⟨Nat.le_of_ble_eq_true rfl, Nat.le_of_ble_eq_true rfl⟩) (mo_recv hE hP) rfl hl.1 rfl (Nat.le_of_ble_eq_true rfl) dL_law_1045 ⟨Nat.le_refl _, Nat.le_refl _⟩ (fun r2 v2 H locs q2 hP hS => ?_)
  have hq := inv_PS hI rfl rfl (ff_there hI.1.2.2.2 w17 w18 _) q1 q2 (fun hf z1 z2 => inv_lays hI hf z1 z2)
  exact lv_icmp_eq (tgt := 1204) hx hb dL_law_1048 (by decide) (fun _ => kk _ _ _ hq.2.tr hP.tr2 hS) (fun c9 => absurd hq.1 c9)
set_option maxHeartbeats 4000000 in
set_option maxRecDepth 100000 in
theorem lawc_book {pg : Program} {l : Launch} {ev : Env} {s0 : State} {mm : MethodId} {below : List Frame} {meth : Method} {cd : Code} {b L : Nat} {xs : Nat → Int32} (hL : L ≤ 3072) (C0 : lw_At pg s0 mm meth cd b L xs) {G : Geo} (hE : E0 G s0 s0.heap) (hbA : ¬ gA G b) (i : Nat) (hi : i + 6 ≤ L) {u : Sg} (hI : Inv u) {H : Heap} {locs : List Loc} {ls : Array Slot} (hP : WP G u H) (hS : va_S (gA G) s0.heap H locs) (hl : lv_has ls 4 [(0, .ref b), (1, .ref (gad G 0)), (2, .ref (gad G 34)), (3, .int (nI i))])
    (kk : ∀ (u : Sg) (H : Heap) (locs : List Loc), Inv u → WP G u H → va_S (gA G) s0.heap H locs → W pg l ev room_1 s0 mm #[Value.ref b] below meth cd H locs 600000 7302250 (lw_Z below #[Value.ref b] s0) (F0 mm 1204 ls [])) : W pg l ev room_1 s0 mm #[Value.ref b] below meth cd H locs 600000 7302250 (lw_Z below #[Value.ref b] s0) (F0 mm 1053 ls []) := by
  obtain ⟨hx, hb, hr, hml, hown, hts0, hX, hbl, hlocks, hgv⟩ := C0
  have hts : ∀ w ∈ wsL_law, w.before #[Value.ref b] s0 = true := fun w h => hts0 w (wsL_law_in w h)
  refine lv_aload_n hx hb dL_law_1053 rfl (lv_at hl 1 rfl) ?_
  refine lv_aload_n hx hb dL_law_1054 rfl (lv_at hl 0 rfl) ?_
  refine lv_iload_n hx hb dL_law_1055 rfl (lv_at hl 3 rfl) ?_
  refine lv_iconst (v := 1) hx hb dL_law_1056 (by decide) ?_
  refine nn_iadd (a := i) (b := 1) hx hb dL_law_1057 ?_
  refine va_sld hx hb hX hbl hbA hS (vp_in_nI (show i + 1 < L by omega) (by omega)) dL_law_1058 ?_
  refine lv_cast (y := xs (i + 1)) (by rw [nI_clamp (show i + 1 < 2 ^ 31 by omega)]) ?_
  refine lv_aload_n hx hb dL_law_1059 rfl (lv_at hl 0 rfl) ?_
  refine lv_iload_n hx hb dL_law_1060 rfl (lv_at hl 3 rfl) ?_
  refine lv_iconst (v := 2) hx hb dL_law_1061 (by decide) ?_
  refine nn_iadd (a := i) (b := 2) hx hb dL_law_1062 ?_
  refine va_sld hx hb hX hbl hbA hS (vp_in_nI (show i + 2 < L by omega) (by omega)) dL_law_1063 ?_
  refine lv_cast (y := xs (i + 2)) (by rw [nI_clamp (show i + 2 < 2 ^ 31 by omega)]) ?_
  refine hl_callVi (As := [.int (xs (i + 1)), .int (xs (i + 2))]) (rest := []) ⟨hx, hb, hml, hown, hts⟩ hE hP hS (c_X4_book l G u (u.1 0) (u.1 6) rfl rfl hI.1.1.2.1.1 hI.1.2.2.2.sz (u.1 1) rfl hI.2.1 (xs (i + 1)) (xs (i + 2))) rfl (cwV 2 hts gL_law_X4_book rfl rfl rfl (by decide +kernel) ⟨Nat.le_of_ble_eq_true rfl, Nat.le_of_ble_eq_true rfl⟩) (do_recv hE hP) rfl hl.1 rfl (Nat.le_of_ble_eq_true rfl) dL_law_1064 ⟨Nat.le_refl _, Nat.le_refl _⟩ (fun r1 v1 H locs q1 hP hS => ?_)
  have w11 : v1.1 11 = u.1 11 := q1.fr (by decide) (fun hf z => fr_book hI (by decide) hf z)
  have w13 : v1.1 13 = u.1 13 := q1.fr (by decide) (fun hf z => fr_book hI (by decide) hf z)
  have w17 : v1.1 17 = u.1 17 := q1.fr (by decide) (fun hf z => fr_book hI (by decide) hf z)
  have w18 : v1.1 18 = u.1 18 := q1.fr (by decide) (fun hf z => fr_book hI (by decide) hf z)
  refine lv_aload_n hx hb dL_law_1067 rfl (lv_at hl 2 rfl) ?_
  refine lv_aload_n hx hb dL_law_1068 rfl (lv_at hl 0 rfl) ?_
  refine lv_iload_n hx hb dL_law_1069 rfl (lv_at hl 3 rfl) ?_
  refine lv_iconst (v := 1) hx hb dL_law_1070 (by decide) ?_
  refine nn_iadd (a := i) (b := 1) hx hb dL_law_1071 ?_
  refine va_sld hx hb hX hbl hbA hS (vp_in_nI (show i + 1 < L by omega) (by omega)) dL_law_1072 ?_
  refine lv_cast (y := xs (i + 1)) (by rw [nI_clamp (show i + 1 < 2 ^ 31 by omega)]) ?_
  refine lv_aload_n hx hb dL_law_1073 rfl (lv_at hl 0 rfl) ?_
  refine lv_iload_n hx hb dL_law_1074 rfl (lv_at hl 3 rfl) ?_
  refine lv_iconst (v := 2) hx hb dL_law_1075 (by decide) ?_
  refine nn_iadd (a := i) (b := 2) hx hb dL_law_1076 ?_
  refine va_sld hx hb hX hbl hbA hS (vp_in_nI (show i + 2 < L by omega) (by omega)) dL_law_1077 ?_
  refine lv_cast (y := xs (i + 2)) (by rw [nI_clamp (show i + 2 < 2 ^ 31 by omega)]) ?_
  refine hl_callVi (As := [.int (xs (i + 1)), .int (xs (i + 2))]) (rest := [.int r1]) ⟨hx, hb, hml, hown, hts⟩ hE hP hS (c_X5_book l G v1 (v1.1 11) (v1.1 15) rfl rfl (by rw [w11, ← hI.1.1.1]; exact hI.1.1.2.1.1) (v1.1 13) rfl (by rw [w13]; exact hI.2.2) (hI.1.2.2.2.sz2 w18) (xs (i + 1)) (xs (i + 2))) rfl (cwV 2 hts gL_law_X5_book rfl rfl rfl (by decide +kernel) ⟨Nat.le_of_ble_eq_true rfl, Nat.le_of_ble_eq_true rfl⟩) (mo_recv hE hP) rfl hl.1 rfl (Nat.le_of_ble_eq_true rfl) dL_law_1078 ⟨Nat.le_refl _, Nat.le_refl _⟩ (fun r2 v2 H locs q2 hP hS => ?_)
  have hq := inv_PS hI rfl rfl (by rw [w11, ← hI.1.1.1]; exact ff_book hI.1.2.2.2 w17 w18 _ _ _) q1 q2 (fun hf z1 z2 => inv_book hI hf z1 z2)
  exact lv_icmp_eq (tgt := 1204) hx hb dL_law_1081 (by decide) (fun _ => kk _ _ _ hq.2.tr hP.tr2 hS) (fun c9 => absurd hq.1 c9)
set_option maxHeartbeats 4000000 in
set_option maxRecDepth 100000 in
theorem lawc_read {pg : Program} {l : Launch} {ev : Env} {s0 : State} {mm : MethodId} {below : List Frame} {meth : Method} {cd : Code} {b L : Nat} {xs : Nat → Int32} (hL : L ≤ 3072) (C0 : lw_At pg s0 mm meth cd b L xs) {G : Geo} (hE : E0 G s0 s0.heap) (hbA : ¬ gA G b) (i : Nat) (hi : i + 6 ≤ L) {u : Sg} (hI : Inv u) {H : Heap} {locs : List Loc} {ls : Array Slot} (hP : WP G u H) (hS : va_S (gA G) s0.heap H locs) (hl : lv_has ls 4 [(0, .ref b), (1, .ref (gad G 0)), (2, .ref (gad G 34)), (3, .int (nI i))])
    (kk : ∀ (u : Sg) (H : Heap) (locs : List Loc), Inv u → WP G u H → va_S (gA G) s0.heap H locs → W pg l ev room_1 s0 mm #[Value.ref b] below meth cd H locs 600000 7302250 (lw_Z below #[Value.ref b] s0) (F0 mm 1204 ls [])) : W pg l ev room_1 s0 mm #[Value.ref b] below meth cd H locs 600000 7302250 (lw_Z below #[Value.ref b] s0) (F0 mm 1086 ls []) := by
  obtain ⟨hx, hb, hr, hml, hown, hts0, hX, hbl, hlocks, hgv⟩ := C0
  have hts : ∀ w ∈ wsL_law, w.before #[Value.ref b] s0 = true := fun w h => hts0 w (wsL_law_in w h)
  refine lv_aload_n hx hb dL_law_1086 rfl (lv_at hl 1 rfl) ?_
  refine lv_aload_n hx hb dL_law_1087 rfl (lv_at hl 0 rfl) ?_
  refine lv_iload_n hx hb dL_law_1088 rfl (lv_at hl 3 rfl) ?_
  refine lv_iconst (v := 1) hx hb dL_law_1089 (by decide) ?_
  refine nn_iadd (a := i) (b := 1) hx hb dL_law_1090 ?_
  refine va_sld hx hb hX hbl hbA hS (vp_in_nI (show i + 1 < L by omega) (by omega)) dL_law_1091 ?_
  refine lv_cast (y := xs (i + 1)) (by rw [nI_clamp (show i + 1 < 2 ^ 31 by omega)]) ?_
  refine lv_aload_n hx hb dL_law_1092 rfl (lv_at hl 0 rfl) ?_
  refine lv_iload_n hx hb dL_law_1093 rfl (lv_at hl 3 rfl) ?_
  refine lv_iconst (v := 2) hx hb dL_law_1094 (by decide) ?_
  refine nn_iadd (a := i) (b := 2) hx hb dL_law_1095 ?_
  refine va_sld hx hb hX hbl hbA hS (vp_in_nI (show i + 2 < L by omega) (by omega)) dL_law_1096 ?_
  refine lv_cast (y := xs (i + 2)) (by rw [nI_clamp (show i + 2 < 2 ^ 31 by omega)]) ?_
  refine hl_callVi (As := [.int (xs (i + 1)), .int (xs (i + 2))]) (rest := []) ⟨hx, hb, hml, hown, hts⟩ hE hP hS (c_X4_read l G u (u.1 0) (u.1 6) rfl rfl hI.1.1.2.1.1 hI.1.2.2.2.sz (u.1 1) rfl hI.2.1 (xs (i + 1)) (xs (i + 2))) rfl (cwV 2 hts gL_law_X4_read rfl rfl rfl (by decide +kernel) ⟨Nat.le_of_ble_eq_true rfl, Nat.le_of_ble_eq_true rfl⟩) (do_recv hE hP) rfl hl.1 rfl (Nat.le_of_ble_eq_true rfl) dL_law_1097 ⟨Nat.le_refl _, Nat.le_refl _⟩ (fun r1 v1 H locs q1 hP hS => ?_)
  have w11 : v1.1 11 = u.1 11 := q1.fr (by decide) (fun _ z => by obtain ⟨_, _, rfl, _⟩ := z; exact sI_ne _ _ (by decide))
  have w13 : v1.1 13 = u.1 13 := q1.fr (by decide) (fun _ z => by obtain ⟨_, _, rfl, _⟩ := z; exact sI_ne _ _ (by decide))
  have w17 : v1.1 17 = u.1 17 := q1.fr (by decide) (fun _ z => by obtain ⟨_, _, rfl, _⟩ := z; exact sI_ne _ _ (by decide))
  have w18 : v1.1 18 = u.1 18 := q1.fr (by decide) (fun _ z => by obtain ⟨_, _, rfl, _⟩ := z; exact sI_ne _ _ (by decide))
  refine lv_aload_n hx hb dL_law_1100 rfl (lv_at hl 2 rfl) ?_
  refine lv_aload_n hx hb dL_law_1101 rfl (lv_at hl 0 rfl) ?_
  refine lv_iload_n hx hb dL_law_1102 rfl (lv_at hl 3 rfl) ?_
  refine lv_iconst (v := 1) hx hb dL_law_1103 (by decide) ?_
  refine nn_iadd (a := i) (b := 1) hx hb dL_law_1104 ?_
  refine va_sld hx hb hX hbl hbA hS (vp_in_nI (show i + 1 < L by omega) (by omega)) dL_law_1105 ?_
  refine lv_cast (y := xs (i + 1)) (by rw [nI_clamp (show i + 1 < 2 ^ 31 by omega)]) ?_
  refine lv_aload_n hx hb dL_law_1106 rfl (lv_at hl 0 rfl) ?_
  refine lv_iload_n hx hb dL_law_1107 rfl (lv_at hl 3 rfl) ?_
  refine lv_iconst (v := 2) hx hb dL_law_1108 (by decide) ?_
  refine nn_iadd (a := i) (b := 2) hx hb dL_law_1109 ?_
  refine va_sld hx hb hX hbl hbA hS (vp_in_nI (show i + 2 < L by omega) (by omega)) dL_law_1110 ?_
  refine lv_cast (y := xs (i + 2)) (by rw [nI_clamp (show i + 2 < 2 ^ 31 by omega)]) ?_
  refine hl_callVi (As := [.int (xs (i + 1)), .int (xs (i + 2))]) (rest := [.int r1]) ⟨hx, hb, hml, hown, hts⟩ hE hP hS (c_X5_read l G v1 (v1.1 11) (v1.1 15) rfl rfl (by rw [w11, ← hI.1.1.1]; exact hI.1.1.2.1.1) (v1.1 13) rfl (by rw [w13]; exact hI.2.2) (hI.1.2.2.2.sz2 w18) (xs (i + 1)) (xs (i + 2))) rfl (cwV 2 hts gL_law_X5_read rfl rfl rfl (by decide +kernel) ⟨Nat.le_of_ble_eq_true rfl, Nat.le_of_ble_eq_true rfl⟩) (mo_recv hE hP) rfl hl.1 rfl (Nat.le_of_ble_eq_true rfl) dL_law_1111 ⟨Nat.le_refl _, Nat.le_refl _⟩ (fun r2 v2 H locs q2 hP hS => ?_)
  have hq := inv_PS hI rfl rfl (by rw [w11, ← hI.1.1.1]; exact ff_book hI.1.2.2.2 w17 w18 _ _ _) q1 q2 (fun hf z1 z2 => inv_read hI hf z1 z2)
  exact lv_icmp_eq (tgt := 1204) hx hb dL_law_1114 (by decide) (fun _ => kk _ _ _ hq.2.tr hP.tr2 hS) (fun c9 => absurd hq.1 c9)
set_option maxHeartbeats 4000000 in
set_option maxRecDepth 100000 in
theorem lawc_image {pg : Program} {l : Launch} {ev : Env} {s0 : State} {mm : MethodId} {below : List Frame} {meth : Method} {cd : Code} {b L : Nat} {xs : Nat → Int32} (hL : L ≤ 3072) (C0 : lw_At pg s0 mm meth cd b L xs) {G : Geo} (hE : E0 G s0 s0.heap) (hbA : ¬ gA G b) (i : Nat) (hi : i + 6 ≤ L) {u : Sg} (hI : Inv u) {H : Heap} {locs : List Loc} {ls : Array Slot} (hP : WP G u H) (hS : va_S (gA G) s0.heap H locs) (hl : lv_has ls 4 [(0, .ref b), (1, .ref (gad G 0)), (2, .ref (gad G 34)), (3, .int (nI i))])
    (kk : ∀ (u : Sg) (H : Heap) (locs : List Loc), Inv u → WP G u H → va_S (gA G) s0.heap H locs → W pg l ev room_1 s0 mm #[Value.ref b] below meth cd H locs 600000 7302250 (lw_Z below #[Value.ref b] s0) (F0 mm 1204 ls [])) : W pg l ev room_1 s0 mm #[Value.ref b] below meth cd H locs 600000 7302250 (lw_Z below #[Value.ref b] s0) (F0 mm 1119 ls []) := by
  obtain ⟨hx, hb, hr, hml, hown, hts0, hX, hbl, hlocks, hgv⟩ := C0
  have hts : ∀ w ∈ wsL_law, w.before #[Value.ref b] s0 = true := fun w h => hts0 w (wsL_law_in w h)
  refine lv_aload_n hx hb dL_law_1119 rfl (lv_at hl 1 rfl) ?_
  refine hl_callVi (As := []) (rest := []) ⟨hx, hb, hml, hown, hts⟩ hE hP hS (c_X4_image l G u (u.1 0) (u.1 6) (u.1 2) (u.1 3) rfl rfl rfl rfl hI.1.1.2.1.1.1 hI.1.2.1.1) rfl (cwV 0 hts gL_law_X4_image rfl rfl rfl (by decide +kernel) ⟨Nat.le_of_ble_eq_true rfl, Nat.le_of_ble_eq_true rfl⟩) (do_recv hE hP) rfl hl.1 rfl (Nat.le_of_ble_eq_true rfl) dL_law_1120 ⟨Nat.le_refl _, Nat.le_refl _⟩ (fun r1 v1 H locs q1 hP hS => ?_)
  have w11 : v1.1 11 = u.1 11 := by rw [q1.2, sI_ne _ _ (by decide), sI_ne _ _ (by decide)]
  have w12 : v1.1 12 = u.1 12 := by rw [q1.2, sI_ne _ _ (by decide), sI_ne _ _ (by decide)]
  refine lv_aload_n hx hb dL_law_1123 rfl (lv_at hl 2 rfl) ?_
  refine hl_callVi (As := []) (rest := [.int r1]) ⟨hx, hb, hml, hown, hts⟩ hE hP hS (c_X5_image l G v1 (v1.1 11) (v1.1 15) (v1.1 12) (v1.1 14) rfl rfl rfl rfl (by rw [w11, ← hI.1.1.1]; exact hI.1.1.2.1.1.1) (by rw [w12]; exact hI.1.2.1.2.1)) rfl (cwV 0 hts gL_law_X5_image rfl rfl rfl (by decide +kernel) ⟨Nat.le_of_ble_eq_true rfl, Nat.le_of_ble_eq_true rfl⟩) (mo_recv hE hP) rfl hl.1 rfl (Nat.le_of_ble_eq_true rfl) dL_law_1124 ⟨Nat.le_refl _, Nat.le_refl _⟩ (fun r2 v2 H locs q2 hP hS => ?_)
  have hq := inv_image hI q1 q2
  exact lv_icmp_eq (tgt := 1204) hx hb dL_law_1127 (by decide) (fun _ => kk _ _ _ hq.2.tr hP.tr2 hS) (fun c9 => absurd hq.1 c9)
set_option maxHeartbeats 4000000 in
set_option maxRecDepth 100000 in
theorem lawc_undo {pg : Program} {l : Launch} {ev : Env} {s0 : State} {mm : MethodId} {below : List Frame} {meth : Method} {cd : Code} {b L : Nat} {xs : Nat → Int32} (hL : L ≤ 3072) (C0 : lw_At pg s0 mm meth cd b L xs) {G : Geo} (hE : E0 G s0 s0.heap) (hbA : ¬ gA G b) (i : Nat) (hi : i + 6 ≤ L) {u : Sg} (hI : Inv u) {H : Heap} {locs : List Loc} {ls : Array Slot} (hP : WP G u H) (hS : va_S (gA G) s0.heap H locs) (hl : lv_has ls 4 [(0, .ref b), (1, .ref (gad G 0)), (2, .ref (gad G 34)), (3, .int (nI i))])
    (kk : ∀ (u : Sg) (H : Heap) (locs : List Loc), Inv u → WP G u H → va_S (gA G) s0.heap H locs → W pg l ev room_1 s0 mm #[Value.ref b] below meth cd H locs 600000 7302250 (lw_Z below #[Value.ref b] s0) (F0 mm 1204 ls [])) : W pg l ev room_1 s0 mm #[Value.ref b] below meth cd H locs 600000 7302250 (lw_Z below #[Value.ref b] s0) (F0 mm 1132 ls []) := by
  obtain ⟨hx, hb, hr, hml, hown, hts0, hX, hbl, hlocks, hgv⟩ := C0
  have hts : ∀ w ∈ wsL_law, w.before #[Value.ref b] s0 = true := fun w h => hts0 w (wsL_law_in w h)
  refine lv_aload_n hx hb dL_law_1132 rfl (lv_at hl 1 rfl) ?_
  refine hl_callVi (As := []) (rest := []) ⟨hx, hb, hml, hown, hts⟩ hE hP hS (c_X4_undo l G u (u.1 0) (u.1 6) (u.1 2) (u.1 3) rfl rfl rfl rfl hI.1.1.2.1.1.1 hI.1.2.1.1) rfl (cwV 0 hts gL_law_X4_undo rfl rfl rfl (by decide +kernel) ⟨Nat.le_of_ble_eq_true rfl, Nat.le_of_ble_eq_true rfl⟩) (do_recv hE hP) rfl hl.1 rfl (Nat.le_of_ble_eq_true rfl) dL_law_1133 ⟨Nat.le_refl _, Nat.le_refl _⟩ (fun r1 v1 H locs q1 hP hS => ?_)
  have w11 : v1.1 11 = u.1 11 := by rw [q1.2]; split <;> exact sI_ne _ _ (by decide)
  have w12 : v1.1 12 = u.1 12 := by rw [q1.2]; split <;> exact sI_ne _ _ (by decide)
  refine lv_aload_n hx hb dL_law_1136 rfl (lv_at hl 2 rfl) ?_
  refine hl_callVi (As := []) (rest := [.int r1]) ⟨hx, hb, hml, hown, hts⟩ hE hP hS (c_X5_undo l G v1 (v1.1 11) (v1.1 15) (v1.1 12) (v1.1 14) rfl rfl rfl rfl (by rw [w11, ← hI.1.1.1]; exact hI.1.1.2.1.1.1) (by rw [w12]; exact hI.1.2.1.2.1)) rfl (cwV 0 hts gL_law_X5_undo rfl rfl rfl (by decide +kernel) ⟨Nat.le_of_ble_eq_true rfl, Nat.le_of_ble_eq_true rfl⟩) (mo_recv hE hP) rfl hl.1 rfl (Nat.le_of_ble_eq_true rfl) dL_law_1137 ⟨Nat.le_refl _, Nat.le_refl _⟩ (fun r2 v2 H locs q2 hP hS => ?_)
  have hq := inv_undo hI q1 q2
  exact lv_icmp_eq (tgt := 1204) hx hb dL_law_1140 (by decide) (fun _ => kk _ _ _ hq.2.tr hP.tr2 hS) (fun c9 => absurd hq.1 c9)
set_option maxHeartbeats 4000000 in
set_option maxRecDepth 100000 in
theorem lawc_tear {pg : Program} {l : Launch} {ev : Env} {s0 : State} {mm : MethodId} {below : List Frame} {meth : Method} {cd : Code} {b L : Nat} {xs : Nat → Int32} (hL : L ≤ 3072) (C0 : lw_At pg s0 mm meth cd b L xs) {G : Geo} (hE : E0 G s0 s0.heap) (hbA : ¬ gA G b) (i : Nat) (hi : i + 6 ≤ L) {u : Sg} (hI : Inv u) {H : Heap} {locs : List Loc} {ls : Array Slot} (hP : WP G u H) (hS : va_S (gA G) s0.heap H locs) (hl : lv_has ls 4 [(0, .ref b), (1, .ref (gad G 0)), (2, .ref (gad G 34)), (3, .int (nI i))])
    (kk : ∀ (u : Sg) (H : Heap) (locs : List Loc), Inv u → WP G u H → va_S (gA G) s0.heap H locs → W pg l ev room_1 s0 mm #[Value.ref b] below meth cd H locs 600000 7302250 (lw_Z below #[Value.ref b] s0) (F0 mm 1204 ls [])) : W pg l ev room_1 s0 mm #[Value.ref b] below meth cd H locs 600000 7302250 (lw_Z below #[Value.ref b] s0) (F0 mm 1145 ls []) := by
  obtain ⟨hx, hb, hr, hml, hown, hts0, hX, hbl, hlocks, hgv⟩ := C0
  have hts : ∀ w ∈ wsL_law, w.before #[Value.ref b] s0 = true := fun w h => hts0 w (wsL_law_in w h)
  refine lv_aload_n hx hb dL_law_1145 rfl (lv_at hl 1 rfl) ?_
  refine hl_callVi (As := []) (rest := []) ⟨hx, hb, hml, hown, hts⟩ hE hP hS (c_X4_tear l G u (u.1 0) (u.1 6) (u.1 2) (u.1 3) rfl rfl rfl rfl hI.1.1.2.1.1.1 hI.1.2.1.1) rfl (cwV 0 hts gL_law_X4_tear rfl rfl rfl (by decide +kernel) ⟨Nat.le_of_ble_eq_true rfl, Nat.le_of_ble_eq_true rfl⟩) (do_recv hE hP) rfl hl.1 rfl (Nat.le_of_ble_eq_true rfl) dL_law_1146 ⟨Nat.le_refl _, Nat.le_refl _⟩ (fun r1 v1 H locs q1 hP hS => ?_)
  have w11 : v1.1 11 = u.1 11 := by rw [q1.2]; exact sI_ne _ _ (by decide)
  have w12 : v1.1 12 = u.1 12 := by rw [q1.2]; exact sI_ne _ _ (by decide)
  refine lv_aload_n hx hb dL_law_1149 rfl (lv_at hl 2 rfl) ?_
  refine hl_callVi (As := []) (rest := [.int r1]) ⟨hx, hb, hml, hown, hts⟩ hE hP hS (c_X5_tear l G v1 (v1.1 11) (v1.1 15) (v1.1 12) (v1.1 14) rfl rfl rfl rfl (by rw [w11, ← hI.1.1.1]; exact hI.1.1.2.1.1.1) (by rw [w12]; exact hI.1.2.1.2.1)) rfl (cwV 0 hts gL_law_X5_tear rfl rfl rfl (by decide +kernel) ⟨Nat.le_of_ble_eq_true rfl, Nat.le_of_ble_eq_true rfl⟩) (mo_recv hE hP) rfl hl.1 rfl (Nat.le_of_ble_eq_true rfl) dL_law_1150 ⟨Nat.le_refl _, Nat.le_refl _⟩ (fun r2 v2 H locs q2 hP hS => ?_)
  have hq := inv_tear hI q1 q2
  exact lv_icmp_eq (tgt := 1204) hx hb dL_law_1153 (by decide) (fun _ => kk _ _ _ hq.2.tr hP.tr2 hS) (fun c9 => absurd hq.1 c9)
set_option maxHeartbeats 4000000 in
set_option maxRecDepth 100000 in
theorem lawc_count {pg : Program} {l : Launch} {ev : Env} {s0 : State} {mm : MethodId} {below : List Frame} {meth : Method} {cd : Code} {b L : Nat} {xs : Nat → Int32} (hL : L ≤ 3072) (C0 : lw_At pg s0 mm meth cd b L xs) {G : Geo} (hE : E0 G s0 s0.heap) (hbA : ¬ gA G b) (i : Nat) (hi : i + 6 ≤ L) {u : Sg} (hI : Inv u) {H : Heap} {locs : List Loc} {ls : Array Slot} (hP : WP G u H) (hS : va_S (gA G) s0.heap H locs) (hl : lv_has ls 4 [(0, .ref b), (1, .ref (gad G 0)), (2, .ref (gad G 34)), (3, .int (nI i))])
    (kk : ∀ (u : Sg) (H : Heap) (locs : List Loc), Inv u → WP G u H → va_S (gA G) s0.heap H locs → W pg l ev room_1 s0 mm #[Value.ref b] below meth cd H locs 600000 7302250 (lw_Z below #[Value.ref b] s0) (F0 mm 1204 ls [])) : W pg l ev room_1 s0 mm #[Value.ref b] below meth cd H locs 600000 7302250 (lw_Z below #[Value.ref b] s0) (F0 mm 1158 ls []) := by
  obtain ⟨hx, hb, hr, hml, hown, hts0, hX, hbl, hlocks, hgv⟩ := C0
  have hts : ∀ w ∈ wsL_law, w.before #[Value.ref b] s0 = true := fun w h => hts0 w (wsL_law_in w h)
  refine lv_aload_n hx hb dL_law_1158 rfl (lv_at hl 1 rfl) ?_
  refine lv_aload_n hx hb dL_law_1159 rfl (lv_at hl 0 rfl) ?_
  refine lv_iload_n hx hb dL_law_1160 rfl (lv_at hl 3 rfl) ?_
  refine lv_iconst (v := 1) hx hb dL_law_1161 (by decide) ?_
  refine nn_iadd (a := i) (b := 1) hx hb dL_law_1162 ?_
  refine va_sld hx hb hX hbl hbA hS (vp_in_nI (show i + 1 < L by omega) (by omega)) dL_law_1163 ?_
  refine lv_cast (y := xs (i + 1)) (by rw [nI_clamp (show i + 1 < 2 ^ 31 by omega)]) ?_
  refine hl_callVi (As := [.int (xs (i + 1))]) (rest := []) ⟨hx, hb, hml, hown, hts⟩ hE hP hS (c_X4_count l G u (u.1 0) (u.1 6) rfl rfl hI.1.1.2.1.1 (xs (i + 1))) rfl (cwV 1 hts gL_law_X4_count rfl rfl rfl (by decide +kernel) ⟨Nat.le_of_ble_eq_true rfl, Nat.le_of_ble_eq_true rfl⟩) (do_recv hE hP) rfl hl.1 rfl (Nat.le_of_ble_eq_true rfl) dL_law_1164 ⟨Nat.le_refl _, Nat.le_refl _⟩ (fun r1 v1 H locs q1 hP hS => ?_)
  refine lv_aload_n hx hb dL_law_1167 rfl (lv_at hl 2 rfl) ?_
  refine lv_aload_n hx hb dL_law_1168 rfl (lv_at hl 0 rfl) ?_
  refine lv_iload_n hx hb dL_law_1169 rfl (lv_at hl 3 rfl) ?_
  refine lv_iconst (v := 1) hx hb dL_law_1170 (by decide) ?_
  refine nn_iadd (a := i) (b := 1) hx hb dL_law_1171 ?_
  refine va_sld hx hb hX hbl hbA hS (vp_in_nI (show i + 1 < L by omega) (by omega)) dL_law_1172 ?_
  refine lv_cast (y := xs (i + 1)) (by rw [nI_clamp (show i + 1 < 2 ^ 31 by omega)]) ?_
  refine hl_callVi (As := [.int (xs (i + 1))]) (rest := [.int r1]) ⟨hx, hb, hml, hown, hts⟩ hE hP hS (c_X5_count l G v1 (u.1 0) (u.1 6) ((q1.fr (by decide) (by decide) (by decide)).trans hI.1.1.1.symm) ((q1.fr (by decide) (by decide) (by decide)).trans hI.1.1.2.2.symm) hI.1.1.2.1.1 (xs (i + 1))) rfl (cwV 1 hts gL_law_X5_count rfl rfl rfl (by decide +kernel) ⟨Nat.le_of_ble_eq_true rfl, Nat.le_of_ble_eq_true rfl⟩) (mo_recv hE hP) rfl hl.1 rfl (Nat.le_of_ble_eq_true rfl) dL_law_1173 ⟨Nat.le_refl _, Nat.le_refl _⟩ (fun r2 v2 H locs q2 hP hS => ?_)
  obtain ⟨ln, hl9, h41, h146, htp⟩ := hI.1.2.2.1
  rw [show v1.1 14 6 = u.1 4 1 by rw [q1.fr (by decide) (by decide) (by decide), h146, h41]] at q2
  have hq := inv_P3 hI q1 q2 (hI.1.1.2.1.k (k_count _ _ _ _))
  exact lv_icmp_eq (tgt := 1204) hx hb dL_law_1176 (by decide) (fun _ => kk _ _ _ hq.2.tr hP.tr2 hS) (fun c9 => absurd hq.1 c9)
set_option maxHeartbeats 4000000 in
set_option maxRecDepth 100000 in
theorem lawc_status {pg : Program} {l : Launch} {ev : Env} {s0 : State} {mm : MethodId} {below : List Frame} {meth : Method} {cd : Code} {b L : Nat} {xs : Nat → Int32} (hL : L ≤ 3072) (C0 : lw_At pg s0 mm meth cd b L xs) {G : Geo} (hE : E0 G s0 s0.heap) (hbA : ¬ gA G b) (i : Nat) (hi : i + 6 ≤ L) {u : Sg} (hI : Inv u) {H : Heap} {locs : List Loc} {ls : Array Slot} (hP : WP G u H) (hS : va_S (gA G) s0.heap H locs) (hl : lv_has ls 4 [(0, .ref b), (1, .ref (gad G 0)), (2, .ref (gad G 34)), (3, .int (nI i))])
    (kk : ∀ (u : Sg) (H : Heap) (locs : List Loc), Inv u → WP G u H → va_S (gA G) s0.heap H locs → W pg l ev room_1 s0 mm #[Value.ref b] below meth cd H locs 600000 7302250 (lw_Z below #[Value.ref b] s0) (F0 mm 1204 ls [])) : W pg l ev room_1 s0 mm #[Value.ref b] below meth cd H locs 600000 7302250 (lw_Z below #[Value.ref b] s0) (F0 mm 1181 ls []) := by
  obtain ⟨hx, hb, hr, hml, hown, hts0, hX, hbl, hlocks, hgv⟩ := C0
  have hts : ∀ w ∈ wsL_law, w.before #[Value.ref b] s0 = true := fun w h => hts0 w (wsL_law_in w h)
  refine lv_aload_n hx hb dL_law_1181 rfl (lv_at hl 1 rfl) ?_
  refine lv_aload_n hx hb dL_law_1182 rfl (lv_at hl 0 rfl) ?_
  refine lv_iload_n hx hb dL_law_1183 rfl (lv_at hl 3 rfl) ?_
  refine lv_iconst (v := 1) hx hb dL_law_1184 (by decide) ?_
  refine nn_iadd (a := i) (b := 1) hx hb dL_law_1185 ?_
  refine va_sld hx hb hX hbl hbA hS (vp_in_nI (show i + 1 < L by omega) (by omega)) dL_law_1186 ?_
  refine lv_cast (y := xs (i + 1)) (by rw [nI_clamp (show i + 1 < 2 ^ 31 by omega)]) ?_
  refine hl_callVi (As := [.int (xs (i + 1))]) (rest := []) ⟨hx, hb, hml, hown, hts⟩ hE hP hS (c_X4_status l G u (u.1 0) (u.1 6) rfl rfl hI.1.1.2.1.1 (xs (i + 1))) rfl (cwV 1 hts gL_law_X4_status rfl rfl rfl (by decide +kernel) ⟨Nat.le_of_ble_eq_true rfl, Nat.le_of_ble_eq_true rfl⟩) (do_recv hE hP) rfl hl.1 rfl (Nat.le_of_ble_eq_true rfl) dL_law_1187 ⟨Nat.le_refl _, Nat.le_refl _⟩ (fun r1 v1 H locs q1 hP hS => ?_)
  refine lv_aload_n hx hb dL_law_1190 rfl (lv_at hl 2 rfl) ?_
  refine lv_aload_n hx hb dL_law_1191 rfl (lv_at hl 0 rfl) ?_
  refine lv_iload_n hx hb dL_law_1192 rfl (lv_at hl 3 rfl) ?_
  refine lv_iconst (v := 1) hx hb dL_law_1193 (by decide) ?_
  refine nn_iadd (a := i) (b := 1) hx hb dL_law_1194 ?_
  refine va_sld hx hb hX hbl hbA hS (vp_in_nI (show i + 1 < L by omega) (by omega)) dL_law_1195 ?_
  refine lv_cast (y := xs (i + 1)) (by rw [nI_clamp (show i + 1 < 2 ^ 31 by omega)]) ?_
  refine hl_callVi (As := [.int (xs (i + 1))]) (rest := [.int r1]) ⟨hx, hb, hml, hown, hts⟩ hE hP hS (c_X5_status l G v1 (u.1 0) (u.1 6) ((q1.fr (by decide) (by decide) (by decide)).trans hI.1.1.1.symm) ((q1.fr (by decide) (by decide) (by decide)).trans hI.1.1.2.2.symm) hI.1.1.2.1.1 (xs (i + 1))) rfl (cwV 1 hts gL_law_X5_status rfl rfl rfl (by decide +kernel) ⟨Nat.le_of_ble_eq_true rfl, Nat.le_of_ble_eq_true rfl⟩) (mo_recv hE hP) rfl hl.1 rfl (Nat.le_of_ble_eq_true rfl) dL_law_1196 ⟨Nat.le_refl _, Nat.le_refl _⟩ (fun r2 v2 H locs q2 hP hS => ?_)
  have hq := inv_P3 hI q1 q2 (hI.1.1.2.1.k (k_status _ _ _))
  exact lv_icmp_eq (tgt := 1204) hx hb dL_law_1199 (by decide) (fun _ => kk _ _ _ hq.2.tr hP.tr2 hS) (fun c9 => absurd hq.1 c9)
