set_option maxHeartbeats 4000000 in
set_option maxRecDepth 100000 in
theorem lawc_door {pg : Program} {l : Launch} {ev : Env} {s0 : State} {mm : MethodId} {below : List Frame} {meth : Method} {cd : Code} {b L : Nat} {xs : Nat → Int32} (hL : L ≤ 3072) (C0 : lw_At pg s0 mm meth cd b L xs) {G : Geo} (hE : E0 G s0 s0.heap) (hbA : ¬ gA G b) (i : Nat) (hi : i + 6 ≤ L) {u : Sg} (hI : Inv u) {H : Heap} {locs : List Loc} {ls : Array Slot} (hP : WP G u H) (hS : va_S (gA G) s0.heap H locs) (hl : lv_has ls 4 [(0, .ref b), (1, .ref (gad G 0)), (2, .ref (gad G 34)), (3, .int (nI i))])
    (kk : ∀ (u : Sg) (H : Heap) (locs : List Loc), Inv u → WP G u H → va_S (gA G) s0.heap H locs → W pg l ev room_1 s0 mm #[Value.ref b] below meth cd H locs 600000 7302250 (lw_Z below #[Value.ref b] s0) (F0 mm 1204 ls [])) : W pg l ev room_1 s0 mm #[Value.ref b] below meth cd H locs 600000 7302250 (lw_Z below #[Value.ref b] s0) (F0 mm 188 ls []) := by
  obtain ⟨hx, hb, hr, hml, hown, hts0, hX, hbl, hlocks, hgv⟩ := C0
  have hts : ∀ w ∈ wsL_law, w.before #[Value.ref b] s0 = true := fun w h => hts0 w (wsL_law_in w h)
  refine lv_aload_n hx hb dL_law_188 rfl (lv_at hl 1 rfl) ?_
  refine lv_aload_n hx hb dL_law_189 rfl (lv_at hl 0 rfl) ?_
  refine lv_iload_n hx hb dL_law_190 rfl (lv_at hl 3 rfl) ?_
  refine lv_iconst (v := 1) hx hb dL_law_191 (by decide) ?_
  refine nn_iadd (a := i) (b := 1) hx hb dL_law_192 ?_
  refine va_sld hx hb hX hbl hbA hS (vp_in_nI (show i + 1 < L by omega) (by omega)) dL_law_193 ?_
  refine lv_cast (y := xs (i + 1)) (by rw [nI_clamp (show i + 1 < 2 ^ 31 by omega)]) ?_
  refine lv_aload_n hx hb dL_law_194 rfl (lv_at hl 0 rfl) ?_
  refine lv_iload_n hx hb dL_law_195 rfl (lv_at hl 3 rfl) ?_
  refine lv_iconst (v := 2) hx hb dL_law_196 (by decide) ?_
  refine nn_iadd (a := i) (b := 2) hx hb dL_law_197 ?_
  refine va_sld hx hb hX hbl hbA hS (vp_in_nI (show i + 2 < L by omega) (by omega)) dL_law_198 ?_
  refine lv_cast (y := xs (i + 2)) (by rw [nI_clamp (show i + 2 < 2 ^ 31 by omega)]) ?_
  refine hl_callVi (As := [.int (xs (i + 1)), .int (xs (i + 2))]) (rest := []) ⟨hx, hb, hml, hown, hts⟩ hE hP hS (c_X4_door l G u (u.1 0) (u.1 6) rfl rfl hI.1.1.2.1.1 (xs (i + 1)) (xs (i + 2))) rfl (cwV 2 hts gL_law_X4_door rfl rfl rfl (by decide +kernel) ⟨Nat.le_of_ble_eq_true rfl, Nat.le_of_ble_eq_true rfl⟩) (do_recv hE hP) rfl hl.1 rfl (Nat.le_of_ble_eq_true rfl) dL_law_199 ⟨Nat.le_refl _, Nat.le_refl _⟩ (fun r1 v1 H locs q1 hP hS => ?_)
  refine lv_aload_n hx hb dL_law_202 rfl (lv_at hl 2 rfl) ?_
  refine lv_aload_n hx hb dL_law_203 rfl (lv_at hl 0 rfl) ?_
  refine lv_iload_n hx hb dL_law_204 rfl (lv_at hl 3 rfl) ?_
  refine lv_iconst (v := 1) hx hb dL_law_205 (by decide) ?_
  refine nn_iadd (a := i) (b := 1) hx hb dL_law_206 ?_
  refine va_sld hx hb hX hbl hbA hS (vp_in_nI (show i + 1 < L by omega) (by omega)) dL_law_207 ?_
  refine lv_cast (y := xs (i + 1)) (by rw [nI_clamp (show i + 1 < 2 ^ 31 by omega)]) ?_
  refine lv_aload_n hx hb dL_law_208 rfl (lv_at hl 0 rfl) ?_
  refine lv_iload_n hx hb dL_law_209 rfl (lv_at hl 3 rfl) ?_
  refine lv_iconst (v := 2) hx hb dL_law_210 (by decide) ?_
  refine nn_iadd (a := i) (b := 2) hx hb dL_law_211 ?_
  refine va_sld hx hb hX hbl hbA hS (vp_in_nI (show i + 2 < L by omega) (by omega)) dL_law_212 ?_
  refine lv_cast (y := xs (i + 2)) (by rw [nI_clamp (show i + 2 < 2 ^ 31 by omega)]) ?_
  refine hl_callVi (As := [.int (xs (i + 1)), .int (xs (i + 2))]) (rest := [.int r1]) ⟨hx, hb, hml, hown, hts⟩ hE hP hS (c_X5_door l G v1 (u.1 0) (u.1 6) ((q1.fr (by decide) (by decide) (by decide)).trans hI.1.1.1.symm) ((q1.fr (by decide) (by decide) (by decide)).trans hI.1.1.2.2.symm) hI.1.1.2.1.1 (xs (i + 1)) (xs (i + 2))) rfl (cwV 2 hts gL_law_X5_door rfl rfl rfl (by decide +kernel) ⟨Nat.le_of_ble_eq_true rfl, Nat.le_of_ble_eq_true rfl⟩) (mo_recv hE hP) rfl hl.1 rfl (Nat.le_of_ble_eq_true rfl) dL_law_213 ⟨Nat.le_refl _, Nat.le_refl _⟩ (fun r2 v2 H locs q2 hP hS => ?_)
  have hq := inv_P3 hI q1 q2 (ws_door hI.1.1.2.1 _ _)
  exact lv_icmp_eq (tgt := 1204) hx hb dL_law_216 (by decide) (fun _ => kk _ _ _ hq.2.tr hP.tr2 hS) (fun c9 => absurd hq.1 c9)
set_option maxHeartbeats 4000000 in
set_option maxRecDepth 100000 in
theorem lawc_now {pg : Program} {l : Launch} {ev : Env} {s0 : State} {mm : MethodId} {below : List Frame} {meth : Method} {cd : Code} {b L : Nat} {xs : Nat → Int32} (hL : L ≤ 3072) (C0 : lw_At pg s0 mm meth cd b L xs) {G : Geo} (hE : E0 G s0 s0.heap) (hbA : ¬ gA G b) (i : Nat) (hi : i + 6 ≤ L) {u : Sg} (hI : Inv u) {H : Heap} {locs : List Loc} {ls : Array Slot} (hP : WP G u H) (hS : va_S (gA G) s0.heap H locs) (hl : lv_has ls 4 [(0, .ref b), (1, .ref (gad G 0)), (2, .ref (gad G 34)), (3, .int (nI i))])
    (kk : ∀ (u : Sg) (H : Heap) (locs : List Loc), Inv u → WP G u H → va_S (gA G) s0.heap H locs → W pg l ev room_1 s0 mm #[Value.ref b] below meth cd H locs 600000 7302250 (lw_Z below #[Value.ref b] s0) (F0 mm 1204 ls [])) : W pg l ev room_1 s0 mm #[Value.ref b] below meth cd H locs 600000 7302250 (lw_Z below #[Value.ref b] s0) (F0 mm 221 ls []) := by
  obtain ⟨hx, hb, hr, hml, hown, hts0, hX, hbl, hlocks, hgv⟩ := C0
  have hts : ∀ w ∈ wsL_law, w.before #[Value.ref b] s0 = true := fun w h => hts0 w (wsL_law_in w h)
  refine lv_aload_n hx hb dL_law_221 rfl (lv_at hl 1 rfl) ?_
  refine lv_aload_n hx hb dL_law_222 rfl (lv_at hl 0 rfl) ?_
  refine lv_iload_n hx hb dL_law_223 rfl (lv_at hl 3 rfl) ?_
  refine lv_iconst (v := 1) hx hb dL_law_224 (by decide) ?_
  refine nn_iadd (a := i) (b := 1) hx hb dL_law_225 ?_
  refine va_sld hx hb hX hbl hbA hS (vp_in_nI (show i + 1 < L by omega) (by omega)) dL_law_226 ?_
  refine lv_cast (y := xs (i + 1)) (by rw [nI_clamp (show i + 1 < 2 ^ 31 by omega)]) ?_
  refine hl_callVi (As := [.int (xs (i + 1))]) (rest := []) ⟨hx, hb, hml, hown, hts⟩ hE hP hS (c_X4_now l G u (u.1 0) (u.1 6) rfl rfl hI.1.1.2.1.1 (xs (i + 1))) rfl (cwV 1 hts gL_law_X4_now rfl rfl rfl (by decide +kernel) ⟨Nat.le_of_ble_eq_true rfl, Nat.le_of_ble_eq_true rfl⟩) (do_recv hE hP) rfl hl.1 rfl (Nat.le_of_ble_eq_true rfl) dL_law_227 ⟨Nat.le_refl _, Nat.le_refl _⟩ (fun r1 v1 H locs q1 hP hS => ?_)
  refine lv_aload_n hx hb dL_law_230 rfl (lv_at hl 2 rfl) ?_
  refine lv_aload_n hx hb dL_law_231 rfl (lv_at hl 0 rfl) ?_
  refine lv_iload_n hx hb dL_law_232 rfl (lv_at hl 3 rfl) ?_
  refine lv_iconst (v := 1) hx hb dL_law_233 (by decide) ?_
  refine nn_iadd (a := i) (b := 1) hx hb dL_law_234 ?_
  refine va_sld hx hb hX hbl hbA hS (vp_in_nI (show i + 1 < L by omega) (by omega)) dL_law_235 ?_
  refine lv_cast (y := xs (i + 1)) (by rw [nI_clamp (show i + 1 < 2 ^ 31 by omega)]) ?_
  refine hl_callVi (As := [.int (xs (i + 1))]) (rest := [.int r1]) ⟨hx, hb, hml, hown, hts⟩ hE hP hS (c_X5_now l G v1 (u.1 0) (u.1 6) ((q1.fr (by decide) (by decide) (by decide)).trans hI.1.1.1.symm) ((q1.fr (by decide) (by decide) (by decide)).trans hI.1.1.2.2.symm) hI.1.1.2.1.1 (xs (i + 1))) rfl (cwV 1 hts gL_law_X5_now rfl rfl rfl (by decide +kernel) ⟨Nat.le_of_ble_eq_true rfl, Nat.le_of_ble_eq_true rfl⟩) (mo_recv hE hP) rfl hl.1 rfl (Nat.le_of_ble_eq_true rfl) dL_law_236 ⟨Nat.le_refl _, Nat.le_refl _⟩ (fun r2 v2 H locs q2 hP hS => ?_)
  have hq := inv_P3 hI q1 q2 (hI.1.1.2.1.k (k_now _ _ _))
  exact lv_icmp_eq (tgt := 1204) hx hb dL_law_239 (by decide) (fun _ => kk _ _ _ hq.2.tr hP.tr2 hS) (fun c9 => absurd hq.1 c9)
set_option maxHeartbeats 4000000 in
set_option maxRecDepth 100000 in
theorem lawc_person {pg : Program} {l : Launch} {ev : Env} {s0 : State} {mm : MethodId} {below : List Frame} {meth : Method} {cd : Code} {b L : Nat} {xs : Nat → Int32} (hL : L ≤ 3072) (C0 : lw_At pg s0 mm meth cd b L xs) {G : Geo} (hE : E0 G s0 s0.heap) (hbA : ¬ gA G b) (i : Nat) (hi : i + 6 ≤ L) {u : Sg} (hI : Inv u) {H : Heap} {locs : List Loc} {ls : Array Slot} (hP : WP G u H) (hS : va_S (gA G) s0.heap H locs) (hl : lv_has ls 4 [(0, .ref b), (1, .ref (gad G 0)), (2, .ref (gad G 34)), (3, .int (nI i))])
    (kk : ∀ (u : Sg) (H : Heap) (locs : List Loc), Inv u → WP G u H → va_S (gA G) s0.heap H locs → W pg l ev room_1 s0 mm #[Value.ref b] below meth cd H locs 600000 7302250 (lw_Z below #[Value.ref b] s0) (F0 mm 1204 ls [])) : W pg l ev room_1 s0 mm #[Value.ref b] below meth cd H locs 600000 7302250 (lw_Z below #[Value.ref b] s0) (F0 mm 244 ls []) := by
  obtain ⟨hx, hb, hr, hml, hown, hts0, hX, hbl, hlocks, hgv⟩ := C0
  have hts : ∀ w ∈ wsL_law, w.before #[Value.ref b] s0 = true := fun w h => hts0 w (wsL_law_in w h)
  refine lv_aload_n hx hb dL_law_244 rfl (lv_at hl 1 rfl) ?_
  refine lv_aload_n hx hb dL_law_245 rfl (lv_at hl 0 rfl) ?_
  refine lv_iload_n hx hb dL_law_246 rfl (lv_at hl 3 rfl) ?_
  refine lv_iconst (v := 1) hx hb dL_law_247 (by decide) ?_
  refine nn_iadd (a := i) (b := 1) hx hb dL_law_248 ?_
  refine va_sld hx hb hX hbl hbA hS (vp_in_nI (show i + 1 < L by omega) (by omega)) dL_law_249 ?_
  refine lv_cast (y := xs (i + 1)) (by rw [nI_clamp (show i + 1 < 2 ^ 31 by omega)]) ?_
  refine lv_aload_n hx hb dL_law_250 rfl (lv_at hl 0 rfl) ?_
  refine lv_iload_n hx hb dL_law_251 rfl (lv_at hl 3 rfl) ?_
  refine lv_iconst (v := 2) hx hb dL_law_252 (by decide) ?_
  refine nn_iadd (a := i) (b := 2) hx hb dL_law_253 ?_
  refine va_sld hx hb hX hbl hbA hS (vp_in_nI (show i + 2 < L by omega) (by omega)) dL_law_254 ?_
  refine lv_cast (y := xs (i + 2)) (by rw [nI_clamp (show i + 2 < 2 ^ 31 by omega)]) ?_
  refine hl_callVi (As := [.int (xs (i + 1)), .int (xs (i + 2))]) (rest := []) ⟨hx, hb, hml, hown, hts⟩ hE hP hS (c_X4_person l G u (u.1 0) (u.1 6) rfl rfl hI.1.1.2.1.1 (xs (i + 1)) (xs (i + 2))) rfl (cwV 2 hts gL_law_X4_person rfl rfl rfl (by decide +kernel) ⟨Nat.le_of_ble_eq_true rfl, Nat.le_of_ble_eq_true rfl⟩) (do_recv hE hP) rfl hl.1 rfl (Nat.le_of_ble_eq_true rfl) dL_law_255 ⟨Nat.le_refl _, Nat.le_refl _⟩ (fun r1 v1 H locs q1 hP hS => ?_)
  refine lv_aload_n hx hb dL_law_258 rfl (lv_at hl 2 rfl) ?_
  refine lv_aload_n hx hb dL_law_259 rfl (lv_at hl 0 rfl) ?_
  refine lv_iload_n hx hb dL_law_260 rfl (lv_at hl 3 rfl) ?_
  refine lv_iconst (v := 1) hx hb dL_law_261 (by decide) ?_
  refine nn_iadd (a := i) (b := 1) hx hb dL_law_262 ?_
  refine va_sld hx hb hX hbl hbA hS (vp_in_nI (show i + 1 < L by omega) (by omega)) dL_law_263 ?_
  refine lv_cast (y := xs (i + 1)) (by rw [nI_clamp (show i + 1 < 2 ^ 31 by omega)]) ?_
  refine lv_aload_n hx hb dL_law_264 rfl (lv_at hl 0 rfl) ?_
  refine lv_iload_n hx hb dL_law_265 rfl (lv_at hl 3 rfl) ?_
  refine lv_iconst (v := 2) hx hb dL_law_266 (by decide) ?_
  refine nn_iadd (a := i) (b := 2) hx hb dL_law_267 ?_
  refine va_sld hx hb hX hbl hbA hS (vp_in_nI (show i + 2 < L by omega) (by omega)) dL_law_268 ?_
  refine lv_cast (y := xs (i + 2)) (by rw [nI_clamp (show i + 2 < 2 ^ 31 by omega)]) ?_
  refine hl_callVi (As := [.int (xs (i + 1)), .int (xs (i + 2))]) (rest := [.int r1]) ⟨hx, hb, hml, hown, hts⟩ hE hP hS (c_X5_person l G v1 (u.1 0) (u.1 6) ((q1.fr (by decide) (by decide) (by decide)).trans hI.1.1.1.symm) ((q1.fr (by decide) (by decide) (by decide)).trans hI.1.1.2.2.symm) hI.1.1.2.1.1 (xs (i + 1)) (xs (i + 2))) rfl (cwV 2 hts gL_law_X5_person rfl rfl rfl (by decide +kernel) ⟨Nat.le_of_ble_eq_true rfl, Nat.le_of_ble_eq_true rfl⟩) (mo_recv hE hP) rfl hl.1 rfl (Nat.le_of_ble_eq_true rfl) dL_law_269 ⟨Nat.le_refl _, Nat.le_refl _⟩ (fun r2 v2 H locs q2 hP hS => ?_)
  have hq := inv_P3 hI q1 q2 (ws_person hI.1.1.2.1 _ _)
  exact lv_icmp_eq (tgt := 1204) hx hb dL_law_272 (by decide) (fun _ => kk _ _ _ hq.2.tr hP.tr2 hS) (fun c9 => absurd hq.1 c9)
set_option maxHeartbeats 4000000 in
set_option maxRecDepth 100000 in
theorem lawc_of {pg : Program} {l : Launch} {ev : Env} {s0 : State} {mm : MethodId} {below : List Frame} {meth : Method} {cd : Code} {b L : Nat} {xs : Nat → Int32} (hL : L ≤ 3072) (C0 : lw_At pg s0 mm meth cd b L xs) {G : Geo} (hE : E0 G s0 s0.heap) (hbA : ¬ gA G b) (i : Nat) (hi : i + 6 ≤ L) {u : Sg} (hI : Inv u) {H : Heap} {locs : List Loc} {ls : Array Slot} (hP : WP G u H) (hS : va_S (gA G) s0.heap H locs) (hl : lv_has ls 4 [(0, .ref b), (1, .ref (gad G 0)), (2, .ref (gad G 34)), (3, .int (nI i))])
    (kk : ∀ (u : Sg) (H : Heap) (locs : List Loc), Inv u → WP G u H → va_S (gA G) s0.heap H locs → W pg l ev room_1 s0 mm #[Value.ref b] below meth cd H locs 600000 7302250 (lw_Z below #[Value.ref b] s0) (F0 mm 1204 ls [])) : W pg l ev room_1 s0 mm #[Value.ref b] below meth cd H locs 600000 7302250 (lw_Z below #[Value.ref b] s0) (F0 mm 277 ls []) := by
  obtain ⟨hx, hb, hr, hml, hown, hts0, hX, hbl, hlocks, hgv⟩ := C0
  have hts : ∀ w ∈ wsL_law, w.before #[Value.ref b] s0 = true := fun w h => hts0 w (wsL_law_in w h)
  refine lv_aload_n hx hb dL_law_277 rfl (lv_at hl 1 rfl) ?_
  refine lv_aload_n hx hb dL_law_278 rfl (lv_at hl 0 rfl) ?_
  refine lv_iload_n hx hb dL_law_279 rfl (lv_at hl 3 rfl) ?_
  refine lv_iconst (v := 1) hx hb dL_law_280 (by decide) ?_
  refine nn_iadd (a := i) (b := 1) hx hb dL_law_281 ?_
  refine va_sld hx hb hX hbl hbA hS (vp_in_nI (show i + 1 < L by omega) (by omega)) dL_law_282 ?_
  refine lv_cast (y := xs (i + 1)) (by rw [nI_clamp (show i + 1 < 2 ^ 31 by omega)]) ?_
  refine lv_aload_n hx hb dL_law_283 rfl (lv_at hl 0 rfl) ?_
  refine lv_iload_n hx hb dL_law_284 rfl (lv_at hl 3 rfl) ?_
  refine lv_iconst (v := 2) hx hb dL_law_285 (by decide) ?_
  refine nn_iadd (a := i) (b := 2) hx hb dL_law_286 ?_
  refine va_sld hx hb hX hbl hbA hS (vp_in_nI (show i + 2 < L by omega) (by omega)) dL_law_287 ?_
  refine lv_cast (y := xs (i + 2)) (by rw [nI_clamp (show i + 2 < 2 ^ 31 by omega)]) ?_
  refine hl_callVi (As := [.int (xs (i + 1)), .int (xs (i + 2))]) (rest := []) ⟨hx, hb, hml, hown, hts⟩ hE hP hS (c_X4_of l G u (u.1 0) (u.1 6) rfl rfl hI.1.1.2.1.1 (xs (i + 1)) (xs (i + 2))) rfl (cwV 2 hts gL_law_X4_of rfl rfl rfl (by decide +kernel) ⟨Nat.le_of_ble_eq_true rfl, Nat.le_of_ble_eq_true rfl⟩) (do_recv hE hP) rfl hl.1 rfl (Nat.le_of_ble_eq_true rfl) dL_law_288 ⟨Nat.le_refl _, Nat.le_refl _⟩ (fun r1 v1 H locs q1 hP hS => ?_)
  refine lv_aload_n hx hb dL_law_291 rfl (lv_at hl 2 rfl) ?_
  refine lv_aload_n hx hb dL_law_292 rfl (lv_at hl 0 rfl) ?_
  refine lv_iload_n hx hb dL_law_293 rfl (lv_at hl 3 rfl) ?_
  refine lv_iconst (v := 1) hx hb dL_law_294 (by decide) ?_
  refine nn_iadd (a := i) (b := 1) hx hb dL_law_295 ?_
  refine va_sld hx hb hX hbl hbA hS (vp_in_nI (show i + 1 < L by omega) (by omega)) dL_law_296 ?_
  refine lv_cast (y := xs (i + 1)) (by rw [nI_clamp (show i + 1 < 2 ^ 31 by omega)]) ?_
  refine lv_aload_n hx hb dL_law_297 rfl (lv_at hl 0 rfl) ?_
  refine lv_iload_n hx hb dL_law_298 rfl (lv_at hl 3 rfl) ?_
  refine lv_iconst (v := 2) hx hb dL_law_299 (by decide) ?_
  refine nn_iadd (a := i) (b := 2) hx hb dL_law_300 ?_
  refine va_sld hx hb hX hbl hbA hS (vp_in_nI (show i + 2 < L by omega) (by omega)) dL_law_301 ?_
  refine lv_cast (y := xs (i + 2)) (by rw [nI_clamp (show i + 2 < 2 ^ 31 by omega)]) ?_
  refine hl_callVi (As := [.int (xs (i + 1)), .int (xs (i + 2))]) (rest := [.int r1]) ⟨hx, hb, hml, hown, hts⟩ hE hP hS (c_X5_of l G v1 (u.1 0) (u.1 6) ((q1.fr (by decide) (by decide) (by decide)).trans hI.1.1.1.symm) ((q1.fr (by decide) (by decide) (by decide)).trans hI.1.1.2.2.symm) hI.1.1.2.1.1 (xs (i + 1)) (xs (i + 2))) rfl (cwV 2 hts gL_law_X5_of rfl rfl rfl (by decide +kernel) ⟨Nat.le_of_ble_eq_true rfl, Nat.le_of_ble_eq_true rfl⟩) (mo_recv hE hP) rfl hl.1 rfl (Nat.le_of_ble_eq_true rfl) dL_law_302 ⟨Nat.le_refl _, Nat.le_refl _⟩ (fun r2 v2 H locs q2 hP hS => ?_)
  have hq := inv_P3 hI q1 q2 (hI.1.1.2.1.k (k_of _ _ _ _))
  exact lv_icmp_eq (tgt := 1204) hx hb dL_law_305 (by decide) (fun _ => kk _ _ _ hq.2.tr hP.tr2 hS) (fun c9 => absurd hq.1 c9)
set_option maxHeartbeats 4000000 in
set_option maxRecDepth 100000 in
theorem lawc_set {pg : Program} {l : Launch} {ev : Env} {s0 : State} {mm : MethodId} {below : List Frame} {meth : Method} {cd : Code} {b L : Nat} {xs : Nat → Int32} (hL : L ≤ 3072) (C0 : lw_At pg s0 mm meth cd b L xs) {G : Geo} (hE : E0 G s0 s0.heap) (hbA : ¬ gA G b) (i : Nat) (hi : i + 6 ≤ L) {u : Sg} (hI : Inv u) {H : Heap} {locs : List Loc} {ls : Array Slot} (hP : WP G u H) (hS : va_S (gA G) s0.heap H locs) (hl : lv_has ls 4 [(0, .ref b), (1, .ref (gad G 0)), (2, .ref (gad G 34)), (3, .int (nI i))])
    (kk : ∀ (u : Sg) (H : Heap) (locs : List Loc), Inv u → WP G u H → va_S (gA G) s0.heap H locs → W pg l ev room_1 s0 mm #[Value.ref b] below meth cd H locs 600000 7302250 (lw_Z below #[Value.ref b] s0) (F0 mm 1204 ls [])) : W pg l ev room_1 s0 mm #[Value.ref b] below meth cd H locs 600000 7302250 (lw_Z below #[Value.ref b] s0) (F0 mm 310 ls []) := by
  obtain ⟨hx, hb, hr, hml, hown, hts0, hX, hbl, hlocks, hgv⟩ := C0
  have hts : ∀ w ∈ wsL_law, w.before #[Value.ref b] s0 = true := fun w h => hts0 w (wsL_law_in w h)
  refine lv_aload_n hx hb dL_law_310 rfl (lv_at hl 1 rfl) ?_
  refine lv_aload_n hx hb dL_law_311 rfl (lv_at hl 0 rfl) ?_
  refine lv_iload_n hx hb dL_law_312 rfl (lv_at hl 3 rfl) ?_
  refine lv_iconst (v := 1) hx hb dL_law_313 (by decide) ?_
  refine nn_iadd (a := i) (b := 1) hx hb dL_law_314 ?_
  refine va_sld hx hb hX hbl hbA hS (vp_in_nI (show i + 1 < L by omega) (by omega)) dL_law_315 ?_
  refine lv_cast (y := xs (i + 1)) (by rw [nI_clamp (show i + 1 < 2 ^ 31 by omega)]) ?_
  refine lv_aload_n hx hb dL_law_316 rfl (lv_at hl 0 rfl) ?_
  refine lv_iload_n hx hb dL_law_317 rfl (lv_at hl 3 rfl) ?_
  refine lv_iconst (v := 2) hx hb dL_law_318 (by decide) ?_
  refine nn_iadd (a := i) (b := 2) hx hb dL_law_319 ?_
  refine va_sld hx hb hX hbl hbA hS (vp_in_nI (show i + 2 < L by omega) (by omega)) dL_law_320 ?_
  refine lv_cast (y := xs (i + 2)) (by rw [nI_clamp (show i + 2 < 2 ^ 31 by omega)]) ?_
  refine lv_aload_n hx hb dL_law_321 rfl (lv_at hl 0 rfl) ?_
  refine lv_iload_n hx hb dL_law_322 rfl (lv_at hl 3 rfl) ?_
  refine lv_iconst (v := 3) hx hb dL_law_323 (by decide) ?_
  refine nn_iadd (a := i) (b := 3) hx hb dL_law_324 ?_
  refine va_sld hx hb hX hbl hbA hS (vp_in_nI (show i + 3 < L by omega) (by omega)) dL_law_325 ?_
  refine lv_cast (y := xs (i + 3)) (by rw [nI_clamp (show i + 3 < 2 ^ 31 by omega)]) ?_
  refine hl_callVi (As := [.int (xs (i + 1)), .int (xs (i + 2)), .int (xs (i + 3))]) (rest := []) ⟨hx, hb, hml, hown, hts⟩ hE hP hS (c_X4_set l G u (u.1 0) (u.1 6) rfl rfl hI.1.1.2.1.1 (xs (i + 1)) (xs (i + 2)) (xs (i + 3))) rfl (cwV 3 hts gL_law_X4_set rfl rfl rfl (by decide +kernel) ⟨Nat.le_of_ble_eq_true rfl, Nat.le_of_ble_eq_true rfl⟩) (do_recv hE hP) rfl hl.1 rfl (Nat.le_of_ble_eq_true rfl) dL_law_326 ⟨Nat.le_refl _, Nat.le_refl _⟩ (fun r1 v1 H locs q1 hP hS => ?_)
  refine lv_aload_n hx hb dL_law_329 rfl (lv_at hl 2 rfl) ?_
  refine lv_aload_n hx hb dL_law_330 rfl (lv_at hl 0 rfl) ?_
  refine lv_iload_n hx hb dL_law_331 rfl (lv_at hl 3 rfl) ?_
  refine lv_iconst (v := 1) hx hb dL_law_332 (by decide) ?_
  refine nn_iadd (a := i) (b := 1) hx hb dL_law_333 ?_
  refine va_sld hx hb hX hbl hbA hS (vp_in_nI (show i + 1 < L by omega) (by omega)) dL_law_334 ?_
  refine lv_cast (y := xs (i + 1)) (by rw [nI_clamp (show i + 1 < 2 ^ 31 by omega)]) ?_
  refine lv_aload_n hx hb dL_law_335 rfl (lv_at hl 0 rfl) ?_
  refine lv_iload_n hx hb dL_law_336 rfl (lv_at hl 3 rfl) ?_
  refine lv_iconst (v := 2) hx hb dL_law_337 (by decide) ?_
  refine nn_iadd (a := i) (b := 2) hx hb dL_law_338 ?_
  refine va_sld hx hb hX hbl hbA hS (vp_in_nI (show i + 2 < L by omega) (by omega)) dL_law_339 ?_
  refine lv_cast (y := xs (i + 2)) (by rw [nI_clamp (show i + 2 < 2 ^ 31 by omega)]) ?_
  refine lv_aload_n hx hb dL_law_340 rfl (lv_at hl 0 rfl) ?_
  refine lv_iload_n hx hb dL_law_341 rfl (lv_at hl 3 rfl) ?_
  refine lv_iconst (v := 3) hx hb dL_law_342 (by decide) ?_
  refine nn_iadd (a := i) (b := 3) hx hb dL_law_343 ?_
  refine va_sld hx hb hX hbl hbA hS (vp_in_nI (show i + 3 < L by omega) (by omega)) dL_law_344 ?_
  refine lv_cast (y := xs (i + 3)) (by rw [nI_clamp (show i + 3 < 2 ^ 31 by omega)]) ?_
  refine hl_callVi (As := [.int (xs (i + 1)), .int (xs (i + 2)), .int (xs (i + 3))]) (rest := [.int r1]) ⟨hx, hb, hml, hown, hts⟩ hE hP hS (c_X5_set l G v1 (u.1 0) (u.1 6) ((q1.fr (by decide) (by decide) (by decide)).trans hI.1.1.1.symm) ((q1.fr (by decide) (by decide) (by decide)).trans hI.1.1.2.2.symm) hI.1.1.2.1.1 (xs (i + 1)) (xs (i + 2)) (xs (i + 3))) rfl (cwV 3 hts gL_law_X5_set rfl rfl rfl (by decide +kernel) ⟨Nat.le_of_ble_eq_true rfl, Nat.le_of_ble_eq_true rfl⟩) (mo_recv hE hP) rfl hl.1 rfl (Nat.le_of_ble_eq_true rfl) dL_law_345 ⟨Nat.le_refl _, Nat.le_refl _⟩ (fun r2 v2 H locs q2 hP hS => ?_)
  have hq := inv_P3 hI q1 q2 (ws_set hI.1.1.2.1 _ _ _)
  exact lv_icmp_eq (tgt := 1204) hx hb dL_law_348 (by decide) (fun _ => kk _ _ _ hq.2.tr hP.tr2 hS) (fun c9 => absurd hq.1 c9)
set_option maxHeartbeats 4000000 in
set_option maxRecDepth 100000 in
theorem lawc_turn {pg : Program} {l : Launch} {ev : Env} {s0 : State} {mm : MethodId} {below : List Frame} {meth : Method} {cd : Code} {b L : Nat} {xs : Nat → Int32} (hL : L ≤ 3072) (C0 : lw_At pg s0 mm meth cd b L xs) {G : Geo} (hE : E0 G s0 s0.heap) (hbA : ¬ gA G b) (i : Nat) (hi : i + 6 ≤ L) {u : Sg} (hI : Inv u) {H : Heap} {locs : List Loc} {ls : Array Slot} (hP : WP G u H) (hS : va_S (gA G) s0.heap H locs) (hl : lv_has ls 4 [(0, .ref b), (1, .ref (gad G 0)), (2, .ref (gad G 34)), (3, .int (nI i))])
    (kk : ∀ (u : Sg) (H : Heap) (locs : List Loc), Inv u → WP G u H → va_S (gA G) s0.heap H locs → W pg l ev room_1 s0 mm #[Value.ref b] below meth cd H locs 600000 7302250 (lw_Z below #[Value.ref b] s0) (F0 mm 1204 ls [])) : W pg l ev room_1 s0 mm #[Value.ref b] below meth cd H locs 600000 7302250 (lw_Z below #[Value.ref b] s0) (F0 mm 353 ls []) := by
  obtain ⟨hx, hb, hr, hml, hown, hts0, hX, hbl, hlocks, hgv⟩ := C0
  have hts : ∀ w ∈ wsL_law, w.before #[Value.ref b] s0 = true := fun w h => hts0 w (wsL_law_in w h)
  refine lv_aload_n hx hb dL_law_353 rfl (lv_at hl 1 rfl) ?_
  refine lv_aload_n hx hb dL_law_354 rfl (lv_at hl 0 rfl) ?_
  refine lv_iload_n hx hb dL_law_355 rfl (lv_at hl 3 rfl) ?_
  refine lv_iconst (v := 1) hx hb dL_law_356 (by decide) ?_
  refine nn_iadd (a := i) (b := 1) hx hb dL_law_357 ?_
  refine va_sld hx hb hX hbl hbA hS (vp_in_nI (show i + 1 < L by omega) (by omega)) dL_law_358 ?_
  refine lv_cast (y := xs (i + 1)) (by rw [nI_clamp (show i + 1 < 2 ^ 31 by omega)]) ?_
  refine lv_aload_n hx hb dL_law_359 rfl (lv_at hl 0 rfl) ?_
  refine lv_iload_n hx hb dL_law_360 rfl (lv_at hl 3 rfl) ?_
  refine lv_iconst (v := 2) hx hb dL_law_361 (by decide) ?_
  refine nn_iadd (a := i) (b := 2) hx hb dL_law_362 ?_
  refine va_sld hx hb hX hbl hbA hS (vp_in_nI (show i + 2 < L by omega) (by omega)) dL_law_363 ?_
  refine lv_cast (y := xs (i + 2)) (by rw [nI_clamp (show i + 2 < 2 ^ 31 by omega)]) ?_
  refine hl_callVi (As := [.int (xs (i + 1)), .int (xs (i + 2))]) (rest := []) ⟨hx, hb, hml, hown, hts⟩ hE hP hS (c_X4_turn l G u (u.1 0) (u.1 6) rfl rfl hI.1.1.2.1.1 (xs (i + 1)) (xs (i + 2))) rfl (cwV 2 hts gL_law_X4_turn rfl rfl rfl (by decide +kernel) ⟨Nat.le_of_ble_eq_true rfl, Nat.le_of_ble_eq_true rfl⟩) (do_recv hE hP) rfl hl.1 rfl (Nat.le_of_ble_eq_true rfl) dL_law_364 ⟨Nat.le_refl _, Nat.le_refl _⟩ (fun r1 v1 H locs q1 hP hS => ?_)
  refine lv_aload_n hx hb dL_law_367 rfl (lv_at hl 2 rfl) ?_
  refine lv_aload_n hx hb dL_law_368 rfl (lv_at hl 0 rfl) ?_
  refine lv_iload_n hx hb dL_law_369 rfl (lv_at hl 3 rfl) ?_
  refine lv_iconst (v := 1) hx hb dL_law_370 (by decide) ?_
  refine nn_iadd (a := i) (b := 1) hx hb dL_law_371 ?_
  refine va_sld hx hb hX hbl hbA hS (vp_in_nI (show i + 1 < L by omega) (by omega)) dL_law_372 ?_
  refine lv_cast (y := xs (i + 1)) (by rw [nI_clamp (show i + 1 < 2 ^ 31 by omega)]) ?_
  refine lv_aload_n hx hb dL_law_373 rfl (lv_at hl 0 rfl) ?_
  refine lv_iload_n hx hb dL_law_374 rfl (lv_at hl 3 rfl) ?_
  refine lv_iconst (v := 2) hx hb dL_law_375 (by decide) ?_
  refine nn_iadd (a := i) (b := 2) hx hb dL_law_376 ?_
  refine va_sld hx hb hX hbl hbA hS (vp_in_nI (show i + 2 < L by omega) (by omega)) dL_law_377 ?_
  refine lv_cast (y := xs (i + 2)) (by rw [nI_clamp (show i + 2 < 2 ^ 31 by omega)]) ?_
  refine hl_callVi (As := [.int (xs (i + 1)), .int (xs (i + 2))]) (rest := [.int r1]) ⟨hx, hb, hml, hown, hts⟩ hE hP hS (c_X5_turn l G v1 (u.1 0) (u.1 6) ((q1.fr (by decide) (by decide) (by decide)).trans hI.1.1.1.symm) ((q1.fr (by decide) (by decide) (by decide)).trans hI.1.1.2.2.symm) hI.1.1.2.1.1 (xs (i + 1)) (xs (i + 2))) rfl (cwV 2 hts gL_law_X5_turn rfl rfl rfl (by decide +kernel) ⟨Nat.le_of_ble_eq_true rfl, Nat.le_of_ble_eq_true rfl⟩) (mo_recv hE hP) rfl hl.1 rfl (Nat.le_of_ble_eq_true rfl) dL_law_378 ⟨Nat.le_refl _, Nat.le_refl _⟩ (fun r2 v2 H locs q2 hP hS => ?_)
  have hq := inv_P3 hI q1 q2 (ws_turn hI.1.1.2.1 _ _)
  exact lv_icmp_eq (tgt := 1204) hx hb dL_law_381 (by decide) (fun _ => kk _ _ _ hq.2.tr hP.tr2 hS) (fun c9 => absurd hq.1 c9)
set_option maxHeartbeats 4000000 in
set_option maxRecDepth 100000 in
theorem lawc_as {pg : Program} {l : Launch} {ev : Env} {s0 : State} {mm : MethodId} {below : List Frame} {meth : Method} {cd : Code} {b L : Nat} {xs : Nat → Int32} (hL : L ≤ 3072) (C0 : lw_At pg s0 mm meth cd b L xs) {G : Geo} (hE : E0 G s0 s0.heap) (hbA : ¬ gA G b) (i : Nat) (hi : i + 6 ≤ L) {u : Sg} (hI : Inv u) {H : Heap} {locs : List Loc} {ls : Array Slot} (hP : WP G u H) (hS : va_S (gA G) s0.heap H locs) (hl : lv_has ls 4 [(0, .ref b), (1, .ref (gad G 0)), (2, .ref (gad G 34)), (3, .int (nI i))])
    (kk : ∀ (u : Sg) (H : Heap) (locs : List Loc), Inv u → WP G u H → va_S (gA G) s0.heap H locs → W pg l ev room_1 s0 mm #[Value.ref b] below meth cd H locs 600000 7302250 (lw_Z below #[Value.ref b] s0) (F0 mm 1204 ls [])) : W pg l ev room_1 s0 mm #[Value.ref b] below meth cd H locs 600000 7302250 (lw_Z below #[Value.ref b] s0) (F0 mm 386 ls []) := by
  obtain ⟨hx, hb, hr, hml, hown, hts0, hX, hbl, hlocks, hgv⟩ := C0
  have hts : ∀ w ∈ wsL_law, w.before #[Value.ref b] s0 = true := fun w h => hts0 w (wsL_law_in w h)
  refine lv_aload_n hx hb dL_law_386 rfl (lv_at hl 1 rfl) ?_
  refine lv_aload_n hx hb dL_law_387 rfl (lv_at hl 0 rfl) ?_
  refine lv_iload_n hx hb dL_law_388 rfl (lv_at hl 3 rfl) ?_
  refine lv_iconst (v := 1) hx hb dL_law_389 (by decide) ?_
  refine nn_iadd (a := i) (b := 1) hx hb dL_law_390 ?_
  refine va_sld hx hb hX hbl hbA hS (vp_in_nI (show i + 1 < L by omega) (by omega)) dL_law_391 ?_
  refine lv_cast (y := xs (i + 1)) (by rw [nI_clamp (show i + 1 < 2 ^ 31 by omega)]) ?_
  refine lv_aload_n hx hb dL_law_392 rfl (lv_at hl 0 rfl) ?_
  refine lv_iload_n hx hb dL_law_393 rfl (lv_at hl 3 rfl) ?_
  refine lv_iconst (v := 2) hx hb dL_law_394 (by decide) ?_
  refine nn_iadd (a := i) (b := 2) hx hb dL_law_395 ?_
  refine va_sld hx hb hX hbl hbA hS (vp_in_nI (show i + 2 < L by omega) (by omega)) dL_law_396 ?_
  refine lv_cast (y := xs (i + 2)) (by rw [nI_clamp (show i + 2 < 2 ^ 31 by omega)]) ?_
  refine hl_callVi (As := [.int (xs (i + 1)), .int (xs (i + 2))]) (rest := []) ⟨hx, hb, hml, hown, hts⟩ hE hP hS (c_X4_as l G u (u.1 0) (u.1 6) rfl rfl hI.1.1.2.1.1 (xs (i + 1)) (xs (i + 2))) rfl (cwV 2 hts gL_law_X4_as rfl rfl rfl (by decide +kernel) ⟨Nat.le_of_ble_eq_true rfl, Nat.le_of_ble_eq_true rfl⟩) (do_recv hE hP) rfl hl.1 rfl (Nat.le_of_ble_eq_true rfl) dL_law_397 ⟨Nat.le_refl _, Nat.le_refl _⟩ (fun r1 v1 H locs q1 hP hS => ?_)
  refine lv_aload_n hx hb dL_law_400 rfl (lv_at hl 2 rfl) ?_
  refine lv_aload_n hx hb dL_law_401 rfl (lv_at hl 0 rfl) ?_
  refine lv_iload_n hx hb dL_law_402 rfl (lv_at hl 3 rfl) ?_
  refine lv_iconst (v := 1) hx hb dL_law_403 (by decide) ?_
  refine nn_iadd (a := i) (b := 1) hx hb dL_law_404 ?_
  refine va_sld hx hb hX hbl hbA hS (vp_in_nI (show i + 1 < L by omega) (by omega)) dL_law_405 ?_
  refine lv_cast (y := xs (i + 1)) (by rw [nI_clamp (show i + 1 < 2 ^ 31 by omega)]) ?_
  refine lv_aload_n hx hb dL_law_406 rfl (lv_at hl 0 rfl) ?_
  refine lv_iload_n hx hb dL_law_407 rfl (lv_at hl 3 rfl) ?_
  refine lv_iconst (v := 2) hx hb dL_law_408 (by decide) ?_
  refine nn_iadd (a := i) (b := 2) hx hb dL_law_409 ?_
  refine va_sld hx hb hX hbl hbA hS (vp_in_nI (show i + 2 < L by omega) (by omega)) dL_law_410 ?_
  refine lv_cast (y := xs (i + 2)) (by rw [nI_clamp (show i + 2 < 2 ^ 31 by omega)]) ?_
  refine hl_callVi (As := [.int (xs (i + 1)), .int (xs (i + 2))]) (rest := [.int r1]) ⟨hx, hb, hml, hown, hts⟩ hE hP hS (c_X5_as l G v1 (u.1 0) (u.1 6) ((q1.fr (by decide) (by decide) (by decide)).trans hI.1.1.1.symm) ((q1.fr (by decide) (by decide) (by decide)).trans hI.1.1.2.2.symm) hI.1.1.2.1.1 (xs (i + 1)) (xs (i + 2))) rfl (cwV 2 hts gL_law_X5_as rfl rfl rfl (by decide +kernel) ⟨Nat.le_of_ble_eq_true rfl, Nat.le_of_ble_eq_true rfl⟩) (mo_recv hE hP) rfl hl.1 rfl (Nat.le_of_ble_eq_true rfl) dL_law_411 ⟨Nat.le_refl _, Nat.le_refl _⟩ (fun r2 v2 H locs q2 hP hS => ?_)
  have hq := inv_P3 hI q1 q2 (hI.1.1.2.1.k (k_as _ _ _ _))
  exact lv_icmp_eq (tgt := 1204) hx hb dL_law_414 (by decide) (fun _ => kk _ _ _ hq.2.tr hP.tr2 hS) (fun c9 => absurd hq.1 c9)
set_option maxHeartbeats 4000000 in
set_option maxRecDepth 100000 in
theorem lawc_holds {pg : Program} {l : Launch} {ev : Env} {s0 : State} {mm : MethodId} {below : List Frame} {meth : Method} {cd : Code} {b L : Nat} {xs : Nat → Int32} (hL : L ≤ 3072) (C0 : lw_At pg s0 mm meth cd b L xs) {G : Geo} (hE : E0 G s0 s0.heap) (hbA : ¬ gA G b) (i : Nat) (hi : i + 6 ≤ L) {u : Sg} (hI : Inv u) {H : Heap} {locs : List Loc} {ls : Array Slot} (hP : WP G u H) (hS : va_S (gA G) s0.heap H locs) (hl : lv_has ls 4 [(0, .ref b), (1, .ref (gad G 0)), (2, .ref (gad G 34)), (3, .int (nI i))])
    (kk : ∀ (u : Sg) (H : Heap) (locs : List Loc), Inv u → WP G u H → va_S (gA G) s0.heap H locs → W pg l ev room_1 s0 mm #[Value.ref b] below meth cd H locs 600000 7302250 (lw_Z below #[Value.ref b] s0) (F0 mm 1204 ls [])) : W pg l ev room_1 s0 mm #[Value.ref b] below meth cd H locs 600000 7302250 (lw_Z below #[Value.ref b] s0) (F0 mm 419 ls []) := by
  obtain ⟨hx, hb, hr, hml, hown, hts0, hX, hbl, hlocks, hgv⟩ := C0
  have hts : ∀ w ∈ wsL_law, w.before #[Value.ref b] s0 = true := fun w h => hts0 w (wsL_law_in w h)
  refine lv_aload_n hx hb dL_law_419 rfl (lv_at hl 1 rfl) ?_
  refine lv_aload_n hx hb dL_law_420 rfl (lv_at hl 0 rfl) ?_
  refine lv_iload_n hx hb dL_law_421 rfl (lv_at hl 3 rfl) ?_
  refine lv_iconst (v := 1) hx hb dL_law_422 (by decide) ?_
  refine nn_iadd (a := i) (b := 1) hx hb dL_law_423 ?_
  refine va_sld hx hb hX hbl hbA hS (vp_in_nI (show i + 1 < L by omega) (by omega)) dL_law_424 ?_
  refine lv_cast (y := xs (i + 1)) (by rw [nI_clamp (show i + 1 < 2 ^ 31 by omega)]) ?_
  refine lv_aload_n hx hb dL_law_425 rfl (lv_at hl 0 rfl) ?_
  refine lv_iload_n hx hb dL_law_426 rfl (lv_at hl 3 rfl) ?_
  refine lv_iconst (v := 2) hx hb dL_law_427 (by decide) ?_
  refine nn_iadd (a := i) (b := 2) hx hb dL_law_428 ?_
  refine va_sld hx hb hX hbl hbA hS (vp_in_nI (show i + 2 < L by omega) (by omega)) dL_law_429 ?_
  refine lv_cast (y := xs (i + 2)) (by rw [nI_clamp (show i + 2 < 2 ^ 31 by omega)]) ?_
  refine hl_callVi (As := [.int (xs (i + 1)), .int (xs (i + 2))]) (rest := []) ⟨hx, hb, hml, hown, hts⟩ hE hP hS (c_X4_holds l G u (u.1 0) (u.1 6) rfl rfl hI.1.1.2.1.1 (xs (i + 1)) (xs (i + 2))) rfl (cwV 2 hts gL_law_X4_holds rfl rfl rfl (by decide +kernel) ⟨Nat.le_of_ble_eq_true rfl, Nat.le_of_ble_eq_true rfl⟩) (do_recv hE hP) rfl hl.1 rfl (Nat.le_of_ble_eq_true rfl) dL_law_430 ⟨Nat.le_refl _, Nat.le_refl _⟩ (fun r1 v1 H locs q1 hP hS => ?_)
  refine lv_aload_n hx hb dL_law_433 rfl (lv_at hl 2 rfl) ?_
  refine lv_aload_n hx hb dL_law_434 rfl (lv_at hl 0 rfl) ?_
  refine lv_iload_n hx hb dL_law_435 rfl (lv_at hl 3 rfl) ?_
  refine lv_iconst (v := 1) hx hb dL_law_436 (by decide) ?_
  refine nn_iadd (a := i) (b := 1) hx hb dL_law_437 ?_
  refine va_sld hx hb hX hbl hbA hS (vp_in_nI (show i + 1 < L by omega) (by omega)) dL_law_438 ?_
  refine lv_cast (y := xs (i + 1)) (by rw [nI_clamp (show i + 1 < 2 ^ 31 by omega)]) ?_
  refine lv_aload_n hx hb dL_law_439 rfl (lv_at hl 0 rfl) ?_
  refine lv_iload_n hx hb dL_law_440 rfl (lv_at hl 3 rfl) ?_
  refine lv_iconst (v := 2) hx hb dL_law_441 (by decide) ?_
  refine nn_iadd (a := i) (b := 2) hx hb dL_law_442 ?_
  refine va_sld hx hb hX hbl hbA hS (vp_in_nI (show i + 2 < L by omega) (by omega)) dL_law_443 ?_
  refine lv_cast (y := xs (i + 2)) (by rw [nI_clamp (show i + 2 < 2 ^ 31 by omega)]) ?_
  refine hl_callVi (As := [.int (xs (i + 1)), .int (xs (i + 2))]) (rest := [.int r1]) ⟨hx, hb, hml, hown, hts⟩ hE hP hS (c_X5_holds l G v1 (u.1 0) (u.1 6) ((q1.fr (by decide) (by decide) (by decide)).trans hI.1.1.1.symm) ((q1.fr (by decide) (by decide) (by decide)).trans hI.1.1.2.2.symm) hI.1.1.2.1.1 (xs (i + 1)) (xs (i + 2))) rfl (cwV 2 hts gL_law_X5_holds rfl rfl rfl (by decide +kernel) ⟨Nat.le_of_ble_eq_true rfl, Nat.le_of_ble_eq_true rfl⟩) (mo_recv hE hP) rfl hl.1 rfl (Nat.le_of_ble_eq_true rfl) dL_law_444 ⟨Nat.le_refl _, Nat.le_refl _⟩ (fun r2 v2 H locs q2 hP hS => ?_)
  have hq := inv_P3 hI q1 q2 (hI.1.1.2.1.k (k_holds _ _ _ _))
  exact lv_icmp_eq (tgt := 1204) hx hb dL_law_447 (by decide) (fun _ => kk _ _ _ hq.2.tr hP.tr2 hS) (fun c9 => absurd hq.1 c9)
set_option maxHeartbeats 4000000 in
set_option maxRecDepth 100000 in
theorem lawc_asks {pg : Program} {l : Launch} {ev : Env} {s0 : State} {mm : MethodId} {below : List Frame} {meth : Method} {cd : Code} {b L : Nat} {xs : Nat → Int32} (hL : L ≤ 3072) (C0 : lw_At pg s0 mm meth cd b L xs) {G : Geo} (hE : E0 G s0 s0.heap) (hbA : ¬ gA G b) (i : Nat) (hi : i + 6 ≤ L) {u : Sg} (hI : Inv u) {H : Heap} {locs : List Loc} {ls : Array Slot} (hP : WP G u H) (hS : va_S (gA G) s0.heap H locs) (hl : lv_has ls 4 [(0, .ref b), (1, .ref (gad G 0)), (2, .ref (gad G 34)), (3, .int (nI i))])
    (kk : ∀ (u : Sg) (H : Heap) (locs : List Loc), Inv u → WP G u H → va_S (gA G) s0.heap H locs → W pg l ev room_1 s0 mm #[Value.ref b] below meth cd H locs 600000 7302250 (lw_Z below #[Value.ref b] s0) (F0 mm 1204 ls [])) : W pg l ev room_1 s0 mm #[Value.ref b] below meth cd H locs 600000 7302250 (lw_Z below #[Value.ref b] s0) (F0 mm 452 ls []) := by
  obtain ⟨hx, hb, hr, hml, hown, hts0, hX, hbl, hlocks, hgv⟩ := C0
  have hts : ∀ w ∈ wsL_law, w.before #[Value.ref b] s0 = true := fun w h => hts0 w (wsL_law_in w h)
  refine lv_aload_n hx hb dL_law_452 rfl (lv_at hl 1 rfl) ?_
  refine lv_aload_n hx hb dL_law_453 rfl (lv_at hl 0 rfl) ?_
  refine lv_iload_n hx hb dL_law_454 rfl (lv_at hl 3 rfl) ?_
  refine lv_iconst (v := 1) hx hb dL_law_455 (by decide) ?_
  refine nn_iadd (a := i) (b := 1) hx hb dL_law_456 ?_
  refine va_sld hx hb hX hbl hbA hS (vp_in_nI (show i + 1 < L by omega) (by omega)) dL_law_457 ?_
  refine lv_cast (y := xs (i + 1)) (by rw [nI_clamp (show i + 1 < 2 ^ 31 by omega)]) ?_
  refine lv_aload_n hx hb dL_law_458 rfl (lv_at hl 0 rfl) ?_
  refine lv_iload_n hx hb dL_law_459 rfl (lv_at hl 3 rfl) ?_
  refine lv_iconst (v := 2) hx hb dL_law_460 (by decide) ?_
  refine nn_iadd (a := i) (b := 2) hx hb dL_law_461 ?_
  refine va_sld hx hb hX hbl hbA hS (vp_in_nI (show i + 2 < L by omega) (by omega)) dL_law_462 ?_
  refine lv_cast (y := xs (i + 2)) (by rw [nI_clamp (show i + 2 < 2 ^ 31 by omega)]) ?_
  refine hl_callVi (As := [.int (xs (i + 1)), .int (xs (i + 2))]) (rest := []) ⟨hx, hb, hml, hown, hts⟩ hE hP hS (c_X4_asks l G u (u.1 0) (u.1 6) rfl rfl hI.1.1.2.1.1 (xs (i + 1)) (xs (i + 2))) rfl (cwV 2 hts gL_law_X4_asks rfl rfl rfl (by decide +kernel) ⟨Nat.le_of_ble_eq_true rfl, Nat.le_of_ble_eq_true rfl⟩) (do_recv hE hP) rfl hl.1 rfl (Nat.le_of_ble_eq_true rfl) dL_law_463 ⟨Nat.le_refl _, Nat.le_refl _⟩ (fun r1 v1 H locs q1 hP hS => ?_)
  refine lv_aload_n hx hb dL_law_466 rfl (lv_at hl 2 rfl) ?_
  refine lv_aload_n hx hb dL_law_467 rfl (lv_at hl 0 rfl) ?_
  refine lv_iload_n hx hb dL_law_468 rfl (lv_at hl 3 rfl) ?_
  refine lv_iconst (v := 1) hx hb dL_law_469 (by decide) ?_
  refine nn_iadd (a := i) (b := 1) hx hb dL_law_470 ?_
  refine va_sld hx hb hX hbl hbA hS (vp_in_nI (show i + 1 < L by omega) (by omega)) dL_law_471 ?_
  refine lv_cast (y := xs (i + 1)) (by rw [nI_clamp (show i + 1 < 2 ^ 31 by omega)]) ?_
  refine lv_aload_n hx hb dL_law_472 rfl (lv_at hl 0 rfl) ?_
  refine lv_iload_n hx hb dL_law_473 rfl (lv_at hl 3 rfl) ?_
  refine lv_iconst (v := 2) hx hb dL_law_474 (by decide) ?_
  refine nn_iadd (a := i) (b := 2) hx hb dL_law_475 ?_
  refine va_sld hx hb hX hbl hbA hS (vp_in_nI (show i + 2 < L by omega) (by omega)) dL_law_476 ?_
  refine lv_cast (y := xs (i + 2)) (by rw [nI_clamp (show i + 2 < 2 ^ 31 by omega)]) ?_
  refine hl_callVi (As := [.int (xs (i + 1)), .int (xs (i + 2))]) (rest := [.int r1]) ⟨hx, hb, hml, hown, hts⟩ hE hP hS (c_X5_asks l G v1 (u.1 0) (u.1 6) ((q1.fr (by decide) (by decide) (by decide)).trans hI.1.1.1.symm) ((q1.fr (by decide) (by decide) (by decide)).trans hI.1.1.2.2.symm) hI.1.1.2.1.1 (xs (i + 1)) (xs (i + 2))) rfl (cwV 2 hts gL_law_X5_asks rfl rfl rfl (by decide +kernel) ⟨Nat.le_of_ble_eq_true rfl, Nat.le_of_ble_eq_true rfl⟩) (mo_recv hE hP) rfl hl.1 rfl (Nat.le_of_ble_eq_true rfl) dL_law_477 ⟨Nat.le_refl _, Nat.le_refl _⟩ (fun r2 v2 H locs q2 hP hS => ?_)
  have hq := inv_P3 hI q1 q2 (hI.1.1.2.1.k (k_asks _ _ _ _))
  exact lv_icmp_eq (tgt := 1204) hx hb dL_law_480 (by decide) (fun _ => kk _ _ _ hq.2.tr hP.tr2 hS) (fun c9 => absurd hq.1 c9)
set_option maxHeartbeats 4000000 in
set_option maxRecDepth 100000 in
theorem lawc_seconds {pg : Program} {l : Launch} {ev : Env} {s0 : State} {mm : MethodId} {below : List Frame} {meth : Method} {cd : Code} {b L : Nat} {xs : Nat → Int32} (hL : L ≤ 3072) (C0 : lw_At pg s0 mm meth cd b L xs) {G : Geo} (hE : E0 G s0 s0.heap) (hbA : ¬ gA G b) (i : Nat) (hi : i + 6 ≤ L) {u : Sg} (hI : Inv u) {H : Heap} {locs : List Loc} {ls : Array Slot} (hP : WP G u H) (hS : va_S (gA G) s0.heap H locs) (hl : lv_has ls 4 [(0, .ref b), (1, .ref (gad G 0)), (2, .ref (gad G 34)), (3, .int (nI i))])
    (kk : ∀ (u : Sg) (H : Heap) (locs : List Loc), Inv u → WP G u H → va_S (gA G) s0.heap H locs → W pg l ev room_1 s0 mm #[Value.ref b] below meth cd H locs 600000 7302250 (lw_Z below #[Value.ref b] s0) (F0 mm 1204 ls [])) : W pg l ev room_1 s0 mm #[Value.ref b] below meth cd H locs 600000 7302250 (lw_Z below #[Value.ref b] s0) (F0 mm 485 ls []) := by
  obtain ⟨hx, hb, hr, hml, hown, hts0, hX, hbl, hlocks, hgv⟩ := C0
  have hts : ∀ w ∈ wsL_law, w.before #[Value.ref b] s0 = true := fun w h => hts0 w (wsL_law_in w h)
  refine lv_aload_n hx hb dL_law_485 rfl (lv_at hl 1 rfl) ?_
  refine lv_aload_n hx hb dL_law_486 rfl (lv_at hl 0 rfl) ?_
  refine lv_iload_n hx hb dL_law_487 rfl (lv_at hl 3 rfl) ?_
  refine lv_iconst (v := 1) hx hb dL_law_488 (by decide) ?_
  refine nn_iadd (a := i) (b := 1) hx hb dL_law_489 ?_
  refine va_sld hx hb hX hbl hbA hS (vp_in_nI (show i + 1 < L by omega) (by omega)) dL_law_490 ?_
  refine lv_cast (y := xs (i + 1)) (by rw [nI_clamp (show i + 1 < 2 ^ 31 by omega)]) ?_
  refine hl_callVi (As := [.int (xs (i + 1))]) (rest := []) ⟨hx, hb, hml, hown, hts⟩ hE hP hS (c_X4_seconds l G u (u.1 0) (u.1 6) rfl rfl hI.1.1.2.1.1 hI.1.1.2.1.2.1 hI.1.1.2.1.2.2 (xs (i + 1))) rfl (cwV 1 hts gL_law_X4_seconds rfl rfl rfl (by decide +kernel) ⟨Nat.le_of_ble_eq_true rfl, Nat.le_of_ble_eq_true rfl⟩) (do_recv hE hP) rfl hl.1 rfl (Nat.le_of_ble_eq_true rfl) dL_law_491 ⟨Nat.le_refl _, Nat.le_refl _⟩ (fun r1 v1 H locs q1 hP hS => ?_)
  refine lv_aload_n hx hb dL_law_494 rfl (lv_at hl 2 rfl) ?_
  refine lv_aload_n hx hb dL_law_495 rfl (lv_at hl 0 rfl) ?_
  refine lv_iload_n hx hb dL_law_496 rfl (lv_at hl 3 rfl) ?_
  refine lv_iconst (v := 1) hx hb dL_law_497 (by decide) ?_
  refine nn_iadd (a := i) (b := 1) hx hb dL_law_498 ?_
  refine va_sld hx hb hX hbl hbA hS (vp_in_nI (show i + 1 < L by omega) (by omega)) dL_law_499 ?_
  refine lv_cast (y := xs (i + 1)) (by rw [nI_clamp (show i + 1 < 2 ^ 31 by omega)]) ?_
  refine hl_callVi (As := [.int (xs (i + 1))]) (rest := [.int r1]) ⟨hx, hb, hml, hown, hts⟩ hE hP hS (c_X5_seconds l G v1 (u.1 0) (u.1 6) ((q1.fr (by decide) (by decide) (by decide)).trans hI.1.1.1.symm) ((q1.fr (by decide) (by decide) (by decide)).trans hI.1.1.2.2.symm) hI.1.1.2.1.1 (xs (i + 1))) rfl (cwV 1 hts gL_law_X5_seconds rfl rfl rfl (by decide +kernel) ⟨Nat.le_of_ble_eq_true rfl, Nat.le_of_ble_eq_true rfl⟩) (mo_recv hE hP) rfl hl.1 rfl (Nat.le_of_ble_eq_true rfl) dL_law_500 ⟨Nat.le_refl _, Nat.le_refl _⟩ (fun r2 v2 H locs q2 hP hS => ?_)
  have hq := inv_P3 hI q1 q2 (ws_seconds hI.1.1.2.1 _)
  exact lv_icmp_eq (tgt := 1204) hx hb dL_law_503 (by decide) (fun _ => kk _ _ _ hq.2.tr hP.tr2 hS) (fun c9 => absurd hq.1 c9)
set_option maxHeartbeats 4000000 in
set_option maxRecDepth 100000 in
theorem lawc_on {pg : Program} {l : Launch} {ev : Env} {s0 : State} {mm : MethodId} {below : List Frame} {meth : Method} {cd : Code} {b L : Nat} {xs : Nat → Int32} (hL : L ≤ 3072) (C0 : lw_At pg s0 mm meth cd b L xs) {G : Geo} (hE : E0 G s0 s0.heap) (hbA : ¬ gA G b) (i : Nat) (hi : i + 6 ≤ L) {u : Sg} (hI : Inv u) {H : Heap} {locs : List Loc} {ls : Array Slot} (hP : WP G u H) (hS : va_S (gA G) s0.heap H locs) (hl : lv_has ls 4 [(0, .ref b), (1, .ref (gad G 0)), (2, .ref (gad G 34)), (3, .int (nI i))])
    (kk : ∀ (u : Sg) (H : Heap) (locs : List Loc), Inv u → WP G u H → va_S (gA G) s0.heap H locs → W pg l ev room_1 s0 mm #[Value.ref b] below meth cd H locs 600000 7302250 (lw_Z below #[Value.ref b] s0) (F0 mm 1204 ls [])) : W pg l ev room_1 s0 mm #[Value.ref b] below meth cd H locs 600000 7302250 (lw_Z below #[Value.ref b] s0) (F0 mm 508 ls []) := by
  obtain ⟨hx, hb, hr, hml, hown, hts0, hX, hbl, hlocks, hgv⟩ := C0
  have hts : ∀ w ∈ wsL_law, w.before #[Value.ref b] s0 = true := fun w h => hts0 w (wsL_law_in w h)
  refine lv_aload_n hx hb dL_law_508 rfl (lv_at hl 1 rfl) ?_
  refine lv_aload_n hx hb dL_law_509 rfl (lv_at hl 0 rfl) ?_
  refine lv_iload_n hx hb dL_law_510 rfl (lv_at hl 3 rfl) ?_
  refine lv_iconst (v := 1) hx hb dL_law_511 (by decide) ?_
  refine nn_iadd (a := i) (b := 1) hx hb dL_law_512 ?_
  refine va_sld hx hb hX hbl hbA hS (vp_in_nI (show i + 1 < L by omega) (by omega)) dL_law_513 ?_
  refine lv_cast (y := xs (i + 1)) (by rw [nI_clamp (show i + 1 < 2 ^ 31 by omega)]) ?_
  refine lv_aload_n hx hb dL_law_514 rfl (lv_at hl 0 rfl) ?_
  refine lv_iload_n hx hb dL_law_515 rfl (lv_at hl 3 rfl) ?_
  refine lv_iconst (v := 2) hx hb dL_law_516 (by decide) ?_
  refine nn_iadd (a := i) (b := 2) hx hb dL_law_517 ?_
  refine va_sld hx hb hX hbl hbA hS (vp_in_nI (show i + 2 < L by omega) (by omega)) dL_law_518 ?_
  refine lv_cast (y := xs (i + 2)) (by rw [nI_clamp (show i + 2 < 2 ^ 31 by omega)]) ?_
  refine lv_aload_n hx hb dL_law_519 rfl (lv_at hl 0 rfl) ?_
  refine lv_iload_n hx hb dL_law_520 rfl (lv_at hl 3 rfl) ?_
  refine lv_iconst (v := 3) hx hb dL_law_521 (by decide) ?_
  refine nn_iadd (a := i) (b := 3) hx hb dL_law_522 ?_
  refine va_sld hx hb hX hbl hbA hS (vp_in_nI (show i + 3 < L by omega) (by omega)) dL_law_523 ?_
  refine lv_cast (y := xs (i + 3)) (by rw [nI_clamp (show i + 3 < 2 ^ 31 by omega)]) ?_
  refine hl_callVi (As := [.int (xs (i + 1)), .int (xs (i + 2)), .int (xs (i + 3))]) (rest := []) ⟨hx, hb, hml, hown, hts⟩ hE hP hS (c_X4_on l G u (u.1 0) (u.1 6) rfl rfl hI.1.1.2.1.1 (u.1 1) rfl hI.2.1 (xs (i + 1)) (xs (i + 2)) (xs (i + 3))) rfl (cwV 3 hts gL_law_X4_on rfl rfl rfl (by decide +kernel) ⟨Nat.le_of_ble_eq_true rfl, Nat.le_of_ble_eq_true rfl⟩) (do_recv hE hP) rfl hl.1 rfl (Nat.le_of_ble_eq_true rfl) dL_law_524 ⟨Nat.le_refl _, Nat.le_refl _⟩ (fun r1 v1 H locs q1 hP hS => ?_)
  refine lv_aload_n hx hb dL_law_527 rfl (lv_at hl 2 rfl) ?_
  refine lv_aload_n hx hb dL_law_528 rfl (lv_at hl 0 rfl) ?_
  refine lv_iload_n hx hb dL_law_529 rfl (lv_at hl 3 rfl) ?_
  refine lv_iconst (v := 1) hx hb dL_law_530 (by decide) ?_
  refine nn_iadd (a := i) (b := 1) hx hb dL_law_531 ?_
  refine va_sld hx hb hX hbl hbA hS (vp_in_nI (show i + 1 < L by omega) (by omega)) dL_law_532 ?_
  refine lv_cast (y := xs (i + 1)) (by rw [nI_clamp (show i + 1 < 2 ^ 31 by omega)]) ?_
  refine lv_aload_n hx hb dL_law_533 rfl (lv_at hl 0 rfl) ?_
  refine lv_iload_n hx hb dL_law_534 rfl (lv_at hl 3 rfl) ?_
  refine lv_iconst (v := 2) hx hb dL_law_535 (by decide) ?_
  refine nn_iadd (a := i) (b := 2) hx hb dL_law_536 ?_
  refine va_sld hx hb hX hbl hbA hS (vp_in_nI (show i + 2 < L by omega) (by omega)) dL_law_537 ?_
  refine lv_cast (y := xs (i + 2)) (by rw [nI_clamp (show i + 2 < 2 ^ 31 by omega)]) ?_
  refine lv_aload_n hx hb dL_law_538 rfl (lv_at hl 0 rfl) ?_
  refine lv_iload_n hx hb dL_law_539 rfl (lv_at hl 3 rfl) ?_
  refine lv_iconst (v := 3) hx hb dL_law_540 (by decide) ?_
  refine nn_iadd (a := i) (b := 3) hx hb dL_law_541 ?_
  refine va_sld hx hb hX hbl hbA hS (vp_in_nI (show i + 3 < L by omega) (by omega)) dL_law_542 ?_
  refine lv_cast (y := xs (i + 3)) (by rw [nI_clamp (show i + 3 < 2 ^ 31 by omega)]) ?_
  refine hl_callVi (As := [.int (xs (i + 1)), .int (xs (i + 2)), .int (xs (i + 3))]) (rest := [.int r1]) ⟨hx, hb, hml, hown, hts⟩ hE hP hS (c_X5_on l G v1 (u.1 0) (u.1 6) ((q1.fr (by decide) (by decide) (by decide)).trans hI.1.1.1.symm) ((q1.fr (by decide) (by decide) (by decide)).trans hI.1.1.2.2.symm) hI.1.1.2.1.1 (u.1 13) (q1.fr (by decide) (by decide) (by decide)) hI.2.2 (xs (i + 1)) (xs (i + 2)) (xs (i + 3))) rfl (cwV 3 hts gL_law_X5_on rfl rfl rfl (by decide +kernel) ⟨Nat.le_of_ble_eq_true rfl, Nat.le_of_ble_eq_true rfl⟩) (mo_recv hE hP) rfl hl.1 rfl (Nat.le_of_ble_eq_true rfl) dL_law_543 ⟨Nat.le_refl _, Nat.le_refl _⟩ (fun r2 v2 H locs q2 hP hS => ?_)
  have hq := inv_P3 hI q1 q2 (hI.1.1.2.1.k (k_on _ _ _ _ _))
  exact lv_icmp_eq (tgt := 1204) hx hb dL_law_546 (by decide) (fun _ => kk _ _ _ hq.2.tr hP.tr2 hS) (fun c9 => absurd hq.1 c9)
set_option maxHeartbeats 4000000 in
set_option maxRecDepth 100000 in
theorem lawc_loose {pg : Program} {l : Launch} {ev : Env} {s0 : State} {mm : MethodId} {below : List Frame} {meth : Method} {cd : Code} {b L : Nat} {xs : Nat → Int32} (hL : L ≤ 3072) (C0 : lw_At pg s0 mm meth cd b L xs) {G : Geo} (hE : E0 G s0 s0.heap) (hbA : ¬ gA G b) (i : Nat) (hi : i + 6 ≤ L) {u : Sg} (hI : Inv u) {H : Heap} {locs : List Loc} {ls : Array Slot} (hP : WP G u H) (hS : va_S (gA G) s0.heap H locs) (hl : lv_has ls 4 [(0, .ref b), (1, .ref (gad G 0)), (2, .ref (gad G 34)), (3, .int (nI i))])
    (kk : ∀ (u : Sg) (H : Heap) (locs : List Loc), Inv u → WP G u H → va_S (gA G) s0.heap H locs → W pg l ev room_1 s0 mm #[Value.ref b] below meth cd H locs 600000 7302250 (lw_Z below #[Value.ref b] s0) (F0 mm 1204 ls [])) : W pg l ev room_1 s0 mm #[Value.ref b] below meth cd H locs 600000 7302250 (lw_Z below #[Value.ref b] s0) (F0 mm 551 ls []) := by
  obtain ⟨hx, hb, hr, hml, hown, hts0, hX, hbl, hlocks, hgv⟩ := C0
  have hts : ∀ w ∈ wsL_law, w.before #[Value.ref b] s0 = true := fun w h => hts0 w (wsL_law_in w h)
  refine lv_aload_n hx hb dL_law_551 rfl (lv_at hl 1 rfl) ?_
  refine lv_aload_n hx hb dL_law_552 rfl (lv_at hl 0 rfl) ?_
  refine lv_iload_n hx hb dL_law_553 rfl (lv_at hl 3 rfl) ?_
  refine lv_iconst (v := 1) hx hb dL_law_554 (by decide) ?_
  refine nn_iadd (a := i) (b := 1) hx hb dL_law_555 ?_
  refine va_sld hx hb hX hbl hbA hS (vp_in_nI (show i + 1 < L by omega) (by omega)) dL_law_556 ?_
  refine lv_cast (y := xs (i + 1)) (by rw [nI_clamp (show i + 1 < 2 ^ 31 by omega)]) ?_
  refine hl_callVi (As := [.int (xs (i + 1))]) (rest := []) ⟨hx, hb, hml, hown, hts⟩ hE hP hS (c_X4_loose l G u (u.1 0) (u.1 6) rfl rfl hI.1.1.2.1.1 (u.1 1) rfl hI.2.1 (xs (i + 1))) rfl (cwV 1 hts gL_law_X4_loose rfl rfl rfl (by decide +kernel) ⟨Nat.le_of_ble_eq_true rfl, Nat.le_of_ble_eq_true rfl⟩) (do_recv hE hP) rfl hl.1 rfl (Nat.le_of_ble_eq_true rfl) dL_law_557 ⟨Nat.le_refl _, Nat.le_refl _⟩ (fun r1 v1 H locs q1 hP hS => ?_)
  refine lv_aload_n hx hb dL_law_560 rfl (lv_at hl 2 rfl) ?_
  refine lv_aload_n hx hb dL_law_561 rfl (lv_at hl 0 rfl) ?_
  refine lv_iload_n hx hb dL_law_562 rfl (lv_at hl 3 rfl) ?_
  refine lv_iconst (v := 1) hx hb dL_law_563 (by decide) ?_
  refine nn_iadd (a := i) (b := 1) hx hb dL_law_564 ?_
  refine va_sld hx hb hX hbl hbA hS (vp_in_nI (show i + 1 < L by omega) (by omega)) dL_law_565 ?_
  refine lv_cast (y := xs (i + 1)) (by rw [nI_clamp (show i + 1 < 2 ^ 31 by omega)]) ?_
  refine hl_callVi (As := [.int (xs (i + 1))]) (rest := [.int r1]) ⟨hx, hb, hml, hown, hts⟩ hE hP hS (c_X5_loose l G v1 (u.1 0) (u.1 6) ((q1.fr (by decide) (by decide) (by decide)).trans hI.1.1.1.symm) ((q1.fr (by decide) (by decide) (by decide)).trans hI.1.1.2.2.symm) hI.1.1.2.1.1 (u.1 13) (q1.fr (by decide) (by decide) (by decide)) hI.2.2 (xs (i + 1))) rfl (cwV 1 hts gL_law_X5_loose rfl rfl rfl (by decide +kernel) ⟨Nat.le_of_ble_eq_true rfl, Nat.le_of_ble_eq_true rfl⟩) (mo_recv hE hP) rfl hl.1 rfl (Nat.le_of_ble_eq_true rfl) dL_law_566 ⟨Nat.le_refl _, Nat.le_refl _⟩ (fun r2 v2 H locs q2 hP hS => ?_)
  have hq := inv_P3 hI q1 q2 (hI.1.1.2.1.k (k_loose _ _ _))
  exact lv_icmp_eq (tgt := 1204) hx hb dL_law_569 (by decide) (fun _ => kk _ _ _ hq.2.tr hP.tr2 hS) (fun c9 => absurd hq.1 c9)
