set_option maxHeartbeats 4000000 in
set_option maxRecDepth 100000 in
theorem c_X5_goesFor (l : Launch) (G : Geo) (u : Sg) (M : Nat → Int32) (hM : Wf M) (n : Nat) (hn9 : n ≤ 1000) : CtV l G yX5_goesFor wsX5_goesFor (rmO 5 115) [.ref (gad G 34), .int (nI n)] (sI u 11 M) (fun v => v = sI u 11 (goN M n)) := by
  refine CtV.of (cc := cX5_goesFor) (maxL := 3) (ret := none) (own := RX5) (by decide) rfl rfl ?_
  rintro pg ev s0 mm below meth cd ⟨hx, hb, hr, hml, hown, hts, hlocks⟩ hE hP ls hl
  have hS : va_S (gA G) s0.heap s0.heap [] := va_S.rf
  have hl : lv_has ls 3 [(0, .ref (gad G 34)), (1, .int (nI n))] := hl
  refine lv_iconst (v := 0) hx hb dX5_goesFor_0 (by decide) ?_
  refine lv_istore_n (lv' := [(2, .int 0), (0, .ref (gad G 34)), (1, .int (nI n))]) hx hb dX5_goesFor_1 rfl hl (by decide) rfl (fun ls hl => ?_)
  have J2 : ∀ (fu : Nat) (k : Nat) (N : Nat → Int32) (hk : k ≤ n) (hN : N = goN M k) (hrk : n - k < fu) (H : Heap) (locs : List Loc) (ls : Array Slot), WP G (sI u 11 N) H → va_S (gA G) s0.heap H locs → lv_has ls 3 [(0, .ref (gad G 34)), (1, .int (nI n)), (2, .int (nI k))] → W pg l ev (headSpec wsX5_goesFor (rmO 5 115)).room s0 mm ([.ref (gad G 34), .int (nI n)] : List Value).toArray below meth cd H locs 0 0 (MQ below (va_Qv (fun v => v = sI u 11 (goN M n)) (fun v t => WP G v t.heap) (gA G)) ([.ref (gad G 34), .int (nI n)] : List Value).toArray s0 0 0 (gA G)) (F0 mm 2 ls []) := by
    intro fu
    induction fu with
    | zero => intro k N hk hN hrk; exact absurd hrk (Nat.not_lt_zero _)
    | succ fu ih2 =>
      intro k N hk hN hrk H locs ls hP hS hl
      have hWn : Wf N := by rw [hN]; exact Wf_goN hM k
      refine lv_iload_n hx hb dX5_goesFor_2 rfl (lv_at hl 2 rfl) ?_
      refine lv_iload_n hx hb dX5_goesFor_3 rfl (lv_at hl 1 rfl) ?_
      refine nn_ge (a := k) (b := n) (by omega) (by omega) (tgt := 17) hx hb dX5_goesFor_4 (by decide) (fun c_1 => ?_) (fun c_1 => ?_)
      · skip
        exact hd_vret hx hb hr hlocks hP hS (by rw [hN, show k = n by omega]) dX5_goesFor_17
      · skip
        refine lv_aload_n hx hb dX5_goesFor_7 rfl (lv_at hl 0 rfl) ?_
        refine hd_callVv (As := []) (rest := []) ⟨hx, hb, hml, hown, hts⟩ hE hP hS (c_X5_goes l G u N hWn) rfl (cwV 0 hts gX5_goesFor_X5_goes rfl rfl rfl (by decide +kernel) ⟨Nat.le_of_ble_eq_true rfl, Nat.le_of_ble_eq_true rfl⟩) (mo_recv hE hP) rfl hl.1 rfl (Nat.le_of_ble_eq_true rfl) dX5_goesFor_8 (fun vq_2 H locs q_2 hP hS => ?_)
        have hP := hP.cast (q_2)
        refine lv_iinc (v := nI (k + 1)) (lv' := [(2, .int (nI (k + 1))), (0, .ref (gad G 34)), (1, .int (nI n))]) hx hb dX5_goesFor_11 hl (k := 2) rfl (inc1 _) (by decide) rfl (fun ls hl => ?_)
        refine lv_goto (tgt := 2) hx hb dX5_goesFor_14 (by decide) ?_
        exact ih2 (k + 1) (tik N) (by omega) (by rw [hN, tik_goN]) (by omega) _ _ _ hP hS (lv_sub hl [1, 2, 0] rfl)
  exact J2 _ 0 M (Nat.zero_le _) ((goN_0 M).symm) (Nat.lt_succ_self _) _ _ _ hP hS (lv_sub hl [1, 2, 0] rfl)
set_option maxHeartbeats 4000000 in
set_option maxRecDepth 100000 in
theorem c_X5_copyAll_35_37 (l : Launch) (G : Geo) (u : Sg) (A B : Nat → Int32) (hA : u.1 11 = A) (hB : u.1 13 = B) (tA : ∀ k : Nat, 53 ≤ k → A k = 0) (tB : ∀ k : Nat, 53 ≤ k → B k = 0) : CtV l G yX5_copyAll wsX5_copyAll (rmO 0 0) [.ref (gad G 35), .ref (gad G 37)] u (fun v => v = sI u 13 A) := by
  refine CtV.of (cc := cX5_copyAll) (maxL := 3) (ret := none) (own := RX5) (by decide) rfl rfl ?_
  rintro pg ev s0 mm below meth cd ⟨hx, hb, hr, hml, hown, hts, hlocks⟩ hE hP ls hl
  have hS : va_S (gA G) s0.heap s0.heap [] := va_S.rf
  have hl : lv_has ls 3 [(0, .ref (gad G 35)), (1, .ref (gad G 37))] := hl
  refine lv_iconst (v := 0) hx hb dX5_copyAll_0 (by decide) ?_
  refine lv_istore_n (lv' := [(2, .int 0), (0, .ref (gad G 35)), (1, .ref (gad G 37))]) hx hb dX5_copyAll_1 rfl hl (by decide) rfl (fun ls hl => ?_)
  have J2 : ∀ (fu : Nat) (k : Nat) (E : Nat → Int32) (hk : k ≤ 53) (hC : E = cpN A B k) (hrk : 53 - k < fu) (H : Heap) (locs : List Loc) (ls : Array Slot), WP G (sI u 13 E) H → va_S (gA G) s0.heap H locs → lv_has ls 3 [(0, .ref (gad G 35)), (1, .ref (gad G 37)), (2, .int (nI k))] → W pg l ev (headSpec wsX5_copyAll (rmO 0 0)).room s0 mm ([.ref (gad G 35), .ref (gad G 37)] : List Value).toArray below meth cd H locs 0 0 (MQ below (va_Qv (fun v => v = sI u 13 A) (fun v t => WP G v t.heap) (gA G)) ([.ref (gad G 35), .ref (gad G 37)] : List Value).toArray s0 0 0 (gA G)) (F0 mm 2 ls []) := by
    intro fu
    induction fu with
    | zero => intro k E hk hC hrk; exact absurd hrk (Nat.not_lt_zero _)
    | succ fu ih2 =>
      intro k E hk hC hrk H locs ls hP hS hl
      refine lv_iload_n hx hb dX5_copyAll_2 rfl (lv_at hl 2 rfl) ?_
      refine lv_bipush (v := 53) hx hb dX5_copyAll_3 (by decide) ?_
      refine nn_ge (a := k) (b := 53) (by omega) (by omega) (tgt := 20) hx hb dX5_copyAll_5 (by decide) (fun c_1 => ?_) (fun c_1 => ?_)
      · skip
        exact hd_vret hx hb hr hlocks hP hS (by rw [hC, show k = 53 by omega, cpN_all tA tB]) dX5_copyAll_20
      · skip
        refine lv_aload_n hx hb dX5_copyAll_8 rfl (lv_at hl 1 rfl) ?_
        refine lv_iload_n hx hb dX5_copyAll_9 rfl (lv_at hl 2 rfl) ?_
        refine lv_aload_n hx hb dX5_copyAll_10 rfl (lv_at hl 0 rfl) ?_
        refine lv_iload_n hx hb dX5_copyAll_11 rfl (lv_at hl 2 rfl) ?_
        refine ar_ld hx hb hE hP 35 53 (by decide) (ar_at35 ((sI_ne _ _ (by decide)).trans hA)) k (by omega) dX5_copyAll_12 ?_
        refine ar_st hx hb hE hP hS 37 53 (by decide) (ar_at37 (sI_at _ _ _)) (ar_set37 _ _) k (by omega) (sI_sI _ _ _ _) dX5_copyAll_13 (fun H locs hP hS => ?_)
        refine lv_iinc (v := nI (k + 1)) (lv' := [(2, .int (nI (k + 1))), (0, .ref (gad G 35)), (1, .ref (gad G 37))]) hx hb dX5_copyAll_14 hl (k := 2) rfl (inc1 _) (by decide) rfl (fun ls hl => ?_)
        refine lv_goto (tgt := 2) hx hb dX5_copyAll_17 (by decide) ?_
        exact ih2 (k + 1) (upd E k (A k)) (by omega) (by rw [hC]; exact cpN_s A B k) (by omega) _ _ _ hP hS (lv_sub hl [1, 2, 0] rfl)
  exact J2 _ 0 B (Nat.zero_le _) ((cpN_0 A B).symm) (Nat.lt_succ_self _) _ _ _ (hP.cast ((sI_id hB).symm)) hS (lv_sub hl [1, 2, 0] rfl)
set_option maxHeartbeats 4000000 in
set_option maxRecDepth 100000 in
theorem c_X5_copyAll_37_35 (l : Launch) (G : Geo) (u : Sg) (A B : Nat → Int32) (hA : u.1 13 = A) (hB : u.1 11 = B) (tA : ∀ k : Nat, 53 ≤ k → A k = 0) (tB : ∀ k : Nat, 53 ≤ k → B k = 0) : CtV l G yX5_copyAll wsX5_copyAll (rmO 0 0) [.ref (gad G 37), .ref (gad G 35)] u (fun v => v = sI u 11 A) := by
  refine CtV.of (cc := cX5_copyAll) (maxL := 3) (ret := none) (own := RX5) (by decide) rfl rfl ?_
  rintro pg ev s0 mm below meth cd ⟨hx, hb, hr, hml, hown, hts, hlocks⟩ hE hP ls hl
  have hS : va_S (gA G) s0.heap s0.heap [] := va_S.rf
  have hl : lv_has ls 3 [(0, .ref (gad G 37)), (1, .ref (gad G 35))] := hl
  refine lv_iconst (v := 0) hx hb dX5_copyAll_0 (by decide) ?_
  refine lv_istore_n (lv' := [(2, .int 0), (0, .ref (gad G 37)), (1, .ref (gad G 35))]) hx hb dX5_copyAll_1 rfl hl (by decide) rfl (fun ls hl => ?_)
  have J2 : ∀ (fu : Nat) (k : Nat) (E : Nat → Int32) (hk : k ≤ 53) (hC : E = cpN A B k) (hrk : 53 - k < fu) (H : Heap) (locs : List Loc) (ls : Array Slot), WP G (sI u 11 E) H → va_S (gA G) s0.heap H locs → lv_has ls 3 [(0, .ref (gad G 37)), (1, .ref (gad G 35)), (2, .int (nI k))] → W pg l ev (headSpec wsX5_copyAll (rmO 0 0)).room s0 mm ([.ref (gad G 37), .ref (gad G 35)] : List Value).toArray below meth cd H locs 0 0 (MQ below (va_Qv (fun v => v = sI u 11 A) (fun v t => WP G v t.heap) (gA G)) ([.ref (gad G 37), .ref (gad G 35)] : List Value).toArray s0 0 0 (gA G)) (F0 mm 2 ls []) := by
    intro fu
    induction fu with
    | zero => intro k E hk hC hrk; exact absurd hrk (Nat.not_lt_zero _)
    | succ fu ih2 =>
      intro k E hk hC hrk H locs ls hP hS hl
      refine lv_iload_n hx hb dX5_copyAll_2 rfl (lv_at hl 2 rfl) ?_
      refine lv_bipush (v := 53) hx hb dX5_copyAll_3 (by decide) ?_
      refine nn_ge (a := k) (b := 53) (by omega) (by omega) (tgt := 20) hx hb dX5_copyAll_5 (by decide) (fun c_1 => ?_) (fun c_1 => ?_)
      · skip
        exact hd_vret hx hb hr hlocks hP hS (by rw [hC, show k = 53 by omega, cpN_all tA tB]) dX5_copyAll_20
      · skip
        refine lv_aload_n hx hb dX5_copyAll_8 rfl (lv_at hl 1 rfl) ?_
        refine lv_iload_n hx hb dX5_copyAll_9 rfl (lv_at hl 2 rfl) ?_
        refine lv_aload_n hx hb dX5_copyAll_10 rfl (lv_at hl 0 rfl) ?_
        refine lv_iload_n hx hb dX5_copyAll_11 rfl (lv_at hl 2 rfl) ?_
        refine ar_ld hx hb hE hP 37 53 (by decide) (ar_at37 ((sI_ne _ _ (by decide)).trans hA)) k (by omega) dX5_copyAll_12 ?_
        refine ar_st hx hb hE hP hS 35 53 (by decide) (ar_at35 (sI_at _ _ _)) (ar_set35 _ _) k (by omega) (sI_sI _ _ _ _) dX5_copyAll_13 (fun H locs hP hS => ?_)
        refine lv_iinc (v := nI (k + 1)) (lv' := [(2, .int (nI (k + 1))), (0, .ref (gad G 37)), (1, .ref (gad G 35))]) hx hb dX5_copyAll_14 hl (k := 2) rfl (inc1 _) (by decide) rfl (fun ls hl => ?_)
        refine lv_goto (tgt := 2) hx hb dX5_copyAll_17 (by decide) ?_
        exact ih2 (k + 1) (upd E k (A k)) (by omega) (by rw [hC]; exact cpN_s A B k) (by omega) _ _ _ hP hS (lv_sub hl [1, 2, 0] rfl)
  exact J2 _ 0 B (Nat.zero_le _) ((cpN_0 A B).symm) (Nat.lt_succ_self _) _ _ _ (hP.cast ((sI_id hB).symm)) hS (lv_sub hl [1, 2, 0] rfl)
set_option maxHeartbeats 4000000 in
set_option maxRecDepth 100000 in
theorem c_X5_copyAll_35_36 (l : Launch) (G : Geo) (u : Sg) (A B : Nat → Int32) (hA : u.1 11 = A) (hB : u.1 12 = B) (tA : ∀ k : Nat, 53 ≤ k → A k = 0) (tB : ∀ k : Nat, 53 ≤ k → B k = 0) : CtV l G yX5_copyAll wsX5_copyAll (rmO 0 0) [.ref (gad G 35), .ref (gad G 36)] u (fun v => v = sI u 12 A) := by
  refine CtV.of (cc := cX5_copyAll) (maxL := 3) (ret := none) (own := RX5) (by decide) rfl rfl ?_
  rintro pg ev s0 mm below meth cd ⟨hx, hb, hr, hml, hown, hts, hlocks⟩ hE hP ls hl
  have hS : va_S (gA G) s0.heap s0.heap [] := va_S.rf
  have hl : lv_has ls 3 [(0, .ref (gad G 35)), (1, .ref (gad G 36))] := hl
  refine lv_iconst (v := 0) hx hb dX5_copyAll_0 (by decide) ?_
  refine lv_istore_n (lv' := [(2, .int 0), (0, .ref (gad G 35)), (1, .ref (gad G 36))]) hx hb dX5_copyAll_1 rfl hl (by decide) rfl (fun ls hl => ?_)
  have J2 : ∀ (fu : Nat) (k : Nat) (E : Nat → Int32) (hk : k ≤ 53) (hC : E = cpN A B k) (hrk : 53 - k < fu) (H : Heap) (locs : List Loc) (ls : Array Slot), WP G (sI u 12 E) H → va_S (gA G) s0.heap H locs → lv_has ls 3 [(0, .ref (gad G 35)), (1, .ref (gad G 36)), (2, .int (nI k))] → W pg l ev (headSpec wsX5_copyAll (rmO 0 0)).room s0 mm ([.ref (gad G 35), .ref (gad G 36)] : List Value).toArray below meth cd H locs 0 0 (MQ below (va_Qv (fun v => v = sI u 12 A) (fun v t => WP G v t.heap) (gA G)) ([.ref (gad G 35), .ref (gad G 36)] : List Value).toArray s0 0 0 (gA G)) (F0 mm 2 ls []) := by
    intro fu
    induction fu with
    | zero => intro k E hk hC hrk; exact absurd hrk (Nat.not_lt_zero _)
    | succ fu ih2 =>
      intro k E hk hC hrk H locs ls hP hS hl
      refine lv_iload_n hx hb dX5_copyAll_2 rfl (lv_at hl 2 rfl) ?_
      refine lv_bipush (v := 53) hx hb dX5_copyAll_3 (by decide) ?_
      refine nn_ge (a := k) (b := 53) (by omega) (by omega) (tgt := 20) hx hb dX5_copyAll_5 (by decide) (fun c_1 => ?_) (fun c_1 => ?_)
      · skip
        exact hd_vret hx hb hr hlocks hP hS (by rw [hC, show k = 53 by omega, cpN_all tA tB]) dX5_copyAll_20
      · skip
        refine lv_aload_n hx hb dX5_copyAll_8 rfl (lv_at hl 1 rfl) ?_
        refine lv_iload_n hx hb dX5_copyAll_9 rfl (lv_at hl 2 rfl) ?_
        refine lv_aload_n hx hb dX5_copyAll_10 rfl (lv_at hl 0 rfl) ?_
        refine lv_iload_n hx hb dX5_copyAll_11 rfl (lv_at hl 2 rfl) ?_
        refine ar_ld hx hb hE hP 35 53 (by decide) (ar_at35 ((sI_ne _ _ (by decide)).trans hA)) k (by omega) dX5_copyAll_12 ?_
        refine ar_st hx hb hE hP hS 36 53 (by decide) (ar_at36 (sI_at _ _ _)) (ar_set36 _ _) k (by omega) (sI_sI _ _ _ _) dX5_copyAll_13 (fun H locs hP hS => ?_)
        refine lv_iinc (v := nI (k + 1)) (lv' := [(2, .int (nI (k + 1))), (0, .ref (gad G 35)), (1, .ref (gad G 36))]) hx hb dX5_copyAll_14 hl (k := 2) rfl (inc1 _) (by decide) rfl (fun ls hl => ?_)
        refine lv_goto (tgt := 2) hx hb dX5_copyAll_17 (by decide) ?_
        exact ih2 (k + 1) (upd E k (A k)) (by omega) (by rw [hC]; exact cpN_s A B k) (by omega) _ _ _ hP hS (lv_sub hl [1, 2, 0] rfl)
  exact J2 _ 0 B (Nat.zero_le _) ((cpN_0 A B).symm) (Nat.lt_succ_self _) _ _ _ (hP.cast ((sI_id hB).symm)) hS (lv_sub hl [1, 2, 0] rfl)
set_option maxHeartbeats 4000000 in
set_option maxRecDepth 100000 in
theorem c_X5_copyAll_36_35 (l : Launch) (G : Geo) (u : Sg) (A B : Nat → Int32) (hA : u.1 12 = A) (hB : u.1 11 = B) (tA : ∀ k : Nat, 53 ≤ k → A k = 0) (tB : ∀ k : Nat, 53 ≤ k → B k = 0) : CtV l G yX5_copyAll wsX5_copyAll (rmO 0 0) [.ref (gad G 36), .ref (gad G 35)] u (fun v => v = sI u 11 A) := by
  refine CtV.of (cc := cX5_copyAll) (maxL := 3) (ret := none) (own := RX5) (by decide) rfl rfl ?_
  rintro pg ev s0 mm below meth cd ⟨hx, hb, hr, hml, hown, hts, hlocks⟩ hE hP ls hl
  have hS : va_S (gA G) s0.heap s0.heap [] := va_S.rf
  have hl : lv_has ls 3 [(0, .ref (gad G 36)), (1, .ref (gad G 35))] := hl
  refine lv_iconst (v := 0) hx hb dX5_copyAll_0 (by decide) ?_
  refine lv_istore_n (lv' := [(2, .int 0), (0, .ref (gad G 36)), (1, .ref (gad G 35))]) hx hb dX5_copyAll_1 rfl hl (by decide) rfl (fun ls hl => ?_)
  have J2 : ∀ (fu : Nat) (k : Nat) (E : Nat → Int32) (hk : k ≤ 53) (hC : E = cpN A B k) (hrk : 53 - k < fu) (H : Heap) (locs : List Loc) (ls : Array Slot), WP G (sI u 11 E) H → va_S (gA G) s0.heap H locs → lv_has ls 3 [(0, .ref (gad G 36)), (1, .ref (gad G 35)), (2, .int (nI k))] → W pg l ev (headSpec wsX5_copyAll (rmO 0 0)).room s0 mm ([.ref (gad G 36), .ref (gad G 35)] : List Value).toArray below meth cd H locs 0 0 (MQ below (va_Qv (fun v => v = sI u 11 A) (fun v t => WP G v t.heap) (gA G)) ([.ref (gad G 36), .ref (gad G 35)] : List Value).toArray s0 0 0 (gA G)) (F0 mm 2 ls []) := by
    intro fu
    induction fu with
    | zero => intro k E hk hC hrk; exact absurd hrk (Nat.not_lt_zero _)
    | succ fu ih2 =>
      intro k E hk hC hrk H locs ls hP hS hl
      refine lv_iload_n hx hb dX5_copyAll_2 rfl (lv_at hl 2 rfl) ?_
      refine lv_bipush (v := 53) hx hb dX5_copyAll_3 (by decide) ?_
      refine nn_ge (a := k) (b := 53) (by omega) (by omega) (tgt := 20) hx hb dX5_copyAll_5 (by decide) (fun c_1 => ?_) (fun c_1 => ?_)
      · skip
        exact hd_vret hx hb hr hlocks hP hS (by rw [hC, show k = 53 by omega, cpN_all tA tB]) dX5_copyAll_20
      · skip
        refine lv_aload_n hx hb dX5_copyAll_8 rfl (lv_at hl 1 rfl) ?_
        refine lv_iload_n hx hb dX5_copyAll_9 rfl (lv_at hl 2 rfl) ?_
        refine lv_aload_n hx hb dX5_copyAll_10 rfl (lv_at hl 0 rfl) ?_
        refine lv_iload_n hx hb dX5_copyAll_11 rfl (lv_at hl 2 rfl) ?_
        refine ar_ld hx hb hE hP 36 53 (by decide) (ar_at36 ((sI_ne _ _ (by decide)).trans hA)) k (by omega) dX5_copyAll_12 ?_
        refine ar_st hx hb hE hP hS 35 53 (by decide) (ar_at35 (sI_at _ _ _)) (ar_set35 _ _) k (by omega) (sI_sI _ _ _ _) dX5_copyAll_13 (fun H locs hP hS => ?_)
        refine lv_iinc (v := nI (k + 1)) (lv' := [(2, .int (nI (k + 1))), (0, .ref (gad G 36)), (1, .ref (gad G 35))]) hx hb dX5_copyAll_14 hl (k := 2) rfl (inc1 _) (by decide) rfl (fun ls hl => ?_)
        refine lv_goto (tgt := 2) hx hb dX5_copyAll_17 (by decide) ?_
        exact ih2 (k + 1) (upd E k (A k)) (by omega) (by rw [hC]; exact cpN_s A B k) (by omega) _ _ _ hP hS (lv_sub hl [1, 2, 0] rfl)
  exact J2 _ 0 B (Nat.zero_le _) ((cpN_0 A B).symm) (Nat.lt_succ_self _) _ _ _ (hP.cast ((sI_id hB).symm)) hS (lv_sub hl [1, 2, 0] rfl)
set_option maxHeartbeats 4000000 in
set_option maxRecDepth 100000 in
theorem c_X5_thinks (l : Launch) (G : Geo) (u : Sg) (A B : Nat → Int32) (hA : u.1 11 = A) (hB : u.1 13 = B) (tA : ∀ k : Nat, 53 ≤ k → A k = 0) (tB : ∀ k : Nat, 53 ≤ k → B k = 0) : CtV l G yX5_thinks wsX5_thinks (rmO 1 22) [.ref (gad G 34)] u (fun v => v = sI u 13 A) := by
  refine CtV.of (cc := cX5_thinks) (maxL := 1) (ret := none) (own := RX5) (by decide) rfl rfl ?_
  rintro pg ev s0 mm below meth cd ⟨hx, hb, hr, hml, hown, hts, hlocks⟩ hE hP ls hl
  have hS : va_S (gA G) s0.heap s0.heap [] := va_S.rf
  have hl : lv_has ls 1 [(0, .ref (gad G 34))] := hl
  have hin5 : ∀ w ∈ wsX50, w ∈ wsX5_thinks := by decide +kernel
  refine lv_aload_n hx hb dX5_thinks_0 rfl (lv_at hl 0 rfl) ?_
  refine mo_get hx hb hts hin5 hown hE hP rfl 0 (by decide) (hts (.fieldLink RX5 9 "HeldDoorModel" "m" "[I") (by decide +kernel)) (v := .ref (gad G 35)) rfl dX5_thinks_1 ?_
  refine lv_aload_n hx hb dX5_thinks_4 rfl (lv_at hl 0 rfl) ?_
  refine mo_get hx hb hts hin5 hown hE hP rfl 2 (by decide) (hts (.fieldLink RX5 16 "HeldDoorModel" "was" "[I") (by decide +kernel)) (v := .ref (gad G 37)) rfl dX5_thinks_5 ?_
  refine hd_callSv (As := [.ref (gad G 35), .ref (gad G 37)]) (rest := []) ⟨hx, hb, hml, hown, hts⟩ hE hP hS (c_X5_copyAll_35_37 l G u A B hA hB tA tB) rfl (va_cwS 2 hts gX5_thinks_X5_copyAll rfl rfl rfl (by decide +kernel) ⟨Nat.le_of_ble_eq_true rfl, Nat.le_of_ble_eq_true rfl⟩) rfl hl.1 rfl (Nat.le_of_ble_eq_true rfl) dX5_thinks_8 (fun vq_1 H locs q_1 hP hS => ?_)
  have hP := hP.cast (q_1)
  exact hd_vret hx hb hr hlocks hP hS rfl dX5_thinks_11
set_option maxHeartbeats 4000000 in
set_option maxRecDepth 100000 in
theorem c_X5_putsBack (l : Launch) (G : Geo) (u : Sg) (A B : Nat → Int32) (hA : u.1 13 = A) (hB : u.1 11 = B) (tA : ∀ k : Nat, 53 ≤ k → A k = 0) (tB : ∀ k : Nat, 53 ≤ k → B k = 0) : CtV l G yX5_putsBack wsX5_putsBack (rmO 1 22) [.ref (gad G 34)] u (fun v => v = sI u 11 A) := by
  refine CtV.of (cc := cX5_putsBack) (maxL := 1) (ret := none) (own := RX5) (by decide) rfl rfl ?_
  rintro pg ev s0 mm below meth cd ⟨hx, hb, hr, hml, hown, hts, hlocks⟩ hE hP ls hl
  have hS : va_S (gA G) s0.heap s0.heap [] := va_S.rf
  have hl : lv_has ls 1 [(0, .ref (gad G 34))] := hl
  have hin5 : ∀ w ∈ wsX50, w ∈ wsX5_putsBack := by decide +kernel
  refine lv_aload_n hx hb dX5_putsBack_0 rfl (lv_at hl 0 rfl) ?_
  refine mo_get hx hb hts hin5 hown hE hP rfl 2 (by decide) (hts (.fieldLink RX5 16 "HeldDoorModel" "was" "[I") (by decide +kernel)) (v := .ref (gad G 37)) rfl dX5_putsBack_1 ?_
  refine lv_aload_n hx hb dX5_putsBack_4 rfl (lv_at hl 0 rfl) ?_
  refine mo_get hx hb hts hin5 hown hE hP rfl 0 (by decide) (hts (.fieldLink RX5 9 "HeldDoorModel" "m" "[I") (by decide +kernel)) (v := .ref (gad G 35)) rfl dX5_putsBack_5 ?_
  refine hd_callSv (As := [.ref (gad G 37), .ref (gad G 35)]) (rest := []) ⟨hx, hb, hml, hown, hts⟩ hE hP hS (c_X5_copyAll_37_35 l G u A B hA hB tA tB) rfl (va_cwS 2 hts gX5_putsBack_X5_copyAll rfl rfl rfl (by decide +kernel) ⟨Nat.le_of_ble_eq_true rfl, Nat.le_of_ble_eq_true rfl⟩) rfl hl.1 rfl (Nat.le_of_ble_eq_true rfl) dX5_putsBack_8 (fun vq_1 H locs q_1 hP hS => ?_)
  have hP := hP.cast (q_1)
  exact hd_vret hx hb hr hlocks hP hS rfl dX5_putsBack_11
set_option maxHeartbeats 4000000 in
set_option maxRecDepth 100000 in
theorem c_X5_finds_0 (l : Launch) (G : Geo) (u : Sg) (F : Nat → Int32) (h15 : u.1 15 = F) : CtI l G yX5_finds wsX5_finds (rmO 0 0) [.ref (gad G 34), .int (-1000000001)] u (fun r v => r = -1000000001 ∧ v = sI u 15 (bmp F 0)) := by
  refine CtI.of (cc := cX5_finds) (maxL := 2) (ret := (some .int)) (own := RX5) (by decide) rfl rfl ?_
  rintro pg ev s0 mm below meth cd ⟨hx, hb, hr, hml, hown, hts, hlocks⟩ hE hP ls hl
  have hS : va_S (gA G) s0.heap s0.heap [] := va_S.rf
  have hl : lv_has ls 2 [(0, .ref (gad G 34)), (1, .int (-1000000001))] := hl
  have hin5 : ∀ w ∈ wsX50, w ∈ wsX5_finds := by decide +kernel
  refine lv_aload_n hx hb dX5_finds_0 rfl (lv_at hl 0 rfl) ?_
  refine mo_get hx hb hts hin5 hown hE hP rfl 4 (by decide) (hts (.fieldLink RX5 19 "HeldDoorModel" "found" "[I") (by decide +kernel)) (v := .ref (gad G 38)) rfl dX5_finds_1 ?_
  refine lv_ldc (v := (-1000000001)) hx hb hown (hts (.constant RX5 35 ((-1000000001))) (by decide +kernel)) dX5_finds_4 ?_
  refine lv_iload_n hx hb dX5_finds_6 rfl (lv_at hl 1 rfl) ?_
  refine lv_isub hx hb dX5_finds_7 ?_
  refine lv_cast (y := 0) (by decide) ?_
  refine lv_dup2_11 hx hb dX5_finds_8 rfl rfl ?_
  refine ar_ld hx hb hE hP 38 7 (by decide) (ar_at38 h15) 0 (by omega) dX5_finds_9 ?_
  refine lv_iconst (v := 1) hx hb dX5_finds_10 (by decide) ?_
  refine lv_iadd hx hb dX5_finds_11 ?_
  refine ar_st hx hb hE hP hS 38 7 (by decide) (ar_at38 h15) (ar_set38 _ _) 0 (by omega) rfl dX5_finds_12 (fun H locs hP hS => ?_)
  refine lv_iload_n hx hb dX5_finds_13 rfl (lv_at hl 1 rfl) ?_
  exact hd_iret hx hb hr hlocks hP hS ⟨rfl, rfl⟩ dX5_finds_14
set_option maxHeartbeats 4000000 in
set_option maxRecDepth 100000 in
theorem c_X5_finds_1 (l : Launch) (G : Geo) (u : Sg) (F : Nat → Int32) (h15 : u.1 15 = F) : CtI l G yX5_finds wsX5_finds (rmO 0 0) [.ref (gad G 34), .int (-1000000002)] u (fun r v => r = -1000000002 ∧ v = sI u 15 (bmp F 1)) := by
  refine CtI.of (cc := cX5_finds) (maxL := 2) (ret := (some .int)) (own := RX5) (by decide) rfl rfl ?_
  rintro pg ev s0 mm below meth cd ⟨hx, hb, hr, hml, hown, hts, hlocks⟩ hE hP ls hl
  have hS : va_S (gA G) s0.heap s0.heap [] := va_S.rf
  have hl : lv_has ls 2 [(0, .ref (gad G 34)), (1, .int (-1000000002))] := hl
  have hin5 : ∀ w ∈ wsX50, w ∈ wsX5_finds := by decide +kernel
  refine lv_aload_n hx hb dX5_finds_0 rfl (lv_at hl 0 rfl) ?_
  refine mo_get hx hb hts hin5 hown hE hP rfl 4 (by decide) (hts (.fieldLink RX5 19 "HeldDoorModel" "found" "[I") (by decide +kernel)) (v := .ref (gad G 38)) rfl dX5_finds_1 ?_
  refine lv_ldc (v := (-1000000001)) hx hb hown (hts (.constant RX5 35 ((-1000000001))) (by decide +kernel)) dX5_finds_4 ?_
  refine lv_iload_n hx hb dX5_finds_6 rfl (lv_at hl 1 rfl) ?_
  refine lv_isub hx hb dX5_finds_7 ?_
  refine lv_cast (y := 1) (by decide) ?_
  refine lv_dup2_11 hx hb dX5_finds_8 rfl rfl ?_
  refine ar_ld hx hb hE hP 38 7 (by decide) (ar_at38 h15) 1 (by omega) dX5_finds_9 ?_
  refine lv_iconst (v := 1) hx hb dX5_finds_10 (by decide) ?_
  refine lv_iadd hx hb dX5_finds_11 ?_
  refine ar_st hx hb hE hP hS 38 7 (by decide) (ar_at38 h15) (ar_set38 _ _) 1 (by omega) rfl dX5_finds_12 (fun H locs hP hS => ?_)
  refine lv_iload_n hx hb dX5_finds_13 rfl (lv_at hl 1 rfl) ?_
  exact hd_iret hx hb hr hlocks hP hS ⟨rfl, rfl⟩ dX5_finds_14
set_option maxHeartbeats 4000000 in
set_option maxRecDepth 100000 in
theorem c_X5_finds_2 (l : Launch) (G : Geo) (u : Sg) (F : Nat → Int32) (h15 : u.1 15 = F) : CtI l G yX5_finds wsX5_finds (rmO 0 0) [.ref (gad G 34), .int (-1000000003)] u (fun r v => r = -1000000003 ∧ v = sI u 15 (bmp F 2)) := by
  refine CtI.of (cc := cX5_finds) (maxL := 2) (ret := (some .int)) (own := RX5) (by decide) rfl rfl ?_
  rintro pg ev s0 mm below meth cd ⟨hx, hb, hr, hml, hown, hts, hlocks⟩ hE hP ls hl
  have hS : va_S (gA G) s0.heap s0.heap [] := va_S.rf
  have hl : lv_has ls 2 [(0, .ref (gad G 34)), (1, .int (-1000000003))] := hl
  have hin5 : ∀ w ∈ wsX50, w ∈ wsX5_finds := by decide +kernel
  refine lv_aload_n hx hb dX5_finds_0 rfl (lv_at hl 0 rfl) ?_
  refine mo_get hx hb hts hin5 hown hE hP rfl 4 (by decide) (hts (.fieldLink RX5 19 "HeldDoorModel" "found" "[I") (by decide +kernel)) (v := .ref (gad G 38)) rfl dX5_finds_1 ?_
  refine lv_ldc (v := (-1000000001)) hx hb hown (hts (.constant RX5 35 ((-1000000001))) (by decide +kernel)) dX5_finds_4 ?_
  refine lv_iload_n hx hb dX5_finds_6 rfl (lv_at hl 1 rfl) ?_
  refine lv_isub hx hb dX5_finds_7 ?_
  refine lv_cast (y := 2) (by decide) ?_
  refine lv_dup2_11 hx hb dX5_finds_8 rfl rfl ?_
  refine ar_ld hx hb hE hP 38 7 (by decide) (ar_at38 h15) 2 (by omega) dX5_finds_9 ?_
  refine lv_iconst (v := 1) hx hb dX5_finds_10 (by decide) ?_
  refine lv_iadd hx hb dX5_finds_11 ?_
  refine ar_st hx hb hE hP hS 38 7 (by decide) (ar_at38 h15) (ar_set38 _ _) 2 (by omega) rfl dX5_finds_12 (fun H locs hP hS => ?_)
  refine lv_iload_n hx hb dX5_finds_13 rfl (lv_at hl 1 rfl) ?_
  exact hd_iret hx hb hr hlocks hP hS ⟨rfl, rfl⟩ dX5_finds_14
set_option maxHeartbeats 4000000 in
set_option maxRecDepth 100000 in
theorem c_X5_finds_3 (l : Launch) (G : Geo) (u : Sg) (F : Nat → Int32) (h15 : u.1 15 = F) : CtI l G yX5_finds wsX5_finds (rmO 0 0) [.ref (gad G 34), .int (-1000000004)] u (fun r v => r = -1000000004 ∧ v = sI u 15 (bmp F 3)) := by
  refine CtI.of (cc := cX5_finds) (maxL := 2) (ret := (some .int)) (own := RX5) (by decide) rfl rfl ?_
  rintro pg ev s0 mm below meth cd ⟨hx, hb, hr, hml, hown, hts, hlocks⟩ hE hP ls hl
  have hS : va_S (gA G) s0.heap s0.heap [] := va_S.rf
  have hl : lv_has ls 2 [(0, .ref (gad G 34)), (1, .int (-1000000004))] := hl
  have hin5 : ∀ w ∈ wsX50, w ∈ wsX5_finds := by decide +kernel
  refine lv_aload_n hx hb dX5_finds_0 rfl (lv_at hl 0 rfl) ?_
  refine mo_get hx hb hts hin5 hown hE hP rfl 4 (by decide) (hts (.fieldLink RX5 19 "HeldDoorModel" "found" "[I") (by decide +kernel)) (v := .ref (gad G 38)) rfl dX5_finds_1 ?_
  refine lv_ldc (v := (-1000000001)) hx hb hown (hts (.constant RX5 35 ((-1000000001))) (by decide +kernel)) dX5_finds_4 ?_
  refine lv_iload_n hx hb dX5_finds_6 rfl (lv_at hl 1 rfl) ?_
  refine lv_isub hx hb dX5_finds_7 ?_
  refine lv_cast (y := 3) (by decide) ?_
  refine lv_dup2_11 hx hb dX5_finds_8 rfl rfl ?_
  refine ar_ld hx hb hE hP 38 7 (by decide) (ar_at38 h15) 3 (by omega) dX5_finds_9 ?_
  refine lv_iconst (v := 1) hx hb dX5_finds_10 (by decide) ?_
  refine lv_iadd hx hb dX5_finds_11 ?_
  refine ar_st hx hb hE hP hS 38 7 (by decide) (ar_at38 h15) (ar_set38 _ _) 3 (by omega) rfl dX5_finds_12 (fun H locs hP hS => ?_)
  refine lv_iload_n hx hb dX5_finds_13 rfl (lv_at hl 1 rfl) ?_
  exact hd_iret hx hb hr hlocks hP hS ⟨rfl, rfl⟩ dX5_finds_14
set_option maxHeartbeats 4000000 in
set_option maxRecDepth 100000 in
theorem c_X5_finds_4 (l : Launch) (G : Geo) (u : Sg) (F : Nat → Int32) (h15 : u.1 15 = F) : CtI l G yX5_finds wsX5_finds (rmO 0 0) [.ref (gad G 34), .int (-1000000005)] u (fun r v => r = -1000000005 ∧ v = sI u 15 (bmp F 4)) := by
  refine CtI.of (cc := cX5_finds) (maxL := 2) (ret := (some .int)) (own := RX5) (by decide) rfl rfl ?_
  rintro pg ev s0 mm below meth cd ⟨hx, hb, hr, hml, hown, hts, hlocks⟩ hE hP ls hl
  have hS : va_S (gA G) s0.heap s0.heap [] := va_S.rf
  have hl : lv_has ls 2 [(0, .ref (gad G 34)), (1, .int (-1000000005))] := hl
  have hin5 : ∀ w ∈ wsX50, w ∈ wsX5_finds := by decide +kernel
  refine lv_aload_n hx hb dX5_finds_0 rfl (lv_at hl 0 rfl) ?_
  refine mo_get hx hb hts hin5 hown hE hP rfl 4 (by decide) (hts (.fieldLink RX5 19 "HeldDoorModel" "found" "[I") (by decide +kernel)) (v := .ref (gad G 38)) rfl dX5_finds_1 ?_
  refine lv_ldc (v := (-1000000001)) hx hb hown (hts (.constant RX5 35 ((-1000000001))) (by decide +kernel)) dX5_finds_4 ?_
  refine lv_iload_n hx hb dX5_finds_6 rfl (lv_at hl 1 rfl) ?_
  refine lv_isub hx hb dX5_finds_7 ?_
  refine lv_cast (y := 4) (by decide) ?_
  refine lv_dup2_11 hx hb dX5_finds_8 rfl rfl ?_
  refine ar_ld hx hb hE hP 38 7 (by decide) (ar_at38 h15) 4 (by omega) dX5_finds_9 ?_
  refine lv_iconst (v := 1) hx hb dX5_finds_10 (by decide) ?_
  refine lv_iadd hx hb dX5_finds_11 ?_
  refine ar_st hx hb hE hP hS 38 7 (by decide) (ar_at38 h15) (ar_set38 _ _) 4 (by omega) rfl dX5_finds_12 (fun H locs hP hS => ?_)
  refine lv_iload_n hx hb dX5_finds_13 rfl (lv_at hl 1 rfl) ?_
  exact hd_iret hx hb hr hlocks hP hS ⟨rfl, rfl⟩ dX5_finds_14
set_option maxHeartbeats 4000000 in
set_option maxRecDepth 100000 in
theorem c_X5_finds_5 (l : Launch) (G : Geo) (u : Sg) (F : Nat → Int32) (h15 : u.1 15 = F) : CtI l G yX5_finds wsX5_finds (rmO 0 0) [.ref (gad G 34), .int (-1000000006)] u (fun r v => r = -1000000006 ∧ v = sI u 15 (bmp F 5)) := by
  refine CtI.of (cc := cX5_finds) (maxL := 2) (ret := (some .int)) (own := RX5) (by decide) rfl rfl ?_
  rintro pg ev s0 mm below meth cd ⟨hx, hb, hr, hml, hown, hts, hlocks⟩ hE hP ls hl
  have hS : va_S (gA G) s0.heap s0.heap [] := va_S.rf
  have hl : lv_has ls 2 [(0, .ref (gad G 34)), (1, .int (-1000000006))] := hl
  have hin5 : ∀ w ∈ wsX50, w ∈ wsX5_finds := by decide +kernel
  refine lv_aload_n hx hb dX5_finds_0 rfl (lv_at hl 0 rfl) ?_
  refine mo_get hx hb hts hin5 hown hE hP rfl 4 (by decide) (hts (.fieldLink RX5 19 "HeldDoorModel" "found" "[I") (by decide +kernel)) (v := .ref (gad G 38)) rfl dX5_finds_1 ?_
  refine lv_ldc (v := (-1000000001)) hx hb hown (hts (.constant RX5 35 ((-1000000001))) (by decide +kernel)) dX5_finds_4 ?_
  refine lv_iload_n hx hb dX5_finds_6 rfl (lv_at hl 1 rfl) ?_
  refine lv_isub hx hb dX5_finds_7 ?_
  refine lv_cast (y := 5) (by decide) ?_
  refine lv_dup2_11 hx hb dX5_finds_8 rfl rfl ?_
  refine ar_ld hx hb hE hP 38 7 (by decide) (ar_at38 h15) 5 (by omega) dX5_finds_9 ?_
  refine lv_iconst (v := 1) hx hb dX5_finds_10 (by decide) ?_
  refine lv_iadd hx hb dX5_finds_11 ?_
  refine ar_st hx hb hE hP hS 38 7 (by decide) (ar_at38 h15) (ar_set38 _ _) 5 (by omega) rfl dX5_finds_12 (fun H locs hP hS => ?_)
  refine lv_iload_n hx hb dX5_finds_13 rfl (lv_at hl 1 rfl) ?_
  exact hd_iret hx hb hr hlocks hP hS ⟨rfl, rfl⟩ dX5_finds_14
set_option maxHeartbeats 4000000 in
set_option maxRecDepth 100000 in
theorem c_X5_finds_6 (l : Launch) (G : Geo) (u : Sg) (F : Nat → Int32) (h15 : u.1 15 = F) : CtI l G yX5_finds wsX5_finds (rmO 0 0) [.ref (gad G 34), .int (-1000000007)] u (fun r v => r = -1000000007 ∧ v = sI u 15 (bmp F 6)) := by
  refine CtI.of (cc := cX5_finds) (maxL := 2) (ret := (some .int)) (own := RX5) (by decide) rfl rfl ?_
  rintro pg ev s0 mm below meth cd ⟨hx, hb, hr, hml, hown, hts, hlocks⟩ hE hP ls hl
  have hS : va_S (gA G) s0.heap s0.heap [] := va_S.rf
  have hl : lv_has ls 2 [(0, .ref (gad G 34)), (1, .int (-1000000007))] := hl
  have hin5 : ∀ w ∈ wsX50, w ∈ wsX5_finds := by decide +kernel
  refine lv_aload_n hx hb dX5_finds_0 rfl (lv_at hl 0 rfl) ?_
  refine mo_get hx hb hts hin5 hown hE hP rfl 4 (by decide) (hts (.fieldLink RX5 19 "HeldDoorModel" "found" "[I") (by decide +kernel)) (v := .ref (gad G 38)) rfl dX5_finds_1 ?_
  refine lv_ldc (v := (-1000000001)) hx hb hown (hts (.constant RX5 35 ((-1000000001))) (by decide +kernel)) dX5_finds_4 ?_
  refine lv_iload_n hx hb dX5_finds_6 rfl (lv_at hl 1 rfl) ?_
  refine lv_isub hx hb dX5_finds_7 ?_
  refine lv_cast (y := 6) (by decide) ?_
  refine lv_dup2_11 hx hb dX5_finds_8 rfl rfl ?_
  refine ar_ld hx hb hE hP 38 7 (by decide) (ar_at38 h15) 6 (by omega) dX5_finds_9 ?_
  refine lv_iconst (v := 1) hx hb dX5_finds_10 (by decide) ?_
  refine lv_iadd hx hb dX5_finds_11 ?_
  refine ar_st hx hb hE hP hS 38 7 (by decide) (ar_at38 h15) (ar_set38 _ _) 6 (by omega) rfl dX5_finds_12 (fun H locs hP hS => ?_)
  refine lv_iload_n hx hb dX5_finds_13 rfl (lv_at hl 1 rfl) ?_
  exact hd_iret hx hb hr hlocks hP hS ⟨rfl, rfl⟩ dX5_finds_14
set_option maxHeartbeats 4000000 in
set_option maxRecDepth 100000 in
theorem c_X5_orNone_n (l : Launch) (G : Geo) (u : Sg) (F : Nat → Int32) (h15 : u.1 15 = F) (a : Int32) (ha : a < 0) : CtI l G yX5_orNone wsX5_orNone (rmO 1 21) [.ref (gad G 34), .int a] u (fun r v => r = -1000000004 ∧ v = sI u 15 (bmp F 3)) := by
  refine CtI.of (cc := cX5_orNone) (maxL := 2) (ret := (some .int)) (own := RX5) (by decide) rfl rfl ?_
  rintro pg ev s0 mm below meth cd ⟨hx, hb, hr, hml, hown, hts, hlocks⟩ hE hP ls hl
  have hS : va_S (gA G) s0.heap s0.heap [] := va_S.rf
  have hl : lv_has ls 2 [(0, .ref (gad G 34)), (1, .int a)] := hl
  refine lv_iload_n hx hb dX5_orNone_0 rfl (lv_at hl 1 rfl) ?_
  refine lv_if_ge (tgt := 13) hx hb dX5_orNone_1 (by decide) (fun c_1 => absurd c_1 (Int32.not_le.mpr ha)) (fun c_1 => ?_)
  refine lv_aload_n hx hb dX5_orNone_4 rfl (lv_at hl 0 rfl) ?_
  refine lv_ldc (v := (-1000000004)) hx hb hown (hts (.constant RX5 36 ((-1000000004))) (by decide +kernel)) dX5_orNone_5 ?_
  refine hd_callVi (As := [.int (-1000000004)]) (rest := []) ⟨hx, hb, hml, hown, hts⟩ hE hP hS (c_X5_finds_3 l G u F h15) rfl (cwV 1 hts gX5_orNone_X5_finds rfl rfl rfl (by decide +kernel) ⟨Nat.le_of_ble_eq_true rfl, Nat.le_of_ble_eq_true rfl⟩) (mo_recv hE hP) rfl hl.1 rfl (Nat.le_of_ble_eq_true rfl) dX5_orNone_7 (fun rq_2 vq_2 H locs q_2 hP hS => ?_)
  have hP := hP.cast (q_2.2)
  refine lv_cast q_2.1 ?_
  refine lv_goto (tgt := 14) hx hb dX5_orNone_10 (by decide) ?_
  exact hd_iret hx hb hr hlocks hP hS ⟨rfl, rfl⟩ dX5_orNone_14
set_option maxHeartbeats 4000000 in
set_option maxRecDepth 100000 in
theorem c_X5_orNone_s (l : Launch) (G : Geo) (u : Sg) (F : Nat → Int32) (h15 : u.1 15 = F) (a : Int32) (ha : ¬ a < 0) : CtI l G yX5_orNone wsX5_orNone (rmO 1 21) [.ref (gad G 34), .int a] u (fun r v => r = a ∧ v = u) := by
  refine CtI.of (cc := cX5_orNone) (maxL := 2) (ret := (some .int)) (own := RX5) (by decide) rfl rfl ?_
  rintro pg ev s0 mm below meth cd ⟨hx, hb, hr, hml, hown, hts, hlocks⟩ hE hP ls hl
  have hS : va_S (gA G) s0.heap s0.heap [] := va_S.rf
  have hl : lv_has ls 2 [(0, .ref (gad G 34)), (1, .int a)] := hl
  refine lv_iload_n hx hb dX5_orNone_0 rfl (lv_at hl 1 rfl) ?_
  refine lv_if_ge (tgt := 13) hx hb dX5_orNone_1 (by decide) (fun c_1 => ?_) (fun c_1 => absurd (Int32.not_lt.mp ha) c_1)
  refine lv_iload_n hx hb dX5_orNone_13 rfl (lv_at hl 1 rfl) ?_
  exact hd_iret hx hb hr hlocks hP hS ⟨rfl, rfl⟩ dX5_orNone_14
theorem c_X5_orNone (l : Launch) (G : Geo) (u : Sg) (F : Nat → Int32) (h15 : u.1 15 = F) (a : Int32) : CtI l G yX5_orNone wsX5_orNone (rmO 1 21) [.ref (gad G 34), .int a] u (fun r v => r = (orN a F F).1 ∧ v = sI u 15 (orN a F F).2.2) := by
  by_cases ha : a < 0
  · have h := c_X5_orNone_n l G u F h15 a ha
    simpa only [orN, if_pos ha, none3] using h
  · have h := c_X5_orNone_s l G u F h15 a ha
    rw [show (fun (r : Int32) (v : Sg) => r = (orN a F F).1 ∧ v = sI u 15 (orN a F F).2.2) = (fun r v => r = a ∧ v = u) from by simp only [orN, if_neg ha, sI_id h15]]
    exact h
set_option maxHeartbeats 4000000 in
set_option maxRecDepth 100000 in
theorem c_X5_becomes (l : Launch) (G : Geo) (u : Sg) (M : Nat → Int32) (k : Nat) (hk : k < 53) (x : Int32) : CtI l G yX5_becomes wsX5_becomes (rmO 0 0) [.ref (gad G 34), .int (nI k), .int x] (sI u 11 M) (fun r v => r = M k ∧ v = sI u 11 (upd M k x)) := by
  refine CtI.of (cc := cX5_becomes) (maxL := 4) (ret := (some .int)) (own := RX5) (by decide) rfl rfl ?_
  rintro pg ev s0 mm below meth cd ⟨hx, hb, hr, hml, hown, hts, hlocks⟩ hE hP ls hl
  have hS : va_S (gA G) s0.heap s0.heap [] := va_S.rf
  have hl : lv_has ls 4 [(0, .ref (gad G 34)), (1, .int (nI k)), (2, .int x)] := hl
  have hin5 : ∀ w ∈ wsX50, w ∈ wsX5_becomes := by decide +kernel
  refine lv_aload_n hx hb dX5_becomes_0 rfl (lv_at hl 0 rfl) ?_
  refine mo_get hx hb hts hin5 hown hE hP ((sI_ne _ _ (by decide)).trans rfl) 0 (by decide) (hts (.fieldLink RX5 9 "HeldDoorModel" "m" "[I") (by decide +kernel)) (v := .ref (gad G 35)) rfl dX5_becomes_1 ?_
  refine lv_iload_n hx hb dX5_becomes_4 rfl (lv_at hl 1 rfl) ?_
  refine ar_ld hx hb hE hP 35 53 (by decide) (ar_at35 (sI_at _ _ _)) k (by omega) dX5_becomes_5 ?_
  refine lv_istore_n (lv' := [(3, .int (M k)), (0, .ref (gad G 34)), (1, .int (nI k)), (2, .int x)]) hx hb dX5_becomes_6 rfl hl (by decide) rfl (fun ls hl => ?_)
  refine lv_aload_n hx hb dX5_becomes_7 rfl (lv_at hl 1 rfl) ?_
  refine mo_get hx hb hts hin5 hown hE hP ((sI_ne _ _ (by decide)).trans rfl) 0 (by decide) (hts (.fieldLink RX5 9 "HeldDoorModel" "m" "[I") (by decide +kernel)) (v := .ref (gad G 35)) rfl dX5_becomes_8 ?_
  refine lv_iload_n hx hb dX5_becomes_11 rfl (lv_at hl 2 rfl) ?_
  refine lv_iload_n hx hb dX5_becomes_12 rfl (lv_at hl 3 rfl) ?_
  refine ar_st hx hb hE hP hS 35 53 (by decide) (ar_at35 (sI_at _ _ _)) (ar_set35 _ _) k (by omega) (sI_sI _ _ _ _) dX5_becomes_13 (fun H locs hP hS => ?_)
  refine lv_iload_n hx hb dX5_becomes_14 rfl (lv_at hl 0 rfl) ?_
  exact hd_iret hx hb hr hlocks hP hS ⟨(by first | rfl | (simp only [↓reduceIte]; done) | (simp only [↓reduceIte] <;> rfl) | (simp []; done)), rfl⟩ dX5_becomes_15
set_option maxHeartbeats 4000000 in
set_option maxRecDepth 100000 in
theorem c_X5_isPerson (l : Launch) (G : Geo) (u : Sg) (M : Nat → Int32) (h11 : u.1 11 = M) (x : Int32) : CtI l G yX5_isPerson wsX5_isPerson (rmO 1 23) [.ref (gad G 34), .int x] u (fun r v => r = bI (isPe M x) ∧ v = u) := by
  refine CtI.of (cc := cX5_isPerson) (maxL := 2) (ret := (some .boolean)) (own := RX5) (by decide) rfl rfl ?_
  rintro pg ev s0 mm below meth cd ⟨hx, hb, hr, hml, hown, hts, hlocks⟩ hE hP ls hl
  have hS : va_S (gA G) s0.heap s0.heap [] := va_S.rf
  have hl : lv_has ls 2 [(0, .ref (gad G 34)), (1, .int x)] := hl
  have hin5 : ∀ w ∈ wsX50, w ∈ wsX5_isPerson := by decide +kernel
  refine lv_iload_n hx hb dX5_isPerson_0 rfl (lv_at hl 1 rfl) ?_
  refine lv_i2l hx hb dX5_isPerson_1 rfl ?_
  refine lv_iconst (v := 0) hx hb dX5_isPerson_2 (by decide) ?_
  refine lv_aload_n hx hb dX5_isPerson_3 rfl (lv_at hl 0 rfl) ?_
  refine mo_get hx hb hts hin5 hown hE hP rfl 0 (by decide) (hts (.fieldLink RX5 9 "HeldDoorModel" "m" "[I") (by decide +kernel)) (v := .ref (gad G 35)) rfl dX5_isPerson_4 ?_
  refine lv_iconst (v := 4) hx hb dX5_isPerson_7 (by decide) ?_
  refine ar_ld hx hb hE hP 35 53 (by decide) (ar_at35 h11) 4 (by omega) dX5_isPerson_8 ?_
  refine lv_iconst (v := 1) hx hb dX5_isPerson_9 (by decide) ?_
  refine lv_isub hx hb dX5_isPerson_10 ?_
  refine hd_callSi (As := [.long x.toInt64, .int 0, .int ((M 4) - 1)]) (rest := []) ⟨hx, hb, hml, hown, hts⟩ hE hP hS (c_X5_inI l G u x 0 ((M 4) - 1)) rfl (va_cwS 3 hts gX5_isPerson_X5_in rfl rfl rfl (by decide +kernel) ⟨Nat.le_of_ble_eq_true rfl, Nat.le_of_ble_eq_true rfl⟩) rfl hl.1 rfl (Nat.le_of_ble_eq_true rfl) dX5_isPerson_11 (fun rq_1 vq_1 H locs q_1 hP hS => ?_)
  have hP := hP.cast (q_1.2)
  refine lv_cast q_1.1 ?_
  exact hd_zret hx hb hr hlocks hP hS ⟨(by first | rfl | (simp only [isPe, ↓reduceIte]; done) | (simp only [isPe, ↓reduceIte] <;> rfl) | (simp [isPe]; done)), rfl⟩ bI_n dX5_isPerson_14
set_option maxHeartbeats 4000000 in
set_option maxRecDepth 100000 in
theorem c_X5_areTwo (l : Launch) (G : Geo) (u : Sg) (M : Nat → Int32) (h11 : u.1 11 = M) (x y : Int32) : CtI l G yX5_areTwo wsX5_areTwo (rmO 2 44) [.ref (gad G 34), .int x, .int y] u (fun r v => r = bI (prB M x y) ∧ v = u) := by
  refine CtI.of (cc := cX5_areTwo) (maxL := 3) (ret := (some .boolean)) (own := RX5) (by decide) rfl rfl ?_
  rintro pg ev s0 mm below meth cd ⟨hx, hb, hr, hml, hown, hts, hlocks⟩ hE hP ls hl
  have hS : va_S (gA G) s0.heap s0.heap [] := va_S.rf
  have hl : lv_has ls 3 [(0, .ref (gad G 34)), (1, .int x), (2, .int y)] := hl
  refine lv_aload_n hx hb dX5_areTwo_0 rfl (lv_at hl 0 rfl) ?_
  refine lv_iload_n hx hb dX5_areTwo_1 rfl (lv_at hl 1 rfl) ?_
  refine hd_callVi (As := [.int x]) (rest := []) ⟨hx, hb, hml, hown, hts⟩ hE hP hS (c_X5_isPerson l G u M h11 x) rfl (cwV 1 hts gX5_areTwo_X5_isPerson rfl rfl rfl (by decide +kernel) ⟨Nat.le_of_ble_eq_true rfl, Nat.le_of_ble_eq_true rfl⟩) (mo_recv hE hP) rfl hl.1 rfl (Nat.le_of_ble_eq_true rfl) dX5_areTwo_2 (fun rq_1 vq_1 H locs q_1 hP hS => ?_)
  have hP := hP.cast (q_1.2)
  refine lv_cast q_1.1 ?_
  refine bo_eq (tgt := 25) hx hb dX5_areTwo_5 (by decide) (fun c_2 => ?_) (fun c_2 => ?_)
  · skip
    refine lv_iconst (v := 0) hx hb dX5_areTwo_25 (by decide) ?_
    exact hd_zret hx hb hr hlocks hP hS ⟨(by first | rfl | (simp only [prB, bI, c_2, ↓reduceIte]; done) | (simp only [prB, bI, c_2, ↓reduceIte] <;> rfl) | (simp [prB, bI, c_2]; done)), rfl⟩ rfl dX5_areTwo_26
  · skip
    refine lv_aload_n hx hb dX5_areTwo_8 rfl (lv_at hl 0 rfl) ?_
    refine lv_iload_n hx hb dX5_areTwo_9 rfl (lv_at hl 2 rfl) ?_
    refine hd_callVi (As := [.int y]) (rest := []) ⟨hx, hb, hml, hown, hts⟩ hE hP hS (c_X5_isPerson l G u M h11 y) rfl (cwV 1 hts gX5_areTwo_X5_isPerson rfl rfl rfl (by decide +kernel) ⟨Nat.le_of_ble_eq_true rfl, Nat.le_of_ble_eq_true rfl⟩) (mo_recv hE hP) rfl hl.1 rfl (Nat.le_of_ble_eq_true rfl) dX5_areTwo_10 (fun rq_3 vq_3 H locs q_3 hP hS => ?_)
    have hP := hP.cast (q_3.2)
    refine lv_cast q_3.1 ?_
    refine bo_eq (tgt := 25) hx hb dX5_areTwo_13 (by decide) (fun c_4 => ?_) (fun c_4 => ?_)
    · skip
      refine lv_iconst (v := 0) hx hb dX5_areTwo_25 (by decide) ?_
      exact hd_zret hx hb hr hlocks hP hS ⟨(by first | rfl | (simp only [prB, bI, c_2, c_4, ↓reduceIte]; done) | (simp only [prB, bI, c_2, c_4, ↓reduceIte] <;> rfl) | (simp [prB, bI, c_2, c_4]; done)), rfl⟩ rfl dX5_areTwo_26
    · skip
      refine lv_iload_n hx hb dX5_areTwo_16 rfl (lv_at hl 1 rfl) ?_
      refine lv_iload_n hx hb dX5_areTwo_17 rfl (lv_at hl 2 rfl) ?_
      refine lv_icmp_eq (tgt := 25) hx hb dX5_areTwo_18 (by decide) (fun c_5 => ?_) (fun c_5 => ?_)
      · skip
        refine lv_iconst (v := 0) hx hb dX5_areTwo_25 (by decide) ?_
        exact hd_zret hx hb hr hlocks hP hS ⟨(by first | rfl | (simp only [prB, bI, c_2, c_4, c_5, ↓reduceIte]; done) | (simp only [prB, bI, c_2, c_4, c_5, ↓reduceIte] <;> rfl) | (simp [prB, bI, c_2, c_4, c_5]; done)), rfl⟩ rfl dX5_areTwo_26
      · skip
        refine lv_iconst (v := 1) hx hb dX5_areTwo_21 (by decide) ?_
        refine lv_goto (tgt := 26) hx hb dX5_areTwo_22 (by decide) ?_
        exact hd_zret hx hb hr hlocks hP hS ⟨(by first | rfl | (simp only [prB, bI, c_2, c_4, c_5, ↓reduceIte]; done) | (simp only [prB, bI, c_2, c_4, c_5, ↓reduceIte] <;> rfl) | (simp [prB, bI, c_2, c_4, c_5]; done)), rfl⟩ rfl dX5_areTwo_26
set_option maxHeartbeats 4000000 in
set_option maxRecDepth 100000 in
theorem c_X5_mostOf_1 (l : Launch) (G : Geo) (u : Sg) : CtI l G yX5_mostOf wsX5_mostOf (rmO 0 0) [.int 1] u (fun r v => r = 1 ∧ v = u) := by
  refine CtI.of (cc := cX5_mostOf) (maxL := 1) (ret := (some .int)) (own := RX5) (by decide) rfl rfl ?_
  rintro pg ev s0 mm below meth cd ⟨hx, hb, hr, hml, hown, hts, hlocks⟩ hE hP ls hl
  have hS : va_S (gA G) s0.heap s0.heap [] := va_S.rf
  have hl : lv_has ls 1 [(0, .int 1)] := hl
  refine lv_iload_n hx hb dX5_mostOf_0 rfl (lv_at hl 0 rfl) ?_
  refine lv_iconst (v := 1) hx hb dX5_mostOf_1 (by decide) ?_
  refine lv_icmp_eq (tgt := 10) hx hb dX5_mostOf_2 (by decide) (fun _ => ?_) (fun h => False.elim (by revert h; decide))
  refine lv_iconst (v := 1) hx hb dX5_mostOf_10 (by decide) ?_
  refine lv_goto (tgt := 27) hx hb dX5_mostOf_11 (by decide) ?_
  exact hd_iret hx hb hr hlocks hP hS ⟨rfl, rfl⟩ dX5_mostOf_27
set_option maxHeartbeats 4000000 in
set_option maxRecDepth 100000 in
theorem c_X5_mostOf_2 (l : Launch) (G : Geo) (u : Sg) : CtI l G yX5_mostOf wsX5_mostOf (rmO 0 0) [.int 2] u (fun r v => r = 9 ∧ v = u) := by
  refine CtI.of (cc := cX5_mostOf) (maxL := 1) (ret := (some .int)) (own := RX5) (by decide) rfl rfl ?_
  rintro pg ev s0 mm below meth cd ⟨hx, hb, hr, hml, hown, hts, hlocks⟩ hE hP ls hl
  have hS : va_S (gA G) s0.heap s0.heap [] := va_S.rf
  have hl : lv_has ls 1 [(0, .int 2)] := hl
  refine lv_iload_n hx hb dX5_mostOf_0 rfl (lv_at hl 0 rfl) ?_
  refine lv_iconst (v := 1) hx hb dX5_mostOf_1 (by decide) ?_
  refine lv_icmp_eq (tgt := 10) hx hb dX5_mostOf_2 (by decide) (fun h => False.elim (by revert h; decide)) (fun _ => ?_)
  refine lv_iload_n hx hb dX5_mostOf_5 rfl (lv_at hl 0 rfl) ?_
  refine lv_iconst (v := 4) hx hb dX5_mostOf_6 (by decide) ?_
  refine lv_icmp_ne (tgt := 14) hx hb dX5_mostOf_7 (by decide) (fun _ => ?_) (fun h => False.elim (by revert h; decide))
  refine lv_iload_n hx hb dX5_mostOf_14 rfl (lv_at hl 0 rfl) ?_
  refine lv_iconst (v := 2) hx hb dX5_mostOf_15 (by decide) ?_
  refine lv_icmp_ne (tgt := 24) hx hb dX5_mostOf_16 (by decide) (fun h => False.elim (by revert h; decide)) (fun _ => ?_)
  refine lv_bipush (v := 9) hx hb dX5_mostOf_19 (by decide) ?_
  refine lv_goto (tgt := 27) hx hb dX5_mostOf_21 (by decide) ?_
  exact hd_iret hx hb hr hlocks hP hS ⟨rfl, rfl⟩ dX5_mostOf_27
set_option maxHeartbeats 4000000 in
set_option maxRecDepth 100000 in
theorem c_X5_mostOf_3 (l : Launch) (G : Geo) (u : Sg) : CtI l G yX5_mostOf wsX5_mostOf (rmO 0 0) [.int 3] u (fun r v => r = 999 ∧ v = u) := by
  refine CtI.of (cc := cX5_mostOf) (maxL := 1) (ret := (some .int)) (own := RX5) (by decide) rfl rfl ?_
  rintro pg ev s0 mm below meth cd ⟨hx, hb, hr, hml, hown, hts, hlocks⟩ hE hP ls hl
  have hS : va_S (gA G) s0.heap s0.heap [] := va_S.rf
  have hl : lv_has ls 1 [(0, .int 3)] := hl
  refine lv_iload_n hx hb dX5_mostOf_0 rfl (lv_at hl 0 rfl) ?_
  refine lv_iconst (v := 1) hx hb dX5_mostOf_1 (by decide) ?_
  refine lv_icmp_eq (tgt := 10) hx hb dX5_mostOf_2 (by decide) (fun h => False.elim (by revert h; decide)) (fun _ => ?_)
  refine lv_iload_n hx hb dX5_mostOf_5 rfl (lv_at hl 0 rfl) ?_
  refine lv_iconst (v := 4) hx hb dX5_mostOf_6 (by decide) ?_
  refine lv_icmp_ne (tgt := 14) hx hb dX5_mostOf_7 (by decide) (fun _ => ?_) (fun h => False.elim (by revert h; decide))
  refine lv_iload_n hx hb dX5_mostOf_14 rfl (lv_at hl 0 rfl) ?_
  refine lv_iconst (v := 2) hx hb dX5_mostOf_15 (by decide) ?_
  refine lv_icmp_ne (tgt := 24) hx hb dX5_mostOf_16 (by decide) (fun _ => ?_) (fun h => False.elim (by revert h; decide))
  refine lv_sipush (v := 999) hx hb dX5_mostOf_24 (by decide) ?_
  exact hd_iret hx hb hr hlocks hP hS ⟨rfl, rfl⟩ dX5_mostOf_27
set_option maxHeartbeats 4000000 in
set_option maxRecDepth 100000 in
theorem c_X5_mostOf_4 (l : Launch) (G : Geo) (u : Sg) : CtI l G yX5_mostOf wsX5_mostOf (rmO 0 0) [.int 4] u (fun r v => r = 1 ∧ v = u) := by
  refine CtI.of (cc := cX5_mostOf) (maxL := 1) (ret := (some .int)) (own := RX5) (by decide) rfl rfl ?_
  rintro pg ev s0 mm below meth cd ⟨hx, hb, hr, hml, hown, hts, hlocks⟩ hE hP ls hl
  have hS : va_S (gA G) s0.heap s0.heap [] := va_S.rf
  have hl : lv_has ls 1 [(0, .int 4)] := hl
  refine lv_iload_n hx hb dX5_mostOf_0 rfl (lv_at hl 0 rfl) ?_
  refine lv_iconst (v := 1) hx hb dX5_mostOf_1 (by decide) ?_
  refine lv_icmp_eq (tgt := 10) hx hb dX5_mostOf_2 (by decide) (fun h => False.elim (by revert h; decide)) (fun _ => ?_)
  refine lv_iload_n hx hb dX5_mostOf_5 rfl (lv_at hl 0 rfl) ?_
  refine lv_iconst (v := 4) hx hb dX5_mostOf_6 (by decide) ?_
  refine lv_icmp_ne (tgt := 14) hx hb dX5_mostOf_7 (by decide) (fun h => False.elim (by revert h; decide)) (fun _ => ?_)
  refine lv_iconst (v := 1) hx hb dX5_mostOf_10 (by decide) ?_
  refine lv_goto (tgt := 27) hx hb dX5_mostOf_11 (by decide) ?_
  exact hd_iret hx hb hr hlocks hP hS ⟨rfl, rfl⟩ dX5_mostOf_27
set_option maxHeartbeats 4000000 in
set_option maxRecDepth 100000 in
theorem c_X5_mostOf_5 (l : Launch) (G : Geo) (u : Sg) : CtI l G yX5_mostOf wsX5_mostOf (rmO 0 0) [.int 5] u (fun r v => r = 999 ∧ v = u) := by
  refine CtI.of (cc := cX5_mostOf) (maxL := 1) (ret := (some .int)) (own := RX5) (by decide) rfl rfl ?_
  rintro pg ev s0 mm below meth cd ⟨hx, hb, hr, hml, hown, hts, hlocks⟩ hE hP ls hl
  have hS : va_S (gA G) s0.heap s0.heap [] := va_S.rf
  have hl : lv_has ls 1 [(0, .int 5)] := hl
  refine lv_iload_n hx hb dX5_mostOf_0 rfl (lv_at hl 0 rfl) ?_
  refine lv_iconst (v := 1) hx hb dX5_mostOf_1 (by decide) ?_
  refine lv_icmp_eq (tgt := 10) hx hb dX5_mostOf_2 (by decide) (fun h => False.elim (by revert h; decide)) (fun _ => ?_)
  refine lv_iload_n hx hb dX5_mostOf_5 rfl (lv_at hl 0 rfl) ?_
  refine lv_iconst (v := 4) hx hb dX5_mostOf_6 (by decide) ?_
  refine lv_icmp_ne (tgt := 14) hx hb dX5_mostOf_7 (by decide) (fun _ => ?_) (fun h => False.elim (by revert h; decide))
  refine lv_iload_n hx hb dX5_mostOf_14 rfl (lv_at hl 0 rfl) ?_
  refine lv_iconst (v := 2) hx hb dX5_mostOf_15 (by decide) ?_
  refine lv_icmp_ne (tgt := 24) hx hb dX5_mostOf_16 (by decide) (fun _ => ?_) (fun h => False.elim (by revert h; decide))
  refine lv_sipush (v := 999) hx hb dX5_mostOf_24 (by decide) ?_
  exact hd_iret hx hb hr hlocks hP hS ⟨rfl, rfl⟩ dX5_mostOf_27
set_option maxHeartbeats 4000000 in
set_option maxRecDepth 100000 in
theorem c_X5_comesAs (l : Launch) (G : Geo) (u : Sg) (M : Nat → Int32) (n : Nat) (hn : M 4 = nI n) (h8 : n < 8) (k f ld b : Int32) : CtI l G yX5_comesAs wsX5_comesAs (rmO 1 23) [.ref (gad G 34), .int k, .int f, .int ld, .int b] (sI u 11 M) (fun r v => r = nI n ∧ v = sI u 11 (adM M n k f ld b)) := by
  refine CtI.of (cc := cX5_comesAs) (maxL := 6) (ret := (some .int)) (own := RX5) (by decide) rfl rfl ?_
  rintro pg ev s0 mm below meth cd ⟨hx, hb, hr, hml, hown, hts, hlocks⟩ hE hP ls hl
  have hS : va_S (gA G) s0.heap s0.heap [] := va_S.rf
  have hl : lv_has ls 6 [(0, .ref (gad G 34)), (1, .int k), (2, .int f), (3, .int ld), (4, .int b)] := hl
  have hin5 : ∀ w ∈ wsX50, w ∈ wsX5_comesAs := by decide +kernel
  refine lv_aload_n hx hb dX5_comesAs_0 rfl (lv_at hl 0 rfl) ?_
  refine mo_get hx hb hts hin5 hown hE hP ((sI_ne _ _ (by decide)).trans rfl) 0 (by decide) (hts (.fieldLink RX5 9 "HeldDoorModel" "m" "[I") (by decide +kernel)) (v := .ref (gad G 35)) rfl dX5_comesAs_1 ?_
  refine lv_iconst (v := 4) hx hb dX5_comesAs_4 (by decide) ?_
  refine ar_ld hx hb hE hP 35 53 (by decide) (ar_at35 (sI_at _ _ _)) 4 (by omega) dX5_comesAs_5 ?_
  refine lv_cast hn ?_
  refine lv_istore (lv' := [(5, .int (nI n)), (0, .ref (gad G 34)), (1, .int k), (2, .int f), (3, .int ld), (4, .int b)]) hx hb dX5_comesAs_6 hl (by decide) rfl (fun ls hl => ?_)
  refine lv_aload_n hx hb dX5_comesAs_8 rfl (lv_at hl 1 rfl) ?_
  refine mo_get hx hb hts hin5 hown hE hP ((sI_ne _ _ (by decide)).trans rfl) 0 (by decide) (hts (.fieldLink RX5 9 "HeldDoorModel" "m" "[I") (by decide +kernel)) (v := .ref (gad G 35)) rfl dX5_comesAs_9 ?_
  refine lv_iconst (v := 4) hx hb dX5_comesAs_12 (by decide) ?_
  refine lv_dup2_11 hx hb dX5_comesAs_13 rfl rfl ?_
  refine ar_ld hx hb hE hP 35 53 (by decide) (ar_at35 (sI_at _ _ _)) 4 (by omega) dX5_comesAs_14 ?_
  refine lv_cast hn ?_
  refine lv_iconst (v := 1) hx hb dX5_comesAs_15 (by decide) ?_
  refine nn_iadd (a := n) (b := 1) hx hb dX5_comesAs_16 ?_
  refine ar_st hx hb hE hP hS 35 53 (by decide) (ar_at35 (sI_at _ _ _)) (ar_set35 _ _) 4 (by omega) (sI_sI _ _ _ _) dX5_comesAs_17 (fun H locs hP hS => ?_)
  refine lv_aload_n hx hb dX5_comesAs_18 rfl (lv_at hl 1 rfl) ?_
  refine lv_iload hx hb dX5_comesAs_19 (lv_at hl 0 rfl) ?_
  refine lv_iconst (v := 0) hx hb dX5_comesAs_21 (by decide) ?_
  refine lv_iload_n hx hb dX5_comesAs_22 rfl (lv_at hl 2 rfl) ?_
  refine hd_callVv (As := [.int (nI n), .int 0, .int k]) (rest := []) ⟨hx, hb, hml, hown, hts⟩ hE hP hS (c_X5_put l G u (upd M 4 (nI (n + 1))) n 0 (by omega) (by omega) k) rfl (cwV 3 hts gX5_comesAs_X5_put rfl rfl rfl (by decide +kernel) ⟨Nat.le_of_ble_eq_true rfl, Nat.le_of_ble_eq_true rfl⟩) (mo_recv hE hP) rfl hl.1 rfl (Nat.le_of_ble_eq_true rfl) dX5_comesAs_23 (fun vq_1 H locs q_1 hP hS => ?_)
  have hP := hP.cast (q_1)
  refine lv_aload_n hx hb dX5_comesAs_26 rfl (lv_at hl 1 rfl) ?_
  refine lv_iload hx hb dX5_comesAs_27 (lv_at hl 0 rfl) ?_
  refine lv_iconst (v := 1) hx hb dX5_comesAs_29 (by decide) ?_
  refine lv_iload hx hb dX5_comesAs_30 (lv_at hl 5 rfl) ?_
  refine hd_callVv (As := [.int (nI n), .int 1, .int b]) (rest := []) ⟨hx, hb, hml, hown, hts⟩ hE hP hS (c_X5_put l G u (upd (upd M 4 (nI (n + 1))) (5 + 6 * n + 0) k) n 1 (by omega) (by omega) b) rfl (cwV 3 hts gX5_comesAs_X5_put rfl rfl rfl (by decide +kernel) ⟨Nat.le_of_ble_eq_true rfl, Nat.le_of_ble_eq_true rfl⟩) (mo_recv hE hP) rfl hl.1 rfl (Nat.le_of_ble_eq_true rfl) dX5_comesAs_32 (fun vq_2 H locs q_2 hP hS => ?_)
  have hP := hP.cast (q_2)
  refine lv_aload_n hx hb dX5_comesAs_35 rfl (lv_at hl 1 rfl) ?_
  refine lv_iload hx hb dX5_comesAs_36 (lv_at hl 0 rfl) ?_
  refine lv_iconst (v := 2) hx hb dX5_comesAs_38 (by decide) ?_
  refine lv_iload_n hx hb dX5_comesAs_39 rfl (lv_at hl 4 rfl) ?_
  refine hd_callVv (As := [.int (nI n), .int 2, .int ld]) (rest := []) ⟨hx, hb, hml, hown, hts⟩ hE hP hS (c_X5_put l G u (upd (upd (upd M 4 (nI (n + 1))) (5 + 6 * n + 0) k) (5 + 6 * n + 1) b) n 2 (by omega) (by omega) ld) rfl (cwV 3 hts gX5_comesAs_X5_put rfl rfl rfl (by decide +kernel) ⟨Nat.le_of_ble_eq_true rfl, Nat.le_of_ble_eq_true rfl⟩) (mo_recv hE hP) rfl hl.1 rfl (Nat.le_of_ble_eq_true rfl) dX5_comesAs_40 (fun vq_3 H locs q_3 hP hS => ?_)
  have hP := hP.cast (q_3)
  refine lv_aload_n hx hb dX5_comesAs_43 rfl (lv_at hl 1 rfl) ?_
  refine lv_iload hx hb dX5_comesAs_44 (lv_at hl 0 rfl) ?_
  refine lv_iconst (v := 3) hx hb dX5_comesAs_46 (by decide) ?_
  refine lv_iload_n hx hb dX5_comesAs_47 rfl (lv_at hl 3 rfl) ?_
  refine hd_callVv (As := [.int (nI n), .int 3, .int f]) (rest := []) ⟨hx, hb, hml, hown, hts⟩ hE hP hS (c_X5_put l G u (upd (upd (upd (upd M 4 (nI (n + 1))) (5 + 6 * n + 0) k) (5 + 6 * n + 1) b) (5 + 6 * n + 2) ld) n 3 (by omega) (by omega) f) rfl (cwV 3 hts gX5_comesAs_X5_put rfl rfl rfl (by decide +kernel) ⟨Nat.le_of_ble_eq_true rfl, Nat.le_of_ble_eq_true rfl⟩) (mo_recv hE hP) rfl hl.1 rfl (Nat.le_of_ble_eq_true rfl) dX5_comesAs_48 (fun vq_4 H locs q_4 hP hS => ?_)
  have hP := hP.cast (q_4)
  refine lv_aload_n hx hb dX5_comesAs_51 rfl (lv_at hl 1 rfl) ?_
  refine lv_iload hx hb dX5_comesAs_52 (lv_at hl 0 rfl) ?_
  refine lv_iconst (v := 4) hx hb dX5_comesAs_54 (by decide) ?_
  refine lv_iconst (v := 0) hx hb dX5_comesAs_55 (by decide) ?_
  refine hd_callVv (As := [.int (nI n), .int 4, .int 0]) (rest := []) ⟨hx, hb, hml, hown, hts⟩ hE hP hS (c_X5_put l G u (upd (upd (upd (upd (upd M 4 (nI (n + 1))) (5 + 6 * n + 0) k) (5 + 6 * n + 1) b) (5 + 6 * n + 2) ld) (5 + 6 * n + 3) f) n 4 (by omega) (by omega) 0) rfl (cwV 3 hts gX5_comesAs_X5_put rfl rfl rfl (by decide +kernel) ⟨Nat.le_of_ble_eq_true rfl, Nat.le_of_ble_eq_true rfl⟩) (mo_recv hE hP) rfl hl.1 rfl (Nat.le_of_ble_eq_true rfl) dX5_comesAs_56 (fun vq_5 H locs q_5 hP hS => ?_)
  have hP := hP.cast (q_5)
  refine lv_aload_n hx hb dX5_comesAs_59 rfl (lv_at hl 1 rfl) ?_
  refine lv_iload hx hb dX5_comesAs_60 (lv_at hl 0 rfl) ?_
  refine lv_iconst (v := 5) hx hb dX5_comesAs_62 (by decide) ?_
  refine lv_iconst (v := 0) hx hb dX5_comesAs_63 (by decide) ?_
  refine hd_callVv (As := [.int (nI n), .int 5, .int 0]) (rest := []) ⟨hx, hb, hml, hown, hts⟩ hE hP hS (c_X5_put l G u (upd (upd (upd (upd (upd (upd M 4 (nI (n + 1))) (5 + 6 * n + 0) k) (5 + 6 * n + 1) b) (5 + 6 * n + 2) ld) (5 + 6 * n + 3) f) (5 + 6 * n + 4) 0) n 5 (by omega) (by omega) 0) rfl (cwV 3 hts gX5_comesAs_X5_put rfl rfl rfl (by decide +kernel) ⟨Nat.le_of_ble_eq_true rfl, Nat.le_of_ble_eq_true rfl⟩) (mo_recv hE hP) rfl hl.1 rfl (Nat.le_of_ble_eq_true rfl) dX5_comesAs_64 (fun vq_6 H locs q_6 hP hS => ?_)
  have hP := hP.cast (q_6)
  refine lv_iload hx hb dX5_comesAs_67 (lv_at hl 0 rfl) ?_
  exact hd_iret hx hb hr hlocks hP hS ⟨(by first | rfl | (simp only [↓reduceIte]; done) | (simp only [↓reduceIte] <;> rfl) | (simp []; done)), rfl⟩ dX5_comesAs_69
set_option maxHeartbeats 4000000 in
set_option maxRecDepth 100000 in
theorem c_X5_looseOn (l : Launch) (G : Geo) (u : Sg) (X T : Nat → Int32) (h11 : u.1 11 = X) (h13 : u.1 13 = T) (hX : Wf X) (tT : ∀ k : Nat, 53 ≤ k → T k = 0) (n : Nat) (hn9 : n ≤ 1000) : CtI l G yX5_looseOn wsX5_looseOn (rmO 6 137) [.ref (gad G 34), .int (nI n)] u (fun r v => r = loC (goN X n) ∧ v = sI u 11 T) := by
  refine CtI.of (cc := cX5_looseOn) (maxL := 3) (ret := (some .int)) (own := RX5) (by decide) rfl rfl ?_
  rintro pg ev s0 mm below meth cd ⟨hx, hb, hr, hml, hown, hts, hlocks⟩ hE hP ls hl
  have hS : va_S (gA G) s0.heap s0.heap [] := va_S.rf
  have hl : lv_has ls 3 [(0, .ref (gad G 34)), (1, .int (nI n))] := hl
  refine lv_aload_n hx hb dX5_looseOn_0 rfl (lv_at hl 0 rfl) ?_
  refine lv_iload_n hx hb dX5_looseOn_1 rfl (lv_at hl 1 rfl) ?_
  refine hd_callVv (As := [.int (nI n)]) (rest := []) ⟨hx, hb, hml, hown, hts⟩ hE hP hS (c_X5_goesFor l G u X hX n (by omega)) ((sI_id h11).symm) (cwV 1 hts gX5_looseOn_X5_goesFor rfl rfl rfl (by decide +kernel) ⟨Nat.le_of_ble_eq_true rfl, Nat.le_of_ble_eq_true rfl⟩) (mo_recv hE hP) rfl hl.1 rfl (Nat.le_of_ble_eq_true rfl) dX5_looseOn_2 (fun vq_1 H locs q_1 hP hS => ?_)
  have hP := hP.cast (q_1)
  refine lv_aload_n hx hb dX5_looseOn_5 rfl (lv_at hl 0 rfl) ?_
  refine hd_callVi (As := []) (rest := []) ⟨hx, hb, hml, hown, hts⟩ hE hP hS (c_X5_looseOnes l G u (goN X n) (Wf_goN hX _)) rfl (cwV 0 hts gX5_looseOn_X5_looseOnes rfl rfl rfl (by decide +kernel) ⟨Nat.le_of_ble_eq_true rfl, Nat.le_of_ble_eq_true rfl⟩) (mo_recv hE hP) rfl hl.1 rfl (Nat.le_of_ble_eq_true rfl) dX5_looseOn_6 (fun rq_2 vq_2 H locs q_2 hP hS => ?_)
  have hP := hP.cast (q_2.2)
  refine lv_cast q_2.1 ?_
  obtain ⟨k8, hk1, hk2⟩ := loS_256 (Wf_goN hX n) (Wf_goN hX n).n8
  refine lv_cast hk2 ?_
  refine hd_callSi (As := [.int (nI k8)]) (rest := []) ⟨hx, hb, hml, hown, hts⟩ hE hP hS (c_X5_bits l G (sI u 11 (goN X n)) k8 (by omega)) rfl (va_cwS 1 hts gX5_looseOn_X5_bits rfl rfl rfl (by decide +kernel) ⟨Nat.le_of_ble_eq_true rfl, Nat.le_of_ble_eq_true rfl⟩) rfl hl.1 rfl (Nat.le_of_ble_eq_true rfl) dX5_looseOn_9 (fun rq_3 vq_3 H locs q_3 hP hS => ?_)
  have hP := hP.cast (q_3.2)
  refine lv_cast q_3.1 ?_
  refine lv_istore_n (lv' := [(2, .int (bitC (nI k8))), (0, .ref (gad G 34)), (1, .int (nI n))]) hx hb dX5_looseOn_12 rfl hl (by decide) rfl (fun ls hl => ?_)
  refine lv_aload_n hx hb dX5_looseOn_13 rfl (lv_at hl 1 rfl) ?_
  refine hd_callVv (As := []) (rest := []) ⟨hx, hb, hml, hown, hts⟩ hE hP hS (c_X5_putsBack l G (sI u 11 (goN X n)) T (goN X n) ((sI_ne _ _ (by decide)).trans h13) (sI_at _ _ _) tT ((Wf_goN hX _)).1) rfl (cwV 0 hts gX5_looseOn_X5_putsBack rfl rfl rfl (by decide +kernel) ⟨Nat.le_of_ble_eq_true rfl, Nat.le_of_ble_eq_true rfl⟩) (mo_recv hE hP) rfl hl.1 rfl (Nat.le_of_ble_eq_true rfl) dX5_looseOn_14 (fun vq_4 H locs q_4 hP hS => ?_)
  have q_4v := q_4
  have hP := hP.cast (q_4v.trans (sI_sI _ _ _ _))
  refine lv_iload_n hx hb dX5_looseOn_17 rfl (lv_at hl 0 rfl) ?_
  exact hd_iret hx hb hr hlocks hP hS ⟨loC_bit hk2, rfl⟩ dX5_looseOn_18
set_option maxHeartbeats 4000000 in
set_option maxRecDepth 100000 in
theorem c_X5_isInOn (l : Launch) (G : Geo) (u : Sg) (X T : Nat → Int32) (h11 : u.1 11 = X) (h13 : u.1 13 = T) (hX : Wf X) (tT : ∀ k : Nat, 53 ≤ k → T k = 0) (p n : Nat) (hp : p < 8) (hn9 : n ≤ 1000) : CtI l G yX5_isInOn wsX5_isInOn (rmO 6 137) [.ref (gad G 34), .int (nI p), .int (nI n)] u (fun r v => r = bI (onIn X p n) ∧ v = sI u 11 T) := by
  refine CtI.of (cc := cX5_isInOn) (maxL := 4) (ret := (some .boolean)) (own := RX5) (by decide) rfl rfl ?_
  rintro pg ev s0 mm below meth cd ⟨hx, hb, hr, hml, hown, hts, hlocks⟩ hE hP ls hl
  have hS : va_S (gA G) s0.heap s0.heap [] := va_S.rf
  have hl : lv_has ls 4 [(0, .ref (gad G 34)), (1, .int (nI p)), (2, .int (nI n))] := hl
  refine lv_aload_n hx hb dX5_isInOn_0 rfl (lv_at hl 0 rfl) ?_
  refine lv_iload_n hx hb dX5_isInOn_1 rfl (lv_at hl 2 rfl) ?_
  refine hd_callVv (As := [.int (nI n)]) (rest := []) ⟨hx, hb, hml, hown, hts⟩ hE hP hS (c_X5_goesFor l G u X hX n (by omega)) ((sI_id h11).symm) (cwV 1 hts gX5_isInOn_X5_goesFor rfl rfl rfl (by decide +kernel) ⟨Nat.le_of_ble_eq_true rfl, Nat.le_of_ble_eq_true rfl⟩) (mo_recv hE hP) rfl hl.1 rfl (Nat.le_of_ble_eq_true rfl) dX5_isInOn_2 (fun vq_1 H locs q_1 hP hS => ?_)
  have hP := hP.cast (q_1)
  refine lv_aload_n hx hb dX5_isInOn_5 rfl (lv_at hl 0 rfl) ?_
  refine lv_iload_n hx hb dX5_isInOn_6 rfl (lv_at hl 1 rfl) ?_
  refine lv_iconst (v := 4) hx hb dX5_isInOn_7 (by decide) ?_
  refine hd_callVi (As := [.int (nI p), .int 4]) (rest := []) ⟨hx, hb, hml, hown, hts⟩ hE hP hS (c_X5_it l G u (goN X n) p 4 (by omega) (by omega)) rfl (cwV 2 hts gX5_isInOn_X5_it rfl rfl rfl (by decide +kernel) ⟨Nat.le_of_ble_eq_true rfl, Nat.le_of_ble_eq_true rfl⟩) (mo_recv hE hP) rfl hl.1 rfl (Nat.le_of_ble_eq_true rfl) dX5_isInOn_8 (fun rq_2 vq_2 H locs q_2 hP hS => ?_)
  have hP := hP.cast (q_2.2)
  refine lv_cast q_2.1 ?_
  refine lv_iconst (v := 1) hx hb dX5_isInOn_11 (by decide) ?_
  refine lv_icmp_ne (tgt := 19) hx hb dX5_isInOn_12 (by decide) (fun c_3 => ?_) (fun c_3 => ?_)
  · skip
    refine lv_iconst (v := 0) hx hb dX5_isInOn_19 (by decide) ?_
    refine lv_istore_n (lv' := [(3, .int 0), (0, .ref (gad G 34)), (1, .int (nI p)), (2, .int (nI n))]) hx hb dX5_isInOn_20 rfl hl (by decide) rfl (fun ls hl => ?_)
    refine lv_aload_n hx hb dX5_isInOn_21 rfl (lv_at hl 1 rfl) ?_
    refine hd_callVv (As := []) (rest := []) ⟨hx, hb, hml, hown, hts⟩ hE hP hS (c_X5_putsBack l G (sI u 11 (goN X n)) T (goN X n) ((sI_ne _ _ (by decide)).trans h13) (sI_at _ _ _) tT ((Wf_goN hX _)).1) rfl (cwV 0 hts gX5_isInOn_X5_putsBack rfl rfl rfl (by decide +kernel) ⟨Nat.le_of_ble_eq_true rfl, Nat.le_of_ble_eq_true rfl⟩) (mo_recv hE hP) rfl hl.1 rfl (Nat.le_of_ble_eq_true rfl) dX5_isInOn_22 (fun vq_4 H locs q_4 hP hS => ?_)
    have q_4v := q_4
    have hP := hP.cast (q_4v.trans (sI_sI _ _ _ _))
    refine lv_iload_n hx hb dX5_isInOn_25 rfl (lv_at hl 0 rfl) ?_
    exact hd_zret hx hb hr hlocks hP hS ⟨(by simp only [onIn, ← goN_hi (M := X) (n := n) (show 5 + 6 * p + 4 ≠ 0 by omega), c_3, bI] <;> rfl), rfl⟩ rfl dX5_isInOn_26
  · skip
    refine lv_iconst (v := 1) hx hb dX5_isInOn_15 (by decide) ?_
    refine lv_goto (tgt := 20) hx hb dX5_isInOn_16 (by decide) ?_
    refine lv_istore_n (lv' := [(3, .int 1), (0, .ref (gad G 34)), (1, .int (nI p)), (2, .int (nI n))]) hx hb dX5_isInOn_20 rfl hl (by decide) rfl (fun ls hl => ?_)
    refine lv_aload_n hx hb dX5_isInOn_21 rfl (lv_at hl 1 rfl) ?_
    refine hd_callVv (As := []) (rest := []) ⟨hx, hb, hml, hown, hts⟩ hE hP hS (c_X5_putsBack l G (sI u 11 (goN X n)) T (goN X n) ((sI_ne _ _ (by decide)).trans h13) (sI_at _ _ _) tT ((Wf_goN hX _)).1) rfl (cwV 0 hts gX5_isInOn_X5_putsBack rfl rfl rfl (by decide +kernel) ⟨Nat.le_of_ble_eq_true rfl, Nat.le_of_ble_eq_true rfl⟩) (mo_recv hE hP) rfl hl.1 rfl (Nat.le_of_ble_eq_true rfl) dX5_isInOn_22 (fun vq_5 H locs q_5 hP hS => ?_)
    have q_5v := q_5
    have hP := hP.cast (q_5v.trans (sI_sI _ _ _ _))
    refine lv_iload_n hx hb dX5_isInOn_25 rfl (lv_at hl 0 rfl) ?_
    exact hd_zret hx hb hr hlocks hP hS ⟨(by simp only [onIn, ← goN_hi (M := X) (n := n) (show 5 + 6 * p + 4 ≠ 0 by omega), c_3, bI] <;> rfl), rfl⟩ rfl dX5_isInOn_26
