/-! ===== more rows: null answers, long compares, copies between scenes ===== -/
def CtN (l : Launch) (G : Geo) (y : MethodName) (ws : List Cond) (rm : Room) (av : List Value) (u : Sg) (v : Sg) : Prop :=
  Met l y ws rm (Pre0 G av u) (va_Qq (fun o w => o = none ∧ w = v) (fun w t => WP G w t.heap) (gA G)) 0 0 (gA G)
theorem CtN.of {l : Launch} {G : Geo} {y : MethodName} {ws ws' : List Cond} {rm : Room} {av : List Value} {u v : Sg} {cc : ByteArray} {maxL : Nat} {ret : Option FieldType} {own : String} (hy : plainName y.cls = true) (hw : ws = Cond.code y cc maxL ret :: ws') (ho : own = y.cls)
    (body : ∀ p e s m below meth c, Fx p s m meth c cc ws av maxL ret own → E0 G s s.heap → WP G u s.heap → ∀ ls : Array Slot, lv_has ls maxL (lv_args 0 av) → W p l e (headSpec ws rm).room s m av.toArray below meth c s.heap [] 0 0 (MQ below (va_Qq (fun o w => o = none ∧ w = v) (fun w t => WP G w t.heap) (gA G)) av.toArray s 0 0 (gA G)) (F0 m 0 ls []))
    (hav : (lg_sl av).length ≤ maxL := by exact Nat.le_of_ble_eq_true rfl) : CtN l G y ws rm av u v := hd_of hy hw ho hav body
section HDM
variable {p : Program} {l : Launch} {e : Env} {R : Room} {s : State} {m : MethodId} {args : Array Value} {below : List Frame} {meth : Method} {c : Code} {H : Heap} {locs : List Loc} {Q : State → Prop}
variable {cc bytes : ByteArray} {pc nc ns nL maxL n index : Nat} {ls : Array Slot} {rest As : List Value} {G : Geo} {u u' v : Sg} {own C : String} {y : MethodName} {ret : Option FieldType} {ws Ts : List Cond} {rm : Room} {b : Nat}
theorem hd_nret {rt : FieldType} (hx : p.tables.exec = Jvm.exec) (hb : c.code = cc) (hr : meth.sig.returnType = some rt) (hrt : (∃ n, rt = .object n) ∨ ∃ t, rt = .array t) (hlocks : meth.locks = false) (hP : WP G u H) (hS : va_S (gA G) s.heap H locs) (hp : u = v) (hdg : decode cc pc = .ok (.areturn, 1)) :
    W p l e R s m args below meth c H locs 0 0 (MQ below (va_Qq (fun o w => o = none ∧ w = v) (fun w t => WP G w t.heap) (gA G)) args s 0 0 (gA G)) (F0 m pc ls [.null]) :=
  W.aret hx hb hr hrt (Or.inl rfl) (fun t ht _ => ⟨⟨none, u, rfl, ⟨rfl, hp⟩, by show WP G u t.heap; rw [ht]; exact hP⟩, hS.F ht⟩) hS.2.2 hdg hlocks
theorem hd_callVn (F : CallFix p m c cc nL s args Ts own) (hE : E0 G s s.heap) (hP : WP G u H) (hS : va_S (gA G) s.heap H locs) (hM : CtN l G y ws rm (.ref b :: As) u' v) (hu : u = u') (cw : CallW R s args own C index y bytes maxL ret ws rm 0 0 n) (hrecv : ∃ cellB : Cell, H[b]? = some cellB ∧ cellB.vm.isStatics = false ∧ s.vm.findClass C = some cellB.cls)
    (hn : As.length = n) (hsize : ls.size = nL) {st : List Value} (hst : st = As.reverse ++ .ref b :: rest) (hW : (rest.map fun v => v.category).sum ≤ 8) (hdg : decode cc pc = .ok (.invokevirtual index, 3))
    (kk : ∀ (H1 : Heap) (locs1 : List Loc), WP G v H1 → va_S (gA G) s.heap H1 locs1 → W p l e R s m args below meth c H1 locs1 0 0 Q (F0 m (pc + 3) ls (.null :: rest))) : W p l e R s m args below meth c H locs 0 0 Q (F0 m pc ls st) :=
  va_callq (va_runV (rest := rest) F hM cw (hd_preV hE hP hS hu hrecv) rfl hn hsize hst (lv_room hW) hdg ⟨Nat.zero_le _, Nat.zero_le _⟩) hS (fun _ _ h => h) (fun _ h => h) (fun o w t H1 locs1 ht _ hp hB _ _ hS1 => by
    obtain ⟨rfl, rfl⟩ := hp
    exact kk H1 locs1 (by rw [← ht]; exact hB) hS1)
theorem lgc_lt {x y : Int64} : lg_cmp x y < 0 ↔ x < y := by
  unfold lg_cmp
  by_cases h1 : x > y
  · rw [if_pos h1]
    exact ⟨fun h => absurd h (by decide), fun h => absurd (Int64.lt_trans h h1) (Int64.lt_irrefl)⟩
  · rw [if_neg h1]
    by_cases h2 : x = y
    · rw [if_pos h2]
      exact ⟨fun h => absurd h (by decide), fun h => absurd (h2 ▸ h) Int64.lt_irrefl⟩
    · rw [if_neg h2]
      refine ⟨fun _ => ?_, fun _ => by decide⟩
      have h3 : x ≤ y := Int64.not_lt.mp h1
      rw [Int64.lt_iff_toInt_lt]
      rw [Int64.le_iff_toInt_le] at h3
      have h4 : x.toInt ≠ y.toInt := fun q => h2 (Int64.toInt_inj.mp q)
      omega
theorem lgc_gt {x y : Int64} : 0 < lg_cmp x y ↔ y < x := by
  unfold lg_cmp
  by_cases h1 : x > y
  · rw [if_pos h1]
    exact ⟨fun _ => h1, fun _ => by decide⟩
  · rw [if_neg h1]
    refine ⟨fun h => ?_, fun h => absurd h h1⟩
    split at h <;> exact absurd h (by decide)
theorem lgc_eq {x y : Int64} : lg_cmp x y = 0 ↔ x = y := by
  unfold lg_cmp
  by_cases h1 : x > y
  · rw [if_pos h1]
    exact ⟨fun h => absurd h (by decide), fun h => absurd (h ▸ h1) Int64.lt_irrefl⟩
  · rw [if_neg h1]
    by_cases h2 : x = y
    · rw [if_pos h2]
      exact ⟨fun _ => h2, fun _ => rfl⟩
    · rw [if_neg h2]
      exact ⟨fun h => absurd h (by decide), fun h => absurd h h2⟩
theorem lc_lt {x y : Int64} {off : Int} {tgt : Nat} (hx : p.tables.exec = Jvm.exec) (hb : c.code = cc) (hdg : decode cc pc = .ok (.ifCond .lt off, 3)) (ht : (pc : Int) + off = (tgt : Int))
    (kt : x < y → W p l e R s m args below meth c H locs nc ns Q (F0 m tgt ls rest)) (kf : ¬ x < y → W p l e R s m args below meth c H locs nc ns Q (F0 m (pc + 3) ls rest)) : W p l e R s m args below meth c H locs nc ns Q (F0 m pc ls (.int (lg_cmp x y) :: rest)) :=
  lv_if_lt hx hb hdg ht (fun h => kt (lgc_lt.mp h)) (fun h => kf (fun q => h (lgc_lt.mpr q)))
theorem lc_ge {x y : Int64} {off : Int} {tgt : Nat} (hx : p.tables.exec = Jvm.exec) (hb : c.code = cc) (hdg : decode cc pc = .ok (.ifCond .ge off, 3)) (ht : (pc : Int) + off = (tgt : Int))
    (kt : ¬ x < y → W p l e R s m args below meth c H locs nc ns Q (F0 m tgt ls rest)) (kf : x < y → W p l e R s m args below meth c H locs nc ns Q (F0 m (pc + 3) ls rest)) : W p l e R s m args below meth c H locs nc ns Q (F0 m pc ls (.int (lg_cmp x y) :: rest)) :=
  lv_if_ge hx hb hdg ht (fun h => kt (fun q => absurd h (Int32.not_le.mpr (lgc_lt.mpr q)))) (fun h => kf (lgc_lt.mp (Int32.not_le.mp h)))
theorem lc_gt {x y : Int64} {off : Int} {tgt : Nat} (hx : p.tables.exec = Jvm.exec) (hb : c.code = cc) (hdg : decode cc pc = .ok (.ifCond .gt off, 3)) (ht : (pc : Int) + off = (tgt : Int))
    (kt : y < x → W p l e R s m args below meth c H locs nc ns Q (F0 m tgt ls rest)) (kf : ¬ y < x → W p l e R s m args below meth c H locs nc ns Q (F0 m (pc + 3) ls rest)) : W p l e R s m args below meth c H locs nc ns Q (F0 m pc ls (.int (lg_cmp x y) :: rest)) :=
  lv_if_gt hx hb hdg ht (fun h => kt (lgc_gt.mp h)) (fun h => kf (fun q => h (lgc_gt.mpr q)))
theorem lc_le {x y : Int64} {off : Int} {tgt : Nat} (hx : p.tables.exec = Jvm.exec) (hb : c.code = cc) (hdg : decode cc pc = .ok (.ifCond .le off, 3)) (ht : (pc : Int) + off = (tgt : Int))
    (kt : ¬ y < x → W p l e R s m args below meth c H locs nc ns Q (F0 m tgt ls rest)) (kf : y < x → W p l e R s m args below meth c H locs nc ns Q (F0 m (pc + 3) ls rest)) : W p l e R s m args below meth c H locs nc ns Q (F0 m pc ls (.int (lg_cmp x y) :: rest)) :=
  lv_if_le hx hb hdg ht (fun h => kt (fun q => absurd h (Int32.not_le.mpr (lgc_gt.mpr q)))) (fun h => kf (lgc_gt.mp (Int32.not_le.mp h)))
theorem lc_eq {x y : Int64} {off : Int} {tgt : Nat} (hx : p.tables.exec = Jvm.exec) (hb : c.code = cc) (hdg : decode cc pc = .ok (.ifCond .eq off, 3)) (ht : (pc : Int) + off = (tgt : Int))
    (kt : x = y → W p l e R s m args below meth c H locs nc ns Q (F0 m tgt ls rest)) (kf : ¬ x = y → W p l e R s m args below meth c H locs nc ns Q (F0 m (pc + 3) ls rest)) : W p l e R s m args below meth c H locs nc ns Q (F0 m pc ls (.int (lg_cmp x y) :: rest)) :=
  lv_if_eq hx hb hdg ht (fun h => kt (lgc_eq.mp h)) (fun h => kf (fun q => h (lgc_eq.mpr q)))
theorem lc_ne {x y : Int64} {off : Int} {tgt : Nat} (hx : p.tables.exec = Jvm.exec) (hb : c.code = cc) (hdg : decode cc pc = .ok (.ifCond .ne off, 3)) (ht : (pc : Int) + off = (tgt : Int))
    (kt : ¬ x = y → W p l e R s m args below meth c H locs nc ns Q (F0 m tgt ls rest)) (kf : x = y → W p l e R s m args below meth c H locs nc ns Q (F0 m (pc + 3) ls rest)) : W p l e R s m args below meth c H locs nc ns Q (F0 m pc ls (.int (lg_cmp x y) :: rest)) :=
  lv_if_ne hx hb hdg ht (fun h => kt (fun q => h (lgc_eq.mpr q))) (fun h => kf (lgc_eq.mp h))
end HDM
/-- a row of one morning laid over another's -/
def mxW (N M : Nat → Int32) (w : Nat) : Nat → Int32 := fun q => if 5 ≤ q ∧ q < 53 ∧ (q - 5) % 6 = w then N q else M q
theorem cSc_cpy (G : Geo) (i : Nat) (M N : Nat → Int32) {w : Nat} (hw : w < 6) : (cSc G i M).set (1 + w) (gSA G i w, .inl (gc G 0, 8, .inl (va_cpy (fun p => N (5 + 6 * p + w)) (fun p => M (5 + 6 * p + w)) 0 0 8))) = cSc G i (mxW N M w) := by
  have h : ∀ w' : Nat, w' < 6 → w' ≠ w → cScA G i w' (mxW N M w) = cScA G i w' M := fun w' h1 h2 => by
    unfold cScA
    rw [show (fun q => mxW N M w (5 + 6 * q + w')) = (fun q => M (5 + 6 * q + w')) from funext fun q => by simp only [mxW]; rw [if_neg (by omega)]]
  have h0 : cScA G i w (mxW N M w) = (gSA G i w, .inl (gc G 0, 8, .inl (va_cpy (fun p => N (5 + 6 * p + w)) (fun p => M (5 + 6 * p + w)) 0 0 8))) := by
    unfold cScA
    rw [show (fun q => mxW N M w (5 + 6 * q + w)) = va_cpy (fun p => N (5 + 6 * p + w)) (fun p => M (5 + 6 * p + w)) 0 0 8 from funext fun q => by
      simp only [mxW, va_cpy]
      by_cases hq : q < 8
      · rw [if_pos (by omega), if_pos (by omega), show 0 + (q - 0) = q by omega]
      · rw [if_neg (by omega), if_neg (by omega)]]
  have hO : cScO G i (mxW N M w) = cScO G i M := by
    have hk : ∀ k : Nat, k < 5 → mxW N M w k = M k := fun k hk => by simp only [mxW]; rw [if_neg (by omega)]
    unfold cScO
    rw [hk 0 (by decide), hk 1 (by decide), hk 2 (by decide), hk 3 (by decide), hk 4 (by decide)]
  rw [← h0]
  unfold cSc
  rw [hO]
  match w, hw with
  | 0, _ => rw [h 1 (by decide) (by decide), h 2 (by decide) (by decide), h 3 (by decide) (by decide), h 4 (by decide) (by decide), h 5 (by decide) (by decide)]; rfl
  | 1, _ => rw [h 0 (by decide) (by decide), h 2 (by decide) (by decide), h 3 (by decide) (by decide), h 4 (by decide) (by decide), h 5 (by decide) (by decide)]; rfl
  | 2, _ => rw [h 1 (by decide) (by decide), h 0 (by decide) (by decide), h 3 (by decide) (by decide), h 4 (by decide) (by decide), h 5 (by decide) (by decide)]; rfl
  | 3, _ => rw [h 1 (by decide) (by decide), h 2 (by decide) (by decide), h 0 (by decide) (by decide), h 4 (by decide) (by decide), h 5 (by decide) (by decide)]; rfl
  | 4, _ => rw [h 1 (by decide) (by decide), h 2 (by decide) (by decide), h 3 (by decide) (by decide), h 0 (by decide) (by decide), h 5 (by decide) (by decide)]; rfl
  | 5, _ => rw [h 1 (by decide) (by decide), h 2 (by decide) (by decide), h 3 (by decide) (by decide), h 4 (by decide) (by decide), h 0 (by decide) (by decide)]; rfl
theorem cW_scA (G : Geo) (u : Sg) {i w : Nat} (hi : i < 3) (hw : w < 6) {M : Nat → Int32} (hM : u.1 i = M) : (cW G u)[1 + 7 * i + (1 + w)]? = some (cScA G i w M) := by
  obtain ⟨A, B, hA, hc⟩ := cW_sc G u hi
  have h := hc M
  rw [sI_id hM] at h
  rw [h]
  exact at_sc hA (cA_at G i M hw)
section HDO
variable {p : Program} {l : Launch} {e : Env} {R : Room} {s : State} {m : MethodId} {args : Array Value} {below : List Frame} {meth : Method} {c : Code} {H : Heap} {locs : List Loc} {Q : State → Prop}
variable {cc : ByteArray} {pc nc ns index : Nat} {ls : Array Slot} {rest : List Value} {G : Geo} {u u' : Sg} {own : String}
theorem sc_cpy (hx : p.tables.exec = Jvm.exec) (hb : c.code = cc) (hml : c.maxLocals = ls.size) (hown : s.vm.findClass own = some m.cls) (hlink : (Cond.methodLink own index arraycopyName).before args s = true) (hnat : (Cond.native arraycopyName).before args s = true) (hstat : (Cond.static arraycopyName).before args s = true) (hini : (Cond.initialized "java/lang/System").before args s = true)
    (hE : E0 G s s.heap) (hP : WP G u H) (hS : va_S (gA G) s.heap H locs) {i j : Nat} (hi : i < 3) (hj : j < 3) (w : Nat) (hw : w < 6) {M N : Nat → Int32} (hM : u.1 i = M) (hN : u.1 j = N) (hu : sI u i (mxW N M w) = u') (hframes : 1 ≤ R.frames) (hlocals : (rest.map fun v => v.category).sum + (nativeFrameWords "java/lang/System" "arraycopy" 5 + 11) ≤ R.locals) (hdg : decode cc pc = .ok (.invokestatic index, 3))
    (kk : ∀ (H1 : Heap) (locs1 : List Loc), WP G u' H1 → va_S (gA G) s.heap H1 locs1 → W p l e R s m args below meth c H1 locs1 nc ns Q (F0 m (pc + 3) ls rest)) : W p l e R s m args below meth c H locs nc ns Q (F0 m pc ls (.int 8 :: .int 0 :: .ref (gSA G i w) :: .int 0 :: .ref (gSA G j w) :: rest)) := by
  refine va_copyi (ty := .int) hx hb hml hown hlink hnat hstat hini hE.1 hP (hE.D _) hS (1 + 7 * j + (1 + w)) (1 + 7 * i + (1 + w)) 0 0 (cW_scA G u hj hw hN) (cW_scA G u hi hw hM) rfl rfl rfl (by decide) (by decide) (by decide) (by decide) (by decide) (fun _ _ => rfl) hframes hlocals hdg (fun H1 locs1 hP1 _ hS1 => kk H1 locs1 ?_ hS1)
  obtain ⟨A, B, hA, hc⟩ := cW_sc G u hi
  have h := hc M
  rw [sI_id hM] at h
  rw [h, show (0 : Int32).toNatClampNeg = 0 from rfl, show (8 : Int32).toNatClampNeg = 8 from rfl, set_sc hA (show 1 + w < (cSc G i M).length from by show 1 + w < 7; omega), cSc_cpy G i M N hw, ← hc] at hP1
  rw [← hu]
  exact hP1
end HDO
theorem mx_all {M N : Nat → Int32} (hM : ∀ j : Nat, 53 ≤ j → M j = 0) (hN : ∀ j : Nat, 53 ≤ j → N j = 0) : mxW N (mxW N (mxW N (mxW N (mxW N (mxW N (upd (upd (upd (upd (upd M 0 (N 0)) 1 (N 1)) 2 (N 2)) 3 (N 3)) 4 (N 4)) 0) 1) 2) 3) 4) 5 = N := by
  funext q
  by_cases h1 : q < 5
  · rcases (show q = 0 ∨ q = 1 ∨ q = 2 ∨ q = 3 ∨ q = 4 by omega) with rfl | rfl | rfl | rfl | rfl <;> simp [mxW, upd]
  · by_cases h2 : q < 53
    · rcases (show (q - 5) % 6 = 0 ∨ (q - 5) % 6 = 1 ∨ (q - 5) % 6 = 2 ∨ (q - 5) % 6 = 3 ∨ (q - 5) % 6 = 4 ∨ (q - 5) % 6 = 5 by omega) with h | h | h | h | h | h <;> simp [mxW, h, show 5 ≤ q by omega, h2]
    · simp only [mxW, upd]
      rw [if_neg (by omega), if_neg (by omega), if_neg (by omega), if_neg (by omega), if_neg (by omega), if_neg (by omega), if_neg (by omega), if_neg (by omega), if_neg (by omega), if_neg (by omega), if_neg (by omega), hM q (by omega), hN q (by omega)]
