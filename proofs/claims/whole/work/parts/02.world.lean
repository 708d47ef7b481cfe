/-! ===== THE STATE: regions of numbers (ints: first; longs: second), and the cells that hold it ===== -/
abbrev Sg : Type := (Nat → Nat → Int32) × (Nat → Nat → Int64)
def sI (u : Sg) (c : Nat) (f : Nat → Int32) : Sg := (fun k => if k = c then f else u.1 k, u.2)
def sL (u : Sg) (c : Nat) (f : Nat → Int64) : Sg := (u.1, fun k => if k = c then f else u.2 k)
theorem sI_at (u : Sg) (c : Nat) (f : Nat → Int32) : (sI u c f).1 c = f := by simp [sI]
theorem sI_ne (u : Sg) {c k : Nat} (f : Nat → Int32) (h : k ≠ c) : (sI u c f).1 k = u.1 k := by simp [sI, h]
theorem sI_2 (u : Sg) (c : Nat) (f : Nat → Int32) : (sI u c f).2 = u.2 := rfl
theorem sL_at (u : Sg) (c : Nat) (f : Nat → Int64) : (sL u c f).2 c = f := by simp [sL]
theorem sL_ne (u : Sg) {c k : Nat} (f : Nat → Int64) (h : k ≠ c) : (sL u c f).2 k = u.2 k := by simp [sL, h]
theorem sL_1 (u : Sg) (c : Nat) (f : Nat → Int64) : (sL u c f).1 = u.1 := rfl
theorem sI_sI (u : Sg) (c : Nat) (f g : Nat → Int32) : sI (sI u c f) c g = sI u c g := by
  refine Prod.ext (funext fun k => ?_) rfl
  by_cases h : k = c
  · simp [sI, h]
  · simp [sI, h]
theorem sI_self (u : Sg) (c : Nat) : sI u c (u.1 c) = u := by
  refine Prod.ext (funext fun k => ?_) rfl
  by_cases h : k = c
  · simp [sI, h]
  · simp [sI, h]
theorem sI_id {u : Sg} {c : Nat} {f : Nat → Int32} (h : u.1 c = f) : sI u c f = u := by rw [← h]; exact sI_self u c
theorem sI_comm (u : Sg) {c d : Nat} (f g : Nat → Int32) (h : c ≠ d) : sI (sI u c f) d g = sI (sI u d g) c f := by
  refine Prod.ext (funext fun k => ?_) rfl
  by_cases h1 : k = c
  · subst h1; simp [sI, h]
  · by_cases h2 : k = d
    · subst h2; simp [sI, h1]
    · simp [sI, h1, h2]
theorem sL_sL (u : Sg) (c : Nat) (f g : Nat → Int64) : sL (sL u c f) c g = sL u c g := by
  refine Prod.ext rfl (funext fun k => ?_)
  by_cases h : k = c
  · simp [sL, h]
  · simp [sL, h]
theorem sL_self (u : Sg) (c : Nat) : sL u c (u.2 c) = u := by
  refine Prod.ext rfl (funext fun k => ?_)
  by_cases h : k = c
  · simp [sL, h]
  · simp [sL, h]
theorem sL_sI (u : Sg) (c d : Nat) (f : Nat → Int64) (g : Nat → Int32) : sL (sI u d g) c f = sI (sL u c f) d g := rfl
theorem sL_1r {u : Sg} {c k : Nat} {f : Nat → Int64} {t : Nat → Int32} (h : u.1 k = t) : (sL u c f).1 k = t := h
theorem sI_2r {u : Sg} {c k : Nat} {f : Nat → Int32} {t : Nat → Int64} (h : u.2 k = t) : (sI u c f).2 k = t := h
abbrev Geo : Type := va_G × (Nat → Nat) × Nat × (Nat → ClassId) × (Nat → Nat) × (Nat → Nat) × Nat
def gD (G : Geo) : va_G := G.1
def gad (G : Geo) : Nat → Nat := G.2.1
def gz (G : Geo) : Nat := G.2.2.1
def gc (G : Geo) : Nat → ClassId := G.2.2.2.1
def gK (G : Geo) : Nat → Nat := G.2.2.2.2.1
def gV (G : Geo) : Nat → Nat := G.2.2.2.2.2.1
def gN (G : Geo) : Nat := G.2.2.2.2.2.2
def gA (G : Geo) : Nat → Prop := fun q => gz G ≤ q
def gS (G : Geo) (i : Nat) : Nat := gad G (1 + 7 * i)
def gSA (G : Geo) (i w : Nat) : Nat := gad G (2 + 7 * i + w)
def gH (G : Geo) (i : Nat) : Nat := gad G (26 + 2 * i)
def gHN (G : Geo) (i : Nat) : Nat := gad G (27 + 2 * i)
/-- a Scene, and its six rows -/
def cScO (G : Geo) (i : Nat) (M : Nat → Int32) : Nat × va_E := (gS G i, .inr (0, [.int (M 0), .int (M 1), .int (M 2), .int (M 3), .int (M 4), .ref (gSA G i 0), .ref (gSA G i 1), .ref (gSA G i 2), .ref (gSA G i 3), .ref (gSA G i 4), .ref (gSA G i 5)]))
def cScA (G : Geo) (i w : Nat) (M : Nat → Int32) : Nat × va_E := (gSA G i w, .inl (gc G 0, 8, .inl (fun p => M (5 + 6 * p + w))))
def cSc (G : Geo) (i : Nat) (M : Nat → Int32) : va_W := [cScO G i M, cScA G i 0 M, cScA G i 1 M, cScA G i 2 M, cScA G i 3 M, cScA G i 4 M, cScA G i 5 M]
def cDo (G : Geo) (f : Nat → Int32) : Nat × va_E := (gad G 0, .inr (3, [.ref (gS G 0), .ref (gS G 1), .ref (gS G 2), .int (f 0), .ref (gad G 22), .ref (gad G 24), .ref (gad G 25)]))
def cTx (G : Geo) (f : Nat → Int32) : Nat × va_E := (gad G 22, .inr (2, [.ref (gad G 23), .int (f 1), .int (f 2), .int (f 3), .int (f 4), .int (f 5)]))
def cTp (G : Geo) (f : Nat → Int32) : Nat × va_E := (gad G 23, .inl (gc G 2, 120, .inl f))
def cSs (G : Geo) : Nat × va_E := (gad G 24, .inl (gc G 3, 4, .inr (.inr (.inr (.inr (fun i => some (gH G i)))))))
def cFi (G : Geo) (f : Nat → Int32) : Nat × va_E := (gad G 25, .inl (gc G 0, 7, .inl f))
def cShO (G : Geo) (i : Nat) (f : Nat → Int32) : Nat × va_E := (gH G i, .inr (1, [.int (f 0), .int (f 1), .ref (gHN G i)]))
def cShN (G : Geo) (i : Nat) (f : Nat → Int64) : Nat × va_E := (gHN G i, .inl (gc G 1, 40, .inr (.inl f)))
def cMo (G : Geo) (f : Nat → Int32) : Nat × va_E := (gad G 34, .inr (4, [.ref (gad G 35), .ref (gad G 36), .ref (gad G 37), .int (f 3), .ref (gad G 38), .ref (gad G 39), .int (f 6), .int (f 7), .int (f 8), .int (f 9), .int (f 10), .int (f 11), .ref (gad G 40), .ref (gad G 41), .ref (gad G 42)]))
def cAr (G : Geo) (k n : Nat) (f : Nat → Int32) : Nat × va_E := (gad G k, .inl (gc G 0, n, .inl f))
def cCe (G : Geo) (f : Nat → Int64) : Nat × va_E := (gad G 42, .inl (gc G 1, 160, .inr (.inl f)))
def cW (G : Geo) (u : Sg) : va_W :=
  cDo G (u.1 3) :: (cSc G 0 (u.1 0) ++ (cSc G 1 (u.1 1) ++ (cSc G 2 (u.1 2) ++ [cTx G (u.1 4), cTp G (u.1 5), cSs G, cFi G (u.1 6), cShO G 0 (u.1 7), cShN G 0 (u.2 0), cShO G 1 (u.1 8), cShN G 1 (u.2 1), cShO G 2 (u.1 9), cShN G 2 (u.2 2), cShO G 3 (u.1 10), cShN G 3 (u.2 3),
    cMo G (u.1 14), cAr G 35 53 (u.1 11), cAr G 36 53 (u.1 12), cAr G 37 53 (u.1 13), cAr G 38 7 (u.1 15), cAr G 39 120 (u.1 16), cAr G 40 4 (u.1 17), cAr G 41 4 (u.1 18), cCe G (u.2 4)])))
theorem cW_ad (G : Geo) (u : Sg) : (cW G u).map Prod.fst = (List.range 43).map (gad G) := rfl
def WP (G : Geo) (u : Sg) (H : Heap) : Prop := va_P (gD G) vwCl (cW G u) H
theorem WP.cast {G : Geo} {u v : Sg} {H : Heap} (h : WP G u H) (e : u = v) : WP G v H := e ▸ h
def gT (G : Geo) : List (ClassId × FieldType) := [(gc G 0, .int), (gc G 1, .long), (gc G 2, .byte), (gc G 3, .object "HeldDoor$Sheet")]
def sLen : List Nat := [6, 3, 3, 8, 6, 5, 4, 4, 4, 4]
def sByt : List (List Int32) := [[119, 111, 114, 107, 101, 114], [110, 101, 119], [111, 108, 100], [115, 116, 114, 97, 110, 103, 101, 114], [116, 101, 115, 116, 101, 114], [103, 117, 97, 114, 100], [108, 111, 97, 100], [98, 97, 114, 101], [99, 97, 114, 101], [111, 112, 101, 110]]
def sOwn (i : Nat) : String := if i < 6 then "HeldDoor$Kinds" else "HeldDoor$Text"
def sIdx (i : Nat) : Nat := [13, 15, 17, 19, 21, 23, 72, 78, 46, 60].getD i 0
def sTx (i : Nat) : String := ["worker", "new", "old", "stranger", "tester", "guard", "load", "bare", "care", "open"].getD i ""
/-- the words of the model, eight places each -/
def nmB (j : Nat) : Int32 := (sByt.getD (j / 8) []).getD (j % 8) 0
def E0 (G : Geo) (U : State) (H : Heap) : Prop :=
  va_K (gD G) vwCl (gT G) U ∧ ((∀ i j : Nat, i < 43 → j < 43 → gad G i = gad G j → i = j) ∧ ∀ i : Nat, i < 43 → gz G ≤ gad G i) ∧
  (vk_S 10 sLen sByt (gK G) (gV G) (gA G) U H ∧ ∀ i : Nat, i < 10 → vk_R (sOwn i) (sIdx i) (sTx i) (gK G i) U) ∧
  (va_Z "java/lang/String" "COMPACT_STRINGS" "Z" (.int 1) (gA G) U H ∧ va_Z "HeldDoorModel" "NAMES" "[I" (.ref (gN G)) (gA G) U H ∧ va_T .int (gN G) 80 (fun j => .int (nmB j)) (gA G) U H ∧ va_Zq "jdk/internal/util/Preconditions" "SIOOBE_FORMATTER" "Ljava/util/function/BiFunction;" (gA G) U H)
theorem E0.D {G : Geo} {U : State} {H : Heap} (h : E0 G U H) (u : Sg) : va_D (gA G) (cW G u) := by
  have key : ∀ (k : Nat) (q : Nat × va_E), (cW G u)[k]? = some q → k < 43 ∧ gad G k = q.1 := by
    intro k q hk
    have h1 : ((cW G u).map Prod.fst)[k]? = some q.1 := by rw [List.getElem?_map, hk]; rfl
    rw [cW_ad, List.getElem?_map] at h1
    by_cases hk2 : k < 43
    · rw [List.getElem?_range hk2] at h1
      exact ⟨hk2, Option.some.inj h1⟩
    · rw [List.getElem?_eq_none (by simpa using hk2)] at h1
      cases h1
  refine ⟨fun i j x y hi hj e => ?_, fun k q hk => ?_⟩
  · obtain ⟨h1, h2⟩ := key i x hi
    obtain ⟨h3, h4⟩ := key j y hj
    exact h.2.1.1 i j h1 h3 (h2.trans (e.trans h4.symm))
  · obtain ⟨h1, h2⟩ := key k q hk
    rw [← h2]
    exact h.2.1.2 k h1
theorem E0.calling {G : Geo} {U : State} (g : JFrame) (mk : MethodId) (a : Array Value) (h : E0 G U U.heap) : E0 G (U.calling g mk a) (U.calling g mk a).heap := by
  obtain ⟨h1, h2, ⟨h3, h4⟩, h5, h6, h7, h8⟩ := h
  exact ⟨va_K.moved (u := U) (U := U.calling g mk a) (Vm.Alike.refl U.vm) h1, h2, ⟨vk_S.moved (u := U) (U := U.calling g mk a) (Vm.Alike.refl U.vm) h3, fun i hi => vk_R.same (u := U) rfl (h4 i hi)⟩,
    va_Z.moved (u := U) (U := U.calling g mk a) (Vm.Alike.refl U.vm) h5, va_Z.moved (u := U) (U := U.calling g mk a) (Vm.Alike.refl U.vm) h6, va_T.moved (u := U) (U := U.calling g mk a) (Vm.Alike.refl U.vm) h7, va_Zq.moved (u := U) (U := U.calling g mk a) (Vm.Alike.refl U.vm) h8⟩
theorem E0.go {G : Geo} {s U : State} {H : Heap} {locs : List Loc} (h : E0 G s s.heap) (hS : va_S (gA G) s.heap H locs) (hU : U.heap = H) (hW : s.WarmedH U.vm) : E0 G U U.heap := by
  obtain ⟨h1, h2, ⟨h3, h4⟩, h5, h6, h7, h8⟩ := h
  rw [hU]
  have hq : ∀ a : Nat, a < s.heap.size → ¬ gA G a → H[a]? = s.heap[a]? := hS.2.1
  exact ⟨va_K.moved hW.alike h1, h2, ⟨(vk_S.moved hW.alike h3).kept hq, fun i hi => (h4 i hi).warm hW⟩, (va_Z.moved hW.alike h5).kept hq, (va_Z.moved hW.alike h6).kept hq, (va_T.moved hW.alike h7).kept hq, (va_Zq.moved hW.alike h8).kept hq⟩
/-! ===== contracts over the whole state: from u; 'post answer u2' at the end ===== -/
def Pre0 (G : Geo) (av : List Value) (u : Sg) : Array Value → State → Prop := va_Pc av (fun U => E0 G U U.heap ∧ WP G u U.heap)
def CtI (l : Launch) (G : Geo) (y : MethodName) (ws : List Cond) (rm : Room) (av : List Value) (u : Sg) (post : Int32 → Sg → Prop) : Prop :=
  Met l y ws rm (Pre0 G av u) (va_Qi post (fun v t => WP G v t.heap) (gA G)) 0 0 (gA G)
def CtV (l : Launch) (G : Geo) (y : MethodName) (ws : List Cond) (rm : Room) (av : List Value) (u : Sg) (post : Sg → Prop) : Prop :=
  Met l y ws rm (Pre0 G av u) (va_Qv post (fun v t => WP G v t.heap) (gA G)) 0 0 (gA G)
def CtL (l : Launch) (G : Geo) (y : MethodName) (ws : List Cond) (rm : Room) (av : List Value) (u : Sg) (post : Int64 → Sg → Prop) : Prop :=
  Met l y ws rm (Pre0 G av u) (va_Ql post (fun v t => WP G v t.heap) (gA G)) 0 0 (gA G)
/-- a reference comes back: which one is said -/
def CtR (l : Launch) (G : Geo) (y : MethodName) (ws : List Cond) (rm : Room) (av : List Value) (u : Sg) (a : Nat) (v : Sg) : Prop :=
  Met l y ws rm (Pre0 G av u) (va_Qr (fun w : Sg => w = v) (fun w b t => b = a ∧ WP G w t.heap) (gA G)) 0 0 (gA G)
def rmO (f n : Nat) : Room := { frames := f, cells := 0, slots := 0, locals := n }
theorem Pre0.blind (G : Geo) (av : List Value) (u : Sg) : FrameBlind (Pre0 G av u) := fun a U g mk q => ⟨q.1, q.2.1.calling g mk a, q.2.2⟩
section HDC
variable {p : Program} {l : Launch} {e : Env} {R : Room} {s : State} {m : MethodId} {args : Array Value} {below : List Frame} {meth : Method} {c : Code} {H : Heap} {locs : List Loc} {Q : State → Prop}
variable {cc bytes : ByteArray} {pc nL maxL n index : Nat} {ls : Array Slot} {rest As : List Value} {G : Geo} {u u' : Sg} {own C : String} {y : MethodName} {ret : Option FieldType} {ws Ts : List Cond} {rm : Room} {b : Nat}
theorem hd_preV (hE : E0 G s s.heap) (hP : WP G u H) (hS : va_S (gA G) s.heap H locs) (hu : u = u') (hrecv : ∃ cellB : Cell, H[b]? = some cellB ∧ cellB.vm.isStatics = false ∧ s.vm.findClass C = some cellB.cls) : PreV s H C b (Pre0 G (.ref b :: As) u') As :=
  ⟨Pre0.blind _ _ _, hrecv, fun U hU hW => ⟨rfl, hE.go hS hU hW, by rw [hU, ← hu]; exact hP⟩⟩
theorem hd_preS (hE : E0 G s s.heap) (hP : WP G u H) (hS : va_S (gA G) s.heap H locs) (hu : u = u') : PreS s H (Pre0 G As u') As :=
  ⟨Pre0.blind _ _ _, fun U hU hW => ⟨rfl, hE.go hS hU hW, by rw [hU, ← hu]; exact hP⟩⟩
/-- a call of a method of an object, an int comes back -/
theorem hd_callVi {post : Int32 → Sg → Prop} (F : CallFix p m c cc nL s args Ts own) (hE : E0 G s s.heap) (hP : WP G u H) (hS : va_S (gA G) s.heap H locs) (hM : CtI l G y ws rm (.ref b :: As) u' post) (hu : u = u') (cw : CallW R s args own C index y bytes maxL ret ws rm 0 0 n) (hrecv : ∃ cellB : Cell, H[b]? = some cellB ∧ cellB.vm.isStatics = false ∧ s.vm.findClass C = some cellB.cls)
    (hn : As.length = n) (hsize : ls.size = nL) {st : List Value} (hst : st = As.reverse ++ .ref b :: rest) (hW : (rest.map fun v => v.category).sum ≤ 8) (hdg : decode cc pc = .ok (.invokevirtual index, 3))
    (kk : ∀ (r : Int32) (v : Sg) (H1 : Heap) (locs1 : List Loc), post r v → WP G v H1 → va_S (gA G) s.heap H1 locs1 → W p l e R s m args below meth c H1 locs1 0 0 Q (F0 m (pc + 3) ls (.int r :: rest))) : W p l e R s m args below meth c H locs 0 0 Q (F0 m pc ls st) :=
  va_calli (va_runV (rest := rest) F hM cw (hd_preV hE hP hS hu hrecv) rfl hn hsize hst (lv_room hW) hdg ⟨Nat.zero_le _, Nat.zero_le _⟩) hS (fun _ _ h => h) (fun _ h => h) (fun r v t H1 locs1 ht _ hp hB _ _ hS1 => kk r v H1 locs1 hp (by rw [← ht]; exact hB) hS1)
theorem hd_callVl {post : Int64 → Sg → Prop} (F : CallFix p m c cc nL s args Ts own) (hE : E0 G s s.heap) (hP : WP G u H) (hS : va_S (gA G) s.heap H locs) (hM : CtL l G y ws rm (.ref b :: As) u' post) (hu : u = u') (cw : CallW R s args own C index y bytes maxL ret ws rm 0 0 n) (hrecv : ∃ cellB : Cell, H[b]? = some cellB ∧ cellB.vm.isStatics = false ∧ s.vm.findClass C = some cellB.cls)
    (hn : As.length = n) (hsize : ls.size = nL) {st : List Value} (hst : st = As.reverse ++ .ref b :: rest) (hW : (rest.map fun v => v.category).sum ≤ 8) (hdg : decode cc pc = .ok (.invokevirtual index, 3))
    (kk : ∀ (r : Int64) (v : Sg) (H1 : Heap) (locs1 : List Loc), post r v → WP G v H1 → va_S (gA G) s.heap H1 locs1 → W p l e R s m args below meth c H1 locs1 0 0 Q (F0 m (pc + 3) ls (.long r :: rest))) : W p l e R s m args below meth c H locs 0 0 Q (F0 m pc ls st) :=
  va_calll (va_runV (rest := rest) F hM cw (hd_preV hE hP hS hu hrecv) rfl hn hsize hst (lv_room hW) hdg ⟨Nat.zero_le _, Nat.zero_le _⟩) hS (fun _ _ h => h) (fun _ h => h) (fun r v t H1 locs1 ht _ hp hB _ _ hS1 => kk r v H1 locs1 hp (by rw [← ht]; exact hB) hS1)
theorem hd_callVv {post : Sg → Prop} (F : CallFix p m c cc nL s args Ts own) (hE : E0 G s s.heap) (hP : WP G u H) (hS : va_S (gA G) s.heap H locs) (hM : CtV l G y ws rm (.ref b :: As) u' post) (hu : u = u') (cw : CallW R s args own C index y bytes maxL ret ws rm 0 0 n) (hrecv : ∃ cellB : Cell, H[b]? = some cellB ∧ cellB.vm.isStatics = false ∧ s.vm.findClass C = some cellB.cls)
    (hn : As.length = n) (hsize : ls.size = nL) {st : List Value} (hst : st = As.reverse ++ .ref b :: rest) (hW : (rest.map fun v => v.category).sum ≤ 8) (hdg : decode cc pc = .ok (.invokevirtual index, 3))
    (kk : ∀ (v : Sg) (H1 : Heap) (locs1 : List Loc), post v → WP G v H1 → va_S (gA G) s.heap H1 locs1 → W p l e R s m args below meth c H1 locs1 0 0 Q (F0 m (pc + 3) ls rest)) : W p l e R s m args below meth c H locs 0 0 Q (F0 m pc ls st) :=
  va_callv (va_runV (rest := rest) F hM cw (hd_preV hE hP hS hu hrecv) rfl hn hsize hst (lv_room hW) hdg ⟨Nat.zero_le _, Nat.zero_le _⟩) hS (fun _ _ h => h) (fun _ h => h) (fun v t H1 locs1 ht _ hp hB _ _ hS1 => kk v H1 locs1 hp (by rw [← ht]; exact hB) hS1)
theorem hd_callVr {a : Nat} {v : Sg} (F : CallFix p m c cc nL s args Ts own) (hE : E0 G s s.heap) (hP : WP G u H) (hS : va_S (gA G) s.heap H locs) (hM : CtR l G y ws rm (.ref b :: As) u' a v) (hu : u = u') (cw : CallW R s args own C index y bytes maxL ret ws rm 0 0 n) (hrecv : ∃ cellB : Cell, H[b]? = some cellB ∧ cellB.vm.isStatics = false ∧ s.vm.findClass C = some cellB.cls)
    (hn : As.length = n) (hsize : ls.size = nL) {st : List Value} (hst : st = As.reverse ++ .ref b :: rest) (hW : (rest.map fun v => v.category).sum ≤ 8) (hdg : decode cc pc = .ok (.invokevirtual index, 3))
    (kk : ∀ (H1 : Heap) (locs1 : List Loc), WP G v H1 → va_S (gA G) s.heap H1 locs1 → W p l e R s m args below meth c H1 locs1 0 0 Q (F0 m (pc + 3) ls (.ref a :: rest))) : W p l e R s m args below meth c H locs 0 0 Q (F0 m pc ls st) :=
  va_callr (va_runV (rest := rest) F hM cw (hd_preV hE hP hS hu hrecv) rfl hn hsize hst (lv_room hW) hdg ⟨Nat.zero_le _, Nat.zero_le _⟩) hS (fun _ _ h => h) (fun _ h => h) (fun w ra t H1 locs1 ht _ hp hB _ _ hS1 => by
    obtain ⟨rfl, hB⟩ := hB
    subst hp
    exact kk H1 locs1 (by rw [← ht]; exact hB) hS1)
theorem hd_callSi {post : Int32 → Sg → Prop} (F : CallFix p m c cc nL s args Ts own) (hE : E0 G s s.heap) (hP : WP G u H) (hS : va_S (gA G) s.heap H locs) (hM : CtI l G y ws rm As u' post) (hu : u = u') (cw : CallB R s args own index y bytes maxL ret ws rm 0 0 n ∧ (Cond.static y).before args s = true)
    (hn : As.length = n) (hsize : ls.size = nL) {st : List Value} (hst : st = As.reverse ++ rest) (hW : (rest.map fun v => v.category).sum ≤ 8) (hdg : decode cc pc = .ok (.invokestatic index, 3))
    (kk : ∀ (r : Int32) (v : Sg) (H1 : Heap) (locs1 : List Loc), post r v → WP G v H1 → va_S (gA G) s.heap H1 locs1 → W p l e R s m args below meth c H1 locs1 0 0 Q (F0 m (pc + 3) ls (.int r :: rest))) : W p l e R s m args below meth c H locs 0 0 Q (F0 m pc ls st) :=
  va_calli (va_runS (rest := rest) F hM cw (hd_preS hE hP hS hu) rfl hn hsize hst (lv_room hW) hdg ⟨Nat.zero_le _, Nat.zero_le _⟩) hS (fun _ _ h => h) (fun _ h => h) (fun r v t H1 locs1 ht _ hp hB _ _ hS1 => kk r v H1 locs1 hp (by rw [← ht]; exact hB) hS1)
theorem hd_callSl {post : Int64 → Sg → Prop} (F : CallFix p m c cc nL s args Ts own) (hE : E0 G s s.heap) (hP : WP G u H) (hS : va_S (gA G) s.heap H locs) (hM : CtL l G y ws rm As u' post) (hu : u = u') (cw : CallB R s args own index y bytes maxL ret ws rm 0 0 n ∧ (Cond.static y).before args s = true)
    (hn : As.length = n) (hsize : ls.size = nL) {st : List Value} (hst : st = As.reverse ++ rest) (hW : (rest.map fun v => v.category).sum ≤ 8) (hdg : decode cc pc = .ok (.invokestatic index, 3))
    (kk : ∀ (r : Int64) (v : Sg) (H1 : Heap) (locs1 : List Loc), post r v → WP G v H1 → va_S (gA G) s.heap H1 locs1 → W p l e R s m args below meth c H1 locs1 0 0 Q (F0 m (pc + 3) ls (.long r :: rest))) : W p l e R s m args below meth c H locs 0 0 Q (F0 m pc ls st) :=
  va_calll (va_runS (rest := rest) F hM cw (hd_preS hE hP hS hu) rfl hn hsize hst (lv_room hW) hdg ⟨Nat.zero_le _, Nat.zero_le _⟩) hS (fun _ _ h => h) (fun _ h => h) (fun r v t H1 locs1 ht _ hp hB _ _ hS1 => kk r v H1 locs1 hp (by rw [← ht]; exact hB) hS1)
theorem hd_callSv {post : Sg → Prop} (F : CallFix p m c cc nL s args Ts own) (hE : E0 G s s.heap) (hP : WP G u H) (hS : va_S (gA G) s.heap H locs) (hM : CtV l G y ws rm As u' post) (hu : u = u') (cw : CallB R s args own index y bytes maxL ret ws rm 0 0 n ∧ (Cond.static y).before args s = true)
    (hn : As.length = n) (hsize : ls.size = nL) {st : List Value} (hst : st = As.reverse ++ rest) (hW : (rest.map fun v => v.category).sum ≤ 8) (hdg : decode cc pc = .ok (.invokestatic index, 3))
    (kk : ∀ (v : Sg) (H1 : Heap) (locs1 : List Loc), post v → WP G v H1 → va_S (gA G) s.heap H1 locs1 → W p l e R s m args below meth c H1 locs1 0 0 Q (F0 m (pc + 3) ls rest)) : W p l e R s m args below meth c H locs 0 0 Q (F0 m pc ls st) :=
  va_callv (va_runS (rest := rest) F hM cw (hd_preS hE hP hS hu) rfl hn hsize hst (lv_room hW) hdg ⟨Nat.zero_le _, Nat.zero_le _⟩) hS (fun _ _ h => h) (fun _ h => h) (fun v t H1 locs1 ht _ hp hB _ _ hS1 => kk v H1 locs1 hp (by rw [← ht]; exact hB) hS1)
theorem hd_callSr {a : Nat} {v : Sg} (F : CallFix p m c cc nL s args Ts own) (hE : E0 G s s.heap) (hP : WP G u H) (hS : va_S (gA G) s.heap H locs) (hM : CtR l G y ws rm As u' a v) (hu : u = u') (cw : CallB R s args own index y bytes maxL ret ws rm 0 0 n ∧ (Cond.static y).before args s = true)
    (hn : As.length = n) (hsize : ls.size = nL) {st : List Value} (hst : st = As.reverse ++ rest) (hW : (rest.map fun v => v.category).sum ≤ 8) (hdg : decode cc pc = .ok (.invokestatic index, 3))
    (kk : ∀ (H1 : Heap) (locs1 : List Loc), WP G v H1 → va_S (gA G) s.heap H1 locs1 → W p l e R s m args below meth c H1 locs1 0 0 Q (F0 m (pc + 3) ls (.ref a :: rest))) : W p l e R s m args below meth c H locs 0 0 Q (F0 m pc ls st) :=
  va_callr (va_runS (rest := rest) F hM cw (hd_preS hE hP hS hu) rfl hn hsize hst (lv_room hW) hdg ⟨Nat.zero_le _, Nat.zero_le _⟩) hS (fun _ _ h => h) (fun _ h => h) (fun w ra t H1 locs1 ht _ hp hB _ _ hS1 => by
    obtain ⟨rfl, hB⟩ := hB
    subst hp
    exact kk H1 locs1 (by rw [← ht]; exact hB) hS1)
/-- the ends -/
theorem hd_iret {post : Int32 → Sg → Prop} {v : Int32} (hx : p.tables.exec = Jvm.exec) (hb : c.code = cc) (hr : meth.sig.returnType = some .int) (hlocks : meth.locks = false) (hP : WP G u H) (hS : va_S (gA G) s.heap H locs) (hp : post v u) (hdg : decode cc pc = .ok (.ireturn, 1)) :
    W p l e R s m args below meth c H locs 0 0 (MQ below (va_Qi post (fun v t => WP G v t.heap) (gA G)) args s 0 0 (gA G)) (F0 m pc ls [.int v]) :=
  W.iret hx hb hr (fun t ht _ => ⟨⟨v, u, rfl, hp, by show WP G u t.heap; rw [ht]; exact hP⟩, hS.F ht⟩) hS.2.2 hdg hlocks
theorem hd_zret {post : Int32 → Sg → Prop} {v : Int32} {ty : FieldType} (hx : p.tables.exec = Jvm.exec) (hb : c.code = cc) (hr : meth.sig.returnType = some ty) (hlocks : meth.locks = false) (hP : WP G u H) (hS : va_S (gA G) s.heap H locs) (hp : post v u) (hn : narrow ty (.int v) = .int v) (hdg : decode cc pc = .ok (.ireturn, 1)) :
    W p l e R s m args below meth c H locs 0 0 (MQ below (va_Qi post (fun v t => WP G v t.heap) (gA G)) args s 0 0 (gA G)) (F0 m pc ls [.int v]) :=
  W.zret hx hb hr hn (fun t ht _ => ⟨⟨v, u, rfl, hp, by show WP G u t.heap; rw [ht]; exact hP⟩, hS.F ht⟩) hS.2.2 hdg hlocks
theorem hd_lret {post : Int64 → Sg → Prop} {v : Int64} (hx : p.tables.exec = Jvm.exec) (hb : c.code = cc) (hr : meth.sig.returnType = some .long) (hlocks : meth.locks = false) (hP : WP G u H) (hS : va_S (gA G) s.heap H locs) (hp : post v u) (hdg : decode cc pc = .ok (.lreturn, 1)) :
    W p l e R s m args below meth c H locs 0 0 (MQ below (va_Ql post (fun v t => WP G v t.heap) (gA G)) args s 0 0 (gA G)) (F0 m pc ls [.long v]) :=
  W.lret hx hb hr (fun t ht _ => ⟨⟨v, u, rfl, hp, by show WP G u t.heap; rw [ht]; exact hP⟩, hS.F ht⟩) hS.2.2 hdg hlocks
theorem hd_vret {post : Sg → Prop} (hx : p.tables.exec = Jvm.exec) (hb : c.code = cc) (hr : meth.sig.returnType = none) (hlocks : meth.locks = false) (hP : WP G u H) (hS : va_S (gA G) s.heap H locs) (hp : post u) (hdg : decode cc pc = .ok (.return_, 1)) :
    W p l e R s m args below meth c H locs 0 0 (MQ below (va_Qv post (fun v t => WP G v t.heap) (gA G)) args s 0 0 (gA G)) (F0 m pc ls []) :=
  W.vret hx hb hr (fun t ht _ => ⟨⟨u, rfl, hp, by show WP G u t.heap; rw [ht]; exact hP⟩, hS.F ht⟩) hS.2.2 hdg hlocks
theorem hd_aret {a : Nat} {v : Sg} {rt : FieldType} (hx : p.tables.exec = Jvm.exec) (hb : c.code = cc) (hr : meth.sig.returnType = some rt) (hrt : (∃ n, rt = .object n) ∨ ∃ t, rt = .array t) (hlocks : meth.locks = false) (hP : WP G u H) (hS : va_S (gA G) s.heap H locs) (hp : u = v) (hdg : decode cc pc = .ok (.areturn, 1)) :
    W p l e R s m args below meth c H locs 0 0 (MQ below (va_Qr (fun w : Sg => w = v) (fun w b t => b = a ∧ WP G w t.heap) (gA G)) args s 0 0 (gA G)) (F0 m pc ls [.ref a]) :=
  W.aret hx hb hr hrt (Or.inr ⟨a, rfl⟩) (fun t ht _ => ⟨⟨u, a, rfl, hp, rfl, by rw [ht]; exact hP⟩, hS.F ht⟩) hS.2.2 hdg hlocks
end HDC
