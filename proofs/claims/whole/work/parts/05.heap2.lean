/-! ===== the door, the text, the sheets, the model ===== -/
theorem TX2_own {k : Nat} (hk : k < 3) : (TX2 k).1 = RX2 := by
  match k, hk with
  | 0, _ => rfl
  | 1, _ => rfl
  | 2, _ => rfl
theorem TX3_own {k : Nat} (hk : k < 6) : (TX3 k).1 = RX3 := by
  match k, hk with
  | 0, _ => rfl
  | 1, _ => rfl
  | 2, _ => rfl
  | 3, _ => rfl
  | 4, _ => rfl
  | 5, _ => rfl
theorem TX4_own {k : Nat} (hk : k < 7) : (TX4 k).1 = RX4 := by
  match k, hk with
  | 0, _ => rfl
  | 1, _ => rfl
  | 2, _ => rfl
  | 3, _ => rfl
  | 4, _ => rfl
  | 5, _ => rfl
  | 6, _ => rfl
theorem TX5_own {k : Nat} (hk : k < 15) : (TX5 k).1 = RX5 := by
  match k, hk with
  | 0, _ => rfl
  | 1, _ => rfl
  | 2, _ => rfl
  | 3, _ => rfl
  | 4, _ => rfl
  | 5, _ => rfl
  | 6, _ => rfl
  | 7, _ => rfl
  | 8, _ => rfl
  | 9, _ => rfl
  | 10, _ => rfl
  | 11, _ => rfl
  | 12, _ => rfl
  | 13, _ => rfl
  | 14, _ => rfl
section HDI
variable {p : Program} {l : Launch} {e : Env} {R : Room} {s : State} {m : MethodId} {args : Array Value} {below : List Frame} {meth : Method} {c : Code} {H : Heap} {locs : List Loc} {Q : State → Prop}
variable {cc : ByteArray} {pc index nc ns : Nat} {ls : Array Slot} {rest : List Value} {G : Geo} {u u' : Sg} {own : String} {Ts : List Cond}
theorem do_at {f : Nat → Int32} (hM : u.1 3 = f) : (cW G u)[0]? = some (gad G 0, .inr (3, doF G f)) := by subst hM; rfl
theorem do_get (hx : p.tables.exec = Jvm.exec) (hb : c.code = cc) (hts : ∀ w ∈ Ts, w.before args s = true) (hin : ∀ w ∈ wsX40, w ∈ Ts) (hown : s.vm.findClass own = some m.cls) (hE : E0 G s s.heap) (hP : WP G u H) {f : Nat → Int32} (hM : u.1 3 = f) (k : Nat) (hk : k < 7) (hlink : (Cond.fieldLink own index RX4 (TX4 k).2.1 (TX4 k).2.2.1).before args s = true) {v : Value} (hv : (doF G f)[k]? = some v) (hdg : decode cc pc = .ok (.getfield index, 3))
    (kk : W p l e R s m args below meth c H locs nc ns Q (F0 m (pc + 3) ls (v :: rest))) : W p l e R s m args below meth c H locs nc ns Q (F0 m pc ls (.ref (gad G 0) :: rest)) :=
  va_get (C := RX4) (T := TX4) (N := 7) (ci := 3) hx hb hts hin hown hE.1 hP 0 (do_at hM) rfl k hk hlink (fun x h => by rw [TX4_own hk] at h; exact h) hv hdg kk
theorem do_recv (hE : E0 G s s.heap) (hP : WP G u H) : ∃ cellB : Cell, H[gad G 0]? = some cellB ∧ cellB.vm.isStatics = false ∧ s.vm.findClass RX4 = some cellB.cls := va_recv hE.1 hP (ci := 3) (q0 := 0) rfl (do_at rfl)
theorem tx_at {f : Nat → Int32} (hM : u.1 4 = f) : (cW G u)[22]? = some (gad G 22, .inr (2, txF G f)) := by subst hM; rfl
theorem tx_get (hx : p.tables.exec = Jvm.exec) (hb : c.code = cc) (hts : ∀ w ∈ Ts, w.before args s = true) (hin : ∀ w ∈ wsX30, w ∈ Ts) (hown : s.vm.findClass own = some m.cls) (hE : E0 G s s.heap) (hP : WP G u H) {f : Nat → Int32} (hM : u.1 4 = f) (k : Nat) (hk : k < 6) (hlink : (Cond.fieldLink own index RX3 (TX3 k).2.1 (TX3 k).2.2.1).before args s = true) {v : Value} (hv : (txF G f)[k]? = some v) (hdg : decode cc pc = .ok (.getfield index, 3))
    (kk : W p l e R s m args below meth c H locs nc ns Q (F0 m (pc + 3) ls (v :: rest))) : W p l e R s m args below meth c H locs nc ns Q (F0 m pc ls (.ref (gad G 22) :: rest)) :=
  va_get (C := RX3) (T := TX3) (N := 6) (ci := 2) hx hb hts hin hown hE.1 hP 22 (tx_at hM) rfl k hk hlink (fun x h => by rw [TX3_own hk] at h; exact h) hv hdg kk
theorem tx_recv (hE : E0 G s s.heap) (hP : WP G u H) : ∃ cellB : Cell, H[gad G 22]? = some cellB ∧ cellB.vm.isStatics = false ∧ s.vm.findClass RX3 = some cellB.cls := va_recv hE.1 hP (ci := 2) (q0 := 22) rfl (tx_at rfl)
theorem mo_at {f : Nat → Int32} (hM : u.1 14 = f) : (cW G u)[34]? = some (gad G 34, .inr (4, moF G f)) := by subst hM; rfl
theorem mo_get (hx : p.tables.exec = Jvm.exec) (hb : c.code = cc) (hts : ∀ w ∈ Ts, w.before args s = true) (hin : ∀ w ∈ wsX50, w ∈ Ts) (hown : s.vm.findClass own = some m.cls) (hE : E0 G s s.heap) (hP : WP G u H) {f : Nat → Int32} (hM : u.1 14 = f) (k : Nat) (hk : k < 15) (hlink : (Cond.fieldLink own index RX5 (TX5 k).2.1 (TX5 k).2.2.1).before args s = true) {v : Value} (hv : (moF G f)[k]? = some v) (hdg : decode cc pc = .ok (.getfield index, 3))
    (kk : W p l e R s m args below meth c H locs nc ns Q (F0 m (pc + 3) ls (v :: rest))) : W p l e R s m args below meth c H locs nc ns Q (F0 m pc ls (.ref (gad G 34) :: rest)) :=
  va_get (C := RX5) (T := TX5) (N := 15) (ci := 4) hx hb hts hin hown hE.1 hP 34 (mo_at hM) rfl k hk hlink (fun x h => by rw [TX5_own hk] at h; exact h) hv hdg kk
theorem mo_recv (hE : E0 G s s.heap) (hP : WP G u H) : ∃ cellB : Cell, H[gad G 34]? = some cellB ∧ cellB.vm.isStatics = false ∧ s.vm.findClass RX5 = some cellB.cls := va_recv hE.1 hP (ci := 4) (q0 := 34) rfl (mo_at rfl)
theorem tx_put (hx : p.tables.exec = Jvm.exec) (hb : c.code = cc) (hts : ∀ w ∈ Ts, w.before args s = true) (hin : ∀ w ∈ wsX30, w ∈ Ts) (hown : s.vm.findClass own = some m.cls) (hE : E0 G s s.heap) (hP : WP G u H) (hS : va_S (gA G) s.heap H locs) {f : Nat → Int32} (hM : u.1 4 = f) (k : Nat) (hk : k = 1 ∨ k = 2 ∨ k = 3 ∨ k = 4 ∨ k = 5) (hlink : (Cond.fieldLink own index RX3 (TX3 k).2.1 (TX3 k).2.2.1).before args s = true) {v : Int32} (hu : sI u 4 (upd f k v) = u') (hdg : decode cc pc = .ok (.putfield index, 3))
    (kk : ∀ (H1 : Heap) (locs1 : List Loc), WP G u' H1 → va_S (gA G) s.heap H1 locs1 → W p l e R s m args below meth c H1 locs1 nc ns Q (F0 m (pc + 3) ls rest)) : W p l e R s m args below meth c H locs nc ns Q (F0 m pc ls (.int v :: .ref (gad G 22) :: rest)) := by
  subst hM
  rcases hk with rfl | rfl | rfl | rfl | rfl
  · exact va_put (C := RX3) (T := TX3) (N := 6) (ci := 2) (ty := .int) (fs := txF G (u.1 4)) hx hb hts hin tyX3 tyX3_ok nmX3 hown hE.1 hP (hE.D _) hS 22 (tx_at rfl) rfl 1 (by decide) hlink (fun x h => h) rfl (tyX3_ok 1 (by decide)) rfl rfl (show 1 < (txF G (u.1 4)).length from Nat.le_of_ble_eq_true rfl) hdg (fun H1 locs1 hP1 _ hS1 => kk H1 locs1 (by rw [← hu]; exact hP1) hS1)
  · exact va_put (C := RX3) (T := TX3) (N := 6) (ci := 2) (ty := .int) (fs := txF G (u.1 4)) hx hb hts hin tyX3 tyX3_ok nmX3 hown hE.1 hP (hE.D _) hS 22 (tx_at rfl) rfl 2 (by decide) hlink (fun x h => h) rfl (tyX3_ok 2 (by decide)) rfl rfl (show 2 < (txF G (u.1 4)).length from Nat.le_of_ble_eq_true rfl) hdg (fun H1 locs1 hP1 _ hS1 => kk H1 locs1 (by rw [← hu]; exact hP1) hS1)
  · exact va_put (C := RX3) (T := TX3) (N := 6) (ci := 2) (ty := .int) (fs := txF G (u.1 4)) hx hb hts hin tyX3 tyX3_ok nmX3 hown hE.1 hP (hE.D _) hS 22 (tx_at rfl) rfl 3 (by decide) hlink (fun x h => h) rfl (tyX3_ok 3 (by decide)) rfl rfl (show 3 < (txF G (u.1 4)).length from Nat.le_of_ble_eq_true rfl) hdg (fun H1 locs1 hP1 _ hS1 => kk H1 locs1 (by rw [← hu]; exact hP1) hS1)
  · exact va_put (C := RX3) (T := TX3) (N := 6) (ci := 2) (ty := .int) (fs := txF G (u.1 4)) hx hb hts hin tyX3 tyX3_ok nmX3 hown hE.1 hP (hE.D _) hS 22 (tx_at rfl) rfl 4 (by decide) hlink (fun x h => h) rfl (tyX3_ok 4 (by decide)) rfl rfl (show 4 < (txF G (u.1 4)).length from Nat.le_of_ble_eq_true rfl) hdg (fun H1 locs1 hP1 _ hS1 => kk H1 locs1 (by rw [← hu]; exact hP1) hS1)
  · exact va_put (C := RX3) (T := TX3) (N := 6) (ci := 2) (ty := .int) (fs := txF G (u.1 4)) hx hb hts hin tyX3 tyX3_ok nmX3 hown hE.1 hP (hE.D _) hS 22 (tx_at rfl) rfl 5 (by decide) hlink (fun x h => h) rfl (tyX3_ok 5 (by decide)) rfl rfl (show 5 < (txF G (u.1 4)).length from Nat.le_of_ble_eq_true rfl) hdg (fun H1 locs1 hP1 _ hS1 => kk H1 locs1 (by rw [← hu]; exact hP1) hS1)
theorem mo_put (hx : p.tables.exec = Jvm.exec) (hb : c.code = cc) (hts : ∀ w ∈ Ts, w.before args s = true) (hin : ∀ w ∈ wsX50, w ∈ Ts) (hown : s.vm.findClass own = some m.cls) (hE : E0 G s s.heap) (hP : WP G u H) (hS : va_S (gA G) s.heap H locs) {f : Nat → Int32} (hM : u.1 14 = f) (k : Nat) (hk : k = 6 ∨ k = 7 ∨ k = 8 ∨ k = 9 ∨ k = 10) (hlink : (Cond.fieldLink own index RX5 (TX5 k).2.1 (TX5 k).2.2.1).before args s = true) {v : Int32} (hu : sI u 14 (upd f k v) = u') (hdg : decode cc pc = .ok (.putfield index, 3))
    (kk : ∀ (H1 : Heap) (locs1 : List Loc), WP G u' H1 → va_S (gA G) s.heap H1 locs1 → W p l e R s m args below meth c H1 locs1 nc ns Q (F0 m (pc + 3) ls rest)) : W p l e R s m args below meth c H locs nc ns Q (F0 m pc ls (.int v :: .ref (gad G 34) :: rest)) := by
  subst hM
  rcases hk with rfl | rfl | rfl | rfl | rfl
  · exact va_put (C := RX5) (T := TX5) (N := 15) (ci := 4) (ty := .int) (fs := moF G (u.1 14)) hx hb hts hin tyX5 tyX5_ok nmX5 hown hE.1 hP (hE.D _) hS 34 (mo_at rfl) rfl 6 (by decide) hlink (fun x h => h) rfl (tyX5_ok 6 (by decide)) rfl rfl (show 6 < (moF G (u.1 14)).length from Nat.le_of_ble_eq_true rfl) hdg (fun H1 locs1 hP1 _ hS1 => kk H1 locs1 (by rw [← hu]; exact hP1) hS1)
  · exact va_put (C := RX5) (T := TX5) (N := 15) (ci := 4) (ty := .int) (fs := moF G (u.1 14)) hx hb hts hin tyX5 tyX5_ok nmX5 hown hE.1 hP (hE.D _) hS 34 (mo_at rfl) rfl 7 (by decide) hlink (fun x h => h) rfl (tyX5_ok 7 (by decide)) rfl rfl (show 7 < (moF G (u.1 14)).length from Nat.le_of_ble_eq_true rfl) hdg (fun H1 locs1 hP1 _ hS1 => kk H1 locs1 (by rw [← hu]; exact hP1) hS1)
  · exact va_put (C := RX5) (T := TX5) (N := 15) (ci := 4) (ty := .int) (fs := moF G (u.1 14)) hx hb hts hin tyX5 tyX5_ok nmX5 hown hE.1 hP (hE.D _) hS 34 (mo_at rfl) rfl 8 (by decide) hlink (fun x h => h) rfl (tyX5_ok 8 (by decide)) rfl rfl (show 8 < (moF G (u.1 14)).length from Nat.le_of_ble_eq_true rfl) hdg (fun H1 locs1 hP1 _ hS1 => kk H1 locs1 (by rw [← hu]; exact hP1) hS1)
  · exact va_put (C := RX5) (T := TX5) (N := 15) (ci := 4) (ty := .int) (fs := moF G (u.1 14)) hx hb hts hin tyX5 tyX5_ok nmX5 hown hE.1 hP (hE.D _) hS 34 (mo_at rfl) rfl 9 (by decide) hlink (fun x h => h) rfl (tyX5_ok 9 (by decide)) rfl rfl (show 9 < (moF G (u.1 14)).length from Nat.le_of_ble_eq_true rfl) hdg (fun H1 locs1 hP1 _ hS1 => kk H1 locs1 (by rw [← hu]; exact hP1) hS1)
  · exact va_put (C := RX5) (T := TX5) (N := 15) (ci := 4) (ty := .int) (fs := moF G (u.1 14)) hx hb hts hin tyX5 tyX5_ok nmX5 hown hE.1 hP (hE.D _) hS 34 (mo_at rfl) rfl 10 (by decide) hlink (fun x h => h) rfl (tyX5_ok 10 (by decide)) rfl rfl (show 10 < (moF G (u.1 14)).length from Nat.le_of_ble_eq_true rfl) hdg (fun H1 locs1 hP1 _ hS1 => kk H1 locs1 (by rw [← hu]; exact hP1) hS1)
theorem mo_putz (hx : p.tables.exec = Jvm.exec) (hb : c.code = cc) (hts : ∀ w ∈ Ts, w.before args s = true) (hin : ∀ w ∈ wsX50, w ∈ Ts) (hown : s.vm.findClass own = some m.cls) (hE : E0 G s s.heap) (hP : WP G u H) (hS : va_S (gA G) s.heap H locs) {f : Nat → Int32} (hM : u.1 14 = f) (k : Nat) (hk : k = 3 ∨ k = 11) (hlink : (Cond.fieldLink own index RX5 (TX5 k).2.1 (TX5 k).2.2.1).before args s = true) {v : Int32} (hn : narrow .boolean (.int v) = .int v ∧ fits .boolean (.int v) = true) (hu : sI u 14 (upd f k v) = u') (hdg : decode cc pc = .ok (.putfield index, 3))
    (kk : ∀ (H1 : Heap) (locs1 : List Loc), WP G u' H1 → va_S (gA G) s.heap H1 locs1 → W p l e R s m args below meth c H1 locs1 nc ns Q (F0 m (pc + 3) ls rest)) : W p l e R s m args below meth c H locs nc ns Q (F0 m pc ls (.int v :: .ref (gad G 34) :: rest)) := by
  subst hM
  rcases hk with rfl | rfl
  · exact va_put (C := RX5) (T := TX5) (N := 15) (ci := 4) (ty := .boolean) (fs := moF G (u.1 14)) hx hb hts hin tyX5 tyX5_ok nmX5 hown hE.1 hP (hE.D _) hS 34 (mo_at rfl) rfl 3 (by decide) hlink (fun x h => h) rfl (tyX5_ok 3 (by decide)) hn.1 hn.2 (show 3 < (moF G (u.1 14)).length from Nat.le_of_ble_eq_true rfl) hdg (fun H1 locs1 hP1 _ hS1 => kk H1 locs1 (by rw [← hu]; exact hP1) hS1)
  · exact va_put (C := RX5) (T := TX5) (N := 15) (ci := 4) (ty := .boolean) (fs := moF G (u.1 14)) hx hb hts hin tyX5 tyX5_ok nmX5 hown hE.1 hP (hE.D _) hS 34 (mo_at rfl) rfl 11 (by decide) hlink (fun x h => h) rfl (tyX5_ok 11 (by decide)) hn.1 hn.2 (show 11 < (moF G (u.1 14)).length from Nat.le_of_ble_eq_true rfl) hdg (fun H1 locs1 hP1 _ hS1 => kk H1 locs1 (by rw [← hu]; exact hP1) hS1)
theorem do_put (hx : p.tables.exec = Jvm.exec) (hb : c.code = cc) (hts : ∀ w ∈ Ts, w.before args s = true) (hin : ∀ w ∈ wsX40, w ∈ Ts) (hown : s.vm.findClass own = some m.cls) (hE : E0 G s s.heap) (hP : WP G u H) (hS : va_S (gA G) s.heap H locs) {f : Nat → Int32} (hM : u.1 3 = f) (hlink : (Cond.fieldLink own index RX4 (TX4 3).2.1 (TX4 3).2.2.1).before args s = true) {v : Int32} (hn : narrow .boolean (.int v) = .int v ∧ fits .boolean (.int v) = true) (hu : sI u 3 (upd f 0 v) = u') (hdg : decode cc pc = .ok (.putfield index, 3))
    (kk : ∀ (H1 : Heap) (locs1 : List Loc), WP G u' H1 → va_S (gA G) s.heap H1 locs1 → W p l e R s m args below meth c H1 locs1 nc ns Q (F0 m (pc + 3) ls rest)) : W p l e R s m args below meth c H locs nc ns Q (F0 m pc ls (.int v :: .ref (gad G 0) :: rest)) := by
  subst hM
  exact va_put (C := RX4) (T := TX4) (N := 7) (ci := 3) (ty := .boolean) (fs := doF G (u.1 3)) hx hb hts hin tyX4 tyX4_ok nmX4 hown hE.1 hP (hE.D _) hS 0 (do_at rfl) rfl 3 (by decide) hlink (fun x h => h) rfl (tyX4_ok 3 (by decide)) hn.1 hn.2 (show 3 < (doF G (u.1 3)).length from Nat.le_of_ble_eq_true rfl) hdg (fun H1 locs1 hP1 _ hS1 => kk H1 locs1 (by rw [← hu]; exact hP1) hS1)
theorem ar_ld (hx : p.tables.exec = Jvm.exec) (hb : c.code = cc) (hE : E0 G s s.heap) (hP : WP G u H) (k n : Nat) (hn : n ≤ 200) {f : Nat → Int32} (ha : (cW G u)[k]? = some (gad G k, .inl (gc G 0, n, .inl f))) (j : Nat) (hj : j < n) (hdg : decode cc pc = .ok (.iaload, 1))
    (kk : W p l e R s m args below meth c H locs nc ns Q (F0 m (pc + 1) ls (.int (f j) :: rest))) : W p l e R s m args below meth c H locs nc ns Q (F0 m pc ls (.int (nI j) :: .ref (gad G k) :: rest)) := by
  obtain ⟨h1, h2⟩ := nI_c hj hn
  refine va_iald hx hb hE.1 hP k 0 ha rfl h1 hdg ?_
  rw [h2]
  exact kk
theorem ar_st (hx : p.tables.exec = Jvm.exec) (hb : c.code = cc) (hE : E0 G s s.heap) (hP : WP G u H) (hS : va_S (gA G) s.heap H locs) (k n : Nat) (hn : n ≤ 200) {f : Nat → Int32} (ha : (cW G u)[k]? = some (gad G k, .inl (gc G 0, n, .inl f))) {r : Nat} (hset : ∀ g : Nat → Int32, (cW G u).set k (gad G k, .inl (gc G 0, n, .inl g)) = cW G (sI u r g)) (j : Nat) (hj : j < n) {v : Int32} (hu : sI u r (upd f j v) = u') (hdg : decode cc pc = .ok (.iastore, 1))
    (kk : ∀ (H1 : Heap) (locs1 : List Loc), WP G u' H1 → va_S (gA G) s.heap H1 locs1 → W p l e R s m args below meth c H1 locs1 nc ns Q (F0 m (pc + 1) ls rest)) : W p l e R s m args below meth c H locs nc ns Q (F0 m pc ls (.int v :: .int (nI j) :: .ref (gad G k) :: rest)) := by
  obtain ⟨h1, h2⟩ := nI_c hj hn
  refine va_iast hx hb hE.1 hP (hE.D _) hS k 0 ha rfl h1 hdg (fun H1 locs1 hP1 _ hS1 => kk H1 locs1 ?_ hS1)
  rw [h2, hset] at hP1
  rw [← hu]
  exact hP1
theorem ar_at35 {f : Nat → Int32} (hM : u.1 11 = f) : (cW G u)[35]? = some (gad G 35, .inl (gc G 0, 53, .inl f)) := by subst hM; rfl
theorem ar_set35 (G : Geo) (u : Sg) : ∀ g : Nat → Int32, (cW G u).set 35 (gad G 35, .inl (gc G 0, 53, .inl g)) = cW G (sI u 11 g) := fun _ => rfl
theorem ar_at36 {f : Nat → Int32} (hM : u.1 12 = f) : (cW G u)[36]? = some (gad G 36, .inl (gc G 0, 53, .inl f)) := by subst hM; rfl
theorem ar_set36 (G : Geo) (u : Sg) : ∀ g : Nat → Int32, (cW G u).set 36 (gad G 36, .inl (gc G 0, 53, .inl g)) = cW G (sI u 12 g) := fun _ => rfl
theorem ar_at37 {f : Nat → Int32} (hM : u.1 13 = f) : (cW G u)[37]? = some (gad G 37, .inl (gc G 0, 53, .inl f)) := by subst hM; rfl
theorem ar_set37 (G : Geo) (u : Sg) : ∀ g : Nat → Int32, (cW G u).set 37 (gad G 37, .inl (gc G 0, 53, .inl g)) = cW G (sI u 13 g) := fun _ => rfl
theorem ar_at38 {f : Nat → Int32} (hM : u.1 15 = f) : (cW G u)[38]? = some (gad G 38, .inl (gc G 0, 7, .inl f)) := by subst hM; rfl
theorem ar_set38 (G : Geo) (u : Sg) : ∀ g : Nat → Int32, (cW G u).set 38 (gad G 38, .inl (gc G 0, 7, .inl g)) = cW G (sI u 15 g) := fun _ => rfl
theorem ar_at39 {f : Nat → Int32} (hM : u.1 16 = f) : (cW G u)[39]? = some (gad G 39, .inl (gc G 0, 120, .inl f)) := by subst hM; rfl
theorem ar_set39 (G : Geo) (u : Sg) : ∀ g : Nat → Int32, (cW G u).set 39 (gad G 39, .inl (gc G 0, 120, .inl g)) = cW G (sI u 16 g) := fun _ => rfl
theorem ar_at40 {f : Nat → Int32} (hM : u.1 17 = f) : (cW G u)[40]? = some (gad G 40, .inl (gc G 0, 4, .inl f)) := by subst hM; rfl
theorem ar_set40 (G : Geo) (u : Sg) : ∀ g : Nat → Int32, (cW G u).set 40 (gad G 40, .inl (gc G 0, 4, .inl g)) = cW G (sI u 17 g) := fun _ => rfl
theorem ar_at41 {f : Nat → Int32} (hM : u.1 18 = f) : (cW G u)[41]? = some (gad G 41, .inl (gc G 0, 4, .inl f)) := by subst hM; rfl
theorem ar_set41 (G : Geo) (u : Sg) : ∀ g : Nat → Int32, (cW G u).set 41 (gad G 41, .inl (gc G 0, 4, .inl g)) = cW G (sI u 18 g) := fun _ => rfl
theorem ar_at25 {f : Nat → Int32} (hM : u.1 6 = f) : (cW G u)[25]? = some (gad G 25, .inl (gc G 0, 7, .inl f)) := by subst hM; rfl
theorem ar_set25 (G : Geo) (u : Sg) : ∀ g : Nat → Int32, (cW G u).set 25 (gad G 25, .inl (gc G 0, 7, .inl g)) = cW G (sI u 6 g) := fun _ => rfl
theorem tp_at {f : Nat → Int32} (hM : u.1 5 = f) : (cW G u)[23]? = some (gad G 23, .inl (gc G 2, 120, .inl f)) := by subst hM; rfl
theorem tp_ld (hx : p.tables.exec = Jvm.exec) (hb : c.code = cc) (hE : E0 G s s.heap) (hP : WP G u H) {f : Nat → Int32} (hM : u.1 5 = f) (j : Nat) (hj : j < 120) (hdg : decode cc pc = .ok (.baload, 1))
    (kk : W p l e R s m args below meth c H locs nc ns Q (F0 m (pc + 1) ls (.int (f j) :: rest))) : W p l e R s m args below meth c H locs nc ns Q (F0 m pc ls (.int (nI j) :: .ref (gad G 23) :: rest)) := by
  obtain ⟨h1, h2⟩ := nI_c hj (by decide)
  refine va_bald hx hb hE.1 hP 23 2 (tp_at hM) rfl h1 hdg ?_
  rw [h2]
  exact kk
theorem tp_st (hx : p.tables.exec = Jvm.exec) (hb : c.code = cc) (hE : E0 G s s.heap) (hP : WP G u H) (hS : va_S (gA G) s.heap H locs) {f : Nat → Int32} (hM : u.1 5 = f) (j : Nat) (hj : j < 120) {v : Int32} (hu : sI u 5 (upd f j (vp_nar .byte v)) = u') (hdg : decode cc pc = .ok (.bastore, 1))
    (kk : ∀ (H1 : Heap) (locs1 : List Loc), WP G u' H1 → va_S (gA G) s.heap H1 locs1 → W p l e R s m args below meth c H1 locs1 nc ns Q (F0 m (pc + 1) ls rest)) : W p l e R s m args below meth c H locs nc ns Q (F0 m pc ls (.int v :: .int (nI j) :: .ref (gad G 23) :: rest)) := by
  obtain ⟨h1, h2⟩ := nI_c hj (by decide)
  refine va_bast hx hb hE.1 hP (hE.D _) hS 23 2 (tp_at hM) rfl h1 hdg (fun H1 locs1 hP1 _ hS1 => kk H1 locs1 ?_ hS1)
  rw [h2] at hP1
  rw [← hu]
  exact hP1
theorem ss_ld (hx : p.tables.exec = Jvm.exec) (hb : c.code = cc) (hE : E0 G s s.heap) (hP : WP G u H) (j : Nat) (hj : j < 4) (hdg : decode cc pc = .ok (.aaload, 1))
    (kk : W p l e R s m args below meth c H locs nc ns Q (F0 m (pc + 1) ls (.ref (gH G j) :: rest))) : W p l e R s m args below meth c H locs nc ns Q (F0 m pc ls (.int (nI j) :: .ref (gad G 24) :: rest)) := by
  obtain ⟨h1, h2⟩ := nI_c hj (by decide)
  refine va_aldq (C := "HeldDoor$Sheet") (n := 4) (f := fun i => some (gH G i)) hx hb hE.1 hP 24 3 rfl rfl h1 hdg ?_
  rw [h2]
  exact kk
theorem sh_at {i : Nat} (hi : i < 4) {f : Nat → Int32} (hM : u.1 (7 + i) = f) : (cW G u)[26 + 2 * i]? = some (gH G i, .inr (1, shF G i f)) := by
  subst hM
  match i, hi with
  | 0, _ => rfl
  | 1, _ => rfl
  | 2, _ => rfl
  | 3, _ => rfl
theorem sh_get (hx : p.tables.exec = Jvm.exec) (hb : c.code = cc) (hts : ∀ w ∈ Ts, w.before args s = true) (hin : ∀ w ∈ wsX20, w ∈ Ts) (hown : s.vm.findClass own = some m.cls) (hE : E0 G s s.heap) (hP : WP G u H) {i : Nat} (hi : i < 4) {f : Nat → Int32} (hM : u.1 (7 + i) = f) (k : Nat) (hk : k < 3) (hlink : (Cond.fieldLink own index RX2 (TX2 k).2.1 (TX2 k).2.2.1).before args s = true) {v : Value} (hv : (shF G i f)[k]? = some v) (hdg : decode cc pc = .ok (.getfield index, 3))
    (kk : W p l e R s m args below meth c H locs nc ns Q (F0 m (pc + 3) ls (v :: rest))) : W p l e R s m args below meth c H locs nc ns Q (F0 m pc ls (.ref (gH G i) :: rest)) :=
  va_get (C := RX2) (T := TX2) (N := 3) (ci := 1) hx hb hts hin hown hE.1 hP (26 + 2 * i) (sh_at hi hM) rfl k hk hlink (fun x h => by rw [TX2_own hk] at h; exact h) hv hdg kk
theorem sh_recv (hE : E0 G s s.heap) (hP : WP G u H) {i : Nat} (hi : i < 4) : ∃ cellB : Cell, H[gH G i]? = some cellB ∧ cellB.vm.isStatics = false ∧ s.vm.findClass RX2 = some cellB.cls := va_recv hE.1 hP (ci := 1) (q0 := 26 + 2 * i) rfl (sh_at hi rfl)
theorem sh_set {i : Nat} (hi : i < 4) {k : Nat} (hk : k < 2) (v : Int32) : (cW G u).set (26 + 2 * i) (gH G i, .inr (1, (shF G i (u.1 (7 + i))).set k (.int v))) = cW G (sI u (7 + i) (upd (u.1 (7 + i)) k v)) := by
  match i, hi, k, hk with
  | 0, _, 0, _ => rfl
  | 0, _, 1, _ => rfl
  | 1, _, 0, _ => rfl
  | 1, _, 1, _ => rfl
  | 2, _, 0, _ => rfl
  | 2, _, 1, _ => rfl
  | 3, _, 0, _ => rfl
  | 3, _, 1, _ => rfl
theorem sh_put (hx : p.tables.exec = Jvm.exec) (hb : c.code = cc) (hts : ∀ w ∈ Ts, w.before args s = true) (hin : ∀ w ∈ wsX20, w ∈ Ts) (hown : s.vm.findClass own = some m.cls) (hE : E0 G s s.heap) (hP : WP G u H) (hS : va_S (gA G) s.heap H locs) {i : Nat} (hi : i < 4) {f : Nat → Int32} (hM : u.1 (7 + i) = f) (k : Nat) (hk : k < 2) (hlink : (Cond.fieldLink own index RX2 (TX2 k).2.1 (TX2 k).2.2.1).before args s = true) {v : Int32} (hu : sI u (7 + i) (upd f k v) = u') (hdg : decode cc pc = .ok (.putfield index, 3))
    (kk : ∀ (H1 : Heap) (locs1 : List Loc), WP G u' H1 → va_S (gA G) s.heap H1 locs1 → W p l e R s m args below meth c H1 locs1 nc ns Q (F0 m (pc + 3) ls rest)) : W p l e R s m args below meth c H locs nc ns Q (F0 m pc ls (.int v :: .ref (gH G i) :: rest)) := by
  subst hM
  refine va_put (C := RX2) (T := TX2) (N := 3) (ci := 1) (ty := .int) (fs := shF G i (u.1 (7 + i))) hx hb hts hin tyX2 tyX2_ok nmX2 hown hE.1 hP (hE.D _) hS (26 + 2 * i) (sh_at hi rfl) rfl k (by omega) hlink (fun x h => by rw [TX2_own (by omega)] at h; exact h) ?_ ?_ rfl rfl (Nat.lt_of_lt_of_le hk (show 2 ≤ (shF G i (u.1 (7 + i))).length from Nat.le_of_ble_eq_true rfl)) hdg (fun H1 locs1 hP1 _ hS1 => kk H1 locs1 ?_ hS1)
  · match k, hk with
    | 0, _ => rfl
    | 1, _ => rfl
  · match k, hk with
    | 0, _ => exact tyX2_ok 0 (by decide)
    | 1, _ => exact tyX2_ok 1 (by decide)
  · rw [sh_set hi hk v] at hP1
    rw [← hu]
    exact hP1
theorem sn_at {i : Nat} (hi : i < 4) {f : Nat → Int64} (hM : u.2 i = f) : (cW G u)[27 + 2 * i]? = some (gHN G i, .inl (gc G 1, 40, .inr (.inl f))) := by
  subst hM
  match i, hi with
  | 0, _ => rfl
  | 1, _ => rfl
  | 2, _ => rfl
  | 3, _ => rfl
theorem sn_set {i : Nat} (hi : i < 4) (g : Nat → Int64) : (cW G u).set (27 + 2 * i) (gHN G i, .inl (gc G 1, 40, .inr (.inl g))) = cW G (sL u i g) := by
  match i, hi with
  | 0, _ => rfl
  | 1, _ => rfl
  | 2, _ => rfl
  | 3, _ => rfl
theorem sn_ld (hx : p.tables.exec = Jvm.exec) (hb : c.code = cc) (hE : E0 G s s.heap) (hP : WP G u H) {i : Nat} (hi : i < 4) {f : Nat → Int64} (hM : u.2 i = f) (j : Nat) (hj : j < 40) (hdg : decode cc pc = .ok (.laload, 1))
    (kk : W p l e R s m args below meth c H locs nc ns Q (F0 m (pc + 1) ls (.long (f j) :: rest))) : W p l e R s m args below meth c H locs nc ns Q (F0 m pc ls (.int (nI j) :: .ref (gHN G i) :: rest)) := by
  obtain ⟨h1, h2⟩ := nI_c hj (by decide)
  refine va_lald hx hb hE.1 hP (27 + 2 * i) 1 (sn_at hi hM) rfl h1 hdg ?_
  rw [h2]
  exact kk
theorem sn_st (hx : p.tables.exec = Jvm.exec) (hb : c.code = cc) (hE : E0 G s s.heap) (hP : WP G u H) (hS : va_S (gA G) s.heap H locs) {i : Nat} (hi : i < 4) {f : Nat → Int64} (hM : u.2 i = f) (j : Nat) (hj : j < 40) {v : Int64} (hu : sL u i (vp_updL f j v) = u') (hdg : decode cc pc = .ok (.lastore, 1))
    (kk : ∀ (H1 : Heap) (locs1 : List Loc), WP G u' H1 → va_S (gA G) s.heap H1 locs1 → W p l e R s m args below meth c H1 locs1 nc ns Q (F0 m (pc + 1) ls rest)) : W p l e R s m args below meth c H locs nc ns Q (F0 m pc ls (.long v :: .int (nI j) :: .ref (gHN G i) :: rest)) := by
  obtain ⟨h1, h2⟩ := nI_c hj (by decide)
  refine va_last hx hb hE.1 hP (hE.D _) hS (27 + 2 * i) 1 (sn_at hi hM) rfl h1 hdg (fun H1 locs1 hP1 _ hS1 => kk H1 locs1 ?_ hS1)
  rw [h2, sn_set hi] at hP1
  rw [← hu]
  exact hP1
theorem ce_at {f : Nat → Int64} (hM : u.2 4 = f) : (cW G u)[42]? = some (gad G 42, .inl (gc G 1, 160, .inr (.inl f))) := by subst hM; rfl
theorem ce_ld (hx : p.tables.exec = Jvm.exec) (hb : c.code = cc) (hE : E0 G s s.heap) (hP : WP G u H) {f : Nat → Int64} (hM : u.2 4 = f) (j : Nat) (hj : j < 160) (hdg : decode cc pc = .ok (.laload, 1))
    (kk : W p l e R s m args below meth c H locs nc ns Q (F0 m (pc + 1) ls (.long (f j) :: rest))) : W p l e R s m args below meth c H locs nc ns Q (F0 m pc ls (.int (nI j) :: .ref (gad G 42) :: rest)) := by
  obtain ⟨h1, h2⟩ := nI_c hj (by decide)
  refine va_lald hx hb hE.1 hP 42 1 (ce_at hM) rfl h1 hdg ?_
  rw [h2]
  exact kk
theorem ce_st (hx : p.tables.exec = Jvm.exec) (hb : c.code = cc) (hE : E0 G s s.heap) (hP : WP G u H) (hS : va_S (gA G) s.heap H locs) {f : Nat → Int64} (hM : u.2 4 = f) (j : Nat) (hj : j < 160) {v : Int64} (hu : sL u 4 (vp_updL f j v) = u') (hdg : decode cc pc = .ok (.lastore, 1))
    (kk : ∀ (H1 : Heap) (locs1 : List Loc), WP G u' H1 → va_S (gA G) s.heap H1 locs1 → W p l e R s m args below meth c H1 locs1 nc ns Q (F0 m (pc + 1) ls rest)) : W p l e R s m args below meth c H locs nc ns Q (F0 m pc ls (.long v :: .int (nI j) :: .ref (gad G 42) :: rest)) := by
  obtain ⟨h1, h2⟩ := nI_c hj (by decide)
  refine va_last hx hb hE.1 hP (hE.D _) hS 42 1 (ce_at hM) rfl h1 hdg (fun H1 locs1 hP1 _ hS1 => kk H1 locs1 ?_ hS1)
  rw [h2] at hP1
  rw [← hu]
  exact hP1
theorem nm_ld (hx : p.tables.exec = Jvm.exec) (hb : c.code = cc) (hE : E0 G s s.heap) (hS : va_S (gA G) s.heap H locs) (j : Nat) (hj : j < 80) (hdg : decode cc pc = .ok (.iaload, 1))
    (kk : W p l e R s m args below meth c H locs nc ns Q (F0 m (pc + 1) ls (.int (nmB j) :: rest))) : W p l e R s m args below meth c H locs nc ns Q (F0 m pc ls (.int (nI j) :: .ref (gN G) :: rest)) := by
  obtain ⟨h1, h2⟩ := nI_c hj (by decide)
  exact va_ti hx hb hE.2.2.2.2.2.1 hS h1 (by rw [h2]) hdg kk
theorem sb_ld (hx : p.tables.exec = Jvm.exec) (hb : c.code = cc) (hE : E0 G s s.heap) (hS : va_S (gA G) s.heap H locs) {i : Nat} (hi : i < 10) (j : Nat) (hj : j < sLen.getD i 0) (hdg : decode cc pc = .ok (.baload, 1))
    (kk : W p l e R s m args below meth c H locs nc ns Q (F0 m (pc + 1) ls (.int ((sByt.getD i []).getD j 0) :: rest))) : W p l e R s m args below meth c H locs nc ns Q (F0 m pc ls (.int (nI j) :: .ref (gV G i) :: rest)) := by
  have hq : sLen.getD i 0 ≤ 200 := by
    rcases (show i = 0 ∨ i = 1 ∨ i = 2 ∨ i = 3 ∨ i = 4 ∨ i = 5 ∨ i = 6 ∨ i = 7 ∨ i = 8 ∨ i = 9 by omega) with rfl | rfl | rfl | rfl | rfl | rfl | rfl | rfl | rfl | rfl <;> decide
  obtain ⟨h1, h2⟩ := nI_c hj hq
  exact va_tb hx hb (hE.2.2.1.1.1 i hi).2.2.2 hS h1 (by rw [h2]) hdg kk
theorem sb_len (hx : p.tables.exec = Jvm.exec) (hb : c.code = cc) (hE : E0 G s s.heap) (hS : va_S (gA G) s.heap H locs) {i : Nat} (hi : i < 10) (hdg : decode cc pc = .ok (.arraylength, 1))
    (kk : W p l e R s m args below meth c H locs nc ns Q (F0 m (pc + 1) ls (.int (nI (sLen.getD i 0)) :: rest))) : W p l e R s m args below meth c H locs nc ns Q (F0 m pc ls (.ref (gV G i) :: rest)) := va_tlen hx hb (hE.2.2.1.1.1 i hi).2.2.2 hS rfl hdg kk
theorem st_val (hx : p.tables.exec = Jvm.exec) (hb : c.code = cc) (hown : s.vm.findClass own = some m.cls) (hE : E0 G s s.heap) (hS : va_S (gA G) s.heap H locs) {i : Nat} (hi : i < 10) (hlink : (Cond.fieldLink own index "java/lang/String" "value" "[B").before args s = true) (hdg : decode cc pc = .ok (.getfield index, 3))
    (kk : W p l e R s m args below meth c H locs nc ns Q (F0 m (pc + 3) ls (.ref (gV G i) :: rest))) : W p l e R s m args below meth c H locs nc ns Q (F0 m pc ls (.ref (gK G i) :: rest)) := vk_getf hx hb (hE.2.2.1.1.1 i hi).2.2.1 hS hown hlink (fun _ h => h) hdg kk
theorem st_cod (hx : p.tables.exec = Jvm.exec) (hb : c.code = cc) (hown : s.vm.findClass own = some m.cls) (hE : E0 G s s.heap) (hS : va_S (gA G) s.heap H locs) {i : Nat} (hi : i < 10) (hlink : (Cond.fieldLink own index "java/lang/String" "coder" "B").before args s = true) (hdg : decode cc pc = .ok (.getfield index, 3))
    (kk : W p l e R s m args below meth c H locs nc ns Q (F0 m (pc + 3) ls (.int 0 :: rest))) : W p l e R s m args below meth c H locs nc ns Q (F0 m pc ls (.ref (gK G i) :: rest)) := vk_getf hx hb (hE.2.2.1.1.1 i hi).2.1 hS hown hlink (fun _ h => h) hdg kk
theorem st_recv (hE : E0 G s s.heap) (hS : va_S (gA G) s.heap H locs) {i : Nat} (hi : i < 10) : ∃ cellB : Cell, H[gK G i]? = some cellB ∧ cellB.vm.isStatics = false ∧ s.vm.findClass "java/lang/String" = some cellB.cls := vk_recv hE.2.2.1.1 hi hS
end HDI
