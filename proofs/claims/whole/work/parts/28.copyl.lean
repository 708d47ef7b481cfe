section HDQ
variable {p : Program} {l : Launch} {e : Env} {R : Room} {s : State} {m : MethodId} {args : Array Value} {below : List Frame} {meth : Method} {c : Code} {H : Heap} {locs : List Loc} {Q : State → Prop}
variable {cc : ByteArray} {pc nc ns index : Nat} {ls : Array Slot} {rest : List Value} {G : Geo} {u u' : Sg} {own : String}
theorem sn_cpy (hx : p.tables.exec = Jvm.exec) (hb : c.code = cc) (hml : c.maxLocals = ls.size) (hown : s.vm.findClass own = some m.cls) (hlink : (Cond.methodLink own index arraycopyName).before args s = true) (hnat : (Cond.native arraycopyName).before args s = true) (hstat : (Cond.static arraycopyName).before args s = true) (hini : (Cond.initialized "java/lang/System").before args s = true)
    (hE : E0 G s s.heap) (hP : WP G u H) (hS : va_S (gA G) s.heap H locs) {i j : Nat} (hi : i < 4) (hj : j < 4) {f g : Nat → Int64} (hf : u.2 i = f) (hg : u.2 j = g) {a b n : Nat} (hu : sL u j (va_cpy f g a b n) = u') (ha : a + n ≤ 40) (hbn : b + n ≤ 40) (hframes : 1 ≤ R.frames) (hlocals : (rest.map fun v => v.category).sum + (nativeFrameWords "java/lang/System" "arraycopy" 5 + 11) ≤ R.locals) (hdg : decode cc pc = .ok (.invokestatic index, 3))
    (kk : ∀ (H1 : Heap) (locs1 : List Loc), WP G u' H1 → va_S (gA G) s.heap H1 locs1 → W p l e R s m args below meth c H1 locs1 nc ns Q (F0 m (pc + 3) ls rest)) : W p l e R s m args below meth c H locs nc ns Q (F0 m pc ls (.int (nI n) :: .int (nI b) :: .ref (gHN G j) :: .int (nI a) :: .ref (gHN G i) :: rest)) := by
  have ea : (nI a).toNatClampNeg = a := nI_clamp (by omega)
  have eb : (nI b).toNatClampNeg = b := nI_clamp (by omega)
  have en : (nI n).toNatClampNeg = n := nI_clamp (by omega)
  refine va_copyl (ty := .long) hx hb hml hown hlink hnat hstat hini hE.1 hP (hE.D _) hS (27 + 2 * i) (27 + 2 * j) 1 1 (sn_at hi hf) (sn_at hj hg) rfl rfl rfl (nI_pos (by omega)) (nI_pos (by omega)) (nI_pos (by omega)) (by rw [ea, en]; exact ha) (by rw [eb, en]; exact hbn) (fun _ _ => rfl) hframes hlocals hdg (fun H1 locs1 hP1 _ hS1 => kk H1 locs1 ?_ hS1)
  rw [ea, eb, en, sn_set hj] at hP1
  rw [← hu]
  exact hP1
end HDQ
theorem hasR_get {z a n : Int32} {sz : Nat} (hz : z = nI sz) (h40 : sz ≤ 40) (h : hasR z a n = true) : ∃ j k : Nat, a = nI j ∧ n = nI k ∧ j + k ≤ sz := by
  unfold hasR at h
  by_cases h1 : a < 0
  · rw [if_pos h1] at h; cases h
  · rw [if_neg h1] at h
    by_cases h2 : n < 0
    · rw [if_pos h2] at h; cases h
    · rw [if_neg h2] at h
      by_cases h3 : z < n
      · rw [if_pos h3] at h; cases h
      · rw [if_neg h3] at h
        by_cases h4 : z - n < a
        · rw [if_pos h4] at h; cases h
        · have e1 : ¬ a.toInt < 0 := fun q => h1 (ti_lt.mpr q)
          have e2 : ¬ n.toInt < 0 := fun q => h2 (ti_lt.mpr q)
          have e3 : ¬ z.toInt < n.toInt := fun q => h3 (ti_lt.mpr q)
          have e4 : ¬ (z - n).toInt < a.toInt := fun q => h4 (ti_lt.mpr q)
          have ez : z.toInt = (sz : Int) := by rw [hz, ti_nI (by omega)]
          rw [ti_sub (by omega) (by omega)] at e4
          have ca := clamp_toInt (x := a) (by omega)
          have cn := clamp_toInt (x := n) (by omega)
          exact ⟨a.toNatClampNeg, n.toNatClampNeg, nI_back (by omega), nI_back (by omega), by omega⟩
theorem num_get {z i : Int32} {sz : Nat} (hz : z = nI sz) (h40 : sz ≤ 40) (h : inI i 0 (z - 1) = true) : ∃ j : Nat, j < sz ∧ i = nI j := by
  obtain ⟨q1, q2⟩ := inI_t h
  have ez : z.toInt = (sz : Int) := by rw [hz, ti_nI (by omega)]
  rw [ti_sub (show _ ≤ _ - (1 : Int) by omega) (show _ - (1 : Int) ≤ _ by omega)] at q2
  rw [show (0 : Int32).toInt = 0 from rfl] at q1
  rw [show (1 : Int32).toInt = 1 from rfl] at q2
  have ci := clamp_toInt (x := i) q1
  exact ⟨i.toNatClampNeg, by omega, nI_back q1⟩
theorem mn_nat {z n : Nat} (h1 : z ≤ 40) (h2 : n ≤ 8) : (if nI n < nI z then nI n else nI z) = nI (min z n) := by
  by_cases h : n < z
  · rw [if_pos ((nI_ltI (by omega) (by omega)).mpr h), Nat.min_eq_right (by omega)]
  · rw [if_neg (fun q => h ((nI_ltI (by omega) (by omega)).mp q)), Nat.min_eq_left (by omega)]
theorem f_book_ok {s p : Int32} {B : Nat → Nat → Int32} {M : Nat → Int32} (h : f_book s p B M = 0) : inI s 0 3 = true ∧ mis (B s.toNatClampNeg) = false ∧ isPe M p = true := by
  unfold f_book at h
  cases h1 : inI s 0 3
  · rw [h1, if_pos rfl] at h; exact absurd h (by decide)
  · rw [h1, if_neg (by decide)] at h
    cases h2 : mis (B s.toNatClampNeg)
    · rw [h2, if_neg (by decide)] at h
      cases h3 : isPe M p
      · rw [h3, if_neg (by decide)] at h; exact absurd h (by decide)
      · exact ⟨rfl, rfl, rfl⟩
    · rw [h2, if_pos rfl] at h; exact absurd h (by decide)
theorem f_book_v (s p : Int32) (B : Nat → Nat → Int32) (M : Nat → Int32) : f_book s p B M = 0 ∨ f_book s p B M = -1000000001 ∨ f_book s p B M = -1000000006 := by
  unfold f_book
  split
  · exact Or.inr (Or.inl rfl)
  · split
    · exact Or.inr (Or.inr rfl)
    · split
      · exact Or.inl rfl
      · exact Or.inr (Or.inl rfl)
