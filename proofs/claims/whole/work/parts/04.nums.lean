/-! ===== numbers, branches, the frame of a contract ===== -/
def bI (b : Bool) : Int32 := if b then 1 else 0
theorem bI_t : bI true = 1 := rfl
theorem bI_f : bI false = 0 := rfl
theorem bI_n {b : Bool} : narrow .boolean (.int (bI b)) = .int (bI b) := by cases b <;> rfl
theorem bI_nf {b : Bool} : narrow .boolean (.int (bI b)) = .int (bI b) ∧ fits .boolean (.int (bI b)) = true := by cases b <;> exact ⟨rfl, rfl⟩
theorem bI_0 {b : Bool} : bI b = 0 ↔ b = false := by cases b <;> decide
theorem bI_1 {b : Bool} : bI b = 1 ↔ b = true := by cases b <;> decide
theorem inc1 (a : Nat) : nI a + Int32.ofInt 1 = nI (a + 1) := nI_1 a
theorem incN (a n : Nat) : nI a + Int32.ofInt (n : Int) = nI (a + n) := by
  rw [show Int32.ofInt (n : Int) = nI n from rfl]; exact nI_add a n
theorem nI_lit (n : Nat) : (OfNat.ofNat n : Int32) = nI n := rfl
theorem ne_toInt {x : Int32} {k : Int} (h1 : -2147483648 ≤ k) (h2 : k ≤ 2147483647) (h : x ≠ Int32.ofInt k) : x.toInt ≠ k := by
  intro e
  apply h
  rw [← e, Int32.ofInt_toInt]
theorem sw_out {x : Int32} {lo hi : Int} (h1 : -2147483648 ≤ lo) (h2 : hi ≤ 2147483647) (h : ∀ k : Int, lo ≤ k → k ≤ hi → x ≠ Int32.ofInt k) : x.toInt < lo ∨ hi < x.toInt := by
  rcases Int.lt_or_le x.toInt lo with q | q
  · exact Or.inl q
  · rcases Int.lt_or_le hi x.toInt with q2 | q2
    · exact Or.inr q2
    · exact absurd rfl (ne_toInt (by omega) (by omega) (h _ q q2))
def Fx (p : Program) (s : State) (m : MethodId) (meth : Method) (c : Code) (cc : ByteArray) (ws : List Cond) (av : List Value) (maxL : Nat) (ret : Option FieldType) (own : String) : Prop :=
  p.tables.exec = Jvm.exec ∧ c.code = cc ∧ meth.sig.returnType = ret ∧ c.maxLocals = maxL ∧ s.vm.findClass own = some m.cls ∧ (∀ w ∈ ws, w.before av.toArray s = true) ∧ meth.locks = false
theorem hd_of {l : Launch} {G : Geo} {y : MethodName} {ws ws' : List Cond} {rm : Room} {av : List Value} {u : Sg} {Qc : Array Value → State → Outcome → State → Prop} {cc : ByteArray} {maxL : Nat} {ret : Option FieldType} {own : String} (hy : plainName y.cls = true) (hw : ws = Cond.code y cc maxL ret :: ws') (ho : own = y.cls) (hav : (lg_sl av).length ≤ maxL)
    (body : ∀ p e s m below meth c, Fx p s m meth c cc ws av maxL ret own → E0 G s s.heap → WP G u s.heap → ∀ ls : Array Slot, lv_has ls maxL (lv_args 0 av) → W p l e (headSpec ws rm).room s m av.toArray below meth c s.heap [] 0 0 (MQ below Qc av.toArray s 0 0 (gA G)) (F0 m 0 ls [])) :
    Met l y ws rm (Pre0 G av u) Qc 0 0 (gA G) := by
  refine Met.ofW (cc := cc) (maxL := maxL) (ret := ret) hy hw ?_
  intro p e s m args below meth c s₁ B hml hv
  obtain ⟨rfl, hE, hP⟩ := hv
  have hts := atoms_spec (ws := ws) B.pre
  have hl := lv_entry av (n := maxL) hav
  rw [lg_entry_eq]
  exact body p e s m below meth c ⟨B.exec, B.bytes, B.returns, hml, by rw [ho]; exact findClass_of_methodNamed B.named, hts, B.notSynchronized⟩ hE hP _ hl
theorem CtI.of {l : Launch} {G : Geo} {y : MethodName} {ws ws' : List Cond} {rm : Room} {av : List Value} {u : Sg} {post : Int32 → Sg → Prop} {cc : ByteArray} {maxL : Nat} {ret : Option FieldType} {own : String} (hy : plainName y.cls = true) (hw : ws = Cond.code y cc maxL ret :: ws') (ho : own = y.cls)
    (body : ∀ p e s m below meth c, Fx p s m meth c cc ws av maxL ret own → E0 G s s.heap → WP G u s.heap → ∀ ls : Array Slot, lv_has ls maxL (lv_args 0 av) → W p l e (headSpec ws rm).room s m av.toArray below meth c s.heap [] 0 0 (MQ below (va_Qi post (fun v t => WP G v t.heap) (gA G)) av.toArray s 0 0 (gA G)) (F0 m 0 ls []))
    (hav : (lg_sl av).length ≤ maxL := by exact Nat.le_of_ble_eq_true rfl) : CtI l G y ws rm av u post := hd_of hy hw ho hav body
theorem CtL.of {l : Launch} {G : Geo} {y : MethodName} {ws ws' : List Cond} {rm : Room} {av : List Value} {u : Sg} {post : Int64 → Sg → Prop} {cc : ByteArray} {maxL : Nat} {ret : Option FieldType} {own : String} (hy : plainName y.cls = true) (hw : ws = Cond.code y cc maxL ret :: ws') (ho : own = y.cls)
    (body : ∀ p e s m below meth c, Fx p s m meth c cc ws av maxL ret own → E0 G s s.heap → WP G u s.heap → ∀ ls : Array Slot, lv_has ls maxL (lv_args 0 av) → W p l e (headSpec ws rm).room s m av.toArray below meth c s.heap [] 0 0 (MQ below (va_Ql post (fun v t => WP G v t.heap) (gA G)) av.toArray s 0 0 (gA G)) (F0 m 0 ls []))
    (hav : (lg_sl av).length ≤ maxL := by exact Nat.le_of_ble_eq_true rfl) : CtL l G y ws rm av u post := hd_of hy hw ho hav body
theorem CtV.of {l : Launch} {G : Geo} {y : MethodName} {ws ws' : List Cond} {rm : Room} {av : List Value} {u : Sg} {post : Sg → Prop} {cc : ByteArray} {maxL : Nat} {ret : Option FieldType} {own : String} (hy : plainName y.cls = true) (hw : ws = Cond.code y cc maxL ret :: ws') (ho : own = y.cls)
    (body : ∀ p e s m below meth c, Fx p s m meth c cc ws av maxL ret own → E0 G s s.heap → WP G u s.heap → ∀ ls : Array Slot, lv_has ls maxL (lv_args 0 av) → W p l e (headSpec ws rm).room s m av.toArray below meth c s.heap [] 0 0 (MQ below (va_Qv post (fun v t => WP G v t.heap) (gA G)) av.toArray s 0 0 (gA G)) (F0 m 0 ls []))
    (hav : (lg_sl av).length ≤ maxL := by exact Nat.le_of_ble_eq_true rfl) : CtV l G y ws rm av u post := hd_of hy hw ho hav body
theorem CtR.of {l : Launch} {G : Geo} {y : MethodName} {ws ws' : List Cond} {rm : Room} {av : List Value} {u : Sg} {a : Nat} {v : Sg} {cc : ByteArray} {maxL : Nat} {ret : Option FieldType} {own : String} (hy : plainName y.cls = true) (hw : ws = Cond.code y cc maxL ret :: ws') (ho : own = y.cls)
    (body : ∀ p e s m below meth c, Fx p s m meth c cc ws av maxL ret own → E0 G s s.heap → WP G u s.heap → ∀ ls : Array Slot, lv_has ls maxL (lv_args 0 av) → W p l e (headSpec ws rm).room s m av.toArray below meth c s.heap [] 0 0 (MQ below (va_Qr (fun w : Sg => w = v) (fun w b t => b = a ∧ WP G w t.heap) (gA G)) av.toArray s 0 0 (gA G)) (F0 m 0 ls []))
    (hav : (lg_sl av).length ≤ maxL := by exact Nat.le_of_ble_eq_true rfl) : CtR l G y ws rm av u a v := hd_of hy hw ho hav body
section HDN
variable {p : Program} {l : Launch} {e : Env} {R : Room} {s : State} {m : MethodId} {args : Array Value} {below : List Frame} {meth : Method} {c : Code} {H : Heap} {locs : List Loc} {Q : State → Prop}
variable {cc : ByteArray} {pc nc ns : Nat} {ls : Array Slot} {rest : List Value}
theorem lv_cast {x y : Int32} (h : x = y) (k : W p l e R s m args below meth c H locs nc ns Q (F0 m pc ls (.int y :: rest))) : W p l e R s m args below meth c H locs nc ns Q (F0 m pc ls (.int x :: rest)) := h ▸ k
theorem lv_castL {x y : Int64} (h : x = y) (k : W p l e R s m args below meth c H locs nc ns Q (F0 m pc ls (.long y :: rest))) : W p l e R s m args below meth c H locs nc ns Q (F0 m pc ls (.long x :: rest)) := h ▸ k
theorem nn_iadd {a b : Nat} (hx : p.tables.exec = Jvm.exec) (hb : c.code = cc) (hdg : decode cc pc = .ok (.iadd, 1)) (k : W p l e R s m args below meth c H locs nc ns Q (F0 m (pc + 1) ls (.int (nI (a + b)) :: rest))) : W p l e R s m args below meth c H locs nc ns Q (F0 m pc ls (.int (nI b) :: .int (nI a) :: rest)) :=
  lv_iadd hx hb hdg (by rw [nI_add]; exact k)
theorem nn_imul {a b : Nat} (hx : p.tables.exec = Jvm.exec) (hb : c.code = cc) (hdg : decode cc pc = .ok (.imul, 1)) (k : W p l e R s m args below meth c H locs nc ns Q (F0 m (pc + 1) ls (.int (nI (a * b)) :: rest))) : W p l e R s m args below meth c H locs nc ns Q (F0 m pc ls (.int (nI b) :: .int (nI a) :: rest)) :=
  lv_imul hx hb hdg (by rw [pk_mul]; exact k)
theorem bo_eq {b : Bool} {off : Int} {tgt : Nat} (hx : p.tables.exec = Jvm.exec) (hb : c.code = cc) (hdg : decode cc pc = .ok (.ifCond .eq off, 3)) (ht : (pc : Int) + off = (tgt : Int))
    (kt : b = false → W p l e R s m args below meth c H locs nc ns Q (F0 m tgt ls rest)) (kf : b = true → W p l e R s m args below meth c H locs nc ns Q (F0 m (pc + 3) ls rest)) : W p l e R s m args below meth c H locs nc ns Q (F0 m pc ls (.int (bI b) :: rest)) :=
  lv_if_eq hx hb hdg ht (fun h => kt (bI_0.mp h)) (fun h => kf (by cases b; exact absurd rfl h; rfl))
theorem bo_ne {b : Bool} {off : Int} {tgt : Nat} (hx : p.tables.exec = Jvm.exec) (hb : c.code = cc) (hdg : decode cc pc = .ok (.ifCond .ne off, 3)) (ht : (pc : Int) + off = (tgt : Int))
    (kt : b = true → W p l e R s m args below meth c H locs nc ns Q (F0 m tgt ls rest)) (kf : b = false → W p l e R s m args below meth c H locs nc ns Q (F0 m (pc + 3) ls rest)) : W p l e R s m args below meth c H locs nc ns Q (F0 m pc ls (.int (bI b) :: rest)) :=
  lv_if_ne hx hb hdg ht (fun h => kt (by cases b; exact absurd rfl h; rfl)) (fun h => kf (bI_0.mp h))
theorem nn_ge {a b : Nat} {off : Int} {tgt : Nat} (ha : a < 2147483648) (hb1 : b < 2147483648) (hx : p.tables.exec = Jvm.exec) (hb : c.code = cc) (hdg : decode cc pc = .ok (.if_icmp .ge off, 3)) (ht : (pc : Int) + off = (tgt : Int))
    (kt : b ≤ a → W p l e R s m args below meth c H locs nc ns Q (F0 m tgt ls rest)) (kf : a < b → W p l e R s m args below meth c H locs nc ns Q (F0 m (pc + 3) ls rest)) : W p l e R s m args below meth c H locs nc ns Q (F0 m pc ls (.int (nI b) :: .int (nI a) :: rest)) :=
  lv_icmp_ge hx hb hdg ht (fun h => kt ((nI_leI hb1 ha).mp h)) (fun h => kf (Nat.lt_of_not_le fun q => h ((nI_leI hb1 ha).mpr q)))
theorem nn_lt {a b : Nat} {off : Int} {tgt : Nat} (ha : a < 2147483648) (hb1 : b < 2147483648) (hx : p.tables.exec = Jvm.exec) (hb : c.code = cc) (hdg : decode cc pc = .ok (.if_icmp .lt off, 3)) (ht : (pc : Int) + off = (tgt : Int))
    (kt : a < b → W p l e R s m args below meth c H locs nc ns Q (F0 m tgt ls rest)) (kf : b ≤ a → W p l e R s m args below meth c H locs nc ns Q (F0 m (pc + 3) ls rest)) : W p l e R s m args below meth c H locs nc ns Q (F0 m pc ls (.int (nI b) :: .int (nI a) :: rest)) :=
  lv_icmp_lt hx hb hdg ht (fun h => kt ((nI_ltI ha hb1).mp h)) (fun h => kf (Nat.le_of_not_lt fun q => h ((nI_ltI ha hb1).mpr q)))
theorem nn_gt {a b : Nat} {off : Int} {tgt : Nat} (ha : a < 2147483648) (hb1 : b < 2147483648) (hx : p.tables.exec = Jvm.exec) (hb : c.code = cc) (hdg : decode cc pc = .ok (.if_icmp .gt off, 3)) (ht : (pc : Int) + off = (tgt : Int))
    (kt : b < a → W p l e R s m args below meth c H locs nc ns Q (F0 m tgt ls rest)) (kf : a ≤ b → W p l e R s m args below meth c H locs nc ns Q (F0 m (pc + 3) ls rest)) : W p l e R s m args below meth c H locs nc ns Q (F0 m pc ls (.int (nI b) :: .int (nI a) :: rest)) :=
  lv_icmp_gt hx hb hdg ht (fun h => kt ((nI_ltI hb1 ha).mp h)) (fun h => kf (Nat.le_of_not_lt fun q => h ((nI_ltI hb1 ha).mpr q)))
theorem nn_le {a b : Nat} {off : Int} {tgt : Nat} (ha : a < 2147483648) (hb1 : b < 2147483648) (hx : p.tables.exec = Jvm.exec) (hb : c.code = cc) (hdg : decode cc pc = .ok (.if_icmp .le off, 3)) (ht : (pc : Int) + off = (tgt : Int))
    (kt : a ≤ b → W p l e R s m args below meth c H locs nc ns Q (F0 m tgt ls rest)) (kf : b < a → W p l e R s m args below meth c H locs nc ns Q (F0 m (pc + 3) ls rest)) : W p l e R s m args below meth c H locs nc ns Q (F0 m pc ls (.int (nI b) :: .int (nI a) :: rest)) :=
  lv_icmp_le hx hb hdg ht (fun h => kt ((nI_leI ha hb1).mp h)) (fun h => kf (Nat.lt_of_not_le fun q => h ((nI_leI ha hb1).mpr q)))
theorem nn_eq {a b : Nat} {off : Int} {tgt : Nat} (ha : a < 2147483648) (hb1 : b < 2147483648) (hx : p.tables.exec = Jvm.exec) (hb : c.code = cc) (hdg : decode cc pc = .ok (.if_icmp .eq off, 3)) (ht : (pc : Int) + off = (tgt : Int))
    (kt : a = b → W p l e R s m args below meth c H locs nc ns Q (F0 m tgt ls rest)) (kf : a ≠ b → W p l e R s m args below meth c H locs nc ns Q (F0 m (pc + 3) ls rest)) : W p l e R s m args below meth c H locs nc ns Q (F0 m pc ls (.int (nI b) :: .int (nI a) :: rest)) :=
  lv_icmp_eq hx hb hdg ht (fun h => kt ((nI_eq ha hb1).mp h)) (fun h => kf (fun q => h ((nI_eq ha hb1).mpr q)))
theorem nn_ne {a b : Nat} {off : Int} {tgt : Nat} (ha : a < 2147483648) (hb1 : b < 2147483648) (hx : p.tables.exec = Jvm.exec) (hb : c.code = cc) (hdg : decode cc pc = .ok (.if_icmp .ne off, 3)) (ht : (pc : Int) + off = (tgt : Int))
    (kt : a ≠ b → W p l e R s m args below meth c H locs nc ns Q (F0 m tgt ls rest)) (kf : a = b → W p l e R s m args below meth c H locs nc ns Q (F0 m (pc + 3) ls rest)) : W p l e R s m args below meth c H locs nc ns Q (F0 m pc ls (.int (nI b) :: .int (nI a) :: rest)) :=
  lv_icmp_ne hx hb hdg ht (fun h => kt (fun q => h ((nI_eq ha hb1).mpr q))) (fun h => kf ((nI_eq ha hb1).mp h))
end HDN
