/-! ===== fresh objects ===== -/
abbrev gTy (g : Nat → ClassId) : List (ClassId × FieldType) := [(g 0, .int), (g 1, .long), (g 2, .byte), (g 3, .object "HeldDoor$Sheet")]
theorem ca_i {D : va_G} {g : Nat → ClassId} {cA : ClassId} {s : State} (h : va_K D vwCl (gTy g ++ [(cA, .int)]) s) : cA = g 0 := by
  have h1 : s.vm.findClass ("[" ++ FieldType.int.toString) = some cA := (h.2 4 (cA, .int) rfl).2
  have h2 : s.vm.findClass ("[" ++ FieldType.int.toString) = some (g 0) := (h.2 0 (g 0, .int) rfl).2
  exact Option.some.inj (h1.symm.trans h2)
theorem ca_l {D : va_G} {g : Nat → ClassId} {cA : ClassId} {s : State} (h : va_K D vwCl (gTy g ++ [(cA, .long)]) s) : cA = g 1 := by
  have h1 : s.vm.findClass ("[" ++ FieldType.long.toString) = some cA := (h.2 4 (cA, .long) rfl).2
  have h2 : s.vm.findClass ("[" ++ FieldType.long.toString) = some (g 1) := (h.2 1 (g 1, .long) rfl).2
  exact Option.some.inj (h1.symm.trans h2)
theorem ca_b {D : va_G} {g : Nat → ClassId} {cA : ClassId} {s : State} (h : va_K D vwCl (gTy g ++ [(cA, .byte)]) s) : cA = g 2 := by
  have h1 : s.vm.findClass ("[" ++ FieldType.byte.toString) = some cA := (h.2 4 (cA, .byte) rfl).2
  have h2 : s.vm.findClass ("[" ++ FieldType.byte.toString) = some (g 2) := (h.2 2 (g 2, .byte) rfl).2
  exact Option.some.inj (h1.symm.trans h2)
theorem ca_q {D : va_G} {g : Nat → ClassId} {cA : ClassId} {s : State} (h : va_K D vwCl (gTy g ++ [(cA, .object "HeldDoor$Sheet")]) s) : cA = g 3 := by
  obtain ⟨_, _, _, _, _, h1⟩ := (h.2 4 (cA, .object "HeldDoor$Sheet") rfl).2
  obtain ⟨_, _, _, _, _, h2⟩ := (h.2 3 (g 3, .object "HeldDoor$Sheet") rfl).2
  exact Option.some.inj (h1.symm.trans h2)
def scW (cI : ClassId) (h0 : Nat) (q : Nat → Nat) : va_W := [(h0, .inr (0, [.int 0, .int 20, .int 0, .int (-1), .int 0, .ref (q 0), .ref (q 1), .ref (q 2), .ref (q 3), .ref (q 4), .ref (q 5)])), (q 0, .inl (cI, 8, .inl (fun _ => 0))), (q 1, .inl (cI, 8, .inl (fun _ => 0))), (q 2, .inl (cI, 8, .inl (fun _ => 0))), (q 3, .inl (cI, 8, .inl (fun _ => 0))), (q 4, .inl (cI, 8, .inl (fun _ => 0))), (q 5, .inl (cI, 8, .inl (fun _ => 0)))]
def txW (cB : ClassId) (h0 : Nat) (q : Nat) : va_W := [(h0, .inr (2, [.ref q, .int 0, .int 0, .int 0, .int 0, .int 0])), (q, .inl (cB, 120, .inl (fun _ => 0)))]
def shW (cL : ClassId) (h0 : Nat) (q : Nat) : va_W := [(h0, .inr (1, [.int 0, .int 0, .ref q])), (q, .inl (cL, 40, .inr (.inl (fun _ => 0))))]
def moW (g : Nat → ClassId) (h0 : Nat) (q : Nat → Nat) : va_W := [(h0, .inr (4, [.ref (q 0), .ref (q 1), .ref (q 2), .int 0, .ref (q 3), .ref (q 4), .int 0, .int 0, .int 0, .int 0, .int 0, .int 0, .ref (q 5), .ref (q 6), .ref (q 7)])),
  (q 0, .inl (g 0, 53, .inl (upd (upd (fun _ => 0) 1 20) 3 (-1)))), (q 1, .inl (g 0, 53, .inl (fun _ => 0))), (q 2, .inl (g 0, 53, .inl (fun _ => 0))), (q 3, .inl (g 0, 7, .inl (fun _ => 0))), (q 4, .inl (g 0, 120, .inl (fun _ => 0))), (q 5, .inl (g 0, 4, .inl (fun _ => 0))), (q 6, .inl (g 0, 4, .inl (fun _ => 0))), (q 7, .inl (g 1, 160, .inr (.inl (fun _ => 0))))]
def doW (g : Nat → ClassId) (ad : Nat → Nat) : va_W := (ad 0, .inr (3, [.ref (ad 1), .ref (ad 8), .ref (ad 15), .int 0, .ref (ad 22), .ref (ad 24), .ref (ad 25)])) :: (scW (g 0) (ad 1) (fun w => ad (2 + w)) ++ (scW (g 0) (ad 8) (fun w => ad (9 + w)) ++ (scW (g 0) (ad 15) (fun w => ad (16 + w)) ++
  [(ad 22, .inr (2, [.ref (ad 23), .int 0, .int 0, .int 0, .int 0, .int 0])), (ad 23, .inl (g 2, 120, .inl (fun _ => 0))), (ad 24, .inl (g 3, 4, .inr (.inr (.inr (.inr (va_up (va_up (va_up (va_up (fun _ => none) 0 (some (ad 26))) 1 (some (ad 28))) 2 (some (ad 30))) 3 (some (ad 32)))))))), (ad 25, .inl (g 0, 7, .inl (fun _ => 0))),
   (ad 26, .inr (1, [.int 0, .int 0, .ref (ad 27)])), (ad 27, .inl (g 1, 40, .inr (.inl (fun _ => 0)))), (ad 28, .inr (1, [.int 0, .int 0, .ref (ad 29)])), (ad 29, .inl (g 1, 40, .inr (.inl (fun _ => 0)))), (ad 30, .inr (1, [.int 0, .int 0, .ref (ad 31)])), (ad 31, .inl (g 1, 40, .inr (.inl (fun _ => 0)))), (ad 32, .inr (1, [.int 0, .int 0, .ref (ad 33)])), (ad 33, .inl (g 1, 40, .inr (.inl (fun _ => 0))))])))
