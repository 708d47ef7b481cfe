/-! ===== counts of bits ===== -/
def us9 (x k : Int32) : Int32 := (x.toUInt32 >>> (k.toUInt32 &&& Int32.toUInt32 31)).toInt32
def bc1 (x : Int32) : Int32 := x - (us9 x 1 &&& 1431655765)
def bc2 (x : Int32) : Int32 := (x &&& 858993459) + (us9 x 2 &&& 858993459)
def bc3 (x : Int32) : Int32 := (x + us9 x 4) &&& 252645135
def bc4 (x : Int32) : Int32 := x + us9 x 8
def bc5 (x : Int32) : Int32 := x + us9 x 16
def bitC (x : Int32) : Int32 := bc5 (bc4 (bc3 (bc2 (bc1 x)))) &&& 63
def loC (M : Nat → Int32) : Int32 := bitC (loS M (nP M))
def pop (k : Nat) : Nat := k % 2 + k / 2 % 2 + k / 4 % 2 + k / 8 % 2 + k / 16 % 2 + k / 32 % 2 + k / 64 % 2 + k / 128 % 2
theorem bitC_pop : ∀ k : Nat, k < 256 → bitC (nI k) = nI (pop k) := by decide +kernel
