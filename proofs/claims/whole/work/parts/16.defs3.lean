def mEntO (f : Nat → Int32) (n : Nat) : Nat → Int32 := upd f (44 + n) (f (44 + n) + nI 1)
def mEntN (f : Nat → Int32) (n : Nat) (x : Int32) : Nat → Int32 := upd (upd (upd (upd f (4 + n) x) (44 + n) (nI 0)) 1 (f 1 + nI 1)) (44 + n) (nI 0 + nI 1)
