/-- how many states there are when one more is recorded -/
def svN (s : Nat) : Nat := if s = 4 then 4 else s + 1
def pBg (g : Nat → Int32) (w : Nat) : Nat → Bool := fun n => decide (¬ g n = 0) && decide (begK 5 (g n).toNatClampNeg w = w)
