/-- what fault answers of a run -/
def fltR (res : Nat × Nat × Nat × Nat × Mem) (q : Nat) : Int32 :=
  if res.2.1 = 0 ∨ (q = 2 ∧ res.2.1 = 3) then -1000004 else if q = 0 then nI res.2.2.2.1 else if q = 1 then nI res.2.1 else nI res.2.2.1
