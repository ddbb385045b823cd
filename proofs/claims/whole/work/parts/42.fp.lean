/-- what fault answers of a run -/
def fltR (res : Nat × Nat × Nat × Nat × Mem) (q : Nat) : Int32 :=
  if res.2.1 = 0 ∨ (q = 2 ∧ res.2.1 = 3) then -1000004 else if q = 0 then nI res.2.2.2.1 else if q = 1 then nI res.2.1 else nI res.2.2.1
def kpt (v : Mem) (y : Nat → Nat) (u : Mem × (Nat → Nat)) : Prop := (∀ x, x < 511 → u.1 0 x = v 0 x) ∧ u.1 1 = v 1 ∧ u.1 3 = v 3 ∧ okDg u.1 ∧ u.2 0 = y 0 ∧ u.2 1 = y 1
abbrev laid (v : Mem) : Mem := mrow v 2 (zMap (v 2) (v 0) 511)
section FP
variable {w v : Mem} {y : Nat → Nat} {B tl : Nat} {r : Int32} {u : Mem × (Nat → Nat)}
theorem fp_kpt (h : daPost w (laid v) y B tl r u) : kpt v y (mrow u.1 0 (zMap (u.1 0) (u.1 2) 511), u.2) := by
  obtain ⟨⟨a1, a2, a3, ⟨e0, e1, f0, f1, f2, f3⟩, a5, a6⟩, -⟩ := h
  refine ⟨fun x hx => ?_, a1, a3, ⟨e0, e1, f0, f1, f2, f3⟩, a5, a6⟩
  show zMap (u.1 0) (u.1 2) 511 x = v 0 x
  rw [zMap_lo hx, a2]
  show zMap (v 2) (v 0) 511 x = v 0 x
  exact zMap_lo hx
theorem fl_r {q : Nat} (hq : q ≤ 2) (h : daPost w (laid v) y B tl r u) : fltR (daRes v w tl) q = (if u.2 7 = 0 ∨ (q = 2 ∧ u.2 7 = 3) then -1000004 else if q = 0 then nI (u.2 9) else if q = 1 then nI (u.2 7) else nI (u.2 8)) := by
  obtain ⟨-, -, a1, a2, a3, a4, -⟩ := h
  rw [show daRes (laid v) w tl = daRes v w tl from rfl] at a1 a3 a4
  rw [fltR, ← a1]
  by_cases h0 : u.2 7 = 0 ∨ (q = 2 ∧ u.2 7 = 3)
  · rw [if_pos h0, if_pos h0]
  · rw [if_neg h0, if_neg h0, a3 (fun z => h0 (Or.inl z))]
    by_cases h1 : q = 0
    · rw [if_pos h1, if_pos h1]
    · rw [if_neg h1, if_neg h1]
      by_cases h2 : q = 1
      · rw [if_pos h2, if_pos h2]
      · rw [if_neg h2, if_neg h2]
        by_cases h3 : u.2 7 = 3
        · exact absurd (Or.inr ⟨by omega, h3⟩) h0
        · rw [a4 (fun z => h0 (Or.inl z)) h3]
theorem daRes_c {v2 : Mem} (h : v2 3 = v 3) : daRes v2 w tl = daRes v w tl := by rw [daRes, daRes, h]
/-- behind a text that was played -/
def plPost (w v : Mem) (y : Nat → Nat) (B tl s1 : Nat) (r : Int32) (u : Mem × (Nat → Nat)) : Prop :=
  r = nI (daRes v w tl).1 ∧ (∃ e, RR (daRes v w tl).2.2.2.2 (u.1 0) e (B + 61)) ∧ (∃ F : Nat → Int32, (∀ x, x < 511 → F x = v 0 x) ∧ u.1 1 = svR (v 1) F s1) ∧ u.1 3 = v 3 ∧ okDg u.1 ∧ u.2 0 = svN s1 ∧ u.2 1 = y 1
end FP
theorem pl_mk {w v : Mem} {y : Nat → Nat} {B tl s1 : Nat} {r : Int32} {u1 u : Mem × (Nat → Nat)} (hk : kpt v y (mrow u1.1 0 (zMap (u1.1 0) (u1.1 2) 511), u1.2)) (h3 : (mrow (mrow u1.1 0 (zMap (u1.1 0) (u1.1 2) 511)) 1 (svR (u1.1 1) (zMap (u1.1 0) (u1.1 2) 511) s1)) 3 = v 3)
    (h : daPost w (mrow (mrow u1.1 0 (zMap (u1.1 0) (u1.1 2) 511)) 1 (svR (u1.1 1) (zMap (u1.1 0) (u1.1 2) 511) s1)) (nup u1.2 0 (svN s1)) B tl r u) : plPost w v y B tl s1 r u := by
  obtain ⟨k1, k2, k3, k4, k5, k6⟩ := hk
  obtain ⟨⟨a1, a2, a3, a4, a5, a6⟩, b1, b2, -, -, -, e, b3⟩ := h
  rw [daRes_c h3] at b1 b3
  refine ⟨b1, ⟨e, b3⟩, ⟨_, k1, a1.trans ?_⟩, a3.trans h3, a4, a5, a6.trans k6⟩
  show svR (u1.1 1) (zMap (u1.1 0) (u1.1 2) 511) s1 = _
  rw [show u1.1 1 = v 1 from k2]
  rfl
