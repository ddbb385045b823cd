theorem z_b (b : Bool) : b = true ∨ b = false := by cases b <;> simp
def dgB (c : Nat) : Bool := decide (48 ≤ c) && decide (c ≤ 57)
theorem dgB_t {c : Nat} (h : dgB c = true) : 48 ≤ c ∧ c ≤ 57 := by
  unfold dgB at h
  rw [Bool.and_eq_true, decide_eq_true_eq, decide_eq_true_eq] at h
  exact h
def prL (sg : Nat → Nat) (q d0 d1 : Nat) : Nat × Option (Nat × Nat × Nat × Nat) :=
  if 0 < lc sg q then if sg (q + lc sg q) = 59 then (q + lc sg q + 1, some (d0, d1, lc sg q, wv sg q (lc sg q))) else (q + lc sg q, none) else (q + lc sg q, none)
/-- an order read from p on: where it breaks off; or behind it, with its table or rule, cell, letters, word -/
def prs (sg : Nat → Nat) (p : Nat) : Nat × Option (Nat × Nat × Nat × Nat) :=
  if sg p = 33 then
    if dgB (sg (p + 1)) = true then if sg (p + 2) = 59 then (p + 3, some (sg (p + 1) - 48, 0, 0, 0)) else (p + 2, none) else (p + 1, none)
  else if sg p = 61 then
    if dgB (sg (p + 1)) = true then if sg (p + 2) = 44 then if dgB (sg (p + 3)) = true then if sg (p + 4) = 44 then prL sg (p + 5) (sg (p + 1) - 48) (sg (p + 3) - 48) else (p + 4, none) else (p + 3, none) else (p + 2, none) else (p + 1, none)
  else if sg p = 43 ∨ sg p = 45 then prL sg (p + 1) 0 0 else (p, none)
def okDg (v : Mem) : Prop := ∃ d0 d1 : Nat, d0 < 10 ∧ d1 < 10 ∧ v 6 0 = nI d0 ∧ v 6 1 = nI d1
theorem okDg_0 {v : Mem} {a : Nat} (h : okDg v) (ha : a < 10) : okDg (mrow v 6 (upd (v 6) 0 (nI a))) := by
  obtain ⟨d0, d1, h0, h1, e0, e1⟩ := h
  exact ⟨a, d1, ha, h1, rfl, e1⟩
theorem okDg_01 {v : Mem} {a b : Nat} (ha : a < 10) (hb : b < 10) : okDg (mrow v 6 (upd (upd (v 6) 0 (nI a)) 1 (nI b))) := ⟨a, b, ha, hb, rfl, rfl⟩
def rdPost (v : Mem) (y : Nat → Nat) (tl : Nat) (r : Int32) (u : Mem × (Nat → Nat)) : Prop :=
  (∀ k, k ≠ 6 → u.1 k = v k) ∧ okDg u.1 ∧ (∀ k, k ≠ 4 → k ≠ 5 → k ≠ 6 → u.2 k = y k) ∧ u.2 4 = (prs (sgT (v 3) tl) (y 4)).1 ∧ r = bI (prs (sgT (v 3) tl) (y 4)).2.isSome ∧
  ∀ d0 d1 k w : Nat, (prs (sgT (v 3) tl) (y 4)).2 = some (d0, d1, k, w) → (sgT (v 3) tl (y 4) = 33 → u.1 6 0 = nI d0) ∧ (sgT (v 3) tl (y 4) = 61 → u.1 6 0 = nI d0 ∧ u.1 6 1 = nI d1) ∧ (sgT (v 3) tl (y 4) ≠ 33 → u.2 5 = k ∧ u.2 6 = w)
theorem rdPost_mk {v : Mem} {y : Nat → Nat} {tl : Nat} {r : Int32} {V : Mem} {Y : Nat → Nat} (res : Nat × Option (Nat × Nat × Nat × Nat)) (h1 : ∀ k, k ≠ 6 → V k = v k) (h2 : okDg V) (h3 : ∀ k, k ≠ 4 → k ≠ 5 → k ≠ 6 → Y k = y k) (hres : prs (sgT (v 3) tl) (y 4) = res) (h4 : Y 4 = res.1) (h5 : r = bI res.2.isSome)
    (h6 : ∀ d0 d1 k w : Nat, res.2 = some (d0, d1, k, w) → (sgT (v 3) tl (y 4) = 33 → V 6 0 = nI d0) ∧ (sgT (v 3) tl (y 4) = 61 → V 6 0 = nI d0 ∧ V 6 1 = nI d1) ∧ (sgT (v 3) tl (y 4) ≠ 33 → Y 5 = k ∧ Y 6 = w)) : rdPost v y tl r (V, Y) := by
  subst hres
  exact ⟨h1, h2, h3, h4, h5, h6⟩
/-- what is out of its range -/
def rngF (c d0 d1 k : Nat) : Option Nat :=
  if c = 33 then (if 2 < d0 then some 2 else none) else if c = 61 ∧ 2 < d0 then some 0 else if c = 61 ∧ 5 < d1 then some 1 else if 6 < k then some 3 else none
def rngI : Option Nat → Int32
  | none => -1
  | some n => nI n
theorem wvs {sg : Nat → Nat} {p j : Nat} (h : j < 6) : wv sg p (j + 1) = 27 * wv sg p j + (sg (p + j) - 96) := if_pos h
theorem wvk {sg : Nat → Nat} {p j : Nat} (h : 6 ≤ j) : wv sg p (j + 1) = wv sg p j := if_neg (by omega)
theorem sgT_in {t : Nat → Int32} {L k : Nat} (h : sgT t L k ≠ 0) : k < L := by
  unfold sgT at h
  split at h
  · assumption
  · exact absurd rfl h
theorem allL_len {t : Nat → Int32} {L p j : Nat} (h : allL (sgT t L) p j) : j = 0 ∨ p + j ≤ L := by
  cases j with
  | zero => exact Or.inl rfl
  | succ j =>
    have h1 := h j (by omega)
    have h2 := sgT_in (t := t) (L := L) (k := p + j) (by omega)
    exact Or.inr (by omega)
theorem lc_is {t : Nat → Int32} {L p j : Nat} (hL : L ≤ 60) (h : allL (sgT t L) p j) (h2 : ¬ (97 ≤ sgT t L (p + j) ∧ sgT t L (p + j) ≤ 122)) : j = lc (sgT t L) p := by
  have h3 := allL_len h
  refine (lcF_at _ 60 j p h ?_).symm
  rcases Nat.lt_or_ge j 60 with q | q
  · exact Or.inr ⟨q, h2⟩
  · exact Or.inl (by omega)
theorem nm_0 (y : Nat → Nat) (sg : Nat → Nat) : nup (nup y 5 0) 6 0 = nup (nup (nup y 4 (y 4 + 0)) 5 0) 6 (wv sg (y 4) 0) := by
  funext j
  simp only [nup, wv]
  by_cases h : j = 4
  · subst h; simp
  · simp [h]
theorem lcF_le (sg : Nat → Nat) : ∀ (f p : Nat), lcF sg f p ≤ f
  | 0, _ => Nat.le_refl 0
  | f + 1, p => by
    rw [lcF]
    split
    · exact Nat.succ_le_succ (lcF_le sg f (p + 1))
    · exact Nat.zero_le _
theorem lc_le60 (sg : Nat → Nat) (p : Nat) : lc sg p ≤ 60 := lcF_le sg 60 p
