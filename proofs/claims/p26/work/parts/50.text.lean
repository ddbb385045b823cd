def textW (G : ZG) (b : Nat → Nat) (t : Mem) (L : Nat → Nat) : va_W := [(b 0, .inr (2, [.ref (b 1), .int (nI (L 0))])), (b 1, .inl (G.2.2.1, 60, .inl (t 0)))]
def playW (G : ZG) (q d : Nat) (P : Nat → Nat) : va_W :=
  [(q, .inr (0, [.ref d, .int (nI (P 0)), .int (nI (P 1)), .int (nI (P 2)), .int (nI (P 3)), .int (nI (P 4)), .int (nI (P 5)), .int (nI (P 6)), .int (nI (P 7)), .int (nI (P 8)), .int (nI (P 9)), .int (nI (P 10))]))]
theorem sgT_hi {t : Nat → Int32} {L k : Nat} (h : L ≤ k) : sgT t L k = 0 := if_neg (by omega)
theorem sgT_lo {t : Nat → Int32} {L k : Nat} (h : k < L) : sgT t L k = (t k).toNatClampNeg := if_pos h
theorem z_narc {q : Nat} (hq : q < 65536) : vp_nar .char (nI q) = nI q := by
  unfold vp_nar
  rw [(pk_charN hq).1]
theorem lc_is60 {t : Nat → Int32} {L p j : Nat} (hL : L ≤ 60) (h : allL (sgT t L) p j) (h2 : 60 ≤ j) : j = lc (sgT t L) p :=
  lc_is hL h (by rw [sgT_hi (by omega)]; omega)
theorem dgB_f {c : Nat} (h : dgB c = false) : ¬ (48 ≤ c ∧ c ≤ 57) := fun q => by
  unfold dgB at h
  rw [decide_eq_true q.1, decide_eq_true q.2] at h
  cases h
theorem rl_0 (P : Nat → Nat) (sg : Nat → Nat) (h9 : P 9 = 0) (h10 : P 10 = 0) : P = nup (nup (nup P 4 (P 4 + 0)) 9 0) 10 (wv sg (P 4) 0) := by
  funext j
  simp only [nup, wv]
  by_cases h : j = 10
  · subst h; simpa using h10
  · by_cases h2 : j = 9
    · subst h2; simpa using h9
    · by_cases h3 : j = 4
      · subst h3; simp
      · simp [h, h2, h3]
