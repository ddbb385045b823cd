def Kp (f : Nat → Int32) (j : Nat) : Nat := padK 5 (f (4 + j)).toNatClampNeg
def naPost (f : Nat → Int32) (ρ q : Nat) (r : Int32) : Prop :=
  (∃ j, j < 40 ∧ ¬ f (4 + j) = 0 ∧ posA f ρ j = q ∧ r = f (4 + j)) ∨ ((∀ j, j < 40 → ¬ f (4 + j) = 0 → ¬ posA f ρ j = q) ∧ r = -1000004)
theorem na_n {f g : Nat → Int32} {ρ q m : Nat} {r : Int32} (hs : srt (rN f) (rU f) ρ 40 m g) (hq : m ≤ q) (hr : r = -1000004) : naPost f ρ q r :=
  Or.inr ⟨fun j hj hj0 z => by
    have h1 : zPos (rN f) (rU f) ρ j < m := (srt_at hs hj hj0).1
    have h2 : zPos (rN f) (rU f) ρ j = q := z
    omega, hr⟩
theorem na_y {f g : Nat → Int32} {ρ q m j : Nat} {r : Int32} (hs : srt (rN f) (rU f) ρ 40 m g) (hq : q < m) (hj : j < 40) (hj0 : ¬ rN f j = 0) (hje : g q = nI j) (hr : r = f (4 + j)) : naPost f ρ q r :=
  Or.inl ⟨j, hj, hj0, srt_pos hs hq hje hj, hr⟩
def bhPost (f : Nat → Int32) (k : Nat) (r : Int32) : Prop :=
  (∃ j, j < 40 ∧ ¬ f (4 + j) = 0 ∧ k < Kp f j ∧ (∀ i, i < 40 → ¬ f (4 + i) = 0 → k < Kp f i → Kp f j ≤ Kp f i) ∧ r = f (4 + j)) ∨ ((∀ i, i < 40 → ¬ f (4 + i) = 0 → ¬ k < Kp f i) ∧ r = -1000004)
theorem bh_n {f g : Nat → Int32} {k m t : Nat} {r : Int32} (hs : srt (rN f) (rU f) 1 40 m g) (hno : ∀ t' j, t' < t → g t' = nI j → j < 40 → ¬ k < Kp f j) (ht : m ≤ t) (hr : r = -1000004) : bhPost f k r :=
  Or.inr ⟨fun i hi hi0 z => by
    obtain ⟨t', h1, h2⟩ := hs.2.2 i hi hi0
    exact hno t' i (by omega) h2 hi z, hr⟩
theorem bh_y {f g : Nat → Int32} {k m t j : Nat} {r : Int32} (hs : srt (rN f) (rU f) 1 40 m g) (hno : ∀ t' j, t' < t → g t' = nI j → j < 40 → ¬ k < Kp f j) (ht : t < m) (hj : j < 40) (hj0 : ¬ rN f j = 0) (hje : g t = nI j) (hk : k < Kp f j) (hr : r = f (4 + j)) : bhPost f k r := by
  refine Or.inl ⟨j, hj, hj0, hk, fun i hi hi0 hki => ?_, hr⟩
  obtain ⟨t', h1, h2⟩ := hs.2.2 i hi hi0
  rcases Nat.lt_trichotomy t' t with q | q | q
  · exact absurd hki (hno t' i q h2 hi)
  · subst q
    have e := nI_inj (by omega) (by omega) (hje.symm.trans h2)
    subst e
    exact Nat.le_refl _
  · have h3 := hs.2.1 t t' j i q h1 hje hj h2 hi
    rw [zAh, if_pos rfl, decide_eq_true_eq] at h3
    exact Nat.le_of_lt h3
theorem bh_s {f g : Nat → Int32} {k t j : Nat} (hno : ∀ t' j, t' < t → g t' = nI j → j < 40 → ¬ k < Kp f j) (hj : j < 40) (hje : g t = nI j) (hk : ¬ k < Kp f j) : ∀ t' j, t' < t + 1 → g t' = nI j → j < 40 → ¬ k < Kp f j := by
  intro t' i h1 h2 h3
  rcases Nat.lt_or_ge t' t with q | q
  · exact hno t' i q h2 h3
  · have e : t' = t := by omega
    subst e
    have e := nI_inj (by omega) (by omega) (hje.symm.trans h2)
    subst e
    exact hk
def wbPost (f : Nat → Int32) (ρ n : Nat) (r : Int32) : Prop := (f (4 + n) = 0 ∧ r = -1000004) ∨ (¬ f (4 + n) = 0 ∧ r = nI (posA f ρ n))
theorem wb_y {f g : Nat → Int32} {ρ n m t : Nat} {r : Int32} (hs : srt (rN f) (rU f) ρ 40 m g) (hn : n < 40) (ht : t < m) (hg : g t = nI n) (hr : r = nI t) : wbPost f ρ n r := by
  obtain ⟨j, hj, hj0, hje⟩ := hs.1 t ht
  have e := nI_inj (by omega) (by omega) (hje.symm.trans hg)
  subst e
  exact Or.inr ⟨hj0, by rw [hr, show posA f ρ j = t from srt_pos hs ht hg hj]⟩
theorem wb_n {f g : Nat → Int32} {ρ n m t : Nat} {r : Int32} (hs : srt (rN f) (rU f) ρ 40 m g) (hn : n < 40) (hno : ∀ t', t' < t → ¬ g t' = nI n) (ht : m ≤ t) (hr : r = -1000004) : wbPost f ρ n r := by
  by_cases h0 : f (4 + n) = 0
  · exact Or.inl ⟨h0, hr⟩
  · obtain ⟨t', h1, h2⟩ := hs.2.2 n hn h0
    exact absurd h2 (hno t' (by omega))
/-- of a compaction's tags, those that stand now -/
def pSm (f : Nat → Int32) (e i : Nat) : Nat → Bool := fun n => decide (¬ f (142 + 123 * i + (3 + n)) < nI 0) && decide ((mSta f e (nI 1000000 * nI (e - 1 - i) + nI 100 * f (142 + 123 * i + (3 + n)) + nI n)).1 = 0)
/-- how many names begin with another -/
def pBg (g : Nat → Int32) (w : Nat) : Nat → Bool := fun n => decide (¬ g n = 0) && decide (begK 5 (g n).toNatClampNeg w = w)
theorem mY_3 (y : Nat → Nat) (r : Nat × Option Nat) : ∀ j, j ≠ 3 → mY y r j = y j := by
  intro j hj
  obtain ⟨k, o⟩ := r
  cases o with
  | none => rfl
  | some n => exact if_neg hj
theorem mSta_le4 (f : Nat → Int32) (e : Nat) (x : Int32) : (mSta f e x).1 < 2 ^ 31 := by
  have key : ∀ (k d n : Nat) (yr : Int32), (mFol f e k d n yr).1 ≤ 4 := by
    intro k
    induction k with
    | zero =>
      intro d n yr
      rw [mFol]
      split
      · exact Nat.le_refl _
      · split
        · exact Nat.zero_le _
        · exact Nat.le_refl _
    | succ k ih =>
      intro d n yr
      rw [mFol]
      split
      · exact ih _ _ _
      · show 3 ≤ 4
        omega
  rw [mSta]
  split
  · show 1 < 2 ^ 31
    omega
  · rw [mStaN]
    split
    · show 1 < 2 ^ 31
      omega
    · split
      · show 1 < 2 ^ 31
        omega
      · split
        · show 2 < 2 ^ 31
          omega
        · have := key (e - x.toNatClampNeg / 1000000) (x.toNatClampNeg / 1000000) (x.toNatClampNeg % 100) (nI (x.toNatClampNeg / 100 % 10000))
          omega
