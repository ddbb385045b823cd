def mEntO (f : Nat → Int32) (n : Nat) : Nat → Int32 := upd f (44 + n) (f (44 + n) + nI 1)
def mEntN (f : Nat → Int32) (n : Nat) (x : Int32) : Nat → Int32 := upd (upd (upd (upd f (4 + n) x) (44 + n) (nI 0)) 1 (f 1 + nI 1)) (44 + n) (nI 0 + nI 1)
def shP (p : Nat → Int32) : Nat → Int32 := fun k => p (k + 511)
def segP (p : Nat → Int32) (s : Nat) : Nat → Int32 := fun k => p (511 * s + k)
def rU (f : Nat → Int32) : Nat → Int32 := fun i => f (44 + i)
def rY (f : Nat → Int32) : Nat → Int32 := fun i => f (84 + i)
/-- the reference's tags: the reason, and the number that it has come to -/
def mFol (f : Nat → Int32) (e : Nat) : Nat → Nat → Nat → Int32 → Nat × Option Nat
  | 0, _, n, yr => if f (4 + n) = 0 then (4, some n) else if f (84 + n) = yr then (0, some n) else (4, some n)
  | k + 1, d, n, yr => if f (142 + 123 * (e - 1 - d) + (3 + n)) = yr then mFol f e k (d + 1) (f (142 + 123 * (e - 1 - d) + (43 + n))).toNatClampNeg (f (142 + 123 * (e - 1 - d) + (83 + n))) else (3, none)
def mStaN (f : Nat → Int32) (e t : Nat) : Nat × Option Nat :=
  if 40 ≤ t % 100 then (1, none) else if e < t / 1000000 then (1, none) else if t / 1000000 < e - min e 3 then (2, none) else mFol f e (e - t / 1000000) (t / 1000000) (t % 100) (nI (t / 100 % 10000))
def mSta (f : Nat → Int32) (e : Nat) (x : Int32) : Nat × Option Nat := if x < 0 then (1, none) else mStaN f e x.toNatClampNeg
def mY (y : Nat → Nat) (r : Nat × Option Nat) : Nat → Nat := match r.2 with
  | none => y
  | some n => nup y 3 n
/-- what is kept of compactions: where a number had a name its new number is one, and years aren't negative -/
def okM (f : Nat → Int32) (e : Nat) : Prop := ∀ i n, i < 3 → i < e → n < 40 → f (142 + 123 * i + (3 + n)) = -1 ∨ ∃ q z : Nat, q < 40 ∧ z < 2 ^ 31 ∧ f (142 + 123 * i + (43 + n)) = nI q ∧ f (142 + 123 * i + (83 + n)) = nI z
theorem okM_of {f : Nat → Int32} {e i n z0 : Nat} (h : okM f e) (hi : i < 3) (hie : i < e) (hn : n < 40) (hz : f (142 + 123 * i + (3 + n)) = nI z0) (hz2 : z0 < 2 ^ 31) : ∃ q z : Nat, q < 40 ∧ z < 2 ^ 31 ∧ f (142 + 123 * i + (43 + n)) = nI q ∧ f (142 + 123 * i + (83 + n)) = nI z := by
  rcases h i n hi hie hn with h1 | h1
  · exact absurd (hz.symm.trans h1) (nI_nm1 hz2)
  · exact h1
theorem mFol_go {f : Nat → Int32} {e d n q z : Nat} {yr : Int32} (hd : d < e) (hy : f (142 + 123 * (e - 1 - d) + (3 + n)) = yr) (hq : q < 40) (hqe : f (142 + 123 * (e - 1 - d) + (43 + n)) = nI q) (hze : f (142 + 123 * (e - 1 - d) + (83 + n)) = nI z) : mFol f e (e - d) d n yr = mFol f e (e - (d + 1)) (d + 1) q (nI z) := by
  rw [show e - d = (e - (d + 1)) + 1 by omega, mFol, if_pos hy, hqe, hze, nI_clamp (by omega)]
theorem mFol_bad {f : Nat → Int32} {e d n : Nat} {yr : Int32} (hd : d < e) (hy : ¬ f (142 + 123 * (e - 1 - d) + (3 + n)) = yr) : mFol f e (e - d) d n yr = (3, none) := by
  rw [show e - d = (e - (d + 1)) + 1 by omega, mFol, if_neg hy]
/-- one number ahead of another, by names and users -/
def zAh (nm us : Nat → Int32) (ρ i j : Nat) : Bool :=
  if ρ = 1 then decide (padK 5 (nm i).toNatClampNeg < padK 5 (nm j).toNatClampNeg) else if ρ = 2 ∧ ¬ us i = us j then decide (¬ us i ≤ us j) else decide (i < j)
theorem zAhead_eq (v : Mem) (ρ i j : Nat) : zAhead v ρ i j = zAh (v 0) (v 1) ρ i j := rfl
def okNm (g : Nat → Int32) : Prop := ∀ i, i < 40 → g i = nI (g i).toNatClampNeg ∧ (g i).toNatClampNeg < 387420489
theorem okN_iff (v : Mem) : okN v ↔ okNm (v 0) := Iff.rfl
theorem nm_pos {x : Int32} {k : Nat} (h : x = nI k) (h0 : ¬ x = 0) : 1 ≤ k := by
  rcases Nat.eq_zero_or_pos k with q | q
  · subst q; exact absurd h h0
  · exact q
def zTop (g : Nat → Int32) : Nat → Nat
  | 0 => 0
  | n + 1 => if g n = 0 then zTop g n else n + 1
theorem zTp_eq (v : Mem) : ∀ n, zTp v n = zTop (v 0) n
  | 0 => rfl
  | n + 1 => by rw [zTp, zTop, zTp_eq v n]
/-- cells: one more user, the cell, one user less -/
def mPut1 (f : Nat → Int32) (i n : Nat) : Nat → Int32 := upd (upd f (44 + n) (f (44 + n) + nI 1)) (124 + i) (nI n)
/-- a text's characters -/
def okTx (t : Nat → Int32) : Prop := ∀ j, j < 60 → t j = nI (t j).toNatClampNeg ∧ (t j).toNatClampNeg < 65536
def sgT (t : Nat → Int32) (L k : Nat) : Nat := if k < L then (t k).toNatClampNeg else 0
theorem sgT_lt {t : Nat → Int32} {L : Nat} (h : okTx t) (hL : L ≤ 60) (k : Nat) : sgT t L k < 65536 := by
  unfold sgT
  split
  · exact (h k (by omega)).2
  · omega
theorem zTop_0 {g : Nat → Int32} {i : Nat} (h : g i = 0) : zTop g (i + 1) = zTop g i := if_pos h
theorem zTop_1 {g : Nat → Int32} {i : Nat} (h : ¬ g i = 0) : zTop g (i + 1) = i + 1 := if_neg h
