theorem zBel_ge {x : Int32} {b : Nat} (h : nI b ≤ x) : zBel x b = false := by
  have h2 : ¬ x < nI b := by
    rw [Int32.lt_iff_toInt_lt]
    rw [Int32.le_iff_toInt_le] at h
    omega
  simp [zBel, h2]
theorem zBel_t {x : Int32} {b : Nat} (h1 : ¬ x < 0) (h : ¬ nI b ≤ x) : zBel x b = true := by
  have h2 : x < nI b := by
    rw [Int32.lt_iff_toInt_lt]
    rw [Int32.le_iff_toInt_le] at h
    omega
  simp [zBel, h1, h2]
theorem z_ext {p : Nat → Prop} {i : Nat} (h : ∀ j, j < i → ¬ p j) (hp : ¬ p i) : ∀ j, j < i + 1 → ¬ p j := by
  intro j hj
  rcases Nat.lt_or_ge j i with q | q
  · exact h j q
  · rw [show j = i by omega]; exact hp
def digOk : Nat → Nat → Bool
  | 0, _ => true
  | f + 1, k => if k = 0 then true else if k % 27 = 0 then false else digOk f (k / 27)
theorem digOk_end {i r : Nat} (h : 6 ≤ i ∨ r = 0) : digOk (6 - i) r = true := by
  rcases h with h | h
  · rw [show 6 - i = 0 by omega]; rfl
  · subst h
    cases 6 - i <;> simp [digOk]
theorem digOk_bad {i r : Nat} (hi : i < 6) (h0 : r ≠ 0) (h : r % 27 = 0) : digOk (6 - i) r = false := by
  rw [show 6 - i = (5 - i) + 1 by omega, digOk, if_neg h0, if_pos h]
theorem digOk_go {i r : Nat} (hi : i < 6) (h0 : r ≠ 0) (h : r % 27 ≠ 0) : digOk (6 - i) r = digOk (6 - (i + 1)) (r / 27) := by
  rw [show 6 - i = (5 - i) + 1 by omega, digOk, if_neg h0, if_neg h, show 6 - (i + 1) = 5 - i by omega]
/-- whether an int is a name -/
def zName (x : Int32) : Bool := !decide (x < nI 1) && (decide (x ≤ nI 387420488) && digOk 6 x.toNatClampNeg)
theorem zName_N {k : Nat} (h1 : 1 ≤ k) (h2 : k ≤ 387420488) : zName (nI k) = digOk 6 k := by
  unfold zName
  rw [decide_eq_false (nI_nlt h1 (by omega)), decide_eq_true (nI_le h2 (by omega)), nI_clamp (by omega)]
  simp
theorem zName_lo {x : Int32} (h : x < nI 1) : zName x = false := by simp [zName, h]
theorem zName_hi {x : Int32} (h : ¬ x ≤ nI 387420488) : zName x = false := by simp [zName, h]
theorem zName_ex {x : Int32} (h1 : ¬ x < nI 1) (h2 : x ≤ nI 387420488) : ∃ k : Nat, 1 ≤ k ∧ k ≤ 387420488 ∧ x = nI k := by
  rw [Int32.lt_iff_toInt_lt, nI_toInt (by omega)] at h1
  rw [Int32.le_iff_toInt_le, nI_toInt (by omega)] at h2
  obtain ⟨j, hj, rfl⟩ := nI_of (x := x) (by rw [Int32.lt_iff_toInt_lt]; show ¬ x.toInt < 0; omega)
  rw [nI_toInt hj] at h1 h2
  exact ⟨j, by omega, by omega, rfl⟩
theorem zName_of {x : Int32} (h : zName x = true) : ∃ k : Nat, 1 ≤ k ∧ k ≤ 387420488 ∧ x = nI k ∧ digOk 6 k = true := by
  have h1 : ¬ x < nI 1 := fun q => by rw [zName_lo q] at h; cases h
  have h2 : x ≤ nI 387420488 := Classical.byContradiction fun q => by rw [zName_hi q] at h; cases h
  obtain ⟨k, a, b, rfl⟩ := zName_ex h1 h2
  rw [zName_N a b] at h
  exact ⟨k, a, b, rfl, h⟩
/-- a name with empty places behind it -/
def padK : Nat → Nat → Nat
  | 0, k => k
  | f + 1, k => if k < 14348907 then padK f (k * 27) else k
theorem padK_end {i k : Nat} (h : 6 ≤ i ∨ 14348907 ≤ k) : padK (6 - i) k = k := by
  rcases h with h | h
  · rw [show 6 - i = 0 by omega]; rfl
  · cases 6 - i with
    | zero => rfl
    | succ f => rw [padK, if_neg (by omega)]
theorem padK_go {i k : Nat} (hi : i < 6) (h : k < 14348907) : padK (6 - i) k = padK (6 - (i + 1)) (k * 27) := by
  rw [show 6 - i = (5 - i) + 1 by omega, padK, if_pos h, show 6 - (i + 1) = 5 - i by omega]
theorem padK_lt : ∀ (f k : Nat), k < 387420489 → padK f k < 387420489
  | 0, k, h => h
  | f + 1, k, h => by
    rw [padK]
    split
    · exact padK_lt f (k * 27) (by omega)
    · exact h
def begK : Nat → Nat → Nat → Nat
  | 0, r, _ => r
  | f + 1, r, w => if w < r then begK f (r / 27) w else r
theorem begK_end {i r w : Nat} (h : 6 ≤ i ∨ r ≤ w) : begK (6 - i) r w = r := by
  rcases h with h | h
  · rw [show 6 - i = 0 by omega]; rfl
  · cases 6 - i with
    | zero => rfl
    | succ f => rw [begK, if_neg (by omega)]
theorem begK_go {i r w : Nat} (hi : i < 6) (h : w < r) : begK (6 - i) r w = begK (6 - (i + 1)) (r / 27) w := by
  rw [show 6 - i = (5 - i) + 1 by omega, begK, if_pos h, show 6 - (i + 1) = 5 - i by omega]
/-- an array filled -/
def zFillA (n : Nat) (x : Int32) (f : Nat → Int32) : Nat → Int32 := fun j => if j < n then x else f j
def zFillTo (i : Nat) (x : Int32) (f : Nat → Int32) : Nat → Int32 := fun j => if j < i then x else f j
theorem zFillTo_0 (x : Int32) (f : Nat → Int32) : zFillTo 0 x f = f := by funext j; simp [zFillTo]
theorem zFillTo_s (i : Nat) (x : Int32) (f : Nat → Int32) : upd (zFillTo i x f) i x = zFillTo (i + 1) x f := by
  funext j
  unfold upd zFillTo
  by_cases h : j = i
  · rw [if_pos h, if_pos (by omega)]
  · rw [if_neg h]
    by_cases h2 : j < i
    · rw [if_pos h2, if_pos (by omega)]
    · rw [if_neg h2, if_neg (by omega)]
/-- the first place of x in a row of 40, or 40 -/
def zfn (f : Nat → Int32) (x : Int32) : Nat := fa_first (fun i => decide (f i = x)) 40
theorem fa_first_at (p : Nat → Bool) {i : Nat} (hp : p i = true) (hno : ∀ j, j < i → p j = false) : ∀ n, i < n → fa_first p n = i
  | 0, h => absurd h (Nat.not_lt_zero i)
  | n + 1, h => by
    rw [fa_first]
    rcases Nat.lt_or_ge i n with q | q
    · rw [fa_first_at p hp hno n q, if_pos q]
    · have hin : i = n := by omega
      subst hin
      have hge : ¬ fa_first p i < i := fun z => by
        have h1 := fa_first_yes p i z
        rw [hno _ z] at h1
        cases h1
      rw [if_neg hge, if_pos hp]
theorem fa_first_none (p : Nat → Bool) : ∀ n, (∀ j, j < n → p j = false) → fa_first p n = n
  | 0, _ => rfl
  | n + 1, h => by
    rw [fa_first, fa_first_none p n (fun j hj => h j (by omega)), if_neg (Nat.lt_irrefl n), if_neg (by rw [h n (by omega)]; decide)]
def zNum (f : Nat → Int32) (x : Int32) : Int32 := if zfn f x < 40 then nI (zfn f x) else -1
theorem zNum_at {f : Nat → Int32} {x : Int32} {i : Nat} (hi : i < 40) (hx : f i = x) (hno : ∀ j, j < i → ¬ f j = x) : nI i = zNum f x := by
  have h : zfn f x = i := fa_first_at _ (decide_eq_true hx) (fun j hj => decide_eq_false (hno j hj)) 40 hi
  rw [zNum, h, if_pos hi]
theorem zNum_no {f : Nat → Int32} {x : Int32} {i : Nat} (hi : 40 ≤ i) (hno : ∀ j, j < i → ¬ f j = x) : -1 = zNum f x := by
  have h : zfn f x = 40 := fa_first_none _ 40 (fun j hj => decide_eq_false (hno j (by omega)))
  rw [zNum, h, if_neg (by decide)]
theorem zNum_lt {f : Nat → Int32} {x : Int32} (h : zfn f x < 40) : zNum f x = nI (zfn f x) := if_pos h
theorem zNum_ge {f : Nat → Int32} {x : Int32} (h : ¬ zfn f x < 40) : zNum f x = -1 := if_neg h
theorem zfn_is {f : Nat → Int32} {x : Int32} (h : zfn f x < 40) : f (zfn f x) = x := of_decide_eq_true (fa_first_yes (fun i => decide (f i = x)) 40 h)
theorem zfn_no {f : Nat → Int32} {x : Int32} {j : Nat} (h : j < zfn f x) : ¬ f j = x := of_decide_eq_false (fa_first_no (fun i => decide (f i = x)) 40 j h)
/-- how many of the cells have a number -/
def zCells (f : Nat → Int32) (x : Int32) : Nat := fb_ct (fun i => decide (f i = x)) 18
theorem fb_ct_t {p : Nat → Bool} {n : Nat} (h : p n = true) : fb_ct p (n + 1) = fb_ct p n + 1 := by rw [fb_ct_succ, if_pos h]
theorem fb_ct_f {p : Nat → Bool} {n : Nat} (h : p n = false) : fb_ct p (n + 1) = fb_ct p n := by rw [fb_ct_succ, if_neg (by rw [h]; decide)]; rfl
theorem nI_nm1 {k : Nat} (h : k < 2 ^ 31) : ¬ nI k = -1 := by
  intro q
  have h1 := congrArg Int32.toInt q
  rw [nI_toInt h] at h1
  have h2 : (-1 : Int32).toInt = -1 := by decide
  omega
theorem bI_t : nI 1 = bI true := rfl
theorem bI_f : nI 0 = bI false := rfl
theorem bI_dt {P : Prop} [Decidable P] (h : P) : nI 1 = bI (decide P) := by rw [decide_eq_true h]; rfl
theorem bI_df {P : Prop} [Decidable P] (h : ¬ P) : nI 0 = bI (decide P) := by rw [decide_eq_false h]; rfl
/-- a user gives a number back -/
def zGive (v : Mem) (n : Nat) : Mem :=
  if v 1 n - nI 1 = 0 then mst (mst (mst (mst v 1 n (v 1 n - nI 1)) 0 n (nI 0)) 2 n (v 2 n + nI 1)) 12 2 (v 12 2 + nI 1)
  else mst v 1 n (v 1 n - nI 1)
def nmK (v : Mem) (i : Nat) : Nat := (v 0 i).toNatClampNeg
def okN (v : Mem) : Prop := ∀ i, i < 40 → v 0 i = nI (nmK v i) ∧ nmK v i < 387420489
def zAhead (v : Mem) (ρ i j : Nat) : Bool :=
  if ρ = 1 then decide (padK 5 (nmK v i) < padK 5 (nmK v j)) else if ρ = 2 ∧ ¬ v 1 i = v 1 j then decide (¬ v 1 i ≤ v 1 j) else decide (i < j)
def pPl (v : Mem) (ρ n : Nat) : Nat → Bool := fun i => decide (¬ v 0 i = 0) && zAhead v ρ i n
def zPl (v : Mem) (ρ n : Nat) : Nat := fb_ct (pPl v ρ n) 40
def pNm (v : Mem) : Nat → Bool := fun i => decide (¬ v 0 i = 0)
def zSm (f : Nat → Int32) : Nat → Int32
  | 0 => nI 0
  | n + 1 => zSm f n + f n
def zTp (v : Mem) : Nat → Nat
  | 0 => 0
  | n + 1 => if v 0 n = 0 then zTp v n else n + 1
/-- a tag followed: k epochs to go, the epoch d, the number n, the year y; the number that it comes to, or the reason, negative -/
def zFol (v : Mem) : Nat → Nat → Nat → Int32 → Int32
  | 0, _, n, y => if v 0 n = 0 then -4 else if v 2 n = y then nI n else -4
  | k + 1, d, n, y => if zBel (v 8 (d % 3 * 40 + n)) 40 = true then (if v 7 (d % 3 * 40 + n) = y then zFol v k (d + 1) (v 8 (d % 3 * 40 + n)).toNatClampNeg (v 9 (d % 3 * 40 + (v 8 (d % 3 * 40 + n)).toNatClampNeg)) else -3) else -3
def zStaN (v : Mem) (e t : Nat) : Int32 :=
  if 40 ≤ t % 100 then -1 else if e < t / 1000000 then -1 else if t / 1000000 + 3 < e then -2 else zFol v (e - t / 1000000) (t / 1000000) (t % 100) (nI (t / 100 % 10000))
def zSta (v : Mem) (e : Nat) (x : Int32) : Int32 := if x < 0 then -1 else zStaN v e x.toNatClampNeg
theorem z_m3 {a e : Nat} (ha : a < 2 ^ 30) (he : e < 2 ^ 30) : nI a < nI e - nI 3 ↔ a + 3 < e := by
  rw [Int32.lt_iff_toInt_lt, pk_sub_toInt he (by omega), nI_toInt (by omega)]
  omega
def pSt (v : Mem) (e d : Nat) : Nat → Bool := fun i => decide (¬ v 8 (d % 3 * 40 + i) = -1) && decide (¬ zSta v e (nI 1000000 * nI d + nI 100 * v 7 (d % 3 * 40 + i) + nI i) < 0)
theorem zTp_go {v : Mem} {i : Nat} (hi : 0 < i) (h : v 0 (i - 1) = 0) : zTp v i = zTp v (i - 1) := by
  obtain ⟨j, rfl⟩ : ∃ j, i = j + 1 := ⟨i - 1, by omega⟩
  rw [Nat.add_sub_cancel] at h ⊢
  rw [zTp, if_pos h]
theorem zTp_at {v : Mem} {i : Nat} (hi : 0 < i) (h : ¬ v 0 (i - 1) = 0) : zTp v i = i := by
  obtain ⟨j, rfl⟩ : ∃ j, i = j + 1 := ⟨i - 1, by omega⟩
  rw [Nat.add_sub_cancel] at h
  rw [zTp, if_neg h]
theorem zFol_go {v : Mem} {e d n q : Nat} {y : Int32} (hd : d < e) (hq : v 8 (d % 3 * 40 + n) = nI q) (hq2 : q < 40) (hy : v 7 (d % 3 * 40 + n) = y) : zFol v (e - d) d n y = zFol v (e - (d + 1)) (d + 1) q (v 9 (d % 3 * 40 + q)) := by
  rw [show e - d = (e - (d + 1)) + 1 by omega, zFol, hq, if_pos (by rw [zBel_N (by omega) (by decide)]; exact decide_eq_true hq2), if_pos hy, nI_clamp (by omega)]
theorem zFol_bad {v : Mem} {e d n : Nat} {y : Int32} (hd : d < e) (h : zBel (v 8 (d % 3 * 40 + n)) 40 = false ∨ ¬ v 7 (d % 3 * 40 + n) = y) : zFol v (e - d) d n y = -3 := by
  rw [show e - d = (e - (d + 1)) + 1 by omega, zFol]
  rcases h with h | h
  · rw [if_neg (by rw [h]; decide)]
  · rw [if_neg h]; split <;> rfl
/-- the first i places from g, the rest from f -/
def zMap (f g : Nat → Int32) (i : Nat) : Nat → Int32 := fun j => if j < i then g j else f j
theorem zMap_0 (f g : Nat → Int32) : zMap f g 0 = f := by funext j; simp [zMap]
theorem zMap_at (f g : Nat → Int32) (i : Nat) : zMap f g i i = f i := by simp [zMap]
theorem zMap_lo {f g : Nat → Int32} {i j : Nat} (h : j < i) : zMap f g i j = g j := by simp [zMap, h]
theorem zMap_hi {f g : Nat → Int32} {i j : Nat} (h : i ≤ j) : zMap f g i j = f j := if_neg (by omega)
theorem zMap_s {f g : Nat → Int32} {i : Nat} {x : Int32} (h : g i = x) : upd (zMap f g i) i x = zMap f g (i + 1) := by
  subst h
  funext j
  unfold upd zMap
  by_cases h : j = i
  · subst h; rw [if_pos rfl, if_pos (by omega)]
  · rw [if_neg h]
    by_cases h2 : j < i
    · rw [if_pos h2, if_pos (by omega)]
    · rw [if_neg h2, if_neg (by omega)]
theorem zMap_k {f g : Nat → Int32} {i : Nat} (h : g i = f i) : zMap f g i = zMap f g (i + 1) := by
  rw [← zMap_s h]
  funext j
  unfold upd zMap
  by_cases h : j = i
  · subst h; rw [if_pos rfl, if_neg (by omega)]
  · rw [if_neg h]
theorem mst_mrow (v : Mem) (k : Nat) (f : Nat → Int32) (i : Nat) (x : Int32) : mst (mrow v k f) k i x = mrow v k (upd f i x) := by
  funext k' j
  unfold mst mrow
  by_cases h : k' = k
  · subst h; simp
  · simp [h]
theorem mrow_self (v : Mem) (k : Nat) : mrow v k (v k) = v := by
  funext k' j
  unfold mrow
  by_cases h : k' = k
  · subst h; simp
  · simp [h]
theorem mrow_mrow (v : Mem) (k : Nat) (f g : Nat → Int32) : mrow (mrow v k f) k g = mrow v k g := by
  funext k' j
  unfold mrow
  by_cases h : k' = k
  · subst h; simp
  · simp [h]
theorem mrow_swap (v : Mem) {k k2 : Nat} (h : k ≠ k2) (f g : Nat → Int32) : mrow (mrow v k f) k2 g = mrow (mrow v k2 g) k f := by
  funext k' j
  unfold mrow
  by_cases h1 : k' = k
  · subst h1; simp [h]
  · by_cases h2 : k' = k2
    · subst h2; simp [h1]
    · simp [h1, h2]
theorem mst_row (v : Mem) (k i : Nat) (x : Int32) : mst v k i x = mrow v k (upd (v k) i x) := rfl
/-- cells of tables, renumbered -/
def mvC (v : Mem) (r : Nat) : Nat → Int32 := fun j => if zBel (v 3 j) 40 = true then v 8 (r + (v 3 j).toNatClampNeg) else v 3 j
def zMvC (v : Mem) (r : Nat) : Mem := mrow v 3 (zMap (v 3) (mvC v r) 18)
theorem mvC_in {v : Mem} {r j q : Nat} (h : zBel (v 3 j) 40 = true) (hq : q < 40) (he : v 3 j = nI q) : mvC v r j = v 8 (r + q) := by
  rw [mvC, if_pos h, he, nI_clamp (by omega)]
theorem mvC_out {v : Mem} {r j : Nat} (h : zBel (v 3 j) 40 = false) : mvC v r j = v 3 j := if_neg (by rw [h]; decide)
/-- a row whose places go to new places -/
def mvTo (nb old base : Nat → Int32) : Nat → Nat → Int32
  | 0 => base
  | i + 1 => if zBel (nb i) 40 = true then upd (mvTo nb old base i) (nb i).toNatClampNeg (old i) else mvTo nb old base i
theorem mvTo_in {nb old base : Nat → Int32} {i q : Nat} {x : Int32} (h : zBel (nb i) 40 = true) (hq : q < 40) (he : nb i = nI q) (hx : old i = x) : upd (mvTo nb old base i) q x = mvTo nb old base (i + 1) := by
  rw [mvTo, if_pos h, he, nI_clamp (by omega), hx]
theorem mvTo_out {nb old base : Nat → Int32} {i : Nat} (h : zBel (nb i) 40 = false) : mvTo nb old base i = mvTo nb old base (i + 1) := by
  rw [mvTo, if_neg (by rw [h]; decide)]
def nbR (v : Mem) (r : Nat) : Nat → Int32 := fun i => v 8 (r + i)
def mvN (v : Mem) (r k : Nat) (i : Nat) : Nat → Int32 := mvTo (nbR v r) (v k) (zFillA 40 (nI 0) (v k)) i
def zMv1 (v : Mem) (r i : Nat) : Mem := mrow (mrow (mrow (mrow v 10 (va_cpy (v 0) (v 10) 0 0 40)) 11 (va_cpy (v 1) (v 11) 0 0 40)) 0 (mvN v r 0 i)) 1 (mvN v r 1 i)
def yrN (v : Mem) (r : Nat) : Nat → Int32 := fun j => if mvN v r 0 40 j = v 0 j then v 2 j else v 2 j + nI 1
def zMvN (v : Mem) (r : Nat) : Mem := mrow (zMv1 v r 40) 2 (zMap (v 2) (yrN v r) 40)
/-- a compaction -/
def nxN (v : Mem) (ρ : Nat) : Nat → Int32 := fun j => if v 0 j = 0 then -1 else nI (zPl v ρ j)
def pMv (v : Mem) (ρ : Nat) : Nat → Bool := fun j => decide (¬ nxN v ρ j = -1) && decide (¬ nxN v ρ j = nI j)
def zAn1 (v : Mem) (ρ e : Nat) : Mem := mst (mst (mst (mrow v 8 (fb_put (v 8) (nxN v ρ) (e % 3 * 40) 40)) 4 (e % 3) (nI ρ)) 5 (e % 3) (nI (fb_ct (pNm v) 40))) 6 (e % 3) (nI (fb_ct (pMv v ρ) 40))
def zAn2 (v : Mem) (ρ e : Nat) : Mem := zMvC (zMvN (mrow (zAn1 v ρ e) 7 (va_cpy (v 2) (v 7) 0 (e % 3 * 40) 40)) (e % 3 * 40)) (e % 3 * 40)
def zAnew (v : Mem) (ρ e : Nat) : Mem := mst (mrow (zAn2 v ρ e) 9 (va_cpy (zAn2 v ρ e 2) (v 9) 0 (e % 3 * 40) 40)) 12 0 (nI (e + 1))
def zCopy (v w : Mem) : Mem :=
  mrow (mrow (mrow (mrow (mrow (mrow (mst (mst (mst (mrow (mrow (mrow (mrow v 0 (va_cpy (w 0) (v 0) 0 0 40)) 1 (va_cpy (w 1) (v 1) 0 0 40)) 2 (va_cpy (w 2) (v 2) 0 0 40)) 3 (va_cpy (w 3) (v 3) 0 0 18)) 12 0 (w 12 0)) 12 1 (w 12 1)) 12 2 (w 12 2)) 4 (va_cpy (w 4) (v 4) 0 0 3)) 5 (va_cpy (w 5) (v 5) 0 0 3)) 6 (va_cpy (w 6) (v 6) 0 0 3)) 7 (va_cpy (w 7) (v 7) 0 0 120)) 8 (va_cpy (w 8) (v 8) 0 0 120)) 9 (va_cpy (w 9) (v 9) 0 0 120)
theorem zMv1_out {v : Mem} {r i : Nat} (h : zBel (v 8 (r + i)) 40 = false) : zMv1 v r i = zMv1 v r (i + 1) := by
  have h0 : mvN v r 0 i = mvN v r 0 (i + 1) := mvTo_out h
  have h1 : mvN v r 1 i = mvN v r 1 (i + 1) := mvTo_out h
  rw [zMv1, zMv1, h0, h1]
theorem zMv1_in {v : Mem} {r i q : Nat} (h : zBel (v 8 (r + i)) 40 = true) (hq : q < 40) (he : v 8 (r + i) = nI q) : mst (mst (zMv1 v r i) 0 q (v 0 i)) 1 q (v 1 i) = zMv1 v r (i + 1) := by
  have h0 : upd (mvN v r 0 i) q (v 0 i) = mvN v r 0 (i + 1) := mvTo_in h hq he rfl
  have h1 : upd (mvN v r 1 i) q (v 1 i) = mvN v r 1 (i + 1) := mvTo_in h hq he rfl
  rw [zMv1, zMv1, ← h0, ← h1, mrow_swap _ (by decide : (0 : Nat) ≠ 1), mst_mrow, mrow_swap _ (by decide : (1 : Nat) ≠ 0), mst_mrow]
theorem pMv_eq {v : Mem} {ρ i : Nat} : pMv v ρ i = (decide (¬ nxN v ρ i = -1) && decide (¬ nxN v ρ i = nI i)) := rfl
theorem nxN_n {v : Mem} {ρ i : Nat} (h : ¬ v 0 i = 0) : nxN v ρ i = nI (zPl v ρ i) := if_neg h
/-- between two numbers -/
def zWi (x : Int32) (lo hi : Nat) : Bool := decide (¬ x < nI lo) && decide (¬ nI hi < x)
theorem zWi_lo {x : Int32} {lo hi : Nat} (h : x < nI lo) : zWi x lo hi = false := by simp [zWi, h]
theorem zWi_hi {x : Int32} {lo hi : Nat} (h : nI hi < x) : zWi x lo hi = false := by simp [zWi, h]
theorem zWi_t {x : Int32} {lo hi : Nat} (h1 : ¬ x < nI lo) (h2 : ¬ nI hi < x) : zWi x lo hi = true := by simp [zWi, h1, h2]
theorem zWi_N {a lo hi : Nat} (ha : a < 2 ^ 31) (hl : lo < 2 ^ 31) (hh : hi < 2 ^ 31) : zWi (nI a) lo hi = (decide (lo ≤ a) && decide (a ≤ hi)) := by
  unfold zWi
  have h1 : (¬ nI a < nI lo) ↔ lo ≤ a := by rw [nI_ltI ha hl]; exact Nat.not_lt
  have h2 : (¬ nI hi < nI a) ↔ a ≤ hi := by rw [nI_ltI hh ha]; exact Nat.not_lt
  rw [decide_eq_decide.mpr h1, decide_eq_decide.mpr h2]
theorem zWi_of {x : Int32} {lo hi : Nat} (hl : lo < 2 ^ 31) (hh : hi < 2 ^ 31) (h : zWi x lo hi = true) : ∃ n : Nat, lo ≤ n ∧ n ≤ hi ∧ x = nI n := by
  unfold zWi at h
  rw [Bool.and_eq_true, decide_eq_true_eq, decide_eq_true_eq] at h
  obtain ⟨h1, h2⟩ := h
  rw [Int32.lt_iff_toInt_lt, nI_toInt hl] at h1
  rw [Int32.lt_iff_toInt_lt, nI_toInt hh] at h2
  obtain ⟨j, hj, rfl⟩ := nI_of (x := x) (by rw [Int32.lt_iff_toInt_lt]; show ¬ x.toInt < 0; omega)
  rw [nI_toInt hj] at h1 h2
  exact ⟨j, by omega, by omega, rfl⟩
theorem digOk_m {f r : Nat} {b : Bool} (h : r < 27 ^ f) (h0 : 0 < r) : ∃ g, f = g + 1 ∧ r / 27 < 27 ^ g ∧ digOk f r = (decide (0 < r % 27) && digOk g (r / 27)) := by
  cases f with
  | zero => rw [Nat.pow_zero] at h; omega
  | succ g =>
    refine ⟨g, rfl, ?_, ?_⟩
    · rw [Nat.pow_succ] at h
      omega
    · rw [digOk, if_neg (by omega)]
      by_cases h1 : r % 27 = 0
      · rw [if_pos h1, decide_eq_false (by omega)]; rfl
      · rw [if_neg h1, decide_eq_true (by omega)]; rfl
theorem digOk_0 (f : Nat) : digOk f 0 = true := by cases f <;> simp [digOk]
theorem padK_m {f r : Nat} (h : 14348907 ≤ r * 27 ^ f) (h0 : r < 14348907) : ∃ g, f = g + 1 ∧ 14348907 ≤ r * 27 * 27 ^ g ∧ padK f r = padK g (r * 27) := by
  cases f with
  | zero => rw [Nat.pow_zero] at h; omega
  | succ g =>
    refine ⟨g, rfl, ?_, ?_⟩
    · rw [Nat.pow_succ] at h
      rw [Nat.mul_assoc, Nat.mul_comm 27]
      exact h
    · rw [padK, if_pos h0]
theorem padK_x {f r : Nat} (h0 : 14348907 ≤ r) : padK f r = r := by
  cases f with
  | zero => rfl
  | succ g => rw [padK, if_neg (by omega)]
/-- the reference's row, in parts -/
def rN (f : Nat → Int32) : Nat → Int32 := fun i => f (4 + i)
def rC (f : Nat → Int32) : Nat → Int32 := fun i => f (124 + i)
def mGive (f : Nat → Int32) (n : Nat) : Nat → Int32 :=
  if f (44 + n) - nI 1 = 0 then upd (upd (upd (upd f (44 + n) (f (44 + n) - nI 1)) (4 + n) (nI 0)) (84 + n) (f (84 + n) + nI 1)) 2 (f 2 + nI 1)
  else upd f (44 + n) (f (44 + n) - nI 1)
def mEnt (f : Nat → Int32) (x : Int32) : Nat → Int32 :=
  if zfn (rN f) x < 40 then upd f (44 + zfn (rN f) x) (f (44 + zfn (rN f) x) + nI 1)
  else upd (upd (upd (upd f (4 + zfn (rN f) (nI 0)) x) (44 + zfn (rN f) (nI 0)) (nI 0)) 1 (f 1 + nI 1)) (44 + zfn (rN f) (nI 0)) (nI 0 + nI 1)
def mTag (f : Nat → Int32) (n : Nat) : Int32 := nI 1000000 * f 0 + nI 100 * f (84 + n) + nI n
/-- letters taken off a name until it is no longer than another, that one is left -/
def begX (r w : Nat) : Prop := ∃ f, begK f r w = w
theorem begK_le : ∀ (f : Nat) {r w : Nat}, r ≤ w → begK f r w = r
  | 0, _, _, _ => rfl
  | f + 1, r, w, h => by rw [begK, if_neg (by omega)]
theorem begX_y {r w : Nat} (h : r = w) : begX r w := ⟨0, h⟩
theorem begX_n {r w : Nat} (h : r ≤ w) : begX r w → r = w := fun ⟨f, q⟩ => by rw [begK_le f h] at q; exact q
theorem begX_go {r w : Nat} (hw : 1 ≤ w) (h : w < r) : begX r w ↔ begX (r / 27) w := by
  constructor
  · rintro ⟨f, q⟩
    cases f with
    | zero => rw [begK] at q; omega
    | succ g => rw [begK, if_pos h] at q; exact ⟨g, q⟩
  · rintro ⟨f, q⟩
    exact ⟨f + 1, by rw [begK, if_pos h]; exact q⟩
theorem begX_f : ∀ (f g : Nat) {r w : Nat}, r < 27 ^ (f + 1) → 1 ≤ w → begK g r w = w → begK f r w = w
  | 0, g, r, w, h, hw, q => by
    rw [begK]
    rw [Nat.zero_add, Nat.pow_one] at h
    cases g with
    | zero => exact q
    | succ g =>
      rw [begK] at q
      by_cases h1 : w < r
      · rw [if_pos h1, begK_le g (by omega)] at q
        omega
      · rw [if_neg h1] at q; exact q
  | f + 1, g, r, w, h, hw, q => by
    rw [begK]
    cases g with
    | zero =>
      rw [begK] at q
      rw [if_neg (by omega)]; exact q
    | succ g =>
      rw [begK] at q
      by_cases h1 : w < r
      · rw [if_pos h1] at q ⊢
        rw [Nat.pow_succ] at h
        exact begX_f f g (by omega) hw q
      · rw [if_neg h1] at q ⊢; exact q
theorem begX_5 {k w : Nat} (hk : k < 387420489) (hw : 1 ≤ w) : begK 5 k w = w ↔ begX k w := by
  constructor
  · exact fun h => ⟨5, h⟩
  · rintro ⟨g, q⟩
    refine begX_f 5 g ?_ hw q
    have : 27 ^ (5 + 1) = 387420489 := by decide
    omega
