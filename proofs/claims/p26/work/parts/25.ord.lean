theorem zAh_irr (nm us : Nat → Int32) (ρ a : Nat) : zAh nm us ρ a a = false := by
  unfold zAh
  split
  · exact decide_eq_false (Nat.lt_irrefl _)
  · rw [if_neg (fun h => h.2 rfl)]
    exact decide_eq_false (Nat.lt_irrefl _)
theorem i32_nle {x y : Int32} : ¬ x ≤ y ↔ y.toInt < x.toInt := by
  rw [Int32.le_iff_toInt_le]; omega
theorem i32_ne {x y : Int32} (h : ¬ x = y) : x.toInt ≠ y.toInt := fun q => h (Int32.toInt_inj.mp q)
theorem zAh_2 {nm us : Nat → Int32} {ρ a b : Nat} (h1 : ¬ ρ = 1) (h2 : ρ = 2) : zAh nm us ρ a b = true ↔ ((us b).toInt < (us a).toInt ∨ ((us a).toInt = (us b).toInt ∧ a < b)) := by
  unfold zAh
  rw [if_neg h1]
  by_cases h : us a = us b
  · rw [if_neg (fun q => q.2 h), decide_eq_true_eq, h]
    omega
  · rw [if_pos ⟨h2, h⟩, decide_eq_true_eq, i32_nle]
    have := i32_ne h
    omega
theorem zAh_1 {nm us : Nat → Int32} {ρ a b : Nat} (h1 : ρ = 1) : zAh nm us ρ a b = true ↔ padK 5 (nm a).toNatClampNeg < padK 5 (nm b).toNatClampNeg := by
  unfold zAh
  rw [if_pos h1, decide_eq_true_eq]
theorem zAh_0 {nm us : Nat → Int32} {ρ a b : Nat} (h1 : ¬ ρ = 1) (h2 : ¬ ρ = 2) : zAh nm us ρ a b = true ↔ a < b := by
  unfold zAh
  rw [if_neg h1, if_neg (fun q => h2 q.1), decide_eq_true_eq]
theorem zAh_trans {nm us : Nat → Int32} {ρ a b c : Nat} (h : zAh nm us ρ a b = true) (h' : zAh nm us ρ b c = true) : zAh nm us ρ a c = true := by
  by_cases h1 : ρ = 1
  · rw [zAh_1 h1] at *; omega
  · by_cases h2 : ρ = 2
    · rw [zAh_2 h1 h2] at *; omega
    · rw [zAh_0 h1 h2] at *; omega
/-- names of numbers are told apart -/
def injN (nm : Nat → Int32) : Prop := ∀ a b, a < 40 → b < 40 → ¬ nm a = 0 → ¬ nm b = 0 → padK 5 (nm a).toNatClampNeg = padK 5 (nm b).toNatClampNeg → a = b
theorem zAh_tot {nm us : Nat → Int32} {ρ a b : Nat} (hI : injN nm) (ha : a < 40) (hb : b < 40) (ha0 : ¬ nm a = 0) (hb0 : ¬ nm b = 0) (hne : a ≠ b) (h : zAh nm us ρ a b = false) : zAh nm us ρ b a = true := by
  have hn : ¬ zAh nm us ρ a b = true := by rw [h]; decide
  by_cases h1 : ρ = 1
  · rw [zAh_1 h1] at *
    have h9 : padK 5 (nm a).toNatClampNeg ≠ padK 5 (nm b).toNatClampNeg := fun q => hne (hI a b ha hb ha0 hb0 q)
    omega
  · by_cases h2 : ρ = 2
    · rw [zAh_2 h1 h2] at *; omega
    · rw [zAh_0 h1 h2] at *; omega
theorem zAh_asy {nm us : Nat → Int32} {ρ a b : Nat} (h : zAh nm us ρ a b = true) : zAh nm us ρ b a = false := by
  cases h2 : zAh nm us ρ b a with
  | false => rfl
  | true => have := zAh_trans h h2; rw [zAh_irr] at this; cases this
theorem nI_inj {a b : Nat} (ha : a < 2 ^ 31) (hb : b < 2 ^ 31) (h : nI a = nI b) : a = b := (nI_eq ha hb).mp h
/-- the first m places of g hold the numbers below i that have names, in their order -/
def srt (nm us : Nat → Int32) (ρ i m : Nat) (g : Nat → Int32) : Prop :=
  (∀ k, k < m → ∃ j, j < i ∧ ¬ nm j = 0 ∧ g k = nI j) ∧ (∀ k1 k2 j1 j2, k1 < k2 → k2 < m → g k1 = nI j1 → j1 < 40 → g k2 = nI j2 → j2 < 40 → zAh nm us ρ j1 j2 = true) ∧ (∀ j, j < i → ¬ nm j = 0 → ∃ k, k < m ∧ g k = nI j)
theorem srt_0 (nm us : Nat → Int32) (ρ : Nat) (g : Nat → Int32) : srt nm us ρ 0 0 g := ⟨fun k h => absurd h (Nat.not_lt_zero k), fun _ k2 _ _ _ h => absurd h (Nat.not_lt_zero k2), fun j h => absurd h (Nat.not_lt_zero j)⟩
theorem srt_skip {nm us : Nat → Int32} {ρ i m : Nat} {g : Nat → Int32} (h : srt nm us ρ i m g) (h0 : nm i = 0) : srt nm us ρ (i + 1) m g := by
  refine ⟨fun k hk => ?_, h.2.1, fun j hj hj0 => ?_⟩
  · obtain ⟨j, h1, h2, h3⟩ := h.1 k hk
    exact ⟨j, by omega, h2, h3⟩
  · rcases Nat.lt_or_ge j i with q | q
    · exact h.2.2 j q hj0
    · exact absurd h0 (by rw [show i = j by omega]; exact hj0)
/-- a gap at t -/
def shG (g : Nat → Int32) (t m : Nat) : Nat → Int32 := fun k => if t < k ∧ k ≤ m then g (k - 1) else g k
theorem shG_m (g : Nat → Int32) (m : Nat) : shG g m m = g := by
  funext k
  unfold shG
  rw [if_neg (by omega)]
theorem shG_lo {g : Nat → Int32} {t m k : Nat} (h : k < t) : shG g t m k = g k := if_neg (by omega)
theorem shG_s {g : Nat → Int32} {t m : Nat} {x : Int32} (h0 : 0 < t) (h : t ≤ m) (hx : g (t - 1) = x) : upd (shG g t m) t x = shG g (t - 1) m := by
  subst hx
  funext k
  unfold upd shG
  by_cases h1 : k = t
  · subst h1; rw [if_pos rfl, if_pos (by omega)]
  · rw [if_neg h1]
    by_cases h2 : t < k ∧ k ≤ m
    · rw [if_pos h2, if_pos (by omega)]
    · rw [if_neg h2, if_neg (by omega)]
theorem srt_ins {nm us : Nat → Int32} {ρ i m t : Nat} {g : Nat → Int32} (hI : injN nm) (h : srt nm us ρ i m g) (hi : i < 40) (hi0 : ¬ nm i = 0) (ht : t ≤ m)
    (hall : ∀ k j, t ≤ k → k < m → g k = nI j → j < 40 → zAh nm us ρ i j = true) (hex : t = 0 ∨ ∃ j, j < 40 ∧ g (t - 1) = nI j ∧ zAh nm us ρ i j = false) : srt nm us ρ (i + 1) (m + 1) (upd (shG g t m) t (nI i)) := by
  have lo : ∀ k, k < t → upd (shG g t m) t (nI i) k = g k := fun k hk => by rw [upd, if_neg (by omega), shG_lo hk]
  have at' : upd (shG g t m) t (nI i) t = nI i := if_pos rfl
  have hi' : ∀ k, t < k → k ≤ m → upd (shG g t m) t (nI i) k = g (k - 1) := fun k h1 h2 => by rw [upd, if_neg (by omega), shG, if_pos ⟨h1, h2⟩]
  -- those before the gap are ahead of i
  have bef : ∀ k j, k < t → g k = nI j → j < 40 → zAh nm us ρ j i = true := by
    intro k j hk hg hj
    rcases hex with h0 | ⟨j2, hj2, hg2, hn⟩
    · omega
    · obtain ⟨j3, a1, a2, a3⟩ := h.1 (t - 1) (by omega)
      have e3 : j3 = j2 := nI_inj (by omega) (by omega) (a3.symm.trans hg2)
      subst e3
      have hb := zAh_tot hI hi hj2 hi0 a2 (by omega) hn
      rcases Nat.lt_or_ge k (t - 1) with q | q
      · exact zAh_trans (h.2.1 k (t - 1) j j3 q (by omega) hg hj hg2 hj2) hb
      · have : k = t - 1 := by omega
        subst this
        have : j = j3 := nI_inj (by omega) (by omega) (hg.symm.trans hg2)
        subst this
        exact hb
  refine ⟨fun k hk => ?_, fun k1 k2 j1 j2 h12 h2 g1 hj1 g2 hj2 => ?_, fun j hj hj0 => ?_⟩
  · rcases Nat.lt_trichotomy k t with q | q | q
    · obtain ⟨j, a1, a2, a3⟩ := h.1 k (by omega)
      exact ⟨j, by omega, a2, (lo k q).trans a3⟩
    · subst q; exact ⟨i, by omega, hi0, at'⟩
    · obtain ⟨j, a1, a2, a3⟩ := h.1 (k - 1) (by omega)
      exact ⟨j, by omega, a2, (hi' k q (by omega)).trans a3⟩
  · rcases Nat.lt_trichotomy k2 t with q | q | q
    · rw [lo k2 q] at g2
      rw [lo k1 (by omega)] at g1
      exact h.2.1 k1 k2 j1 j2 h12 (by omega) g1 hj1 g2 hj2
    · subst q
      rw [at'] at g2
      have : i = j2 := nI_inj (by omega) (by omega) g2
      subst this
      rw [lo k1 h12] at g1
      exact bef k1 j1 h12 g1 hj1
    · rw [hi' k2 q (by omega)] at g2
      rcases Nat.lt_trichotomy k1 t with r | r | r
      · rw [lo k1 r] at g1
        exact h.2.1 k1 (k2 - 1) j1 j2 (by omega) (by omega) g1 hj1 g2 hj2
      · subst r
        rw [at'] at g1
        have : i = j1 := nI_inj (by omega) (by omega) g1
        subst this
        exact hall (k2 - 1) j2 (by omega) (by omega) g2 hj2
      · rw [hi' k1 r (by omega)] at g1
        exact h.2.1 (k1 - 1) (k2 - 1) j1 j2 (by omega) (by omega) g1 hj1 g2 hj2
  · rcases Nat.lt_or_ge j i with q | q
    · obtain ⟨k, a1, a2⟩ := h.2.2 j q hj0
      rcases Nat.lt_or_ge k t with r | r
      · exact ⟨k, by omega, (lo k r).trans a2⟩
      · refine ⟨k + 1, by omega, ?_⟩
        rw [hi' (k + 1) (by omega) (by omega), Nat.add_sub_cancel]; exact a2
    · have : j = i := by omega
      subst this
      exact ⟨t, by omega, at'⟩
/-- a number's place: how many that have names are ahead of it -/
def zPos (nm us : Nat → Int32) (ρ j : Nat) : Nat := fb_ct (fun l => decide (¬ nm l = 0) && zAh nm us ρ l j) 40
theorem zPl_eq (v : Mem) (ρ j : Nat) : zPl v ρ j = zPos (v 0) (v 1) ρ j := rfl
theorem fb_ct_one {p : Nat → Bool} {i : Nat} : ∀ {n : Nat}, i < n → p i = true → (∀ k, k < n → p k = true → k = i) → fb_ct p n = 1
  | 0, h, _, _ => absurd h (Nat.not_lt_zero i)
  | n + 1, h, hp, hu => by
    by_cases hin : i = n
    · subst hin
      rw [fb_ct_t hp, fb_ct_zero.mpr (fun k hk => by
        cases hk2 : p k with
        | false => rfl
        | true => have := hu k (by omega) hk2; omega)]
    · have hpn : p n = false := by
        cases hk2 : p n with
        | false => rfl
        | true => exact absurd (hu n (by omega) hk2).symm hin
      rw [fb_ct_f hpn]
      exact fb_ct_one (by omega) hp (fun k hk => hu k (by omega))
theorem srt_ct {nm us : Nat → Int32} {ρ m : Nat} {g : Nat → Int32} (h : srt nm us ρ 40 m g) : ∀ t, t ≤ m → fb_ct (fun l => decide (∃ k, k < t ∧ g k = nI l)) 40 = t
  | 0, _ => fb_ct_zero.mpr (fun k hk => decide_eq_false (fun ⟨k, hk, _⟩ => Nat.not_lt_zero k hk))
  | t + 1, ht => by
    obtain ⟨j, hj, hj0, hje⟩ := h.1 t (by omega)
    have hx : ∀ k, k < t → ¬ g k = nI j := by
      intro k hk q
      have := h.2.1 k t j j hk (by omega) q hj hje hj
      rw [zAh_irr] at this
      cases this
    have h1 : fb_ct (fun l => decide (∃ k, k < t + 1 ∧ g k = nI l)) 40 = fb_ct (fun l => decide (∃ k, k < t ∧ g k = nI l) || decide (l = j)) 40 := by
      refine fb_ct_cong (fun l hl => ?_)
      rw [Bool.eq_iff_iff, Bool.or_eq_true, decide_eq_true_eq, decide_eq_true_eq, decide_eq_true_eq]
      constructor
      · rintro ⟨k, hk, hg⟩
        rcases Nat.lt_or_ge k t with q | q
        · exact Or.inl ⟨k, q, hg⟩
        · have : k = t := by omega
          subst this
          exact Or.inr (nI_inj (by omega) (by omega) (hg.symm.trans hje))
      · rintro (⟨k, hk, hg⟩ | rfl)
        · exact ⟨k, by omega, hg⟩
        · exact ⟨t, by omega, hje⟩
    rw [h1, fb_ct_or (fun l hl q => ?_), srt_ct h t (by omega), fb_ct_one (i := j) hj (decide_eq_true rfl) (fun k _ q => of_decide_eq_true q)]
    obtain ⟨q1, q2⟩ := q
    have e := of_decide_eq_true q2
    subst e
    obtain ⟨k, hk, hg⟩ := of_decide_eq_true q1
    exact hx k hk hg
theorem srt_pos {nm us : Nat → Int32} {ρ m k j : Nat} {g : Nat → Int32} (h : srt nm us ρ 40 m g) (hk : k < m) (hg : g k = nI j) (hj : j < 40) : zPos nm us ρ j = k := by
  unfold zPos
  rw [← srt_ct h k (by omega)]
  refine fb_ct_cong (fun l hl => ?_)
  rw [Bool.eq_iff_iff, Bool.and_eq_true, decide_eq_true_eq, decide_eq_true_eq]
  constructor
  · rintro ⟨hl0, ha⟩
    obtain ⟨k2, hk2, hg2⟩ := h.2.2 l hl hl0
    refine ⟨k2, ?_, hg2⟩
    rcases Nat.lt_trichotomy k2 k with q | q | q
    · exact q
    · subst q
      have : l = j := nI_inj (by omega) (by omega) (hg2.symm.trans hg)
      subst this
      rw [zAh_irr] at ha
      cases ha
    · have := zAh_asy (h.2.1 k k2 j l q hk2 hg hj hg2 hl)
      rw [this] at ha
      cases ha
  · rintro ⟨k2, hk2, hg2⟩
    obtain ⟨j2, hj2, hj20, e⟩ := h.1 k2 (by omega)
    have : j2 = l := nI_inj (by omega) (by omega) (e.symm.trans hg2)
    subst this
    exact ⟨hj20, h.2.1 k2 k j2 j hk2 hk hg2 hl hg hj⟩
theorem srt_at {nm us : Nat → Int32} {ρ m j : Nat} {g : Nat → Int32} (h : srt nm us ρ 40 m g) (hj : j < 40) (hj0 : ¬ nm j = 0) : zPos nm us ρ j < m ∧ g (zPos nm us ρ j) = nI j := by
  obtain ⟨k, hk, hg⟩ := h.2.2 j hj hj0
  rw [srt_pos h hk hg hj]
  exact ⟨hk, hg⟩
theorem hall_s {nm us : Nat → Int32} {ρ i m t j0 : Nat} {g : Nat → Int32} (h0 : 0 < t) (hj0 : j0 < 40) (hg : g (t - 1) = nI j0) (ha : zAh nm us ρ i j0 = true) (hall : ∀ k j, t ≤ k → k < m → g k = nI j → j < 40 → zAh nm us ρ i j = true) : ∀ k j, t - 1 ≤ k → k < m → g k = nI j → j < 40 → zAh nm us ρ i j = true := by
  intro k j h1 h2 h3 h4
  rcases Nat.lt_or_ge k t with q | q
  · have : k = t - 1 := by omega
    subst this
    have : j = j0 := nI_inj (by omega) (by omega) (h3.symm.trans hg)
    subst this
    exact ha
  · exact hall k j q h2 h3 h4
abbrev pNmd (nm : Nat → Int32) : Nat → Bool := fun i => decide (¬ nm i = 0)
