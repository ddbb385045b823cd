theorem z_add0 (x : Int32) : x + nI 0 = x := by show x + 0 = x; exact Int32.add_zero x
/-- compactions in the reference's row, loop by loop -/
def shD (f : Nat → Int32) (k : Nat) : Nat → Int32 := fun j => if 142 + k < j ∧ j ≤ 510 then f (j - 123) else f j
theorem shD_0 (f : Nat → Int32) : shD f 368 = f := by
  funext j
  unfold shD
  rw [if_neg (by omega)]
theorem shD_rd {f : Nat → Int32} {k j : Nat} (h : j ≤ 142 + k) : shD f k j = f j := if_neg (by omega)
theorem shD_s {f : Nat → Int32} {k : Nat} (h1 : 123 ≤ k) (h2 : k ≤ 368) : upd (shD f k) (142 + k) (f (142 + k - 123)) = shD f (k - 1) := by
  funext j
  unfold upd shD
  by_cases h : j = 142 + k
  · subst h; rw [if_pos rfl, if_pos (by omega)]
  · rw [if_neg h]
    by_cases h3 : 142 + k < j ∧ j ≤ 510
    · rw [if_pos h3, if_pos (by omega)]
    · rw [if_neg h3, if_neg (by omega)]
def oldA (f : Nat → Int32) (j : Nat) : Int32 := if f (4 + j) = 0 then -1 else f (84 + j)
def c2 (f F1 : Nat → Int32) (n : Nat) (F B : Nat → Int32) : Prop :=
  (∀ j, j < n → F (145 + j) = oldA f j) ∧ (∀ j, j < n → F (185 + j) = -1) ∧ (∀ x, ¬ (145 ≤ x ∧ x < 145 + n) → ¬ (185 ≤ x ∧ x < 185 + n) → F x = F1 x) ∧ (∀ j, j < n → B j = f (4 + j) ∧ B (40 + j) = f (44 + j))
theorem c2_0 (f F1 B : Nat → Int32) : c2 f F1 0 F1 B := ⟨fun j h => absurd h (Nat.not_lt_zero j), fun j h => absurd h (Nat.not_lt_zero j), fun _ _ _ => rfl, fun j h => absurd h (Nat.not_lt_zero j)⟩
theorem c2_rd {f F B : Nat → Int32} {n x : Nat} (h : c2 f (shD f 122) n F B) (hx : x < 145) : F x = f x := by
  rw [h.2.2.1 x (by omega) (by omega), shD_rd (by omega)]
theorem c2_s {f F1 F B : Nat → Int32} {n : Nat} {x : Int32} (h : c2 f F1 n F B) (hn : n < 40) (hx : x = oldA f n) : c2 f F1 (n + 1) (upd (upd F (145 + n) x) (185 + n) (-1)) (upd (upd B n (f (4 + n))) (40 + n) (f (44 + n))) := by
  subst hx
  refine ⟨fun j hj => ?_, fun j hj => ?_, fun k h1 h2 => ?_, fun j hj => ?_⟩
  · rw [pk_un (by omega)]
    by_cases q : j = n
    · subst q; exact pk_us
    · rw [pk_un (by omega)]; exact h.1 j (by omega)
  · by_cases q : j = n
    · subst q; exact pk_us
    · rw [pk_un (by omega), pk_un (by omega)]; exact h.2.1 j (by omega)
  · rw [pk_un (by omega), pk_un (by omega)]; exact h.2.2.1 k (by omega) (by omega)
  · by_cases q : j = n
    · subst q
      exact ⟨by rw [pk_un (by omega)]; exact pk_us, pk_us⟩
    · obtain ⟨a1, a2⟩ := h.2.2.2 j (by omega)
      exact ⟨by rw [pk_un (by omega), pk_un (by omega)]; exact a1, by rw [pk_un (by omega), pk_un (by omega)]; exact a2⟩
def posA (f : Nat → Int32) (ρ j : Nat) : Nat := zPos (rN f) (rU f) ρ j
def newA (f : Nat → Int32) (ρ j : Nat) : Int32 := if f (4 + j) = 0 then -1 else nI (posA f ρ j)
def c3 (f : Nat → Int32) (ρ : Nat) (F2 : Nat → Int32) (k : Nat) (F : Nat → Int32) : Prop :=
  (∀ j, j < 40 → F (185 + j) = if ¬ f (4 + j) = 0 ∧ posA f ρ j < k then nI (posA f ρ j) else -1) ∧ (∀ x, ¬ (185 ≤ x ∧ x < 225) → F x = F2 x)
theorem c3_0 {f : Nat → Int32} {ρ : Nat} {F1 F2 B : Nat → Int32} (h : c2 f F1 40 F2 B) : c3 f ρ F2 0 F2 :=
  ⟨fun j hj => by rw [if_neg (by omega)]; exact h.2.1 j hj, fun _ _ => rfl⟩
theorem c3_s {f : Nat → Int32} {ρ m k j : Nat} {F2 F g : Nat → Int32} (hs : srt (rN f) (rU f) ρ 40 m g) (h : c3 f ρ F2 k F) (hk : k < m) (hj : j < 40) (hj0 : ¬ f (4 + j) = 0) (hg : g k = nI j) : c3 f ρ F2 (k + 1) (upd F (185 + j) (nI k)) := by
  have hp : posA f ρ j = k := srt_pos hs hk hg hj
  refine ⟨fun j2 hj2 => ?_, fun x hx => ?_⟩
  · by_cases q : j2 = j
    · subst q
      rw [if_pos ⟨hj0, by omega⟩, hp]; exact pk_us
    · rw [pk_un (by omega), h.1 j2 hj2]
      by_cases q2 : ¬ f (4 + j2) = 0 ∧ posA f ρ j2 < k
      · rw [if_pos q2, if_pos ⟨q2.1, by omega⟩]
      · rw [if_neg q2, if_neg]
        rintro ⟨a1, a2⟩
        have h2 : ¬ posA f ρ j2 < k := fun z => q2 ⟨a1, z⟩
        have h3 : posA f ρ j2 = k := by omega
        have h4 := srt_at hs hj2 a1
        have h5 : g k = nI j2 := by rw [← h3]; exact h4.2
        exact q (nI_inj (by omega) (by omega) (h5.symm.trans hg))
  · rw [pk_un (by omega)]; exact h.2 x hx
theorem c3_e {f : Nat → Int32} {ρ m : Nat} {F2 F g : Nat → Int32} (hs : srt (rN f) (rU f) ρ 40 m g) (h : c3 f ρ F2 m F) : ∀ j, j < 40 → F (185 + j) = newA f ρ j := by
  intro j hj
  rw [h.1 j hj, newA]
  by_cases q : f (4 + j) = 0
  · rw [if_pos q, if_neg (fun z => z.1 q)]
  · rw [if_neg q, if_pos ⟨q, (srt_at hs hj q).1⟩]
def nmA (f g : Nat → Int32) (m k : Nat) : Int32 := if k < m then f (4 + (g k).toNatClampNeg) else nI 0
def usA (f g : Nat → Int32) (m k : Nat) : Int32 := if k < m then f (44 + (g k).toNatClampNeg) else nI 0
def yrA (f g : Nat → Int32) (m k : Nat) : Int32 := if nmA f g m k = f (4 + k) then f (84 + k) else f (84 + k) + nI 1
def c4 (f g : Nat → Int32) (m : Nat) (F3 : Nat → Int32) (n : Nat) (F : Nat → Int32) : Prop :=
  (∀ k, k < n → F (4 + k) = nmA f g m k ∧ F (44 + k) = usA f g m k ∧ F (84 + k) = yrA f g m k) ∧ (∀ x, ¬ (4 ≤ x ∧ x < 4 + n) → ¬ (44 ≤ x ∧ x < 44 + n) → ¬ (84 ≤ x ∧ x < 84 + n) → F x = F3 x)
theorem c4_0 (f g : Nat → Int32) (m : Nat) (F3 : Nat → Int32) : c4 f g m F3 0 F3 := ⟨fun k h => absurd h (Nat.not_lt_zero k), fun _ _ _ _ => rfl⟩
theorem c4_s {f g : Nat → Int32} {m n : Nat} {F3 F : Nat → Int32} {x1 x2 x3 : Int32} (h : c4 f g m F3 n F) (hn : n < 40) (h1 : x1 = nmA f g m n) (h2 : x2 = usA f g m n) (h3 : x3 = yrA f g m n) : c4 f g m F3 (n + 1) (upd (upd (upd F (4 + n) x1) (44 + n) x2) (84 + n) x3) := by
  subst h1; subst h2; subst h3
  refine ⟨fun k hk => ?_, fun x a1 a2 a3 => ?_⟩
  · by_cases q : k = n
    · subst q
      exact ⟨by rw [pk_un (by omega), pk_un (by omega)]; exact pk_us, by rw [pk_un (by omega)]; exact pk_us, pk_us⟩
    · obtain ⟨b1, b2, b3⟩ := h.1 k (by omega)
      exact ⟨by rw [pk_un (by omega), pk_un (by omega), pk_un (by omega)]; exact b1, by rw [pk_un (by omega), pk_un (by omega), pk_un (by omega)]; exact b2, by rw [pk_un (by omega), pk_un (by omega), pk_un (by omega)]; exact b3⟩
  · rw [pk_un (by omega), pk_un (by omega), pk_un (by omega)]
    exact h.2 x (by omega) (by omega) (by omega)
def thA (f g : Nat → Int32) (m ρ j : Nat) : Int32 := if f (4 + j) = 0 then -1 else yrA f g m (posA f ρ j)
def c5 (f g : Nat → Int32) (m ρ : Nat) (F4 : Nat → Int32) (n : Nat) (F : Nat → Int32) : Prop :=
  (∀ j, j < n → F (225 + j) = thA f g m ρ j) ∧ (∀ x, ¬ (225 ≤ x ∧ x < 225 + n) → F x = F4 x)
theorem c5_0 (f g : Nat → Int32) (m ρ : Nat) (F4 : Nat → Int32) : c5 f g m ρ F4 0 F4 := ⟨fun k h => absurd h (Nat.not_lt_zero k), fun _ _ => rfl⟩
theorem c5_s {f g : Nat → Int32} {m ρ n : Nat} {F4 F : Nat → Int32} {x : Int32} (h : c5 f g m ρ F4 n F) (hx : x = thA f g m ρ n) : c5 f g m ρ F4 (n + 1) (upd F (225 + n) x) := by
  subst hx
  refine ⟨fun k hk => ?_, fun x a1 => ?_⟩
  · by_cases q : k = n
    · subst q; exact pk_us
    · rw [pk_un (by omega)]; exact h.1 k (by omega)
  · rw [pk_un (by omega)]; exact h.2 x (by omega)
def clA (f : Nat → Int32) (ρ k : Nat) : Int32 := if f (124 + k) = -1 then -1 else nI (posA f ρ (f (124 + k)).toNatClampNeg)
def c6 (f : Nat → Int32) (ρ : Nat) (F5 : Nat → Int32) (n : Nat) (F : Nat → Int32) : Prop :=
  (∀ k, k < n → F (124 + k) = clA f ρ k) ∧ (∀ x, ¬ (124 ≤ x ∧ x < 124 + n) → F x = F5 x)
theorem c6_0 (f : Nat → Int32) (ρ : Nat) (F5 : Nat → Int32) : c6 f ρ F5 0 F5 := ⟨fun k h => absurd h (Nat.not_lt_zero k), fun _ _ => rfl⟩
theorem c6_s {f : Nat → Int32} {ρ n : Nat} {F5 F : Nat → Int32} {x : Int32} (h : c6 f ρ F5 n F) (hx : x = clA f ρ n) : c6 f ρ F5 (n + 1) (upd F (124 + n) x) := by
  subst hx
  refine ⟨fun k hk => ?_, fun x a1 => ?_⟩
  · by_cases q : k = n
    · subst q; exact pk_us
    · rw [pk_un (by omega)]; exact h.1 k (by omega)
  · rw [pk_un (by omega)]; exact h.2 x (by omega)
/-- cells have numbers with names -/
def okCl (f : Nat → Int32) : Prop := ∀ k, k < 18 → f (124 + k) = -1 ∨ ∃ o, o < 40 ∧ f (124 + k) = nI o ∧ ¬ f (4 + o) = 0
def mvdA (f : Nat → Int32) (ρ : Nat) : Nat := fb_ct (fun j => decide (¬ f (4 + j) = 0) && decide (¬ posA f ρ j = j)) 40
def cntA (f : Nat → Int32) : Nat := fb_ct (pNmd (rN f)) 40
/-- the reference's row behind a compaction -/
def cmpPost (f : Nat → Int32) (ρ : Nat) (F : Nat → Int32) : Prop :=
  (F 0 = f 0 + nI 1 ∧ F 1 = f 1 ∧ F 2 = f 2 ∧ F 3 = f 3 + nI 1) ∧
  (∀ j, j < 40 → ¬ f (4 + j) = 0 → posA f ρ j < cntA f ∧ F (4 + posA f ρ j) = f (4 + j) ∧ F (44 + posA f ρ j) = f (44 + j)) ∧
  (∀ k, k < cntA f → ∃ j, j < 40 ∧ ¬ f (4 + j) = 0 ∧ posA f ρ j = k) ∧
  (∀ k, k < 40 → cntA f ≤ k → F (4 + k) = nI 0 ∧ F (44 + k) = nI 0) ∧
  (∀ k, k < 40 → F (84 + k) = if F (4 + k) = f (4 + k) then f (84 + k) else f (84 + k) + nI 1) ∧
  (∀ k, k < 18 → F (124 + k) = clA f ρ k) ∧
  (F 142 = nI ρ ∧ F 143 = nI (cntA f) ∧ F 144 = nI (mvdA f ρ)) ∧
  (∀ j, j < 40 → F (145 + j) = oldA f j ∧ F (185 + j) = newA f ρ j ∧ F (225 + j) = if f (4 + j) = 0 then -1 else F (84 + posA f ρ j)) ∧
  (∀ x, 265 ≤ x → x < 511 → F x = f (x - 123))
theorem mvd_eq {f g : Nat → Int32} {ρ : Nat} (hs : srt (rN f) (rU f) ρ 40 (cntA f) g) : fb_ct (fun k => decide (¬ g k = nI k)) (cntA f) = mvdA f ρ := by
  have hm : cntA f ≤ 40 := fb_ct_le _ _
  have e1 := fb_ct_not (fun k => decide (g k = nI k)) (cntA f)
  have e2 : fb_ct (fun k => decide (¬ g k = nI k)) (cntA f) = fb_ct (fun k => !decide (g k = nI k)) (cntA f) := fb_ct_cong (fun k _ => by simp)
  -- the numbers with names: those that stay and those that move
  have e3 : cntA f = fb_ct (fun j => (decide (¬ f (4 + j) = 0) && decide (¬ posA f ρ j = j)) || (decide (¬ f (4 + j) = 0) && decide (posA f ρ j = j))) 40 := by
    refine fb_ct_cong (fun j _ => ?_)
    show decide (¬ f (4 + j) = 0) = _
    by_cases h1 : f (4 + j) = 0 <;> by_cases h2 : posA f ρ j = j <;> simp [h1, h2]
  rw [fb_ct_or (fun k _ q => by
    obtain ⟨q1, q2⟩ := q
    rw [Bool.and_eq_true, decide_eq_true_eq, decide_eq_true_eq] at q1 q2
    exact q1.2 q2.2)] at e3
  have e4 : fb_ct (fun j => decide (¬ f (4 + j) = 0) && decide (posA f ρ j = j)) 40 = fb_ct (fun k => decide (g k = nI k)) (cntA f) := by
    have s1 := fb_ct_split (fun j => decide (¬ f (4 + j) = 0) && decide (posA f ρ j = j)) (cntA f) (40 - cntA f)
    rw [show cntA f + (40 - cntA f) = 40 by omega] at s1
    rw [s1]
    have z : fb_ct (fun k => (fun j => decide (¬ f (4 + j) = 0) && decide (posA f ρ j = j)) (cntA f + k)) (40 - cntA f) = 0 := by
      refine fb_ct_zero.mpr (fun k hk => ?_)
      show (decide (¬ f (4 + (cntA f + k)) = 0) && decide (posA f ρ (cntA f + k) = cntA f + k)) = false
      cases q : (decide (¬ f (4 + (cntA f + k)) = 0) && decide (posA f ρ (cntA f + k) = cntA f + k)) with
      | false => rfl
      | true =>
        rw [Bool.and_eq_true, decide_eq_true_eq, decide_eq_true_eq] at q
        have := (srt_at hs (show cntA f + k < 40 by omega) q.1).1
        have h9 : posA f ρ (cntA f + k) < cntA f := this
        omega
    rw [z, Nat.add_zero]
    refine fb_ct_cong (fun k hk => ?_)
    rw [Bool.eq_iff_iff, Bool.and_eq_true, decide_eq_true_eq, decide_eq_true_eq, decide_eq_true_eq]
    constructor
    · rintro ⟨a1, a2⟩
      have := (srt_at hs (show k < 40 by omega) a1).2
      have h9 : g (posA f ρ k) = nI k := this
      rw [a2] at h9; exact h9
    · intro a1
      obtain ⟨j, hj, hj0, hg⟩ := hs.1 k hk
      have : k = j := nI_inj (by omega) (by omega) (a1.symm.trans hg)
      subst this
      exact ⟨hj0, srt_pos hs hk hg hj⟩
  unfold mvdA
  omega
theorem cmp_end {f g F1 F2 F3 F4 F5 F6 B : Nat → Int32} {ρ : Nat} (hF1 : F1 = shD f 122) (hs : srt (rN f) (rU f) ρ 40 (cntA f) g) (h2 : c2 f F1 40 F2 B) (h3 : c3 f ρ F2 (cntA f) F3) (h4 : c4 f g (cntA f) F3 40 F4) (h5 : c5 f g (cntA f) ρ F4 40 F5) (h6 : c6 f ρ F5 18 F6) :
    cmpPost f ρ (upd (upd (upd (upd (upd F6 142 (nI ρ)) 143 (nI (cntA f))) 144 (nI (mvdA f ρ))) 0 (f 0 + nI 1)) 3 (f 3 + nI 1)) := by
  subst hF1
  have hm : cntA f ≤ 40 := fb_ct_le _ _
  -- far from the small places
  have out : ∀ x, x ≠ 0 → x ≠ 3 → x ≠ 142 → x ≠ 143 → x ≠ 144 → (upd (upd (upd (upd (upd F6 142 (nI ρ)) 143 (nI (cntA f))) 144 (nI (mvdA f ρ))) 0 (f 0 + nI 1)) 3 (f 3 + nI 1)) x = F6 x := by
    intro x a b c d e
    rw [pk_un b, pk_un a, pk_un e, pk_un d, pk_un c]
  have f6 : ∀ x, ¬ (124 ≤ x ∧ x < 142) → ¬ (225 ≤ x ∧ x < 265) → F6 x = F4 x := fun x a b => (h6.2 x (by omega)).trans (h5.2 x (by omega))
  have f4 : ∀ x, ¬ (4 ≤ x ∧ x < 124) → ¬ (185 ≤ x ∧ x < 225) → F4 x = F2 x := fun x a b => (h4.2 x (by omega) (by omega) (by omega)).trans (h3.2 x (by omega))
  have f2 : ∀ x, ¬ (145 ≤ x ∧ x < 225) → F2 x = shD f 122 x := fun x a => h2.2.2.1 x (by omega) (by omega)
  have low : ∀ x, x < 4 → F6 x = f x := fun x hx => by rw [f6 x (by omega) (by omega), f4 x (by omega) (by omega), f2 x (by omega), shD_rd (by omega)]
  have nm : ∀ k, k < 40 → F6 (4 + k) = nmA f g (cntA f) k ∧ F6 (44 + k) = usA f g (cntA f) k ∧ F6 (84 + k) = yrA f g (cntA f) k := by
    intro k hk
    obtain ⟨a, b, c⟩ := h4.1 k hk
    exact ⟨by rw [f6 _ (by omega) (by omega)]; exact a, by rw [f6 _ (by omega) (by omega)]; exact b, by rw [f6 _ (by omega) (by omega)]; exact c⟩
  refine ⟨⟨?_, ?_, ?_, pk_us⟩, fun j hj hj0 => ?_, fun k hk => ?_, fun k hk hk2 => ?_, fun k hk => ?_, fun k hk => ?_, ⟨?_, ?_, ?_⟩, fun j hj => ⟨?_, ?_, ?_⟩, fun x hx hx2 => ?_⟩
  · rw [pk_un (by omega)]; exact pk_us
  · rw [out 1 (by omega) (by omega) (by omega) (by omega) (by omega)]; exact low 1 (by omega)
  · rw [out 2 (by omega) (by omega) (by omega) (by omega) (by omega)]; exact low 2 (by omega)
  · obtain ⟨hp, hg⟩ := srt_at hs hj hj0
    have hp2 : posA f ρ j < cntA f := hp
    have hg2 : g (posA f ρ j) = nI j := hg
    obtain ⟨a, b, -⟩ := nm (posA f ρ j) (by omega)
    refine ⟨hp, ?_, ?_⟩
    · rw [out _ (by omega) (by omega) (by omega) (by omega) (by omega), a, nmA, if_pos hp2, hg2, nI_clamp (by omega)]
    · rw [out _ (by omega) (by omega) (by omega) (by omega) (by omega), b, usA, if_pos hp2, hg2, nI_clamp (by omega)]
  · obtain ⟨j, hj, hj0, hg⟩ := hs.1 k hk
    exact ⟨j, hj, hj0, srt_pos hs hk hg hj⟩
  · obtain ⟨a, b, -⟩ := nm k hk
    rw [out _ (by omega) (by omega) (by omega) (by omega) (by omega), out _ (by omega) (by omega) (by omega) (by omega) (by omega), a, b, nmA, usA, if_neg (by omega), if_neg (by omega)]
    exact ⟨rfl, rfl⟩
  · obtain ⟨a, b, c⟩ := nm k hk
    rw [out _ (by omega) (by omega) (by omega) (by omega) (by omega), out _ (by omega) (by omega) (by omega) (by omega) (by omega), a, c, yrA]
  · rw [out _ (by omega) (by omega) (by omega) (by omega) (by omega)]; exact h6.1 k hk
  · rw [pk_un (by omega), pk_un (by omega), pk_un (by omega), pk_un (by omega)]; exact pk_us
  · rw [pk_un (by omega), pk_un (by omega), pk_un (by omega)]; exact pk_us
  · rw [pk_un (by omega), pk_un (by omega)]; exact pk_us
  · rw [out _ (by omega) (by omega) (by omega) (by omega) (by omega), f6 _ (by omega) (by omega), f4 _ (by omega) (by omega)]; exact h2.1 j hj
  · rw [out _ (by omega) (by omega) (by omega) (by omega) (by omega), f6 _ (by omega) (by omega), h4.2 _ (by omega) (by omega) (by omega)]; exact c3_e hs h3 j hj
  · rw [out _ (by omega) (by omega) (by omega) (by omega) (by omega), h6.2 _ (by omega), h5.1 j hj, thA]
    by_cases q : f (4 + j) = 0
    · rw [if_pos q, if_pos q]
    · obtain ⟨hp, -⟩ := srt_at hs hj q
      have hp2 : posA f ρ j < cntA f := hp
      rw [if_neg q, if_neg q, out _ (by omega) (by omega) (by omega) (by omega) (by omega), (nm _ (by omega)).2.2]
  · rw [out _ (by omega) (by omega) (by omega) (by omega) (by omega), f6 _ (by omega) (by omega), f4 _ (by omega) (by omega), f2 _ (by omega), shD, if_pos (by omega)]
