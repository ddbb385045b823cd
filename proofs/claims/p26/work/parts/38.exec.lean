theorem CIE.mono {l : Launch} {G : ZG} {y : MethodName} {ws : List Cond} {rm : Room} {av : List Value} {w0 : va_W} {S S' : Type} {post : Int32 → S → Prop} {w1 : S → va_W} {post' : Int32 → S' → Prop} {w1' : S' → va_W} (h : CIE l G y ws rm av w0 post w1) (hm : ∀ r u, post r u → ∃ u', w1' u' = w1 u ∧ post' r u') : CIE l G y ws rm av w0 post' w1' := by
  intro sz
  have h1 := h sz
  intro p e ha hc hk s m args below hf happ hpre hk2
  obtain ⟨k, o, q1, q2, q3, ⟨⟨⟨r', u, e1, e2, e3⟩, hF⟩, hL⟩⟩ := h1 p e ha hc hk s m args below hf happ hpre hk2
  obtain ⟨u', k1, k2⟩ := hm r' u e2
  rw [← k1] at e3
  exact ⟨k, o, q1, q2, q3, ⟨⟨⟨r', u', e1, k2, e3⟩, hF⟩, hL⟩⟩
/-! a text's orders, done on a class's roll -/
def ep (w : Mem) : Nat := (w 12 0).toNatClampNeg
def xNo (w : Mem) (wd : Nat) : Nat := (zNum (w 0) (nI wd)).toNatClampNeg
def xFree (w : Mem) : Nat := (zNum (w 0) (nI 0)).toNatClampNeg
def xCan (w : Mem) (c wd : Nat) : Bool :=
  if c = 33 then decide (ep w < 999)
  else if c = 43 then if zNum (w 0) (nI wd) = -1 then decide (¬ zNum (w 0) (nI 0) = -1) else decide (¬ nI 999 ≤ w 1 (xNo w wd))
  else if zNum (w 0) (nI wd) = -1 then false
  else if c = 45 then decide (¬ w 1 (xNo w wd) ≤ nI (zCells (w 3) (nI (xNo w wd))))
  else decide (¬ nI 999 ≤ w 1 (xNo w wd))
def xUse (w : Mem) (n : Nat) : Mem := mst w 1 n (w 1 n + nI 1)
def xNew (w : Mem) (n : Nat) (x : Int32) : Mem := mst (mst (mst w 0 n x) 12 1 (w 12 1 + nI 1)) 1 n (w 1 n + nI 1)
def xFill (w : Mem) (i n : Nat) : Mem := if w 3 i = -1 then mst (xUse w n) 3 i (nI n) else mst (zGive (xUse w n) (w 3 i).toNatClampNeg) 3 i (nI n)
def xDo (w : Mem) (c d0 d1 wd : Nat) : Mem :=
  if c = 33 then zAnew w d0 (ep w)
  else if c = 43 then if zNum (w 0) (nI wd) = -1 then xNew w (xFree w) (nI wd) else xUse w (xNo w wd)
  else if c = 45 then zGive w (xNo w wd)
  else xFill w (6 * d0 + d1) (xNo w wd)
/-- the orders done, the reason, the cause, the place, the roll then -/
def xRun (sg : Nat → Nat) (L : Nat) : Nat → Nat → Nat → Mem → Nat × Nat × Nat × Nat × Mem
  | 0, _, n, w => (n, 0, 0, 0, w)
  | f + 1, p, n, w =>
    if L ≤ p then (n, 0, 0, 0, w) else
    match prs sg p with
    | (q, none) => (n, 1, q - p, p, w)
    | (q, some (d0, d1, k, wd)) =>
      match rngF (sg p) d0 d1 k with
      | some z => (n, 2, z, p, w)
      | none => if xCan w (sg p) wd = true then xRun sg L f q (n + 1) (xDo w (sg p) d0 d1 wd) else (n, 3, 0, p, w)
section XR
variable {sg : Nat → Nat} {L f p n q d0 d1 k wd z : Nat} {w : Mem}
theorem xRun_end (h : L ≤ p) : xRun sg L f p n w = (n, 0, 0, 0, w) := by
  cases f with
  | zero => rfl
  | succ f => rw [xRun, if_pos h]
theorem xRun_form (h : ¬ L ≤ p) (hp : prs sg p = (q, none)) : xRun sg L (f + 1) p n w = (n, 1, q - p, p, w) := by rw [xRun, if_neg h, hp]
theorem xRun_rng (h : ¬ L ≤ p) (hp : prs sg p = (q, some (d0, d1, k, wd))) (hr : rngF (sg p) d0 d1 k = some z) : xRun sg L (f + 1) p n w = (n, 2, z, p, w) := by rw [xRun, if_neg h, hp]; simp only [hr]
theorem xRun_no (h : ¬ L ≤ p) (hp : prs sg p = (q, some (d0, d1, k, wd))) (hr : rngF (sg p) d0 d1 k = none) (hc : xCan w (sg p) wd = false) : xRun sg L (f + 1) p n w = (n, 3, 0, p, w) := by rw [xRun, if_neg h, hp]; simp only [hr, hc]; rfl
theorem xRun_go (h : ¬ L ≤ p) (hp : prs sg p = (q, some (d0, d1, k, wd))) (hr : rngF (sg p) d0 d1 k = none) (hc : xCan w (sg p) wd = true) : xRun sg L (f + 1) p n w = xRun sg L f q (n + 1) (xDo w (sg p) d0 d1 wd) := by rw [xRun, if_neg h, hp]; simp only [hr, hc]; rfl
end XR
theorem prL_ok {sg : Nat → Nat} {s q d0 d1 a b k wd : Nat} (h : prL sg s d0 d1 = (q, some (a, b, k, wd))) : 0 < lc sg s ∧ sg (s + lc sg s) = 59 ∧ q = s + lc sg s + 1 ∧ a = d0 ∧ b = d1 ∧ k = lc sg s ∧ wd = wv sg s (lc sg s) := by
  unfold prL at h
  by_cases h1 : 0 < lc sg s
  · rw [if_pos h1] at h
    by_cases h2 : sg (s + lc sg s) = 59
    · rw [if_pos h2] at h
      cases h
      exact ⟨h1, h2, rfl, rfl, rfl, rfl, rfl⟩
    · rw [if_neg h2] at h
      cases h
  · rw [if_neg h1] at h
    cases h
/-- an order of its form -/
def ordOk (sg : Nat → Nat) (p q d0 d1 k wd : Nat) : Prop :=
  (sg p = 33 ∧ d0 < 10 ∧ d1 = 0 ∧ k = 0 ∧ p + 3 = q ∧ sg (q - 1) = 59) ∨
  ((sg p = 61 ∨ sg p = 43 ∨ sg p = 45) ∧ d0 < 10 ∧ d1 < 10 ∧ (¬ sg p = 61 → d0 = 0 ∧ d1 = 0) ∧ ∃ s, p < s ∧ k = lc sg s ∧ wd = wv sg s (lc sg s) ∧ 0 < k ∧ q = s + k + 1 ∧ sg (q - 1) = 59)
theorem prs_ok {sg : Nat → Nat} {p q d0 d1 k wd : Nat} (h : prs sg p = (q, some (d0, d1, k, wd))) : ordOk sg p q d0 d1 k wd := by
  unfold prs at h
  by_cases c1 : sg p = 33
  · rw [if_pos c1] at h
    by_cases c2 : dgB (sg (p + 1)) = true
    · rw [if_pos c2] at h
      by_cases c3 : sg (p + 2) = 59
      · rw [if_pos c3] at h
        cases h
        have := dgB_t c2
        exact Or.inl ⟨c1, by omega, rfl, rfl, rfl, c3⟩
      · rw [if_neg c3] at h
        cases h
    · rw [if_neg c2] at h
      cases h
  · rw [if_neg c1] at h
    by_cases c2 : sg p = 61
    · rw [if_pos c2] at h
      by_cases c3 : dgB (sg (p + 1)) = true
      · rw [if_pos c3] at h
        by_cases c4 : sg (p + 2) = 44
        · rw [if_pos c4] at h
          by_cases c5 : dgB (sg (p + 3)) = true
          · rw [if_pos c5] at h
            by_cases c6 : sg (p + 4) = 44
            · rw [if_pos c6] at h
              have e1 := dgB_t c3
              have e2 := dgB_t c5
              obtain ⟨a1, a2, a3, a4, a5, a6, a7⟩ := prL_ok h
              subst a6
              exact Or.inr ⟨Or.inl c2, by omega, by omega, fun z => absurd c2 z, p + 5, by omega, rfl, a7, a1, a3, by rw [a3]; exact a2⟩
            · rw [if_neg c6] at h
              cases h
          · rw [if_neg c5] at h
            cases h
        · rw [if_neg c4] at h
          cases h
      · rw [if_neg c3] at h
        cases h
    · rw [if_neg c2] at h
      by_cases c3 : sg p = 43 ∨ sg p = 45
      · rw [if_pos c3] at h
        obtain ⟨a1, a2, a3, a4, a5, a6, a7⟩ := prL_ok h
        subst a6
        exact Or.inr ⟨Or.inr c3, by omega, by omega, fun _ => ⟨a4, a5⟩, p + 1, by omega, rfl, a7, a1, a3, by rw [a3]; exact a2⟩
      · rw [if_neg c3] at h
        cases h
theorem ordOk_go {sg : Nat → Nat} {p q d0 d1 k wd : Nat} (h : ordOk sg p q d0 d1 k wd) : p < q ∧ sg (q - 1) ≠ 0 ∧ q - 1 + 1 = q := by
  rcases h with ⟨-, -, -, -, a, b⟩ | ⟨-, -, -, -, s, a, -, -, c, d, e⟩
  · exact ⟨by omega, by omega, by omega⟩
  · exact ⟨by omega, by omega, by omega⟩
theorem digOk_snoc : ∀ (f r d : Nat), digOk f r = true → 1 ≤ d → d ≤ 26 → digOk (f + 1) (27 * r + d) = true
  | f, r, d, h, h1, h2 => by
    rw [digOk, if_neg (by omega), if_neg (by omega), show (27 * r + d) / 27 = r by omega]
    exact h
theorem wv_name {sg : Nat → Nat} {p : Nat} : ∀ (j : Nat), j ≤ 6 → allL sg p j → digOk j (wv sg p j) = true ∧ (0 < j → 0 < wv sg p j)
  | 0, _, _ => ⟨rfl, fun h => absurd h (Nat.lt_irrefl 0)⟩
  | j + 1, hj, h => by
    obtain ⟨a, -⟩ := wv_name j (by omega) (fun i hi => h i (by omega))
    have hd := h j (by omega)
    rw [wv, if_pos (by omega)]
    exact ⟨digOk_snoc j _ _ a (by omega) (by omega), fun _ => by omega⟩
theorem digOk_more : ∀ (f g r : Nat), r < 27 ^ f → digOk f r = true → f ≤ g → digOk g r = true
  | 0, 0, _, _, _, _ => rfl
  | 0, g + 1, r, hr, _, _ => by rw [digOk, if_pos (by rw [Nat.pow_zero] at hr; omega)]
  | f + 1, 0, _, _, _, hg => absurd hg (Nat.not_succ_le_zero f)
  | f + 1, g + 1, r, hr, h, hg => by
    rw [digOk] at h ⊢
    by_cases h0 : r = 0
    · rw [if_pos h0]
    · rw [if_neg h0] at h ⊢
      by_cases h1 : r % 27 = 0
      · rw [if_pos h1] at h; cases h
      · rw [if_neg h1] at h ⊢
        exact digOk_more f g (r / 27) (by rw [Nat.pow_succ] at hr; omega) h (by omega)
theorem word_name {sg : Nat → Nat} {s k : Nat} (hk : k = lc sg s) (h1 : 0 < k) (h6 : k ≤ 6) : zName (nI (wv sg s (lc sg s))) = true := by
  subst hk
  have ha : allL sg s (lc sg s) := lcF_all sg 60 s
  obtain ⟨a, b⟩ := wv_name (lc sg s) h6 ha
  have hlt := wv_lt (lc sg s) ha
  rw [show min (lc sg s) 6 = lc sg s by omega] at hlt
  rw [zName_N (b h1) (by have := wv_lt6 ha; omega)]
  exact digOk_more _ 6 _ hlt a h6
theorem rngF_none {c d0 d1 k : Nat} (h : rngF c d0 d1 k = none) : (c = 33 → d0 ≤ 2) ∧ (c = 61 → d0 ≤ 2 ∧ d1 ≤ 5) ∧ (¬ c = 33 → k ≤ 6) := by
  unfold rngF at h
  by_cases c1 : c = 33
  · rw [if_pos c1] at h
    by_cases c2 : 2 < d0
    · rw [if_pos c2] at h; cases h
    · exact ⟨fun _ => by omega, fun z => by omega, fun z => absurd c1 z⟩
  · rw [if_neg c1] at h
    by_cases c2 : c = 61 ∧ 2 < d0
    · rw [if_pos c2] at h; cases h
    · rw [if_neg c2] at h
      by_cases c3 : c = 61 ∧ 5 < d1
      · rw [if_pos c3] at h; cases h
      · rw [if_neg c3] at h
        by_cases c4 : 6 < k
        · rw [if_pos c4] at h; cases h
        · exact ⟨fun z => absurd z c1, fun z => ⟨by omega, by omega⟩, fun _ => by omega⟩
