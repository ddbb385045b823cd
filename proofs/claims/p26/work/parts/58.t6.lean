theorem rngF_some {c d0 d1 k z : Nat} (h : rngF c d0 d1 k = some z) : (c = 33 ∧ z = 2 ∧ 2 < d0) ∨ (¬ c = 33 ∧ z = 0 ∧ c = 61 ∧ 2 < d0) ∨ (¬ c = 33 ∧ z = 1 ∧ c = 61 ∧ d0 ≤ 2 ∧ 5 < d1) ∨ (¬ c = 33 ∧ z = 3 ∧ (c = 61 → d0 ≤ 2 ∧ d1 ≤ 5) ∧ 6 < k) := by
  unfold rngF at h
  by_cases c1 : c = 33
  · rw [if_pos c1] at h
    by_cases c2 : 2 < d0
    · rw [if_pos c2] at h; cases h; exact Or.inl ⟨c1, rfl, c2⟩
    · rw [if_neg c2] at h; cases h
  · rw [if_neg c1] at h
    by_cases c2 : c = 61 ∧ 2 < d0
    · rw [if_pos c2] at h; cases h; exact Or.inr (Or.inl ⟨c1, rfl, c2⟩)
    · rw [if_neg c2] at h
      by_cases c3 : c = 61 ∧ 5 < d1
      · rw [if_pos c3] at h; cases h; exact Or.inr (Or.inr (Or.inl ⟨c1, rfl, c3.1, by omega, c3.2⟩))
      · rw [if_neg c3] at h
        by_cases c4 : 6 < k
        · rw [if_pos c4] at h; cases h; exact Or.inr (Or.inr (Or.inr ⟨c1, rfl, fun z => ⟨by omega, by omega⟩, c4⟩))
        · rw [if_neg c4] at h; cases h
def rgPost (sg P P' : Nat → Nat) : Prop := (P' 0 = P 0 ∧ P' 3 = P 3 ∧ P' 5 = sg (P 4) ∧ P' 4 ≤ P 4 + 100) ∧
  ((∃ q, prs sg (P 4) = (q, none) ∧ P' 1 = 1 ∧ P' 2 = q - P 4) ∨
   (∃ q d0 d1 k wd z, prs sg (P 4) = (q, some (d0, d1, k, wd)) ∧ rngF (sg (P 4)) d0 d1 k = some z ∧ P' 1 = 2 ∧ P' 2 = z) ∨
   (∃ q d0 d1 k wd, prs sg (P 4) = (q, some (d0, d1, k, wd)) ∧ rngF (sg (P 4)) d0 d1 k = none ∧ P' 1 = 0 ∧ P' 4 = q ∧ P' 10 = wd ∧ (sg (P 4) = 33 → P' 8 = d0) ∧ (¬ sg (P 4) = 33 → P' 6 = d0 ∧ P' 7 = d1)))
theorem c_X0_checkRanges_g (l : Launch) (G : ZG) (q d : Nat) (sg P u : Nat → Nat) (h : roPost sg P u) : CVE l G yX0_checkRanges wsX0_checkRanges (zRm 1 22) [.ref q] (playW G q d u) (S := Nat → Nat) (rgPost sg P) (fun x => playW G q d x) := by
  obtain ⟨⟨a0, a3, a5, a4, a6, a7, a8, a9⟩, b1, b2⟩ := h
  cases hp : prs sg (P 4) with
  | mk z o =>
    cases o with
    | none =>
      obtain ⟨c1, c2⟩ := b1 (by rw [hp])
      rw [hp] at c2
      exact (c_X0_checkRanges_nz l G q d u (by omega) (by omega) (by omega) (by omega) (by omega) (by omega)).toE u rfl ⟨⟨a0, a3, a5, a4⟩, Or.inl ⟨z, hp, c1, c2⟩⟩
    | some t =>
      obtain ⟨d0, d1, k, wd⟩ := t
      obtain ⟨c1, c4, c9, c10, cx, cy⟩ := b2 d0 d1 k wd (by rw [hp])
      rw [hp] at c4
      have c4 : u 4 = z := c4
      have ho := prs_ok hp
      have hg33 : sg (P 4) = 33 → k = 0 := fun z => by
        rcases ho with w | w
        · exact w.2.2.2.1
        · have := w.1; omega
      have hgn : ¬ sg (P 4) = 33 → ¬ sg (P 4) = 61 → d0 = 0 ∧ d1 = 0 := fun z1 z2 => by
        rcases ho with w | w
        · exact absurd w.1 z1
        · exact w.2.2.2.1 z2
      cases hr : rngF (sg (P 4)) d0 d1 k with
      | some y =>
        have hpost : ∀ y', y' = y → rgPost sg P (nup (nup u 1 2) 2 y') := fun y' e => ⟨⟨a0, a3, a5, a4⟩, Or.inr (Or.inl ⟨z, d0, d1, k, wd, y, hp, hr, rfl, e⟩)⟩
        rcases rngF_some hr with ⟨e1, e2, e3⟩ | ⟨e1, e2, e3, e4⟩ | ⟨e1, e2, e3, e4, e5⟩ | ⟨e1, e2, e3, e4⟩
        · obtain ⟨f8, f6, f7⟩ := cx e1
          exact (c_X0_checkRanges_s2 l G q d u c1 (by omega) (by omega) (by omega) (by omega) (by omega) (by omega) (by omega)).toE _ rfl (hpost 2 e2.symm)
        · obtain ⟨f6, f7, f8⟩ := cy e1
          exact (c_X0_checkRanges_s0 l G q d u c1 (by omega) (by omega) (by omega) (by omega) (by omega)).toE _ rfl (hpost 0 e2.symm)
        · obtain ⟨f6, f7, f8⟩ := cy e1
          exact (c_X0_checkRanges_s1 l G q d u c1 (by omega) (by omega) (by omega) (by omega) (by omega) (by omega)).toE _ rfl (hpost 1 e2.symm)
        · obtain ⟨f6, f7, f8⟩ := cy e1
          have e5 : d0 ≤ 2 ∧ d1 ≤ 5 := by
            by_cases c61 : sg (P 4) = 61
            · exact e3 c61
            · have := hgn e1 c61; omega
          exact (c_X0_checkRanges_s3 l G q d u c1 (by omega) (by omega) (by omega) (by omega) (by omega) (by omega) (by omega) (by omega)).toE _ rfl (hpost 3 e2.symm)
      | none =>
        obtain ⟨g1, g2, g3⟩ := rngF_none hr
        have hb : u 6 < 3 ∧ u 7 < 6 ∧ u 8 < 3 ∧ u 9 ≤ 6 := by
          by_cases e1 : sg (P 4) = 33
          · obtain ⟨f8, f6, f7⟩ := cx e1
            have := g1 e1
            have := hg33 e1
            omega
          · obtain ⟨f6, f7, f8⟩ := cy e1
            have := g3 e1
            by_cases c61 : sg (P 4) = 61
            · have := g2 c61; omega
            · have := hgn e1 c61; omega
        exact (c_X0_checkRanges_no l G q d u hb.1 hb.2.1 hb.2.2.1 hb.2.2.2).toE u rfl ⟨⟨a0, a3, a5, a4⟩, Or.inr (Or.inr ⟨z, d0, d1, k, wd, hp, hr, c1, c4, c10, fun e1 => (cx e1).1, fun e1 => ⟨(cy e1).1, (cy e1).2.1⟩⟩)⟩
def crPost (sg P : Nat → Nat) (W : Mem) (B : Nat) (u : (Nat → Nat) × Mem) : Prop := (u.1 0 = P 0 ∧ u.1 3 = P 3 ∧ u.1 4 ≤ P 4 + 100) ∧
  ((∃ q, prs sg (P 4) = (q, none) ∧ u.1 1 = 1 ∧ u.1 2 = q - P 4 ∧ u.2 = W) ∨
   (∃ q d0 d1 k wd z, prs sg (P 4) = (q, some (d0, d1, k, wd)) ∧ rngF (sg (P 4)) d0 d1 k = some z ∧ u.1 1 = 2 ∧ u.1 2 = z ∧ u.2 = W) ∨
   (∃ q d0 d1 k wd, prs sg (P 4) = (q, some (d0, d1, k, wd)) ∧ rngF (sg (P 4)) d0 d1 k = none ∧ xCan W (sg (P 4)) wd = true ∧ u.1 1 = 0 ∧ u.1 4 = q ∧ u.2 = xDo W (sg (P 4)) d0 d1 wd ∧ okR u.2 (B + 1)) ∨
   (∃ q d0 d1 k wd, prs sg (P 4) = (q, some (d0, d1, k, wd)) ∧ rngF (sg (P 4)) d0 d1 k = none ∧ xCan W (sg (P 4)) wd = false ∧ u.1 1 = 3 ∧ u.2 = W))
theorem c_X0_carryOut_r (l : Launch) (G : ZG) (q : Nat) (a : Nat → Nat) (sg P u : Nat → Nat) (v : Mem) (B : Nat) (h : rgPost sg P u) (hR : okR v B) : CVE l G yX0_carryOut wsX0_carryOut (zRm 4 95) [.ref q] (playW G q (a 0) u ++ rollW G a v) (S := (Nat → Nat) × Mem) (crPost sg P v B) (fun x => playW G q (a 0) x.1 ++ rollW G a x.2) := by
  obtain ⟨e, hv, hC⟩ := hR
  obtain ⟨⟨a0, a3, a5, a4⟩, h⟩ := h
  rcases h with ⟨z, hp, c1, c2⟩ | ⟨z, d0, d1, k, wd, y, hp, hr, c1, c2⟩ | ⟨z, d0, d1, k, wd, hp, hr, c1, c4, c10, cx, cy⟩
  · exact (c_X0_carryOut_sk l G q a u v (by omega) (by omega)).toE (u, v) rfl ⟨⟨a0, a3, a4⟩, Or.inl ⟨z, hp, c1, c2, rfl⟩⟩
  · exact (c_X0_carryOut_sk l G q a u v (by omega) (by omega)).toE (u, v) rfl ⟨⟨a0, a3, a4⟩, Or.inr (Or.inl ⟨z, d0, d1, k, wd, y, hp, hr, c1, c2, rfl⟩)⟩
  · obtain ⟨g1, g2, g3⟩ := rngF_none hr
    have ho := prs_ok hp
    have hch : sg (P 4) = 33 ∨ sg (P 4) = 61 ∨ sg (P 4) = 43 ∨ sg (P 4) = 45 := by
      rcases ho with h | h
      · exact Or.inl h.1
      · exact Or.inr h.1
    have hw : ¬ sg (P 4) = 33 → u 10 = wd ∧ zName (nI wd) = true := fun z1 => by
      refine ⟨c10, ?_⟩
      rcases ho with h | ⟨-, -, -, -, s, -, hk, hwd, h0, -, -⟩
      · exact absurd h.1 z1
      · rw [hwd]
        exact word_name hk h0 (g3 z1)
    refine (c_X0_carryOut_c l G q a u v e B (sg (P 4)) d0 d1 wd hv hC c1 a5 hch (fun z1 => ⟨g1 z1, cx z1⟩) (fun z1 => ⟨(g2 z1).1, (g2 z1).2, (cy (by omega)).1, (cy (by omega)).2⟩) hw).mono (fun x hx => ⟨x, rfl, ?_⟩)
    rcases hx with ⟨e1, e2, e3, e4⟩ | ⟨e1, e2, e3⟩
    · rw [crPost, e2]
      exact ⟨⟨a0, a3, a4⟩, Or.inr (Or.inr (Or.inl ⟨z, d0, d1, k, wd, hp, hr, e1, c1, c4, e3, e4⟩))⟩
    · rw [crPost, e2]
      exact ⟨⟨a0, a3, a4⟩, Or.inr (Or.inr (Or.inr ⟨z, d0, d1, k, wd, hp, hr, e1, rfl, e3⟩))⟩
theorem cr_sm {sg P : Nat → Nat} {W : Mem} {B : Nat} {u : (Nat → Nat) × Mem} (h : crPost sg P W B u) : u.1 1 < 2 ^ 31 := by
  rcases h.2 with ⟨q, hp, c1, c2, c3⟩ | ⟨q, d0, d1, k, wd, z, hp, hr, c1, c2, c3⟩ | ⟨q, d0, d1, k, wd, hp, hr, hc, c1, c4, c3, c5⟩ | ⟨q, d0, d1, k, wd, hp, hr, hc, c1, c3⟩ <;> omega
-- a copy of a roll
def same (v w : Mem) : Prop := (∀ i, i < 40 → v 0 i = w 0 i ∧ v 1 i = w 1 i ∧ v 2 i = w 2 i) ∧ (∀ i, i < 18 → v 3 i = w 3 i) ∧ (∀ i, i < 3 → v 4 i = w 4 i ∧ v 5 i = w 5 i ∧ v 6 i = w 6 i ∧ v 12 i = w 12 i) ∧ (∀ i, i < 120 → v 7 i = w 7 i ∧ v 8 i = w 8 i ∧ v 9 i = w 9 i)
theorem cpy_all {f g : Nat → Int32} {n i : Nat} (h : i < n) : va_cpy f g 0 0 n i = f i := by
  rw [pk_cpy_in (Nat.zero_le i) (by omega)]
  congr 1
  omega
theorem copy_same (v w : Mem) : same (zCopy v w) w := by
  refine ⟨fun i hi => ⟨?_, ?_, ?_⟩, fun i hi => ?_, fun i hi => ⟨?_, ?_, ?_, ?_⟩, fun i hi => ⟨?_, ?_, ?_⟩⟩
  · show va_cpy (w 0) (v 0) 0 0 40 i = _
    exact cpy_all hi
  · show va_cpy (w 1) (v 1) 0 0 40 i = _
    exact cpy_all hi
  · show va_cpy (w 2) (v 2) 0 0 40 i = _
    exact cpy_all hi
  · show va_cpy (w 3) (v 3) 0 0 18 i = _
    exact cpy_all hi
  · show va_cpy (w 4) (v 4) 0 0 3 i = _
    exact cpy_all hi
  · show va_cpy (w 5) (v 5) 0 0 3 i = _
    exact cpy_all hi
  · show va_cpy (w 6) (v 6) 0 0 3 i = _
    exact cpy_all hi
  · match i, hi with
    | 0, _ => rfl
    | 1, _ => rfl
    | 2, _ => rfl
  · show va_cpy (w 7) (v 7) 0 0 120 i = _
    exact cpy_all hi
  · show va_cpy (w 8) (v 8) 0 0 120 i = _
    exact cpy_all hi
  · show va_cpy (w 9) (v 9) 0 0 120 i = _
    exact cpy_all hi
theorem usK_same {v w : Mem} (h : same v w) {i : Nat} (hi : i < 40) : usK v i = usK w i := by
  unfold usK
  rw [(h.1 i hi).2.1]
theorem zCells_same {v w : Mem} (h : same v w) (x : Int32) : zCells (v 3) x = zCells (w 3) x := zCells_cong h.2.1 x
theorem RR_same {v w : Mem} {f : Nat → Int32} {e B : Nat} (h : same v w) (hR : RR w f e B) : RR v f e B := by
  obtain ⟨⟨⟨h0, h9⟩, h1, h2, h3, h4, h5, h6⟩, hc, ⟨⟨r0, r3, r1, r2⟩, r4, r5, r6⟩⟩ := hR
  have hh := h
  obtain ⟨s0, s3, s4, s7⟩ := h
  have mx : ∀ i n, n < 40 → (e - 1 - i) % 3 * 40 + n < 120 := fun i n hn => by
    have : (e - 1 - i) % 3 < 3 := Nat.mod_lt _ (by decide)
    omega
  have m3 : ∀ i, (e - 1 - i) % 3 < 3 := fun i => Nat.mod_lt _ (by decide)
  refine ⟨⟨⟨by rw [(s4 0 (by omega)).2.2.2]; exact h0, h9⟩, fun i hi => ?_, fun a b ha hb ha0 hab => ?_, fun i hi => ?_, fun k hk => ?_, fun i hi => ?_, fun i hi hie n hn => ?_⟩, fun i hi => ?_, ⟨⟨r0, r3, ?_, ?_⟩, fun i hi => ?_, fun k hk => ?_, fun i hi hie => ?_⟩⟩
  · rw [(s0 i hi).1]; exact h1 i hi
  · rw [(s0 a ha).1] at ha0 hab
    rw [(s0 b hb).1] at hab
    exact h2 a b ha hb ha0 hab
  · rw [(s0 i hi).1, (s0 i hi).2.1, usK_same hh hi]; exact h3 i hi
  · rw [s3 k hk]; exact h4 k hk
  · rw [(s0 i hi).2.2]; exact h5 i hi
  · obtain ⟨k7, k8, -⟩ := s7 _ (mx i n hn)
    rw [k7, k8]
    rcases h6 i hi hie n hn with z | ⟨z, z1, z2, z3, z4⟩
    · exact Or.inl z
    · exact Or.inr ⟨z, z1, z2, z3, by rw [(s7 _ (mx i z z1)).2.2]; exact z4⟩
  · rw [zCells_same hh, usK_same hh hi]; exact hc i hi
  · rw [(s4 1 (by omega)).2.2.2]; exact r1
  · rw [(s4 2 (by omega)).2.2.2]; exact r2
  · rw [(s0 i hi).1, (s0 i hi).2.1, (s0 i hi).2.2]; exact r4 i hi
  · rw [s3 k hk]; exact r5 k hk
  · obtain ⟨b1, b2⟩ := r6 i hi hie
    obtain ⟨k4, k5, k6, -⟩ := s4 _ (m3 i)
    rw [k4, k5, k6]
    refine ⟨b1, fun n hn => ?_⟩
    obtain ⟨k7, k8, -⟩ := s7 _ (mx i n hn)
    obtain ⟨d1, d2, d3⟩ := b2 n hn
    rw [k7, k8]
    refine ⟨d1, d2, ?_⟩
    rw [d3]
    rcases h6 i hi hie n hn with z | ⟨z, z1, z2, -, -⟩
    · rw [if_pos z, if_pos z]
    · rw [z2, if_neg (nI_nm1 (by omega)), if_neg (nI_nm1 (by omega)), nI_clamp (by omega), (s7 _ (mx i z z1)).2.2]
theorem okR_same {v w : Mem} {B : Nat} (h : same v w) (hR : okR w B) : okR v B := by
  obtain ⟨e, a, b⟩ := hR
  exact okR_rr (RR_same h (rr_ex a b))
-- a text tried
def tryInv (sg : Nat → Nat) (tl B : Nat) (W0 : Mem) (n : Nat) (P : Nat → Nat) (u : Mem) : Prop := P 0 = n ∧ P 1 = 0 ∧ n ≤ P 4 ∧ P 4 ≤ tl ∧ xRun sg tl 61 0 0 W0 = xRun sg tl (61 - n) (P 4) n u ∧ okR u (B + n)
def tryPost (sg : Nat → Nat) (tl B : Nat) (W0 : Mem) (u : (Nat → Nat) × Mem) : Prop :=
  u.1 0 = (xRun sg tl 61 0 0 W0).1 ∧ u.1 1 = (xRun sg tl 61 0 0 W0).2.1 ∧ u.1 1 ≤ 3 ∧ (u.1 1 ≠ 0 → u.1 3 = (xRun sg tl 61 0 0 W0).2.2.2.1) ∧ (u.1 1 ≠ 0 → u.1 1 ≠ 3 → u.1 2 = (xRun sg tl 61 0 0 W0).2.2.1) ∧ u.2 = (xRun sg tl 61 0 0 W0).2.2.2.2 ∧ okR u.2 (B + 60)
section TY
variable {sg P : Nat → Nat} {tl B n : Nat} {W0 u : Mem} {x : (Nat → Nat) × Mem}
theorem try_end (h : tryInv sg tl B W0 n P u) (h4 : tl ≤ P 4) (h6 : tl ≤ 60) : tryPost sg tl B W0 (P, u) := by
  obtain ⟨a0, a1, a2, a3, a4, a5⟩ := h
  rw [xRun_end h4] at a4
  rw [tryPost, a4]
  exact ⟨a0, a1, by show P 1 ≤ 3; omega, fun z => absurd a1 z, fun z => absurd a1 z, rfl, okR_mono a5 (by omega)⟩
theorem try_bad (h : tryInv sg tl B W0 n P u) (h4 : P 4 < tl) (h6 : tl ≤ 60) (hq : crPost sg (nup P 3 (P 4)) u (B + n) x) (h1 : ¬ x.1 1 = 0) : tryPost sg tl B W0 x := by
  obtain ⟨a0, a1, a2, a3, a4, a5⟩ := h
  obtain ⟨⟨b0, b3, b4⟩, hq⟩ := hq
  simp only [show nup P 3 (P 4) 4 = P 4 from rfl, show nup P 3 (P 4) 3 = P 4 from rfl, show nup P 3 (P 4) 0 = P 0 from rfl] at b0 b3 b4 hq
  rw [show 61 - n = (60 - n) + 1 by omega] at a4
  rw [tryPost]
  rcases hq with ⟨q, hp, c1, c2, c3⟩ | ⟨q, d0, d1, k, wd, z, hp, hr, c1, c2, c3⟩ | ⟨q, d0, d1, k, wd, hp, hr, hc, c1, c4, c3, c5⟩ | ⟨q, d0, d1, k, wd, hp, hr, hc, c1, c3⟩
  · rw [xRun_form (by omega) hp] at a4
    rw [a4]
    exact ⟨b0.trans a0, c1, by omega, fun _ => b3, fun _ _ => c2, c3, by rw [c3]; exact okR_mono a5 (by omega)⟩
  · rw [xRun_rng (by omega) hp hr] at a4
    rw [a4]
    exact ⟨b0.trans a0, c1, by omega, fun _ => b3, fun _ _ => c2, c3, by rw [c3]; exact okR_mono a5 (by omega)⟩
  · exact absurd c1 h1
  · rw [xRun_no (by omega) hp hr hc] at a4
    rw [a4]
    exact ⟨b0.trans a0, c1, by omega, fun _ => b3, fun _ z => absurd c1 z, c3, by rw [c3]; exact okR_mono a5 (by omega)⟩
theorem try_go (h : tryInv sg tl B W0 n P u) (h4 : P 4 < tl) (h6 : tl ≤ 60) (hsg : ∀ k, sg k ≠ 0 → k < tl) (hq : crPost sg (nup P 3 (P 4)) u (B + n) x) (h1 : x.1 1 = 0) : tryInv sg tl B W0 (n + 1) (nup x.1 0 (x.1 0 + 1)) x.2 := by
  obtain ⟨a0, a1, a2, a3, a4, a5⟩ := h
  obtain ⟨⟨b0, b3, b4⟩, hq⟩ := hq
  simp only [show nup P 3 (P 4) 4 = P 4 from rfl, show nup P 3 (P 4) 3 = P 4 from rfl, show nup P 3 (P 4) 0 = P 0 from rfl] at b0 b3 b4 hq
  rw [show 61 - n = (60 - n) + 1 by omega] at a4
  rcases hq with ⟨q, hp, c1, c2, c3⟩ | ⟨q, d0, d1, k, wd, z, hp, hr, c1, c2, c3⟩ | ⟨q, d0, d1, k, wd, hp, hr, hc, c1, c4, c3, c5⟩ | ⟨q, d0, d1, k, wd, hp, hr, hc, c1, c3⟩
  · omega
  · omega
  · obtain ⟨e1, e2, e3⟩ := ordOk_go (prs_ok hp)
    have e4 := hsg _ e2
    refine ⟨by show x.1 0 + 1 = n + 1; omega, c1, by show n + 1 ≤ x.1 4; omega, by show x.1 4 ≤ tl; omega, ?_, okR_mono c5 (by omega)⟩
    rw [xRun_go (by omega) hp hr hc] at a4
    rw [a4, show 61 - (n + 1) = 60 - n by omega]
    show _ = xRun sg tl (60 - n) (x.1 4) (n + 1) x.2
    rw [c4, c3]
  · omega
theorem try_0 {P : Nat → Nat} (hR : okR W0 B) : tryInv sg tl B W0 0 (nup (nup (nup P 0 0) 1 0) 4 0) W0 := ⟨rfl, rfl, Nat.le_refl _, Nat.zero_le _, rfl, hR⟩
end TY
theorem pm_1 {α : Type} (x y z : List α) : ((x ++ y) ++ z).Perm ((y ++ z) ++ x) := by
  rw [List.append_assoc]
  exact List.perm_append_comm
theorem pm_2 {α : Type} (x y z w : List α) : ((x ++ y) ++ (z ++ w)).Perm ((y ++ w) ++ (x ++ z)) := by
  have h1 : ((x ++ y) ++ (z ++ w)).Perm ((y ++ x) ++ (w ++ z)) := List.perm_append_comm.append List.perm_append_comm
  refine h1.trans ?_
  rw [List.append_assoc, List.append_assoc]
  refine List.Perm.append_left y ?_
  rw [← List.append_assoc, ← List.append_assoc]
  have h2 : (x ++ w).Perm (w ++ x) := List.perm_append_comm
  exact h2.append (List.Perm.refl z)

theorem pm_3 {α : Type} (x y z w : List α) : ((y ++ w) ++ (x ++ z)).Perm ((x ++ y) ++ (z ++ w)) := (pm_2 x y z w).symm

set_option maxHeartbeats 4000000 in
set_option maxRecDepth 100000 in
theorem c_X0_tryOn (l : Launch) (G : ZG) (q : Nat) (d r : Nat → Nat) (P : Nat → Nat) (b : Nat → Nat) (t : Mem) (L : Nat → Nat) (u w : Mem) (B : Nat) (tl : Nat) (hL : L 0 = tl) (hL6 : tl ≤ 60) (hT : okTx (t 0)) (hR : okR w B) : CVE l G yX0_tryOn wsX0_tryOn (zRm 5 116) [.ref q, .ref (r 0), .ref (b 0)] ((playW G q (d 0) P ++ textW G b t L) ++ (rollW G d u ++ rollW G r w)) (S := (Nat → Nat) × Mem) (tryPost (sgT (t 0) tl) tl B (zCopy u w)) (fun x => (playW G q (d 0) x.1 ++ textW G b t L) ++ (rollW G d x.2 ++ rollW G r w)) := by
  refine CVE.ent (cc := cX0_tryOn) (maxL := 4) (own := RX0) (by decide) rfl rfl (Nat.le_of_ble_eq_true rfl) ?_
  intro p ee s m args below meth c A ls F hr hlk hKK hP hD hA hS hl
  obtain ⟨hx, hb, hml, hown, hts⟩ := id F
  have hl : lv_has ls 4 [(0, .ref q), (1, .ref (r 0)), (2, .ref (b 0))] := hl
  have fl_12 := hts (.fieldLink RX0 12 "NameRolls$Player" "trial" "LNameRolls$Roll;") (by decide +kernel)
  have fl_22 := hts (.fieldLink RX0 22 "NameRolls$Player" "orders" "I") (by decide +kernel)
  have fl_26 := hts (.fieldLink RX0 26 "NameRolls$Player" "reason" "I") (by decide +kernel)
  have fl_29 := hts (.fieldLink RX0 29 "NameRolls$Player" "at" "I") (by decide +kernel)
  have fl_32 := hts (.fieldLink RX0 32 "NameRolls$Text" "length" "I") (by decide +kernel)
  have fl_37 := hts (.fieldLink RX0 37 "NameRolls$Player" "start" "I") (by decide +kernel)
  have hinX0 : ∀ w ∈ wsX00, w ∈ wsX0_tryOn := by decide +kernel
  have hinX2 : ∀ w ∈ wsX20, w ∈ wsX0_tryOn := by decide +kernel
  refine lv_aload_n hx hb dX0_tryOn_0 rfl (lv_at hl 0 rfl) ?_
  refine va_get (D := G.1) (ci := 0) (v := .ref (d 0)) (C := RX0) (T := TX0) (N := 12) hx hb hts hinX0 hown hKK.1 hP 0 rfl rfl 0 (by decide) fl_12 (fun _ h9 => h9) rfl dX0_tryOn_1 ?_
  refine lv_aload_n hx hb dX0_tryOn_4 rfl (lv_at hl 1 rfl) ?_
  refine z_callVV (As := [.ref (r 0)]) (rest := []) (wr := (playW G q (d 0) P ++ textW G b t L)) (C := RX1) F (c_X1_copyFrom l G d r u w) (cwV 1 hts gX0_tryOn_X1_copyFrom rfl rfl rfl (by decide +kernel) ⟨Nat.le_of_ble_eq_true rfl, Nat.le_of_ble_eq_true rfl⟩) hKK (z_recv hKK hP (q0 := 3) (ci := 1) rfl rfl) hP hD hS hA rfl hl.1 rfl (Nat.le_of_ble_eq_true rfl) ⟨Nat.zero_le _, Nat.zero_le _⟩ dX0_tryOn_5 (fun H locs hP hD hS => ?_)
  have hP : va_P G.1 vwCl ((playW G q (d 0) P ++ textW G b t L) ++ (rollW G d (zCopy u w) ++ rollW G r w)) H := hP
  have hD : va_D A ((playW G q (d 0) P ++ textW G b t L) ++ (rollW G d (zCopy u w) ++ rollW G r w)) := hD
  refine lv_aload_n hx hb dX0_tryOn_8 rfl (lv_at hl 0 rfl) ?_
  refine lv_iconst (v := nI 0) hx hb dX0_tryOn_9 (by decide) ?_
  refine z_put (w2 := (playW G q (d 0) (nup P 0 0) ++ textW G b t L) ++ (rollW G d (zCopy u w) ++ rollW G r w)) hx hb hts hinX0 tyX0 tyX0_ok nmX0 hown hKK hP hD hS 0 (ci := 0) (C := RX0) (T := TX0) (N := 12) rfl rfl 1 (by decide) fl_22 rfl rfl rfl (Nat.le_of_ble_eq_true rfl) rfl dX0_tryOn_10 (fun H locs hP hD hS => ?_)
  refine lv_aload_n hx hb dX0_tryOn_13 rfl (lv_at hl 0 rfl) ?_
  refine lv_iconst (v := nI 0) hx hb dX0_tryOn_14 (by decide) ?_
  refine z_put (w2 := (playW G q (d 0) (nup (nup P 0 0) 1 0) ++ textW G b t L) ++ (rollW G d (zCopy u w) ++ rollW G r w)) hx hb hts hinX0 tyX0 tyX0_ok nmX0 hown hKK hP hD hS 0 (ci := 0) (C := RX0) (T := TX0) (N := 12) rfl rfl 2 (by decide) fl_26 rfl rfl rfl (Nat.le_of_ble_eq_true rfl) rfl dX0_tryOn_15 (fun H locs hP hD hS => ?_)
  refine lv_aload_n hx hb dX0_tryOn_18 rfl (lv_at hl 0 rfl) ?_
  refine lv_iconst (v := nI 0) hx hb dX0_tryOn_19 (by decide) ?_
  refine z_put (w2 := (playW G q (d 0) (nup (nup (nup P 0 0) 1 0) 4 0) ++ textW G b t L) ++ (rollW G d (zCopy u w) ++ rollW G r w)) hx hb hts hinX0 tyX0 tyX0_ok nmX0 hown hKK hP hD hS 0 (ci := 0) (C := RX0) (T := TX0) (N := 12) rfl rfl 5 (by decide) fl_29 rfl rfl rfl (Nat.le_of_ble_eq_true rfl) rfl dX0_tryOn_20 (fun H locs hP hD hS => ?_)
  refine lv_iconst (v := nI 0) hx hb dX0_tryOn_23 (by decide) ?_
  refine lv_istore_n (lv' := [(3, .int (nI 0)), (0, .ref q), (1, .ref (r 0)), (2, .ref (b 0))]) hx hb dX0_tryOn_24 rfl hl (by decide) rfl (fun ls hl => ?_)
  have key_1 : ∀ (nn : Nat) (n : Nat) (P1 : Nat → Nat) (u1 : Mem), tryInv (sgT (t 0) tl) tl B (zCopy u w) n P1 u1 → 61 - n < nn → ∀ (H : Heap) (locs : List Loc) (ls : Array Slot), va_P G.1 vwCl ((playW G q (d 0) P1 ++ textW G b t L) ++ (rollW G d u1 ++ rollW G r w)) H → va_D A ((playW G q (d 0) P1 ++ textW G b t L) ++ (rollW G d u1 ++ rollW G r w)) → va_S A s.heap H locs → lv_has ls 4 [(0, .ref q), (1, .ref (r 0)), (2, .ref (b 0)), (3, .int (nI n))] → W p l ee (zRm 5 116) s m args below meth c H locs 0 0 (MQ below (ZQve G A (S := (Nat → Nat) × Mem) (tryPost (sgT (t 0) tl) tl B (zCopy u w)) (fun x => (playW G q (d 0) x.1 ++ textW G b t L) ++ (rollW G d x.2 ++ rollW G r w))) args s 0 0 A) (F0 m 25 ls []) := by
    intro nn
    induction nn with
    | zero => intro n P1 u1 _ hm; exact absurd hm (Nat.not_lt_zero _)
    | succ nn ih_1 =>
      intro n P1 u1 hinv hm H locs ls hP hD hS hl
      obtain ⟨h0, h1, hn4, h4t, hrun, hkR⟩ := id hinv
      refine lv_iload_n hx hb dX0_tryOn_25 rfl (lv_at hl 3 rfl) ?_
      refine lv_bipush (v := nI 60) hx hb dX0_tryOn_26 (by decide) ?_
      refine z_ge (tgt := 87) hx hb dX0_tryOn_28 (by decide) (by omega) (by omega) (fun c_2 => ?_) (fun c_2 => ?_)
      · skip
        exact z_vretE (P1, u1) hx hb hr hlk hP hD hS dX0_tryOn_87 (try_end hinv (by omega) hL6)
      · skip
        refine lv_aload_n hx hb dX0_tryOn_31 rfl (lv_at hl 0 rfl) ?_
        refine va_get (D := G.1) (ci := 0) (v := .int (nI (P1 4))) (C := RX0) (T := TX0) (N := 12) hx hb hts hinX0 hown hKK.1 hP 0 rfl rfl 5 (by decide) fl_29 (fun _ h9 => h9) rfl dX0_tryOn_32 ?_
        refine lv_aload_n hx hb dX0_tryOn_35 rfl (lv_at hl 2 rfl) ?_
        refine va_get (D := G.1) (ci := 2) (v := .int (nI (L 0))) (C := RX2) (T := TX2) (N := 2) hx hb hts hinX2 hown hKK.1 hP 1 rfl rfl 1 (by decide) fl_32 (fun _ h9 => h9) rfl dX0_tryOn_36 ?_
        refine z_top (v := nI tl) (by rw [hL]) ?_
        refine z_ge (tgt := 87) hx hb dX0_tryOn_39 (by decide) (by omega) (by omega) (fun c_3 => ?_) (fun c_3 => ?_)
        · skip
          exact z_vretE (P1, u1) hx hb hr hlk hP hD hS dX0_tryOn_87 (try_end hinv (by omega) hL6)
        · skip
          refine lv_aload_n hx hb dX0_tryOn_42 rfl (lv_at hl 0 rfl) ?_
          refine lv_aload_n hx hb dX0_tryOn_43 rfl (lv_at hl 0 rfl) ?_
          refine va_get (D := G.1) (ci := 0) (v := .int (nI (P1 4))) (C := RX0) (T := TX0) (N := 12) hx hb hts hinX0 hown hKK.1 hP 0 rfl rfl 5 (by decide) fl_29 (fun _ h9 => h9) rfl dX0_tryOn_44 ?_
          refine z_put (w2 := (playW G q (d 0) (nup P1 3 (P1 4)) ++ textW G b t L) ++ (rollW G d u1 ++ rollW G r w)) hx hb hts hinX0 tyX0 tyX0_ok nmX0 hown hKK hP hD hS 0 (ci := 0) (C := RX0) (T := TX0) (N := 12) rfl rfl 4 (by decide) fl_37 rfl rfl rfl (Nat.le_of_ble_eq_true rfl) rfl dX0_tryOn_47 (fun H locs hP hD hS => ?_)
          refine lv_aload_n hx hb dX0_tryOn_50 rfl (lv_at hl 0 rfl) ?_
          refine lv_aload_n hx hb dX0_tryOn_51 rfl (lv_at hl 2 rfl) ?_
          refine z_callVVE (As := [.ref (b 0)]) (rest := []) (wr := (rollW G d u1 ++ rollW G r w)) (C := RX0) F (c_X0_readOrder l G q (d 0) (nup P1 3 (P1 4)) b t L (show P1 4 ≤ 60 by omega) rfl (by exact h1) tl hL hL6 hT) (cwV 1 hts gX0_tryOn_X0_readOrder rfl rfl rfl (by decide +kernel) ⟨Nat.le_of_ble_eq_true rfl, Nat.le_of_ble_eq_true rfl⟩) hKK (z_recv hKK hP (q0 := 0) (ci := 0) rfl rfl) (z_perm List.perm_append_comm hP) (z_permD List.perm_append_comm hD) hS hA rfl hl.1 rfl (Nat.le_of_ble_eq_true rfl) ⟨Nat.zero_le _, Nat.zero_le _⟩ dX0_tryOn_52 (fun u_4 H locs hq_4 hP hD hS => ?_)
          have hP : va_P G.1 vwCl ((playW G q (d 0) u_4 ++ textW G b t L) ++ (rollW G d u1 ++ rollW G r w)) H := (z_perm List.perm_append_comm hP)
          have hD : va_D A ((playW G q (d 0) u_4 ++ textW G b t L) ++ (rollW G d u1 ++ rollW G r w)) := (z_permD List.perm_append_comm hD)
          refine lv_aload_n hx hb dX0_tryOn_55 rfl (lv_at hl 0 rfl) ?_
          refine z_callVVE (As := []) (rest := []) (wr := (textW G b t L ++ (rollW G d u1 ++ rollW G r w))) (C := RX0) F (c_X0_checkRanges_g l G q (d 0) (sgT (t 0) tl) (nup P1 3 (P1 4)) u_4 hq_4) (cwV 0 hts gX0_tryOn_X0_checkRanges rfl rfl rfl (by decide +kernel) ⟨Nat.le_of_ble_eq_true rfl, Nat.le_of_ble_eq_true rfl⟩) hKK (z_recv hKK hP (q0 := 0) (ci := 0) rfl rfl) (z_perm (pm_1 _ _ _) hP) (z_permD (pm_1 _ _ _) hD) hS hA rfl hl.1 rfl (Nat.le_of_ble_eq_true rfl) ⟨Nat.zero_le _, Nat.zero_le _⟩ dX0_tryOn_56 (fun u_5 H locs hq_5 hP hD hS => ?_)
          have hP : va_P G.1 vwCl ((playW G q (d 0) u_5 ++ textW G b t L) ++ (rollW G d u1 ++ rollW G r w)) H := (z_perm (pm_1 _ _ _).symm hP)
          have hD : va_D A ((playW G q (d 0) u_5 ++ textW G b t L) ++ (rollW G d u1 ++ rollW G r w)) := (z_permD (pm_1 _ _ _).symm hD)
          refine lv_aload_n hx hb dX0_tryOn_59 rfl (lv_at hl 0 rfl) ?_
          refine z_callVVE (As := []) (rest := []) (wr := (textW G b t L ++ rollW G r w)) (C := RX0) F (c_X0_carryOut_r l G q d (sgT (t 0) tl) (nup P1 3 (P1 4)) u_5 u1 (B + n) hq_5 hkR) (cwV 0 hts gX0_tryOn_X0_carryOut rfl rfl rfl (by decide +kernel) ⟨Nat.le_of_ble_eq_true rfl, Nat.le_of_ble_eq_true rfl⟩) hKK (z_recv hKK hP (q0 := 0) (ci := 0) rfl rfl) (z_perm (pm_2 _ _ _ _) hP) (z_permD (pm_2 _ _ _ _) hD) hS hA rfl hl.1 rfl (Nat.le_of_ble_eq_true rfl) ⟨Nat.zero_le _, Nat.zero_le _⟩ dX0_tryOn_60 (fun u_6 H locs hq_6 hP hD hS => ?_)
          have hP : va_P G.1 vwCl ((playW G q (d 0) u_6.1 ++ textW G b t L) ++ (rollW G d u_6.2 ++ rollW G r w)) H := (z_perm (pm_3 _ _ _ _) hP)
          have hD : va_D A ((playW G q (d 0) u_6.1 ++ textW G b t L) ++ (rollW G d u_6.2 ++ rollW G r w)) := (z_permD (pm_3 _ _ _ _) hD)
          refine lv_aload_n hx hb dX0_tryOn_63 rfl (lv_at hl 0 rfl) ?_
          refine va_get (D := G.1) (ci := 0) (v := .int (nI (u_6.1 1))) (C := RX0) (T := TX0) (N := 12) hx hb hts hinX0 hown hKK.1 hP 0 rfl rfl 2 (by decide) fl_26 (fun _ h9 => h9) rfl dX0_tryOn_64 ?_
          refine z_ifNeq (tgt := 71) hx hb dX0_tryOn_67 (by decide) (cr_sm hq_6) (fun c_7 => ?_) (fun c_7 => ?_)
          · skip
            have h10 := c_7
            refine lv_aload_n hx hb dX0_tryOn_71 rfl (lv_at hl 0 rfl) ?_
            refine lv_dup hx hb dX0_tryOn_72 rfl ?_
            refine va_get (D := G.1) (ci := 0) (v := .int (nI (u_6.1 0))) (C := RX0) (T := TX0) (N := 12) hx hb hts hinX0 hown hKK.1 hP 0 rfl rfl 1 (by decide) fl_22 (fun _ h9 => h9) rfl dX0_tryOn_73 ?_
            refine lv_iconst (v := nI 1) hx hb dX0_tryOn_76 (by decide) ?_
            refine z_add (v := nI ((u_6.1 0) + 1)) hx hb dX0_tryOn_77 (nI_add _ _) ?_
            refine z_put (w2 := (playW G q (d 0) (nup u_6.1 0 ((u_6.1 0) + 1)) ++ textW G b t L) ++ (rollW G d u_6.2 ++ rollW G r w)) hx hb hts hinX0 tyX0 tyX0_ok nmX0 hown hKK hP hD hS 0 (ci := 0) (C := RX0) (T := TX0) (N := 12) rfl rfl 1 (by decide) fl_22 rfl rfl rfl (Nat.le_of_ble_eq_true rfl) rfl dX0_tryOn_78 (fun H locs hP hD hS => ?_)
            refine lv_iinc (v := nI (n + 1)) (lv' := [(3, .int (nI (n + 1))), (0, .ref q), (1, .ref (r 0)), (2, .ref (b 0))]) hx hb dX0_tryOn_81 hl (k := 3) rfl (nI_1 _) (by decide) rfl (fun ls hl => ?_)
            refine lv_goto (tgt := 25) hx hb dX0_tryOn_84 (by decide) ?_
            exact ih_1 (n + 1) _ _ (try_go hinv (by omega) hL6 (fun k z => sgT_in z) hq_6 h10) (by omega) _ _ _ hP hD hS (lv_sub hl [1, 2, 3, 0] rfl)
          · skip
            have h10 := c_7
            exact z_vretE (u_6.1, u_6.2) hx hb hr hlk hP hD hS dX0_tryOn_70 (try_bad hinv (by omega) hL6 hq_6 h10)
  exact key_1 _ 0 _ _ (try_0 (okR_same (copy_same u w) hR)) (Nat.lt_succ_self _) _ _ _ hP hD hS (lv_sub hl [1, 2, 3, 0] rfl)
