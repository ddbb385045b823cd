theorem prL_bd {sg : Nat → Nat} {s d0 d1 q : Nat} {o : Option (Nat × Nat × Nat × Nat)} (h : prL sg s d0 d1 = (q, o)) : s ≤ q ∧ q ≤ s + 61 := by
  have h6 := lc_le60 sg s
  unfold prL at h
  by_cases h1 : 0 < lc sg s
  · rw [if_pos h1] at h
    by_cases h2 : sg (s + lc sg s) = 59
    · rw [if_pos h2] at h; cases h; omega
    · rw [if_neg h2] at h; cases h; omega
  · rw [if_neg h1] at h; cases h; omega
theorem prs_bd {sg : Nat → Nat} {p q : Nat} {o : Option (Nat × Nat × Nat × Nat)} (h : prs sg p = (q, o)) : p ≤ q ∧ q ≤ p + 66 := by
  unfold prs at h
  by_cases c1 : sg p = 33
  · rw [if_pos c1] at h
    by_cases c2 : dgB (sg (p + 1)) = true
    · rw [if_pos c2] at h
      by_cases c3 : sg (p + 2) = 59
      · rw [if_pos c3] at h; cases h; omega
      · rw [if_neg c3] at h; cases h; omega
    · rw [if_neg c2] at h; cases h; omega
  · rw [if_neg c1] at h
    by_cases c2 : sg p = 61
    · rw [if_pos c2] at h
      by_cases c3 : dgB (sg (p + 1)) = true
      · rw [if_pos c3] at h
        by_cases c4 : sg (p + 2) = 44
        · rw [if_pos c4] at h
          by_cases c5 : dgB (sg (p + 3)) = true
          · rw [if_pos c5] at h
            by_cases c6 : sg (p + 4) = 44
            · rw [if_pos c6] at h
              have := prL_bd h
              omega
            · rw [if_neg c6] at h; cases h; omega
          · rw [if_neg c5] at h; cases h; omega
        · rw [if_neg c4] at h; cases h; omega
      · rw [if_neg c3] at h; cases h; omega
    · rw [if_neg c2] at h
      by_cases c3 : sg p = 43 ∨ sg p = 45
      · rw [if_pos c3] at h
        have := prL_bd h
        omega
      · rw [if_neg c3] at h; cases h; omega
theorem rngF_le {c d0 d1 k z : Nat} (h : rngF c d0 d1 k = some z) : z ≤ 3 := by
  unfold rngF at h
  repeat' split at h
  all_goals first | (cases h; decide) | cases h
theorem da_cases (sg : Nat → Nat) (p : Nat) (W : Mem) : (∃ q, prs sg p = (q, none)) ∨ (∃ q d0 d1 k wd z, prs sg p = (q, some (d0, d1, k, wd)) ∧ rngF (sg p) d0 d1 k = some z) ∨
    (∃ q d0 d1 k wd, prs sg p = (q, some (d0, d1, k, wd)) ∧ rngF (sg p) d0 d1 k = none ∧ xCan W (sg p) wd = true) ∨ (∃ q d0 d1 k wd, prs sg p = (q, some (d0, d1, k, wd)) ∧ rngF (sg p) d0 d1 k = none ∧ xCan W (sg p) wd = false) := by
  cases h : prs sg p with
  | mk q o =>
    cases o with
    | none => exact Or.inl ⟨q, rfl⟩
    | some t =>
      obtain ⟨d0, d1, k, wd⟩ := t
      cases hr : rngF (sg p) d0 d1 k with
      | some z => exact Or.inr (Or.inl ⟨q, d0, d1, k, wd, z, rfl, hr⟩)
      | none =>
        cases hc : xCan W (sg p) wd with
        | true => exact Or.inr (Or.inr (Or.inl ⟨q, d0, d1, k, wd, rfl, hr, hc⟩))
        | false => exact Or.inr (Or.inr (Or.inr ⟨q, d0, d1, k, wd, rfl, hr, hc⟩))
def daKeep (v : Mem) (y : Nat → Nat) (V : Mem) (Y : Nat → Nat) : Prop := V 1 = v 1 ∧ V 2 = v 2 ∧ V 3 = v 3 ∧ okDg V ∧ Y 0 = y 0 ∧ Y 1 = y 1
def daRes (v w : Mem) (tl : Nat) : Nat × Nat × Nat × Nat × Mem := xRun (sgT (v 3) tl) tl 61 0 0 w
def daRun (w v : Mem) (B tl n : Nat) (V : Mem) (Y : Nat → Nat) (W : Mem) (e f : Nat) : Prop := tl < f + Y 4 ∧ Y 4 ≤ tl ∧ daRes v w tl = xRun (sgT (v 3) tl) tl f (Y 4) n W ∧ RR W (V 0) e (B + Y 4)
def daFin (w v : Mem) (B tl n : Nat) (V : Mem) (Y : Nat → Nat) : Prop := Y 7 ≤ 3 ∧ ∃ W e cs, daRes v w tl = (n, Y 7, cs, Y 9, W) ∧ (Y 7 ≠ 3 → Y 8 = cs) ∧ RR W (V 0) e (B + 61)
def daInv (w v : Mem) (y : Nat → Nat) (B tl n : Nat) (V : Mem) (Y : Nat → Nat) : Prop := daKeep v y V Y ∧ Y 4 ≤ 200 ∧ ((Y 7 = 0 ∧ ∃ W e f, daRun w v B tl n V Y W e f) ∨ (Y 7 ≠ 0 ∧ daFin w v B tl n V Y))
def daPost (w v : Mem) (y : Nat → Nat) (B tl : Nat) (r : Int32) (u : Mem × (Nat → Nat)) : Prop :=
  daKeep v y u.1 u.2 ∧ r = nI (daRes v w tl).1 ∧ u.2 7 = (daRes v w tl).2.1 ∧ u.2 7 ≤ 3 ∧ (u.2 7 ≠ 0 → u.2 9 = (daRes v w tl).2.2.2.1) ∧ (u.2 7 ≠ 0 → u.2 7 ≠ 3 → u.2 8 = (daRes v w tl).2.2.1) ∧ ∃ e, RR (daRes v w tl).2.2.2.2 (u.1 0) e (B + 61)
def daM (tl : Nat) (Y : Nat → Nat) : Nat := if Y 7 = 0 then tl + 1 - Y 4 else 0
section DA
variable {w v V W : Mem} {y Y : Nat → Nat} {B tl n e f : Nat} {u : Mem × (Nat → Nat)} {r : Int32}
theorem da_0 (hR : RR w (v 0) e B) (hdg : okDg v) (hL6 : tl ≤ 60) : daInv w v y B tl 0 v (nup (nup y 4 0) 7 0) :=
  ⟨⟨rfl, rfl, rfl, hdg, rfl, rfl⟩, by show 0 ≤ 200; omega, Or.inl ⟨rfl, w, e, 61, by show tl < 61 + 0; omega, by show 0 ≤ tl; omega, rfl, hR⟩⟩
theorem da_run (h : daInv w v y B tl n V Y) (h7 : Y 7 = 0) : ∃ W e f, daRun w v B tl n V Y W e f := by
  rcases h.2.2 with q | q
  · exact q.2
  · exact absurd h7 q.1
theorem da_fin (h : daInv w v y B tl n V Y) (h7 : ¬ Y 7 = 0) : daPost w v y B tl (nI n) (V, Y) := by
  rcases h.2.2 with q | ⟨-, h3, W, e, cs, a, b, c⟩
  · exact absurd q.1 h7
  · refine ⟨h.1, by rw [a], by rw [a], h3, fun _ => by rw [a], fun _ q => by rw [a]; exact b q, e, ?_⟩
    rw [a]
    exact c
theorem da_end (h : daInv w v y B tl n V Y) (h4 : tl ≤ Y 4) (hL6 : tl ≤ 60) : daPost w v y B tl (nI n) (V, Y) := by
  by_cases h7 : Y 7 = 0
  · obtain ⟨W, e, f, a, b, c, d⟩ := da_run h h7
    rw [xRun_end h4] at c
    refine ⟨h.1, by rw [c], by rw [c]; exact h7, by show Y 7 ≤ 3; omega, fun q => absurd h7 q, fun q => absurd h7 q, e, ?_⟩
    rw [c]
    exact RR_mono d (by omega)
  · exact da_fin h h7
theorem daM_0 (h : ¬ Y 7 = 0) : daM tl Y = 0 := if_neg h
theorem daM_1 (h : Y 7 = 0) : daM tl Y = tl + 1 - Y 4 := if_pos h
-- what reading leaves
theorem da_rd (h : daInv w v y B tl n V Y) (hq : rdPost V (nup Y 9 (Y 4)) tl r u) : daKeep v y u.1 u.2 ∧ u.1 0 = V 0 ∧ u.2 4 = (prs (sgT (V 3) tl) (Y 4)).1 ∧ u.2 7 = Y 7 ∧ u.2 9 = Y 4 := by
  obtain ⟨⟨a1, a2, a3, a4, a5, a6⟩, -⟩ := h
  obtain ⟨b1, b2, b3, b4, -⟩ := hq
  exact ⟨⟨(b1 1 (by decide)).trans a1, (b1 2 (by decide)).trans a2, (b1 3 (by decide)).trans a3, b2, (b3 0 (by decide) (by decide) (by decide)).trans a5, (b3 1 (by decide) (by decide) (by decide)).trans a6⟩, b1 0 (by decide), b4, b3 7 (by decide) (by decide) (by decide), b3 9 (by decide) (by decide) (by decide)⟩
theorem da_f (h : daRun w v B tl n V Y W e f) (h4 : Y 4 < tl) : ∃ g, f = g + 1 := ⟨f - 1, by have := h.1; have := h.2.1; omega⟩
theorem da_b1 {q : Nat} (h : daInv w v y B tl n V Y) (hr : daRun w v B tl n V Y W e f) (hL6 : tl ≤ 60) (h4 : Y 4 < tl) (hp : prs (sgT (V 3) tl) (Y 4) = (q, none)) (hq : rdPost V (nup Y 9 (Y 4)) tl r u) : daInv w v y B tl n u.1 (nup (nup u.2 7 1) 8 (u.2 4 - u.2 9)) ∧ u.2 9 ≤ u.2 4 := by
  obtain ⟨k1, k2, k3, k4, k5⟩ := da_rd h hq
  have h3 : V 3 = v 3 := h.1.2.2.1
  have hb := prs_bd hp
  rw [hp] at k3
  obtain ⟨g, rfl⟩ := da_f hr h4
  rw [h3] at hp
  have e1 := hr.2.2.1.trans (xRun_form (by omega) hp)
  refine ⟨⟨k1, by show u.2 4 ≤ 200; omega, Or.inr ⟨by show ¬ 1 = 0; decide, by show 1 ≤ 3; decide, W, e, q - Y 4, ?_, fun _ => ?_, ?_⟩⟩, by omega⟩
  · rw [e1]
    show (n, 1, q - Y 4, Y 4, W) = (n, 1, q - Y 4, u.2 9, W)
    rw [k5]
  · show u.2 4 - u.2 9 = q - Y 4
    rw [k3, k5]
  · rw [k2]
    exact RR_mono hr.2.2.2 (by omega)
theorem da_b2 {q d0 d1 k wd z : Nat} (h : daInv w v y B tl n V Y) (hr : daRun w v B tl n V Y W e f) (hL6 : tl ≤ 60) (h4 : Y 4 < tl) (hp : prs (sgT (V 3) tl) (Y 4) = (q, some (d0, d1, k, wd))) (hg : rngF (sgT (V 3) tl (Y 4)) d0 d1 k = some z) (hq : rdPost V (nup Y 9 (Y 4)) tl r u) : daInv w v y B tl n u.1 (nup (nup u.2 7 2) 8 z) := by
  obtain ⟨k1, k2, k3, k4, k5⟩ := da_rd h hq
  have h3 : V 3 = v 3 := h.1.2.2.1
  have hb := prs_bd hp
  rw [hp] at k3
  obtain ⟨g, rfl⟩ := da_f hr h4
  rw [h3] at hp hg
  have e1 := hr.2.2.1.trans (xRun_rng (by omega) hp hg)
  refine ⟨k1, by show u.2 4 ≤ 200; omega, Or.inr ⟨by show ¬ 2 = 0; decide, by show 2 ≤ 3; decide, W, e, z, ?_, fun _ => rfl, ?_⟩⟩
  · rw [e1]
    show (n, 2, z, Y 4, W) = (n, 2, z, u.2 9, W)
    rw [k5]
  · rw [k2]
    exact RR_mono hr.2.2.2 (by omega)
theorem da_dk {u2 : Mem × (Nat → Nat)} {c d0 d1 wd : Nat} {r2 : Int32} {b : Nat} (k1 : daKeep v y u.1 u.2) (hd : doPost W u.1 u.2 b c d0 d1 wd r2 u2) : daKeep v y u2.1 u2.2 := by
  obtain ⟨a1, a2, a3, ⟨e0, e1, f0, f1, f2, f3⟩, a5, a6⟩ := k1
  obtain ⟨-, -, b3, b4⟩ := hd
  exact ⟨(b3 1 (by decide) (by decide) (by decide)).trans a1, (b3 2 (by decide) (by decide) (by decide)).trans a2, (b3 3 (by decide) (by decide) (by decide)).trans a3, ⟨e0, e1, f0, f1, by rw [b3 6 (by decide) (by decide) (by decide)]; exact f2, by rw [b3 6 (by decide) (by decide) (by decide)]; exact f3⟩, (b4 0 (by decide)).trans a5, (b4 1 (by decide)).trans a6⟩
theorem da_q {q d0 d1 k wd : Nat} (hp : prs (sgT (V 3) tl) (Y 4) = (q, some (d0, d1, k, wd))) : Y 4 < q ∧ q ≤ tl := by
  obtain ⟨a, b, c⟩ := ordOk_go (prs_ok hp)
  have := sgT_in b
  omega
theorem da_b3 {q d0 d1 k wd : Nat} {u2 : Mem × (Nat → Nat)} {r2 : Int32} (h : daInv w v y B tl n V Y) (hr : daRun w v B tl n V Y W e f) (hL6 : tl ≤ 60) (h4 : Y 4 < tl) (h7 : Y 7 = 0) (hp : prs (sgT (V 3) tl) (Y 4) = (q, some (d0, d1, k, wd))) (hg : rngF (sgT (V 3) tl (Y 4)) d0 d1 k = none) (hc : xCan W (sgT (V 3) tl (Y 4)) wd = true) (hq : rdPost V (nup Y 9 (Y 4)) tl r u) (hd : doPost W u.1 u.2 (B + Y 4) (sgT (V 3) tl (Y 4)) d0 d1 wd r2 u2) : daInv w v y B tl (n + 1) u2.1 u2.2 ∧ u2.2 7 = 0 ∧ Y 4 < u2.2 4 := by
  obtain ⟨k1, k2, k3, k4, k5⟩ := da_rd h hq
  have h3 : V 3 = v 3 := h.1.2.2.1
  have hb := da_q hp
  rw [hp] at k3
  obtain ⟨g, rfl⟩ := da_f hr h4
  have kk := da_dk k1 hd
  obtain ⟨-, ⟨e', b2⟩, -, b4⟩ := hd
  rw [h3] at hp hg hc b2
  rw [if_pos hc] at b2
  have e1 := hr.2.2.1.trans (xRun_go (by omega) hp hg hc)
  have y4 : u2.2 4 = q := (b4 4 (by decide)).trans k3
  have y7 : u2.2 7 = 0 := (b4 7 (by decide)).trans (k4.trans h7)
  have := hr.1
  refine ⟨⟨kk, by omega, Or.inl ⟨y7, _, e', g, by omega, by omega, by rw [y4]; exact e1, RR_mono b2 (by omega)⟩⟩, y7, by omega⟩
theorem da_b4 {q d0 d1 k wd : Nat} {u2 : Mem × (Nat → Nat)} {r2 : Int32} (h : daInv w v y B tl n V Y) (hr : daRun w v B tl n V Y W e f) (hL6 : tl ≤ 60) (h4 : Y 4 < tl) (hp : prs (sgT (V 3) tl) (Y 4) = (q, some (d0, d1, k, wd))) (hg : rngF (sgT (V 3) tl (Y 4)) d0 d1 k = none) (hc : xCan W (sgT (V 3) tl (Y 4)) wd = false) (hq : rdPost V (nup Y 9 (Y 4)) tl r u) (hd : doPost W u.1 u.2 (B + Y 4) (sgT (V 3) tl (Y 4)) d0 d1 wd r2 u2) : daInv w v y B tl n u2.1 (nup u2.2 7 3) := by
  obtain ⟨k1, k2, k3, k4, k5⟩ := da_rd h hq
  have h3 : V 3 = v 3 := h.1.2.2.1
  have hb := da_q hp
  rw [hp] at k3
  obtain ⟨g, rfl⟩ := da_f hr h4
  have kk := da_dk k1 hd
  obtain ⟨-, ⟨e', b2⟩, -, b4⟩ := hd
  rw [h3] at hp hg hc b2
  rw [if_neg (by rw [hc]; decide)] at b2
  have e1 := hr.2.2.1.trans (xRun_no (by omega) hp hg hc)
  have y4 : u2.2 4 = q := (b4 4 (by decide)).trans k3
  refine ⟨kk, by show u2.2 4 ≤ 200; omega, Or.inr ⟨by show ¬ 3 = 0; decide, by show 3 ≤ 3; decide, W, e', 0, ?_, fun z => absurd rfl z, RR_mono b2 (by omega)⟩⟩
  rw [e1]
  show (n, 3, 0, Y 4, W) = (n, 3, 0, u2.2 9, W)
  rw [b4 9 (by decide), k5]
-- what the order's doing asks
theorem da_ask {q d0 d1 k wd : Nat} (hp : prs (sgT (V 3) tl) (Y 4) = (q, some (d0, d1, k, wd))) (hg : rngF (sgT (V 3) tl (Y 4)) d0 d1 k = none) (hq : rdPost V (nup Y 9 (Y 4)) tl r u) :
    (sgT (V 3) tl (Y 4) = 33 ∨ sgT (V 3) tl (Y 4) = 61 ∨ sgT (V 3) tl (Y 4) = 43 ∨ sgT (V 3) tl (Y 4) = 45) ∧ (sgT (V 3) tl (Y 4) = 33 → d0 ≤ 2 ∧ u.1 6 0 = nI d0) ∧ (sgT (V 3) tl (Y 4) = 61 → d0 ≤ 2 ∧ d1 ≤ 5 ∧ u.1 6 0 = nI d0 ∧ u.1 6 1 = nI d1) ∧ (¬ sgT (V 3) tl (Y 4) = 33 → u.2 6 = wd ∧ zName (nI wd) = true) := by
  obtain ⟨g1, g2, g3⟩ := rngF_none hg
  obtain ⟨-, -, -, -, -, b6⟩ := hq
  obtain ⟨c1, c2, c3⟩ := b6 d0 d1 k wd (by show (prs (sgT (V 3) tl) (Y 4)).2 = _; rw [hp])
  have ho := prs_ok hp
  refine ⟨?_, fun z => ⟨g1 z, c1 z⟩, fun z => ⟨(g2 z).1, (g2 z).2, (c2 z).1, (c2 z).2⟩, fun z => ⟨(c3 z).2, ?_⟩⟩
  · rcases ho with h | h
    · exact Or.inl h.1
    · exact Or.inr h.1
  · rcases ho with h | ⟨-, -, -, -, s, -, hk, hw, h0, -, -⟩
    · exact absurd h.1 z
    · rw [hw]
      exact word_name hk h0 (g3 z)
theorem da_digits {q d0 d1 k wd : Nat} (hp : prs (sgT (V 3) tl) (Y 4) = (q, some (d0, d1, k, wd))) (hq : rdPost V (nup Y 9 (Y 4)) tl r u) :
    okDg u.1 ∧ d0 < 10 ∧ d1 < 10 ∧ k ≤ 60 ∧ (sgT (V 3) tl (Y 4) = 33 → u.1 6 0 = nI d0) ∧ (sgT (V 3) tl (Y 4) = 61 → u.1 6 0 = nI d0 ∧ u.1 6 1 = nI d1) ∧ (¬ sgT (V 3) tl (Y 4) = 33 → u.2 5 = k) := by
  obtain ⟨-, b2, -, -, -, b6⟩ := hq
  obtain ⟨c1, c2, c3⟩ := b6 d0 d1 k wd (by show (prs (sgT (V 3) tl) (Y 4)).2 = _; rw [hp])
  have ho := prs_ok hp
  have h : d0 < 10 ∧ d1 < 10 ∧ k ≤ 60 := by
    rcases ho with h | ⟨-, a, b, -, s, -, hk, -⟩
    · omega
    · refine ⟨a, b, ?_⟩
      rw [hk]
      exact lc_le60 _ _
  exact ⟨b2, h.1, h.2.1, h.2.2, c1, c2, fun z => (c3 z).1⟩
end DA
theorem c_X4_wrong_g (l : Launch) (G : ZG) (a : Nat → Nat) (v : Mem) (y : Nat → Nat) (ch d0 d1 k : Nat) (hch : ch < 65536) (h : okDg v ∧ d0 < 10 ∧ d1 < 10 ∧ k ≤ 60 ∧ (ch = 33 → v 6 0 = nI d0) ∧ (ch = 61 → v 6 0 = nI d0 ∧ v 6 1 = nI d1) ∧ (¬ ch = 33 → y 5 = k)) (z : Option Nat) (hz : rngF ch d0 d1 k = z) : CI l G yX4_wrong wsX4_wrong (zRm 0 0) [.ref (a 0), .int (nI ch)] (modW G a v y) (rngI z) (modW G a v y) := by
  subst hz
  obtain ⟨⟨a0, a1, g0, g1, g2, g3⟩, h0, h1, hk, h33, h61, h5⟩ := h
  by_cases c1 : ch = 33
  · subst c1
    exact c_X4_wrong_x l G a v y d0 h0 (h33 rfl)
  · have e : rngF ch a0 a1 k = rngF ch d0 d1 k := by
      by_cases c2 : ch = 61
      · obtain ⟨q0, q1⟩ := h61 c2
        rw [nI_inj (by omega) (by omega) (g2.symm.trans q0), nI_inj (by omega) (by omega) (g3.symm.trans q1)]
      · simp [rngF, c1, c2]
    rw [← e]
    exact c_X4_wrong l G a v y ch a0 a1 k hch g0 g1 g2 g3 (h5 c1) (by omega)
