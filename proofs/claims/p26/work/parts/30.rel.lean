/-- how many users a number has -/
def usK (v : Mem) (i : Nat) : Nat := (v 1 i).toNatClampNeg
/-- what holds of a roll at any time: all but the bound of cells by users -/
def okV (v : Mem) (e B : Nat) : Prop :=
  (v 12 0 = nI e ∧ e ≤ 999) ∧
  (∀ i, i < 40 → v 0 i = 0 ∨ zName (v 0 i) = true) ∧
  (∀ a b, a < 40 → b < 40 → ¬ v 0 a = 0 → v 0 a = v 0 b → a = b) ∧
  (∀ i, i < 40 → v 1 i = nI (usK v i) ∧ usK v i ≤ 999 ∧ (v 0 i = 0 ↔ usK v i = 0)) ∧
  (∀ k, k < 18 → v 3 k = -1 ∨ ∃ o, o < 40 ∧ v 3 k = nI o) ∧
  (∀ i, i < 40 → ∃ z, z ≤ B ∧ v 2 i = nI z) ∧
  (∀ i, i < 3 → i < e → ∀ n, n < 40 → v 8 ((e - 1 - i) % 3 * 40 + n) = -1 ∨ ∃ q, q < 40 ∧ v 8 ((e - 1 - i) % 3 * 40 + n) = nI q ∧ (∃ z, z ≤ B ∧ v 7 ((e - 1 - i) % 3 * 40 + n) = nI z) ∧ ∃ z, z ≤ B ∧ v 9 ((e - 1 - i) % 3 * 40 + q) = nI z)
/-- cells are users -/
def okC (v : Mem) : Prop := ∀ i, i < 40 → zCells (v 3) (nI i) ≤ usK v i
/-- a roll and the reference's row tell the same -/
def RE (v : Mem) (f : Nat → Int32) (e : Nat) : Prop :=
  (f 0 = nI e ∧ f 3 = nI e ∧ f 1 = v 12 1 ∧ f 2 = v 12 2) ∧
  (∀ i, i < 40 → f (4 + i) = v 0 i ∧ f (44 + i) = v 1 i ∧ f (84 + i) = v 2 i) ∧
  (∀ k, k < 18 → f (124 + k) = v 3 k) ∧
  (∀ i, i < 3 → i < e → (f (142 + 123 * i) = v 4 ((e - 1 - i) % 3) ∧ f (142 + 123 * i + 1) = v 5 ((e - 1 - i) % 3) ∧ f (142 + 123 * i + 2) = v 6 ((e - 1 - i) % 3)) ∧
    ∀ n, n < 40 → f (142 + 123 * i + (3 + n)) = (if v 8 ((e - 1 - i) % 3 * 40 + n) = -1 then -1 else v 7 ((e - 1 - i) % 3 * 40 + n)) ∧ f (142 + 123 * i + (43 + n)) = v 8 ((e - 1 - i) % 3 * 40 + n) ∧
      f (142 + 123 * i + (83 + n)) = (if v 8 ((e - 1 - i) % 3 * 40 + n) = -1 then -1 else v 9 ((e - 1 - i) % 3 * 40 + (v 8 ((e - 1 - i) % 3 * 40 + n)).toNatClampNeg)))
theorem okV_mono {v : Mem} {e B B' : Nat} (h : okV v e B) (hB : B ≤ B') : okV v e B' := by
  obtain ⟨h1, h2, h3, h4, h5, h6, h7⟩ := h
  refine ⟨h1, h2, h3, h4, h5, fun i hi => ?_, fun i hi hie n hn => ?_⟩
  · obtain ⟨z, a, b⟩ := h6 i hi
    exact ⟨z, by omega, b⟩
  · rcases h7 i hi hie n hn with q | ⟨q, q1, q2, ⟨z, a, b⟩, z2, a2, b2⟩
    · exact Or.inl q
    · exact Or.inr ⟨q, q1, q2, ⟨z, by omega, b⟩, z2, by omega, b2⟩
-- what follows of names
theorem nm_ok {v : Mem} {e B : Nat} (h : okV v e B) : okNm (v 0) := by
  intro i hi
  rcases h.2.1 i hi with q | q
  · rw [q]; exact ⟨by decide, by decide⟩
  · obtain ⟨k, h1, h2, h3, -⟩ := zName_of q
    rw [h3, nI_clamp (by omega)]
    exact ⟨rfl, by omega⟩
/-- padded names differ -/
theorem padK_mul : ∀ (f k : Nat), ∃ g, g ≤ f ∧ padK f k = k * 27 ^ g ∧ (g = f ∨ 14348907 ≤ k * 27 ^ g)
  | 0, k => ⟨0, Nat.le_refl 0, by rw [padK, Nat.pow_zero, Nat.mul_one], Or.inl rfl⟩
  | f + 1, k => by
    rw [padK]
    by_cases h : k < 14348907
    · obtain ⟨g, h1, h2, h3⟩ := padK_mul f (k * 27)
      rw [if_pos h]
      refine ⟨g + 1, by omega, ?_, ?_⟩
      · rw [h2, Nat.pow_succ, Nat.mul_assoc, Nat.mul_comm 27]
      · rw [Nat.mul_assoc, Nat.mul_comm 27, ← Nat.pow_succ] at h3
        rcases h3 with q | q
        · exact Or.inl (by omega)
        · exact Or.inr q
    · rw [if_neg h]
      exact ⟨0, by omega, by rw [Nat.pow_zero, Nat.mul_one], Or.inr (by rw [Nat.pow_zero, Nat.mul_one]; omega)⟩
theorem digOk_div {k : Nat} : ∀ (g : Nat) {f : Nat}, digOk f k = true → g < f → 0 < k → ¬ (∃ j, 0 < j ∧ k = j * 27 ^ (g + 1))
  | _, 0, _, hg, _ => absurd hg (Nat.not_lt_zero _)
  | g, f + 1, h, _, hk => by
    rintro ⟨j, hj, e⟩
    rw [digOk, if_neg (by omega)] at h
    have h27 : k % 27 = 0 := by
      rw [e, Nat.pow_succ, ← Nat.mul_assoc]
      exact Nat.mul_mod_left _ _
    rw [if_pos h27] at h
    cases h
theorem padK_inj {a b : Nat} (ha : 1 ≤ a) (hb : 1 ≤ b) (ha2 : digOk 6 a = true) (hb2 : digOk 6 b = true) (h : padK 5 a = padK 5 b) : a = b := by
  obtain ⟨g, g1, g2, -⟩ := padK_mul 5 a
  obtain ⟨i, i1, i2, -⟩ := padK_mul 5 b
  rw [g2, i2] at h
  rcases Nat.lt_trichotomy g i with q | q | q
  · obtain ⟨d, rfl⟩ : ∃ d, i = g + (d + 1) := ⟨i - g - 1, by omega⟩
    rw [Nat.pow_add, ← Nat.mul_assoc, Nat.mul_right_comm] at h
    have e := Nat.eq_of_mul_eq_mul_right (Nat.pow_pos (by decide)) h
    exact absurd ⟨b, by omega, e⟩ (digOk_div d ha2 (by omega) (by omega))
  · subst q
    exact Nat.eq_of_mul_eq_mul_right (Nat.pow_pos (by decide)) h
  · obtain ⟨d, rfl⟩ : ∃ d, g = i + (d + 1) := ⟨g - i - 1, by omega⟩
    rw [Nat.pow_add, ← Nat.mul_assoc, Nat.mul_right_comm] at h
    have e := Nat.eq_of_mul_eq_mul_right (Nat.pow_pos (by decide)) h.symm
    exact absurd ⟨a, by omega, e⟩ (digOk_div d hb2 (by omega) (by omega))
theorem nm_inj {v : Mem} {e B : Nat} (h : okV v e B) : injN (v 0) := by
  intro a b ha hb ha0 hb0 hp
  rcases h.2.1 a ha with q | q
  · exact absurd q ha0
  rcases h.2.1 b hb with r | r
  · exact absurd r hb0
  obtain ⟨k, k1, k2, k3, k4⟩ := zName_of q
  obtain ⟨j, j1, j2, j3, j4⟩ := zName_of r
  rw [k3, j3, nI_clamp (by omega), nI_clamp (by omega)] at hp
  have := padK_inj k1 j1 k4 j4 hp
  subst this
  exact h.2.2.1 a b ha hb ha0 (k3.trans j3.symm)
-- the same values, told of rows that agree
theorem zfn_cong {f g : Nat → Int32} (h : ∀ i, i < 40 → f i = g i) (x : Int32) : zfn f x = zfn g x := by
  have key : ∀ n, n ≤ 40 → fa_first (fun i => decide (f i = x)) n = fa_first (fun i => decide (g i = x)) n := by
    intro n
    induction n with
    | zero => intro _; rfl
    | succ n ih =>
      intro hn
      rw [fa_first, fa_first, ih (by omega)]
      show (if _ then _ else if decide (f n = x) = true then _ else _) = (if _ then _ else if decide (g n = x) = true then _ else _)
      rw [h n (by omega)]
  exact key 40 (Nat.le_refl _)
theorem zNum_cong {f g : Nat → Int32} (h : ∀ i, i < 40 → f i = g i) (x : Int32) : zNum f x = zNum g x := by rw [zNum, zNum, zfn_cong h]
theorem zCells_cong {f g : Nat → Int32} (h : ∀ i, i < 18 → f i = g i) (x : Int32) : zCells f x = zCells g x := fb_ct_cong (fun k hk => by rw [h k hk])
theorem zSm_cong {f g : Nat → Int32} : ∀ (n : Nat), (∀ i, i < n → f i = g i) → zSm f n = zSm g n
  | 0, _ => rfl
  | n + 1, h => by rw [zSm, zSm, zSm_cong n (fun i hi => h i (by omega)), h n (by omega)]
theorem zTop_cong {f g : Nat → Int32} : ∀ (n : Nat), (∀ i, i < n → f i = g i) → zTop f n = zTop g n
  | 0, _ => rfl
  | n + 1, h => by rw [zTop, zTop, zTop_cong n (fun i hi => h i (by omega)), h n (by omega)]
theorem zAh_cong {nm us nm' us' : Nat → Int32} {ρ a b : Nat} (h1 : nm a = nm' a) (h2 : nm b = nm' b) (h3 : us a = us' a) (h4 : us b = us' b) : zAh nm us ρ a b = zAh nm' us' ρ a b := by
  unfold zAh
  rw [h1, h2, h3, h4]
theorem zPos_cong {nm us nm' us' : Nat → Int32} {ρ j : Nat} (h1 : ∀ i, i < 40 → nm i = nm' i) (h2 : ∀ i, i < 40 → us i = us' i) (hj : j < 40) : zPos nm us ρ j = zPos nm' us' ρ j :=
  fb_ct_cong (fun k hk => by rw [zAh_cong (h1 k hk) (h1 j hj) (h2 k hk) (h2 j hj), h1 k hk])
section RELF
variable {v : Mem} {f : Nat → Int32} {e B : Nat}
theorem re_nm (h : RE v f e) : ∀ i, i < 40 → rN f i = v 0 i := fun i hi => (h.2.1 i hi).1
theorem re_us (h : RE v f e) : ∀ i, i < 40 → rU f i = v 1 i := fun i hi => (h.2.1 i hi).2.1
theorem re_cl (h : RE v f e) : ∀ i, i < 18 → rC f i = v 3 i := fun i hi => h.2.2.1 i hi
theorem re_okNm (h : RE v f e) (hv : okV v e B) : okNm (rN f) := fun i hi => by rw [re_nm h i hi]; exact nm_ok hv i hi
theorem re_injN (h : RE v f e) (hv : okV v e B) : injN (rN f) := by
  intro a b ha hb ha0 hb0 hp
  rw [re_nm h a ha] at ha0 hp
  rw [re_nm h b hb] at hb0 hp
  exact nm_inj hv a b ha hb ha0 hb0 hp
theorem re_posA (h : RE v f e) {ρ j : Nat} (hj : j < 40) : posA f ρ j = zPl v ρ j := by
  rw [zPl_eq]
  exact zPos_cong (re_nm h) (re_us h) hj
theorem re_cnt (h : RE v f e) : cntA f = fb_ct (pNm v) 40 := fb_ct_cong (fun k hk => by show decide (¬ rN f k = 0) = decide (¬ v 0 k = 0); rw [re_nm h k hk])
theorem cells_named (hv : okV v e B) (hc : okC v) {k o : Nat} (hk : k < 18) (ho : o < 40) (he : v 3 k = nI o) : ¬ v 0 o = 0 := by
  intro q
  have h1 := ((hv.2.2.2.1 o ho).2.2).mp q
  have h2 := hc o ho
  have h3 : 0 < zCells (v 3) (nI o) := fb_ct_pos.mpr ⟨k, hk, decide_eq_true he⟩
  omega
theorem re_okCl (h : RE v f e) (hv : okV v e B) (hc : okC v) : okCl f := by
  intro k hk
  rw [h.2.2.1 k hk]
  rcases hv.2.2.2.2.1 k hk with q | ⟨o, ho, hoe⟩
  · exact Or.inl q
  · exact Or.inr ⟨o, ho, hoe, by rw [(h.2.1 o ho).1]; exact cells_named hv hc hk ho hoe⟩
theorem re_okM (h : RE v f e) (hv : okV v e B) (hB : B < 2 ^ 31) : okM f e := by
  intro i n hi hie hn
  obtain ⟨-, h1⟩ := h.2.2.2 i hi hie
  obtain ⟨a, b, c⟩ := h1 n hn
  rcases hv.2.2.2.2.2.2 i hi hie n hn with q | ⟨q, hq, hqe, -, z, hz, hze⟩
  · exact Or.inl (by rw [a, if_pos q])
  · refine Or.inr ⟨q, z, hq, by omega, b.trans hqe, ?_⟩
    rw [c, hqe, if_neg (nI_nm1 (by omega)), nI_clamp (by omega)]
    exact hze
/-- a tag comes to the same number, or is refused for the same reason -/
def tagSame (a : Int32) (r : Nat × Option Nat) (v : Mem) : Prop := (∃ n, n < 40 ∧ a = nI n ∧ r = (0, some n) ∧ ¬ v 0 n = 0) ∨ (∃ k, 1 ≤ k ∧ k ≤ 4 ∧ a = -nI k ∧ r.1 = k)
theorem fol_same (h : RE v f e) (hv : okV v e B) (hB : B < 2 ^ 31) : ∀ (k d n z : Nat), k + d = e → k ≤ 3 → n < 40 → z < 2 ^ 31 → tagSame (zFol v k d n (nI z)) (mFol f e k d n (nI z)) v
  | 0, d, n, z, _, _, hn, _ => by
    rw [zFol, mFol, (h.2.1 n hn).1, (h.2.1 n hn).2.2]
    by_cases h1 : v 0 n = 0
    · rw [if_pos h1, if_pos h1]
      exact Or.inr ⟨4, by omega, by omega, by decide, rfl⟩
    · rw [if_neg h1, if_neg h1]
      by_cases h2 : v 2 n = nI z
      · rw [if_pos h2, if_pos h2]
        exact Or.inl ⟨n, hn, rfl, rfl, h1⟩
      · rw [if_neg h2, if_neg h2]
        exact Or.inr ⟨4, by omega, by omega, by decide, rfl⟩
  | k + 1, d, n, z, hk, hk3, hn, hz => by
    obtain ⟨-, h1⟩ := h.2.2.2 k (by omega) (by omega)
    obtain ⟨a, b, c⟩ := h1 n hn
    have hd : e - 1 - k = d := by omega
    have hd2 : e - 1 - d = k := by omega
    rw [hd] at a b c
    rw [zFol, mFol, hd2, a, b, c]
    have hv7 := hv.2.2.2.2.2.2 k (by omega) (by omega) n hn
    rw [hd] at hv7
    rcases hv7 with q | ⟨q, hq, hqe, ⟨z1, hz1, hze1⟩, z2, hz2, hze2⟩
    · rw [q, if_neg (by rw [zBel_m1]; decide), if_pos rfl, if_neg (fun q2 => nI_nm1 hz q2.symm)]
      exact Or.inr ⟨3, by omega, by omega, by decide, rfl⟩
    · rw [hqe, if_pos (by rw [zBel_N (by omega) (by decide)]; exact decide_eq_true hq), if_neg (nI_nm1 (by omega)), if_neg (nI_nm1 (by omega)), nI_clamp (by omega)]
      by_cases h2 : v 7 (d % 3 * 40 + n) = nI z
      · rw [if_pos h2, if_pos h2, hze2]
        exact fol_same h hv hB k (d + 1) q z2 (by omega) (by omega) hq (by omega)
      · rw [if_neg h2, if_neg h2]
        exact Or.inr ⟨3, by omega, by omega, by decide, rfl⟩
theorem sta_same (h : RE v f e) (hv : okV v e B) (hB : B < 2 ^ 31) (x : Int32) : tagSame (zSta v e x) (mSta f e x) v := by
  have he := hv.1.2
  rw [zSta, mSta]
  by_cases h0 : x < 0
  · rw [if_pos h0, if_pos h0]
    exact Or.inr ⟨1, by omega, by omega, by decide, rfl⟩
  · rw [if_neg h0, if_neg h0]
    obtain ⟨t, ht, rfl⟩ := nI_of h0
    rw [nI_clamp ht, zStaN, mStaN]
    by_cases h1 : 40 ≤ t % 100
    · rw [if_pos h1, if_pos h1]
      exact Or.inr ⟨1, by omega, by omega, by decide, rfl⟩
    · rw [if_neg h1, if_neg h1]
      by_cases h2 : e < t / 1000000
      · rw [if_pos h2, if_pos h2]
        exact Or.inr ⟨1, by omega, by omega, by decide, rfl⟩
      · rw [if_neg h2, if_neg h2]
        by_cases h3 : t / 1000000 + 3 < e
        · rw [if_pos h3, if_pos (by omega)]
          exact Or.inr ⟨2, by omega, by omega, by decide, rfl⟩
        · rw [if_neg h3, if_neg (by omega)]
          exact fol_same h hv hB _ _ _ _ (by omega) (by omega) (by omega) (by omega)
end RELF
