theorem re_nm1 {v : Mem} {f : Nat → Int32} {e n : Nat} (h : RE v f e) (hn : n < 40) (x : Int32) : RE (mst v 0 n x) (upd f (4 + n) x) e := by
  refine ⟨⟨by rw [pk_un (by omega)]; exact h.1.1, by rw [pk_un (by omega)]; exact h.1.2.1, by rw [pk_un (by omega)]; exact h.1.2.2.1, by rw [pk_un (by omega)]; exact h.1.2.2.2⟩, fun i hi => ⟨(by
    by_cases q : i = n
    · subst q; exact pk_us.trans (if_pos rfl).symm
    · rw [pk_un (by omega)]; exact (h.2.1 i hi).1.trans (if_neg q).symm), (by rw [pk_un (by omega)]; exact (h.2.1 i hi).2.1), (by rw [pk_un (by omega)]; exact (h.2.1 i hi).2.2)⟩, fun k hk => by rw [pk_un (by omega)]; exact h.2.2.1 k hk, fun i hi hie => ⟨⟨by rw [pk_un (by omega)]; exact (h.2.2.2 i hi hie).1.1, by rw [pk_un (by omega)]; exact (h.2.2.2 i hi hie).1.2.1, by rw [pk_un (by omega)]; exact (h.2.2.2 i hi hie).1.2.2⟩, fun k hk => ⟨by rw [pk_un (by omega)]; exact ((h.2.2.2 i hi hie).2 k hk).1, by rw [pk_un (by omega)]; exact ((h.2.2.2 i hi hie).2 k hk).2.1, by rw [pk_un (by omega)]; exact ((h.2.2.2 i hi hie).2 k hk).2.2⟩⟩⟩

theorem re_us1 {v : Mem} {f : Nat → Int32} {e n : Nat} (h : RE v f e) (hn : n < 40) (x : Int32) : RE (mst v 1 n x) (upd f (44 + n) x) e := by
  refine ⟨⟨by rw [pk_un (by omega)]; exact h.1.1, by rw [pk_un (by omega)]; exact h.1.2.1, by rw [pk_un (by omega)]; exact h.1.2.2.1, by rw [pk_un (by omega)]; exact h.1.2.2.2⟩, fun i hi => ⟨(by rw [pk_un (by omega)]; exact (h.2.1 i hi).1), (by
    by_cases q : i = n
    · subst q; exact pk_us.trans (if_pos rfl).symm
    · rw [pk_un (by omega)]; exact (h.2.1 i hi).2.1.trans (if_neg q).symm), (by rw [pk_un (by omega)]; exact (h.2.1 i hi).2.2)⟩, fun k hk => by rw [pk_un (by omega)]; exact h.2.2.1 k hk, fun i hi hie => ⟨⟨by rw [pk_un (by omega)]; exact (h.2.2.2 i hi hie).1.1, by rw [pk_un (by omega)]; exact (h.2.2.2 i hi hie).1.2.1, by rw [pk_un (by omega)]; exact (h.2.2.2 i hi hie).1.2.2⟩, fun k hk => ⟨by rw [pk_un (by omega)]; exact ((h.2.2.2 i hi hie).2 k hk).1, by rw [pk_un (by omega)]; exact ((h.2.2.2 i hi hie).2 k hk).2.1, by rw [pk_un (by omega)]; exact ((h.2.2.2 i hi hie).2 k hk).2.2⟩⟩⟩

theorem re_yr1 {v : Mem} {f : Nat → Int32} {e n : Nat} (h : RE v f e) (hn : n < 40) (x : Int32) : RE (mst v 2 n x) (upd f (84 + n) x) e := by
  refine ⟨⟨by rw [pk_un (by omega)]; exact h.1.1, by rw [pk_un (by omega)]; exact h.1.2.1, by rw [pk_un (by omega)]; exact h.1.2.2.1, by rw [pk_un (by omega)]; exact h.1.2.2.2⟩, fun i hi => ⟨(by rw [pk_un (by omega)]; exact (h.2.1 i hi).1), (by rw [pk_un (by omega)]; exact (h.2.1 i hi).2.1), (by
    by_cases q : i = n
    · subst q; exact pk_us.trans (if_pos rfl).symm
    · rw [pk_un (by omega)]; exact (h.2.1 i hi).2.2.trans (if_neg q).symm)⟩, fun k hk => by rw [pk_un (by omega)]; exact h.2.2.1 k hk, fun i hi hie => ⟨⟨by rw [pk_un (by omega)]; exact (h.2.2.2 i hi hie).1.1, by rw [pk_un (by omega)]; exact (h.2.2.2 i hi hie).1.2.1, by rw [pk_un (by omega)]; exact (h.2.2.2 i hi hie).1.2.2⟩, fun k hk => ⟨by rw [pk_un (by omega)]; exact ((h.2.2.2 i hi hie).2 k hk).1, by rw [pk_un (by omega)]; exact ((h.2.2.2 i hi hie).2 k hk).2.1, by rw [pk_un (by omega)]; exact ((h.2.2.2 i hi hie).2 k hk).2.2⟩⟩⟩

theorem re_cl1 {v : Mem} {f : Nat → Int32} {e n : Nat} (h : RE v f e) (hn : n < 18) (x : Int32) : RE (mst v 3 n x) (upd f (124 + n) x) e := by
  refine ⟨⟨by rw [pk_un (by omega)]; exact h.1.1, by rw [pk_un (by omega)]; exact h.1.2.1, by rw [pk_un (by omega)]; exact h.1.2.2.1, by rw [pk_un (by omega)]; exact h.1.2.2.2⟩, fun i hi => ⟨(by rw [pk_un (by omega)]; exact (h.2.1 i hi).1), (by rw [pk_un (by omega)]; exact (h.2.1 i hi).2.1), (by rw [pk_un (by omega)]; exact (h.2.1 i hi).2.2)⟩, fun k hk => by
    by_cases q : k = n
    · subst q; exact pk_us.trans (if_pos rfl).symm
    · rw [pk_un (by omega)]; exact (h.2.2.1 k hk).trans (if_neg q).symm, fun i hi hie => ⟨⟨by rw [pk_un (by omega)]; exact (h.2.2.2 i hi hie).1.1, by rw [pk_un (by omega)]; exact (h.2.2.2 i hi hie).1.2.1, by rw [pk_un (by omega)]; exact (h.2.2.2 i hi hie).1.2.2⟩, fun k hk => ⟨by rw [pk_un (by omega)]; exact ((h.2.2.2 i hi hie).2 k hk).1, by rw [pk_un (by omega)]; exact ((h.2.2.2 i hi hie).2 k hk).2.1, by rw [pk_un (by omega)]; exact ((h.2.2.2 i hi hie).2 k hk).2.2⟩⟩⟩

theorem re_g1 {v : Mem} {f : Nat → Int32} {e : Nat} (h : RE v f e) (x : Int32) : RE (mst v 12 1 x) (upd f (1) x) e := by
  refine ⟨⟨by rw [pk_un (by omega)]; exact h.1.1, by rw [pk_un (by omega)]; exact h.1.2.1, pk_us.trans rfl, by rw [pk_un (by omega)]; exact h.1.2.2.2⟩, fun i hi => ⟨(by rw [pk_un (by omega)]; exact (h.2.1 i hi).1), (by rw [pk_un (by omega)]; exact (h.2.1 i hi).2.1), (by rw [pk_un (by omega)]; exact (h.2.1 i hi).2.2)⟩, fun k hk => by rw [pk_un (by omega)]; exact h.2.2.1 k hk, fun i hi hie => ⟨⟨by rw [pk_un (by omega)]; exact (h.2.2.2 i hi hie).1.1, by rw [pk_un (by omega)]; exact (h.2.2.2 i hi hie).1.2.1, by rw [pk_un (by omega)]; exact (h.2.2.2 i hi hie).1.2.2⟩, fun k hk => ⟨by rw [pk_un (by omega)]; exact ((h.2.2.2 i hi hie).2 k hk).1, by rw [pk_un (by omega)]; exact ((h.2.2.2 i hi hie).2 k hk).2.1, by rw [pk_un (by omega)]; exact ((h.2.2.2 i hi hie).2 k hk).2.2⟩⟩⟩

theorem re_l1 {v : Mem} {f : Nat → Int32} {e : Nat} (h : RE v f e) (x : Int32) : RE (mst v 12 2 x) (upd f (2) x) e := by
  refine ⟨⟨by rw [pk_un (by omega)]; exact h.1.1, by rw [pk_un (by omega)]; exact h.1.2.1, by rw [pk_un (by omega)]; exact h.1.2.2.1, pk_us.trans rfl⟩, fun i hi => ⟨(by rw [pk_un (by omega)]; exact (h.2.1 i hi).1), (by rw [pk_un (by omega)]; exact (h.2.1 i hi).2.1), (by rw [pk_un (by omega)]; exact (h.2.1 i hi).2.2)⟩, fun k hk => by rw [pk_un (by omega)]; exact h.2.2.1 k hk, fun i hi hie => ⟨⟨by rw [pk_un (by omega)]; exact (h.2.2.2 i hi hie).1.1, by rw [pk_un (by omega)]; exact (h.2.2.2 i hi hie).1.2.1, by rw [pk_un (by omega)]; exact (h.2.2.2 i hi hie).1.2.2⟩, fun k hk => ⟨by rw [pk_un (by omega)]; exact ((h.2.2.2 i hi hie).2 k hk).1, by rw [pk_un (by omega)]; exact ((h.2.2.2 i hi hie).2 k hk).2.1, by rw [pk_un (by omega)]; exact ((h.2.2.2 i hi hie).2 k hk).2.2⟩⟩⟩
theorem RE_cong {v : Mem} {f f' : Nat → Int32} {e : Nat} (h : RE v f e) (hf : ∀ x, x < 511 → f' x = f x) : RE v f' e := by
  refine ⟨⟨by rw [hf _ (by omega)]; exact h.1.1, by rw [hf _ (by omega)]; exact h.1.2.1, by rw [hf _ (by omega)]; exact h.1.2.2.1, by rw [hf _ (by omega)]; exact h.1.2.2.2⟩, fun i hi => ⟨by rw [hf _ (by omega)]; exact (h.2.1 i hi).1, by rw [hf _ (by omega)]; exact (h.2.1 i hi).2.1, by rw [hf _ (by omega)]; exact (h.2.1 i hi).2.2⟩, fun k hk => by rw [hf _ (by omega)]; exact h.2.2.1 k hk, fun i hi hie => ⟨⟨by rw [hf _ (by omega)]; exact (h.2.2.2 i hi hie).1.1, by rw [hf _ (by omega)]; exact (h.2.2.2 i hi hie).1.2.1, by rw [hf _ (by omega)]; exact (h.2.2.2 i hi hie).1.2.2⟩, fun k hk => ⟨by rw [hf _ (by omega)]; exact ((h.2.2.2 i hi hie).2 k hk).1, by rw [hf _ (by omega)]; exact ((h.2.2.2 i hi hie).2 k hk).2.1, by rw [hf _ (by omega)]; exact ((h.2.2.2 i hi hie).2 k hk).2.2⟩⟩⟩
def RR (v : Mem) (f : Nat → Int32) (e B : Nat) : Prop := okV v e B ∧ okC v ∧ RE v f e
theorem RR_mono {v : Mem} {f : Nat → Int32} {e B B' : Nat} (h : RR v f e B) (hB : B ≤ B') : RR v f e B' := ⟨okV_mono h.1 hB, h.2⟩
theorem mst_at (v : Mem) (k i : Nat) (x : Int32) : mst v k i x k i = x := by unfold mst upd; rw [if_pos rfl, if_pos rfl]
theorem mst_ne {v : Mem} {k i j : Nat} {x : Int32} (h : j ≠ i) : mst v k i x k j = v k j := by unfold mst upd; rw [if_pos rfl, if_neg h]
theorem mst_no {v : Mem} {k k' i : Nat} {x : Int32} (h : k' ≠ k) : mst v k i x k' = v k' := if_neg h
theorem nI_le999 {u : Nat} (hu : u ≤ 999) : nI 999 ≤ nI u ↔ 999 ≤ u := nI_leI (by omega) (by omega)
theorem us_room {v : Mem} {e B n : Nat} (h : okV v e B) (hn : n < 40) : ¬ nI 999 ≤ v 1 n ↔ usK v n < 999 := by
  obtain ⟨a, b, -⟩ := h.2.2.2.1 n hn
  rw [a, nI_le999 b]; omega
/-- one user more -/
theorem okV_use {v : Mem} {e B n : Nat} (h : okV v e B) (hn : n < 40) (h0 : ¬ v 0 n = 0) (hr : usK v n < 999) : okV (mst v 1 n (v 1 n + nI 1)) e B ∧ (∀ i, i < 40 → usK (mst v 1 n (v 1 n + nI 1)) i = if i = n then usK v n + 1 else usK v i) := by
  obtain ⟨a, b, c⟩ := h.2.2.2.1 n hn
  have e1 : v 1 n + nI 1 = nI (usK v n + 1) := by rw [a, nI_add]
  have key : ∀ i, i < 40 → usK (mst v 1 n (v 1 n + nI 1)) i = if i = n then usK v n + 1 else usK v i := by
    intro i hi
    unfold usK
    by_cases q : i = n
    · subst q
      rw [if_pos rfl, mst_at, e1, nI_clamp (by omega)]; rfl
    · rw [if_neg q, mst_ne q]
  refine ⟨⟨h.1, h.2.1, h.2.2.1, fun i hi => ?_, h.2.2.2.2.1, h.2.2.2.2.2.1, h.2.2.2.2.2.2⟩, key⟩
  rw [key i hi]
  by_cases q : i = n
  · subst q
    rw [if_pos rfl]
    refine ⟨by rw [mst_at, e1], by omega, ?_⟩
    show v 0 i = 0 ↔ _
    exact ⟨fun z => absurd z h0, fun z => by omega⟩
  · rw [if_neg q]
    refine ⟨by rw [mst_ne q]; exact (h.2.2.2.1 i hi).1, (h.2.2.2.1 i hi).2.1, (h.2.2.2.1 i hi).2.2⟩
theorem op_use {v : Mem} {f : Nat → Int32} {e B n : Nat} (h : RR v f e B) (hn : n < 40) (h0 : ¬ v 0 n = 0) (hr : usK v n < 999) : RR (mst v 1 n (v 1 n + nI 1)) (mEntO f n) e B := by
  obtain ⟨k1, k2⟩ := okV_use h.1 hn h0 hr
  refine ⟨k1, fun i hi => ?_, ?_⟩
  · rw [k2 i hi]
    have := h.2.1 i hi
    show zCells (v 3) (nI i) ≤ _
    split
    · next q => subst q; omega
    · exact this
  · have := re_us1 h.2.2 hn (v 1 n + nI 1)
    unfold mEntO
    rw [(h.2.2.2.1 n hn).2.1]
    exact this
theorem zNum_m1 {g : Nat → Int32} {x : Int32} (h : zNum g x = -1) : ∀ i, i < 40 → ¬ g i = x := by
  intro i hi
  have h1 : ¬ zfn g x < 40 := fun q => by rw [zNum_lt q] at h; exact nI_nm1 (by omega) h
  exact zfn_no (f := g) (by omega)
theorem zNum_n {g : Nat → Int32} {x : Int32} {n : Nat} (h : zNum g x = nI n) (hn : n < 2 ^ 31) : n < 40 ∧ g n = x := by
  rcases Nat.lt_or_ge (zfn g x) 40 with q | q
  · rw [zNum_lt q] at h
    have := nI_inj (by omega) hn h
    subst this
    exact ⟨q, zfn_is q⟩
  · rw [zNum_ge (by omega)] at h
    exact absurd h.symm (nI_nm1 hn)
theorem zNum_or (g : Nat → Int32) (x : Int32) : zNum g x = -1 ∨ ∃ n, n < 40 ∧ zNum g x = nI n ∧ g n = x := by
  rcases Nat.lt_or_ge (zfn g x) 40 with q | q
  · exact Or.inr ⟨_, q, zNum_lt q, zfn_is q⟩
  · exact Or.inl (zNum_ge (by omega))
theorem zName_0 : zName (nI 0) = false := zName_lo (by decide)
theorem op_new {v : Mem} {f : Nat → Int32} {e B n : Nat} {x : Int32} (h : RR v f e B) (hx : zName x = true) (h1 : zNum (v 0) x = -1) (hn : n < 40) (h2 : v 0 n = nI 0) : RR (mst (mst (mst v 0 n x) 12 1 (v 12 1 + nI 1)) 1 n (v 1 n + nI 1)) (mEntN f n x) e B := by
  obtain ⟨hv, hc, hre⟩ := h
  have hx0 : ¬ x = 0 := fun q => by subst q; rw [show (0 : Int32) = nI 0 from rfl, zName_0] at hx; cases hx
  obtain ⟨a, b, c⟩ := hv.2.2.2.1 n hn
  have u0 : usK v n = 0 := c.mp h2
  have e1 : v 1 n = nI 0 := by rw [a, u0]
  have hno := zNum_m1 h1
  have key : ∀ i, i < 40 → usK (mst (mst (mst v 0 n x) 12 1 (v 12 1 + nI 1)) 1 n (v 1 n + nI 1)) i = if i = n then 1 else usK v i := by
    intro i hi
    unfold usK
    by_cases q : i = n
    · subst q
      rw [if_pos rfl, mst_at, e1, nI_add, nI_clamp (by omega)]
    · rw [if_neg q, mst_ne q]; rfl
  have nm : ∀ i, i < 40 → (mst (mst (mst v 0 n x) 12 1 (v 12 1 + nI 1)) 1 n (v 1 n + nI 1)) 0 i = if i = n then x else v 0 i := fun i hi => rfl
  refine ⟨⟨hv.1, fun i hi => ?_, fun i j hi hj hi0 hij => ?_, fun i hi => ?_, hv.2.2.2.2.1, hv.2.2.2.2.2.1, hv.2.2.2.2.2.2⟩, fun i hi => ?_, ?_⟩
  · rw [nm i hi]
    split
    · exact Or.inr hx
    · exact hv.2.1 i hi
  · rw [nm i hi] at hi0 hij
    rw [nm j hj] at hij
    by_cases q : i = n
    · by_cases r : j = n
      · omega
      · rw [if_pos q, if_neg r] at hij
        exact absurd hij.symm (hno j hj)
    · by_cases r : j = n
      · rw [if_neg q, if_pos r] at hij
        exact absurd hij (hno i hi)
      · rw [if_neg q] at hi0
        rw [if_neg q, if_neg r] at hij
        exact hv.2.2.1 i j hi hj hi0 hij
  · rw [key i hi, nm i hi]
    by_cases q : i = n
    · subst q
      rw [if_pos rfl, if_pos rfl]
      exact ⟨by rw [mst_at, e1, nI_add], by omega, ⟨fun z => absurd z hx0, fun z => by omega⟩⟩
    · rw [if_neg q, if_neg q]
      exact ⟨by rw [mst_ne q]; exact (hv.2.2.2.1 i hi).1, (hv.2.2.2.1 i hi).2.1, (hv.2.2.2.1 i hi).2.2⟩
  · rw [key i hi]
    have h9 := hc i hi
    show zCells (v 3) (nI i) ≤ _
    split
    · next q => subst q; omega
    · exact h9
  · have r1 := re_us1 (re_g1 (re_us1 (re_nm1 hre hn x) hn (nI 0)) (v 12 1 + nI 1)) hn (nI 0 + nI 1)
    unfold mEntN
    rw [hre.1.2.2.1]
    have e2 : mst (mst (mst (mst v 0 n x) 1 n (nI 0)) 12 1 (v 12 1 + nI 1)) 1 n (nI 0 + nI 1) = mst (mst (mst v 0 n x) 12 1 (v 12 1 + nI 1)) 1 n (v 1 n + nI 1) := by
      rw [e1]
      funext k j
      unfold mst upd
      by_cases k1 : k = 1
      · subst k1
        by_cases j1 : j = n <;> simp [j1]
      · by_cases k12 : k = 12 <;> by_cases k0 : k = 0 <;> simp [k1, k12, k0]
    rw [← e2]
    exact r1
/-- one user less -/
theorem okV_give {v : Mem} {e B n : Nat} (h : okV v e B) (hn : n < 40) (hu : 0 < usK v n) : okV (zGive v n) e (B + 1) ∧ (∀ i, i < 40 → usK (zGive v n) i = if i = n then usK v n - 1 else usK v i) ∧ (∀ k, zGive v n 3 k = v 3 k) ∧ (∀ i, zGive v n 0 i = if i = n ∧ usK v n = 1 then nI 0 else v 0 i) := by
  obtain ⟨a, b, c⟩ := h.2.2.2.1 n hn
  have e1 : v 1 n - nI 1 = nI (usK v n - 1) := by rw [a, pk_sub (by omega)]
  have hz : (v 1 n - nI 1 = 0) ↔ usK v n = 1 := by
    rw [e1]
    constructor
    · intro q
      have : usK v n - 1 = 0 := nI_inj (by omega) (by omega) q
      omega
    · intro q; rw [q]; rfl
  have z1 : ∀ i, zGive v n 1 i = if i = n then v 1 n - nI 1 else v 1 i := by
    intro i; unfold zGive; split <;> rfl
  have z3 : ∀ k, zGive v n 3 k = v 3 k := by intro i; unfold zGive; split <;> rfl
  have z0 : ∀ i, zGive v n 0 i = if i = n ∧ usK v n = 1 then nI 0 else v 0 i := by
    intro i
    unfold zGive
    by_cases q : v 1 n - nI 1 = 0
    · rw [if_pos q]
      show (if i = n then nI 0 else v 0 i) = _
      by_cases r : i = n
      · rw [if_pos r, if_pos ⟨r, hz.mp q⟩]
      · rw [if_neg r, if_neg (fun z => r z.1)]
    · rw [if_neg q, if_neg (fun z => q (hz.mpr z.2))]; rfl
  have key : ∀ i, i < 40 → usK (zGive v n) i = if i = n then usK v n - 1 else usK v i := by
    intro i hi
    show (zGive v n 1 i).toNatClampNeg = _
    rw [z1 i]
    by_cases q : i = n
    · rw [if_pos q, if_pos q, e1, nI_clamp (by omega)]
    · rw [if_neg q, if_neg q]; rfl
  refine ⟨⟨?_, fun i hi => ?_, fun i j hi hj hi0 hij => ?_, fun i hi => ?_, fun k hk => ?_, fun i hi => ?_, fun i hi hie k hk => ?_⟩, key, z3, z0⟩
  · have : zGive v n 12 0 = v 12 0 := by unfold zGive; split <;> rfl
    rw [this]; exact h.1
  · rw [z0 i]
    split
    · exact Or.inl rfl
    · exact h.2.1 i hi
  · rw [z0 i] at hi0 hij
    rw [z0 j] at hij
    by_cases q : i = n ∧ usK v n = 1
    · rw [if_pos q] at hi0; exact absurd rfl hi0
    · rw [if_neg q] at hi0 hij
      by_cases r : j = n ∧ usK v n = 1
      · rw [if_pos r] at hij; exact absurd hij hi0
      · rw [if_neg r] at hij; exact h.2.2.1 i j hi hj hi0 hij
  · rw [key i hi, z0 i, z1 i]
    obtain ⟨a2, b2, c2⟩ := h.2.2.2.1 i hi
    by_cases q : i = n
    · subst q
      rw [if_pos rfl, if_pos rfl]
      refine ⟨e1, by omega, ?_⟩
      by_cases r : usK v i = 1
      · rw [if_pos ⟨rfl, r⟩]
        exact ⟨fun _ => by omega, fun _ => rfl⟩
      · rw [if_neg (fun z => r z.2)]
        exact ⟨fun z => by have := c2.mp z; omega, fun z => by omega⟩
    · rw [if_neg q, if_neg q, if_neg (fun z => q z.1)]
      exact ⟨a2, b2, c2⟩
  · rw [z3 k]; exact h.2.2.2.2.1 k hk
  · obtain ⟨z, hz1, hz2⟩ := h.2.2.2.2.2.1 i hi
    have z2 : zGive v n 2 i = if i = n ∧ usK v n = 1 then v 2 n + nI 1 else v 2 i := by
      unfold zGive
      by_cases q : v 1 n - nI 1 = 0
      · rw [if_pos q]
        show (if i = n then v 2 n + nI 1 else v 2 i) = _
        by_cases r : i = n
        · rw [if_pos r, if_pos ⟨r, hz.mp q⟩]
        · rw [if_neg r, if_neg (fun z => r z.1)]
      · rw [if_neg q, if_neg (fun z => q (hz.mpr z.2))]; rfl
    rw [z2]
    split
    · next q =>
      refine ⟨z + 1, by omega, ?_⟩
      rw [← q.1, hz2, nI_add]
    · exact ⟨z, by omega, hz2⟩
  · have w8 : ∀ x, zGive v n 8 x = v 8 x := by intro i; unfold zGive; split <;> rfl
    have w7 : ∀ x, zGive v n 7 x = v 7 x := by intro i; unfold zGive; split <;> rfl
    have w9 : ∀ x, zGive v n 9 x = v 9 x := by intro i; unfold zGive; split <;> rfl
    rw [w8]
    rcases h.2.2.2.2.2.2 i hi hie k hk with q | ⟨q, q1, q2, ⟨z, a3, b3⟩, z4, a4, b4⟩
    · exact Or.inl q
    · exact Or.inr ⟨q, q1, q2, ⟨z, by omega, by rw [w7]; exact b3⟩, z4, by omega, by rw [w9]; exact b4⟩
theorem re_give {v : Mem} {f : Nat → Int32} {e n : Nat} (h : RE v f e) (hn : n < 40) : RE (zGive v n) (mGive f n) e := by
  unfold zGive mGive
  rw [(h.2.1 n hn).2.1]
  by_cases q : v 1 n - nI 1 = 0
  · rw [if_pos q, if_pos q, (h.2.1 n hn).2.2, h.1.2.2.2]
    exact re_l1 (re_yr1 (re_nm1 (re_us1 h hn _) hn _) hn _) _
  · rw [if_neg q, if_neg q]
    exact re_us1 h hn _
theorem op_give {v : Mem} {f : Nat → Int32} {e B n : Nat} (h : RR v f e B) (hn : n < 40) (hu : zCells (v 3) (nI n) < usK v n) : RR (zGive v n) (mGive f n) e (B + 1) := by
  obtain ⟨k1, k2, k3, -⟩ := okV_give h.1 hn (by omega)
  refine ⟨k1, fun i hi => ?_, re_give h.2.2 hn⟩
  rw [k2 i hi, zCells_cong (fun k _ => k3 k)]
  have := h.2.1 i hi
  split
  · next q => subst q; omega
  · exact this
/-- cells -/
theorem zCells_upd (c : Nat → Int32) {i : Nat} (x z : Int32) (hi : i < 18) : zCells (upd c i x) z + (if c i = z then 1 else 0) = zCells c z + (if x = z then 1 else 0) := by
  have h := fb_ct_upd (fun k => decide (c k = z)) (decide (x = z)) hi
  have e1 : zCells (upd c i x) z = fb_ct (fun k => if k = i then decide (x = z) else decide (c k = z)) 18 := by
    refine fb_ct_cong (fun k _ => ?_)
    show decide (upd c i x k = z) = _
    by_cases q : k = i
    · subst q; rw [if_pos rfl, pk_us]
    · rw [if_neg q, pk_un q]
  rw [e1]
  simp only [decide_eq_true_eq] at h
  exact h
theorem okV_cell {v : Mem} {e B i : Nat} {x : Int32} (h : okV v e B) (hx : x = -1 ∨ ∃ o, o < 40 ∧ x = nI o) : okV (mst v 3 i x) e B := by
  refine ⟨h.1, h.2.1, h.2.2.1, h.2.2.2.1, fun k hk => ?_, h.2.2.2.2.2.1, h.2.2.2.2.2.2⟩
  by_cases q : k = i
  · subst q; rw [mst_at]; exact hx
  · rw [mst_ne q]; exact h.2.2.2.2.1 k hk
theorem op_fillE {v : Mem} {f : Nat → Int32} {e B i n : Nat} (h : RR v f e B) (hi : i < 18) (hn : n < 40) (h0 : ¬ v 0 n = 0) (hr : usK v n < 999) (he : v 3 i = -1) : RR (mst (mst v 1 n (v 1 n + nI 1)) 3 i (nI n)) (mPut1 f i n) e B := by
  obtain ⟨k1, k2⟩ := okV_use h.1 hn h0 hr
  refine ⟨okV_cell k1 (Or.inr ⟨n, hn, rfl⟩), fun j hj => ?_, ?_⟩
  · show zCells (upd (v 3) i (nI n)) (nI j) ≤ usK (mst v 1 n (v 1 n + nI 1)) j
    rw [k2 j hj]
    have h1 := zCells_upd (v 3) (nI n) (nI j) hi
    rw [he, if_neg (fun q => nI_nm1 (by omega) q.symm)] at h1
    have h2 := h.2.1 j hj
    by_cases q : j = n
    · subst q; rw [if_pos rfl] at h1 ⊢; omega
    · rw [if_neg q]
      rw [if_neg (fun z => q (nI_inj (by omega) (by omega) z.symm))] at h1
      omega
  · have r := re_cl1 (re_us1 h.2.2 hn (v 1 n + nI 1)) hi (nI n)
    unfold mPut1
    rw [(h.2.2.2.1 n hn).2.1]
    exact r
theorem mGive_cell {f : Nat → Int32} {i o : Nat} {x : Int32} (ho : o < 40) : ∀ k, mGive (upd f (124 + i) x) o k = upd (mGive f o) (124 + i) x k := by
  intro k
  unfold mGive
  rw [pk_un (show 44 + o ≠ 124 + i by omega), pk_un (show 84 + o ≠ 124 + i by omega), pk_un (show 2 ≠ 124 + i by omega)]
  split
  · unfold upd
    by_cases q : k = 124 + i
    · subst q
      rw [if_neg (by omega), if_neg (by omega), if_neg (by omega), if_neg (by omega), if_pos rfl]
      rw [if_pos rfl]
    · simp [q]
  · unfold upd
    by_cases q : k = 124 + i
    · subst q
      rw [if_neg (by omega), if_pos rfl]
      rw [if_pos rfl]
    · simp [q]
theorem op_fillO {v : Mem} {f : Nat → Int32} {e B i n o : Nat} (h : RR v f e B) (hi : i < 18) (hn : n < 40) (ho : o < 40) (h0 : ¬ v 0 n = 0) (hr : usK v n < 999) (he : v 3 i = nI o) :
    RR (mst (zGive (mst v 1 n (v 1 n + nI 1)) o) 3 i (nI n)) (mGive (mPut1 f i n) o) e (B + 1) ∧ 0 < (mst v 1 n (v 1 n + nI 1)) 1 o ∧ zGive (mst v 1 n (v 1 n + nI 1)) o 1 n = mGive (mPut1 f i n) o (44 + n) := by
  obtain ⟨k1, k2⟩ := okV_use h.1 hn h0 hr
  have hc1 : ∀ j, j < 40 → zCells (v 3) (nI j) ≤ usK v j := h.2.1
  have ho1 : 0 < zCells (v 3) (nI o) := fb_ct_pos.mpr ⟨i, hi, decide_eq_true he⟩
  have uo : 0 < usK (mst v 1 n (v 1 n + nI 1)) o := by
    rw [k2 o ho]
    have := hc1 o ho
    split <;> omega
  obtain ⟨g1, g2, g3, -⟩ := okV_give k1 ho uo
  have r : RE (mst (zGive (mst v 1 n (v 1 n + nI 1)) o) 3 i (nI n)) (mGive (mPut1 f i n) o) e := by
    have r1 := re_cl1 (re_give (re_us1 h.2.2 hn (v 1 n + nI 1)) ho) hi (nI n)
    refine RE_cong r1 (fun k _ => ?_)
    unfold mPut1
    rw [(h.2.2.2.1 n hn).2.1]
    exact mGive_cell ho k
  refine ⟨⟨okV_cell g1 (Or.inr ⟨n, hn, rfl⟩), fun j hj => ?_, r⟩, ?_, (r.2.1 n hn).2.1.symm⟩
  · show zCells (upd (zGive (mst v 1 n (v 1 n + nI 1)) o 3) i (nI n)) (nI j) ≤ usK (zGive (mst v 1 n (v 1 n + nI 1)) o) j
    rw [g2 j hj, k2 j hj, k2 o ho]
    have h1 := zCells_upd (zGive (mst v 1 n (v 1 n + nI 1)) o 3) (nI n) (nI j) hi
    rw [zCells_cong (f := zGive (mst v 1 n (v 1 n + nI 1)) o 3) (g := v 3) (fun k _ => g3 k)] at h1
    have e3 : zGive (mst v 1 n (v 1 n + nI 1)) o 3 i = nI o := (g3 i).trans he
    rw [e3] at h1
    have h2 := hc1 j hj
    have sw : ∀ a b : Nat, a < 40 → b < 40 → (nI a = nI b ↔ b = a) := fun a b ha hb => ⟨fun z => (nI_inj (by omega) (by omega) z).symm, fun z => by rw [z]⟩
    simp only [sw o j ho hj, sw n j hn hj] at h1
    by_cases q : j = n <;> by_cases t : j = o
    · rw [if_pos t, if_pos q] at h1
      rw [if_pos t, if_pos (t.symm.trans q)]
      have : usK v n = usK v j := by rw [q]
      omega
    · rw [if_neg t, if_pos q] at h1
      rw [if_neg t, if_pos q]
      have : usK v n = usK v j := by rw [q]
      omega
    · rw [if_pos t, if_neg q] at h1
      rw [if_pos t, if_neg (fun z => q (t.trans z))]
      have : usK v o = usK v j := by rw [t]
      omega
    · rw [if_neg t, if_neg q] at h1
      rw [if_neg t, if_neg q]
      omega
  · have a := (k1.2.2.2.1 o ho).1
    have b := (k1.2.2.2.1 o ho).2.1
    rw [a]
    exact nI_lt (a := 0) (by omega) (by omega)
theorem op_clear {v : Mem} {f : Nat → Int32} {e B i o : Nat} (h : RR v f e B) (hi : i < 18) (ho : o < 40) (he : v 3 i = nI o) : RR (zGive (mst v 3 i (-1)) o) (mGive (upd f (124 + i) (-1)) o) e (B + 1) ∧ 0 < v 1 o := by
  have ho1 : 0 < zCells (v 3) (nI o) := fb_ct_pos.mpr ⟨i, hi, decide_eq_true he⟩
  have uo : 0 < usK v o := by have := h.2.1 o ho; omega
  have k1 : okV (mst v 3 i (-1)) e B := okV_cell h.1 (Or.inl rfl)
  obtain ⟨g1, g2, g3, -⟩ := okV_give k1 ho uo
  refine ⟨⟨g1, fun j hj => ?_, re_give (re_cl1 h.2.2 hi (-1)) ho⟩, ?_⟩
  · rw [g2 j hj, zCells_cong (fun k _ => g3 k)]
    show zCells (upd (v 3) i (-1)) (nI j) ≤ if j = o then usK v o - 1 else usK v j
    have h1 := zCells_upd (v 3) (-1) (nI j) hi
    rw [he, if_neg (fun q : (-1 : Int32) = nI j => nI_nm1 (by omega) q.symm)] at h1
    have h2 := h.2.1 j hj
    by_cases t : j = o
    · subst t
      rw [if_pos (rfl : nI j = nI j)] at h1
      rw [if_pos rfl]; omega
    · rw [if_neg (fun z => t (nI_inj (by omega) (by omega) z.symm))] at h1
      rw [if_neg t]; omega
  · have a := (h.1.2.2.2.1 o ho).1
    have b := (h.1.2.2.2.1 o ho).2.1
    rw [a]
    exact nI_lt (a := 0) (by omega) (by omega)
