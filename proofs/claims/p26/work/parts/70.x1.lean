/-! what else holds of a roll: what it has gained and lost, what is kept of compactions -/
def okG (v : Mem) (B : Nat) : Prop := ∃ g l : Nat, v 12 1 = nI g ∧ v 12 2 = nI l ∧ g = l + fb_ct (pNm v) 40 ∧ g ≤ B
def kpN (v : Mem) (d : Nat) : Nat := fb_ct (fun n => decide (¬ v 8 (d * 40 + n) = -1)) 40
def okK1 (v : Mem) (d : Nat) : Prop :=
  (∀ a b, a < 40 → b < 40 → ¬ v 8 (d * 40 + a) = -1 → v 8 (d * 40 + a) = v 8 (d * 40 + b) → a = b) ∧ v 5 d = nI (kpN v d) ∧ ∃ k, k ≤ kpN v d ∧ v 6 d = nI k
def okK (v : Mem) (e : Nat) : Prop := ∀ i, i < 3 → i < e → okK1 v ((e - 1 - i) % 3)
def okX (v : Mem) (e B : Nat) : Prop := okV v e B ∧ okC v ∧ okG v B ∧ okK v e
theorem okG_mono {v : Mem} {B B' : Nat} (h : okG v B) (hB : B ≤ B') : okG v B' := by
  obtain ⟨g, l, a, b, c, d⟩ := h
  exact ⟨g, l, a, b, c, by omega⟩
theorem okG_of {v w : Mem} {B : Nat} (h : okG v B) (h0 : ∀ i, i < 40 → w 0 i = v 0 i) (h1 : w 12 1 = v 12 1) (h2 : w 12 2 = v 12 2) : okG w B := by
  obtain ⟨g, l, a, b, c, d⟩ := h
  refine ⟨g, l, h1.trans a, h2.trans b, ?_, d⟩
  rw [c]
  congr 1
  exact fb_ct_cong (fun k hk => by show decide (¬ v 0 k = 0) = decide (¬ w 0 k = 0); rw [h0 k hk])
theorem okK1_of {v w : Mem} {d : Nat} (h : okK1 v d) (h5 : w 5 d = v 5 d) (h6 : w 6 d = v 6 d) (h8 : ∀ n, n < 40 → w 8 (d * 40 + n) = v 8 (d * 40 + n)) : okK1 w d := by
  obtain ⟨a, b, k, c, f⟩ := h
  have hk : kpN w d = kpN v d := fb_ct_cong (fun n hn => by rw [h8 n hn])
  refine ⟨fun x y hx hy hx0 hxy => ?_, ?_, k, ?_, ?_⟩
  · rw [h8 x hx] at hx0 hxy
    rw [h8 y hy] at hxy
    exact a x y hx hy hx0 hxy
  · rw [h5, hk]; exact b
  · rw [hk]; exact c
  · rw [h6]; exact f
theorem okK_of {v w : Mem} {e : Nat} (h : okK v e) (h5 : ∀ i, i < 3 → w 5 i = v 5 i) (h6 : ∀ i, i < 3 → w 6 i = v 6 i) (h8 : ∀ i, i < 120 → w 8 i = v 8 i) : okK w e := by
  intro i hi hie
  have hd : (e - 1 - i) % 3 < 3 := Nat.mod_lt _ (by decide)
  exact okK1_of (h i hi hie) (h5 _ hd) (h6 _ hd) (fun n hn => h8 _ (by omega))
theorem okX_mono {v : Mem} {e B B' : Nat} (h : okX v e B) (hB : B ≤ B') : okX v e B' := ⟨okV_mono h.1 hB, h.2.1, okG_mono h.2.2.1 hB, h.2.2.2⟩
theorem okX_same {v w : Mem} {e B : Nat} (h : same v w) (hw : okX w e B) : okX v e B := by
  have hR := RR_same h (rr_ex hw.1 hw.2.1)
  exact ⟨hR.1, hR.2.1, okG_of hw.2.2.1 (fun i hi => (h.1 i hi).1) (h.2.2.1 1 (by omega)).2.2.2 (h.2.2.1 2 (by omega)).2.2.2, okK_of hw.2.2.2 (fun i hi => (h.2.2.1 i hi).2.1) (fun i hi => (h.2.2.1 i hi).2.2.1) (fun i hi => (h.2.2.2 i hi).2.1)⟩
theorem ox_use {v : Mem} {e B n : Nat} (h : okX v e B) (hn : n < 40) (h0 : ¬ v 0 n = 0) (hr : usK v n < 999) : okX (mst v 1 n (v 1 n + nI 1)) e B := by
  have hR := op_use (rr_ex h.1 h.2.1) hn h0 hr
  exact ⟨hR.1, hR.2.1, okG_of h.2.2.1 (fun _ _ => rfl) rfl rfl, okK_of h.2.2.2 (fun _ _ => rfl) (fun _ _ => rfl) (fun _ _ => rfl)⟩
theorem ox_new {v : Mem} {e B n : Nat} {x : Int32} (h : okX v e B) (hx : zName x = true) (h1 : zNum (v 0) x = -1) (hn : n < 40) (h2 : v 0 n = nI 0) : okX (mst (mst (mst v 0 n x) 12 1 (v 12 1 + nI 1)) 1 n (v 1 n + nI 1)) e (B + 1) := by
  have hR := op_new (rr_ex h.1 h.2.1) hx h1 hn h2
  refine ⟨okV_mono hR.1 (by omega), hR.2.1, ?_, okK_of h.2.2.2 (fun _ _ => rfl) (fun _ _ => rfl) (fun _ _ => rfl)⟩
  obtain ⟨g, l, a, b, c, d⟩ := h.2.2.1
  refine ⟨g + 1, l, ?_, b, ?_, by omega⟩
  · show v 12 1 + nI 1 = _
    rw [a, nI_add]
  · have hx0 := name_ne hx
    have e1 : fb_ct (pNm (mst (mst (mst v 0 n x) 12 1 (v 12 1 + nI 1)) 1 n (v 1 n + nI 1))) 40 = fb_ct (fun k => if k = n then true else pNm v k) 40 := by
      refine fb_ct_cong (fun k hk => ?_)
      show decide (¬ (if k = n then x else v 0 k) = 0) = if k = n then true else decide (¬ v 0 k = 0)
      by_cases q : k = n
      · rw [if_pos q, if_pos q]; exact decide_eq_true hx0
      · rw [if_neg q, if_neg q]
    have e2 := fb_ct_upd (pNm v) true hn
    have e3 : pNm v n = false := decide_eq_false (fun z => z h2)
    rw [e3, if_neg (by decide), if_pos rfl] at e2
    rw [e1, c]
    omega
theorem okG_give {v : Mem} {e B n : Nat} (hv : okV v e B) (h : okG v B) (hn : n < 40) (h0 : ¬ v 0 n = 0) : okG (zGive v n) (B + 1) := by
  obtain ⟨a1, b1, c1⟩ := hv.2.2.2.1 n hn
  have hu : 0 < usK v n := Nat.pos_of_ne_zero (fun z => h0 (c1.mpr z))
  obtain ⟨k1, k2, k3, k4⟩ := okV_give hv hn hu
  obtain ⟨g, l, a, b, c, d⟩ := h
  have e1 : v 1 n - nI 1 = nI (usK v n - 1) := by rw [a1, pk_sub (by omega)]
  by_cases q : usK v n = 1
  · have hz : v 1 n - nI 1 = 0 := by rw [e1, q]; rfl
    refine ⟨g, l + 1, ?_, ?_, ?_, by omega⟩
    · rw [zGive, if_pos hz]; exact a
    · rw [zGive, if_pos hz]
      show v 12 2 + nI 1 = _
      rw [b, nI_add]
    · have e2 : fb_ct (pNm (zGive v n)) 40 = fb_ct (fun k => if k = n then false else pNm v k) 40 := by
        refine fb_ct_cong (fun k hk => ?_)
        show decide (¬ zGive v n 0 k = 0) = if k = n then false else decide (¬ v 0 k = 0)
        rw [k4 k]
        by_cases z : k = n
        · rw [if_pos ⟨z, q⟩, if_pos z]; rfl
        · rw [if_neg (fun y => z y.1), if_neg z]
      have e3 := fb_ct_upd (pNm v) false hn
      have e4 : pNm v n = true := decide_eq_true h0
      rw [e4, if_pos rfl, if_neg (by decide)] at e3
      rw [e2, c]
      omega
  · have hz : ¬ v 1 n - nI 1 = 0 := fun z => by
      rw [e1] at z
      have : usK v n - 1 = 0 := nI_inj (by omega) (by omega) z
      omega
    refine okG_mono (okG_of ⟨g, l, a, b, c, d⟩ (fun i hi => ?_) ?_ ?_) (by omega)
    · rw [k4 i, if_neg (fun z => q z.2)]
    · rw [zGive, if_neg hz]; rfl
    · rw [zGive, if_neg hz]; rfl
theorem zGive_hi (v : Mem) (n : Nat) {k : Nat} (h : k = 3 ∨ k = 4 ∨ k = 5 ∨ k = 6 ∨ k = 7 ∨ k = 8 ∨ k = 9) (i : Nat) : zGive v n k i = v k i := by
  unfold zGive
  rcases h with rfl | rfl | rfl | rfl | rfl | rfl | rfl <;> split <;> rfl
theorem okK_give {v : Mem} {e : Nat} (h : okK v e) (n : Nat) : okK (zGive v n) e :=
  okK_of h (fun i _ => zGive_hi v n (by omega) i) (fun i _ => zGive_hi v n (by omega) i) (fun i _ => zGive_hi v n (by omega) i)
theorem ox_give {v : Mem} {e B n : Nat} (h : okX v e B) (hn : n < 40) (hu : zCells (v 3) (nI n) < usK v n) : okX (zGive v n) e (B + 1) := by
  have hR := op_give (rr_ex h.1 h.2.1) hn hu
  have h0 : ¬ v 0 n = 0 := fun z => by
    have := (h.1.2.2.2.1 n hn).2.2.mp z
    omega
  exact ⟨hR.1, hR.2.1, okG_give h.1 h.2.2.1 hn h0, okK_give h.2.2.2 n⟩
theorem ox_fillE {v : Mem} {e B i n : Nat} (h : okX v e B) (hi : i < 18) (hn : n < 40) (h0 : ¬ v 0 n = 0) (hr : usK v n < 999) (he : v 3 i = -1) : okX (mst (mst v 1 n (v 1 n + nI 1)) 3 i (nI n)) e B := by
  have hR := op_fillE (rr_ex h.1 h.2.1) hi hn h0 hr he
  exact ⟨hR.1, hR.2.1, okG_of h.2.2.1 (fun _ _ => rfl) rfl rfl, okK_of h.2.2.2 (fun _ _ => rfl) (fun _ _ => rfl) (fun _ _ => rfl)⟩
theorem ox_fillO {v : Mem} {e B i n o : Nat} (h : okX v e B) (hi : i < 18) (hn : n < 40) (ho : o < 40) (h0 : ¬ v 0 n = 0) (hr : usK v n < 999) (he : v 3 i = nI o) : okX (mst (zGive (mst v 1 n (v 1 n + nI 1)) o) 3 i (nI n)) e (B + 1) := by
  have hR := (op_fillO (rr_ex h.1 h.2.1) hi hn ho h0 hr he).1
  have ho0 : ¬ v 0 o = 0 := cells_named h.1 h.2.1 hi ho he
  have h1 := ox_use h hn h0 hr
  have g := okG_give h1.1 h1.2.2.1 ho (show ¬ mst v 1 n (v 1 n + nI 1) 0 o = 0 from ho0)
  exact ⟨hR.1, hR.2.1, okG_of g (fun _ _ => rfl) rfl rfl, okK_of (okK_give h1.2.2.2 o) (fun _ _ => rfl) (fun _ _ => rfl) (fun _ _ => rfl)⟩
theorem ox_clear {v : Mem} {e B i o : Nat} (h : okX v e B) (hi : i < 18) (ho : o < 40) (he : v 3 i = nI o) : okX (zGive (mst v 3 i (-1)) o) e (B + 1) := by
  have hR := (op_clear (rr_ex h.1 h.2.1) hi ho he).1
  have ho0 : ¬ v 0 o = 0 := cells_named h.1 h.2.1 hi ho he
  have hv := okV_cell (i := i) (x := -1) h.1 (Or.inl rfl)
  have g := okG_give hv (okG_of (w := mst v 3 i (-1)) h.2.2.1 (fun _ _ => rfl) rfl rfl) ho (show ¬ mst v 3 i (-1) 0 o = 0 from ho0)
  exact ⟨hR.1, hR.2.1, g, okK_of (okK_give h.2.2.2 o) (fun k _ => by rw [zGive_hi _ _ (by omega), zGive_hi _ _ (by omega)]; rfl) (fun k _ => by rw [zGive_hi _ _ (by omega), zGive_hi _ _ (by omega)]; rfl) (fun k _ => by rw [zGive_hi _ _ (by omega), zGive_hi _ _ (by omega)]; rfl)⟩
/-- how many places are hit -/
theorem ct_img {p : Nat → Bool} {P : Nat → Nat} {m : Nat} : ∀ (n : Nat), (∀ a, a < n → p a = true → P a < m) → (∀ a b, a < n → b < n → p a = true → p b = true → P a = P b → a = b) → fb_ct (fun k => decide (∃ j, j < n ∧ p j = true ∧ P j = k)) m = fb_ct p n
  | 0, _, _ => fb_ct_zero.mpr (fun k _ => decide_eq_false (fun ⟨j, h, _⟩ => absurd h (Nat.not_lt_zero j)))
  | n + 1, h1, h2 => by
    have ih := ct_img (p := p) (P := P) (m := m) n (fun a ha => h1 a (by omega)) (fun a b ha hb => h2 a b (by omega) (by omega))
    cases hp : p n with
    | false =>
      rw [fb_ct_f hp, ← ih]
      refine fb_ct_cong (fun k _ => decide_eq_decide.mpr ⟨fun ⟨j, a, b, c⟩ => ⟨j, ?_, b, c⟩, fun ⟨j, a, b, c⟩ => ⟨j, by omega, b, c⟩⟩)
      rcases Nat.lt_or_ge j n with q | q
      · exact q
      · have : j = n := by omega
        subst this
        rw [hp] at b
        cases b
    | true =>
      rw [fb_ct_t hp, ← ih]
      have e1 : fb_ct (fun k => decide (∃ j, j < n + 1 ∧ p j = true ∧ P j = k)) m = fb_ct (fun k => if k = P n then true else decide (∃ j, j < n ∧ p j = true ∧ P j = k)) m := by
        refine fb_ct_cong (fun k _ => ?_)
        by_cases q : k = P n
        · rw [if_pos q]
          exact decide_eq_true ⟨n, by omega, hp, q.symm⟩
        · rw [if_neg q]
          refine decide_eq_decide.mpr ⟨fun ⟨j, a, b, c⟩ => ⟨j, ?_, b, c⟩, fun ⟨j, a, b, c⟩ => ⟨j, by omega, b, c⟩⟩
          rcases Nat.lt_or_ge j n with z | z
          · exact z
          · have : j = n := by omega
            subst this
            exact absurd c.symm q
      have e2 := fb_ct_upd (fun k => decide (∃ j, j < n ∧ p j = true ∧ P j = k)) true (h1 n (by omega) hp)
      have e3 : decide (∃ j, j < n ∧ p j = true ∧ P j = P n) = false := decide_eq_false (fun ⟨j, a, b, c⟩ => by
        have := h2 j n (by omega) (by omega) b hp c
        omega)
      rw [if_neg (by rw [e3]; decide), if_pos rfl] at e2
      rw [e1]
      exact e2
theorem ct_inj_le {p q : Nat → Bool} {P : Nat → Nat} {n m : Nat} (h1 : ∀ a, a < n → p a = true → P a < m ∧ q (P a) = true) (h2 : ∀ a b, a < n → b < n → p a = true → p b = true → P a = P b → a = b) : fb_ct p n ≤ fb_ct q m := by
  rw [← ct_img (m := m) n (fun a ha hp => (h1 a ha hp).1) h2]
  refine fb_ct_sub (fun k _ hk => ?_)
  obtain ⟨j, a, b, rfl⟩ := of_decide_eq_true hk
  exact (h1 j a b).2
theorem ct_lt : ∀ (c m : Nat), c ≤ m → fb_ct (fun k => decide (k < c)) m = c
  | c, 0, h => by rw [show c = 0 by omega]; rfl
  | c, m + 1, h => by
    rcases Nat.lt_or_ge m c with q | q
    · rw [fb_ct_t (decide_eq_true q), fb_ct_cong (q := fun k => decide (k < m)) (fun k hk => decide_eq_decide.mpr ⟨fun _ => hk, fun _ => by omega⟩), ct_lt m m (Nat.le_refl m)]
      omega
    · rw [fb_ct_f (decide_eq_false (by omega)), ct_lt c m q]
/-- places that are taken by an order without gaps -/
theorem ct_onto {p : Nat → Bool} {P : Nat → Nat} {n : Nat} (h1 : ∀ a, a < n → p a = true → P a < fb_ct p n) (h2 : ∀ a b, a < n → b < n → p a = true → p b = true → P a = P b → a = b) {k : Nat} (hk : k < fb_ct p n) : ∃ j, j < n ∧ p j = true ∧ P j = k := by
  have e1 := ct_img (p := p) (P := P) (m := fb_ct p n) n h1 h2
  exact of_decide_eq_true ((fb_ct_all.mp e1) k hk)
section ANX
variable {v : Mem} {e B ρ : Nat}
theorem zPl_inj (hv : okV v e B) {a b : Nat} (ha : a < 40) (hb : b < 40) (ha0 : ¬ v 0 a = 0) (hb0 : ¬ v 0 b = 0) (q : zPl v ρ a = zPl v ρ b) : a = b :=
  zPos_inj (nm_inj hv) ha hb ha0 hb0 (by rw [← zPl_eq, ← zPl_eq]; exact q)
theorem pNm_t {n : Nat} (h : ¬ v 0 n = 0) : pNm v n = true := decide_eq_true h
theorem pNm_f {n : Nat} (h : v 0 n = 0) : pNm v n = false := decide_eq_false (fun z => z h)
theorem pNm_n {n : Nat} (h : pNm v n = true) : ¬ v 0 n = 0 := of_decide_eq_true h
theorem zPl_nm {n : Nat} (hn : n < 40) (h0 : ¬ v 0 n = 0) : zPl v ρ n < fb_ct (pNm v) 40 := by
  have h1 : fb_ct (fun k => if k = n then false else pNm v k) 40 + 1 = fb_ct (pNm v) 40 := by
    have := fb_ct_upd (pNm v) false hn
    rw [pNm_t h0, if_pos rfl, if_neg (by decide)] at this
    exact this
  have h2 : zPl v ρ n ≤ fb_ct (fun k => if k = n then false else pNm v k) 40 := by
    refine fb_ct_sub (fun k hk q => ?_)
    have q : (decide (¬ v 0 k = 0) && zAhead v ρ k n) = true := q
    rw [Bool.and_eq_true] at q
    by_cases z : k = n
    · subst z
      rw [zAhead_eq, zAh_irr] at q
      cases q.2
    · show (if k = n then false else pNm v k) = true
      rw [if_neg z]; exact q.1
  omega
theorem an_nb {j : Nat} (hj : j < 40) : nbR (anA v ρ e) (e % 3 * 40) j = if v 0 j = 0 then -1 else nI (zPl v ρ j) := by
  show anA v ρ e 8 (e % 3 * 40 + j) = _
  rw [anA_8, fb_put_in (by omega) (by omega), Nat.add_sub_cancel_left]; rfl
theorem an_nm (hv : okV v e B) : (∀ j, j < 40 → ¬ v 0 j = 0 → zAnew v ρ e 0 (zPl v ρ j) = v 0 j) ∧ (∀ k, k < 40 → (∀ j, j < 40 → ¬ v 0 j = 0 → zPl v ρ j ≠ k) → zAnew v ρ e 0 k = 0) := by
  have n0 := mvTo_spec (nm := v 0) (P := zPl v ρ) (old := v 0) (base := zFillA 40 (nI 0) (v 0)) (fun j hj => an_nb (v := v) (e := e) (ρ := ρ) hj) (fun j hj _ => zPl_40 hj) (fun a b ha hb ha0 hb0 q => zPl_inj hv ha hb ha0 hb0 q) 40 (Nat.le_refl _)
  have a0 : zAnew v ρ e 0 = mvTo (nbR (anA v ρ e) (e % 3 * 40)) (v 0) (zFillA 40 (nI 0) (v 0)) 40 := by
    rw [an_0, mvN, anA_k v ρ e (Or.inl rfl)]
  rw [← a0] at n0
  exact ⟨n0.1, fun k hk q => (n0.2 k q).trans (if_pos hk)⟩
theorem an_ct (hv : okV v e B) : fb_ct (pNm (zAnew v ρ e)) 40 = fb_ct (pNm v) 40 := by
  obtain ⟨h1, h2⟩ := an_nm (ρ := ρ) hv
  rw [← ct_img (p := pNm v) (P := zPl v ρ) (m := 40) 40 (fun a ha _ => zPl_40 ha) (fun a b ha hb pa pb q => zPl_inj hv ha hb (pNm_n pa) (pNm_n pb) q)]
  refine fb_ct_cong (fun k hk => decide_eq_decide.mpr ⟨fun q => ?_, fun ⟨j, a, b, c⟩ => ?_⟩)
  · apply Classical.byContradiction
    intro z
    exact q (h2 k hk (fun j hj hj0 y => z ⟨j, hj, pNm_t hj0, y⟩))
  · subst c
    rw [h1 j a (pNm_n b)]
    exact pNm_n b
theorem an_nx {n : Nat} (hn : n < 40) : zAnew v ρ e 8 (e % 3 * 40 + n) = nxN v ρ n := by rw [an_8, fb_put_in (by omega) (by omega), Nat.add_sub_cancel_left]
theorem nxN_0 {n : Nat} (h : v 0 n = 0) : nxN v ρ n = -1 := if_pos h
theorem nxN_ne {n : Nat} (hn : n < 40) : ¬ nxN v ρ n = -1 ↔ ¬ v 0 n = 0 := by
  constructor
  · intro q z
    exact q (nxN_0 z)
  · intro q z
    rw [nxN_n q] at z
    exact nI_nm1 (by have := zPl_40 (v := v) (ρ := ρ) hn; omega) z
theorem an_kp : kpN (zAnew v ρ e) (e % 3) = fb_ct (pNm v) 40 := fb_ct_cong (fun n hn => by
  rw [an_nx hn]
  exact decide_eq_decide.mpr (nxN_ne hn))
theorem ox_anew (h : okX v e B) (he : e < 999) : okX (zAnew v ρ e) (e + 1) (B + 1) := by
  have hR := an_ok (ρ := ρ) h.1 h.2.1 he
  refine ⟨hR.1, hR.2, ?_, fun i hi hie => ?_⟩
  · obtain ⟨g, l, a, b, c, d⟩ := h.2.2.1
    refine ⟨g, l, ?_, ?_, ?_, by omega⟩
    · rw [an_12]; exact (pk_un (by decide)).trans a
    · rw [an_12]; exact (pk_un (by decide)).trans b
    · rw [an_ct h.1]; exact c
  · cases i with
    | zero =>
      rw [show e + 1 - 1 - 0 = e by omega]
      refine ⟨fun a b ha hb ha0 hab => ?_, ?_, fb_ct (pMv v ρ) 40, ?_, ?_⟩
      · rw [an_nx ha] at ha0 hab
        rw [an_nx hb] at hab
        have ha1 := (nxN_ne ha).mp ha0
        have hb1 := (nxN_ne hb).mp (by rw [← hab]; exact ha0)
        rw [nxN_n ha1, nxN_n hb1] at hab
        have g1 := zPl_40 (v := v) (ρ := ρ) ha
        have g2 := zPl_40 (v := v) (ρ := ρ) hb
        exact zPl_inj h.1 ha hb ha1 hb1 (nI_inj (by omega) (by omega) hab)
      · rw [an_5, an_kp]; exact pk_us
      · rw [an_kp]
        refine fb_ct_sub (fun k hk q => ?_)
        have q : (decide (¬ nxN v ρ k = -1) && decide (¬ nxN v ρ k = nI k)) = true := q
        rw [Bool.and_eq_true, decide_eq_true_eq] at q
        exact pNm_t ((nxN_ne hk).mp q.1)
      · rw [an_6]; exact pk_us
    | succ i =>
      rw [show e + 1 - 1 - (i + 1) = e - 1 - i by omega]
      have h0 : (e - 1 - i) % 3 ≠ e % 3 := by omega
      have h1 : (e - 1 - i) % 3 < 3 := Nat.mod_lt _ (by decide)
      have h2 : e % 3 < 3 := Nat.mod_lt _ (by decide)
      refine okK1_of (h.2.2.2 i (by omega) (by omega)) ?_ ?_ (fun n hn => ?_)
      · rw [an_5]; exact pk_un h0
      · rw [an_6]; exact pk_un h0
      · rw [an_8, fb_put_out]
        omega
end ANX
