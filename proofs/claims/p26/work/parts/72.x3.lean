/-! what the questions answer -/
def yrK (v : Mem) (n : Nat) : Nat := (v 2 n).toNatClampNeg
def tgK (v : Mem) (e n : Nat) : Nat := 1000000 * e + 100 * yrK v n + n
section FQ
variable {v : Mem} {e B n : Nat}
theorem yr_is (h : okV v e B) (hB : B < 10000) (hn : n < 40) : v 2 n = nI (yrK v n) ∧ yrK v n ≤ B := by
  obtain ⟨z, a, b⟩ := h.2.2.2.2.2.1 n hn
  have e1 : yrK v n = z := by rw [yrK, b, nI_clamp (by omega)]
  rw [e1]
  exact ⟨b, a⟩
theorem tgK_lt (h : okV v e B) (hB : B < 10000) (hn : n < 40) : tgK v e n < 1000000000 := by
  have h1 := h.1.2
  have h2 := (yr_is h hB hn).2
  unfold tgK
  omega
theorem tag_is (h : okV v e B) (hB : B < 10000) (hn : n < 40) : nI 1000000 * v 12 0 + nI 100 * v 2 n + nI n = nI (tgK v e n) := by
  rw [h.1.1, (yr_is h hB hn).1, pk_mul, pk_mul, nI_add, nI_add]
  rfl
theorem tgK_100 (hn : n < 40) : tgK v e n % 100 = n := by
  unfold tgK
  omega
theorem tgK_ep (h : okV v e B) (hB : B < 10000) (hn : n < 40) : tgK v e n / 1000000 = e := by
  have h2 := (yr_is h hB hn).2
  unfold tgK
  omega
theorem tgK_yr (h : okV v e B) (hB : B < 10000) (hn : n < 40) : tgK v e n / 100 % 10000 = yrK v n := by
  have h2 := (yr_is h hB hn).2
  unfold tgK
  omega
theorem sta_N {t : Nat} (ht : t < 2 ^ 31) : zSta v e (nI t) = zStaN v e t := by
  rw [zSta, if_neg (nI_pos ht), nI_clamp ht]
theorem sta_tag (h : okV v e B) (hB : B < 10000) (hn : n < 40) : zSta v e (nI (tgK v e n)) = if v 0 n = 0 then -4 else nI n := by
  have h1 := tgK_lt h hB hn
  rw [sta_N (by omega), zStaN, tgK_100 hn, tgK_ep h hB hn, tgK_yr h hB hn, if_neg (by omega), if_neg (by omega), if_neg (by omega), Nat.sub_self, zFol, ← (yr_is h hB hn).1, if_pos rfl]
theorem sta_cases (h : okV v e B) (hC : okC v) (hB : B < 10000) (x : Int32) : (∃ n, n < 40 ∧ zSta v e x = nI n ∧ ¬ v 0 n = 0) ∨ (∃ k, 1 ≤ k ∧ k ≤ 4 ∧ zSta v e x = -nI k) := by
  rcases sta_same (re_ex v e) h (by omega) x with ⟨n, a, b, -, c⟩ | ⟨k, a, b, c, -⟩
  · exact Or.inl ⟨n, a, b, c⟩
  · exact Or.inr ⟨k, a, b, c⟩
theorem neg_k {k : Nat} (h1 : 1 ≤ k) (h4 : k ≤ 4) : -nI k < 0 ∧ - -nI k = nI k := by
  rcases (show k = 1 ∨ k = 2 ∨ k = 3 ∨ k = 4 by omega) with h | h | h | h <;> subst h <;> decide
theorem zFol_ne : ∀ (k d n : Nat) (y : Int32), n < 40 → ¬ zFol v k d n y = -1 ∧ ¬ zFol v k d n y = -2
  | 0, d, n, y, hn => by
    have h1 : ¬ nI n = -1 := nI_nm1 (by omega)
    have h2 : ¬ nI n = -2 := fun q => by
      have h3 := congrArg Int32.toInt q
      rw [nI_toInt (by omega)] at h3
      have h4 : (-2 : Int32).toInt = -2 := by decide
      omega
    rw [zFol]
    split
    · exact ⟨by decide, by decide⟩
    · split
      · exact ⟨h1, h2⟩
      · exact ⟨by decide, by decide⟩
  | k + 1, d, n, y, hn => by
    rw [zFol]
    by_cases z : zBel (v 8 (d % 3 * 40 + n)) 40 = true
    · rw [if_pos z]
      split
      · obtain ⟨q, hq, hqe⟩ := zBel_of (by decide) z
        rw [hqe, nI_clamp (by omega)]
        exact zFol_ne k (d + 1) q _ hq
      · exact ⟨by decide, by decide⟩
    · rw [if_neg z]
      exact ⟨by decide, by decide⟩
/-- a number that is no tag -/
def noTg (e t : Nat) : Prop := 40 ≤ t % 100 ∨ e < t / 1000000
theorem sta_1 {t : Nat} (ht : t < 2 ^ 31) (h : noTg e t) : zSta v e (nI t) = -1 := by
  rw [sta_N ht, zStaN]
  rcases h with h | h
  · rw [if_pos h]
  · rw [if_pos h]
    split <;> rfl
theorem sta_2 {t : Nat} (ht : t < 2 ^ 31) (h : ¬ noTg e t) (h2 : t / 1000000 + 3 < e) : zSta v e (nI t) = -2 := by
  rw [sta_N ht, zStaN, if_neg (fun z => h (Or.inl z)), if_neg (fun z => h (Or.inr z)), if_pos h2]
theorem sta_3 {t : Nat} (ht : t < 2 ^ 31) (h : ¬ noTg e t) (h2 : ¬ t / 1000000 + 3 < e) : ¬ zSta v e (nI t) = -1 ∧ ¬ zSta v e (nI t) = -2 := by
  have h3 : t % 100 < 40 := Nat.lt_of_not_le (fun z => h (Or.inl z))
  rw [sta_N ht, zStaN, if_neg (fun z => h (Or.inl z)), if_neg (fun z => h (Or.inr z)), if_neg h2]
  exact zFol_ne _ _ _ _ h3
theorem sta_neg {x : Int32} (h : x < 0) : zSta v e x = -1 := if_pos h
-- names by their orders
theorem pl_ex (h : okV v e B) {ρ k : Nat} (hk : k < fb_ct (pNm v) 40) : ∃ j, j < 40 ∧ ¬ v 0 j = 0 ∧ zPl v ρ j = k := by
  obtain ⟨j, a, b, c⟩ := ct_onto (P := zPl v ρ) (fun a ha pa => zPl_nm ha (pNm_n pa)) (fun a b ha hb pa pb q => zPl_inj h ha hb (pNm_n pa) (pNm_n pb) q) hk
  exact ⟨j, a, pNm_n b, c⟩
theorem na_end {ρ : Nat} {r : Int32} (h : naV v ρ (fb_ct (pNm v) 40) r) : r = -1000004 := by
  rcases h with ⟨j, a, b, c, -⟩ | ⟨-, h⟩
  · have := zPl_nm (ρ := ρ) a b
    omega
  · exact h
theorem na_in (hv : okV v e B) {ρ k : Nat} {r : Int32} (hk : k < fb_ct (pNm v) 40) (h : naV v ρ k r) : ∃ j, j < 40 ∧ ¬ v 0 j = 0 ∧ zPl v ρ j = k ∧ r = v 0 j := by
  rcases h with h | ⟨h, -⟩
  · exact h
  · obtain ⟨j, a, b, c⟩ := pl_ex hv (ρ := ρ) hk
    exact absurd c (h j a b)
theorem pl_lt (hv : okV v e B) {ρ i j : Nat} (hi : i < 40) (hj : j < 40) (hi0 : ¬ v 0 i = 0) (hj0 : ¬ v 0 j = 0) : zAh (v 0) (v 1) ρ i j = true ↔ zPl v ρ i < zPl v ρ j := by
  constructor
  · intro q
    rw [zPl_eq, zPl_eq]
    exact zPos_lt hi hi0 q
  · intro q
    cases z : zAh (v 0) (v 1) ρ i j with
    | true => rfl
    | false =>
      have hne : i ≠ j := fun y => by subst y; omega
      have := zPos_lt hj hj0 (zAh_tot (nm_inj hv) hi hj hi0 hj0 hne z)
      rw [← zPl_eq, ← zPl_eq] at this
      omega
theorem kv_lt (hv : okV v e B) {i j : Nat} (hi : i < 40) (hj : j < 40) (hi0 : ¬ v 0 i = 0) (hj0 : ¬ v 0 j = 0) : Kv v i < Kv v j ↔ zPl v 1 i < zPl v 1 j := by
  rw [← pl_lt hv hi hj hi0 hj0, zAh_1 rfl]
  rfl
theorem bh_next (hv : okV v e B) {i j : Nat} {r : Int32} (hi : i < 40) (hj : j < 40) (hi0 : ¬ v 0 i = 0) (hj0 : ¬ v 0 j = 0) (hij : zPl v 1 j = zPl v 1 i + 1) (h : bhV v (Kv v i) r) : r = v 0 j := by
  have h1 : Kv v i < Kv v j := (kv_lt hv hi hj hi0 hj0).mpr (by omega)
  rcases h with ⟨x, a, b, c, d, f⟩ | ⟨h, -⟩
  · have h2 := (kv_lt hv hi a hi0 b).mp c
    have h3 := d j hj hj0 h1
    have h4 : ¬ zPl v 1 x < zPl v 1 j := by omega
    have h5 : ¬ zPl v 1 j < zPl v 1 x := fun q => by
      have := (kv_lt hv hj a hj0 b).mpr q
      omega
    have h6 := zPl_inj hv (ρ := 1) a hj b hj0 (by omega)
    subst h6
    exact f
  · exact absurd h1 (h j hj hj0)
theorem bh_last (hv : okV v e B) {i : Nat} {r : Int32} (hi : i < 40) (hi0 : ¬ v 0 i = 0) (hl : zPl v 1 i + 1 = fb_ct (pNm v) 40) (h : bhV v (Kv v i) r) : r = -1000004 := by
  rcases h with ⟨x, a, b, c, -, -⟩ | ⟨-, h⟩
  · have h2 := (kv_lt hv hi a hi0 b).mp c
    have h3 := zPl_nm (ρ := 1) a b
    omega
  · exact h
theorem find_is (hv : okV v e B) (hn : n < 40) (h0 : ¬ v 0 n = 0) : zNum (v 0) (v 0 n) = nI n := by
  rcases zNum_or (v 0) (v 0 n) with q | ⟨m, hm, q, z⟩
  · exact absurd rfl (zNum_m1 q n hn)
  · have := hv.2.2.1 m n hm hn (by rw [z]; exact h0) z
    subst this
    exact q
theorem nm_is (hv : okV v e B) (hn : n < 40) (h0 : ¬ v 0 n = 0) : v 0 n = nI (nmK v n) ∧ 1 ≤ nmK v n ∧ nmK v n < 387420489 ∧ zName (nI (nmK v n)) = true := by
  rcases hv.2.1 n hn with q | q
  · exact absurd q h0
  · obtain ⟨k, h1, h2, h3, -⟩ := zName_of q
    have e1 : nmK v n = k := by rw [nmK, h3, nI_clamp (by omega)]
    rw [e1, ← h3]
    exact ⟨rfl, h1, by omega, q⟩
theorem beg_pos (hv : okV v e B) (hn : n < 40) (h0 : ¬ v 0 n = 0) : 0 < fb_ct (pBg (v 0) (nmK v n)) 40 := by
  refine fb_ct_pos.mpr ⟨n, hn, ?_⟩
  show (decide (¬ v 0 n = 0) && decide (begK 5 (nmK v n) (nmK v n) = nmK v n)) = true
  rw [decide_eq_true h0, begK_le 5 (Nat.le_refl _), decide_eq_true rfl]
  rfl
theorem tp_ct : ∀ (n : Nat), fb_ct (pNm v) (zTp v n) = fb_ct (pNm v) n
  | 0 => rfl
  | n + 1 => by
    rw [zTp]
    by_cases q : v 0 n = 0
    · rw [if_pos q, tp_ct n, fb_ct_f (pNm_f q)]
    · rw [if_neg q]
theorem sm_one {o : Nat} (ho : o < 40) : fb_sm (fun i => if o = i then 1 else 0) 40 = 1 := by
  have h := fb_sm_upd (fun _ => 0) 1 ho
  rw [fb_sm_const] at h
  have e1 : fb_sm (fun i => if o = i then 1 else 0) 40 = fb_sm (fun k => if k = o then 1 else 0) 40 := fb_sm_cong (fun k _ => by
    by_cases q : o = k
    · rw [if_pos q, if_pos q.symm]
    · rw [if_neg q, if_neg (fun z => q z.symm)])
  omega
theorem cells_all {f : Nat → Int32} : ∀ (m : Nat), (∀ k, k < m → f k = -1 ∨ ∃ o, o < 40 ∧ f k = nI o) → fb_sm (fun i => fb_ct (fun k => decide (f k = nI i)) m) 40 + fb_ct (fun k => decide (f k = -1)) m = m
  | 0, _ => by
    show fb_sm (fun _ => 0) 40 + 0 = 0
    rw [fb_sm_const]
  | m + 1, h => by
    have ih := cells_all m (fun k hk => h k (by omega))
    have e1 : fb_sm (fun i => fb_ct (fun k => decide (f k = nI i)) (m + 1)) 40 = fb_sm (fun i => fb_ct (fun k => decide (f k = nI i)) m) 40 + fb_sm (fun i => if decide (f m = nI i) then 1 else 0) 40 := by
      rw [← fb_sm_add]
      exact fb_sm_cong (fun k _ => fb_ct_succ _ _)
    rw [e1, fb_ct_succ]
    rcases h m (by omega) with q | ⟨o, ho, q⟩
    · have e2 : fb_sm (fun i => if decide (f m = nI i) then 1 else 0) 40 = fb_sm (fun _ => 0) 40 := fb_sm_cong (fun k hk => by
        rw [decide_eq_false (fun z => nI_nm1 (k := k) (by omega) (z.symm.trans q)), if_neg (by decide)])
      rw [e2, fb_sm_const, decide_eq_true q, if_pos rfl]
      omega
    · have e2 : fb_sm (fun i => if decide (f m = nI i) then 1 else 0) 40 = fb_sm (fun i => if o = i then 1 else 0) 40 := fb_sm_cong (fun k hk => by
        rw [q]
        by_cases z : o = k
        · subst z
          rw [decide_eq_true rfl, if_pos rfl, if_pos rfl]
        · rw [decide_eq_false (fun y => z (nI_inj (by omega) (by omega) y)), if_neg (by decide), if_neg z])
      rw [e2, sm_one ho, decide_eq_false (fun z => nI_nm1 (k := o) (by omega) (q.symm.trans z)), if_neg (by decide)]
      omega
theorem cells_18 (hv : okV v e B) : nI (fb_sm (fun i => zCells (v 3) (nI i)) 40) = nI 18 - nI (zCells (v 3) (-1)) := by
  have h := cells_all (f := v 3) 18 hv.2.2.2.2.1
  have h2 := zCells_le (v 3) (-1)
  rw [pk_sub h2]
  congr 1
  show fb_sm (fun i => fb_ct (fun k => decide (v 3 k = nI i)) 18) 40 = 18 - fb_ct (fun k => decide (v 3 k = -1)) 18
  omega
-- compactions
theorem fol_inj (hK : okK v e) : ∀ (k d i j n : Nat) (y z : Int32), k + d = e → k ≤ 3 → i < 40 → j < 40 → zFol v k d i y = nI n → zFol v k d j z = nI n → n < 40 → i = j
  | 0, d, i, j, n, y, z, _, _, hi, hj, h1, h2, hn => by
    have key : ∀ (i : Nat) (y : Int32), i < 40 → zFol v 0 d i y = nI n → i = n := by
      intro i y hi h
      have h4 : ¬ (-4 : Int32) = nI n := fun q => by
        have h3 := congrArg Int32.toInt q
        rw [nI_toInt (by omega)] at h3
        have h4 : (-4 : Int32).toInt = -4 := by decide
        omega
      rw [zFol] at h
      split at h
      · exact absurd h h4
      · split at h
        · exact nI_inj (by omega) (by omega) h
        · exact absurd h h4
    rw [key i y hi h1, key j z hj h2]
  | k + 1, d, i, j, n, y, z, hk, hk3, hi, hj, h1, h2, hn => by
    have key : ∀ (i : Nat) (y : Int32), i < 40 → zFol v (k + 1) d i y = nI n → ∃ q, q < 40 ∧ v 8 (d % 3 * 40 + i) = nI q ∧ zFol v k (d + 1) q (v 9 (d % 3 * 40 + q)) = nI n := by
      intro i y hi h
      have h4 : ¬ (-3 : Int32) = nI n := fun q => by
        have h3 := congrArg Int32.toInt q
        rw [nI_toInt (by omega)] at h3
        have h4 : (-3 : Int32).toInt = -3 := by decide
        omega
      rw [zFol] at h
      by_cases b : zBel (v 8 (d % 3 * 40 + i)) 40 = true
      · rw [if_pos b] at h
        split at h
        · obtain ⟨q, hq, hqe⟩ := zBel_of (by decide) b
          rw [hqe, nI_clamp (by omega)] at h
          exact ⟨q, hq, hqe, h⟩
        · exact absurd h h4
      · rw [if_neg b] at h
        exact absurd h h4
    obtain ⟨q1, a1, b1, c1⟩ := key i y hi h1
    obtain ⟨q2, a2, b2, c2⟩ := key j z hj h2
    have e1 := fol_inj hK k (d + 1) q1 q2 n _ _ (by omega) (by omega) a1 a2 c1 c2 hn
    subst e1
    have hd := hK k (by omega) (by omega)
    rw [show (e - 1 - k) = d by omega] at hd
    exact hd.1 i j hi hj (by rw [b1]; exact nI_nm1 (by omega)) (b1.trans b2.symm)
theorem st_tag (h : okV v e B) (hB : B < 10000) {i k : Nat} (hi : i < 3) (hie : i < e) (hk : k < 40) (h8 : ¬ v 8 ((e - 1 - i) % 3 * 40 + k) = -1) : zSta v e (nI 1000000 * nI (e - 1 - i) + nI 100 * v 7 ((e - 1 - i) % 3 * 40 + k) + nI k) = zFol v (i + 1) (e - 1 - i) k (v 7 ((e - 1 - i) % 3 * 40 + k)) := by
  have h9 := h.1.2
  rcases h.2.2.2.2.2.2 i hi hie k hk with q | ⟨q, q1, q2, ⟨z, a, b⟩, -⟩
  · exact absurd q h8
  · rw [b, pk_mul, pk_mul, nI_add, nI_add, sta_N (by omega), zStaN]
    rw [show (1000000 * (e - 1 - i) + 100 * z + k) % 100 = k by omega, show (1000000 * (e - 1 - i) + 100 * z + k) / 1000000 = e - 1 - i by omega, show (1000000 * (e - 1 - i) + 100 * z + k) / 100 % 10000 = z by omega]
    rw [if_neg (by omega), if_neg (by omega), if_neg (by omega), show e - (e - 1 - i) = i + 1 by omega]
theorem pSt_8 {d k : Nat} (h : pSt v e d k = true) : ¬ v 8 (d % 3 * 40 + k) = -1 ∧ ¬ zSta v e (nI 1000000 * nI d + nI 100 * v 7 (d % 3 * 40 + k) + nI k) < 0 := by
  have h : (decide (¬ v 8 (d % 3 * 40 + k) = -1) && decide (¬ zSta v e (nI 1000000 * nI d + nI 100 * v 7 (d % 3 * 40 + k) + nI k) < 0)) = true := h
  rw [Bool.and_eq_true, decide_eq_true_eq, decide_eq_true_eq] at h
  exact h
theorem st_le_kp {i : Nat} : fb_ct (pSt v e (e - 1 - i)) 40 ≤ kpN v ((e - 1 - i) % 3) :=
  fb_ct_sub (fun k _ h => decide_eq_true (pSt_8 h).1)
theorem st_le_nm (h : okX v e B) (hB : B < 10000) {i : Nat} (hi : i < 3) (hie : i < e) : fb_ct (pSt v e (e - 1 - i)) 40 ≤ fb_ct (pNm v) 40 := by
  have key : ∀ k, k < 40 → pSt v e (e - 1 - i) k = true → ∃ n, n < 40 ∧ ¬ v 0 n = 0 ∧ zFol v (i + 1) (e - 1 - i) k (v 7 ((e - 1 - i) % 3 * 40 + k)) = nI n := by
    intro k hk hp
    obtain ⟨h8, hs⟩ := pSt_8 hp
    rcases sta_cases h.1 h.2.1 hB (nI 1000000 * nI (e - 1 - i) + nI 100 * v 7 ((e - 1 - i) % 3 * 40 + k) + nI k) with ⟨n, a, b, c⟩ | ⟨m, a, b, c⟩
    · rw [st_tag h.1 hB hi hie hk h8] at b
      exact ⟨n, a, c, b⟩
    · rw [c] at hs
      exact absurd (neg_k a b).1 hs
  refine ct_inj_le (P := fun k => (zFol v (i + 1) (e - 1 - i) k (v 7 ((e - 1 - i) % 3 * 40 + k))).toNatClampNeg) (fun k hk hp => ?_) (fun a b ha hb pa pb q => ?_)
  · obtain ⟨n, a, b, c⟩ := key k hk hp
    show (zFol v (i + 1) (e - 1 - i) k (v 7 ((e - 1 - i) % 3 * 40 + k))).toNatClampNeg < 40 ∧ pNm v (zFol v (i + 1) (e - 1 - i) k (v 7 ((e - 1 - i) % 3 * 40 + k))).toNatClampNeg = true
    rw [c, nI_clamp (by omega)]
    exact ⟨a, pNm_t b⟩
  · obtain ⟨n, a1, b1, c1⟩ := key a ha pa
    obtain ⟨m, a2, b2, c2⟩ := key b hb pb
    have q : (zFol v (i + 1) (e - 1 - i) a (v 7 ((e - 1 - i) % 3 * 40 + a))).toNatClampNeg = (zFol v (i + 1) (e - 1 - i) b (v 7 ((e - 1 - i) % 3 * 40 + b))).toNatClampNeg := q
    rw [c1, c2, nI_clamp (by omega), nI_clamp (by omega)] at q
    subst q
    exact fol_inj h.2.2.2 (i + 1) (e - 1 - i) a b n _ _ (by omega) (by omega) ha hb c1 c2 a1
end FQ
