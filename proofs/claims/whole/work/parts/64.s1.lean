theorem neg_k {k : Nat} (h1 : 1 ≤ k) (h4 : k ≤ 4) : -nI k < 0 ∧ - -nI k = nI k := by
  rcases (show k = 1 ∨ k = 2 ∨ k = 3 ∨ k = 4 by omega) with h | h | h | h <;> subst h <;> decide
theorem sta_or {v : Mem} {f : Nat → Int32} {e B : Nat} (hR : RR v f e B) (hB : B < 2 ^ 30) (x : Int32) : (∃ n, n < 40 ∧ zSta v e x = nI n ∧ mSta f e x = (0, some n) ∧ ¬ v 0 n = 0) ∨ (∃ k o, 1 ≤ k ∧ k ≤ 4 ∧ zSta v e x = -nI k ∧ mSta f e x = (k, o)) := by
  rcases sta_same hR.2.2 hR.1 (by omega) x with ⟨n, h1, h2, h3, h4⟩ | ⟨k, h1, h2, h3, h4⟩
  · exact Or.inl ⟨n, h1, h2, h3, h4⟩
  · cases hm : mSta f e x with
    | mk k' o =>
      rw [hm] at h4
      have h4 : k' = k := h4
      subst h4
      exact Or.inr ⟨k', o, h1, h2, h3, rfl⟩
theorem rel_mY {B : Nat} {S L my : Nat → Nat} {t v mv : Mem} {pv : Nat → Mem} (h : Rel B S L t v pv mv my) (r : Nat × Option Nat) : Rel (B + 61) S L t v pv mv (mY my r) :=
  rel_keep h (fun _ _ => rfl) rfl rfl h.2.2.2.2.2.2.2 (mY_3 my r 0 (by decide)) (mY_3 my r 1 (by decide))
theorem rel_n3 {B : Nat} {S L my : Nat → Nat} {t v mv : Mem} {pv : Nat → Mem} (h : Rel B S L t v pv mv my) (n : Nat) : Rel (B + 61) S L t v pv mv (nup my 3 n) :=
  rel_keep h (fun _ _ => rfl) rfl rfl h.2.2.2.2.2.2.2 rfl rfl
theorem full_eq {v : Mem} {f : Nat → Int32} {e B n : Nat} (hR : RR v f e B) (hn : n < 40) : nI 999 ≤ v 1 n ↔ f (44 + n) = nI 999 := by
  obtain ⟨h1, h2, -⟩ := hR.1.2.2.2.1 n hn
  rw [rr_us hR hn, h1, nI_leI (by omega) (by omega), nI_eq (by omega) (by omega)]
  omega
theorem free_eq {v : Mem} {f : Nat → Int32} {e B n : Nat} (hR : RR v f e B) (hn : n < 40) : v 1 n ≤ nI (zCells (v 3) (nI n)) ↔ f (44 + n) = nI (zCells (rC f) (nI n)) := by
  obtain ⟨h1, h2, -⟩ := hR.1.2.2.2.1 n hn
  have h3 := hR.2.1 n hn
  have h4 := zCells_le (v 3) (nI n)
  rw [rr_us hR hn, rr_cells hR, h1, nI_leI (by omega) (by omega), nI_eq (by omega) (by omega)]
  omega

set_option maxHeartbeats 4000000 in
theorem st_acquire (l : Launch) (G : ZG) (o pr q : Nat) (a b d : Nat → Nat) (pa : Nat → Nat → Nat) (S P L : Nat → Nat) (t v u : Mem) (pv : Nat → Mem) (ma : Nat → Nat) (mv : Mem) (my : Nat → Nat) (B : Nat) (h : Rel B S L t v pv mv my) (hB : B < 2 ^ 30) (x : Int32) : StepI l G yX3_acquire wsX3_acquire (zRm 3 83) yX4_acquire wsX4_acquire (zRm 3 64) [.int x] o pr q a b d pa S P L t v u pv ma mv my B := by
  obtain ⟨⟨e, hR⟩, ⟨h4, hy0⟩, hpast, ⟨hL6, hy1⟩, hTx, hTm, hsg, hdg⟩ := id h
  have hv := hR.1
  have hC := hR.2.1
  have hre := hR.2.2
  have he : v 12 0 = nI e := hv.1.1
  have he9 : e ≤ 999 := hv.1.2
  have f0 : mv 0 0 = nI e := hre.1.1
  have f3 : mv 0 3 = nI e := hre.1.2.1
  have hM := re_okM hre hv (by omega)
  have num := rr_num hR
  have hN : okN v := nm_ok hv
  rcases z_b (zName x) with h9 | h9
  · rcases zNum_or (v 0) x with hn | ⟨n, hn, hne, hx0⟩
    · rcases zNum_or (v 0) (nI 0) with h2 | ⟨n, hn2, h2, hn0⟩
      · exact step_mk (pa, S, P, L, t, v, u, pv) (mv, my) (c_X3_acquire_lim l G o pr q a b d pa S P L t v u pv x h9 (c_X1_hasRoomFor_no l G a v x hn h2)) (c_X4_acquire_no l G ma mv my x h9 ((num _).trans hn) ((num _).trans h2)) rfl (rel_same h)
      · have hop := op_new hR h9 hn hn2 hn0
        exact step_mk (rcA (S 0) pa, nup S 0 (svN (S 0)), P, L, t, _, u, rcV (S 0) pv v) (mrow (mrow mv 1 (svR (mv 1) (mv 0) (S 0))) 0 (mEntN (mv 0) n x), nup my 0 (svN (S 0))) (c_X3_acquire_ok l G o pr q a b d pa S P L t v u pv x n _ h9 h4 (c_X1_hasRoomFor_new l G a v x n hn hn2 h2) hn2 (c_X1_enter_new l G a v x n hn hn2 h2)) (c_X4_acquire_new l G ma mv my x h9 n ((num _).trans hn) hn2 ((num _).trans h2) (S 0) hy0 h4) (tag_eq hop hn2) (rel_rec h (RR_mono hop (by omega)) rfl (fun _ _ => rfl) rfl rfl (okDg_of hdg rfl) rfl rfl)
    · have h0 : ¬ v 0 n = 0 := by rw [hx0]; exact name_ne h9
      by_cases hu : nI 999 ≤ v 1 n
      · exact step_mk (pa, S, P, L, t, v, u, pv) (mv, my) (c_X3_acquire_lim l G o pr q a b d pa S P L t v u pv x h9 (by have := c_X1_hasRoomFor_old l G a v x n hn hne; rw [decide_eq_false (fun z => z hu)] at this; exact this)) (c_X4_acquire_full l G ma mv my x h9 n hn ((num _).trans hne) (by rw [rr_us hR hn]; exact hu)) rfl (rel_same h)
      · have hop := op_use hR hn h0 ((us_room hv hn).mp hu)
        exact step_mk (rcA (S 0) pa, nup S 0 (svN (S 0)), P, L, t, _, u, rcV (S 0) pv v) (mrow (mrow mv 1 (svR (mv 1) (mv 0) (S 0))) 0 (mEntO (mv 0) n), nup my 0 (svN (S 0))) (c_X3_acquire_ok l G o pr q a b d pa S P L t v u pv x n _ h9 h4 (by have := c_X1_hasRoomFor_old l G a v x n hn hne; rw [decide_eq_true hu] at this; exact this) hn (c_X1_enter_old l G a v x n hn hne)) (c_X4_acquire_old l G ma mv my x h9 n hn ((num _).trans hne) (by rw [rr_us hR hn]; exact hu) (S 0) hy0 h4) (tag_eq hop hn) (rel_rec h (RR_mono hop (by omega)) rfl (fun _ _ => rfl) rfl rfl (okDg_of hdg rfl) rfl rfl)
  · exact step_mk (pa, S, P, L, t, v, u, pv) (mv, my) (c_X3_acquire_bad l G o pr q a b d pa S P L t v u pv x h9) (c_X4_acquire_bad l G ma mv my x h9) rfl (rel_same h)

set_option maxHeartbeats 4000000 in
theorem st_use (l : Launch) (G : ZG) (o pr q : Nat) (a b d : Nat → Nat) (pa : Nat → Nat → Nat) (S P L : Nat → Nat) (t v u : Mem) (pv : Nat → Mem) (ma : Nat → Nat) (mv : Mem) (my : Nat → Nat) (B : Nat) (h : Rel B S L t v pv mv my) (hB : B < 2 ^ 30) (x : Int32) : StepI l G yX3_use wsX3_use (zRm 3 83) yX4_use wsX4_use (zRm 2 48) [.int x] o pr q a b d pa S P L t v u pv ma mv my B := by
  obtain ⟨⟨e, hR⟩, ⟨h4, hy0⟩, hpast, ⟨hL6, hy1⟩, hTx, hTm, hsg, hdg⟩ := id h
  have hv := hR.1
  have hC := hR.2.1
  have hre := hR.2.2
  have he : v 12 0 = nI e := hv.1.1
  have he9 : e ≤ 999 := hv.1.2
  have f0 : mv 0 0 = nI e := hre.1.1
  have f3 : mv 0 3 = nI e := hre.1.2.1
  have hM := re_okM hre hv (by omega)
  have num := rr_num hR
  have hN : okN v := nm_ok hv
  have hst := c_X1_standing l G a v x e he he9
  rcases sta_or hR hB x with ⟨n, hn, hz, hm, h0⟩ | ⟨k, oo, hk1, hk4, hz, hm⟩
  · rw [hz] at hst
    have hcal := c_X1_hasRoomForUser l G a v n hn
    by_cases hu : nI 999 ≤ v 1 n
    · rw [decide_eq_false (fun z => z hu)] at hcal
      exact step_mk (pa, S, P, L, t, v, u, pv) (mv, nup my 3 n) (c_X3_use_lim l G o pr q a b d pa S P L t v u pv x n hst hn hcal) (c_X4_use_no l G ma mv my x e f0 f3 he9 hM n hm hn ((full_eq hR hn).mp hu)) rfl (rel_n3 h n)
    · rw [decide_eq_true hu] at hcal
      have hop := op_use hR hn h0 ((us_room hv hn).mp hu)
      exact step_mk (rcA (S 0) pa, nup S 0 (svN (S 0)), P, L, t, _, u, rcV (S 0) pv v) (mrow (mrow mv 1 (svR (mv 1) (mv 0) (S 0))) 0 (mEntO (mv 0) n), nup (nup my 0 (svN (S 0))) 3 n) (c_X3_use_ok l G o pr q a b d pa S P L t v u pv x n _ _ hst hn h4 hcal (c_X1_addUser l G a v n hn)) (c_X4_use_ok l G ma mv my x e f0 f3 he9 hM n hm hn (fun z => hu ((full_eq hR hn).mpr z)) (S 0) hy0 h4) (by rw [rr_us hR hn]) (rel_rec h (RR_mono hop (by omega)) rfl (fun _ _ => rfl) rfl rfl (okDg_of hdg rfl) rfl rfl)
  · rw [hz] at hst
    exact step_mk (pa, S, P, L, t, v, u, pv) (mv, mY my (k, oo)) (c_X3_use_st l G o pr q a b d pa S P L t v u pv x _ hst (neg_k hk1 hk4).1) (c_X4_use_bad l G ma mv my x e f0 f3 he9 hM k oo hm hk1 hk4) rfl (rel_mY h _)

set_option maxHeartbeats 4000000 in
theorem st_release (l : Launch) (G : ZG) (o pr q : Nat) (a b d : Nat → Nat) (pa : Nat → Nat → Nat) (S P L : Nat → Nat) (t v u : Mem) (pv : Nat → Mem) (ma : Nat → Nat) (mv : Mem) (my : Nat → Nat) (B : Nat) (h : Rel B S L t v pv mv my) (hB : B < 2 ^ 30) (x : Int32) : StepI l G yX3_release wsX3_release (zRm 3 83) yX4_release wsX4_release (zRm 2 48) [.int x] o pr q a b d pa S P L t v u pv ma mv my B := by
  obtain ⟨⟨e, hR⟩, ⟨h4, hy0⟩, hpast, ⟨hL6, hy1⟩, hTx, hTm, hsg, hdg⟩ := id h
  have hv := hR.1
  have hC := hR.2.1
  have hre := hR.2.2
  have he : v 12 0 = nI e := hv.1.1
  have he9 : e ≤ 999 := hv.1.2
  have f0 : mv 0 0 = nI e := hre.1.1
  have f3 : mv 0 3 = nI e := hre.1.2.1
  have hM := re_okM hre hv (by omega)
  have num := rr_num hR
  have hN : okN v := nm_ok hv
  have hst := c_X1_standing l G a v x e he he9
  rcases sta_or hR hB x with ⟨n, hn, hz, hm, h0⟩ | ⟨k, oo, hk1, hk4, hz, hm⟩
  · rw [hz] at hst
    have hcal := c_X1_hasFreeUser l G a v n hn
    by_cases hu : v 1 n ≤ nI (zCells (v 3) (nI n))
    · rw [decide_eq_false (fun z => z hu)] at hcal
      exact step_mk (pa, S, P, L, t, v, u, pv) (mv, nup my 3 n) (c_X3_release_lim l G o pr q a b d pa S P L t v u pv x n hst hn hcal) (c_X4_release_no l G ma mv my x e f0 f3 he9 hM n hm hn ((free_eq hR hn).mp hu)) rfl (rel_n3 h n)
    · rw [decide_eq_true hu] at hcal
      have hfr := (rr_free hR hn).mp hu
      have hop := op_give hR hn hfr
      exact step_mk (rcA (S 0) pa, nup S 0 (svN (S 0)), P, L, t, _, u, rcV (S 0) pv v) (mrow (mrow mv 1 (svR (mv 1) (mv 0) (S 0))) 0 (mGive (mv 0) n), nup (nup my 0 (svN (S 0))) 3 n) (c_X3_release_ok l G o pr q a b d pa S P L t v u pv x n _ _ hst hn h4 hcal (c_X1_giveBack l G a v n hn (us_pos hv hn (by omega)))) (c_X4_release_ok l G ma mv my x e f0 f3 he9 hM n hm hn (fun z => hu ((free_eq hR hn).mpr z)) (S 0) hy0 h4) (by rw [rr_us hR hn]) (rel_rec h (RR_mono hop (by omega)) rfl (fun _ _ => rfl) rfl rfl (okDg_of hdg rfl) rfl rfl)
  · rw [hz] at hst
    exact step_mk (pa, S, P, L, t, v, u, pv) (mv, mY my (k, oo)) (c_X3_release_st l G o pr q a b d pa S P L t v u pv x _ hst (neg_k hk1 hk4).1) (c_X4_release_bad l G ma mv my x e f0 f3 he9 hM k oo hm hk1 hk4) rfl (rel_mY h _)

set_option maxHeartbeats 4000000 in
theorem st_follow (l : Launch) (G : ZG) (o pr q : Nat) (a b d : Nat → Nat) (pa : Nat → Nat → Nat) (S P L : Nat → Nat) (t v u : Mem) (pv : Nat → Mem) (ma : Nat → Nat) (mv : Mem) (my : Nat → Nat) (B : Nat) (h : Rel B S L t v pv mv my) (hB : B < 2 ^ 30) (x : Int32) : StepI l G yX3_follow wsX3_follow (zRm 2 48) yX4_follow wsX4_follow (zRm 2 48) [.int x] o pr q a b d pa S P L t v u pv ma mv my B := by
  obtain ⟨⟨e, hR⟩, ⟨h4, hy0⟩, hpast, ⟨hL6, hy1⟩, hTx, hTm, hsg, hdg⟩ := id h
  have hv := hR.1
  have hC := hR.2.1
  have hre := hR.2.2
  have he : v 12 0 = nI e := hv.1.1
  have he9 : e ≤ 999 := hv.1.2
  have f0 : mv 0 0 = nI e := hre.1.1
  have f3 : mv 0 3 = nI e := hre.1.2.1
  have hM := re_okM hre hv (by omega)
  have num := rr_num hR
  have hN : okN v := nm_ok hv
  have hst := c_X1_standing l G a v x e he he9
  rcases sta_or hR hB x with ⟨n, hn, hz, hm, h0⟩ | ⟨k, oo, hk1, hk4, hz, hm⟩
  · rw [hz] at hst
    exact step_mk (pa, S, P, L, t, v, u, pv) (mv, nup my 3 n) (c_X3_follow_ok l G o pr q a b d pa S P L t v u pv x n hst hn) (c_X4_follow_ok l G ma mv my x e f0 f3 he9 hM n hm hn) (tag_eq hR hn) (rel_n3 h n)
  · rw [hz] at hst
    exact step_mk (pa, S, P, L, t, v, u, pv) (mv, mY my (k, oo)) (c_X3_follow_st l G o pr q a b d pa S P L t v u pv x _ hst (neg_k hk1 hk4).1) (c_X4_follow_bad l G ma mv my x e f0 f3 he9 hM k oo hm hk1 hk4) rfl (rel_mY h _)

set_option maxHeartbeats 4000000 in
theorem st_nameOf (l : Launch) (G : ZG) (o pr q : Nat) (a b d : Nat → Nat) (pa : Nat → Nat → Nat) (S P L : Nat → Nat) (t v u : Mem) (pv : Nat → Mem) (ma : Nat → Nat) (mv : Mem) (my : Nat → Nat) (B : Nat) (h : Rel B S L t v pv mv my) (hB : B < 2 ^ 30) (x : Int32) : StepI l G yX3_nameOf wsX3_nameOf (zRm 2 48) yX4_nameOf wsX4_nameOf (zRm 2 48) [.int x] o pr q a b d pa S P L t v u pv ma mv my B := by
  obtain ⟨⟨e, hR⟩, ⟨h4, hy0⟩, hpast, ⟨hL6, hy1⟩, hTx, hTm, hsg, hdg⟩ := id h
  have hv := hR.1
  have hC := hR.2.1
  have hre := hR.2.2
  have he : v 12 0 = nI e := hv.1.1
  have he9 : e ≤ 999 := hv.1.2
  have f0 : mv 0 0 = nI e := hre.1.1
  have f3 : mv 0 3 = nI e := hre.1.2.1
  have hM := re_okM hre hv (by omega)
  have num := rr_num hR
  have hN : okN v := nm_ok hv
  have hst := c_X1_standing l G a v x e he he9
  rcases sta_or hR hB x with ⟨n, hn, hz, hm, h0⟩ | ⟨k, oo, hk1, hk4, hz, hm⟩
  · rw [hz] at hst
    exact step_mk (pa, S, P, L, t, v, u, pv) (mv, nup my 3 n) (c_X3_nameOf_ok l G o pr q a b d pa S P L t v u pv x n hst hn) (c_X4_nameOf_ok l G ma mv my x e f0 f3 he9 hM n hm hn) (re_nm hre n hn).symm (rel_n3 h n)
  · rw [hz] at hst
    exact step_mk (pa, S, P, L, t, v, u, pv) (mv, mY my (k, oo)) (c_X3_nameOf_st l G o pr q a b d pa S P L t v u pv x _ hst (neg_k hk1 hk4).1) (c_X4_nameOf_bad l G ma mv my x e f0 f3 he9 hM k oo hm hk1 hk4) rfl (rel_mY h _)

set_option maxHeartbeats 4000000 in
theorem st_why (l : Launch) (G : ZG) (o pr q : Nat) (a b d : Nat → Nat) (pa : Nat → Nat → Nat) (S P L : Nat → Nat) (t v u : Mem) (pv : Nat → Mem) (ma : Nat → Nat) (mv : Mem) (my : Nat → Nat) (B : Nat) (h : Rel B S L t v pv mv my) (hB : B < 2 ^ 30) (x : Int32) : StepI l G yX3_why wsX3_why (zRm 2 48) yX4_why wsX4_why (zRm 2 48) [.int x] o pr q a b d pa S P L t v u pv ma mv my B := by
  obtain ⟨⟨e, hR⟩, ⟨h4, hy0⟩, hpast, ⟨hL6, hy1⟩, hTx, hTm, hsg, hdg⟩ := id h
  have hv := hR.1
  have hC := hR.2.1
  have hre := hR.2.2
  have he : v 12 0 = nI e := hv.1.1
  have he9 : e ≤ 999 := hv.1.2
  have f0 : mv 0 0 = nI e := hre.1.1
  have f3 : mv 0 3 = nI e := hre.1.2.1
  have hM := re_okM hre hv (by omega)
  have num := rr_num hR
  have hN : okN v := nm_ok hv
  have hst := c_X1_standing l G a v x e he he9
  rcases sta_or hR hB x with ⟨n, hn, hz, hm, h0⟩ | ⟨k, oo, hk1, hk4, hz, hm⟩
  · rw [hz] at hst
    exact step_mk (pa, S, P, L, t, v, u, pv) (mv, mY my (0, some n)) (c_X3_why_ok l G o pr q a b d pa S P L t v u pv x n hst hn) (c_X4_why l G ma mv my x e f0 f3 he9 hM 0 (some n) hm) rfl (rel_mY h (0, some n))
  · rw [hz] at hst
    exact step_mk (pa, S, P, L, t, v, u, pv) (mv, mY my (k, oo)) (c_X3_why_st l G o pr q a b d pa S P L t v u pv x _ hst (neg_k hk1 hk4).1) (c_X4_why l G ma mv my x e f0 f3 he9 hM k oo hm) (neg_k hk1 hk4).2 (rel_mY h _)

set_option maxHeartbeats 4000000 in
theorem st_put (l : Launch) (G : ZG) (o pr q : Nat) (a b d : Nat → Nat) (pa : Nat → Nat → Nat) (S P L : Nat → Nat) (t v u : Mem) (pv : Nat → Mem) (ma : Nat → Nat) (mv : Mem) (my : Nat → Nat) (B : Nat) (h : Rel B S L t v pv mv my) (hB : B < 2 ^ 30) (x y x0 : Int32) : StepI l G yX3_put wsX3_put (zRm 3 83) yX4_put wsX4_put (zRm 2 48) [.int x, .int y, .int x0] o pr q a b d pa S P L t v u pv ma mv my B := by
  obtain ⟨⟨e, hR⟩, ⟨h4, hy0⟩, hpast, ⟨hL6, hy1⟩, hTx, hTm, hsg, hdg⟩ := id h
  have hv := hR.1
  have hC := hR.2.1
  have hre := hR.2.2
  have he : v 12 0 = nI e := hv.1.1
  have he9 : e ≤ 999 := hv.1.2
  have f0 : mv 0 0 = nI e := hre.1.1
  have f3 : mv 0 3 = nI e := hre.1.2.1
  have hM := re_okM hre hv (by omega)
  have num := rr_num hR
  have hN : okN v := nm_ok hv
  rcases z_b (zBel x 3 && zBel y 6) with h9 | h9
  · rw [Bool.and_eq_true] at h9
    obtain ⟨tb, htb, rfl⟩ := zBel_of (by decide) h9.1
    obtain ⟨cl, hcl, rfl⟩ := zBel_of (by decide) h9.2
    have hix : tb * 6 + cl = 6 * tb + cl := by omega
    have hi : 6 * tb + cl < 18 := by omega
    have hcell : mv 0 (124 + (6 * tb + cl)) = v 3 (6 * tb + cl) := rr_cl hR hi
    have hst := c_X1_standing l G a v x0 e he he9
    rcases sta_or hR hB x0 with ⟨n, hn, hz, hm, h0⟩ | ⟨k, oo, hk1, hk4, hz, hm⟩
    · rw [hz] at hst
      have hcal := c_X1_hasRoomForUser l G a v n hn
      by_cases hu : nI 999 ≤ v 1 n
      · rw [decide_eq_false (fun z => z hu)] at hcal
        exact step_mk (pa, S, P, L, t, v, u, pv) (mv, nup my 3 n) (c_X3_put_lim l G o pr q a b d pa S P L t v u pv tb cl x0 n htb hcl hst hn hcal) (c_X4_put_no l G ma mv my tb cl x0 (by omega) (by omega) e f0 f3 he9 hM n hm hn ((full_eq hR hn).mp hu)) rfl (rel_n3 h n)
      · rw [decide_eq_true hu] at hcal
        have hro := (us_room hv hn).mp hu
        have hu2 : ¬ mv 0 (44 + n) = nI 999 := fun z => hu ((full_eq hR hn).mpr z)
        rcases hv.2.2.2.2.1 (6 * tb + cl) hi with z | ⟨oc, ho, z⟩
        · have hop := op_fillE hR hi hn h0 hro z
          exact step_mk (rcA (S 0) pa, nup S 0 (svN (S 0)), P, L, t, _, u, rcV (S 0) pv v) (mrow (mrow mv 1 (svR (mv 1) (mv 0) (S 0))) 0 (mPut1 (mv 0) (6 * tb + cl) n), nup (nup my 0 (svN (S 0))) 3 n) (c_X3_put_ok l G o pr q a b d pa S P L t v u pv tb cl x0 n _ _ htb hcl hst hn h4 hcal (by rw [hix]; exact c_X1_fillCell_e l G a v _ n hi hn z)) (c_X4_put_e l G ma mv my tb cl x0 (by omega) (by omega) e f0 f3 he9 hM n hm hn hu2 (S 0) hy0 h4 (hcell.trans z)) (by rw [rr_us hR hn]) (rel_rec h (RR_mono hop (by omega)) rfl (fun _ _ => rfl) rfl rfl (okDg_of hdg rfl) rfl rfl)
        · have hop := op_fillO hR hi hn ho h0 hro z
          exact step_mk (rcA (S 0) pa, nup S 0 (svN (S 0)), P, L, t, _, u, rcV (S 0) pv v) (mrow (mrow mv 1 (svR (mv 1) (mv 0) (S 0))) 0 (mGive (mPut1 (mv 0) (6 * tb + cl) n) oc), nup (nup my 0 (svN (S 0))) 3 n) (c_X3_put_ok l G o pr q a b d pa S P L t v u pv tb cl x0 n _ _ htb hcl hst hn h4 hcal (by rw [hix]; exact c_X1_fillCell_o l G a v _ n oc hi hn ho z hop.2.1)) (c_X4_put_o l G ma mv my tb cl x0 (by omega) (by omega) e f0 f3 he9 hM n hm hn hu2 (S 0) hy0 h4 oc ho (hcell.trans z)) hop.2.2 (rel_rec h (RR_mono hop.1 (by omega)) rfl (fun _ _ => rfl) rfl rfl (okDg_of hdg rfl) rfl rfl)
    · rw [hz] at hst
      exact step_mk (pa, S, P, L, t, v, u, pv) (mv, mY my (k, oo)) (c_X3_put_st l G o pr q a b d pa S P L t v u pv tb cl x0 _ htb hcl hst (neg_k hk1 hk4).1) (c_X4_put_bad l G ma mv my tb cl x0 (by omega) (by omega) e f0 f3 he9 hM k oo hm hk1 hk4) rfl (rel_mY h _)
  · exact step_mk (pa, S, P, L, t, v, u, pv) (mv, my) (c_X3_put_bad l G o pr q a b d pa S P L t v u pv x y x0 h9) (c_X4_put_cb l G ma mv my x y x0 (by rw [zWi_bel (by decide), zWi_bel (by decide)]; exact h9)) rfl (rel_same h)

set_option maxHeartbeats 4000000 in
theorem st_clear (l : Launch) (G : ZG) (o pr q : Nat) (a b d : Nat → Nat) (pa : Nat → Nat → Nat) (S P L : Nat → Nat) (t v u : Mem) (pv : Nat → Mem) (ma : Nat → Nat) (mv : Mem) (my : Nat → Nat) (B : Nat) (h : Rel B S L t v pv mv my) (hB : B < 2 ^ 30) (x y : Int32) : StepI l G yX3_clear wsX3_clear (zRm 3 83) yX4_clear wsX4_clear (zRm 2 43) [.int x, .int y] o pr q a b d pa S P L t v u pv ma mv my B := by
  obtain ⟨⟨e, hR⟩, ⟨h4, hy0⟩, hpast, ⟨hL6, hy1⟩, hTx, hTm, hsg, hdg⟩ := id h
  have hv := hR.1
  have hC := hR.2.1
  have hre := hR.2.2
  have he : v 12 0 = nI e := hv.1.1
  have he9 : e ≤ 999 := hv.1.2
  have f0 : mv 0 0 = nI e := hre.1.1
  have f3 : mv 0 3 = nI e := hre.1.2.1
  have hM := re_okM hre hv (by omega)
  have num := rr_num hR
  have hN : okN v := nm_ok hv
  rcases z_b (zBel x 3 && zBel y 6) with h9 | h9
  · rw [Bool.and_eq_true] at h9
    obtain ⟨tb, htb, rfl⟩ := zBel_of (by decide) h9.1
    obtain ⟨cl, hcl, rfl⟩ := zBel_of (by decide) h9.2
    have hix : tb * 6 + cl = 6 * tb + cl := by omega
    have hi : 6 * tb + cl < 18 := by omega
    have hcell : mv 0 (124 + (6 * tb + cl)) = v 3 (6 * tb + cl) := rr_cl hR hi
    rcases hv.2.2.2.2.1 (6 * tb + cl) hi with z | ⟨oc, ho, z⟩
    · exact step_mk (pa, S, P, L, t, v, u, pv) (mv, my) (c_X3_clear_no l G o pr q a b d pa S P L t v u pv tb cl htb hcl (by rw [hix]; exact z)) (c_X4_clear_no l G ma mv my tb cl (by omega) (by omega) (hcell.trans z)) rfl (rel_same h)
    · have hop := op_clear hR hi ho z
      exact step_mk (rcA (S 0) pa, nup S 0 (svN (S 0)), P, L, t, _, u, rcV (S 0) pv v) (mrow (mrow mv 1 (svR (mv 1) (mv 0) (S 0))) 0 (mGive (upd (mv 0) (124 + (6 * tb + cl)) (-1)) oc), nup my 0 (svN (S 0))) (c_X3_clear_ok l G o pr q a b d pa S P L t v u pv tb cl oc _ _ htb hcl (by rw [hix]; exact z) ho h4 (by rw [hix]; exact c_X1_emptyCell l G a v _ oc hi ho z hop.2)) (c_X4_clear_ok l G ma mv my tb cl (by omega) (by omega) oc ho (hcell.trans z) (S 0) hy0 h4) (by rw [rr_us hR ho]) (rel_rec h (RR_mono hop.1 (by omega)) rfl (fun _ _ => rfl) rfl rfl (okDg_of hdg rfl) rfl rfl)
  · exact step_mk (pa, S, P, L, t, v, u, pv) (mv, my) (c_X3_clear_bad l G o pr q a b d pa S P L t v u pv x y h9) (c_X4_clear_cb l G ma mv my x y (by rw [zWi_bel (by decide), zWi_bel (by decide)]; exact h9)) rfl (rel_same h)

set_option maxHeartbeats 4000000 in
theorem st_cellOf (l : Launch) (G : ZG) (o pr q : Nat) (a b d : Nat → Nat) (pa : Nat → Nat → Nat) (S P L : Nat → Nat) (t v u : Mem) (pv : Nat → Mem) (ma : Nat → Nat) (mv : Mem) (my : Nat → Nat) (B : Nat) (h : Rel B S L t v pv mv my) (hB : B < 2 ^ 30) (x y : Int32) : StepI l G yX3_cellOf wsX3_cellOf (zRm 2 43) yX4_cellOf wsX4_cellOf (zRm 2 43) [.int x, .int y] o pr q a b d pa S P L t v u pv ma mv my B := by
  obtain ⟨⟨e, hR⟩, ⟨h4, hy0⟩, hpast, ⟨hL6, hy1⟩, hTx, hTm, hsg, hdg⟩ := id h
  have hv := hR.1
  have hC := hR.2.1
  have hre := hR.2.2
  have he : v 12 0 = nI e := hv.1.1
  have he9 : e ≤ 999 := hv.1.2
  have f0 : mv 0 0 = nI e := hre.1.1
  have f3 : mv 0 3 = nI e := hre.1.2.1
  have hM := re_okM hre hv (by omega)
  have num := rr_num hR
  have hN : okN v := nm_ok hv
  rcases z_b (zBel x 3 && zBel y 6) with h9 | h9
  · rw [Bool.and_eq_true] at h9
    obtain ⟨tb, htb, rfl⟩ := zBel_of (by decide) h9.1
    obtain ⟨cl, hcl, rfl⟩ := zBel_of (by decide) h9.2
    have hix : tb * 6 + cl = 6 * tb + cl := by omega
    have hi : 6 * tb + cl < 18 := by omega
    have hcell : mv 0 (124 + (6 * tb + cl)) = v 3 (6 * tb + cl) := rr_cl hR hi
    rcases hv.2.2.2.2.1 (6 * tb + cl) hi with z | ⟨oc, ho, z⟩
    · exact step_mk (pa, S, P, L, t, v, u, pv) (mv, my) (c_X3_cellOf_no l G o pr q a b d pa S P L t v u pv tb cl htb hcl (by rw [hix]; exact z)) (c_X4_cellOf_no l G ma mv my tb cl (by omega) (by omega) (hcell.trans z)) rfl (rel_same h)
    · exact step_mk (pa, S, P, L, t, v, u, pv) (mv, my) (c_X3_cellOf_ok l G o pr q a b d pa S P L t v u pv tb cl oc htb hcl (by rw [hix]; exact z) ho) (c_X4_cellOf_ok l G ma mv my tb cl (by omega) (by omega) oc ho (hcell.trans z)) (tag_eq hR ho) (rel_same h)
  · exact step_mk (pa, S, P, L, t, v, u, pv) (mv, my) (c_X3_cellOf_bad l G o pr q a b d pa S P L t v u pv x y h9) (c_X4_cellOf_cb l G ma mv my x y (by rw [zWi_bel (by decide), zWi_bel (by decide)]; exact h9)) rfl (rel_same h)

set_option maxHeartbeats 4000000 in
theorem st_compact (l : Launch) (G : ZG) (o pr q : Nat) (a b d : Nat → Nat) (pa : Nat → Nat → Nat) (S P L : Nat → Nat) (t v u : Mem) (pv : Nat → Mem) (ma : Nat → Nat) (mv : Mem) (my : Nat → Nat) (B : Nat) (h : Rel B S L t v pv mv my) (hB : B < 2 ^ 30) (x : Int32) : StepI l G yX3_compact wsX3_compact (zRm 4 95) yX4_compact wsX4_compact (zRm 4 92) [.int x] o pr q a b d pa S P L t v u pv ma mv my B := by
  obtain ⟨⟨e, hR⟩, ⟨h4, hy0⟩, hpast, ⟨hL6, hy1⟩, hTx, hTm, hsg, hdg⟩ := id h
  have hv := hR.1
  have hC := hR.2.1
  have hre := hR.2.2
  have he : v 12 0 = nI e := hv.1.1
  have he9 : e ≤ 999 := hv.1.2
  have f0 : mv 0 0 = nI e := hre.1.1
  have f3 : mv 0 3 = nI e := hre.1.2.1
  have hM := re_okM hre hv (by omega)
  have num := rr_num hR
  have hN : okN v := nm_ok hv
  rcases z_b (zBel x 3) with h9 | h9
  · obtain ⟨ρ, hρ, rfl⟩ := zBel_of (by decide) h9
    have hcal := c_X1_hasNextEpoch l G a v e he he9
    by_cases h99 : e < 999
    · rw [decide_eq_true h99] at hcal
      refine step_mE (rcA (S 0) pa, nup S 0 (svN (S 0)), P, L, t, _, u, rcV (S 0) pv v) (c_X3_compact_ok l G o pr q a b d pa S P L t v u pv ρ _ _ hρ h4 hcal (c_X1_giveAnew l G a v ρ e (by omega) hN he he9)) (c_X4_compact_ok l G ma mv my ρ (by omega) (re_okNm hre hv) (re_injN hre hv) (re_okCl hre hv hC) (by rw [f0, nI_eq (by omega) (by omega)]; omega) (S 0) hy0 h4) (fun r z hz => ?_)
      obtain ⟨z1, z2⟩ := hz
      have hop := op_anew hR h99 z1
      refine ⟨by rw [z2, hop.2], (mrow (mrow (mrow (mrow mv 1 (svR (mv 1) (mv 0) (S 0))) 0 z.1) 4 z.2.1) 5 z.2.2, nup (nup my 0 (svN (S 0))) 2 (cntA (mv 0))), rfl, ?_⟩
      exact (rel_rec h (RR_mono hop.1 (by omega)) rfl (fun _ _ => rfl) rfl rfl (okDg_of hdg rfl) rfl rfl)
    · rw [decide_eq_false h99] at hcal
      exact step_mk (pa, S, P, L, t, v, u, pv) (mv, my) (c_X3_compact_lim l G o pr q a b d pa S P L t v u pv ρ hρ hcal) (c_X4_compact_no l G ma mv my ρ (by omega) (by rw [f0, show e = 999 by omega])) rfl (rel_same h)
  · exact step_mk (pa, S, P, L, t, v, u, pv) (mv, my) (c_X3_compact_bad l G o pr q a b d pa S P L t v u pv x h9) (c_X4_compact_bad l G ma mv my x (by rw [zWi_bel (by decide)]; exact h9)) rfl (rel_same h)
