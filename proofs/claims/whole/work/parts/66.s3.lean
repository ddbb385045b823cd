theorem okTx_upd {f : Nat → Int32} {k ch : Nat} (h : okTx f) (hc : ch < 65536) : okTx (upd f k (nI ch)) := by
  intro j hj
  unfold upd
  by_cases hk : j = k
  · rw [if_pos hk, nI_clamp (by omega)]
    exact ⟨rfl, hc⟩
  · rw [if_neg hk]
    exact h j hj

set_option maxHeartbeats 4000000 in
theorem st_undo (l : Launch) (G : ZG) (o pr q : Nat) (a b d : Nat → Nat) (pa : Nat → Nat → Nat) (S P L : Nat → Nat) (t v u : Mem) (pv : Nat → Mem) (ma : Nat → Nat) (mv : Mem) (my : Nat → Nat) (B : Nat) (h : Rel B S L t v pv mv my) (hB : B < 2 ^ 30)  : StepI l G yX3_undo wsX3_undo (zRm 2 61) yX4_undo wsX4_undo (zRm 0 0) [] o pr q a b d pa S P L t v u pv ma mv my B := by
  obtain ⟨⟨e, hR⟩, ⟨h4, hy0⟩, hpast, ⟨hL6, hy1⟩, hTx, hTm, hsg, hdg⟩ := id h
  have hv := hR.1
  have hC := hR.2.1
  have hre := hR.2.2
  have he : v 12 0 = nI e := hv.1.1
  have he9 : e ≤ 999 := hv.1.2
  have f0 : mv 0 0 = nI e := hre.1.1
  have f3 : mv 0 3 = nI e := hre.1.2.1
  have hM := re_okM hre hv (by omega)
  have num := rr_num hR
  have hN : okN v := nm_ok hv
  by_cases h0 : S 0 = 0
  · exact step_mk (pa, S, P, L, t, v, u, pv) (mv, my) (c_X3_undo_z l G o pr q a b d pa S P L t v u pv h0) (c_X4_undo_z l G ma mv my (hy0.trans h0)) rfl (rel_same h)
  · obtain ⟨k, hk⟩ : ∃ k, S 0 = k + 1 := ⟨S 0 - 1, by omega⟩
    obtain ⟨e2, hk2⟩ := hpast k (by omega)
    refine step_mk (pa, nup S 0 k, P, L, t, zCopy v (pv k), u, pv) (mrow mv 0 (zMap (mv 0) (segP (mv 1) k) 511), nup my 0 k) (c_X3_undo_s l G o pr q a b d pa S P L t v u pv k hk (by omega)) (c_X4_undo_s l G ma mv my k (hy0.trans hk) (by omega)) rfl ?_
    refine ⟨⟨e2, RR_cong (RR_same (copy_same _ _) (RR_mono hk2 (by omega))) (fun x hx => zMap_lo hx)⟩, ⟨by show k ≤ 4; omega, rfl⟩, fun j hj => ?_, ⟨hL6, hy1⟩, hTx, hTm, hsg, okDg_of hdg rfl⟩
    obtain ⟨e3, hj3⟩ := hpast j (by have : j < k := hj; omega)
    exact ⟨e3, RR_mono hj3 (by omega)⟩

set_option maxHeartbeats 4000000 in
theorem st_type (l : Launch) (G : ZG) (o pr q : Nat) (a b d : Nat → Nat) (pa : Nat → Nat → Nat) (S P L : Nat → Nat) (t v u : Mem) (pv : Nat → Mem) (ma : Nat → Nat) (mv : Mem) (my : Nat → Nat) (B : Nat) (h : Rel B S L t v pv mv my) (hB : B < 2 ^ 30) (x : Int32) : StepI l G yX3_type wsX3_type (zRm 2 42) yX4_type wsX4_type (zRm 1 22) [.int x] o pr q a b d pa S P L t v u pv ma mv my B := by
  obtain ⟨⟨e, hR⟩, ⟨h4, hy0⟩, hpast, ⟨hL6, hy1⟩, hTx, hTm, hsg, hdg⟩ := id h
  have hv := hR.1
  have hC := hR.2.1
  have hre := hR.2.2
  have he : v 12 0 = nI e := hv.1.1
  have he9 : e ≤ 999 := hv.1.2
  have f0 : mv 0 0 = nI e := hre.1.1
  have f3 : mv 0 3 = nI e := hre.1.2.1
  have hM := re_okM hre hv (by omega)
  have num := rr_num hR
  have hN : okN v := nm_ok hv
  rcases z_b (zWi x 32 126) with h9 | h9
  · obtain ⟨ch, c1, c2, rfl⟩ := zWi_of (by decide) (by decide) h9
    by_cases h6 : L 0 = 60
    · exact step_mk (pa, S, P, L, t, v, u, pv) (mv, my) (c_X3_type_full l G o pr q a b d pa S P L t v u pv ch c1 c2 h6) (c_X4_type_full l G ma mv my ch c1 c2 (hy1.trans h6)) rfl (rel_same h)
    · refine step_mk (pa, S, P, nup L 0 (L 0 + 1), mrow t 0 (upd (t 0) (L 0) (nI ch)), v, u, pv) (mrow mv 3 (upd (mv 3) (L 0) (nI ch)), nup my 1 (L 0 + 1)) (c_X3_type_ok l G o pr q a b d pa S P L t v u pv ch (L 0) c1 c2 rfl (by omega)) (c_X4_type_ok l G ma mv my ch (L 0) c1 c2 hy1 (by omega)) rfl ?_
      refine ⟨⟨e, RR_mono hR (by omega)⟩, ⟨h4, hy0⟩, fun j hj => ?_, ⟨by show L 0 + 1 ≤ 60; omega, rfl⟩, okTx_upd hTx (by omega), okTx_upd hTm (by omega), fun j hj => ?_, okDg_of hdg rfl⟩
      · obtain ⟨e3, hj3⟩ := hpast j hj
        exact ⟨e3, RR_mono hj3 (by omega)⟩
      · have hj : j < L 0 + 1 := hj
        show upd (t 0) (L 0) (nI ch) j = upd (mv 3) (L 0) (nI ch) j
        unfold upd
        by_cases hk : j = L 0
        · rw [if_pos hk, if_pos hk]
        · rw [if_neg hk, if_neg hk]
          exact hsg j (by omega)
  · by_cases l1 : x < nI 32
    · exact step_mk (pa, S, P, L, t, v, u, pv) (mv, my) (c_X3_type_lo l G o pr q a b d pa S P L t v u pv x l1) (c_X4_type_bad l G ma mv my x h9) rfl (rel_same h)
    · by_cases l2 : nI 126 < x
      · exact step_mk (pa, S, P, L, t, v, u, pv) (mv, my) (c_X3_type_hi l G o pr q a b d pa S P L t v u pv x l1 l2) (c_X4_type_bad l G ma mv my x h9) rfl (rel_same h)
      · have := zWi_t l1 l2
        rw [h9] at this
        cases this

set_option maxHeartbeats 4000000 in
theorem st_clearText (l : Launch) (G : ZG) (o pr q : Nat) (a b d : Nat → Nat) (pa : Nat → Nat → Nat) (S P L : Nat → Nat) (t v u : Mem) (pv : Nat → Mem) (ma : Nat → Nat) (mv : Mem) (my : Nat → Nat) (B : Nat) (h : Rel B S L t v pv mv my) (hB : B < 2 ^ 30)  : StepI l G yX3_clearText wsX3_clearText (zRm 0 0) yX4_clearText wsX4_clearText (zRm 0 0) [] o pr q a b d pa S P L t v u pv ma mv my B := by
  obtain ⟨⟨e, hR⟩, ⟨h4, hy0⟩, hpast, ⟨hL6, hy1⟩, hTx, hTm, hsg, hdg⟩ := id h
  have hv := hR.1
  have hC := hR.2.1
  have hre := hR.2.2
  have he : v 12 0 = nI e := hv.1.1
  have he9 : e ≤ 999 := hv.1.2
  have f0 : mv 0 0 = nI e := hre.1.1
  have f3 : mv 0 3 = nI e := hre.1.2.1
  have hM := re_okM hre hv (by omega)
  have num := rr_num hR
  have hN : okN v := nm_ok hv
  refine step_mk (pa, S, P, nup L 0 0, t, v, u, pv) (mv, nup my 1 0) (c_X3_clearText l G o pr q a b d pa S P L t v u pv) (c_X4_clearText l G ma mv my) (by rw [hy1]) ?_
  refine ⟨⟨e, RR_mono hR (by omega)⟩, ⟨h4, hy0⟩, fun j hj => ?_, ⟨Nat.zero_le _, rfl⟩, hTx, hTm, fun j hj => absurd hj (Nat.not_lt_zero _), hdg⟩
  obtain ⟨e3, hj3⟩ := hpast j hj
  exact ⟨e3, RR_mono hj3 (by omega)⟩

set_option maxHeartbeats 4000000 in
theorem st_fault (l : Launch) (G : ZG) (o pr q : Nat) (a b d : Nat → Nat) (pa : Nat → Nat → Nat) (S P L : Nat → Nat) (t v u : Mem) (pv : Nat → Mem) (ma : Nat → Nat) (mv : Mem) (my : Nat → Nat) (B : Nat) (h : Rel B S L t v pv mv my) (hB : B < 2 ^ 30) (x : Int32) : StepI l G yX3_fault wsX3_fault (zRm 6 139) yX4_fault wsX4_fault (zRm 6 137) [.int x] o pr q a b d pa S P L t v u pv ma mv my B := by
  obtain ⟨⟨e, hR⟩, ⟨h4, hy0⟩, hpast, ⟨hL6, hy1⟩, hTx, hTm, hsg, hdg⟩ := id h
  have hv := hR.1
  have hC := hR.2.1
  have hre := hR.2.2
  have he : v 12 0 = nI e := hv.1.1
  have he9 : e ≤ 999 := hv.1.2
  have f0 : mv 0 0 = nI e := hre.1.1
  have f3 : mv 0 3 = nI e := hre.1.2.1
  have hM := re_okM hre hv (by omega)
  have num := rr_num hR
  have hN : okN v := nm_ok hv
  have hda := (show daRes mv (zCopy u v) (L 0) = (xRun (sgT (t 0) (L 0)) (L 0) 61 0 0 (zCopy u v)) by rw [daRes, ← rel_sg h])
  rcases z_b (zBel x 3) with h9 | h9
  · obtain ⟨k, hk, rfl⟩ := zBel_of (by decide) h9
    rcases (show k = 0 ∨ k = 1 ∨ k = 2 by omega) with kk | kk | kk <;> subst kk
    · refine step_EE (fltR (xRun (sgT (t 0) (L 0)) (L 0) 61 0 0 (zCopy u v)) 0) (fun c => ∃ P1 u1, c = (pa, S, P1, L, t, v, u1, pv)) (c_X3_fault_k0 l G o pr q a b d pa S P L t v u pv B (L 0) rfl hL6 hTx (rel_okR h)) (fun r z hz => ⟨hz, (pa, S, z.1, L, t, v, z.2, pv), rfl, z.1, z.2, rfl⟩) (c_X4_fault_ok l G ma mv my 0 (by decide) (zCopy u v) e B (RR_same (copy_same u v) hR) hdg (L 0) hy1 hL6 hTm) (fun r z hz => ⟨hz.1.trans (by rw [hda]), z, rfl, fun c hc => ?_⟩)
      obtain ⟨P1, u1, rfl⟩ := hc
      obtain ⟨k1, k2, k3, k4, k5, k6⟩ := hz.2
      exact rel_keep h k1 k2 k3 k4 k5 k6
    · refine step_EE (fltR (xRun (sgT (t 0) (L 0)) (L 0) 61 0 0 (zCopy u v)) 1) (fun c => ∃ P1 u1, c = (pa, S, P1, L, t, v, u1, pv)) (c_X3_fault_k1 l G o pr q a b d pa S P L t v u pv B (L 0) rfl hL6 hTx (rel_okR h)) (fun r z hz => ⟨hz, (pa, S, z.1, L, t, v, z.2, pv), rfl, z.1, z.2, rfl⟩) (c_X4_fault_ok l G ma mv my 1 (by decide) (zCopy u v) e B (RR_same (copy_same u v) hR) hdg (L 0) hy1 hL6 hTm) (fun r z hz => ⟨hz.1.trans (by rw [hda]), z, rfl, fun c hc => ?_⟩)
      obtain ⟨P1, u1, rfl⟩ := hc
      obtain ⟨k1, k2, k3, k4, k5, k6⟩ := hz.2
      exact rel_keep h k1 k2 k3 k4 k5 k6
    · refine step_EE (fltR (xRun (sgT (t 0) (L 0)) (L 0) 61 0 0 (zCopy u v)) 2) (fun c => ∃ P1 u1, c = (pa, S, P1, L, t, v, u1, pv)) (c_X3_fault_k2 l G o pr q a b d pa S P L t v u pv B (L 0) rfl hL6 hTx (rel_okR h)) (fun r z hz => ⟨hz, (pa, S, z.1, L, t, v, z.2, pv), rfl, z.1, z.2, rfl⟩) (c_X4_fault_ok l G ma mv my 2 (by decide) (zCopy u v) e B (RR_same (copy_same u v) hR) hdg (L 0) hy1 hL6 hTm) (fun r z hz => ⟨hz.1.trans (by rw [hda]), z, rfl, fun c hc => ?_⟩)
      obtain ⟨P1, u1, rfl⟩ := hc
      obtain ⟨k1, k2, k3, k4, k5, k6⟩ := hz.2
      exact rel_keep h k1 k2 k3 k4 k5 k6
  · exact step_mk (pa, S, P, L, t, v, u, pv) (mv, my) (c_X3_fault_bad l G o pr q a b d pa S P L t v u pv x h9) (c_X4_fault_bad l G ma mv my x (by rw [zWi_bel (by decide)]; exact h9)) rfl (rel_same h)

set_option maxHeartbeats 4000000 in
theorem st_play (l : Launch) (G : ZG) (o pr q : Nat) (a b d : Nat → Nat) (pa : Nat → Nat → Nat) (S P L : Nat → Nat) (t v u : Mem) (pv : Nat → Mem) (ma : Nat → Nat) (mv : Mem) (my : Nat → Nat) (B : Nat) (h : Rel B S L t v pv mv my) (hB : B < 2 ^ 30)  : StepI l G yX3_play wsX3_play (zRm 6 139) yX4_play wsX4_play (zRm 6 137) [] o pr q a b d pa S P L t v u pv ma mv my B := by
  obtain ⟨⟨e, hR⟩, ⟨h4, hy0⟩, hpast, ⟨hL6, hy1⟩, hTx, hTm, hsg, hdg⟩ := id h
  have hv := hR.1
  have hC := hR.2.1
  have hre := hR.2.2
  have he : v 12 0 = nI e := hv.1.1
  have he9 : e ≤ 999 := hv.1.2
  have f0 : mv 0 0 = nI e := hre.1.1
  have f3 : mv 0 3 = nI e := hre.1.2.1
  have hM := re_okM hre hv (by omega)
  have num := rr_num hR
  have hN : okN v := nm_ok hv
  have hda := (show daRes mv (zCopy u v) (L 0) = (xRun (sgT (t 0) (L 0)) (L 0) 61 0 0 (zCopy u v)) by rw [daRes, ← rel_sg h])
  by_cases hno : (xRun (sgT (t 0) (L 0)) (L 0) 61 0 0 (zCopy u v)).2.1 = 0
  · refine step_EE (nI (xRun (sgT (t 0) (L 0)) (L 0) 61 0 0 (zCopy u v)).1) (fun c => ∃ P1, c = (rcA (S 0) pa, nup S 0 (svN (S 0)), P1, L, t, (zCopy v (xRun (sgT (t 0) (L 0)) (L 0) 61 0 0 (zCopy u v)).2.2.2.2), (xRun (sgT (t 0) (L 0)) (L 0) 61 0 0 (zCopy u v)).2.2.2.2, rcV (S 0) pv v)) (c_X3_play_ok l G o pr q a b d pa S P L t v u pv B (L 0) rfl hL6 hTx (rel_okR h) hno h4) (fun r z hz => ⟨hz.1, (rcA (S 0) pa, nup S 0 (svN (S 0)), z.1, L, t, (zCopy v z.2), z.2, rcV (S 0) pv v), rfl, z.1, by rw [hz.2]⟩) (c_X4_play_ok l G ma mv my (zCopy u v) e B (RR_same (copy_same u v) hR) hdg (L 0) hy1 hL6 hTm (by rw [hda]; exact hno) (S 0) hy0 h4) (fun r z hz => ?_)
    obtain ⟨z1, ⟨e2, z2⟩, ⟨F, z3, z4⟩, z5, z6, z7, z8⟩ := hz
    rw [hda] at z1 z2
    refine ⟨z1, z, rfl, fun c hc => ?_⟩
    obtain ⟨P1, rfl⟩ := hc
    exact rel_rec h (RR_same (copy_same _ _) z2) rfl z3 z4 z5 z6 z7 z8
  · refine step_EE (-1000002) (fun c => ∃ P1 u1, c = (pa, S, P1, L, t, v, u1, pv)) (c_X3_play_no l G o pr q a b d pa S P L t v u pv B (L 0) rfl hL6 hTx (rel_okR h) hno) (fun r z hz => ⟨hz, (pa, S, z.1, L, t, v, z.2, pv), rfl, z.1, z.2, rfl⟩) (c_X4_play_no l G ma mv my (zCopy u v) e B (RR_same (copy_same u v) hR) hdg (L 0) hy1 hL6 hTm (by rw [hda]; exact hno)) (fun r z hz => ⟨hz.1, z, rfl, fun c hc => ?_⟩)
    obtain ⟨P1, u1, rfl⟩ := hc
    obtain ⟨k1, k2, k3, k4, k5, k6⟩ := hz.2
    exact rel_keep h k1 k2 k3 k4 k5 k6
