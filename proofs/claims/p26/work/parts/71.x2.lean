/-! rolls that are the same but for what is no part of the state -/
section SM
variable {v w : Mem}
theorem same_symm (h : same v w) : same w v :=
  ⟨fun i hi => ⟨(h.1 i hi).1.symm, (h.1 i hi).2.1.symm, (h.1 i hi).2.2.symm⟩, fun i hi => (h.2.1 i hi).symm, fun i hi => ⟨(h.2.2.1 i hi).1.symm, (h.2.2.1 i hi).2.1.symm, (h.2.2.1 i hi).2.2.1.symm, (h.2.2.1 i hi).2.2.2.symm⟩, fun i hi => ⟨(h.2.2.2 i hi).1.symm, (h.2.2.2 i hi).2.1.symm, (h.2.2.2 i hi).2.2.symm⟩⟩
theorem same_refl (v : Mem) : same v v := ⟨fun _ _ => ⟨rfl, rfl, rfl⟩, fun _ _ => rfl, fun _ _ => ⟨rfl, rfl, rfl, rfl⟩, fun _ _ => ⟨rfl, rfl, rfl⟩⟩
theorem same_trans {x : Mem} (h : same v w) (g : same w x) : same v x :=
  ⟨fun i hi => ⟨(h.1 i hi).1.trans (g.1 i hi).1, (h.1 i hi).2.1.trans (g.1 i hi).2.1, (h.1 i hi).2.2.trans (g.1 i hi).2.2⟩, fun i hi => (h.2.1 i hi).trans (g.2.1 i hi), fun i hi => ⟨(h.2.2.1 i hi).1.trans (g.2.2.1 i hi).1, (h.2.2.1 i hi).2.1.trans (g.2.2.1 i hi).2.1, (h.2.2.1 i hi).2.2.1.trans (g.2.2.1 i hi).2.2.1, (h.2.2.1 i hi).2.2.2.trans (g.2.2.1 i hi).2.2.2⟩, fun i hi => ⟨(h.2.2.2 i hi).1.trans (g.2.2.2 i hi).1, (h.2.2.2 i hi).2.1.trans (g.2.2.2 i hi).2.1, (h.2.2.2 i hi).2.2.trans (g.2.2.2 i hi).2.2⟩⟩
theorem mst_pt {k i k' j : Nat} {x : Int32} (h : v k' j = w k' j) : mst v k i x k' j = mst w k i x k' j := by
  unfold mst
  by_cases q : k' = k
  · subst q
    rw [if_pos rfl, if_pos rfl]
    unfold upd
    by_cases z : j = i
    · rw [if_pos z, if_pos z]
    · rw [if_neg z, if_neg z]; exact h
  · rw [if_neg q, if_neg q]; exact h
theorem same_mst (h : same v w) (k i : Nat) (x : Int32) : same (mst v k i x) (mst w k i x) :=
  ⟨fun i hi => ⟨mst_pt (h.1 i hi).1, mst_pt (h.1 i hi).2.1, mst_pt (h.1 i hi).2.2⟩, fun i hi => mst_pt (h.2.1 i hi), fun i hi => ⟨mst_pt (h.2.2.1 i hi).1, mst_pt (h.2.2.1 i hi).2.1, mst_pt (h.2.2.1 i hi).2.2.1, mst_pt (h.2.2.1 i hi).2.2.2⟩, fun i hi => ⟨mst_pt (h.2.2.2 i hi).1, mst_pt (h.2.2.2 i hi).2.1, mst_pt (h.2.2.2 i hi).2.2⟩⟩
theorem same_12 (h : same v w) {k : Nat} (hk : k < 3) : v 12 k = w 12 k := (h.2.2.1 k hk).2.2.2
theorem zGive_same (h : same v w) {n : Nat} (hn : n < 40) : same (zGive v n) (zGive w n) := by
  obtain ⟨-, e1, e2⟩ := h.1 n hn
  unfold zGive
  rw [e1, e2, same_12 h (show 2 < 3 by omega)]
  by_cases q : w 1 n - nI 1 = 0
  · rw [if_pos q, if_pos q]
    exact same_mst (same_mst (same_mst (same_mst h _ _ _) _ _ _) _ _ _) _ _ _
  · rw [if_neg q, if_neg q]
    exact same_mst h _ _ _
theorem zNum_same (h : same v w) (x : Int32) : zNum (v 0) x = zNum (w 0) x := zNum_cong (fun i hi => (h.1 i hi).1) x
theorem zPl_same (h : same v w) (ρ : Nat) {n : Nat} (hn : n < 40) : zPl v ρ n = zPl w ρ n := by
  rw [zPl_eq, zPl_eq]
  exact zPos_cong (fun i hi => (h.1 i hi).1) (fun i hi => (h.1 i hi).2.1) hn
theorem ep_same (h : same v w) : ep v = ep w := by
  unfold ep
  rw [same_12 h (show 0 < 3 by omega)]
theorem ct_same (h : same v w) {n : Nat} (hn : n ≤ 40) : fb_ct (pNm v) n = fb_ct (pNm w) n := fb_ct_cong (fun k hk => by
  show decide (¬ v 0 k = 0) = decide (¬ w 0 k = 0)
  rw [(h.1 k (by omega)).1])
theorem nxN_same (h : same v w) (ρ : Nat) {n : Nat} (hn : n < 40) : nxN v ρ n = nxN w ρ n := by
  unfold nxN
  rw [(h.1 n hn).1, zPl_same h ρ hn]
theorem mvTo_cong {nb nb' old old' base base' : Nat → Int32} {q : Nat} : ∀ (i : Nat), (∀ j, j < i → nb j = nb' j) → (∀ j, j < i → old j = old' j) → base q = base' q → mvTo nb old base i q = mvTo nb' old' base' i q
  | 0, _, _, h => h
  | i + 1, h1, h2, h3 => by
    have ih := mvTo_cong i (fun j hj => h1 j (by omega)) (fun j hj => h2 j (by omega)) h3
    rw [mvTo, mvTo, h1 i (by omega)]
    by_cases z : zBel (nb' i) 40 = true
    · rw [if_pos z, if_pos z, h2 i (by omega)]
      unfold upd
      by_cases y : q = (nb' i).toNatClampNeg
      · rw [if_pos y, if_pos y]
      · rw [if_neg y, if_neg y]; exact ih
    · rw [if_neg z, if_neg z]; exact ih
section AS
variable {e ρ : Nat}
theorem nb_same (h : same v w) {j : Nat} (hj : j < 40) : nbR (anA v ρ e) (e % 3 * 40) j = nbR (anA w ρ e) (e % 3 * 40) j := by
  rw [an_nb hj, an_nb hj, (h.1 j hj).1, zPl_same h ρ hj]
theorem an0_same (h : same v w) {k : Nat} (hk : k < 40) : zAnew v ρ e 0 k = zAnew w ρ e 0 k := by
  rw [an_0, an_0, mvN, mvN, anA_k v ρ e (Or.inl rfl), anA_k w ρ e (Or.inl rfl)]
  exact mvTo_cong 40 (fun j hj => nb_same h hj) (fun j hj => (h.1 j hj).1) ((if_pos hk).trans (if_pos hk).symm)
theorem an1_same (h : same v w) {k : Nat} (hk : k < 40) : zAnew v ρ e 1 k = zAnew w ρ e 1 k := by
  rw [an_1, an_1, mvN, mvN, anA_k v ρ e (Or.inr (Or.inl rfl)), anA_k w ρ e (Or.inr (Or.inl rfl))]
  exact mvTo_cong 40 (fun j hj => nb_same h hj) (fun j hj => (h.1 j hj).2.1) ((if_pos hk).trans (if_pos hk).symm)
theorem an2_is {k : Nat} (hk : k < 40) : zAnew v ρ e 2 k = if zAnew v ρ e 0 k = v 0 k then v 2 k else v 2 k + nI 1 := by
  rw [an_2, zMap_lo hk, yrN, ← an_0, anA_k v ρ e (Or.inl rfl), anA_k v ρ e (Or.inr (Or.inr (Or.inl rfl)))]
theorem an2_same (h : same v w) {k : Nat} (hk : k < 40) : zAnew v ρ e 2 k = zAnew w ρ e 2 k := by
  rw [an2_is hk, an2_is hk, an0_same h hk, (h.1 k hk).1, (h.1 k hk).2.2]
theorem an3_same (h : same v w) {k : Nat} (hk : k < 18) : zAnew v ρ e 3 k = zAnew w ρ e 3 k := by
  rw [an_3, an_3, zMap_lo hk, zMap_lo hk, mvC, mvC, anM_3, anM_3, anM_8, anM_8, anA_k v ρ e (Or.inr (Or.inr (Or.inr rfl))), anA_k w ρ e (Or.inr (Or.inr (Or.inr rfl))), anA_8, anA_8, h.2.1 k hk]
  by_cases z : zBel (w 3 k) 40 = true
  · rw [if_pos z, if_pos z]
    obtain ⟨n, hn, hne⟩ := zBel_of (by decide) z
    rw [hne, nI_clamp (by omega), fb_put_in (by omega) (by omega), fb_put_in (by omega) (by omega), Nat.add_sub_cancel_left]
    exact nxN_same h ρ hn
  · rw [if_neg z, if_neg z]
theorem upd_pt {f g : Nat → Int32} {i j : Nat} {x y : Int32} (hf : f j = g j) (hx : x = y) : upd f i x j = upd g i y j := by
  subst hx
  unfold upd
  by_cases z : j = i
  · rw [if_pos z, if_pos z]
  · rw [if_neg z, if_neg z]; exact hf
theorem cpy_pt {f f' g g' : Nat → Int32} {r i : Nat} (hf : ∀ j, j < 40 → f j = f' j) (hg : g i = g' i) : va_cpy f g 0 r 40 i = va_cpy f' g' 0 r 40 i := by
  rcases Nat.lt_or_ge i r with q | q
  · rw [pk_cpy_out (Or.inl q), pk_cpy_out (Or.inl q)]; exact hg
  · rcases Nat.lt_or_ge i (r + 40) with z | z
    · rw [pk_cpy_in q z, pk_cpy_in q z]
      exact hf _ (by omega)
    · rw [pk_cpy_out (Or.inr z), pk_cpy_out (Or.inr z)]; exact hg
theorem zAnew_same (h : same v w) : same (zAnew v ρ e) (zAnew w ρ e) := by
  refine ⟨fun i hi => ⟨an0_same h hi, an1_same h hi, an2_same h hi⟩, fun i hi => an3_same h hi, fun i hi => ⟨?_, ?_, ?_, ?_⟩, fun i hi => ⟨?_, ?_, ?_⟩⟩
  · rw [an_4, an_4]; exact upd_pt (h.2.2.1 i hi).1 rfl
  · rw [an_5, an_5]; exact upd_pt (h.2.2.1 i hi).2.1 (by rw [ct_same h (Nat.le_refl 40)])
  · rw [an_6, an_6]
    refine upd_pt (h.2.2.1 i hi).2.2.1 ?_
    congr 1
    refine fb_ct_cong (fun k hk => ?_)
    show (decide (¬ nxN v ρ k = -1) && decide (¬ nxN v ρ k = nI k)) = (decide (¬ nxN w ρ k = -1) && decide (¬ nxN w ρ k = nI k))
    rw [nxN_same h ρ hk]
  · rw [an_12, an_12]; exact upd_pt (h.2.2.1 i hi).2.2.2 rfl
  · rw [an_7, an_7]; exact cpy_pt (fun j hj => (h.1 j hj).2.2) (h.2.2.2 i hi).1
  · rw [an_8, an_8]
    rcases Nat.lt_or_ge i (e % 3 * 40) with q | q
    · rw [fb_put_out (Or.inl q), fb_put_out (Or.inl q)]; exact (h.2.2.2 i hi).2.1
    · rcases Nat.lt_or_ge i (e % 3 * 40 + 40) with z | z
      · rw [fb_put_in q z, fb_put_in q z]
        exact nxN_same h ρ (by omega)
      · rw [fb_put_out (Or.inr z), fb_put_out (Or.inr z)]; exact (h.2.2.2 i hi).2.1
  · rw [an_9, an_9]; exact cpy_pt (fun j hj => an2_same h hj) (h.2.2.2 i hi).2.2
end AS
section XS
variable {c wd d0 d1 : Nat}
theorem xNo_or (v : Mem) (wd : Nat) : zNum (v 0) (nI wd) = -1 ∨ (xNo v wd < 40 ∧ zNum (v 0) (nI wd) = nI (xNo v wd) ∧ v 0 (xNo v wd) = nI wd) := by
  rcases zNum_or (v 0) (nI wd) with q | ⟨n, hn, q, z⟩
  · exact Or.inl q
  · have e1 : xNo v wd = n := by rw [xNo, q, nI_clamp (by omega)]
    rw [e1]
    exact Or.inr ⟨hn, q, z⟩
theorem xFree_or (v : Mem) : zNum (v 0) (nI 0) = -1 ∨ (xFree v < 40 ∧ zNum (v 0) (nI 0) = nI (xFree v) ∧ v 0 (xFree v) = nI 0) := xNo_or v 0
theorem xNo_same (h : same v w) : xNo v wd = xNo w wd := by rw [xNo, xNo, zNum_same h]
theorem xFree_same (h : same v w) : xFree v = xFree w := by rw [xFree, xFree, zNum_same h]
theorem xCan_same (h : same v w) : xCan v c wd = xCan w c wd := by
  unfold xCan
  rw [zNum_same h, zNum_same h, ep_same h, xNo_same h]
  rcases xNo_or w wd with q | ⟨q, -, -⟩
  · by_cases c1 : c = 33
    · rw [if_pos c1, if_pos c1]
    · rw [if_neg c1, if_neg c1, if_pos q, if_pos q, if_pos q, if_pos q]
  · rw [(h.1 _ q).2.1, zCells_same h]
theorem xUse_same (h : same v w) {n : Nat} (hn : n < 40) : same (xUse v n) (xUse w n) := by
  unfold xUse
  rw [(h.1 n hn).2.1]
  exact same_mst h _ _ _
theorem xDo_same (h : same v w) (hc : xCan w c wd = true) (hi : ¬ c = 33 → ¬ c = 43 → ¬ c = 45 → 6 * d0 + d1 < 18) (h3 : ∀ k, k < 18 → w 3 k = -1 ∨ ∃ o, o < 40 ∧ w 3 k = nI o) : same (xDo v c d0 d1 wd) (xDo w c d0 d1 wd) := by
  unfold xDo
  rw [zNum_same h, ep_same h, xNo_same h, xFree_same h]
  unfold xCan at hc
  by_cases c1 : c = 33
  · rw [if_pos c1, if_pos c1]
    exact zAnew_same h
  · rw [if_neg c1] at hc
    rw [if_neg c1, if_neg c1]
    by_cases c2 : c = 43
    · rw [if_pos c2] at hc
      rw [if_pos c2, if_pos c2]
      rcases xNo_or w wd with q | ⟨q, q1, -⟩
      · rw [if_pos q] at hc
        rw [if_pos q, if_pos q]
        rcases xFree_or w with z | ⟨z, -, -⟩
        · rw [decide_eq_false (fun y => y z)] at hc
          cases hc
        · unfold xNew
          rw [same_12 h (show 1 < 3 by omega), (h.1 _ z).2.1]
          exact same_mst (same_mst (same_mst h _ _ _) _ _ _) _ _ _
      · have e1 : ¬ zNum (w 0) (nI wd) = -1 := by rw [q1]; exact nI_nm1 (by omega)
        rw [if_neg e1, if_neg e1]
        exact xUse_same h q
    · rw [if_neg c2] at hc
      rw [if_neg c2, if_neg c2]
      rcases xNo_or w wd with q | ⟨q, q1, -⟩
      · rw [if_pos q] at hc
        cases hc
      · by_cases c3 : c = 45
        · rw [if_pos c3, if_pos c3]
          exact zGive_same h q
        · rw [if_neg c3, if_neg c3]
          have h18 := hi c1 c2 c3
          unfold xFill
          rw [h.2.1 _ h18]
          rcases h3 _ h18 with z | ⟨o, ho, z⟩
          · rw [if_pos z, if_pos z]
            exact same_mst (xUse_same h q) _ _ _
          · rw [z, if_neg (nI_nm1 (by omega)), if_neg (nI_nm1 (by omega)), nI_clamp (by omega)]
            exact same_mst (zGive_same (xUse_same h q) ho) _ _ _
theorem ox_do {e B : Nat} (h : okX w e B) (hc : xCan w c wd = true) (hch : c = 33 ∨ c = 61 ∨ c = 43 ∨ c = 45) (h33 : c = 33 → d0 ≤ 2) (h61 : c = 61 → d0 ≤ 2 ∧ d1 ≤ 5) (hw : ¬ c = 33 → zName (nI wd) = true) : ∃ e', okX (xDo w c d0 d1 wd) e' (B + 1) := by
  have hR := rr_ex h.1 h.2.1
  unfold xCan at hc
  unfold xDo
  by_cases c1 : c = 33
  · rw [if_pos c1, rr_ep hR] at hc
    rw [if_pos c1, rr_ep hR]
    exact ⟨e + 1, ox_anew h (of_decide_eq_true hc)⟩
  · rw [if_neg c1] at hc
    rw [if_neg c1]
    have hz := hw c1
    by_cases c2 : c = 43
    · rw [if_pos c2] at hc
      rw [if_pos c2]
      rcases xNo_or w wd with q | ⟨q, q1, q2⟩
      · rw [if_pos q] at hc
        rw [if_pos q]
        rcases xFree_or w with z | ⟨z, z1, z2⟩
        · rw [decide_eq_false (fun y => y z)] at hc
          cases hc
        · exact ⟨e, ox_new h hz q z z2⟩
      · have e1 : ¬ zNum (w 0) (nI wd) = -1 := by rw [q1]; exact nI_nm1 (by omega)
        rw [if_neg e1] at hc
        rw [if_neg e1]
        exact ⟨e, okX_mono (ox_use h q (by rw [q2]; exact name_ne hz) ((us_room h.1 q).mp (of_decide_eq_true hc))) (by omega)⟩
    · rw [if_neg c2] at hc
      rw [if_neg c2]
      rcases xNo_or w wd with q | ⟨q, q1, q2⟩
      · rw [if_pos q] at hc
        cases hc
      · have e1 : ¬ zNum (w 0) (nI wd) = -1 := by rw [q1]; exact nI_nm1 (by omega)
        have h0 : ¬ w 0 (xNo w wd) = 0 := by rw [q2]; exact name_ne hz
        rw [if_neg e1] at hc
        by_cases c3 : c = 45
        · rw [if_pos c3] at hc
          rw [if_pos c3]
          exact ⟨e, ox_give h q ((rr_free hR q).mp (of_decide_eq_true hc))⟩
        · rw [if_neg c3] at hc
          rw [if_neg c3]
          have c4 : c = 61 := by omega
          obtain ⟨g1, g2⟩ := h61 c4
          have hro := (us_room h.1 q).mp (of_decide_eq_true hc)
          unfold xFill
          rcases h.1.2.2.2.2.1 (6 * d0 + d1) (by omega) with z | ⟨o, ho, z⟩
          · rw [if_pos z]
            exact ⟨e, okX_mono (ox_fillE h (by omega) q h0 hro z) (by omega)⟩
          · rw [z, if_neg (nI_nm1 (by omega)), nI_clamp (by omega)]
            exact ⟨e, ox_fillO h (by omega) q ho h0 hro z⟩
end XS
theorem ord_facts {sg : Nat → Nat} {p q d0 d1 k wd : Nat} (h : prs sg p = (q, some (d0, d1, k, wd))) (hr : rngF (sg p) d0 d1 k = none) : p < q ∧ (sg p = 33 ∨ sg p = 61 ∨ sg p = 43 ∨ sg p = 45) ∧ (sg p = 33 → d0 ≤ 2) ∧ (sg p = 61 → d0 ≤ 2 ∧ d1 ≤ 5) ∧ (¬ sg p = 33 → zName (nI wd) = true) := by
  have ho := prs_ok h
  obtain ⟨r1, r2, r3⟩ := rngF_none hr
  refine ⟨(ordOk_go ho).1, ?_, r1, r2, fun c1 => ?_⟩
  · rcases ho with ⟨a, -⟩ | ⟨a | a | a, -⟩
    · exact Or.inl a
    · exact Or.inr (Or.inl a)
    · exact Or.inr (Or.inr (Or.inl a))
    · exact Or.inr (Or.inr (Or.inr a))
  · rcases ho with ⟨a, -⟩ | ⟨-, -, -, -, s, -, b, c, d, -⟩
    · exact absurd a c1
    · rw [c]
      exact word_name b d (r3 c1)
/-- a text run on rolls that are the same -/
theorem xRun_same {sg : Nat → Nat} {L : Nat} : ∀ (f p n : Nat) (v w : Mem) (e B : Nat), okX w e B → same v w →
    ((xRun sg L f p n v).1 = (xRun sg L f p n w).1 ∧ (xRun sg L f p n v).2.1 = (xRun sg L f p n w).2.1 ∧ (xRun sg L f p n v).2.2.1 = (xRun sg L f p n w).2.2.1 ∧ (xRun sg L f p n v).2.2.2.1 = (xRun sg L f p n w).2.2.2.1) ∧
    same (xRun sg L f p n v).2.2.2.2 (xRun sg L f p n w).2.2.2.2 ∧ ∃ e', okX (xRun sg L f p n w).2.2.2.2 e' (B + f)
  | 0, p, n, v, w, e, B, hw, h => ⟨⟨rfl, rfl, rfl, rfl⟩, h, e, hw⟩
  | f + 1, p, n, v, w, e, B, hw, h => by
    by_cases hL : L ≤ p
    · rw [xRun_end hL, xRun_end hL]
      exact ⟨⟨rfl, rfl, rfl, rfl⟩, h, e, okX_mono hw (by omega)⟩
    · cases hp : prs sg p with
      | mk q o =>
        cases o with
        | none =>
          rw [xRun_form hL hp, xRun_form hL hp]
          exact ⟨⟨rfl, rfl, rfl, rfl⟩, h, e, okX_mono hw (by omega)⟩
        | some x =>
          obtain ⟨d0, d1, k, wd⟩ := x
          cases hr : rngF (sg p) d0 d1 k with
          | some z =>
            rw [xRun_rng hL hp hr, xRun_rng hL hp hr]
            exact ⟨⟨rfl, rfl, rfl, rfl⟩, h, e, okX_mono hw (by omega)⟩
          | none =>
            have hcs := xCan_same (c := sg p) (wd := wd) h
            cases hc : xCan w (sg p) wd with
            | false =>
              rw [hc] at hcs
              rw [xRun_no hL hp hr hc, xRun_no hL hp hr hcs]
              exact ⟨⟨rfl, rfl, rfl, rfl⟩, h, e, okX_mono hw (by omega)⟩
            | true =>
              rw [hc] at hcs
              rw [xRun_go hL hp hr hc, xRun_go hL hp hr hcs]
              obtain ⟨-, k1, k2, k3, k4⟩ := ord_facts hp hr
              obtain ⟨e', he'⟩ := ox_do hw hc k1 k2 k3 k4
              have hs := xDo_same (d0 := d0) (d1 := d1) h hc (fun a b c => by
                have a4 : sg p = 61 := by omega
                have := k3 a4
                omega) hw.1.2.2.2.2.1
              have ih := xRun_same (sg := sg) (L := L) f q (n + 1) _ _ e' (B + 1) he' hs
              rw [show B + 1 + f = B + (f + 1) by omega] at ih
              exact ih
theorem prL_le {sg : Nat → Nat} {s d0 d1 : Nat} : (prL sg s d0 d1).1 ≤ s + 61 := by
  have h := lc_le60 sg s
  unfold prL
  split
  · split
    · show s + lc sg s + 1 ≤ _
      omega
    · show s + lc sg s ≤ _
      omega
  · show s + lc sg s ≤ _
    omega
theorem prs_le (sg : Nat → Nat) (p : Nat) : (prs sg p).1 ≤ p + 66 := by
  unfold prs
  have h1 := prL_le (sg := sg) (s := p + 1) (d0 := 0) (d1 := 0)
  have h5 := prL_le (sg := sg) (s := p + 5) (d0 := sg (p + 1) - 48) (d1 := sg (p + 3) - 48)
  repeat' split
  all_goals first | omega | (show _ ≤ _; simp only []; omega)
theorem xRun_info {sg : Nat → Nat} {L : Nat} : ∀ (f p n : Nat) (w : Mem), (xRun sg L f p n w).1 ≤ n + f ∧ ((xRun sg L f p n w).2.1 = 0 ∨ ((xRun sg L f p n w).2.2.2.1 < L ∧ (xRun sg L f p n w).2.1 ≤ 3 ∧ (xRun sg L f p n w).2.2.1 ≤ 66))
  | 0, p, n, w => ⟨Nat.le_refl _, Or.inl rfl⟩
  | f + 1, p, n, w => by
    by_cases hL : L ≤ p
    · rw [xRun_end hL]
      exact ⟨by show n ≤ _; omega, Or.inl rfl⟩
    · cases hp : prs sg p with
      | mk q o =>
        have hq := prs_le sg p
        rw [hp] at hq
        have hq : q ≤ p + 66 := hq
        cases o with
        | none =>
          rw [xRun_form hL hp]
          exact ⟨by show n ≤ _; omega, Or.inr ⟨by show p < L; omega, by show 1 ≤ 3; omega, by show q - p ≤ 66; omega⟩⟩
        | some x =>
          obtain ⟨d0, d1, k, wd⟩ := x
          cases hr : rngF (sg p) d0 d1 k with
          | some z =>
            rw [xRun_rng hL hp hr]
            have hz : z ≤ 3 := by
              rcases rngF_some hr with ⟨-, a, -⟩ | ⟨-, a, -⟩ | ⟨-, a, -⟩ | ⟨-, a, -⟩ <;> omega
            exact ⟨by show n ≤ _; omega, Or.inr ⟨by show p < L; omega, by show 2 ≤ 3; omega, by show z ≤ 66; omega⟩⟩
          | none =>
            cases hc : xCan w (sg p) wd with
            | false =>
              rw [xRun_no hL hp hr hc]
              exact ⟨by show n ≤ _; omega, Or.inr ⟨by show p < L; omega, by show 3 ≤ 3; omega, by show 0 ≤ 66; omega⟩⟩
            | true =>
              rw [xRun_go hL hp hr hc]
              have ih := xRun_info (sg := sg) (L := L) f q (n + 1) (xDo w (sg p) d0 d1 wd)
              exact ⟨by omega, ih.2⟩
end SM
