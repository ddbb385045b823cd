theorem step_EE {l : Launch} {G : ZG} {yC : MethodName} {wsC : List Cond} {rmC : Room} {yM : MethodName} {wsM : List Cond} {rmM : Room} {As : List Value} {o pr q : Nat} {a b d : Nat → Nat} {pa : Nat → Nat → Nat} {S P L : Nat → Nat} {t v u : Mem} {pv : Nat → Mem} {ma : Nat → Nat} {mv : Mem} {my : Nat → Nat} {B : Nat} {T T' : Type} {pC : Int32 → T → Prop} {wC : T → va_W} {pM : Int32 → T' → Prop} {wM : T' → va_W} (R : Int32) (Q : CS → Prop)
    (hC : CIE l G yC wsC rmC (.ref o :: As) (nrW G o pr q a b d pa S P L t v u pv) (S := T) pC wC) (hc : ∀ r z, pC r z → r = R ∧ ∃ c : CS, clW G o pr q a b d c = wC z ∧ Q c)
    (hM : CIE l G yM wsM rmM (.ref (ma 0) :: As) (modW G ma mv my) (S := T') pM wM) (hm : ∀ r z, pM r z → r = R ∧ ∃ m : Mem × (Nat → Nat), modW G ma m.1 m.2 = wM z ∧ ∀ c, Q c → RelC (B + 61) c m) : StepI l G yC wsC rmC yM wsM rmM As o pr q a b d pa S P L t v u pv ma mv my B := by
  refine ⟨R, Q, hC.mono (fun r z hz => ?_), hM.mono (fun r z hz => ?_)⟩
  · obtain ⟨h1, c, h2, h3⟩ := hc r z hz
    exact ⟨c, h2, h1, h3⟩
  · obtain ⟨h1, m, h2, h3⟩ := hm r z hz
    exact ⟨m, h2, h1, h3⟩
theorem naV_one {v : Mem} {e B ρ q : Nat} {r r' : Int32} (hv : okV v e B) (h : naV v ρ q r) (h' : naV v ρ q r') : r = r' := by
  rcases h with ⟨j, a1, a2, a3, a4⟩ | ⟨a1, a2⟩
  · rcases h' with ⟨j', b1, b2, b3, b4⟩ | ⟨b1, b2⟩
    · have : j = j' := zPos_inj (nm_inj hv) a1 b1 a2 b2 (by rw [← zPl_eq, ← zPl_eq, a3, b3])
      rw [a4, b4, this]
    · exact absurd a3 (b1 j a1 a2)
  · rcases h' with ⟨j', b1, b2, b3, b4⟩ | ⟨b1, b2⟩
    · exact absurd b3 (a1 j' b1 b2)
    · rw [a2, b2]
theorem naP_V {v : Mem} {f : Nat → Int32} {e ρ q : Nat} {r : Int32} (h : RE v f e) (hp : naPost f ρ q r) : naV v ρ q r := by
  rcases hp with ⟨j, a1, a2, a3, a4⟩ | ⟨a1, a2⟩
  · have h1 : f (4 + j) = v 0 j := re_nm h j a1
    rw [re_posA h a1] at a3
    rw [h1] at a2 a4
    exact Or.inl ⟨j, a1, a2, a3, a4⟩
  · refine Or.inr ⟨fun j hj hj0 hz => ?_, a2⟩
    have h1 : f (4 + j) = v 0 j := re_nm h j hj
    exact a1 j hj (by rw [h1]; exact hj0) (by rw [re_posA h hj]; exact hz)
theorem bhV_one {v : Mem} {e B k : Nat} {r r' : Int32} (hv : okV v e B) (h : bhV v k r) (h' : bhV v k r') : r = r' := by
  rcases h with ⟨j, a1, a2, a3, a4, a5⟩ | ⟨a1, a2⟩
  · rcases h' with ⟨j', b1, b2, b3, b4, b5⟩ | ⟨b1, b2⟩
    · have h1 := a4 j' b1 b2 b3
      have h2 := b4 j a1 a2 a3
      have : j = j' := nm_inj hv j j' a1 b1 a2 b2 (Nat.le_antisymm h1 h2)
      rw [a5, b5, this]
    · exact absurd a3 (b1 j a1 a2)
  · rcases h' with ⟨j', b1, b2, b3, b4, b5⟩ | ⟨b1, b2⟩
    · exact absurd b3 (a1 j' b1 b2)
    · rw [a2, b2]
theorem Kp_V {v : Mem} {f : Nat → Int32} {e j : Nat} (h : RE v f e) (hj : j < 40) : Kp f j = Kv v j := by
  have h1 : f (4 + j) = v 0 j := re_nm h j hj
  rw [Kp, Kv, h1]
  rfl
theorem bhP_V {v : Mem} {f : Nat → Int32} {e k : Nat} {r : Int32} (h : RE v f e) (hp : bhPost f k r) : bhV v k r := by
  have nm : ∀ j, j < 40 → f (4 + j) = v 0 j := fun j hj => re_nm h j hj
  rcases hp with ⟨j, a1, a2, a3, a4, a5⟩ | ⟨a1, a2⟩
  · rw [nm j a1] at a2 a5
    rw [Kp_V h a1] at a3
    refine Or.inl ⟨j, a1, a2, a3, fun x hx hx0 hk => ?_, a5⟩
    have := a4 x hx (by rw [nm x hx]; exact hx0) (by rw [Kp_V h hx]; exact hk)
    rw [Kp_V h a1, Kp_V h hx] at this
    exact this
  · exact Or.inr ⟨fun x hx hx0 hk => a1 x hx (by rw [nm x hx]; exact hx0) (by rw [Kp_V h hx]; exact hk), a2⟩
theorem zTp_top (v : Mem) : ∀ n, zTp v n = zTop (v 0) n
  | 0 => rfl
  | n + 1 => by rw [zTp, zTop, zTp_top v n]
theorem zTp_all (v : Mem) : ∀ n, fb_ct (pNm v) (zTp v n) = fb_ct (pNm v) n
  | 0 => rfl
  | n + 1 => by
    rw [zTp]
    by_cases h : v 0 n = 0
    · rw [if_pos h, zTp_all v n, fb_ct_f (by rw [pNm]; exact decide_eq_false (fun z => z h))]
    · rw [if_neg h]
theorem pSt_eq {v : Mem} {f : Nat → Int32} {e B i n : Nat} (hR : RR v f e B) (hB : B < 2 ^ 30) (hi : i < 3) (hie : i < e) (hn : n < 40) : pSm f e i n = pSt v e (e - 1 - i) n := by
  obtain ⟨-, r2⟩ := hR.2.2.2.2.2 i hi hie
  obtain ⟨r3, -, -⟩ := r2 n hn
  unfold pSm pSt
  rw [r3]
  rcases hR.1.2.2.2.2.2.2 i hi hie n hn with z | ⟨qn, hqn, z, ⟨y, y1, y2⟩, -⟩
  · rw [if_pos z, z]
    have h1 : decide (¬ (-1 : Int32) < nI 0) = false := by decide
    have h2 : decide (¬ (-1 : Int32) = -1) = false := by decide
    rw [h1, h2, Bool.false_and, Bool.false_and]
  · have h8 : ¬ v 8 ((e - 1 - i) % 3 * 40 + n) = -1 := by rw [z]; exact nI_nm1 (by omega)
    rw [if_neg h8, y2, decide_eq_true h8, decide_eq_true (show ¬ nI y < nI 0 from nI_pos (by omega)), Bool.true_and, Bool.true_and]
    refine decide_eq_decide.mpr ?_
    rcases sta_or hR hB (nI 1000000 * nI (e - 1 - i) + nI 100 * nI y + nI n) with ⟨m, hm, hz, hs, h0⟩ | ⟨k, oo, hk1, hk4, hz, hs⟩
    · rw [hz, hs]
      exact ⟨fun _ => nI_pos (by omega), fun _ => rfl⟩
    · rw [hz, hs]
      exact ⟨fun w => absurd w (by show ¬ k = 0; omega), fun w => absurd (neg_k hk1 hk4).1 w⟩
theorem rel_rk {B : Nat} {S L my : Nat → Nat} {t v mv : Mem} {pv : Nat → Mem} (h : Rel B S L t v pv mv my) (gg : Nat → Int32) (n : Nat) : Rel (B + 61) S L t v pv (mrow mv 4 gg) (nup my 2 n) :=
  rel_keep h (fun _ _ => rfl) rfl rfl (okDg_of h.2.2.2.2.2.2.2 rfl) rfl rfl

set_option maxHeartbeats 4000000 in
theorem st_numberOf (l : Launch) (G : ZG) (o pr q : Nat) (a b d : Nat → Nat) (pa : Nat → Nat → Nat) (S P L : Nat → Nat) (t v u : Mem) (pv : Nat → Mem) (ma : Nat → Nat) (mv : Mem) (my : Nat → Nat) (B : Nat) (h : Rel B S L t v pv mv my) (hB : B < 2 ^ 30) (x y : Int32) : StepI l G yX3_numberOf wsX3_numberOf (zRm 2 43) yX4_numberOf wsX4_numberOf (zRm 1 23) [.int x, .int y] o pr q a b d pa S P L t v u pv ma mv my B := by
  obtain ⟨⟨e, hR⟩, ⟨h4, hy0⟩, hpast, ⟨hL6, hy1⟩, hTx, hTm, hsg, hdg⟩ := id h
  have hv := hR.1
  have hC := hR.2.1
  have hre := hR.2.2
  have he : v 12 0 = nI e := hv.1.1
  have he9 : e ≤ 999 := hv.1.2
  have f0 : mv 0 0 = nI e := hre.1.1
  have f3 : mv 0 3 = nI e := hre.1.2.1
  have hM := re_okM hre hv (by omega)
  have num := rr_num hR
  have hN : okN v := nm_ok hv
  rcases z_b (zBel x 40) with h8 | h8
  · rcases z_b (zBel y 5) with h9 | h9
    · obtain ⟨n, hn, rfl⟩ := zBel_of (by decide) h8
      obtain ⟨k, hk, rfl⟩ := zBel_of (by decide) h9
      have nme : mv 0 (4 + n) = v 0 n := re_nm hre n hn
      rcases (show k = 0 ∨ k = 1 ∨ k = 2 ∨ k = 3 ∨ k = 4 by omega) with kk | kk | kk | kk | kk <;> subst kk
      · by_cases h0 : v 0 n = 0
        · exact step_mk (pa, S, P, L, t, v, u, pv) (mv, my) (c_X3_numberOf_w0n l G o pr q a b d pa S P L t v u pv n hn h0) (c_X4_numberOf_0z l G ma mv my n hn (nme.trans h0)) rfl (rel_same h)
        · exact step_mk (pa, S, P, L, t, v, u, pv) (mv, my) (c_X3_numberOf_w0y l G o pr q a b d pa S P L t v u pv n hn h0) (c_X4_numberOf_0n l G ma mv my n hn (by rw [nme]; exact h0)) nme.symm (rel_same h)
      · exact step_mk (pa, S, P, L, t, v, u, pv) (mv, my) (c_X3_numberOf_w1 l G o pr q a b d pa S P L t v u pv n hn) (c_X4_numberOf_1 l G ma mv my n hn) (re_us hre n hn).symm (rel_same h)
      · exact step_mk (pa, S, P, L, t, v, u, pv) (mv, my) (c_X3_numberOf_w2 l G o pr q a b d pa S P L t v u pv n hn) (c_X4_numberOf_2 l G ma mv my n hn) (by rw [rr_cells hR]) (rel_same h)
      · exact step_mk (pa, S, P, L, t, v, u, pv) (mv, my) (c_X3_numberOf_w3 l G o pr q a b d pa S P L t v u pv n hn) (c_X4_numberOf_3 l G ma mv my n hn) (hre.2.1 n hn).2.2.symm (rel_same h)
      · by_cases h0 : v 0 n = 0
        · exact step_mk (pa, S, P, L, t, v, u, pv) (mv, my) (c_X3_numberOf_w4n l G o pr q a b d pa S P L t v u pv n hn h0) (c_X4_numberOf_4z l G ma mv my n hn (nme.trans h0)) rfl (rel_same h)
        · exact step_mk (pa, S, P, L, t, v, u, pv) (mv, my) (c_X3_numberOf_w4y l G o pr q a b d pa S P L t v u pv n hn h0) (c_X4_numberOf_4n l G ma mv my n hn (by rw [nme]; exact h0)) (tag_eq hR hn) (rel_same h)
    · exact step_mk (pa, S, P, L, t, v, u, pv) (mv, my) (c_X3_numberOf_b2 l G o pr q a b d pa S P L t v u pv x y h8 h9) (c_X4_numberOf_bad l G ma mv my x y (by rw [zWi_bel (by decide), zWi_bel (by decide), h8, h9]; rfl)) rfl (rel_same h)
  · exact step_mk (pa, S, P, L, t, v, u, pv) (mv, my) (c_X3_numberOf_b1 l G o pr q a b d pa S P L t v u pv x y h8) (c_X4_numberOf_bad l G ma mv my x y (by rw [zWi_bel (by decide), zWi_bel (by decide), h8]; rfl)) rfl (rel_same h)

set_option maxHeartbeats 4000000 in
theorem st_find (l : Launch) (G : ZG) (o pr q : Nat) (a b d : Nat → Nat) (pa : Nat → Nat → Nat) (S P L : Nat → Nat) (t v u : Mem) (pv : Nat → Mem) (ma : Nat → Nat) (mv : Mem) (my : Nat → Nat) (B : Nat) (h : Rel B S L t v pv mv my) (hB : B < 2 ^ 30) (x : Int32) : StepI l G yX3_find wsX3_find (zRm 1 22) yX4_find wsX4_find (zRm 2 44) [.int x] o pr q a b d pa S P L t v u pv ma mv my B := by
  obtain ⟨⟨e, hR⟩, ⟨h4, hy0⟩, hpast, ⟨hL6, hy1⟩, hTx, hTm, hsg, hdg⟩ := id h
  have hv := hR.1
  have hC := hR.2.1
  have hre := hR.2.2
  have he : v 12 0 = nI e := hv.1.1
  have he9 : e ≤ 999 := hv.1.2
  have f0 : mv 0 0 = nI e := hre.1.1
  have f3 : mv 0 3 = nI e := hre.1.2.1
  have hM := re_okM hre hv (by omega)
  have num := rr_num hR
  have hN : okN v := nm_ok hv
  rcases z_b (zName x) with h9 | h9
  · rcases zNum_or (v 0) x with hn | ⟨n, hn, hne, hx0⟩
    · exact step_mk (pa, S, P, L, t, v, u, pv) (mv, my) (c_X3_find_no l G o pr q a b d pa S P L t v u pv x h9 hn) (c_X4_find_no l G ma mv my x h9 ((num _).trans hn)) rfl (rel_same h)
    · exact step_mk (pa, S, P, L, t, v, u, pv) (mv, my) (c_X3_find_ok l G o pr q a b d pa S P L t v u pv x n h9 hne hn) (c_X4_find_ok l G ma mv my x n h9 hn ((num _).trans hne)) rfl (rel_same h)
  · exact step_mk (pa, S, P, L, t, v, u, pv) (mv, my) (c_X3_find_bad l G o pr q a b d pa S P L t v u pv x h9) (c_X4_find_bad l G ma mv my x h9) rfl (rel_same h)

set_option maxHeartbeats 4000000 in
theorem st_nameAt (l : Launch) (G : ZG) (o pr q : Nat) (a b d : Nat → Nat) (pa : Nat → Nat → Nat) (S P L : Nat → Nat) (t v u : Mem) (pv : Nat → Mem) (ma : Nat → Nat) (mv : Mem) (my : Nat → Nat) (B : Nat) (h : Rel B S L t v pv mv my) (hB : B < 2 ^ 30) (x y : Int32) : StepI l G yX3_nameAt wsX3_nameAt (zRm 3 69) yX4_nameAt wsX4_nameAt (zRm 3 67) [.int x, .int y] o pr q a b d pa S P L t v u pv ma mv my B := by
  obtain ⟨⟨e, hR⟩, ⟨h4, hy0⟩, hpast, ⟨hL6, hy1⟩, hTx, hTm, hsg, hdg⟩ := id h
  have hv := hR.1
  have hC := hR.2.1
  have hre := hR.2.2
  have he : v 12 0 = nI e := hv.1.1
  have he9 : e ≤ 999 := hv.1.2
  have f0 : mv 0 0 = nI e := hre.1.1
  have f3 : mv 0 3 = nI e := hre.1.2.1
  have hM := re_okM hre hv (by omega)
  have num := rr_num hR
  have hN : okN v := nm_ok hv
  rcases z_b (zBel x 3) with h8 | h8
  · obtain ⟨ρ, hρ, rfl⟩ := zBel_of (by decide) h8
    by_cases hy : y < 0
    · exact step_mk (pa, S, P, L, t, v, u, pv) (mv, my) (c_X3_nameAt_b2 l G o pr q a b d pa S P L t v u pv (nI ρ) y h8 hy) (c_X4_nameAt_bad l G ma mv my (nI ρ) y (fun z => z.2 hy)) rfl (rel_same h)
    · obtain ⟨q0, hq, rfl⟩ := nI_of hy
      rcases Classical.em (∃ r, naV v ρ q0 r) with ⟨R, hRR⟩ | hno
      · refine step_EE R (fun c => c = (pa, S, P, L, t, v, u, pv)) (c_X3_nameAt_ok l G o pr q a b d pa S P L t v u pv ρ q0 hρ hq hN) (fun r z hz => ⟨naV_one hv hz hRR, (pa, S, P, L, t, v, u, pv), rfl, rfl⟩) (c_X4_nameAt_ok l G ma mv my ρ q0 (by omega) hq (re_okNm hre hv) (re_injN hre hv)) (fun r z hz => ⟨naV_one hv (naP_V hre hz) hRR, (mrow mv 4 z, nup my 2 (cntA (mv 0))), rfl, fun c hc => ?_⟩)
        subst hc
        exact rel_rk h z _
      · exact step_EE 0 (fun c => c = (pa, S, P, L, t, v, u, pv)) (c_X3_nameAt_ok l G o pr q a b d pa S P L t v u pv ρ q0 hρ hq hN) (fun r z hz => absurd ⟨r, hz⟩ hno) (c_X4_nameAt_ok l G ma mv my ρ q0 (by omega) hq (re_okNm hre hv) (re_injN hre hv)) (fun r z hz => absurd ⟨r, naP_V hre hz⟩ hno)
  · exact step_mk (pa, S, P, L, t, v, u, pv) (mv, my) (c_X3_nameAt_b1 l G o pr q a b d pa S P L t v u pv x y h8) (c_X4_nameAt_bad l G ma mv my x y (fun z => by have := z.1; rw [zWi_bel (by decide), h8] at this; cases this)) rfl (rel_same h)

set_option maxHeartbeats 4000000 in
theorem st_beginning (l : Launch) (G : ZG) (o pr q : Nat) (a b d : Nat → Nat) (pa : Nat → Nat → Nat) (S P L : Nat → Nat) (t v u : Mem) (pv : Nat → Mem) (ma : Nat → Nat) (mv : Mem) (my : Nat → Nat) (B : Nat) (h : Rel B S L t v pv mv my) (hB : B < 2 ^ 30) (x : Int32) : StepI l G yX3_beginning wsX3_beginning (zRm 1 23) yX4_beginning wsX4_beginning (zRm 2 44) [.int x] o pr q a b d pa S P L t v u pv ma mv my B := by
  obtain ⟨⟨e, hR⟩, ⟨h4, hy0⟩, hpast, ⟨hL6, hy1⟩, hTx, hTm, hsg, hdg⟩ := id h
  have hv := hR.1
  have hC := hR.2.1
  have hre := hR.2.2
  have he : v 12 0 = nI e := hv.1.1
  have he9 : e ≤ 999 := hv.1.2
  have f0 : mv 0 0 = nI e := hre.1.1
  have f3 : mv 0 3 = nI e := hre.1.2.1
  have hM := re_okM hre hv (by omega)
  have num := rr_num hR
  have hN : okN v := nm_ok hv
  rcases z_b (zName x) with h9 | h9
  · obtain ⟨w, hw1, hw2, rfl, -⟩ := zName_of h9
    exact step_mk (pa, S, P, L, t, v, u, pv) (mv, my) (c_X3_beginning_ok l G o pr q a b d pa S P L t v u pv w h9 (by omega) hN) (c_X4_beginning_ok l G ma mv my w h9 hw1 (by omega) (re_okNm hre hv)) (by rw [fb_ct_cong (p := pBg (v 0) w) (q := pBg (rN (mv 0)) w) (fun k hk => by unfold pBg; rw [re_nm hre k hk])]) (rel_same h)
  · exact step_mk (pa, S, P, L, t, v, u, pv) (mv, my) (c_X3_beginning_bad l G o pr q a b d pa S P L t v u pv x h9) (c_X4_beginning_bad l G ma mv my x h9) rfl (rel_same h)

set_option maxHeartbeats 4000000 in
theorem st_behind (l : Launch) (G : ZG) (o pr q : Nat) (a b d : Nat → Nat) (pa : Nat → Nat → Nat) (S P L : Nat → Nat) (t v u : Mem) (pv : Nat → Mem) (ma : Nat → Nat) (mv : Mem) (my : Nat → Nat) (B : Nat) (h : Rel B S L t v pv mv my) (hB : B < 2 ^ 30) (x : Int32) : StepI l G yX3_behind wsX3_behind (zRm 1 22) yX4_behind wsX4_behind (zRm 3 67) [.int x] o pr q a b d pa S P L t v u pv ma mv my B := by
  obtain ⟨⟨e, hR⟩, ⟨h4, hy0⟩, hpast, ⟨hL6, hy1⟩, hTx, hTm, hsg, hdg⟩ := id h
  have hv := hR.1
  have hC := hR.2.1
  have hre := hR.2.2
  have he : v 12 0 = nI e := hv.1.1
  have he9 : e ≤ 999 := hv.1.2
  have f0 : mv 0 0 = nI e := hre.1.1
  have f3 : mv 0 3 = nI e := hre.1.2.1
  have hM := re_okM hre hv (by omega)
  have num := rr_num hR
  have hN : okN v := nm_ok hv
  rcases z_b (zName x) with h9 | h9
  · obtain ⟨w, hw1, hw2, rfl, -⟩ := zName_of h9
    rcases Classical.em (∃ r, bhV v (padK 5 w) r) with ⟨R, hRR⟩ | hno
    · refine step_EE R (fun c => c = (pa, S, P, L, t, v, u, pv)) (c_X3_behind_ok l G o pr q a b d pa S P L t v u pv w h9 (by omega) hN) (fun r z hz => ⟨bhV_one hv hz hRR, (pa, S, P, L, t, v, u, pv), rfl, rfl⟩) (c_X4_behind_ok l G ma mv my w h9 hw1 (by omega) (re_okNm hre hv) (re_injN hre hv)) (fun r z hz => ⟨bhV_one hv (bhP_V hre hz) hRR, (mrow mv 4 z, nup my 2 (cntA (mv 0))), rfl, fun c hc => ?_⟩)
      subst hc
      exact rel_rk h z _
    · exact step_EE 0 (fun c => c = (pa, S, P, L, t, v, u, pv)) (c_X3_behind_ok l G o pr q a b d pa S P L t v u pv w h9 (by omega) hN) (fun r z hz => absurd ⟨r, hz⟩ hno) (c_X4_behind_ok l G ma mv my w h9 hw1 (by omega) (re_okNm hre hv) (re_injN hre hv)) (fun r z hz => absurd ⟨r, bhP_V hre hz⟩ hno)
  · exact step_mk (pa, S, P, L, t, v, u, pv) (mv, my) (c_X3_behind_bad l G o pr q a b d pa S P L t v u pv x h9) (c_X4_behind_bad l G ma mv my x h9) rfl (rel_same h)

set_option maxHeartbeats 4000000 in
theorem st_wouldBe (l : Launch) (G : ZG) (o pr q : Nat) (a b d : Nat → Nat) (pa : Nat → Nat → Nat) (S P L : Nat → Nat) (t v u : Mem) (pv : Nat → Mem) (ma : Nat → Nat) (mv : Mem) (my : Nat → Nat) (B : Nat) (h : Rel B S L t v pv mv my) (hB : B < 2 ^ 30) (x y : Int32) : StepI l G yX3_wouldBe wsX3_wouldBe (zRm 3 69) yX4_wouldBe wsX4_wouldBe (zRm 3 67) [.int x, .int y] o pr q a b d pa S P L t v u pv ma mv my B := by
  obtain ⟨⟨e, hR⟩, ⟨h4, hy0⟩, hpast, ⟨hL6, hy1⟩, hTx, hTm, hsg, hdg⟩ := id h
  have hv := hR.1
  have hC := hR.2.1
  have hre := hR.2.2
  have he : v 12 0 = nI e := hv.1.1
  have he9 : e ≤ 999 := hv.1.2
  have f0 : mv 0 0 = nI e := hre.1.1
  have f3 : mv 0 3 = nI e := hre.1.2.1
  have hM := re_okM hre hv (by omega)
  have num := rr_num hR
  have hN : okN v := nm_ok hv
  rcases z_b (zBel x 40) with h8 | h8
  · rcases z_b (zBel y 3) with h9 | h9
    · obtain ⟨n, hn, rfl⟩ := zBel_of (by decide) h8
      obtain ⟨k, hk, rfl⟩ := zBel_of (by decide) h9
      have nme : mv 0 (4 + n) = v 0 n := re_nm hre n hn
      by_cases h0 : v 0 n = 0
      · refine step_mE (pa, S, P, L, t, v, u, pv) (c_X3_wouldBe_no l G o pr q a b d pa S P L t v u pv n k hn hk h0) (c_X4_wouldBe_ok l G ma mv my n k hn (by omega) (re_okNm hre hv) (re_injN hre hv)) (fun r z hz => ?_)
        rcases hz with ⟨z1, z2⟩ | ⟨z1, z2⟩
        · exact ⟨z2, (mrow mv 4 z, nup my 2 (cntA (mv 0))), rfl, rel_rk h z _⟩
        · exact absurd (nme.trans h0) z1
      · refine step_mE (pa, S, P, L, t, v, u, pv) (c_X3_wouldBe_ok l G o pr q a b d pa S P L t v u pv n k hn hk h0 hN) (c_X4_wouldBe_ok l G ma mv my n k hn (by omega) (re_okNm hre hv) (re_injN hre hv)) (fun r z hz => ?_)
        rcases hz with ⟨z1, z2⟩ | ⟨z1, z2⟩
        · exact absurd (nme.symm.trans z1) h0
        · exact ⟨by rw [z2, re_posA hre hn], (mrow mv 4 z, nup my 2 (cntA (mv 0))), rfl, rel_rk h z _⟩
    · exact step_mk (pa, S, P, L, t, v, u, pv) (mv, my) (c_X3_wouldBe_b2 l G o pr q a b d pa S P L t v u pv x y h8 h9) (c_X4_wouldBe_bad l G ma mv my x y (by rw [zWi_bel (by decide), zWi_bel (by decide), h8, h9]; rfl)) rfl (rel_same h)
  · exact step_mk (pa, S, P, L, t, v, u, pv) (mv, my) (c_X3_wouldBe_b1 l G o pr q a b d pa S P L t v u pv x y h8) (c_X4_wouldBe_bad l G ma mv my x y (by rw [zWi_bel (by decide), zWi_bel (by decide), h8]; rfl)) rfl (rel_same h)

set_option maxHeartbeats 4000000 in
theorem st_compaction (l : Launch) (G : ZG) (o pr q : Nat) (a b d : Nat → Nat) (pa : Nat → Nat → Nat) (S P L : Nat → Nat) (t v u : Mem) (pv : Nat → Mem) (ma : Nat → Nat) (mv : Mem) (my : Nat → Nat) (B : Nat) (h : Rel B S L t v pv mv my) (hB : B < 2 ^ 30) (x y : Int32) : StepI l G yX3_compaction wsX3_compaction (zRm 3 73) yX4_compaction wsX4_compaction (zRm 3 73) [.int x, .int y] o pr q a b d pa S P L t v u pv ma mv my B := by
  obtain ⟨⟨e, hR⟩, ⟨h4, hy0⟩, hpast, ⟨hL6, hy1⟩, hTx, hTm, hsg, hdg⟩ := id h
  have hv := hR.1
  have hC := hR.2.1
  have hre := hR.2.2
  have he : v 12 0 = nI e := hv.1.1
  have he9 : e ≤ 999 := hv.1.2
  have f0 : mv 0 0 = nI e := hre.1.1
  have f3 : mv 0 3 = nI e := hre.1.2.1
  have hM := re_okM hre hv (by omega)
  have num := rr_num hR
  have hN : okN v := nm_ok hv
  rcases z_b (zBel x 3) with h8 | h8
  · rcases z_b (zBel y 4) with h9 | h9
    · obtain ⟨n, hn, rfl⟩ := zBel_of (by decide) h8
      obtain ⟨k, hk, rfl⟩ := zBel_of (by decide) h9
      by_cases hie : n < e
      · obtain ⟨⟨w0, w1, w2⟩, -⟩ := hre.2.2.2 n hn hie
        rcases (show k = 0 ∨ k = 1 ∨ k = 2 ∨ k = 3 by omega) with kk | kk | kk | kk <;> subst kk
        · exact step_mk (pa, S, P, L, t, v, u, pv) (mv, my) (c_X3_compaction_w0 l G o pr q a b d pa S P L t v u pv n e hn he he9 hie) (c_X4_compaction_w l G ma mv my n 0 e hn (by omega) f0 f3 he9 hie) w0.symm (rel_same h)
        · exact step_mk (pa, S, P, L, t, v, u, pv) (mv, my) (c_X3_compaction_w1 l G o pr q a b d pa S P L t v u pv n e hn he he9 hie) (c_X4_compaction_w l G ma mv my n 1 e hn (by omega) f0 f3 he9 hie) w1.symm (rel_same h)
        · exact step_mk (pa, S, P, L, t, v, u, pv) (mv, my) (c_X3_compaction_w2 l G o pr q a b d pa S P L t v u pv n e hn he he9 hie) (c_X4_compaction_w l G ma mv my n 2 e hn (by omega) f0 f3 he9 hie) w2.symm (rel_same h)
        · refine step_mE (pa, S, P, L, t, v, u, pv) (c_X3_compaction_w3 l G o pr q a b d pa S P L t v u pv n e hn he he9 hie) (c_X4_compaction_s l G ma mv my n e f0 f3 he9 hM hn hie) (fun r z hz => ?_)
          obtain ⟨z1, z2⟩ := hz
          exact ⟨by rw [z1, fb_ct_cong (fun k hk => pSt_eq hR hB hn hie hk)], (mv, z), rfl, rel_keep h (fun _ _ => rfl) rfl rfl hdg (z2 0 (by decide)) (z2 1 (by decide))⟩
      · exact step_mk (pa, S, P, L, t, v, u, pv) (mv, my) (c_X3_compaction_no l G o pr q a b d pa S P L t v u pv n k e hn hk he he9 hie) (c_X4_compaction_no l G ma mv my n k e hn (by omega) f0 f3 he9 hie) rfl (rel_same h)
    · exact step_mk (pa, S, P, L, t, v, u, pv) (mv, my) (c_X3_compaction_b2 l G o pr q a b d pa S P L t v u pv x y h8 h9) (c_X4_compaction_bad l G ma mv my x y (by rw [zWi_bel (by decide), zWi_bel (by decide), h8, h9]; rfl)) rfl (rel_same h)
  · exact step_mk (pa, S, P, L, t, v, u, pv) (mv, my) (c_X3_compaction_b1 l G o pr q a b d pa S P L t v u pv x y h8) (c_X4_compaction_bad l G ma mv my x y (by rw [zWi_bel (by decide), zWi_bel (by decide), h8]; rfl)) rfl (rel_same h)

set_option maxHeartbeats 4000000 in
theorem st_count (l : Launch) (G : ZG) (o pr q : Nat) (a b d : Nat → Nat) (pa : Nat → Nat → Nat) (S P L : Nat → Nat) (t v u : Mem) (pv : Nat → Mem) (ma : Nat → Nat) (mv : Mem) (my : Nat → Nat) (B : Nat) (h : Rel B S L t v pv mv my) (hB : B < 2 ^ 30) (x : Int32) : StepI l G yX3_count wsX3_count (zRm 1 24) yX4_count wsX4_count (zRm 2 43) [.int x] o pr q a b d pa S P L t v u pv ma mv my B := by
  obtain ⟨⟨e, hR⟩, ⟨h4, hy0⟩, hpast, ⟨hL6, hy1⟩, hTx, hTm, hsg, hdg⟩ := id h
  have hv := hR.1
  have hC := hR.2.1
  have hre := hR.2.2
  have he : v 12 0 = nI e := hv.1.1
  have he9 : e ≤ 999 := hv.1.2
  have f0 : mv 0 0 = nI e := hre.1.1
  have f3 : mv 0 3 = nI e := hre.1.2.1
  have hM := re_okM hre hv (by omega)
  have num := rr_num hR
  have hN : okN v := nm_ok hv
  by_cases hx : x.toInt < 0 ∨ (10 : Int) < x.toInt
  · exact step_mk (pa, S, P, L, t, v, u, pv) (mv, my) (c_X3_count_out l G o pr q a b d pa S P L t v u pv x hx) (c_X4_count_out l G ma mv my x hx) rfl (rel_same h)
  · obtain ⟨k, hk, rfl⟩ := nI_of (x := x) (by rw [Int32.lt_iff_toInt_lt]; show ¬ x.toInt < 0; omega)
    rw [nI_toInt hk] at hx
    rcases (show k = 0 ∨ k = 1 ∨ k = 2 ∨ k = 3 ∨ k = 4 ∨ k = 5 ∨ k = 6 ∨ k = 7 ∨ k = 8 ∨ k = 9 ∨ k = 10 by omega) with kk | kk | kk | kk | kk | kk | kk | kk | kk | kk | kk <;> subst kk
    · exact step_mk (pa, S, P, L, t, v, u, pv) (mv, my) (c_X3_count_0 l G o pr q a b d pa S P L t v u pv) (c_X4_count_0 l G ma mv my) (by rw [re_cnt hre]) (rel_same h)
    · exact step_mk (pa, S, P, L, t, v, u, pv) (mv, my) (c_X3_count_1 l G o pr q a b d pa S P L t v u pv) (c_X4_count_1 l G ma mv my) (zSm_cong 40 (fun i hi => (re_us hre i hi).symm)) (rel_same h)
    · exact step_mk (pa, S, P, L, t, v, u, pv) (mv, my) (c_X3_count_2 l G o pr q a b d pa S P L t v u pv) (c_X4_count_2 l G ma mv my) (by rw [rr_cells hR]) (rel_same h)
    · exact step_mk (pa, S, P, L, t, v, u, pv) (mv, my) (c_X3_count_3 l G o pr q a b d pa S P L t v u pv) (c_X4_count_3 l G ma mv my) (by rw [he, f0]) (rel_same h)
    · exact step_mk (pa, S, P, L, t, v, u, pv) (mv, my) (c_X3_count_4 l G o pr q a b d pa S P L t v u pv) (c_X4_count_4 l G ma mv my) (by rw [zTp_top, zTop_cong 40 (fun i hi => (re_nm hre i hi).symm)]) (rel_same h)
    · exact step_mk (pa, S, P, L, t, v, u, pv) (mv, my) (c_X3_count_5 l G o pr q a b d pa S P L t v u pv) (c_X4_count_5 l G ma mv my) (by rw [zTp_all, re_cnt hre, zTp_top, zTop_cong 40 (fun i hi => (re_nm hre i hi).symm)]) (rel_same h)
    · exact step_mk (pa, S, P, L, t, v, u, pv) (mv, my) (c_X3_count_6 l G o pr q a b d pa S P L t v u pv) (c_X4_count_6 l G ma mv my) hre.1.2.2.1.symm (rel_same h)
    · exact step_mk (pa, S, P, L, t, v, u, pv) (mv, my) (c_X3_count_7 l G o pr q a b d pa S P L t v u pv) (c_X4_count_7 l G ma mv my) hre.1.2.2.2.symm (rel_same h)
    · exact step_mk (pa, S, P, L, t, v, u, pv) (mv, my) (c_X3_count_8 l G o pr q a b d pa S P L t v u pv e he he9) (c_X4_count_8 l G ma mv my e f3 he9) rfl (rel_same h)
    · exact step_mk (pa, S, P, L, t, v, u, pv) (mv, my) (c_X3_count_9 l G o pr q a b d pa S P L t v u pv) (c_X4_count_9 l G ma mv my) (by rw [hy0]) (rel_same h)
    · exact step_mk (pa, S, P, L, t, v, u, pv) (mv, my) (c_X3_count_10 l G o pr q a b d pa S P L t v u pv) (c_X4_count_10 l G ma mv my) (by rw [hy1]) (rel_same h)
