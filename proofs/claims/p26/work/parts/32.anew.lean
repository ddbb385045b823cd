section ANV
variable (v : Mem) (ρ e : Nat)
def anA : Mem := mrow (zAn1 v ρ e) 7 (va_cpy (v 2) (v 7) 0 (e % 3 * 40) 40)
theorem an_0 : zAnew v ρ e 0 = mvN (anA v ρ e) (e % 3 * 40) 0 40 := by simp [zAnew, zAn2, zMvC, zMvN, zMv1, mst, mrow, anA]
theorem an_1 : zAnew v ρ e 1 = mvN (anA v ρ e) (e % 3 * 40) 1 40 := by simp [zAnew, zAn2, zMvC, zMvN, zMv1, mst, mrow, anA]
theorem anA_k {k : Nat} (h : k = 0 ∨ k = 1 ∨ k = 2 ∨ k = 3) : anA v ρ e k = v k := by rcases h with rfl | rfl | rfl | rfl <;> simp [anA, zAn1, mst, mrow]
theorem anA_8 : anA v ρ e 8 = fb_put (v 8) (nxN v ρ) (e % 3 * 40) 40 := by simp [anA, zAn1, mst, mrow]
theorem an_2 : zAnew v ρ e 2 = zMap (anA v ρ e 2) (yrN (anA v ρ e) (e % 3 * 40)) 40 := by simp [zAnew, zAn2, zMvC, zMvN, zMv1, mst, mrow, anA]
theorem an_3 : zAnew v ρ e 3 = zMap (zMvN (anA v ρ e) (e % 3 * 40) 3) (mvC (zMvN (anA v ρ e) (e % 3 * 40)) (e % 3 * 40)) 18 := by simp [zAnew, zAn2, zMvC, mst, mrow, anA]
theorem anM_3 (w : Mem) (r : Nat) : zMvN w r 3 = w 3 := by simp [zMvN, zMv1, mrow]
theorem anM_8 (w : Mem) (r : Nat) : zMvN w r 8 = w 8 := by simp [zMvN, zMv1, mrow]
theorem an_4 : zAnew v ρ e 4 = upd (v 4) (e % 3) (nI ρ) := by simp [zAnew, zAn2, zMvC, zMvN, zMv1, zAn1, mst, mrow]
theorem an_5 : zAnew v ρ e 5 = upd (v 5) (e % 3) (nI (fb_ct (pNm v) 40)) := by simp [zAnew, zAn2, zMvC, zMvN, zMv1, zAn1, mst, mrow]
theorem an_6 : zAnew v ρ e 6 = upd (v 6) (e % 3) (nI (fb_ct (pMv v ρ) 40)) := by simp [zAnew, zAn2, zMvC, zMvN, zMv1, zAn1, mst, mrow]
theorem an_7 : zAnew v ρ e 7 = va_cpy (v 2) (v 7) 0 (e % 3 * 40) 40 := by simp [zAnew, zAn2, zMvC, zMvN, zMv1, mst, mrow]
theorem an_8 : zAnew v ρ e 8 = fb_put (v 8) (nxN v ρ) (e % 3 * 40) 40 := by simp [zAnew, zAn2, zMvC, zMvN, zMv1, zAn1, mst, mrow]
theorem an_9 : zAnew v ρ e 9 = va_cpy (zAnew v ρ e 2) (v 9) 0 (e % 3 * 40) 40 := by simp [zAnew, mst, mrow]
theorem an_12 : zAnew v ρ e 12 = upd (v 12) 0 (nI (e + 1)) := by simp [zAnew, zAn2, zMvC, zMvN, zMv1, zAn1, mst, mrow]
end ANV
theorem mvTo_spec {nm nb old base : Nat → Int32} {P : Nat → Nat} (hnb : ∀ j, j < 40 → nb j = if nm j = 0 then -1 else nI (P j)) (hP : ∀ j, j < 40 → ¬ nm j = 0 → P j < 40) (hinj : ∀ a b, a < 40 → b < 40 → ¬ nm a = 0 → ¬ nm b = 0 → P a = P b → a = b) :
    ∀ i, i ≤ 40 → (∀ j, j < i → ¬ nm j = 0 → mvTo nb old base i (P j) = old j) ∧ (∀ k, (∀ j, j < i → ¬ nm j = 0 → P j ≠ k) → mvTo nb old base i k = base k)
  | 0, _ => ⟨fun j h => absurd h (Nat.not_lt_zero j), fun k _ => rfl⟩
  | i + 1, hi => by
    obtain ⟨h1, h2⟩ := mvTo_spec hnb hP hinj i (by omega)
    by_cases h0 : nm i = 0
    · have e1 : mvTo nb old base (i + 1) = mvTo nb old base i := (mvTo_out (by rw [hnb i (by omega), if_pos h0, zBel_m1])).symm
      rw [e1]
      refine ⟨fun j hj hj0 => h1 j ?_ hj0, fun k hk => h2 k (fun j hj hj0 => hk j (by omega) hj0)⟩
      rcases Nat.lt_or_ge j i with q | q
      · exact q
      · exact absurd h0 (by rw [show i = j by omega]; exact hj0)
    · have hp := hP i (by omega) h0
      have en : nb i = nI (P i) := by rw [hnb i (by omega), if_neg h0]
      have e1 : mvTo nb old base (i + 1) = upd (mvTo nb old base i) (P i) (old i) := (mvTo_in (by rw [en, zBel_N (by omega) (by decide)]; exact decide_eq_true hp) hp en rfl).symm
      rw [e1]
      refine ⟨fun j hj hj0 => ?_, fun k hk => ?_⟩
      · by_cases q : j = i
        · subst q; exact pk_us
        · rw [pk_un (fun z => q (hinj j i (by omega) (by omega) hj0 h0 z))]
          exact h1 j (by omega) hj0
      · rw [pk_un (fun z => hk i (by omega) h0 z.symm)]
        exact h2 k (fun j hj hj0 => hk j (by omega) hj0)
theorem zPos_lt {nm us : Nat → Int32} {ρ a b : Nat} (ha : a < 40) (ha0 : ¬ nm a = 0) (h : zAh nm us ρ a b = true) : zPos nm us ρ a < zPos nm us ρ b := by
  have h1 : fb_ct (fun l => (decide (¬ nm l = 0) && zAh nm us ρ l a) || decide (l = a)) 40 ≤ zPos nm us ρ b := by
    refine fb_ct_sub (fun l hl q => ?_)
    rw [Bool.or_eq_true, decide_eq_true_eq, Bool.and_eq_true, decide_eq_true_eq] at q
    rw [Bool.and_eq_true, decide_eq_true_eq]
    rcases q with ⟨q1, q2⟩ | rfl
    · exact ⟨q1, zAh_trans q2 h⟩
    · exact ⟨ha0, h⟩
  rw [fb_ct_or (fun l hl q => by
    obtain ⟨q1, q2⟩ := q
    have e1 := of_decide_eq_true q2
    subst e1
    rw [Bool.and_eq_true] at q1
    rw [zAh_irr] at q1
    cases q1.2), fb_ct_one (i := a) ha (decide_eq_true rfl) (fun k _ q => of_decide_eq_true q)] at h1
  unfold zPos at h1 ⊢
  omega
theorem zPos_inj {nm us : Nat → Int32} {ρ a b : Nat} (hI : injN nm) (ha : a < 40) (hb : b < 40) (ha0 : ¬ nm a = 0) (hb0 : ¬ nm b = 0) (h : zPos nm us ρ a = zPos nm us ρ b) : a = b := by
  apply Classical.byContradiction
  intro hne
  cases q : zAh nm us ρ a b with
  | true => have := zPos_lt ha ha0 q; omega
  | false => have := zPos_lt hb hb0 (zAh_tot hI ha hb ha0 hb0 hne q); omega
theorem op_anew {v : Mem} {f F : Nat → Int32} {e B ρ : Nat} (h : RR v f e B) (he : e < 999) (hp : cmpPost f ρ F) : RR (zAnew v ρ e) F (e + 1) (B + 1) ∧ mvdA f ρ = fb_ct (pMv v ρ) 40 := by
  obtain ⟨hv, hc, hre⟩ := h
  obtain ⟨⟨p1a, p1b, p1c, p1d⟩, p2, p3, p4, p5, p6, ⟨p7a, p7b, p7c⟩, p8, p9⟩ := hp
  have hcn := re_cnt hre
  have hc40 : cntA f ≤ 40 := fb_ct_le _ _
  have hpos : ∀ j, j < 40 → posA f ρ j = zPl v ρ j := fun j hj => re_posA hre hj
  have nmf : ∀ j, j < 40 → f (4 + j) = v 0 j := fun j hj => (hre.2.1 j hj).1
  have usf : ∀ j, j < 40 → f (44 + j) = v 1 j := fun j hj => (hre.2.1 j hj).2.1
  have yrf : ∀ j, j < 40 → f (84 + j) = v 2 j := fun j hj => (hre.2.1 j hj).2.2
  have hPlt : ∀ j, j < 40 → ¬ v 0 j = 0 → zPl v ρ j < cntA f := fun j hj hj0 => by rw [← hpos j hj]; exact (p2 j hj (by rw [nmf j hj]; exact hj0)).1
  have hP40 : ∀ j, j < 40 → ¬ v 0 j = 0 → zPl v ρ j < 40 := fun j hj hj0 => by have := hPlt j hj hj0; omega
  have hinj : ∀ a b, a < 40 → b < 40 → ¬ v 0 a = 0 → ¬ v 0 b = 0 → zPl v ρ a = zPl v ρ b → a = b := fun a b ha hb ha0 hb0 q => zPos_inj (nm_inj hv) ha hb ha0 hb0 (by rw [← zPl_eq, ← zPl_eq]; exact q)
  have hnb : ∀ j, j < 40 → nbR (anA v ρ e) (e % 3 * 40) j = if v 0 j = 0 then -1 else nI (zPl v ρ j) := by
    intro j hj
    show anA v ρ e 8 (e % 3 * 40 + j) = _
    rw [anA_8, fb_put_in (by omega) (by omega), Nat.add_sub_cancel_left]; rfl
  -- names and users behind it
  have n0 := mvTo_spec (old := v 0) (base := zFillA 40 (nI 0) (v 0)) hnb hP40 hinj 40 (Nat.le_refl _)
  have n1 := mvTo_spec (old := v 1) (base := zFillA 40 (nI 0) (v 1)) hnb hP40 hinj 40 (Nat.le_refl _)
  have a0 : zAnew v ρ e 0 = mvTo (nbR (anA v ρ e) (e % 3 * 40)) (v 0) (zFillA 40 (nI 0) (v 0)) 40 := by
    rw [an_0, mvN, anA_k v ρ e (Or.inl rfl)]
  have a1 : zAnew v ρ e 1 = mvTo (nbR (anA v ρ e) (e % 3 * 40)) (v 1) (zFillA 40 (nI 0) (v 1)) 40 := by
    rw [an_1, mvN, anA_k v ρ e (Or.inr (Or.inl rfl))]
  rw [← a0] at n0
  rw [← a1] at n1
  have fil : ∀ (g : Nat → Int32) k, k < 40 → zFillA 40 (nI 0) g k = 0 := fun g k hk => if_pos hk
  have hit : ∀ k, k < 40 → (∃ j, j < 40 ∧ ¬ v 0 j = 0 ∧ zPl v ρ j = k) ∨ (∀ j, j < 40 → ¬ v 0 j = 0 → zPl v ρ j ≠ k) := by
    intro k hk
    rcases Classical.em (∃ j, j < 40 ∧ ¬ v 0 j = 0 ∧ zPl v ρ j = k) with q | q
    · exact Or.inl q
    · exact Or.inr (fun j hj hj0 z => q ⟨j, hj, hj0, z⟩)
  have hitF : ∀ k, k < 40 → (∀ j, j < 40 → ¬ v 0 j = 0 → zPl v ρ j ≠ k) → cntA f ≤ k := by
    intro k hk q
    apply Classical.byContradiction
    intro z
    obtain ⟨j, hj, hj0, hjp⟩ := p3 k (by omega)
    rw [nmf j hj] at hj0
    exact q j hj hj0 (by rw [← hpos j hj]; exact hjp)
  have nmF : ∀ k, k < 40 → F (4 + k) = zAnew v ρ e 0 k ∧ F (44 + k) = zAnew v ρ e 1 k := by
    intro k hk
    rcases hit k hk with ⟨j, hj, hj0, rfl⟩ | q
    · obtain ⟨-, b1, b2⟩ := p2 j hj (by rw [nmf j hj]; exact hj0)
      rw [hpos j hj] at b1 b2
      exact ⟨by rw [b1, n0.1 j hj hj0, nmf j hj], by rw [b2, n1.1 j hj hj0, usf j hj]⟩
    · obtain ⟨b1, b2⟩ := p4 k hk (hitF k hk q)
      exact ⟨by rw [b1, n0.2 k q, fil _ k hk]; rfl, by rw [b2, n1.2 k q, fil _ k hk]; rfl⟩
  have yrV : ∀ k, k < 40 → zAnew v ρ e 2 k = if zAnew v ρ e 0 k = v 0 k then v 2 k else v 2 k + nI 1 := by
    intro k hk
    rw [an_2, zMap_lo hk, yrN, ← an_0, anA_k v ρ e (Or.inl rfl), anA_k v ρ e (Or.inr (Or.inr (Or.inl rfl)))]
  have yrF : ∀ k, k < 40 → F (84 + k) = zAnew v ρ e 2 k := by
    intro k hk
    rw [p5 k hk, yrV k hk, (nmF k hk).1, nmf k hk, yrf k hk]
  have clV : ∀ k, k < 18 → zAnew v ρ e 3 k = if v 3 k = -1 then -1 else nI (zPl v ρ (v 3 k).toNatClampNeg) := by
    intro k hk
    rw [an_3, zMap_lo hk, mvC, anM_3, anM_8, anA_k v ρ e (Or.inr (Or.inr (Or.inr rfl))), anA_8]
    rcases hv.2.2.2.2.1 k hk with q | ⟨o, ho, hoe⟩
    · rw [q, zBel_m1, if_neg (by decide), if_pos rfl]
    · have ho0 := cells_named hv hc hk ho hoe
      rw [hoe, if_pos (by rw [zBel_N (by omega) (by decide)]; exact decide_eq_true ho), if_neg (nI_nm1 (by omega)), nI_clamp (by omega), fb_put_in (by omega) (by omega), Nat.add_sub_cancel_left, nxN_n ho0]
  have clF : ∀ k, k < 18 → F (124 + k) = zAnew v ρ e 3 k := by
    intro k hk
    rw [p6 k hk, clV k hk, clA, hre.2.2.1 k hk]
    rcases hv.2.2.2.2.1 k hk with q | ⟨o, ho, hoe⟩
    · rw [q, if_pos rfl, if_pos rfl]
    · rw [hoe, nI_clamp (by omega), hpos o ho]
  have nx : ∀ n, n < 40 → zAnew v ρ e 8 (e % 3 * 40 + n) = nxN v ρ n := fun n hn => by rw [an_8, fb_put_in (by omega) (by omega), Nat.add_sub_cancel_left]
  have y7 : ∀ n, n < 40 → zAnew v ρ e 7 (e % 3 * 40 + n) = v 2 n := fun n hn => by rw [an_7, pk_cpy_in (by omega) (by omega)]; congr 1; omega
  have y9 : ∀ n, n < 40 → zAnew v ρ e 9 (e % 3 * 40 + n) = zAnew v ρ e 2 n := fun n hn => by rw [an_9, pk_cpy_in (by omega) (by omega)]; congr 1; omega
  -- the older compactions
  have old8 : ∀ i n, i < 2 → i < e → n < 40 → zAnew v ρ e 8 ((e - 1 - i) % 3 * 40 + n) = v 8 ((e - 1 - i) % 3 * 40 + n) := by
    intro i n hi hie hn
    rw [an_8, fb_put_out]
    have : (e - 1 - i) % 3 ≠ e % 3 := by omega
    have h1 : (e - 1 - i) % 3 < 3 := Nat.mod_lt _ (by decide)
    have h2 : e % 3 < 3 := Nat.mod_lt _ (by decide)
    omega
  have old7 : ∀ i n, i < 2 → i < e → n < 40 → zAnew v ρ e 7 ((e - 1 - i) % 3 * 40 + n) = v 7 ((e - 1 - i) % 3 * 40 + n) := by
    intro i n hi hie hn
    rw [an_7, pk_cpy_out]
    have : (e - 1 - i) % 3 ≠ e % 3 := by omega
    have h1 : (e - 1 - i) % 3 < 3 := Nat.mod_lt _ (by decide)
    have h2 : e % 3 < 3 := Nat.mod_lt _ (by decide)
    omega
  have old9 : ∀ i n, i < 2 → i < e → n < 40 → zAnew v ρ e 9 ((e - 1 - i) % 3 * 40 + n) = v 9 ((e - 1 - i) % 3 * 40 + n) := by
    intro i n hi hie hn
    rw [an_9, pk_cpy_out]
    have : (e - 1 - i) % 3 ≠ e % 3 := by omega
    have h1 : (e - 1 - i) % 3 < 3 := Nat.mod_lt _ (by decide)
    have h2 : e % 3 < 3 := Nat.mod_lt _ (by decide)
    omega
  have yrB : ∀ k, k < 40 → ∃ z, z ≤ B + 1 ∧ zAnew v ρ e 2 k = nI z := by
    intro k hk
    obtain ⟨z, hz1, hz2⟩ := hv.2.2.2.2.2.1 k hk
    rw [yrV k hk]
    split
    · exact ⟨z, by omega, hz2⟩
    · exact ⟨z + 1, by omega, by rw [hz2, nI_add]⟩
  have usV : ∀ j, j < 40 → ¬ v 0 j = 0 → usK (zAnew v ρ e) (zPl v ρ j) = usK v j := fun j hj hj0 => by unfold usK; rw [n1.1 j hj hj0]
  have us0 : ∀ k, k < 40 → (∀ j, j < 40 → ¬ v 0 j = 0 → zPl v ρ j ≠ k) → usK (zAnew v ρ e) k = 0 := fun k hk q => by unfold usK; rw [n1.2 k q, fil _ k hk]; rfl
  have mvd : mvdA f ρ = fb_ct (pMv v ρ) 40 := by
    refine fb_ct_cong (fun j hj => ?_)
    rw [pMv_eq, nmf j hj, hpos j hj]
    by_cases q : v 0 j = 0
    · have : nxN v ρ j = -1 := if_pos q
      rw [this]; simp [q]
    · rw [nxN_n q]
      have h9 := hP40 j hj q
      have h1 : (nI (zPl v ρ j) = nI j) ↔ zPl v ρ j = j := nI_eq (by omega) (by omega)
      have h2 : ¬ nI (zPl v ρ j) = -1 := nI_nm1 (by omega)
      simp [q, h1, h2]
  refine ⟨⟨⟨⟨?_, by omega⟩, fun i hi => ?_, fun i j hi hj hi0 hij => ?_, fun i hi => ?_, fun k hk => ?_, fun i hi => yrB i hi, fun i hi hie n hn => ?_⟩, fun i hi => ?_, ⟨⟨?_, ?_, ?_, ?_⟩, fun i hi => ⟨(nmF i hi).1, (nmF i hi).2, yrF i hi⟩, clF, fun i hi hie => ?_⟩⟩, mvd⟩
  · rw [an_12]; exact pk_us
  · rcases hit i hi with ⟨j, hj, hj0, rfl⟩ | q
    · rw [n0.1 j hj hj0]; exact hv.2.1 j hj
    · exact Or.inl (by rw [n0.2 i q, fil _ i hi])
  · rcases hit i hi with ⟨a, ha, ha0, rfl⟩ | q
    · rcases hit j hj with ⟨b, hb, hb0, rfl⟩ | r
      · rw [n0.1 a ha ha0, n0.1 b hb hb0] at hij
        rw [hv.2.2.1 a b ha hb ha0 hij]
      · rw [n0.1 a ha ha0, n0.2 j r, fil _ j hj] at hij
        exact absurd hij ha0
    · rw [n0.2 i q, fil _ i hi] at hi0
      exact absurd rfl hi0
  · rcases hit i hi with ⟨j, hj, hj0, rfl⟩ | q
    · obtain ⟨b1, b2, b3⟩ := hv.2.2.2.1 j hj
      rw [usV j hj hj0, n0.1 j hj hj0, n1.1 j hj hj0]
      exact ⟨b1, b2, b3⟩
    · rw [us0 i hi q, n0.2 i q, n1.2 i q, fil _ i hi, fil _ i hi]
      exact ⟨rfl, by omega, ⟨fun _ => rfl, fun _ => rfl⟩⟩
  · rw [clV k hk]
    rcases hv.2.2.2.2.1 k hk with q | ⟨o, ho, hoe⟩
    · exact Or.inl (by rw [q, if_pos rfl])
    · rw [hoe, if_neg (nI_nm1 (by omega)), nI_clamp (by omega)]
      exact Or.inr ⟨_, hP40 o ho (cells_named hv hc hk ho hoe), rfl⟩
  · cases i with
    | zero =>
      rw [show e + 1 - 1 - 0 = e by omega, nx n hn, y7 n hn]
      by_cases q : v 0 n = 0
      · exact Or.inl (if_pos q)
      · rw [nxN_n q]
        refine Or.inr ⟨_, hP40 n hn q, rfl, ?_, ?_⟩
        · obtain ⟨z, hz1, hz2⟩ := hv.2.2.2.2.2.1 n hn
          exact ⟨z, by omega, hz2⟩
        · rw [y9 _ (hP40 n hn q)]
          exact yrB _ (hP40 n hn q)
    | succ i =>
      rw [show e + 1 - 1 - (i + 1) = e - 1 - i by omega, old8 i n (by omega) (by omega) hn, old7 i n (by omega) (by omega) hn]
      rcases hv.2.2.2.2.2.2 i (by omega) (by omega) n hn with q | ⟨q, q1, q2, ⟨z, b1, b2⟩, z2, b3, b4⟩
      · exact Or.inl q
      · exact Or.inr ⟨q, q1, q2, ⟨z, by omega, b2⟩, z2, by omega, by rw [old9 i q (by omega) (by omega) q1]; exact b4⟩
  · rcases hit i hi with ⟨j, hj, hj0, rfl⟩ | q
    · rw [usV j hj hj0]
      have h1 : zCells (zAnew v ρ e 3) (nI (zPl v ρ j)) = zCells (v 3) (nI j) := by
        refine fb_ct_cong (fun k hk => ?_)
        rw [clV k hk]
        rcases hv.2.2.2.2.1 k hk with r | ⟨o, ho, hoe⟩
        · rw [r, if_pos rfl, decide_eq_false (fun z => nI_nm1 (by have := hP40 j hj hj0; omega) z.symm), decide_eq_false (fun z => nI_nm1 (by omega) z.symm)]
        · have ho0 := cells_named hv hc hk ho hoe
          have g1 := hP40 o ho ho0
          have g2 := hP40 j hj hj0
          rw [hoe, if_neg (nI_nm1 (by omega)), nI_clamp (by omega)]
          refine decide_eq_decide.mpr ⟨fun z => ?_, fun z => ?_⟩
          · rw [hinj o j ho hj ho0 hj0 (nI_inj (by omega) (by omega) z)]
          · rw [nI_inj (by omega) (by omega) z]
      rw [h1]
      exact hc j hj
    · have h1 : zCells (zAnew v ρ e 3) (nI i) = 0 := by
        refine fb_ct_zero.mpr (fun k hk => decide_eq_false ?_)
        rw [clV k hk]
        rcases hv.2.2.2.2.1 k hk with r | ⟨o, ho, hoe⟩
        · rw [r, if_pos rfl]
          exact fun z => nI_nm1 (by omega) z.symm
        · have ho0 := cells_named hv hc hk ho hoe
          have g1 := hP40 o ho ho0
          rw [hoe, if_neg (nI_nm1 (by omega)), nI_clamp (by omega)]
          exact fun z => q o ho ho0 (nI_inj (by omega) (by omega) z)
      rw [h1]; exact Nat.zero_le _
  · rw [p1a, hre.1.1, nI_add]
  · rw [p1d, hre.1.2.1, nI_add]
  · rw [p1b, hre.1.2.2.1, an_12]; exact (pk_un (by omega)).symm
  · rw [p1c, hre.1.2.2.2, an_12]; exact (pk_un (by omega)).symm
  · cases i with
    | zero =>
      rw [show e + 1 - 1 - 0 = e by omega]
      refine ⟨⟨?_, ?_, ?_⟩, fun n hn => ?_⟩
      · rw [an_4]; exact p7a.trans pk_us.symm
      · rw [an_5, ← hcn]; exact p7b.trans pk_us.symm
      · rw [an_6, ← mvd]; exact p7c.trans pk_us.symm
      · obtain ⟨b1, b2, b3⟩ := p8 n hn
        rw [show 142 + 123 * 0 + (3 + n) = 145 + n by omega, show 142 + 123 * 0 + (43 + n) = 185 + n by omega, show 142 + 123 * 0 + (83 + n) = 225 + n by omega, b1, b2, b3, nx n hn, y7 n hn, oldA, newA, nmf n hn, yrf n hn, hpos n hn]
        by_cases q : v 0 n = 0
        · have e1 : nxN v ρ n = -1 := if_pos q
          rw [if_pos q, if_pos q, if_pos q, e1, if_pos rfl, if_pos rfl]
          exact ⟨rfl, rfl, rfl⟩
        · have g := hP40 n hn q
          rw [if_neg q, if_neg q, if_neg q, nxN_n q, if_neg (nI_nm1 (by omega)), if_neg (nI_nm1 (by omega)), nI_clamp (by omega), y9 _ g, yrF _ g]
          exact ⟨rfl, rfl, rfl⟩
    | succ i =>
      rw [show e + 1 - 1 - (i + 1) = e - 1 - i by omega]
      obtain ⟨⟨c1, c2, c3⟩, c4⟩ := hre.2.2.2 i (by omega) (by omega)
      have sh : ∀ x, x < 123 → F (142 + 123 * (i + 1) + x) = f (142 + 123 * i + x) := fun x hx => by
        rw [p9 _ (by omega) (by omega)]
        rw [show 142 + 123 * (i + 1) + x - 123 = 142 + 123 * i + x by omega]
      have hne : (e - 1 - i) % 3 ≠ e % 3 := by omega
      refine ⟨⟨?_, ?_, ?_⟩, fun n hn => ?_⟩
      · rw [an_4, pk_un hne, ← c1]; exact sh 0 (by omega)
      · rw [an_5, pk_un hne, ← c2]; exact sh 1 (by omega)
      · rw [an_6, pk_un hne, ← c3]; exact sh 2 (by omega)
      · obtain ⟨d1, d2, d3⟩ := c4 n hn
        rw [sh _ (by omega), sh _ (by omega), sh _ (by omega), d1, d2, d3, old8 i n (by omega) (by omega) hn, old7 i n (by omega) (by omega) hn]
        refine ⟨rfl, rfl, ?_⟩
        rcases hv.2.2.2.2.2.2 i (by omega) (by omega) n hn with q | ⟨q, q1, q2, -, -⟩
        · rw [q, if_pos rfl, if_pos rfl]
        · rw [q2, if_neg (nI_nm1 (by omega)), if_neg (nI_nm1 (by omega)), nI_clamp (by omega), old9 i q (by omega) (by omega) q1]
