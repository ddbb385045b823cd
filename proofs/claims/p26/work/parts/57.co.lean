theorem zPl_40 {v : Mem} {ρ j : Nat} (hj : j < 40) : zPl v ρ j < 40 := by
  have h1 := fb_ct_le (fun x => decide (¬ v 0 x = 0) && zAh (v 0) (v 1) ρ x j) 40
  rcases Nat.lt_or_ge (zPl v ρ j) 40 with q | q
  · exact q
  · exfalso
    have h2 : fb_ct (fun x => decide (¬ v 0 x = 0) && zAh (v 0) (v 1) ρ x j) 40 = 40 := Nat.le_antisymm h1 q
    have h3 := fb_ct_all.mp h2 j hj
    rw [Bool.and_eq_true, zAh_irr] at h3
    cases h3.2
theorem an_ok {v : Mem} {e B ρ : Nat} (hv : okV v e B) (hc : okC v) (he : e < 999) : okV (zAnew v ρ e) (e + 1) (B + 1) ∧ okC (zAnew v ρ e) := by
  have hP40 : ∀ j, j < 40 → ¬ v 0 j = 0 → zPl v ρ j < 40 := fun j hj _ => zPl_40 hj
  have hinj : ∀ a b, a < 40 → b < 40 → ¬ v 0 a = 0 → ¬ v 0 b = 0 → zPl v ρ a = zPl v ρ b → a = b := fun a b ha hb ha0 hb0 q => zPos_inj (nm_inj hv) ha hb ha0 hb0 (by rw [← zPl_eq, ← zPl_eq]; exact q)
  have hnb : ∀ j, j < 40 → nbR (anA v ρ e) (e % 3 * 40) j = if v 0 j = 0 then -1 else nI (zPl v ρ j) := by
    intro j hj
    show anA v ρ e 8 (e % 3 * 40 + j) = _
    rw [anA_8, fb_put_in (by omega) (by omega), Nat.add_sub_cancel_left]; rfl
  -- names and users behind it
  have n0 := mvTo_spec (old := v 0) (base := zFillA 40 (nI 0) (v 0)) hnb hP40 hinj 40 (Nat.le_refl _)
  have n1 := mvTo_spec (old := v 1) (base := zFillA 40 (nI 0) (v 1)) hnb hP40 hinj 40 (Nat.le_refl _)
  have a0 : zAnew v ρ e 0 = mvTo (nbR (anA v ρ e) (e % 3 * 40)) (v 0) (zFillA 40 (nI 0) (v 0)) 40 := by
    rw [an_0, mvN, anA_k v ρ e (Or.inl rfl)]
  have a1 : zAnew v ρ e 1 = mvTo (nbR (anA v ρ e) (e % 3 * 40)) (v 1) (zFillA 40 (nI 0) (v 1)) 40 := by
    rw [an_1, mvN, anA_k v ρ e (Or.inr (Or.inl rfl))]
  rw [← a0] at n0
  rw [← a1] at n1
  have fil : ∀ (g : Nat → Int32) k, k < 40 → zFillA 40 (nI 0) g k = 0 := fun g k hk => if_pos hk
  have hit : ∀ k, k < 40 → (∃ j, j < 40 ∧ ¬ v 0 j = 0 ∧ zPl v ρ j = k) ∨ (∀ j, j < 40 → ¬ v 0 j = 0 → zPl v ρ j ≠ k) := by
    intro k hk
    rcases Classical.em (∃ j, j < 40 ∧ ¬ v 0 j = 0 ∧ zPl v ρ j = k) with q | q
    · exact Or.inl q
    · exact Or.inr (fun j hj hj0 z => q ⟨j, hj, hj0, z⟩)
  have yrV : ∀ k, k < 40 → zAnew v ρ e 2 k = if zAnew v ρ e 0 k = v 0 k then v 2 k else v 2 k + nI 1 := by
    intro k hk
    rw [an_2, zMap_lo hk, yrN, ← an_0, anA_k v ρ e (Or.inl rfl), anA_k v ρ e (Or.inr (Or.inr (Or.inl rfl)))]
  have clV : ∀ k, k < 18 → zAnew v ρ e 3 k = if v 3 k = -1 then -1 else nI (zPl v ρ (v 3 k).toNatClampNeg) := by
    intro k hk
    rw [an_3, zMap_lo hk, mvC, anM_3, anM_8, anA_k v ρ e (Or.inr (Or.inr (Or.inr rfl))), anA_8]
    rcases hv.2.2.2.2.1 k hk with q | ⟨o, ho, hoe⟩
    · rw [q, zBel_m1, if_neg (by decide), if_pos rfl]
    · have ho0 := cells_named hv hc hk ho hoe
      rw [hoe, if_pos (by rw [zBel_N (by omega) (by decide)]; exact decide_eq_true ho), if_neg (nI_nm1 (by omega)), nI_clamp (by omega), fb_put_in (by omega) (by omega), Nat.add_sub_cancel_left, nxN_n ho0]
  have nx : ∀ n, n < 40 → zAnew v ρ e 8 (e % 3 * 40 + n) = nxN v ρ n := fun n hn => by rw [an_8, fb_put_in (by omega) (by omega), Nat.add_sub_cancel_left]
  have y7 : ∀ n, n < 40 → zAnew v ρ e 7 (e % 3 * 40 + n) = v 2 n := fun n hn => by rw [an_7, pk_cpy_in (by omega) (by omega)]; congr 1; omega
  have y9 : ∀ n, n < 40 → zAnew v ρ e 9 (e % 3 * 40 + n) = zAnew v ρ e 2 n := fun n hn => by rw [an_9, pk_cpy_in (by omega) (by omega)]; congr 1; omega
  -- the older compactions
  have old8 : ∀ i n, i < 2 → i < e → n < 40 → zAnew v ρ e 8 ((e - 1 - i) % 3 * 40 + n) = v 8 ((e - 1 - i) % 3 * 40 + n) := by
    intro i n hi hie hn
    rw [an_8, fb_put_out]
    have : (e - 1 - i) % 3 ≠ e % 3 := by omega
    have h1 : (e - 1 - i) % 3 < 3 := Nat.mod_lt _ (by decide)
    have h2 : e % 3 < 3 := Nat.mod_lt _ (by decide)
    omega
  have old7 : ∀ i n, i < 2 → i < e → n < 40 → zAnew v ρ e 7 ((e - 1 - i) % 3 * 40 + n) = v 7 ((e - 1 - i) % 3 * 40 + n) := by
    intro i n hi hie hn
    rw [an_7, pk_cpy_out]
    have : (e - 1 - i) % 3 ≠ e % 3 := by omega
    have h1 : (e - 1 - i) % 3 < 3 := Nat.mod_lt _ (by decide)
    have h2 : e % 3 < 3 := Nat.mod_lt _ (by decide)
    omega
  have old9 : ∀ i n, i < 2 → i < e → n < 40 → zAnew v ρ e 9 ((e - 1 - i) % 3 * 40 + n) = v 9 ((e - 1 - i) % 3 * 40 + n) := by
    intro i n hi hie hn
    rw [an_9, pk_cpy_out]
    have : (e - 1 - i) % 3 ≠ e % 3 := by omega
    have h1 : (e - 1 - i) % 3 < 3 := Nat.mod_lt _ (by decide)
    have h2 : e % 3 < 3 := Nat.mod_lt _ (by decide)
    omega
  have yrB : ∀ k, k < 40 → ∃ z, z ≤ B + 1 ∧ zAnew v ρ e 2 k = nI z := by
    intro k hk
    obtain ⟨z, hz1, hz2⟩ := hv.2.2.2.2.2.1 k hk
    rw [yrV k hk]
    split
    · exact ⟨z, by omega, hz2⟩
    · exact ⟨z + 1, by omega, by rw [hz2, nI_add]⟩
  have usV : ∀ j, j < 40 → ¬ v 0 j = 0 → usK (zAnew v ρ e) (zPl v ρ j) = usK v j := fun j hj hj0 => by unfold usK; rw [n1.1 j hj hj0]
  have us0 : ∀ k, k < 40 → (∀ j, j < 40 → ¬ v 0 j = 0 → zPl v ρ j ≠ k) → usK (zAnew v ρ e) k = 0 := fun k hk q => by unfold usK; rw [n1.2 k q, fil _ k hk]; rfl
  refine ⟨⟨⟨?_, by omega⟩, fun i hi => ?_, fun i j hi hj hi0 hij => ?_, fun i hi => ?_, fun k hk => ?_, fun i hi => yrB i hi, fun i hi hie n hn => ?_⟩, fun i hi => ?_⟩
  · rw [an_12]; exact pk_us
  · rcases hit i hi with ⟨j, hj, hj0, rfl⟩ | q
    · rw [n0.1 j hj hj0]; exact hv.2.1 j hj
    · exact Or.inl (by rw [n0.2 i q, fil _ i hi])
  · rcases hit i hi with ⟨a, ha, ha0, rfl⟩ | q
    · rcases hit j hj with ⟨b, hb, hb0, rfl⟩ | r
      · rw [n0.1 a ha ha0, n0.1 b hb hb0] at hij
        rw [hv.2.2.1 a b ha hb ha0 hij]
      · rw [n0.1 a ha ha0, n0.2 j r, fil _ j hj] at hij
        exact absurd hij ha0
    · rw [n0.2 i q, fil _ i hi] at hi0
      exact absurd rfl hi0
  · rcases hit i hi with ⟨j, hj, hj0, rfl⟩ | q
    · obtain ⟨b1, b2, b3⟩ := hv.2.2.2.1 j hj
      rw [usV j hj hj0, n0.1 j hj hj0, n1.1 j hj hj0]
      exact ⟨b1, b2, b3⟩
    · rw [us0 i hi q, n0.2 i q, n1.2 i q, fil _ i hi, fil _ i hi]
      exact ⟨rfl, by omega, ⟨fun _ => rfl, fun _ => rfl⟩⟩
  · rw [clV k hk]
    rcases hv.2.2.2.2.1 k hk with q | ⟨o, ho, hoe⟩
    · exact Or.inl (by rw [q, if_pos rfl])
    · rw [hoe, if_neg (nI_nm1 (by omega)), nI_clamp (by omega)]
      exact Or.inr ⟨_, hP40 o ho (cells_named hv hc hk ho hoe), rfl⟩
  · cases i with
    | zero =>
      rw [show e + 1 - 1 - 0 = e by omega, nx n hn, y7 n hn]
      by_cases q : v 0 n = 0
      · exact Or.inl (if_pos q)
      · rw [nxN_n q]
        refine Or.inr ⟨_, hP40 n hn q, rfl, ?_, ?_⟩
        · obtain ⟨z, hz1, hz2⟩ := hv.2.2.2.2.2.1 n hn
          exact ⟨z, by omega, hz2⟩
        · rw [y9 _ (hP40 n hn q)]
          exact yrB _ (hP40 n hn q)
    | succ i =>
      rw [show e + 1 - 1 - (i + 1) = e - 1 - i by omega, old8 i n (by omega) (by omega) hn, old7 i n (by omega) (by omega) hn]
      rcases hv.2.2.2.2.2.2 i (by omega) (by omega) n hn with q | ⟨q, q1, q2, ⟨z, b1, b2⟩, z2, b3, b4⟩
      · exact Or.inl q
      · exact Or.inr ⟨q, q1, q2, ⟨z, by omega, b2⟩, z2, by omega, by rw [old9 i q (by omega) (by omega) q1]; exact b4⟩
  · rcases hit i hi with ⟨j, hj, hj0, rfl⟩ | q
    · rw [usV j hj hj0]
      have h1 : zCells (zAnew v ρ e 3) (nI (zPl v ρ j)) = zCells (v 3) (nI j) := by
        refine fb_ct_cong (fun k hk => ?_)
        rw [clV k hk]
        rcases hv.2.2.2.2.1 k hk with r | ⟨o, ho, hoe⟩
        · rw [r, if_pos rfl, decide_eq_false (fun z => nI_nm1 (by have := hP40 j hj hj0; omega) z.symm), decide_eq_false (fun z => nI_nm1 (by omega) z.symm)]
        · have ho0 := cells_named hv hc hk ho hoe
          have g1 := hP40 o ho ho0
          have g2 := hP40 j hj hj0
          rw [hoe, if_neg (nI_nm1 (by omega)), nI_clamp (by omega)]
          refine decide_eq_decide.mpr ⟨fun z => ?_, fun z => ?_⟩
          · rw [hinj o j ho hj ho0 hj0 (nI_inj (by omega) (by omega) z)]
          · rw [nI_inj (by omega) (by omega) z]
      rw [h1]
      exact hc j hj
    · have h1 : zCells (zAnew v ρ e 3) (nI i) = 0 := by
        refine fb_ct_zero.mpr (fun k hk => decide_eq_false ?_)
        rw [clV k hk]
        rcases hv.2.2.2.2.1 k hk with r | ⟨o, ho, hoe⟩
        · rw [r, if_pos rfl]
          exact fun z => nI_nm1 (by omega) z.symm
        · have ho0 := cells_named hv hc hk ho hoe
          have g1 := hP40 o ho ho0
          rw [hoe, if_neg (nI_nm1 (by omega)), nI_clamp (by omega)]
          exact fun z => q o ho ho0 (nI_inj (by omega) (by omega) z)
      rw [h1]; exact Nat.zero_le _
def rowK (v : Mem) (d y : Nat) : Int32 :=
  if y = 0 then v 4 d else if y = 1 then v 5 d else if y = 2 then v 6 d
  else if y < 43 then (if v 8 (d * 40 + (y - 3)) = -1 then -1 else v 7 (d * 40 + (y - 3)))
  else if y < 83 then v 8 (d * 40 + (y - 43))
  else (if v 8 (d * 40 + (y - 83)) = -1 then -1 else v 9 (d * 40 + (v 8 (d * 40 + (y - 83))).toNatClampNeg))
/-- any roll has a row of the reference beside it -/
def rowOf (v : Mem) (e : Nat) : Nat → Int32 := fun x =>
  if x < 4 then (if x = 1 then v 12 1 else if x = 2 then v 12 2 else nI e)
  else if x < 44 then v 0 (x - 4) else if x < 84 then v 1 (x - 44) else if x < 124 then v 2 (x - 84) else if x < 142 then v 3 (x - 124)
  else rowK v ((e - 1 - (x - 142) / 123) % 3) ((x - 142) % 123)
theorem rowOf_c (v : Mem) {e i y : Nat} (hi : i < 3) (hy : y < 123) : rowOf v e (142 + 123 * i + y) = rowK v ((e - 1 - i) % 3) y := by
  unfold rowOf
  rw [if_neg (by omega), if_neg (by omega), if_neg (by omega), if_neg (by omega), if_neg (by omega), show (142 + 123 * i + y - 142) / 123 = i by omega, show (142 + 123 * i + y - 142) % 123 = y by omega]
theorem re_ex (v : Mem) (e : Nat) : RE v (rowOf v e) e := by
  refine ⟨⟨rfl, rfl, rfl, rfl⟩, fun i hi => ⟨?_, ?_, ?_⟩, fun k hk => ?_, fun i hi hie => ⟨⟨?_, ?_, ?_⟩, fun n hn => ⟨?_, ?_, ?_⟩⟩⟩
  · unfold rowOf
    rw [if_neg (by omega), if_pos (by omega), Nat.add_sub_cancel_left]
  · unfold rowOf
    rw [if_neg (by omega), if_neg (by omega), if_pos (by omega), Nat.add_sub_cancel_left]
  · unfold rowOf
    rw [if_neg (by omega), if_neg (by omega), if_neg (by omega), if_pos (by omega), Nat.add_sub_cancel_left]
  · unfold rowOf
    rw [if_neg (by omega), if_neg (by omega), if_neg (by omega), if_neg (by omega), if_pos (by omega), Nat.add_sub_cancel_left]
  · exact rowOf_c v (y := 0) hi (by omega)
  · exact rowOf_c v (y := 1) hi (by omega)
  · exact rowOf_c v (y := 2) hi (by omega)
  · rw [rowOf_c v hi (by omega), rowK, if_neg (by omega), if_neg (by omega), if_neg (by omega), if_pos (by omega), Nat.add_sub_cancel_left]
  · rw [rowOf_c v hi (by omega), rowK, if_neg (by omega), if_neg (by omega), if_neg (by omega), if_neg (by omega), if_pos (by omega), Nat.add_sub_cancel_left]
  · rw [rowOf_c v hi (by omega), rowK, if_neg (by omega), if_neg (by omega), if_neg (by omega), if_neg (by omega), if_neg (by omega), Nat.add_sub_cancel_left]
theorem rr_ex {v : Mem} {e B : Nat} (hv : okV v e B) (hc : okC v) : RR v (rowOf v e) e B := ⟨hv, hc, re_ex v e⟩
/-- a roll that is as it should be -/
def okR (v : Mem) (B : Nat) : Prop := ∃ e, okV v e B ∧ okC v
theorem okR_rr {v : Mem} {f : Nat → Int32} {e B : Nat} (h : RR v f e B) : okR v B := ⟨e, h.1, h.2.1⟩
theorem okR_mono {v : Mem} {B B' : Nat} (h : okR v B) (hB : B ≤ B') : okR v B' := by
  obtain ⟨e, a, b⟩ := h
  exact ⟨e, okV_mono a hB, b⟩
def cyPost (P : Nat → Nat) (v : Mem) (B c d0 d1 wd : Nat) (u : (Nat → Nat) × Mem) : Prop :=
  (xCan v c wd = true ∧ u.1 = P ∧ u.2 = xDo v c d0 d1 wd ∧ okR u.2 (B + 1)) ∨ (xCan v c wd = false ∧ u.1 = nup (nup P 1 3) 2 0 ∧ u.2 = v)
section CY
variable (l : Launch) (G : ZG) (q : Nat) (a : Nat → Nat) (P : Nat → Nat) (v : Mem) (B c d0 d1 wd : Nat)
abbrev CYE : Prop := CVE l G yX0_carryOut wsX0_carryOut (zRm 4 95) [.ref q] (playW G q (a 0) P ++ rollW G a v) (S := (Nat → Nat) × Mem) (cyPost P v B c d0 d1 wd) (fun u => playW G q (a 0) u.1 ++ rollW G a u.2)
variable {l G q a P v B c d0 d1 wd}
theorem cy_y {w : Mem} (hc : xCan v c wd = true) (hd : xDo v c d0 d1 wd = w) (ho : okR w (B + 1)) (h : CV l G yX0_carryOut wsX0_carryOut (zRm 4 95) [.ref q] (playW G q (a 0) P ++ rollW G a v) (playW G q (a 0) P ++ rollW G a w)) : CYE l G q a P v B c d0 d1 wd :=
  h.toE (P, w) rfl (Or.inl ⟨hc, rfl, hd.symm, ho⟩)
theorem cy_n (hc : xCan v c wd = false) (h1 : P 1 = 0) (h : CI l G yX0_canCarryOut wsX0_canCarryOut (zRm 3 64) [.ref q, .int (zNum (v 0) (nI (P 10)))] (playW G q (a 0) P ++ rollW G a v) (bI false) (playW G q (a 0) P ++ rollW G a v)) : CYE l G q a P v B c d0 d1 wd :=
  (c_X0_carryOut_no l G q a P v h1 h).toE (nup (nup P 1 3) 2 0, v) rfl (Or.inr ⟨hc, rfl, rfl⟩)
end CY
theorem us_pos {v : Mem} {e B n : Nat} (h : okV v e B) (hn : n < 40) (hu : 0 < usK v n) : 0 < v 1 n := by
  obtain ⟨a, b, -⟩ := h.2.2.2.1 n hn
  rw [a]
  exact nI_lt (a := 0) hu (by omega)
set_option maxHeartbeats 4000000 in
theorem c_X0_carryOut_c (l : Launch) (G : ZG) (q : Nat) (a : Nat → Nat) (P : Nat → Nat) (v : Mem) (e B c d0 d1 wd : Nat) (hv : okV v e B) (hC : okC v) (h1 : P 1 = 0) (hk : P 5 = c) (hch : c = 33 ∨ c = 61 ∨ c = 43 ∨ c = 45) (h33 : c = 33 → d0 ≤ 2 ∧ P 8 = d0) (h61 : c = 61 → d0 ≤ 2 ∧ d1 ≤ 5 ∧ P 6 = d0 ∧ P 7 = d1) (hw : ¬ c = 33 → P 10 = wd ∧ zName (nI wd) = true) : CYE l G q a P v B c d0 d1 wd := by
  have hR := rr_ex hv hC
  have hN : okN v := nm_ok hv
  obtain ⟨he, he9⟩ := hv.1
  by_cases c1 : c = 33
  · subst c1
    obtain ⟨k1, k2⟩ := h33 rfl
    have hcan := c_X0_canCarryOut_x l G q a P v (zNum (v 0) (nI (P 10))) (decide (e < 999)) hk (c_X1_hasNextEpoch l G a v e he he9)
    by_cases h9 : e < 999
    · have hc : xCan v 33 wd = true := by rw [xCan, if_pos rfl, rr_ep hR]; exact decide_eq_true h9
      rw [decide_eq_true h9] at hcan
      refine cy_y hc ?_ ⟨e + 1, an_ok (ρ := d0) hv hC h9⟩ (c_X0_carryOut_x l G q a P v h1 hk hcan _ _ (by rw [k2]; exact c_X1_giveAnew l G a v d0 e k1 hN he he9))
      rw [xDo, if_pos rfl, rr_ep hR]
    · have hc : xCan v 33 wd = false := by rw [xCan, if_pos rfl, rr_ep hR]; exact decide_eq_false h9
      rw [decide_eq_false h9] at hcan
      exact cy_n hc h1 hcan
  · obtain ⟨hw1, hz⟩ := hw c1
    subst hw1
    have hnm := zNum_or (v 0) (nI (P 10))
    by_cases c2 : c = 43
    · subst c2
      rcases hnm with h | ⟨n, hn, h, hne⟩
      · rcases zNum_or (v 0) (nI 0) with h2 | ⟨n, hn, h2, hn0⟩
        · have hc : xCan v 43 (P 10) = false := by rw [xCan, if_neg (by decide), if_pos rfl, if_pos h]; exact decide_eq_false (fun z => z h2)
          exact cy_n hc h1 (c_X0_canCarryOut_p l G q a P v _ false hk (c_X1_hasRoomFor_no l G a v _ h h2))
        · have hc : xCan v 43 (P 10) = true := by rw [xCan, if_neg (by decide), if_pos rfl, if_pos h]; exact decide_eq_true (fun z => nI_nm1 (by omega) (h2.symm.trans z))
          refine cy_y hc ?_ (okR_mono (okR_rr (op_new hR hz h hn hn0)) (by omega)) (c_X0_carryOut_p l G q a P v h1 hk (c_X0_canCarryOut_p l G q a P v _ true hk (c_X1_hasRoomFor_new l G a v _ n h hn h2)) _ _ (c_X1_enter_new l G a v _ n h hn h2))
          rw [xDo, if_neg (by decide), if_pos rfl, if_pos h, xFree, h2, nI_clamp (by omega)]
          rfl
      · have h0 : ¬ v 0 n = 0 := by rw [hne]; exact name_ne hz
        have hno : xNo v (P 10) = n := by rw [xNo, h, nI_clamp (by omega)]
        have hm : ¬ zNum (v 0) (nI (P 10)) = -1 := fun z => nI_nm1 (by omega) (h.symm.trans z)
        have hcan := c_X0_canCarryOut_p l G q a P v (zNum (v 0) (nI (P 10))) _ hk (c_X1_hasRoomFor_old l G a v _ n hn h)
        by_cases hu : nI 999 ≤ v 1 n
        · have hc : xCan v 43 (P 10) = false := by rw [xCan, if_neg (by decide), if_pos rfl, if_neg hm, hno]; exact decide_eq_false (fun z => z hu)
          rw [decide_eq_false (fun z => z hu)] at hcan
          exact cy_n hc h1 hcan
        · have hc : xCan v 43 (P 10) = true := by rw [xCan, if_neg (by decide), if_pos rfl, if_neg hm, hno]; exact decide_eq_true hu
          rw [decide_eq_true hu] at hcan
          refine cy_y hc ?_ (okR_mono (okR_rr (op_use hR hn h0 ((us_room hv hn).mp hu))) (by omega)) (c_X0_carryOut_p l G q a P v h1 hk hcan _ _ (c_X1_enter_old l G a v _ n hn h))
          rw [xDo, if_neg (by decide), if_pos rfl, if_neg hm, hno]
          rfl
    · rcases hnm with h | ⟨n, hn, h, hne⟩
      · have hc : xCan v c (P 10) = false := by rw [xCan, if_neg c1, if_neg c2, if_pos h]
        rcases hch with z | z | z | z
        · exact absurd z c1
        · subst z
          exact cy_n hc h1 (c_X0_canCarryOut_e l G q a P v _ false hk (by rw [h]; exact c_X1_hasRoomForUser_m1 l G a v))
        · exact absurd z c2
        · subst z
          exact cy_n hc h1 (c_X0_canCarryOut_m l G q a P v _ false hk (by rw [h]; exact c_X1_hasFreeUser_m1 l G a v))
      · have h0 : ¬ v 0 n = 0 := by rw [hne]; exact name_ne hz
        have hno : xNo v (P 10) = n := by rw [xNo, h, nI_clamp (by omega)]
        have hm : ¬ zNum (v 0) (nI (P 10)) = -1 := fun z => nI_nm1 (by omega) (h.symm.trans z)
        have hxc : xCan v c (P 10) = if c = 45 then decide (¬ v 1 n ≤ nI (zCells (v 3) (nI n))) else decide (¬ nI 999 ≤ v 1 n) := by rw [xCan, if_neg c1, if_neg c2, if_neg hm, hno]
        have hxd : xDo v c d0 d1 (P 10) = if c = 45 then zGive v n else xFill v (6 * d0 + d1) n := by rw [xDo, if_neg c1, if_neg c2, hno]
        rcases hch with z | z | z | z
        · exact absurd z c1
        · subst z
          rw [if_neg (by decide)] at hxc hxd
          obtain ⟨g0, g1, g2, g3⟩ := h61 rfl
          have hcan := c_X0_canCarryOut_e l G q a P v (zNum (v 0) (nI (P 10))) _ hk (by rw [h]; exact c_X1_hasRoomForUser l G a v n hn)
          by_cases hu : nI 999 ≤ v 1 n
          · rw [decide_eq_false (fun z => z hu)] at hcan
            exact cy_n (hxc.trans (decide_eq_false (fun z => z hu))) h1 hcan
          · rw [decide_eq_true hu] at hcan
            have hi : 6 * d0 + d1 < 18 := by omega
            have hro := (us_room hv hn).mp hu
            have hc := hxc.trans (decide_eq_true hu)
            have hix : P 6 * 6 + P 7 = 6 * d0 + d1 := by omega
            rcases hv.2.2.2.2.1 (6 * d0 + d1) hi with z | ⟨o, ho, z⟩
            · refine cy_y hc ?_ (okR_mono (okR_rr (op_fillE hR hi hn h0 hro z)) (by omega)) (c_X0_carryOut_e l G q a P v h1 hk hcan _ _ (by rw [hix, h]; exact c_X1_fillCell_e l G a v _ n hi hn z))
              rw [hxd, xFill, if_pos z]
              rfl
            · have hop := op_fillO hR hi hn ho h0 hro z
              refine cy_y hc ?_ (okR_rr hop.1) (c_X0_carryOut_e l G q a P v h1 hk hcan _ _ (by rw [hix, h]; exact c_X1_fillCell_o l G a v _ n o hi hn ho z hop.2.1))
              rw [hxd, xFill, if_neg (by rw [z]; exact nI_nm1 (by omega)), z, nI_clamp (by omega)]
              rfl
        · exact absurd z c2
        · subst z
          rw [if_pos rfl] at hxc hxd
          have hcan := c_X0_canCarryOut_m l G q a P v (zNum (v 0) (nI (P 10))) _ hk (by rw [h]; exact c_X1_hasFreeUser l G a v n hn)
          by_cases hu : v 1 n ≤ nI (zCells (v 3) (nI n))
          · rw [decide_eq_false (fun z => z hu)] at hcan
            exact cy_n (hxc.trans (decide_eq_false (fun z => z hu))) h1 hcan
          · rw [decide_eq_true hu] at hcan
            have hfr := (rr_free hR hn).mp hu
            exact cy_y (hxc.trans (decide_eq_true hu)) hxd (okR_rr (op_give hR hn hfr)) (c_X0_carryOut_m l G q a P v h1 hk hcan _ _ (by rw [h]; exact c_X1_giveBack l G a v n hn (us_pos hv hn (by omega))))
