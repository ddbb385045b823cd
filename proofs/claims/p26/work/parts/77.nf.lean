/-! facts for numbersFit -/
def csm (v : Mem) (n : Nat) : Nat := fb_sm (fun i => zCells (v 3) (nI i)) n
def icP (v : Mem) (n : Nat) : Nat → Bool := fun i => decide (v 3 i = nI n)
section NF
variable {v : Mem} {e B n : Nat}
theorem numA_0y (h0 : ¬ v 0 n = 0) : numA v n 0 = v 0 n := if_neg h0
theorem numA_0z (h0 : v 0 n = 0) : numA v n 0 = -1000004 := if_pos h0
theorem numA_4y (hv : okV v e B) (hB : B < 10000) (hn : n < 40) (h0 : ¬ v 0 n = 0) : numA v n 4 = nI (tgK v e n) := (if_neg h0).trans (tag_is hv hB hn)
theorem numA_4z (h0 : v 0 n = 0) : numA v n 4 = -1000004 := if_pos h0
theorem why_y (hv : okV v e B) (hB : B < 10000) (hn : n < 40) (h0 : ¬ v 0 n = 0) : whyA v e (nI (tgK v e n)) = nI 0 := by
  rw [whyA, sta_tag hv hB hn, if_neg h0, if_neg (nI_pos (by omega))]
theorem why_z (hv : okV v e B) (hB : B < 10000) (hn : n < 40) (h0 : v 0 n = 0) : whyA v e (nI (tgK v e n)) = nI 4 := by
  rw [whyA, sta_tag hv hB hn, if_pos h0, if_pos (by decide)]
  decide
theorem fol_y (hv : okV v e B) (hB : B < 10000) (hn : n < 40) (h0 : ¬ v 0 n = 0) : folA v e (nI (tgK v e n)) = nI (tgK v e n) := by
  rw [folA, sta_tag hv hB hn, if_neg h0, if_neg (nI_pos (by omega)), nI_clamp (by omega)]
  exact tag_is hv hB hn
theorem nam_y (hv : okV v e B) (hB : B < 10000) (hn : n < 40) (h0 : ¬ v 0 n = 0) : namA v e (nI (tgK v e n)) = v 0 n := by
  rw [namA, sta_tag hv hB hn, if_neg h0, if_neg (nI_pos (by omega)), nI_clamp (by omega)]
theorem nm_ne4 (hv : okV v e B) (hn : n < 40) (h0 : ¬ v 0 n = 0) : ¬ v 0 n = -1000004 := by
  obtain ⟨a, b, c, -⟩ := nm_is hv hn h0
  rw [a]
  intro z
  have h1 := congrArg Int32.toInt z
  rw [nI_toInt (by omega)] at h1
  have h2 : (-1000004 : Int32).toInt = -1000004 := by decide
  omega
theorem nI_ne4 {k : Nat} (hk : k < 2 ^ 31) : ¬ nI k = -1000004 := by
  intro z
  have h1 := congrArg Int32.toInt z
  rw [nI_toInt hk] at h1
  have h2 : (-1000004 : Int32).toInt = -1000004 := by decide
  omega
theorem cel_iff (hv : okV v e B) (hB : B < 10000) {k : Nat} (hn : n < 40) (hk : k < 18) : celA v k = nI (tgK v e n) ↔ v 3 k = nI n := by
  have ht := tgK_lt hv hB hn
  unfold celA
  rcases hv.2.2.2.2.1 k hk with z | ⟨o, ho, z⟩
  · rw [z, if_pos rfl]
    exact ⟨fun q => absurd q.symm (nI_ne4 (by omega)), fun q => absurd q.symm (nI_nm1 (by omega))⟩
  · have ht2 := tgK_lt hv hB ho
    rw [z, if_neg (nI_nm1 (by omega)), nI_clamp (by omega), show tgA v o = nI (tgK v e o) from tag_is hv hB ho]
    constructor
    · intro q
      have h1 := nI_inj (by omega) (by omega) q
      have h2 := tgK_100 (v := v) (e := e) ho
      have h3 := tgK_100 (v := v) (e := e) hn
      rw [h1, h3] at h2
      rw [h2]
    · intro q
      rw [nI_inj (by omega) (by omega) q]
theorem ic_z (hv : okV v e B) (hC : okC v) {k : Nat} (hn : n < 40) (h0 : v 0 n = 0) (hk : k < 18) : icP v n k = false := decide_eq_false (fun z => cells_named hv hC hk hn z h0)
theorem us_z (hv : okV v e B) (hn : n < 40) (h0 : v 0 n = 0) : v 1 n = nI 0 := by
  obtain ⟨a, -, b⟩ := hv.2.2.2.1 n hn
  rw [a, b.mp h0]
theorem us_y (hv : okV v e B) (hn : n < 40) (h0 : ¬ v 0 n = 0) : v 1 n = nI (usK v n) ∧ 0 < usK v n ∧ usK v n ≤ 999 := by
  obtain ⟨a, b, c⟩ := hv.2.2.2.1 n hn
  exact ⟨a, Nat.pos_of_ne_zero (fun z => h0 (c.mpr z)), b⟩
theorem zc_z (hv : okV v e B) (hC : okC v) (hn : n < 40) (h0 : v 0 n = 0) : zCells (v 3) (nI n) = 0 := fb_ct_zero.mpr (fun _ hk => ic_z hv hC hn h0 hk)
theorem tp_y (h0 : ¬ v 0 n = 0) : zTp v (n + 1) = n + 1 := if_neg h0
theorem tp_z (h0 : v 0 n = 0) : zTp v (n + 1) = zTp v n := if_pos h0
end NF

set_option maxHeartbeats 4000000 in
set_option maxRecDepth 100000 in
theorem c_L_numbersFit (l : Launch) (G : ZG) (o : Nat) (w : va_W) (v : Mem) (e B : Nat) (hQ : QS l G o w v e) (hX : okX v e B) (hB : B < 10000) : CI l G yL_numbersFit wsL_numbersFit (zRm 4 91) [.ref o] w (nI 1) w := by
  refine CI.ent (cc := cL_numbersFit) (maxL := 12) (ty := .boolean) (own := RL) (by decide) rfl rfl (Nat.le_of_ble_eq_true rfl) ?_
  intro p ee s m args below meth c A ls F hr hlk hKK hP hD hA hS hl
  obtain ⟨hx, hb, hml, hown, hts⟩ := id F
  have hl : lv_has ls 12 [(0, .ref o)] := hl
  obtain ⟨⟨fs, hw0⟩, q_cnt, q_num, q_cel, q_cmp, q_cm3, q_fnd, q_why, q_fol, q_nam, q_beg, q_wb, q_nat, q_bh⟩ := id hQ
  have hv := hX.1
  have hC := hX.2.1
  have he9 := hv.1.2
  obtain ⟨g0, l0, hg0, hl0, hgl, hgB⟩ := id hX.2.2.1
  refine lv_iconst (v := nI 0) hx hb dL_numbersFit_0 (by decide) ?_
  refine lv_istore_n (lv' := [(1, .int (nI 0)), (0, .ref o)]) hx hb dL_numbersFit_1 rfl hl (by decide) rfl (fun ls hl => ?_)
  refine lv_iconst (v := nI 0) hx hb dL_numbersFit_2 (by decide) ?_
  refine lv_istore_n (lv' := [(2, .int (nI 0)), (1, .int (nI 0)), (0, .ref o)]) hx hb dL_numbersFit_3 rfl hl (by decide) rfl (fun ls hl => ?_)
  refine lv_iconst (v := nI 0) hx hb dL_numbersFit_4 (by decide) ?_
  refine lv_istore_n (lv' := [(3, .int (nI 0)), (2, .int (nI 0)), (1, .int (nI 0)), (0, .ref o)]) hx hb dL_numbersFit_5 rfl hl (by decide) rfl (fun ls hl => ?_)
  refine lv_iconst (v := nI 0) hx hb dL_numbersFit_6 (by decide) ?_
  refine lv_istore (lv' := [(4, .int (nI 0)), (3, .int (nI 0)), (2, .int (nI 0)), (1, .int (nI 0)), (0, .ref o)]) hx hb dL_numbersFit_7 hl (by decide) rfl (fun ls hl => ?_)
  refine lv_iconst (v := nI 1) hx hb dL_numbersFit_9 (by decide) ?_
  refine lv_istore (lv' := [(5, .int (nI 1)), (4, .int (nI 0)), (3, .int (nI 0)), (2, .int (nI 0)), (1, .int (nI 0)), (0, .ref o)]) hx hb dL_numbersFit_10 hl (by decide) rfl (fun ls hl => ?_)
  refine lv_iconst (v := nI 0) hx hb dL_numbersFit_12 (by decide) ?_
  refine lv_istore (lv' := [(6, .int (nI 0)), (5, .int (nI 1)), (4, .int (nI 0)), (3, .int (nI 0)), (2, .int (nI 0)), (1, .int (nI 0)), (0, .ref o)]) hx hb dL_numbersFit_13 hl (by decide) rfl (fun ls hl => ?_)
  have key_15 : ∀ (nn : Nat) (n : Nat), (n ≤ 40) → 40 - n < nn → ∀ (H : Heap) (locs : List Loc) (ls : Array Slot), va_P G.1 vwCl w H → va_D A w → va_S A s.heap H locs → lv_has ls 12 [(0, .ref o), (1, .int (nI (fb_ct (pNm v) n))), (2, .int (zSm (v 1) n)), (3, .int (nI (csm v n))), (4, .int (nI (zTp v n))), (5, .int (nI 1)), (6, .int (nI n))] → W p l ee (zRm 4 91) s m args below meth c H locs 0 0 (MQ below (ZQi G A w (nI 1)) args s 0 0 A) (F0 m 15 ls []) := by
    intro nn
    induction nn with
    | zero => intro n _ h; exact absurd h (Nat.not_lt_zero _)
    | succ nn ih_15 =>
      intro n hn hm_15 H locs ls hP hD hS hl
      refine lv_iload hx hb dL_numbersFit_15 (lv_at hl 6 rfl) ?_
      refine lv_bipush (v := nI 40) hx hb dL_numbersFit_17 (by decide) ?_
      refine z_ge (tgt := 370) hx hb dL_numbersFit_19 (by decide) (by omega) (by omega) (fun c_a => ?_) (fun c_a => ?_)
      · skip
        have e9 : n = 40 := by omega
        subst e9
        refine lv_iload hx hb dL_numbersFit_370 (lv_at hl 5 rfl) ?_
        refine lv_if_eq (tgt := 455) hx hb dL_numbersFit_372 (by decide) (fun h => absurd h (by decide)) (fun _ => ?_)
        refine lv_iload_n hx hb dL_numbersFit_375 rfl (lv_at hl 1 rfl) ?_
        refine lv_aload_n hx hb dL_numbersFit_376 rfl (lv_at hl 0 rfl) ?_
        refine lv_iconst (v := nI 0) hx hb dL_numbersFit_377 (by decide) ?_
        refine z_qV (As := [.int (nI 0)]) (rest := [.int (nI (fb_ct (pNm v) 40))]) F (q_cnt 0 (by omega)) (cwV 1 hts gL_numbersFit_X3_count rfl rfl rfl (by decide +kernel) ⟨Nat.le_of_ble_eq_true rfl, Nat.le_of_ble_eq_true rfl⟩) hKK hw0 hP hD hS hA rfl hl.1 rfl (Nat.le_of_ble_eq_true rfl) ⟨Nat.zero_le _, Nat.zero_le _⟩ dL_numbersFit_378 (fun H locs hP hD hS => ?_)
        refine z_top (v := nI (fb_ct (pNm v) 40)) rfl ?_
        refine lv_icmp_ne (tgt := 455) hx hb dL_numbersFit_381 (by decide) (fun h => absurd h (fun z => z rfl)) (fun _ => ?_)
        refine lv_iload_n hx hb dL_numbersFit_384 rfl (lv_at hl 2 rfl) ?_
        refine lv_aload_n hx hb dL_numbersFit_385 rfl (lv_at hl 0 rfl) ?_
        refine lv_iconst (v := nI 1) hx hb dL_numbersFit_386 (by decide) ?_
        refine z_qV (As := [.int (nI 1)]) (rest := [.int (zSm (v 1) 40)]) F (q_cnt 1 (by omega)) (cwV 1 hts gL_numbersFit_X3_count rfl rfl rfl (by decide +kernel) ⟨Nat.le_of_ble_eq_true rfl, Nat.le_of_ble_eq_true rfl⟩) hKK hw0 hP hD hS hA rfl hl.1 rfl (Nat.le_of_ble_eq_true rfl) ⟨Nat.zero_le _, Nat.zero_le _⟩ dL_numbersFit_387 (fun H locs hP hD hS => ?_)
        refine z_top (v := zSm (v 1) 40) rfl ?_
        refine lv_icmp_ne (tgt := 455) hx hb dL_numbersFit_390 (by decide) (fun h => absurd h (fun z => z rfl)) (fun _ => ?_)
        refine lv_iload_n hx hb dL_numbersFit_393 rfl (lv_at hl 3 rfl) ?_
        refine lv_aload_n hx hb dL_numbersFit_394 rfl (lv_at hl 0 rfl) ?_
        refine lv_iconst (v := nI 2) hx hb dL_numbersFit_395 (by decide) ?_
        refine z_qV (As := [.int (nI 2)]) (rest := [.int (nI (csm v 40))]) F (q_cnt 2 (by omega)) (cwV 1 hts gL_numbersFit_X3_count rfl rfl rfl (by decide +kernel) ⟨Nat.le_of_ble_eq_true rfl, Nat.le_of_ble_eq_true rfl⟩) hKK hw0 hP hD hS hA rfl hl.1 rfl (Nat.le_of_ble_eq_true rfl) ⟨Nat.zero_le _, Nat.zero_le _⟩ dL_numbersFit_396 (fun H locs hP hD hS => ?_)
        refine z_top (v := nI (csm v 40)) ((cells_18 hv).symm) ?_
        refine lv_icmp_ne (tgt := 455) hx hb dL_numbersFit_399 (by decide) (fun h => absurd h (fun z => z rfl)) (fun _ => ?_)
        refine lv_iload hx hb dL_numbersFit_402 (lv_at hl 4 rfl) ?_
        refine lv_aload_n hx hb dL_numbersFit_404 rfl (lv_at hl 0 rfl) ?_
        refine lv_iconst (v := nI 4) hx hb dL_numbersFit_405 (by decide) ?_
        refine z_qV (As := [.int (nI 4)]) (rest := [.int (nI (zTp v 40))]) F (q_cnt 4 (by omega)) (cwV 1 hts gL_numbersFit_X3_count rfl rfl rfl (by decide +kernel) ⟨Nat.le_of_ble_eq_true rfl, Nat.le_of_ble_eq_true rfl⟩) hKK hw0 hP hD hS hA rfl hl.1 rfl (Nat.le_of_ble_eq_true rfl) ⟨Nat.zero_le _, Nat.zero_le _⟩ dL_numbersFit_406 (fun H locs hP hD hS => ?_)
        refine z_top (v := nI (zTp v 40)) rfl ?_
        refine lv_icmp_ne (tgt := 455) hx hb dL_numbersFit_409 (by decide) (fun h => absurd h (fun z => z rfl)) (fun _ => ?_)
        refine lv_iload hx hb dL_numbersFit_412 (lv_at hl 4 rfl) ?_
        refine lv_iload_n hx hb dL_numbersFit_414 rfl (lv_at hl 1 rfl) ?_
        refine z_sub (v := nI (zTp v 40) - nI (fb_ct (pNm v) 40)) hx hb dL_numbersFit_415 rfl ?_
        refine lv_aload_n hx hb dL_numbersFit_416 rfl (lv_at hl 0 rfl) ?_
        refine lv_iconst (v := nI 5) hx hb dL_numbersFit_417 (by decide) ?_
        refine z_qV (As := [.int (nI 5)]) (rest := [.int (nI (zTp v 40) - nI (fb_ct (pNm v) 40))]) F (q_cnt 5 (by omega)) (cwV 1 hts gL_numbersFit_X3_count rfl rfl rfl (by decide +kernel) ⟨Nat.le_of_ble_eq_true rfl, Nat.le_of_ble_eq_true rfl⟩) hKK hw0 hP hD hS hA rfl hl.1 rfl (Nat.le_of_ble_eq_true rfl) ⟨Nat.zero_le _, Nat.zero_le _⟩ dL_numbersFit_418 (fun H locs hP hD hS => ?_)
        refine z_top (v := nI (zTp v 40) - nI (fb_ct (pNm v) 40)) (by show nI (zTp v 40) - nI (fb_ct (pNm v) (zTp v 40)) = _; rw [tp_ct]) ?_
        refine lv_icmp_ne (tgt := 455) hx hb dL_numbersFit_421 (by decide) (fun h => absurd h (fun z => z rfl)) (fun _ => ?_)
        refine lv_aload_n hx hb dL_numbersFit_424 rfl (lv_at hl 0 rfl) ?_
        refine lv_bipush (v := nI 6) hx hb dL_numbersFit_425 (by decide) ?_
        refine z_qV (As := [.int (nI 6)]) (rest := []) F (q_cnt 6 (by omega)) (cwV 1 hts gL_numbersFit_X3_count rfl rfl rfl (by decide +kernel) ⟨Nat.le_of_ble_eq_true rfl, Nat.le_of_ble_eq_true rfl⟩) hKK hw0 hP hD hS hA rfl hl.1 rfl (Nat.le_of_ble_eq_true rfl) ⟨Nat.zero_le _, Nat.zero_le _⟩ dL_numbersFit_427 (fun H locs hP hD hS => ?_)
        refine z_top (v := nI g0) hg0 ?_
        refine lv_iload_n hx hb dL_numbersFit_430 rfl (lv_at hl 1 rfl) ?_
        refine lv_icmp_lt (tgt := 455) hx hb dL_numbersFit_431 (by decide) (fun h => absurd h (nI_nlt (show fb_ct (pNm v) 40 ≤ g0 by omega) (by omega))) (fun _ => ?_)
        refine lv_aload_n hx hb dL_numbersFit_434 rfl (lv_at hl 0 rfl) ?_
        refine lv_bipush (v := nI 6) hx hb dL_numbersFit_435 (by decide) ?_
        refine z_qV (As := [.int (nI 6)]) (rest := []) F (q_cnt 6 (by omega)) (cwV 1 hts gL_numbersFit_X3_count rfl rfl rfl (by decide +kernel) ⟨Nat.le_of_ble_eq_true rfl, Nat.le_of_ble_eq_true rfl⟩) hKK hw0 hP hD hS hA rfl hl.1 rfl (Nat.le_of_ble_eq_true rfl) ⟨Nat.zero_le _, Nat.zero_le _⟩ dL_numbersFit_437 (fun H locs hP hD hS => ?_)
        refine z_top (v := nI g0) hg0 ?_
        refine lv_aload_n hx hb dL_numbersFit_440 rfl (lv_at hl 0 rfl) ?_
        refine lv_bipush (v := nI 7) hx hb dL_numbersFit_441 (by decide) ?_
        refine z_qV (As := [.int (nI 7)]) (rest := [.int (nI g0)]) F (q_cnt 7 (by omega)) (cwV 1 hts gL_numbersFit_X3_count rfl rfl rfl (by decide +kernel) ⟨Nat.le_of_ble_eq_true rfl, Nat.le_of_ble_eq_true rfl⟩) hKK hw0 hP hD hS hA rfl hl.1 rfl (Nat.le_of_ble_eq_true rfl) ⟨Nat.zero_le _, Nat.zero_le _⟩ dL_numbersFit_443 (fun H locs hP hD hS => ?_)
        refine z_top (v := nI l0) hl0 ?_
        refine z_sub (v := nI (fb_ct (pNm v) 40)) hx hb dL_numbersFit_446 (by rw [pk_sub (by omega), show g0 - l0 = fb_ct (pNm v) 40 by omega]) ?_
        refine lv_iload_n hx hb dL_numbersFit_447 rfl (lv_at hl 1 rfl) ?_
        refine lv_icmp_ne (tgt := 455) hx hb dL_numbersFit_448 (by decide) (fun h => absurd h (fun z => z rfl)) (fun _ => ?_)
        refine lv_iconst (v := nI 1) hx hb dL_numbersFit_451 (by decide) ?_
        refine lv_goto (tgt := 456) hx hb dL_numbersFit_452 (by decide) ?_
        exact z_zret hx hb hr hlk hP hD hS dL_numbersFit_456 rfl rfl rfl
      · skip
        have hn9 : n < 40 := by omega
        refine lv_iload hx hb dL_numbersFit_22 (lv_at hl 5 rfl) ?_
        refine lv_if_eq (tgt := 370) hx hb dL_numbersFit_24 (by decide) (fun h => absurd h (by decide)) (fun _ => ?_)
        by_cases h0 : v 0 n = 0
        · have hu := us_z hv hn9 h0
          refine lv_aload_n hx hb dL_numbersFit_27 rfl (lv_at hl 0 rfl) ?_
          refine lv_iload hx hb dL_numbersFit_28 (lv_at hl 6 rfl) ?_
          refine lv_iconst (v := nI 0) hx hb dL_numbersFit_30 (by decide) ?_
          refine z_qV (As := [.int (nI n), .int (nI 0)]) (rest := []) F (q_num n 0 (by omega) (by omega)) (cwV 2 hts gL_numbersFit_X3_numberOf rfl rfl rfl (by decide +kernel) ⟨Nat.le_of_ble_eq_true rfl, Nat.le_of_ble_eq_true rfl⟩) hKK hw0 hP hD hS hA rfl hl.1 rfl (Nat.le_of_ble_eq_true rfl) ⟨Nat.zero_le _, Nat.zero_le _⟩ dL_numbersFit_31 (fun H locs hP hD hS => ?_)
          refine z_top (v := (-1000004)) (numA_0z h0) ?_
          refine lv_istore (lv' := [(7, .int (-1000004)), (0, .ref o), (1, .int (nI (fb_ct (pNm v) n))), (2, .int (zSm (v 1) n)), (3, .int (nI (csm v n))), (4, .int (nI (zTp v n))), (5, .int (nI 1)), (6, .int (nI n))]) hx hb dL_numbersFit_34 hl (by decide) rfl (fun ls hl => ?_)
          refine lv_aload_n hx hb dL_numbersFit_36 rfl (lv_at hl 1 rfl) ?_
          refine lv_iload hx hb dL_numbersFit_37 (lv_at hl 7 rfl) ?_
          refine lv_iconst (v := nI 1) hx hb dL_numbersFit_39 (by decide) ?_
          refine z_qV (As := [.int (nI n), .int (nI 1)]) (rest := []) F (q_num n 1 (by omega) (by omega)) (cwV 2 hts gL_numbersFit_X3_numberOf rfl rfl rfl (by decide +kernel) ⟨Nat.le_of_ble_eq_true rfl, Nat.le_of_ble_eq_true rfl⟩) hKK hw0 hP hD hS hA rfl hl.1 rfl (Nat.le_of_ble_eq_true rfl) ⟨Nat.zero_le _, Nat.zero_le _⟩ dL_numbersFit_40 (fun H locs hP hD hS => ?_)
          refine z_top (v := nI 0) hu ?_
          refine lv_istore (lv' := [(8, .int (nI 0)), (7, .int (-1000004)), (0, .ref o), (1, .int (nI (fb_ct (pNm v) n))), (2, .int (zSm (v 1) n)), (3, .int (nI (csm v n))), (4, .int (nI (zTp v n))), (5, .int (nI 1)), (6, .int (nI n))]) hx hb dL_numbersFit_43 hl (by decide) rfl (fun ls hl => ?_)
          refine lv_aload_n hx hb dL_numbersFit_45 rfl (lv_at hl 2 rfl) ?_
          refine lv_iload hx hb dL_numbersFit_46 (lv_at hl 8 rfl) ?_
          refine lv_iconst (v := nI 4) hx hb dL_numbersFit_48 (by decide) ?_
          refine z_qV (As := [.int (nI n), .int (nI 4)]) (rest := []) F (q_num n 4 (by omega) (by omega)) (cwV 2 hts gL_numbersFit_X3_numberOf rfl rfl rfl (by decide +kernel) ⟨Nat.le_of_ble_eq_true rfl, Nat.le_of_ble_eq_true rfl⟩) hKK hw0 hP hD hS hA rfl hl.1 rfl (Nat.le_of_ble_eq_true rfl) ⟨Nat.zero_le _, Nat.zero_le _⟩ dL_numbersFit_49 (fun H locs hP hD hS => ?_)
          refine z_top (v := (-1000004)) (numA_4z h0) ?_
          refine lv_istore (lv' := [(9, .int (-1000004)), (8, .int (nI 0)), (7, .int (-1000004)), (0, .ref o), (1, .int (nI (fb_ct (pNm v) n))), (2, .int (zSm (v 1) n)), (3, .int (nI (csm v n))), (4, .int (nI (zTp v n))), (5, .int (nI 1)), (6, .int (nI n))]) hx hb dL_numbersFit_52 hl (by decide) rfl (fun ls hl => ?_)
          refine lv_iconst (v := nI 0) hx hb dL_numbersFit_54 (by decide) ?_
          refine lv_istore (lv' := [(10, .int (nI 0)), (9, .int (-1000004)), (8, .int (nI 0)), (7, .int (-1000004)), (0, .ref o), (1, .int (nI (fb_ct (pNm v) n))), (2, .int (zSm (v 1) n)), (3, .int (nI (csm v n))), (4, .int (nI (zTp v n))), (5, .int (nI 1)), (6, .int (nI n))]) hx hb dL_numbersFit_55 hl (by decide) rfl (fun ls hl => ?_)
          refine lv_iconst (v := nI 0) hx hb dL_numbersFit_57 (by decide) ?_
          refine lv_istore (lv' := [(11, .int (nI 0)), (10, .int (nI 0)), (9, .int (-1000004)), (8, .int (nI 0)), (7, .int (-1000004)), (0, .ref o), (1, .int (nI (fb_ct (pNm v) n))), (2, .int (zSm (v 1) n)), (3, .int (nI (csm v n))), (4, .int (nI (zTp v n))), (5, .int (nI 1)), (6, .int (nI n))]) hx hb dL_numbersFit_58 hl (by decide) rfl (fun ls hl => ?_)
          have key_60 : ∀ (nn : Nat) (k : Nat), (k ≤ 18) → 18 - k < nn → ∀ (H : Heap) (locs : List Loc) (ls : Array Slot), va_P G.1 vwCl w H → va_D A w → va_S A s.heap H locs → lv_has ls 12 [(10, .int (nI (fb_ct (icP v n) k))), (11, .int (nI k)), (0, .ref o), (1, .int (nI (fb_ct (pNm v) n))), (2, .int (zSm (v 1) n)), (3, .int (nI (csm v n))), (4, .int (nI (zTp v n))), (6, .int (nI n)), (7, .int (-1000004)), (8, .int (nI 0)), (9, .int (-1000004))] → W p l ee (zRm 4 91) s m args below meth c H locs 0 0 (MQ below (ZQi G A w (nI 1)) args s 0 0 A) (F0 m 60 ls []) := by
            intro nn
            induction nn with
            | zero => intro k _ h; exact absurd h (Nat.not_lt_zero _)
            | succ nn ih_60 =>
              intro k hk hm_60 H locs ls hP hD hS hl
              refine lv_iload hx hb dL_numbersFit_60 (lv_at hl 1 rfl) ?_
              refine lv_bipush (v := nI 18) hx hb dL_numbersFit_62 (by decide) ?_
              refine z_ge (tgt := 107) hx hb dL_numbersFit_64 (by decide) (by omega) (by omega) (fun c_b => ?_) (fun c_b => ?_)
              · skip
                have e9 : k = 18 := by omega
                subst e9
                refine lv_iload hx hb dL_numbersFit_107 (lv_at hl 8 rfl) ?_
                refine z_ldc (v := (-1000004)) (v' := (-1000004)) hx hb hown (hts (.constant RL 37 (-1000004)) (by decide +kernel)) dL_numbersFit_109 rfl ?_
                refine lv_icmp_eq (tgt := 118) hx hb dL_numbersFit_111 (by decide) (fun _ => ?_) (fun h => absurd rfl h)
                refine lv_iconst (v := nI 0) hx hb dL_numbersFit_118 (by decide) ?_
                refine lv_istore (lv' := [(11, .int (nI 0)), (10, .int (nI (zCells (v 3) (nI n)))), (0, .ref o), (1, .int (nI (fb_ct (pNm v) n))), (2, .int (zSm (v 1) n)), (3, .int (nI (csm v n))), (4, .int (nI (zTp v n))), (6, .int (nI n)), (7, .int (-1000004)), (8, .int (nI 0)), (9, .int (-1000004))]) hx hb dL_numbersFit_119 hl (by decide) rfl (fun ls hl => ?_)
                refine lv_iload_n hx hb dL_numbersFit_121 rfl (lv_at hl 3 rfl) ?_
                refine lv_iload hx hb dL_numbersFit_122 (lv_at hl 0 rfl) ?_
                refine lv_if_eq (tgt := 131) hx hb dL_numbersFit_124 (by decide) (fun _ => ?_) (fun h => absurd (by decide) h)
                refine lv_iconst (v := nI 0) hx hb dL_numbersFit_131 (by decide) ?_
                refine z_add (v := nI (fb_ct (pNm v) (n + 1))) hx hb dL_numbersFit_132 (by rw [fb_ct_f (pNm_f h0)]; exact z_add0 _) ?_
                refine lv_istore_n (lv' := [(1, .int (nI (fb_ct (pNm v) (n + 1)))), (11, .int (nI 0)), (10, .int (nI (zCells (v 3) (nI n)))), (0, .ref o), (2, .int (zSm (v 1) n)), (3, .int (nI (csm v n))), (4, .int (nI (zTp v n))), (6, .int (nI n)), (7, .int (-1000004)), (8, .int (nI 0)), (9, .int (-1000004))]) hx hb dL_numbersFit_133 rfl hl (by decide) rfl (fun ls hl => ?_)
                refine lv_iload_n hx hb dL_numbersFit_134 rfl (lv_at hl 4 rfl) ?_
                refine lv_iload hx hb dL_numbersFit_135 (lv_at hl 9 rfl) ?_
                refine z_add (v := zSm (v 1) (n + 1)) hx hb dL_numbersFit_137 (by rw [zSm, hu]) ?_
                refine lv_istore_n (lv' := [(2, .int (zSm (v 1) (n + 1))), (1, .int (nI (fb_ct (pNm v) (n + 1)))), (11, .int (nI 0)), (10, .int (nI (zCells (v 3) (nI n)))), (0, .ref o), (3, .int (nI (csm v n))), (4, .int (nI (zTp v n))), (6, .int (nI n)), (7, .int (-1000004)), (8, .int (nI 0)), (9, .int (-1000004))]) hx hb dL_numbersFit_138 rfl hl (by decide) rfl (fun ls hl => ?_)
                refine lv_iload_n hx hb dL_numbersFit_139 rfl (lv_at hl 5 rfl) ?_
                refine lv_iload hx hb dL_numbersFit_140 (lv_at hl 3 rfl) ?_
                refine z_add (v := nI (csm v (n + 1))) hx hb dL_numbersFit_142 (nI_add _ _) ?_
                refine lv_istore_n (lv' := [(3, .int (nI (csm v (n + 1)))), (2, .int (zSm (v 1) (n + 1))), (1, .int (nI (fb_ct (pNm v) (n + 1)))), (11, .int (nI 0)), (10, .int (nI (zCells (v 3) (nI n)))), (0, .ref o), (4, .int (nI (zTp v n))), (6, .int (nI n)), (7, .int (-1000004)), (8, .int (nI 0)), (9, .int (-1000004))]) hx hb dL_numbersFit_143 rfl hl (by decide) rfl (fun ls hl => ?_)
                refine lv_iload hx hb dL_numbersFit_144 (lv_at hl 3 rfl) ?_
                refine lv_if_eq (tgt := 156) hx hb dL_numbersFit_146 (by decide) (fun _ => ?_) (fun h => absurd (by decide) h)
                refine lv_iload hx hb dL_numbersFit_156 (lv_at hl 6 rfl) ?_
                refine z_top (v := nI (zTp v (n + 1))) (by rw [tp_z h0]) ?_
                refine lv_istore (lv' := [(4, .int (nI (zTp v (n + 1)))), (3, .int (nI (csm v (n + 1)))), (2, .int (zSm (v 1) (n + 1))), (1, .int (nI (fb_ct (pNm v) (n + 1)))), (11, .int (nI 0)), (10, .int (nI (zCells (v 3) (nI n)))), (0, .ref o), (6, .int (nI n)), (7, .int (-1000004)), (8, .int (nI 0)), (9, .int (-1000004))]) hx hb dL_numbersFit_158 hl (by decide) rfl (fun ls hl => ?_)
                refine lv_aload_n hx hb dL_numbersFit_160 rfl (lv_at hl 6 rfl) ?_
                refine lv_iload hx hb dL_numbersFit_161 (lv_at hl 7 rfl) ?_
                refine lv_iconst (v := nI 2) hx hb dL_numbersFit_163 (by decide) ?_
                refine z_qV (As := [.int (nI n), .int (nI 2)]) (rest := []) F (q_num n 2 (by omega) (by omega)) (cwV 2 hts gL_numbersFit_X3_numberOf rfl rfl rfl (by decide +kernel) ⟨Nat.le_of_ble_eq_true rfl, Nat.le_of_ble_eq_true rfl⟩) hKK hw0 hP hD hS hA rfl hl.1 rfl (Nat.le_of_ble_eq_true rfl) ⟨Nat.zero_le _, Nat.zero_le _⟩ dL_numbersFit_164 (fun H locs hP hD hS => ?_)
                refine z_top (v := nI (zCells (v 3) (nI n))) rfl ?_
                refine lv_iload hx hb dL_numbersFit_167 (lv_at hl 5 rfl) ?_
                refine lv_icmp_ne (tgt := 221) hx hb dL_numbersFit_169 (by decide) (fun h => absurd h (fun z => z rfl)) (fun _ => ?_)
                refine lv_iload hx hb dL_numbersFit_172 (lv_at hl 5 rfl) ?_
                refine lv_iload hx hb dL_numbersFit_174 (lv_at hl 9 rfl) ?_
                refine lv_icmp_gt (tgt := 221) hx hb dL_numbersFit_176 (by decide) (fun h => absurd h (by rw [zc_z hv hC hn9 h0]; decide)) (fun _ => ?_)
                refine lv_iload hx hb dL_numbersFit_179 (lv_at hl 4 rfl) ?_
                refine lv_iload hx hb dL_numbersFit_181 (lv_at hl 9 rfl) ?_
                refine lv_if_le (tgt := 190) hx hb dL_numbersFit_183 (by decide) (fun _ => ?_) (fun h => absurd (by decide) h)
                refine lv_iconst (v := nI 0) hx hb dL_numbersFit_190 (by decide) ?_
                refine lv_icmp_ne (tgt := 221) hx hb dL_numbersFit_191 (by decide) (fun h => absurd h (fun z => z rfl)) (fun _ => ?_)
                refine lv_iload hx hb dL_numbersFit_194 (lv_at hl 9 rfl) ?_
                refine lv_sipush (v := nI 999) hx hb dL_numbersFit_196 (by decide) ?_
                refine lv_icmp_gt (tgt := 221) hx hb dL_numbersFit_199 (by decide) (fun h => absurd h (by decide)) (fun _ => ?_)
                refine lv_iload hx hb dL_numbersFit_202 (lv_at hl 4 rfl) ?_
                refine lv_iload hx hb dL_numbersFit_204 (lv_at hl 10 rfl) ?_
                refine lv_if_lt (tgt := 213) hx hb dL_numbersFit_206 (by decide) (fun _ => ?_) (fun h => absurd (by decide) h)
                refine lv_iconst (v := nI 0) hx hb dL_numbersFit_213 (by decide) ?_
                refine lv_icmp_ne (tgt := 221) hx hb dL_numbersFit_214 (by decide) (fun h => absurd h (fun z => z rfl)) (fun _ => ?_)
                refine lv_iconst (v := nI 1) hx hb dL_numbersFit_217 (by decide) ?_
                refine lv_goto (tgt := 222) hx hb dL_numbersFit_218 (by decide) ?_
                refine lv_istore (lv' := [(5, .int (nI 1)), (4, .int (nI (zTp v (n + 1)))), (3, .int (nI (csm v (n + 1)))), (2, .int (zSm (v 1) (n + 1))), (1, .int (nI (fb_ct (pNm v) (n + 1)))), (11, .int (nI 0)), (10, .int (nI (zCells (v 3) (nI n)))), (0, .ref o), (6, .int (nI n)), (7, .int (-1000004)), (8, .int (nI 0)), (9, .int (-1000004))]) hx hb dL_numbersFit_222 hl (by decide) rfl (fun ls hl => ?_)
                refine lv_iload hx hb dL_numbersFit_224 (lv_at hl 0 rfl) ?_
                refine lv_if_eq (tgt := 361) hx hb dL_numbersFit_226 (by decide) (fun h => absurd h (by decide)) (fun _ => ?_)
                refine lv_iload hx hb dL_numbersFit_229 (lv_at hl 5 rfl) ?_
                refine lv_if_eq (tgt := 315) hx hb dL_numbersFit_231 (by decide) (fun _ => ?_) (fun h => absurd (by decide) h)
                refine lv_aload_n hx hb dL_numbersFit_315 rfl (lv_at hl 7 rfl) ?_
                refine lv_iload hx hb dL_numbersFit_316 (lv_at hl 8 rfl) ?_
                refine lv_iconst (v := nI 0) hx hb dL_numbersFit_318 (by decide) ?_
                refine z_qV (As := [.int (nI n), .int (nI 0)]) (rest := []) F (q_wb n 0 hn9 (by omega)) (cwV 2 hts gL_numbersFit_X3_wouldBe rfl rfl rfl (by decide +kernel) ⟨Nat.le_of_ble_eq_true rfl, Nat.le_of_ble_eq_true rfl⟩) hKK hw0 hP hD hS hA rfl hl.1 rfl (Nat.le_of_ble_eq_true rfl) ⟨Nat.zero_le _, Nat.zero_le _⟩ dL_numbersFit_319 (fun H locs hP hD hS => ?_)
                refine z_top (v := (-1000004)) (if_pos h0) ?_
                refine z_ldc (v := (-1000004)) (v' := (-1000004)) hx hb hown (hts (.constant RL 37 (-1000004)) (by decide +kernel)) dL_numbersFit_322 rfl ?_
                refine lv_icmp_ne (tgt := 361) hx hb dL_numbersFit_324 (by decide) (fun h => absurd h (fun z => z rfl)) (fun _ => ?_)
                refine lv_aload_n hx hb dL_numbersFit_327 rfl (lv_at hl 7 rfl) ?_
                refine z_ldc (v := (1000000)) (v' := nI 1000000) hx hb hown (hts (.constant RL 38 (1000000)) (by decide +kernel)) dL_numbersFit_328 rfl ?_
                refine lv_aload_n hx hb dL_numbersFit_330 rfl (lv_at hl 7 rfl) ?_
                refine lv_iconst (v := nI 3) hx hb dL_numbersFit_331 (by decide) ?_
                refine z_qV (As := [.int (nI 3)]) (rest := [.int (nI 1000000), .ref o]) F (q_cnt 3 (by omega)) (cwV 1 hts gL_numbersFit_X3_count rfl rfl rfl (by decide +kernel) ⟨Nat.le_of_ble_eq_true rfl, Nat.le_of_ble_eq_true rfl⟩) hKK hw0 hP hD hS hA rfl hl.1 rfl (Nat.le_of_ble_eq_true rfl) ⟨Nat.zero_le _, Nat.zero_le _⟩ dL_numbersFit_332 (fun H locs hP hD hS => ?_)
                refine z_top (v := nI e) rfl ?_
                refine z_mul (v := nI (1000000 * e)) hx hb dL_numbersFit_335 (pk_mul _ _) ?_
                refine lv_bipush (v := nI 100) hx hb dL_numbersFit_336 (by decide) ?_
                refine lv_aload_n hx hb dL_numbersFit_338 rfl (lv_at hl 7 rfl) ?_
                refine lv_iload hx hb dL_numbersFit_339 (lv_at hl 8 rfl) ?_
                refine lv_iconst (v := nI 3) hx hb dL_numbersFit_341 (by decide) ?_
                refine z_qV (As := [.int (nI n), .int (nI 3)]) (rest := [.int (nI 100), .int (nI (1000000 * e)), .ref o]) F (q_num n 3 (by omega) (by omega)) (cwV 2 hts gL_numbersFit_X3_numberOf rfl rfl rfl (by decide +kernel) ⟨Nat.le_of_ble_eq_true rfl, Nat.le_of_ble_eq_true rfl⟩) hKK hw0 hP hD hS hA rfl hl.1 rfl (Nat.le_of_ble_eq_true rfl) ⟨Nat.zero_le _, Nat.zero_le _⟩ dL_numbersFit_342 (fun H locs hP hD hS => ?_)
                refine z_top (v := nI (yrK v n)) ((yr_is hv hB hn9).1) ?_
                refine z_mul (v := nI (100 * yrK v n)) hx hb dL_numbersFit_345 (pk_mul _ _) ?_
                refine z_add (v := nI (1000000 * e + 100 * yrK v n)) hx hb dL_numbersFit_346 (nI_add _ _) ?_
                refine lv_iload hx hb dL_numbersFit_347 (lv_at hl 8 rfl) ?_
                refine z_add (v := nI (tgK v e n)) hx hb dL_numbersFit_349 (nI_add _ _) ?_
                refine z_qV (As := [.int (nI (tgK v e n))]) (rest := []) F (q_why _) (cwV 1 hts gL_numbersFit_X3_why rfl rfl rfl (by decide +kernel) ⟨Nat.le_of_ble_eq_true rfl, Nat.le_of_ble_eq_true rfl⟩) hKK hw0 hP hD hS hA rfl hl.1 rfl (Nat.le_of_ble_eq_true rfl) ⟨Nat.zero_le _, Nat.zero_le _⟩ dL_numbersFit_350 (fun H locs hP hD hS => ?_)
                refine z_top (v := nI 4) (why_z hv hB hn9 h0) ?_
                refine lv_iconst (v := nI 4) hx hb dL_numbersFit_353 (by decide) ?_
                refine lv_icmp_ne (tgt := 361) hx hb dL_numbersFit_354 (by decide) (fun h => absurd h (fun z => z rfl)) (fun _ => ?_)
                refine lv_iconst (v := nI 1) hx hb dL_numbersFit_357 (by decide) ?_
                refine lv_goto (tgt := 362) hx hb dL_numbersFit_358 (by decide) ?_
                refine lv_istore (lv' := [(5, .int (nI 1)), (4, .int (nI (zTp v (n + 1)))), (3, .int (nI (csm v (n + 1)))), (2, .int (zSm (v 1) (n + 1))), (1, .int (nI (fb_ct (pNm v) (n + 1)))), (11, .int (nI 0)), (10, .int (nI (zCells (v 3) (nI n)))), (0, .ref o), (6, .int (nI n)), (7, .int (-1000004)), (8, .int (nI 0)), (9, .int (-1000004))]) hx hb dL_numbersFit_362 hl (by decide) rfl (fun ls hl => ?_)
                refine lv_iinc (v := nI (n + 1)) (lv' := [(6, .int (nI (n + 1))), (5, .int (nI 1)), (4, .int (nI (zTp v (n + 1)))), (3, .int (nI (csm v (n + 1)))), (2, .int (zSm (v 1) (n + 1))), (1, .int (nI (fb_ct (pNm v) (n + 1)))), (11, .int (nI 0)), (10, .int (nI (zCells (v 3) (nI n)))), (0, .ref o), (7, .int (-1000004)), (8, .int (nI 0)), (9, .int (-1000004))]) hx hb dL_numbersFit_364 hl (k := 8) rfl (nI_add _ _) (by decide) rfl (fun ls hl => ?_)
                refine lv_goto (tgt := 15) hx hb dL_numbersFit_367 (by decide) ?_
                exact ih_15 (n + 1) (by omega) (by omega) H locs ls hP hD hS (lv_sub hl [8, 5, 4, 3, 2, 1, 0] rfl)
              · skip
                refine lv_iload hx hb dL_numbersFit_67 (lv_at hl 0 rfl) ?_
                refine lv_iload hx hb dL_numbersFit_69 (lv_at hl 10 rfl) ?_
                refine lv_if_lt (tgt := 97) hx hb dL_numbersFit_71 (by decide) (fun _ => ?_) (fun h => absurd (by decide) h)
                refine lv_iconst (v := nI 0) hx hb dL_numbersFit_97 (by decide) ?_
                refine z_add (v := nI (fb_ct (icP v n) (k + 1))) hx hb dL_numbersFit_98 (by rw [fb_ct_f (ic_z hv hC hn9 h0 (by omega))]; exact z_add0 _) ?_
                refine lv_istore (lv' := [(10, .int (nI (fb_ct (icP v n) (k + 1)))), (11, .int (nI k)), (0, .ref o), (1, .int (nI (fb_ct (pNm v) n))), (2, .int (zSm (v 1) n)), (3, .int (nI (csm v n))), (4, .int (nI (zTp v n))), (6, .int (nI n)), (7, .int (-1000004)), (8, .int (nI 0)), (9, .int (-1000004))]) hx hb dL_numbersFit_99 hl (by decide) rfl (fun ls hl => ?_)
                refine lv_iinc (v := nI (k + 1)) (lv' := [(11, .int (nI (k + 1))), (10, .int (nI (fb_ct (icP v n) (k + 1)))), (0, .ref o), (1, .int (nI (fb_ct (pNm v) n))), (2, .int (zSm (v 1) n)), (3, .int (nI (csm v n))), (4, .int (nI (zTp v n))), (6, .int (nI n)), (7, .int (-1000004)), (8, .int (nI 0)), (9, .int (-1000004))]) hx hb dL_numbersFit_101 hl (k := 1) rfl (nI_add _ _) (by decide) rfl (fun ls hl => ?_)
                refine lv_goto (tgt := 60) hx hb dL_numbersFit_104 (by decide) ?_
                exact ih_60 (k + 1) (by omega) (by omega) H locs ls hP hD hS (lv_sub hl [1, 0, 2, 3, 4, 5, 6, 7, 8, 9, 10] rfl)
          exact key_60 19 0 (by omega) (by omega) _ _ _ hP hD hS (lv_sub hl [1, 0, 5, 6, 7, 8, 9, 11, 4, 3, 2] rfl)
        · obtain ⟨hu, hu0, hu9⟩ := us_y hv hn9 h0
          have ht9 := tgK_lt hv hB hn9
          refine lv_aload_n hx hb dL_numbersFit_27 rfl (lv_at hl 0 rfl) ?_
          refine lv_iload hx hb dL_numbersFit_28 (lv_at hl 6 rfl) ?_
          refine lv_iconst (v := nI 0) hx hb dL_numbersFit_30 (by decide) ?_
          refine z_qV (As := [.int (nI n), .int (nI 0)]) (rest := []) F (q_num n 0 (by omega) (by omega)) (cwV 2 hts gL_numbersFit_X3_numberOf rfl rfl rfl (by decide +kernel) ⟨Nat.le_of_ble_eq_true rfl, Nat.le_of_ble_eq_true rfl⟩) hKK hw0 hP hD hS hA rfl hl.1 rfl (Nat.le_of_ble_eq_true rfl) ⟨Nat.zero_le _, Nat.zero_le _⟩ dL_numbersFit_31 (fun H locs hP hD hS => ?_)
          refine z_top (v := v 0 n) (numA_0y h0) ?_
          refine lv_istore (lv' := [(7, .int (v 0 n)), (0, .ref o), (1, .int (nI (fb_ct (pNm v) n))), (2, .int (zSm (v 1) n)), (3, .int (nI (csm v n))), (4, .int (nI (zTp v n))), (5, .int (nI 1)), (6, .int (nI n))]) hx hb dL_numbersFit_34 hl (by decide) rfl (fun ls hl => ?_)
          refine lv_aload_n hx hb dL_numbersFit_36 rfl (lv_at hl 1 rfl) ?_
          refine lv_iload hx hb dL_numbersFit_37 (lv_at hl 7 rfl) ?_
          refine lv_iconst (v := nI 1) hx hb dL_numbersFit_39 (by decide) ?_
          refine z_qV (As := [.int (nI n), .int (nI 1)]) (rest := []) F (q_num n 1 (by omega) (by omega)) (cwV 2 hts gL_numbersFit_X3_numberOf rfl rfl rfl (by decide +kernel) ⟨Nat.le_of_ble_eq_true rfl, Nat.le_of_ble_eq_true rfl⟩) hKK hw0 hP hD hS hA rfl hl.1 rfl (Nat.le_of_ble_eq_true rfl) ⟨Nat.zero_le _, Nat.zero_le _⟩ dL_numbersFit_40 (fun H locs hP hD hS => ?_)
          refine z_top (v := nI (usK v n)) hu ?_
          refine lv_istore (lv' := [(8, .int (nI (usK v n))), (7, .int (v 0 n)), (0, .ref o), (1, .int (nI (fb_ct (pNm v) n))), (2, .int (zSm (v 1) n)), (3, .int (nI (csm v n))), (4, .int (nI (zTp v n))), (5, .int (nI 1)), (6, .int (nI n))]) hx hb dL_numbersFit_43 hl (by decide) rfl (fun ls hl => ?_)
          refine lv_aload_n hx hb dL_numbersFit_45 rfl (lv_at hl 2 rfl) ?_
          refine lv_iload hx hb dL_numbersFit_46 (lv_at hl 8 rfl) ?_
          refine lv_iconst (v := nI 4) hx hb dL_numbersFit_48 (by decide) ?_
          refine z_qV (As := [.int (nI n), .int (nI 4)]) (rest := []) F (q_num n 4 (by omega) (by omega)) (cwV 2 hts gL_numbersFit_X3_numberOf rfl rfl rfl (by decide +kernel) ⟨Nat.le_of_ble_eq_true rfl, Nat.le_of_ble_eq_true rfl⟩) hKK hw0 hP hD hS hA rfl hl.1 rfl (Nat.le_of_ble_eq_true rfl) ⟨Nat.zero_le _, Nat.zero_le _⟩ dL_numbersFit_49 (fun H locs hP hD hS => ?_)
          refine z_top (v := nI (tgK v e n)) (numA_4y hv hB hn9 h0) ?_
          refine lv_istore (lv' := [(9, .int (nI (tgK v e n))), (8, .int (nI (usK v n))), (7, .int (v 0 n)), (0, .ref o), (1, .int (nI (fb_ct (pNm v) n))), (2, .int (zSm (v 1) n)), (3, .int (nI (csm v n))), (4, .int (nI (zTp v n))), (5, .int (nI 1)), (6, .int (nI n))]) hx hb dL_numbersFit_52 hl (by decide) rfl (fun ls hl => ?_)
          refine lv_iconst (v := nI 0) hx hb dL_numbersFit_54 (by decide) ?_
          refine lv_istore (lv' := [(10, .int (nI 0)), (9, .int (nI (tgK v e n))), (8, .int (nI (usK v n))), (7, .int (v 0 n)), (0, .ref o), (1, .int (nI (fb_ct (pNm v) n))), (2, .int (zSm (v 1) n)), (3, .int (nI (csm v n))), (4, .int (nI (zTp v n))), (5, .int (nI 1)), (6, .int (nI n))]) hx hb dL_numbersFit_55 hl (by decide) rfl (fun ls hl => ?_)
          refine lv_iconst (v := nI 0) hx hb dL_numbersFit_57 (by decide) ?_
          refine lv_istore (lv' := [(11, .int (nI 0)), (10, .int (nI 0)), (9, .int (nI (tgK v e n))), (8, .int (nI (usK v n))), (7, .int (v 0 n)), (0, .ref o), (1, .int (nI (fb_ct (pNm v) n))), (2, .int (zSm (v 1) n)), (3, .int (nI (csm v n))), (4, .int (nI (zTp v n))), (5, .int (nI 1)), (6, .int (nI n))]) hx hb dL_numbersFit_58 hl (by decide) rfl (fun ls hl => ?_)
          have key_60 : ∀ (nn : Nat) (k : Nat), (k ≤ 18) → 18 - k < nn → ∀ (H : Heap) (locs : List Loc) (ls : Array Slot), va_P G.1 vwCl w H → va_D A w → va_S A s.heap H locs → lv_has ls 12 [(10, .int (nI (fb_ct (icP v n) k))), (11, .int (nI k)), (0, .ref o), (1, .int (nI (fb_ct (pNm v) n))), (2, .int (zSm (v 1) n)), (3, .int (nI (csm v n))), (4, .int (nI (zTp v n))), (6, .int (nI n)), (7, .int (v 0 n)), (8, .int (nI (usK v n))), (9, .int (nI (tgK v e n)))] → W p l ee (zRm 4 91) s m args below meth c H locs 0 0 (MQ below (ZQi G A w (nI 1)) args s 0 0 A) (F0 m 60 ls []) := by
            intro nn
            induction nn with
            | zero => intro k _ h; exact absurd h (Nat.not_lt_zero _)
            | succ nn ih_60 =>
              intro k hk hm_60 H locs ls hP hD hS hl
              refine lv_iload hx hb dL_numbersFit_60 (lv_at hl 1 rfl) ?_
              refine lv_bipush (v := nI 18) hx hb dL_numbersFit_62 (by decide) ?_
              refine z_ge (tgt := 107) hx hb dL_numbersFit_64 (by decide) (by omega) (by omega) (fun c_b => ?_) (fun c_b => ?_)
              · skip
                have e9 : k = 18 := by omega
                subst e9
                refine lv_iload hx hb dL_numbersFit_107 (lv_at hl 8 rfl) ?_
                refine z_ldc (v := (-1000004)) (v' := (-1000004)) hx hb hown (hts (.constant RL 37 (-1000004)) (by decide +kernel)) dL_numbersFit_109 rfl ?_
                refine lv_icmp_eq (tgt := 118) hx hb dL_numbersFit_111 (by decide) (fun h => absurd h (nm_ne4 hv hn9 h0)) (fun _ => ?_)
                refine lv_iconst (v := nI 1) hx hb dL_numbersFit_114 (by decide) ?_
                refine lv_goto (tgt := 119) hx hb dL_numbersFit_115 (by decide) ?_
                refine lv_istore (lv' := [(11, .int (nI 1)), (10, .int (nI (zCells (v 3) (nI n)))), (0, .ref o), (1, .int (nI (fb_ct (pNm v) n))), (2, .int (zSm (v 1) n)), (3, .int (nI (csm v n))), (4, .int (nI (zTp v n))), (6, .int (nI n)), (7, .int (v 0 n)), (8, .int (nI (usK v n))), (9, .int (nI (tgK v e n)))]) hx hb dL_numbersFit_119 hl (by decide) rfl (fun ls hl => ?_)
                refine lv_iload_n hx hb dL_numbersFit_121 rfl (lv_at hl 3 rfl) ?_
                refine lv_iload hx hb dL_numbersFit_122 (lv_at hl 0 rfl) ?_
                refine lv_if_eq (tgt := 131) hx hb dL_numbersFit_124 (by decide) (fun h => absurd h (by decide)) (fun _ => ?_)
                refine lv_iconst (v := nI 1) hx hb dL_numbersFit_127 (by decide) ?_
                refine lv_goto (tgt := 132) hx hb dL_numbersFit_128 (by decide) ?_
                refine z_add (v := nI (fb_ct (pNm v) (n + 1))) hx hb dL_numbersFit_132 (by rw [fb_ct_t (pNm_t h0)]; exact nI_add _ _) ?_
                refine lv_istore_n (lv' := [(1, .int (nI (fb_ct (pNm v) (n + 1)))), (11, .int (nI 1)), (10, .int (nI (zCells (v 3) (nI n)))), (0, .ref o), (2, .int (zSm (v 1) n)), (3, .int (nI (csm v n))), (4, .int (nI (zTp v n))), (6, .int (nI n)), (7, .int (v 0 n)), (8, .int (nI (usK v n))), (9, .int (nI (tgK v e n)))]) hx hb dL_numbersFit_133 rfl hl (by decide) rfl (fun ls hl => ?_)
                refine lv_iload_n hx hb dL_numbersFit_134 rfl (lv_at hl 4 rfl) ?_
                refine lv_iload hx hb dL_numbersFit_135 (lv_at hl 9 rfl) ?_
                refine z_add (v := zSm (v 1) (n + 1)) hx hb dL_numbersFit_137 (by rw [zSm, hu]) ?_
                refine lv_istore_n (lv' := [(2, .int (zSm (v 1) (n + 1))), (1, .int (nI (fb_ct (pNm v) (n + 1)))), (11, .int (nI 1)), (10, .int (nI (zCells (v 3) (nI n)))), (0, .ref o), (3, .int (nI (csm v n))), (4, .int (nI (zTp v n))), (6, .int (nI n)), (7, .int (v 0 n)), (8, .int (nI (usK v n))), (9, .int (nI (tgK v e n)))]) hx hb dL_numbersFit_138 rfl hl (by decide) rfl (fun ls hl => ?_)
                refine lv_iload_n hx hb dL_numbersFit_139 rfl (lv_at hl 5 rfl) ?_
                refine lv_iload hx hb dL_numbersFit_140 (lv_at hl 3 rfl) ?_
                refine z_add (v := nI (csm v (n + 1))) hx hb dL_numbersFit_142 (nI_add _ _) ?_
                refine lv_istore_n (lv' := [(3, .int (nI (csm v (n + 1)))), (2, .int (zSm (v 1) (n + 1))), (1, .int (nI (fb_ct (pNm v) (n + 1)))), (11, .int (nI 1)), (10, .int (nI (zCells (v 3) (nI n)))), (0, .ref o), (4, .int (nI (zTp v n))), (6, .int (nI n)), (7, .int (v 0 n)), (8, .int (nI (usK v n))), (9, .int (nI (tgK v e n)))]) hx hb dL_numbersFit_143 rfl hl (by decide) rfl (fun ls hl => ?_)
                refine lv_iload hx hb dL_numbersFit_144 (lv_at hl 3 rfl) ?_
                refine lv_if_eq (tgt := 156) hx hb dL_numbersFit_146 (by decide) (fun h => absurd h (by decide)) (fun _ => ?_)
                refine lv_iload hx hb dL_numbersFit_149 (lv_at hl 7 rfl) ?_
                refine lv_iconst (v := nI 1) hx hb dL_numbersFit_151 (by decide) ?_
                refine z_add (v := nI (n + 1)) hx hb dL_numbersFit_152 (nI_add _ _) ?_
                refine lv_goto (tgt := 158) hx hb dL_numbersFit_153 (by decide) ?_
                refine z_top (v := nI (zTp v (n + 1))) (by rw [tp_y h0]) ?_
                refine lv_istore (lv' := [(4, .int (nI (zTp v (n + 1)))), (3, .int (nI (csm v (n + 1)))), (2, .int (zSm (v 1) (n + 1))), (1, .int (nI (fb_ct (pNm v) (n + 1)))), (11, .int (nI 1)), (10, .int (nI (zCells (v 3) (nI n)))), (0, .ref o), (6, .int (nI n)), (7, .int (v 0 n)), (8, .int (nI (usK v n))), (9, .int (nI (tgK v e n)))]) hx hb dL_numbersFit_158 hl (by decide) rfl (fun ls hl => ?_)
                refine lv_aload_n hx hb dL_numbersFit_160 rfl (lv_at hl 6 rfl) ?_
                refine lv_iload hx hb dL_numbersFit_161 (lv_at hl 7 rfl) ?_
                refine lv_iconst (v := nI 2) hx hb dL_numbersFit_163 (by decide) ?_
                refine z_qV (As := [.int (nI n), .int (nI 2)]) (rest := []) F (q_num n 2 (by omega) (by omega)) (cwV 2 hts gL_numbersFit_X3_numberOf rfl rfl rfl (by decide +kernel) ⟨Nat.le_of_ble_eq_true rfl, Nat.le_of_ble_eq_true rfl⟩) hKK hw0 hP hD hS hA rfl hl.1 rfl (Nat.le_of_ble_eq_true rfl) ⟨Nat.zero_le _, Nat.zero_le _⟩ dL_numbersFit_164 (fun H locs hP hD hS => ?_)
                refine z_top (v := nI (zCells (v 3) (nI n))) rfl ?_
                refine lv_iload hx hb dL_numbersFit_167 (lv_at hl 5 rfl) ?_
                refine lv_icmp_ne (tgt := 221) hx hb dL_numbersFit_169 (by decide) (fun h => absurd h (fun z => z rfl)) (fun _ => ?_)
                refine lv_iload hx hb dL_numbersFit_172 (lv_at hl 5 rfl) ?_
                refine lv_iload hx hb dL_numbersFit_174 (lv_at hl 9 rfl) ?_
                refine lv_icmp_gt (tgt := 221) hx hb dL_numbersFit_176 (by decide) (fun h => absurd h (nI_nlt (hC n hn9) (by omega))) (fun _ => ?_)
                refine lv_iload hx hb dL_numbersFit_179 (lv_at hl 4 rfl) ?_
                refine lv_iload hx hb dL_numbersFit_181 (lv_at hl 9 rfl) ?_
                refine lv_if_le (tgt := 190) hx hb dL_numbersFit_183 (by decide) (fun h => absurd h (nI_nle hu0 (by omega))) (fun _ => ?_)
                refine lv_iconst (v := nI 1) hx hb dL_numbersFit_186 (by decide) ?_
                refine lv_goto (tgt := 191) hx hb dL_numbersFit_187 (by decide) ?_
                refine lv_icmp_ne (tgt := 221) hx hb dL_numbersFit_191 (by decide) (fun h => absurd h (fun z => z rfl)) (fun _ => ?_)
                refine lv_iload hx hb dL_numbersFit_194 (lv_at hl 9 rfl) ?_
                refine lv_sipush (v := nI 999) hx hb dL_numbersFit_196 (by decide) ?_
                refine lv_icmp_gt (tgt := 221) hx hb dL_numbersFit_199 (by decide) (fun h => absurd h (nI_nlt hu9 (by omega))) (fun _ => ?_)
                refine lv_iload hx hb dL_numbersFit_202 (lv_at hl 4 rfl) ?_
                refine lv_iload hx hb dL_numbersFit_204 (lv_at hl 10 rfl) ?_
                refine lv_if_lt (tgt := 213) hx hb dL_numbersFit_206 (by decide) (fun h => absurd h (nI_pos (by omega))) (fun _ => ?_)
                refine lv_iconst (v := nI 1) hx hb dL_numbersFit_209 (by decide) ?_
                refine lv_goto (tgt := 214) hx hb dL_numbersFit_210 (by decide) ?_
                refine lv_icmp_ne (tgt := 221) hx hb dL_numbersFit_214 (by decide) (fun h => absurd h (fun z => z rfl)) (fun _ => ?_)
                refine lv_iconst (v := nI 1) hx hb dL_numbersFit_217 (by decide) ?_
                refine lv_goto (tgt := 222) hx hb dL_numbersFit_218 (by decide) ?_
                refine lv_istore (lv' := [(5, .int (nI 1)), (4, .int (nI (zTp v (n + 1)))), (3, .int (nI (csm v (n + 1)))), (2, .int (zSm (v 1) (n + 1))), (1, .int (nI (fb_ct (pNm v) (n + 1)))), (11, .int (nI 1)), (10, .int (nI (zCells (v 3) (nI n)))), (0, .ref o), (6, .int (nI n)), (7, .int (v 0 n)), (8, .int (nI (usK v n))), (9, .int (nI (tgK v e n)))]) hx hb dL_numbersFit_222 hl (by decide) rfl (fun ls hl => ?_)
                refine lv_iload hx hb dL_numbersFit_224 (lv_at hl 0 rfl) ?_
                refine lv_if_eq (tgt := 361) hx hb dL_numbersFit_226 (by decide) (fun h => absurd h (by decide)) (fun _ => ?_)
                refine lv_iload hx hb dL_numbersFit_229 (lv_at hl 5 rfl) ?_
                refine lv_if_eq (tgt := 315) hx hb dL_numbersFit_231 (by decide) (fun h => absurd h (by decide)) (fun _ => ?_)
                refine lv_iload hx hb dL_numbersFit_234 (lv_at hl 11 rfl) ?_
                refine z_ldc (v := (1000000)) (v' := nI 1000000) hx hb hown (hts (.constant RL 38 (1000000)) (by decide +kernel)) dL_numbersFit_236 rfl ?_
                refine lv_aload_n hx hb dL_numbersFit_238 rfl (lv_at hl 7 rfl) ?_
                refine lv_iconst (v := nI 3) hx hb dL_numbersFit_239 (by decide) ?_
                refine z_qV (As := [.int (nI 3)]) (rest := [.int (nI 1000000), .int (nI (tgK v e n))]) F (q_cnt 3 (by omega)) (cwV 1 hts gL_numbersFit_X3_count rfl rfl rfl (by decide +kernel) ⟨Nat.le_of_ble_eq_true rfl, Nat.le_of_ble_eq_true rfl⟩) hKK hw0 hP hD hS hA rfl hl.1 rfl (Nat.le_of_ble_eq_true rfl) ⟨Nat.zero_le _, Nat.zero_le _⟩ dL_numbersFit_240 (fun H locs hP hD hS => ?_)
                refine z_top (v := nI e) rfl ?_
                refine z_mul (v := nI (1000000 * e)) hx hb dL_numbersFit_243 (pk_mul _ _) ?_
                refine lv_bipush (v := nI 100) hx hb dL_numbersFit_244 (by decide) ?_
                refine lv_aload_n hx hb dL_numbersFit_246 rfl (lv_at hl 7 rfl) ?_
                refine lv_iload hx hb dL_numbersFit_247 (lv_at hl 8 rfl) ?_
                refine lv_iconst (v := nI 3) hx hb dL_numbersFit_249 (by decide) ?_
                refine z_qV (As := [.int (nI n), .int (nI 3)]) (rest := [.int (nI 100), .int (nI (1000000 * e)), .int (nI (tgK v e n))]) F (q_num n 3 (by omega) (by omega)) (cwV 2 hts gL_numbersFit_X3_numberOf rfl rfl rfl (by decide +kernel) ⟨Nat.le_of_ble_eq_true rfl, Nat.le_of_ble_eq_true rfl⟩) hKK hw0 hP hD hS hA rfl hl.1 rfl (Nat.le_of_ble_eq_true rfl) ⟨Nat.zero_le _, Nat.zero_le _⟩ dL_numbersFit_250 (fun H locs hP hD hS => ?_)
                refine z_top (v := nI (yrK v n)) ((yr_is hv hB hn9).1) ?_
                refine z_mul (v := nI (100 * yrK v n)) hx hb dL_numbersFit_253 (pk_mul _ _) ?_
                refine z_add (v := nI (1000000 * e + 100 * yrK v n)) hx hb dL_numbersFit_254 (nI_add _ _) ?_
                refine lv_iload hx hb dL_numbersFit_255 (lv_at hl 8 rfl) ?_
                refine z_add (v := nI (tgK v e n)) hx hb dL_numbersFit_257 (nI_add _ _) ?_
                refine lv_icmp_ne (tgt := 361) hx hb dL_numbersFit_258 (by decide) (fun h => absurd h (fun z => z rfl)) (fun _ => ?_)
                refine lv_aload_n hx hb dL_numbersFit_261 rfl (lv_at hl 7 rfl) ?_
                refine lv_iload hx hb dL_numbersFit_262 (lv_at hl 9 rfl) ?_
                refine z_qV (As := [.int (v 0 n)]) (rest := []) F (q_fnd n hn9 h0) (cwV 1 hts gL_numbersFit_X3_find rfl rfl rfl (by decide +kernel) ⟨Nat.le_of_ble_eq_true rfl, Nat.le_of_ble_eq_true rfl⟩) hKK hw0 hP hD hS hA rfl hl.1 rfl (Nat.le_of_ble_eq_true rfl) ⟨Nat.zero_le _, Nat.zero_le _⟩ dL_numbersFit_264 (fun H locs hP hD hS => ?_)
                refine lv_iload hx hb dL_numbersFit_267 (lv_at hl 8 rfl) ?_
                refine lv_icmp_ne (tgt := 361) hx hb dL_numbersFit_269 (by decide) (fun h => absurd h (fun z => z rfl)) (fun _ => ?_)
                refine lv_aload_n hx hb dL_numbersFit_272 rfl (lv_at hl 7 rfl) ?_
                refine lv_iload hx hb dL_numbersFit_273 (lv_at hl 11 rfl) ?_
                refine z_qV (As := [.int (nI (tgK v e n))]) (rest := []) F (q_why _) (cwV 1 hts gL_numbersFit_X3_why rfl rfl rfl (by decide +kernel) ⟨Nat.le_of_ble_eq_true rfl, Nat.le_of_ble_eq_true rfl⟩) hKK hw0 hP hD hS hA rfl hl.1 rfl (Nat.le_of_ble_eq_true rfl) ⟨Nat.zero_le _, Nat.zero_le _⟩ dL_numbersFit_275 (fun H locs hP hD hS => ?_)
                refine z_top (v := nI 0) (why_y hv hB hn9 h0) ?_
                refine lv_if_ne (tgt := 361) hx hb dL_numbersFit_278 (by decide) (fun h => absurd h (fun z => z rfl)) (fun _ => ?_)
                refine lv_aload_n hx hb dL_numbersFit_281 rfl (lv_at hl 7 rfl) ?_
                refine lv_iload hx hb dL_numbersFit_282 (lv_at hl 11 rfl) ?_
                refine z_qV (As := [.int (nI (tgK v e n))]) (rest := []) F (q_fol _) (cwV 1 hts gL_numbersFit_X3_follow rfl rfl rfl (by decide +kernel) ⟨Nat.le_of_ble_eq_true rfl, Nat.le_of_ble_eq_true rfl⟩) hKK hw0 hP hD hS hA rfl hl.1 rfl (Nat.le_of_ble_eq_true rfl) ⟨Nat.zero_le _, Nat.zero_le _⟩ dL_numbersFit_284 (fun H locs hP hD hS => ?_)
                refine z_top (v := nI (tgK v e n)) (fol_y hv hB hn9 h0) ?_
                refine lv_iload hx hb dL_numbersFit_287 (lv_at hl 11 rfl) ?_
                refine lv_icmp_ne (tgt := 361) hx hb dL_numbersFit_289 (by decide) (fun h => absurd h (fun z => z rfl)) (fun _ => ?_)
                refine lv_aload_n hx hb dL_numbersFit_292 rfl (lv_at hl 7 rfl) ?_
                refine lv_iload hx hb dL_numbersFit_293 (lv_at hl 11 rfl) ?_
                refine z_qV (As := [.int (nI (tgK v e n))]) (rest := []) F (q_nam _) (cwV 1 hts gL_numbersFit_X3_nameOf rfl rfl rfl (by decide +kernel) ⟨Nat.le_of_ble_eq_true rfl, Nat.le_of_ble_eq_true rfl⟩) hKK hw0 hP hD hS hA rfl hl.1 rfl (Nat.le_of_ble_eq_true rfl) ⟨Nat.zero_le _, Nat.zero_le _⟩ dL_numbersFit_295 (fun H locs hP hD hS => ?_)
                refine z_top (v := v 0 n) (nam_y hv hB hn9 h0) ?_
                refine lv_iload hx hb dL_numbersFit_298 (lv_at hl 9 rfl) ?_
                refine lv_icmp_ne (tgt := 361) hx hb dL_numbersFit_300 (by decide) (fun h => absurd h (fun z => z rfl)) (fun _ => ?_)
                refine lv_aload_n hx hb dL_numbersFit_303 rfl (lv_at hl 7 rfl) ?_
                refine lv_iload hx hb dL_numbersFit_304 (lv_at hl 9 rfl) ?_
                refine z_qV (As := [.int (v 0 n)]) (rest := []) F (q_beg n hn9 h0) (cwV 1 hts gL_numbersFit_X3_beginning rfl rfl rfl (by decide +kernel) ⟨Nat.le_of_ble_eq_true rfl, Nat.le_of_ble_eq_true rfl⟩) hKK hw0 hP hD hS hA rfl hl.1 rfl (Nat.le_of_ble_eq_true rfl) ⟨Nat.zero_le _, Nat.zero_le _⟩ dL_numbersFit_306 (fun H locs hP hD hS => ?_)
                refine lv_if_le (tgt := 361) hx hb dL_numbersFit_309 (by decide) (fun h => absurd h (nI_nle (beg_pos hv hn9 h0) (by have := fb_ct_le (pBg (v 0) (nmK v n)) 40; omega))) (fun _ => ?_)
                refine lv_goto (tgt := 357) hx hb dL_numbersFit_312 (by decide) ?_
                refine lv_iconst (v := nI 1) hx hb dL_numbersFit_357 (by decide) ?_
                refine lv_goto (tgt := 362) hx hb dL_numbersFit_358 (by decide) ?_
                refine lv_istore (lv' := [(5, .int (nI 1)), (4, .int (nI (zTp v (n + 1)))), (3, .int (nI (csm v (n + 1)))), (2, .int (zSm (v 1) (n + 1))), (1, .int (nI (fb_ct (pNm v) (n + 1)))), (11, .int (nI 1)), (10, .int (nI (zCells (v 3) (nI n)))), (0, .ref o), (6, .int (nI n)), (7, .int (v 0 n)), (8, .int (nI (usK v n))), (9, .int (nI (tgK v e n)))]) hx hb dL_numbersFit_362 hl (by decide) rfl (fun ls hl => ?_)
                refine lv_iinc (v := nI (n + 1)) (lv' := [(6, .int (nI (n + 1))), (5, .int (nI 1)), (4, .int (nI (zTp v (n + 1)))), (3, .int (nI (csm v (n + 1)))), (2, .int (zSm (v 1) (n + 1))), (1, .int (nI (fb_ct (pNm v) (n + 1)))), (11, .int (nI 1)), (10, .int (nI (zCells (v 3) (nI n)))), (0, .ref o), (7, .int (v 0 n)), (8, .int (nI (usK v n))), (9, .int (nI (tgK v e n)))]) hx hb dL_numbersFit_364 hl (k := 8) rfl (nI_add _ _) (by decide) rfl (fun ls hl => ?_)
                refine lv_goto (tgt := 15) hx hb dL_numbersFit_367 (by decide) ?_
                exact ih_15 (n + 1) (by omega) (by omega) H locs ls hP hD hS (lv_sub hl [8, 5, 4, 3, 2, 1, 0] rfl)
              · skip
                refine lv_iload hx hb dL_numbersFit_67 (lv_at hl 0 rfl) ?_
                refine lv_iload hx hb dL_numbersFit_69 (lv_at hl 10 rfl) ?_
                refine lv_if_lt (tgt := 97) hx hb dL_numbersFit_71 (by decide) (fun h => absurd h (nI_pos (by omega))) (fun _ => ?_)
                refine lv_aload_n hx hb dL_numbersFit_74 rfl (lv_at hl 2 rfl) ?_
                refine lv_iload hx hb dL_numbersFit_75 (lv_at hl 1 rfl) ?_
                refine lv_bipush (v := nI 6) hx hb dL_numbersFit_77 (by decide) ?_
                refine z_div (v := nI (k / 6)) hx hb dL_numbersFit_79 (by decide) (pk_div (by omega) (by decide) (by decide)) ?_
                refine lv_iload hx hb dL_numbersFit_80 (lv_at hl 1 rfl) ?_
                refine lv_bipush (v := nI 6) hx hb dL_numbersFit_82 (by decide) ?_
                refine z_rem (v := nI (k % 6)) hx hb dL_numbersFit_84 (by decide) (pk_rem (by omega) (by decide) (by decide)) ?_
                refine z_qV (As := [.int (nI (k / 6)), .int (nI (k % 6))]) (rest := [.int (nI (fb_ct (icP v n) k))]) F (q_cel k (by omega)) (cwV 2 hts gL_numbersFit_X3_cellOf rfl rfl rfl (by decide +kernel) ⟨Nat.le_of_ble_eq_true rfl, Nat.le_of_ble_eq_true rfl⟩) hKK hw0 hP hD hS hA rfl hl.1 rfl (Nat.le_of_ble_eq_true rfl) ⟨Nat.zero_le _, Nat.zero_le _⟩ dL_numbersFit_85 (fun H locs hP hD hS => ?_)
                refine lv_iload hx hb dL_numbersFit_88 (lv_at hl 10 rfl) ?_
                refine lv_icmp_ne (tgt := 97) hx hb dL_numbersFit_90 (by decide) (fun c_q => ?_) (fun c_q => ?_)
                · skip
                  refine lv_iconst (v := nI 0) hx hb dL_numbersFit_97 (by decide) ?_
                  refine z_add (v := nI (fb_ct (icP v n) (k + 1))) hx hb dL_numbersFit_98 (by rw [fb_ct_f (show icP v n k = false from decide_eq_false (fun z => c_q ((cel_iff hv hB hn9 (by omega)).mpr z)))]; exact z_add0 _) ?_
                  refine lv_istore (lv' := [(10, .int (nI (fb_ct (icP v n) (k + 1)))), (11, .int (nI k)), (0, .ref o), (1, .int (nI (fb_ct (pNm v) n))), (2, .int (zSm (v 1) n)), (3, .int (nI (csm v n))), (4, .int (nI (zTp v n))), (6, .int (nI n)), (7, .int (v 0 n)), (8, .int (nI (usK v n))), (9, .int (nI (tgK v e n)))]) hx hb dL_numbersFit_99 hl (by decide) rfl (fun ls hl => ?_)
                  refine lv_iinc (v := nI (k + 1)) (lv' := [(11, .int (nI (k + 1))), (10, .int (nI (fb_ct (icP v n) (k + 1)))), (0, .ref o), (1, .int (nI (fb_ct (pNm v) n))), (2, .int (zSm (v 1) n)), (3, .int (nI (csm v n))), (4, .int (nI (zTp v n))), (6, .int (nI n)), (7, .int (v 0 n)), (8, .int (nI (usK v n))), (9, .int (nI (tgK v e n)))]) hx hb dL_numbersFit_101 hl (k := 1) rfl (nI_add _ _) (by decide) rfl (fun ls hl => ?_)
                  refine lv_goto (tgt := 60) hx hb dL_numbersFit_104 (by decide) ?_
                  exact ih_60 (k + 1) (by omega) (by omega) H locs ls hP hD hS (lv_sub hl [1, 0, 2, 3, 4, 5, 6, 7, 8, 9, 10] rfl)
                · skip
                  refine lv_iconst (v := nI 1) hx hb dL_numbersFit_93 (by decide) ?_
                  refine lv_goto (tgt := 98) hx hb dL_numbersFit_94 (by decide) ?_
                  refine z_add (v := nI (fb_ct (icP v n) (k + 1))) hx hb dL_numbersFit_98 (by rw [fb_ct_t (show icP v n k = true from decide_eq_true ((cel_iff hv hB hn9 (by omega)).mp c_q))]; exact nI_add _ _) ?_
                  refine lv_istore (lv' := [(10, .int (nI (fb_ct (icP v n) (k + 1)))), (11, .int (nI k)), (0, .ref o), (1, .int (nI (fb_ct (pNm v) n))), (2, .int (zSm (v 1) n)), (3, .int (nI (csm v n))), (4, .int (nI (zTp v n))), (6, .int (nI n)), (7, .int (v 0 n)), (8, .int (nI (usK v n))), (9, .int (nI (tgK v e n)))]) hx hb dL_numbersFit_99 hl (by decide) rfl (fun ls hl => ?_)
                  refine lv_iinc (v := nI (k + 1)) (lv' := [(11, .int (nI (k + 1))), (10, .int (nI (fb_ct (icP v n) (k + 1)))), (0, .ref o), (1, .int (nI (fb_ct (pNm v) n))), (2, .int (zSm (v 1) n)), (3, .int (nI (csm v n))), (4, .int (nI (zTp v n))), (6, .int (nI n)), (7, .int (v 0 n)), (8, .int (nI (usK v n))), (9, .int (nI (tgK v e n)))]) hx hb dL_numbersFit_101 hl (k := 1) rfl (nI_add _ _) (by decide) rfl (fun ls hl => ?_)
                  refine lv_goto (tgt := 60) hx hb dL_numbersFit_104 (by decide) ?_
                  exact ih_60 (k + 1) (by omega) (by omega) H locs ls hP hD hS (lv_sub hl [1, 0, 2, 3, 4, 5, 6, 7, 8, 9, 10] rfl)
          exact key_60 19 0 (by omega) (by omega) _ _ _ hP hD hS (lv_sub hl [1, 0, 5, 6, 7, 8, 9, 11, 4, 3, 2] rfl)
  exact key_15 41 0 (by omega) (by omega) _ _ _ hP hD hS (lv_sub hl [6, 5, 4, 3, 2, 1, 0] rfl)
