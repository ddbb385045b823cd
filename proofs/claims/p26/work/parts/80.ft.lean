theorem lg_self (x : Int64) : lg_cmp x x = nI 0 := by
  unfold lg_cmp
  have h : ¬ x > x := fun z => by
    have h1 : x.toInt < x.toInt := (Int64.lt_iff_toInt_lt).mp z
    omega
  rw [if_neg h, if_pos rfl]
  rfl
theorem lg_eq {x y : Int64} (h : x = y) : lg_cmp x y = nI 0 := by
  subst h
  exact lg_self x

set_option maxHeartbeats 4000000 in
set_option maxRecDepth 100000 in
theorem c_L_fits (l : Launch) (G : ZG) (o : Nat) (w : va_W) (v : Mem) (e B : Nat) (hQ : QS l G o w v e) (hX : okX v e B) (hB : B < 10000) (x : Int32) : CI l G yL_fits wsL_fits (zRm 5 122) [.ref o, .int x] w (nI 1) w := by
  refine CI.ent (cc := cL_fits) (maxL := 9) (ty := .boolean) (own := RL) (by decide) rfl rfl (Nat.le_of_ble_eq_true rfl) ?_
  intro p ee s m args below meth c A ls F hr hlk hKK hP hD hA hS hl
  obtain ⟨hx, hb, hml, hown, hts⟩ := id F
  have hl : lv_has ls 9 [(0, .ref o), (1, .int x)] := hl
  obtain ⟨⟨fs, hw0⟩, q_cnt, q_num, q_cel, q_cmp, q_cm3, q_fnd, q_why, q_fol, q_nam, q_beg, q_wb, q_nat, q_bh⟩ := id hQ
  have hv := hX.1
  have hC := hX.2.1
  have he9 := hv.1.2
  have hNM := fb_ct_le (pNm v) 40
  refine lv_aload_n hx hb dL_fits_0 rfl (lv_at hl 0 rfl) ?_
  refine z_qSL (As := [.ref o]) (rest := []) F (c_L_trace l G o w v e B hQ hX hB) (va_cwS 1 hts gL_fits_L_trace rfl rfl rfl (by decide +kernel) ⟨Nat.le_of_ble_eq_true rfl, Nat.le_of_ble_eq_true rfl⟩) hKK hP hD hS hA rfl hl.1 rfl (Nat.le_of_ble_eq_true rfl) ⟨Nat.zero_le _, Nat.zero_le _⟩ dL_fits_1 (fun H locs hP hD hS => ?_)
  refine lv_lstore_n (lv' := [(2, .long (trK v e)), (0, .ref o), (1, .int x)]) hx hb dL_fits_4 rfl hl (by decide) rfl (fun ls hl => ?_)
  refine lv_iload_n hx hb dL_fits_5 rfl (lv_at hl 2 rfl) ?_
  refine lv_iconst (v := nI 5) hx hb dL_fits_6 (by decide) ?_
  refine z_qSE (As := [.int x, .int (nI 5)]) (rest := []) F (c_L_near l G w x 5 (by omega) (by omega)) (va_cwS 2 hts gL_fits_L_near rfl rfl rfl (by decide +kernel) ⟨Nat.le_of_ble_eq_true rfl, Nat.le_of_ble_eq_true rfl⟩) hKK hP hD hS hA rfl hl.1 rfl (Nat.le_of_ble_eq_true rfl) ⟨Nat.zero_le _, Nat.zero_le _⟩ dL_fits_7 (fun r_1 u_1 H locs hq_1 hP hD hS => ?_)
  have hP : va_P G.1 vwCl w H := hP
  have hD : va_D A w := hD
  refine z_ldc (v := (1000000)) (v' := nI 1000000) hx hb hown (hts (.constant RL 38 (1000000)) (by decide +kernel)) dL_fits_10 rfl ?_
  refine z_mul (v := (r_1 * (nI 1000000))) hx hb dL_fits_12 rfl ?_
  refine lv_iload_n hx hb dL_fits_13 rfl (lv_at hl 2 rfl) ?_
  refine lv_bipush (v := nI 9) hx hb dL_fits_14 (by decide) ?_
  refine lv_ishr hx hb dL_fits_16 ?_
  refine lv_iconst (v := nI 4) hx hb dL_fits_17 (by decide) ?_
  refine z_qS (As := [.int (x >>> ((nI 9) &&& 31)), .int (nI 4)]) (rest := [.int (r_1 * (nI 1000000))]) F (c_L_low l G w (x >>> ((nI 9) &&& 31)) 4 (by omega) (by omega)) (va_cwS 2 hts gL_fits_L_low rfl rfl rfl (by decide +kernel) ⟨Nat.le_of_ble_eq_true rfl, Nat.le_of_ble_eq_true rfl⟩) hKK hP hD hS hA rfl hl.1 rfl (Nat.le_of_ble_eq_true rfl) ⟨Nat.zero_le _, Nat.zero_le _⟩ dL_fits_18 (fun H locs hP hD hS => ?_)
  refine lv_bipush (v := nI 100) hx hb dL_fits_21 (by decide) ?_
  refine z_mul (v := ((nI (lowN (x >>> ((nI 9) &&& 31)) 4)) * (nI 100))) hx hb dL_fits_23 rfl ?_
  refine z_add (v := ((r_1 * (nI 1000000)) + ((nI (lowN (x >>> ((nI 9) &&& 31)) 4)) * (nI 100)))) hx hb dL_fits_24 rfl ?_
  refine lv_iload_n hx hb dL_fits_25 rfl (lv_at hl 2 rfl) ?_
  refine lv_iconst (v := nI 4) hx hb dL_fits_26 (by decide) ?_
  refine lv_ishr hx hb dL_fits_27 ?_
  refine lv_bipush (v := nI 41) hx hb dL_fits_28 (by decide) ?_
  refine z_qS (As := [.int (x >>> ((nI 4) &&& 31)), .int (nI 41)]) (rest := [.int ((r_1 * (nI 1000000)) + ((nI (lowN (x >>> ((nI 9) &&& 31)) 4)) * (nI 100)))]) F (c_L_low l G w (x >>> ((nI 4) &&& 31)) 41 (by omega) (by omega)) (va_cwS 2 hts gL_fits_L_low rfl rfl rfl (by decide +kernel) ⟨Nat.le_of_ble_eq_true rfl, Nat.le_of_ble_eq_true rfl⟩) hKK hP hD hS hA rfl hl.1 rfl (Nat.le_of_ble_eq_true rfl) ⟨Nat.zero_le _, Nat.zero_le _⟩ dL_fits_30 (fun H locs hP hD hS => ?_)
  refine z_add (v := (((r_1 * (nI 1000000)) + ((nI (lowN (x >>> ((nI 9) &&& 31)) 4)) * (nI 100))) + (nI (lowN (x >>> ((nI 4) &&& 31)) 41)))) hx hb dL_fits_33 rfl ?_
  refine lv_istore (lv' := [(4, .int (((r_1 * (nI 1000000)) + ((nI (lowN (x >>> ((nI 9) &&& 31)) 4)) * (nI 100))) + (nI (lowN (x >>> ((nI 4) &&& 31)) 41)))), (2, .long (trK v e)), (0, .ref o), (1, .int x)]) hx hb dL_fits_34 hl (by decide) rfl (fun ls hl => ?_)
  refine lv_aload_n hx hb dL_fits_36 rfl (lv_at hl 2 rfl) ?_
  refine lv_bipush (v := nI 8) hx hb dL_fits_37 (by decide) ?_
  refine z_qV (As := [.int (nI 8)]) (rest := []) F (q_cnt 8 (by omega)) (cwV 1 hts gL_fits_X3_count rfl rfl rfl (by decide +kernel) ⟨Nat.le_of_ble_eq_true rfl, Nat.le_of_ble_eq_true rfl⟩) hKK hw0 hP hD hS hA rfl hl.1 rfl (Nat.le_of_ble_eq_true rfl) ⟨Nat.zero_le _, Nat.zero_le _⟩ dL_fits_39 (fun H locs hP hD hS => ?_)
  refine z_top (v := nI (min e 3)) rfl ?_
  refine lv_istore (lv' := [(5, .int (nI (min e 3))), (4, .int (((r_1 * (nI 1000000)) + ((nI (lowN (x >>> ((nI 9) &&& 31)) 4)) * (nI 100))) + (nI (lowN (x >>> ((nI 4) &&& 31)) 41)))), (2, .long (trK v e)), (0, .ref o), (1, .int x)]) hx hb dL_fits_42 hl (by decide) rfl (fun ls hl => ?_)
  refine lv_aload_n hx hb dL_fits_44 rfl (lv_at hl 3 rfl) ?_
  refine z_qS (As := [.ref o]) (rest := []) F (c_L_numbersFit l G o w v e B hQ hX hB) (va_cwS 1 hts gL_fits_L_numbersFit rfl rfl rfl (by decide +kernel) ⟨Nat.le_of_ble_eq_true rfl, Nat.le_of_ble_eq_true rfl⟩) hKK hP hD hS hA rfl hl.1 rfl (Nat.le_of_ble_eq_true rfl) ⟨Nat.zero_le _, Nat.zero_le _⟩ dL_fits_45 (fun H locs hP hD hS => ?_)
  refine lv_if_eq (tgt := 102) hx hb dL_fits_48 (by decide) (fun h => absurd h (by decide)) (fun _ => ?_)
  refine lv_aload_n hx hb dL_fits_51 rfl (lv_at hl 3 rfl) ?_
  refine z_qS (As := [.ref o]) (rest := []) F (c_L_ordersFit l G o w v e B hQ hX hB) (va_cwS 1 hts gL_fits_L_ordersFit rfl rfl rfl (by decide +kernel) ⟨Nat.le_of_ble_eq_true rfl, Nat.le_of_ble_eq_true rfl⟩) hKK hP hD hS hA rfl hl.1 rfl (Nat.le_of_ble_eq_true rfl) ⟨Nat.zero_le _, Nat.zero_le _⟩ dL_fits_52 (fun H locs hP hD hS => ?_)
  refine lv_if_eq (tgt := 102) hx hb dL_fits_55 (by decide) (fun h => absurd h (by decide)) (fun _ => ?_)
  refine lv_aload_n hx hb dL_fits_58 rfl (lv_at hl 3 rfl) ?_
  refine lv_iload hx hb dL_fits_59 (lv_at hl 1 rfl) ?_
  refine z_qS (As := [.ref o, .int (((r_1 * (nI 1000000)) + ((nI (lowN (x >>> ((nI 9) &&& 31)) 4)) * (nI 100))) + (nI (lowN (x >>> ((nI 4) &&& 31)) 41)))]) (rest := []) F (c_L_tagsFit l G o w v e B hQ hX hB (((r_1 * (nI 1000000)) + ((nI (lowN (x >>> ((nI 9) &&& 31)) 4)) * (nI 100))) + (nI (lowN (x >>> ((nI 4) &&& 31)) 41)))) (va_cwS 2 hts gL_fits_L_tagsFit rfl rfl rfl (by decide +kernel) ⟨Nat.le_of_ble_eq_true rfl, Nat.le_of_ble_eq_true rfl⟩) hKK hP hD hS hA rfl hl.1 rfl (Nat.le_of_ble_eq_true rfl) ⟨Nat.zero_le _, Nat.zero_le _⟩ dL_fits_61 (fun H locs hP hD hS => ?_)
  refine lv_if_eq (tgt := 102) hx hb dL_fits_64 (by decide) (fun h => absurd h (by decide)) (fun _ => ?_)
  refine lv_aload_n hx hb dL_fits_67 rfl (lv_at hl 3 rfl) ?_
  refine lv_iload_n hx hb dL_fits_68 rfl (lv_at hl 4 rfl) ?_
  refine z_qS (As := [.ref o, .int x]) (rest := []) F (c_L_tagsFit l G o w v e B hQ hX hB x) (va_cwS 2 hts gL_fits_L_tagsFit rfl rfl rfl (by decide +kernel) ⟨Nat.le_of_ble_eq_true rfl, Nat.le_of_ble_eq_true rfl⟩) hKK hP hD hS hA rfl hl.1 rfl (Nat.le_of_ble_eq_true rfl) ⟨Nat.zero_le _, Nat.zero_le _⟩ dL_fits_69 (fun H locs hP hD hS => ?_)
  refine lv_if_eq (tgt := 102) hx hb dL_fits_72 (by decide) (fun h => absurd h (by decide)) (fun _ => ?_)
  rcases Nat.lt_or_ge e 3 with he3 | he3
  · have hq9 : CI l G yX3_compaction wsX3_compaction (zRm 3 73) [.ref o, .int (nI (min e 3)), .int (nI 0)] w (-1000004) w := by
      have h9 := q_cmp e 0 he3 (by omega)
      rw [cmpA, if_pos (by omega)] at h9
      rw [show min e 3 = e by omega]
      exact h9
    refine lv_aload_n hx hb dL_fits_75 rfl (lv_at hl 3 rfl) ?_
    refine lv_iload hx hb dL_fits_76 (lv_at hl 0 rfl) ?_
    refine lv_iconst (v := nI 0) hx hb dL_fits_78 (by decide) ?_
    refine z_qV (As := [.int (nI (min e 3)), .int (nI 0)]) (rest := []) F (hq9) (cwV 2 hts gL_fits_X3_compaction rfl rfl rfl (by decide +kernel) ⟨Nat.le_of_ble_eq_true rfl, Nat.le_of_ble_eq_true rfl⟩) hKK hw0 hP hD hS hA rfl hl.1 rfl (Nat.le_of_ble_eq_true rfl) ⟨Nat.zero_le _, Nat.zero_le _⟩ dL_fits_79 (fun H locs hP hD hS => ?_)
    refine lv_iload hx hb dL_fits_82 (lv_at hl 0 rfl) ?_
    refine lv_iconst (v := nI 3) hx hb dL_fits_84 (by decide) ?_
    refine lv_icmp_ge (tgt := 93) hx hb dL_fits_85 (by decide) (fun h => absurd h (fun z => absurd ((nI_leI (by omega) (by omega)).mp z) (by omega))) (fun _ => ?_)
    refine z_ldc (v := (-1000004)) (v' := (-1000004)) hx hb hown (hts (.constant RL 37 (-1000004)) (by decide +kernel)) dL_fits_88 rfl ?_
    refine lv_goto (tgt := 95) hx hb dL_fits_90 (by decide) ?_
    refine lv_icmp_ne (tgt := 102) hx hb dL_fits_95 (by decide) (fun h => absurd h (fun z => z rfl)) (fun _ => ?_)
    refine lv_iconst (v := nI 1) hx hb dL_fits_98 (by decide) ?_
    refine lv_goto (tgt := 103) hx hb dL_fits_99 (by decide) ?_
    refine lv_istore (lv' := [(6, .int (nI 1)), (5, .int (nI (min e 3))), (4, .int (((r_1 * (nI 1000000)) + ((nI (lowN (x >>> ((nI 9) &&& 31)) 4)) * (nI 100))) + (nI (lowN (x >>> ((nI 4) &&& 31)) 41)))), (2, .long (trK v e)), (0, .ref o), (1, .int x)]) hx hb dL_fits_103 hl (by decide) rfl (fun ls hl => ?_)
    refine lv_iconst (v := nI 0) hx hb dL_fits_105 (by decide) ?_
    refine lv_istore (lv' := [(7, .int (nI 0)), (6, .int (nI 1)), (5, .int (nI (min e 3))), (4, .int (((r_1 * (nI 1000000)) + ((nI (lowN (x >>> ((nI 9) &&& 31)) 4)) * (nI 100))) + (nI (lowN (x >>> ((nI 4) &&& 31)) 41)))), (2, .long (trK v e)), (0, .ref o), (1, .int x)]) hx hb dL_fits_106 hl (by decide) rfl (fun ls hl => ?_)
    have key_108 : ∀ (nn : Nat) (k : Nat), (k ≤ min e 3) → min e 3 - k < nn → ∀ (H : Heap) (locs : List Loc) (ls : Array Slot), va_P G.1 vwCl w H → va_D A w → va_S A s.heap H locs → lv_has ls 9 [(0, .ref o), (1, .int x), (2, .long (trK v e)), (5, .int (nI (min e 3))), (6, .int (nI 1)), (7, .int (nI k))] → W p l ee (zRm 5 122) s m args below meth c H locs 0 0 (MQ below (ZQi G A w (nI 1)) args s 0 0 A) (F0 m 108 ls []) := by
      intro nn
      induction nn with
      | zero => intro k _ h; exact absurd h (Nat.not_lt_zero _)
      | succ nn ih_108 =>
        intro k hk hm_108 H locs ls hP hD hS hl
        refine lv_iload hx hb dL_fits_108 (lv_at hl 5 rfl) ?_
        refine lv_iload hx hb dL_fits_110 (lv_at hl 3 rfl) ?_
        refine z_ge (tgt := 188) hx hb dL_fits_112 (by decide) (by omega) (by omega) (fun c_a => ?_) (fun c_a => ?_)
        · skip
          refine lv_iload hx hb dL_fits_188 (lv_at hl 4 rfl) ?_
          refine lv_if_eq (tgt := 206) hx hb dL_fits_190 (by decide) (fun h => absurd h (by decide)) (fun _ => ?_)
          refine lv_aload_n hx hb dL_fits_193 rfl (lv_at hl 0 rfl) ?_
          refine z_qSL (As := [.ref o]) (rest := []) F (c_L_trace l G o w v e B hQ hX hB) (va_cwS 1 hts gL_fits_L_trace rfl rfl rfl (by decide +kernel) ⟨Nat.le_of_ble_eq_true rfl, Nat.le_of_ble_eq_true rfl⟩) hKK hP hD hS hA rfl hl.1 rfl (Nat.le_of_ble_eq_true rfl) ⟨Nat.zero_le _, Nat.zero_le _⟩ dL_fits_194 (fun H locs hP hD hS => ?_)
          refine lv_lload_n hx hb dL_fits_197 rfl (lv_at hl 2 rfl) ?_
          refine W.lcmp hx hb dL_fits_198 ?_
          refine z_top (v := nI 0) (lg_self _) ?_
          refine lv_if_ne (tgt := 206) hx hb dL_fits_199 (by decide) (fun h => absurd h (fun z => z rfl)) (fun _ => ?_)
          refine lv_iconst (v := nI 1) hx hb dL_fits_202 (by decide) ?_
          refine lv_goto (tgt := 207) hx hb dL_fits_203 (by decide) ?_
          exact z_zret hx hb hr hlk hP hD hS dL_fits_207 rfl rfl rfl
        · skip
          have hk9 : k < min e 3 := by omega
          obtain ⟨-, h5, m9, hm9, h6⟩ := hX.2.2.2 k (by omega) (by omega)
          have hkp : kpN v ((e - 1 - k) % 3) ≤ 40 := fb_ct_le _ 40
          have hst1 : fb_ct (pSt v e (e - 1 - k)) 40 ≤ kpN v ((e - 1 - k) % 3) := st_le_kp
          have hst2 := st_le_nm hX hB (show k < 3 by omega) (show k < e by omega)
          refine lv_iload hx hb dL_fits_115 (lv_at hl 4 rfl) ?_
          refine lv_if_eq (tgt := 188) hx hb dL_fits_117 (by decide) (fun h => absurd h (by decide)) (fun _ => ?_)
          refine lv_aload_n hx hb dL_fits_120 rfl (lv_at hl 0 rfl) ?_
          refine lv_iload hx hb dL_fits_121 (lv_at hl 5 rfl) ?_
          refine lv_iconst (v := nI 1) hx hb dL_fits_123 (by decide) ?_
          refine z_qV (As := [.int (nI k), .int (nI 1)]) (rest := []) F (q_cmp k 1 (by omega) (by omega)) (cwV 2 hts gL_fits_X3_compaction rfl rfl rfl (by decide +kernel) ⟨Nat.le_of_ble_eq_true rfl, Nat.le_of_ble_eq_true rfl⟩) hKK hw0 hP hD hS hA rfl hl.1 rfl (Nat.le_of_ble_eq_true rfl) ⟨Nat.zero_le _, Nat.zero_le _⟩ dL_fits_124 (fun H locs hP hD hS => ?_)
          refine z_top (v := nI (kpN v ((e - 1 - k) % 3))) (by rw [cmpA, if_neg (by omega)]; exact h5) ?_
          refine lv_istore (lv' := [(8, .int (nI (kpN v ((e - 1 - k) % 3)))), (0, .ref o), (1, .int x), (2, .long (trK v e)), (5, .int (nI (min e 3))), (6, .int (nI 1)), (7, .int (nI k))]) hx hb dL_fits_127 hl (by decide) rfl (fun ls hl => ?_)
          refine lv_aload_n hx hb dL_fits_129 rfl (lv_at hl 1 rfl) ?_
          refine lv_iload hx hb dL_fits_130 (lv_at hl 6 rfl) ?_
          refine lv_iconst (v := nI 2) hx hb dL_fits_132 (by decide) ?_
          refine z_qV (As := [.int (nI k), .int (nI 2)]) (rest := []) F (q_cmp k 2 (by omega) (by omega)) (cwV 2 hts gL_fits_X3_compaction rfl rfl rfl (by decide +kernel) ⟨Nat.le_of_ble_eq_true rfl, Nat.le_of_ble_eq_true rfl⟩) hKK hw0 hP hD hS hA rfl hl.1 rfl (Nat.le_of_ble_eq_true rfl) ⟨Nat.zero_le _, Nat.zero_le _⟩ dL_fits_133 (fun H locs hP hD hS => ?_)
          refine z_top (v := nI m9) (by rw [cmpA, if_neg (by omega)]; exact h6) ?_
          refine lv_iload hx hb dL_fits_136 (lv_at hl 0 rfl) ?_
          refine lv_icmp_gt (tgt := 179) hx hb dL_fits_138 (by decide) (fun h => absurd h (nI_nlt hm9 (by omega))) (fun _ => ?_)
          refine lv_aload_n hx hb dL_fits_141 rfl (lv_at hl 1 rfl) ?_
          refine lv_iload hx hb dL_fits_142 (lv_at hl 6 rfl) ?_
          refine lv_iconst (v := nI 3) hx hb dL_fits_144 (by decide) ?_
          refine z_qV (As := [.int (nI k), .int (nI 3)]) (rest := []) F (q_cmp k 3 (by omega) (by omega)) (cwV 2 hts gL_fits_X3_compaction rfl rfl rfl (by decide +kernel) ⟨Nat.le_of_ble_eq_true rfl, Nat.le_of_ble_eq_true rfl⟩) hKK hw0 hP hD hS hA rfl hl.1 rfl (Nat.le_of_ble_eq_true rfl) ⟨Nat.zero_le _, Nat.zero_le _⟩ dL_fits_145 (fun H locs hP hD hS => ?_)
          refine z_top (v := nI (fb_ct (pSt v e (e - 1 - k)) 40)) (by rw [cmpA, if_neg (by omega)]; rfl) ?_
          refine lv_iload hx hb dL_fits_148 (lv_at hl 0 rfl) ?_
          refine lv_icmp_gt (tgt := 179) hx hb dL_fits_150 (by decide) (fun h => absurd h (nI_nlt hst1 (by omega))) (fun _ => ?_)
          refine lv_aload_n hx hb dL_fits_153 rfl (lv_at hl 1 rfl) ?_
          refine lv_iload hx hb dL_fits_154 (lv_at hl 6 rfl) ?_
          refine lv_iconst (v := nI 3) hx hb dL_fits_156 (by decide) ?_
          refine z_qV (As := [.int (nI k), .int (nI 3)]) (rest := []) F (q_cmp k 3 (by omega) (by omega)) (cwV 2 hts gL_fits_X3_compaction rfl rfl rfl (by decide +kernel) ⟨Nat.le_of_ble_eq_true rfl, Nat.le_of_ble_eq_true rfl⟩) hKK hw0 hP hD hS hA rfl hl.1 rfl (Nat.le_of_ble_eq_true rfl) ⟨Nat.zero_le _, Nat.zero_le _⟩ dL_fits_157 (fun H locs hP hD hS => ?_)
          refine z_top (v := nI (fb_ct (pSt v e (e - 1 - k)) 40)) (by rw [cmpA, if_neg (by omega)]; rfl) ?_
          refine lv_aload_n hx hb dL_fits_160 rfl (lv_at hl 1 rfl) ?_
          refine lv_iconst (v := nI 0) hx hb dL_fits_161 (by decide) ?_
          refine z_qV (As := [.int (nI 0)]) (rest := [.int (nI (fb_ct (pSt v e (e - 1 - k)) 40))]) F (q_cnt 0 (by omega)) (cwV 1 hts gL_fits_X3_count rfl rfl rfl (by decide +kernel) ⟨Nat.le_of_ble_eq_true rfl, Nat.le_of_ble_eq_true rfl⟩) hKK hw0 hP hD hS hA rfl hl.1 rfl (Nat.le_of_ble_eq_true rfl) ⟨Nat.zero_le _, Nat.zero_le _⟩ dL_fits_162 (fun H locs hP hD hS => ?_)
          refine z_top (v := nI (fb_ct (pNm v) 40)) rfl ?_
          refine lv_icmp_gt (tgt := 179) hx hb dL_fits_165 (by decide) (fun h => absurd h (nI_nlt hst2 (by omega))) (fun _ => ?_)
          refine lv_iload hx hb dL_fits_168 (lv_at hl 0 rfl) ?_
          refine lv_bipush (v := nI 40) hx hb dL_fits_170 (by decide) ?_
          refine lv_icmp_gt (tgt := 179) hx hb dL_fits_172 (by decide) (fun h => absurd h (nI_nlt hkp (by omega))) (fun _ => ?_)
          refine lv_iconst (v := nI 1) hx hb dL_fits_175 (by decide) ?_
          refine lv_goto (tgt := 180) hx hb dL_fits_176 (by decide) ?_
          refine lv_istore (lv' := [(6, .int (nI 1)), (8, .int (nI (kpN v ((e - 1 - k) % 3)))), (0, .ref o), (1, .int x), (2, .long (trK v e)), (5, .int (nI (min e 3))), (7, .int (nI k))]) hx hb dL_fits_180 hl (by decide) rfl (fun ls hl => ?_)
          refine lv_iinc (v := nI (k + 1)) (lv' := [(7, .int (nI (k + 1))), (6, .int (nI 1)), (8, .int (nI (kpN v ((e - 1 - k) % 3)))), (0, .ref o), (1, .int x), (2, .long (trK v e)), (5, .int (nI (min e 3)))]) hx hb dL_fits_182 hl (k := 6) rfl (nI_add _ _) (by decide) rfl (fun ls hl => ?_)
          refine lv_goto (tgt := 108) hx hb dL_fits_185 (by decide) ?_
          exact ih_108 (k + 1) (by omega) (by omega) H locs ls hP hD hS (lv_sub hl [3, 4, 5, 6, 1, 0] rfl)
    exact key_108 4 0 (by omega) (by omega) _ _ _ hP hD hS (lv_sub hl [5, 6, 4, 2, 1, 0] rfl)
  · have hq9 : CI l G yX3_compaction wsX3_compaction (zRm 3 73) [.ref o, .int (nI (min e 3)), .int (nI 0)] w (-1000001) w := by
      rw [show min e 3 = 3 by omega]
      exact q_cm3
    refine lv_aload_n hx hb dL_fits_75 rfl (lv_at hl 3 rfl) ?_
    refine lv_iload hx hb dL_fits_76 (lv_at hl 0 rfl) ?_
    refine lv_iconst (v := nI 0) hx hb dL_fits_78 (by decide) ?_
    refine z_qV (As := [.int (nI (min e 3)), .int (nI 0)]) (rest := []) F (hq9) (cwV 2 hts gL_fits_X3_compaction rfl rfl rfl (by decide +kernel) ⟨Nat.le_of_ble_eq_true rfl, Nat.le_of_ble_eq_true rfl⟩) hKK hw0 hP hD hS hA rfl hl.1 rfl (Nat.le_of_ble_eq_true rfl) ⟨Nat.zero_le _, Nat.zero_le _⟩ dL_fits_79 (fun H locs hP hD hS => ?_)
    refine lv_iload hx hb dL_fits_82 (lv_at hl 0 rfl) ?_
    refine lv_iconst (v := nI 3) hx hb dL_fits_84 (by decide) ?_
    refine lv_icmp_ge (tgt := 93) hx hb dL_fits_85 (by decide) (fun _ => ?_) (fun h => absurd ((nI_leI (by omega) (by omega)).mpr (by omega)) h)
    refine z_ldc (v := (-1000001)) (v' := (-1000001)) hx hb hown (hts (.constant RL 15 (-1000001)) (by decide +kernel)) dL_fits_93 rfl ?_
    refine lv_icmp_ne (tgt := 102) hx hb dL_fits_95 (by decide) (fun h => absurd h (fun z => z rfl)) (fun _ => ?_)
    refine lv_iconst (v := nI 1) hx hb dL_fits_98 (by decide) ?_
    refine lv_goto (tgt := 103) hx hb dL_fits_99 (by decide) ?_
    refine lv_istore (lv' := [(6, .int (nI 1)), (5, .int (nI (min e 3))), (4, .int (((r_1 * (nI 1000000)) + ((nI (lowN (x >>> ((nI 9) &&& 31)) 4)) * (nI 100))) + (nI (lowN (x >>> ((nI 4) &&& 31)) 41)))), (2, .long (trK v e)), (0, .ref o), (1, .int x)]) hx hb dL_fits_103 hl (by decide) rfl (fun ls hl => ?_)
    refine lv_iconst (v := nI 0) hx hb dL_fits_105 (by decide) ?_
    refine lv_istore (lv' := [(7, .int (nI 0)), (6, .int (nI 1)), (5, .int (nI (min e 3))), (4, .int (((r_1 * (nI 1000000)) + ((nI (lowN (x >>> ((nI 9) &&& 31)) 4)) * (nI 100))) + (nI (lowN (x >>> ((nI 4) &&& 31)) 41)))), (2, .long (trK v e)), (0, .ref o), (1, .int x)]) hx hb dL_fits_106 hl (by decide) rfl (fun ls hl => ?_)
    have key_108 : ∀ (nn : Nat) (k : Nat), (k ≤ min e 3) → min e 3 - k < nn → ∀ (H : Heap) (locs : List Loc) (ls : Array Slot), va_P G.1 vwCl w H → va_D A w → va_S A s.heap H locs → lv_has ls 9 [(0, .ref o), (1, .int x), (2, .long (trK v e)), (5, .int (nI (min e 3))), (6, .int (nI 1)), (7, .int (nI k))] → W p l ee (zRm 5 122) s m args below meth c H locs 0 0 (MQ below (ZQi G A w (nI 1)) args s 0 0 A) (F0 m 108 ls []) := by
      intro nn
      induction nn with
      | zero => intro k _ h; exact absurd h (Nat.not_lt_zero _)
      | succ nn ih_108 =>
        intro k hk hm_108 H locs ls hP hD hS hl
        refine lv_iload hx hb dL_fits_108 (lv_at hl 5 rfl) ?_
        refine lv_iload hx hb dL_fits_110 (lv_at hl 3 rfl) ?_
        refine z_ge (tgt := 188) hx hb dL_fits_112 (by decide) (by omega) (by omega) (fun c_a => ?_) (fun c_a => ?_)
        · skip
          refine lv_iload hx hb dL_fits_188 (lv_at hl 4 rfl) ?_
          refine lv_if_eq (tgt := 206) hx hb dL_fits_190 (by decide) (fun h => absurd h (by decide)) (fun _ => ?_)
          refine lv_aload_n hx hb dL_fits_193 rfl (lv_at hl 0 rfl) ?_
          refine z_qSL (As := [.ref o]) (rest := []) F (c_L_trace l G o w v e B hQ hX hB) (va_cwS 1 hts gL_fits_L_trace rfl rfl rfl (by decide +kernel) ⟨Nat.le_of_ble_eq_true rfl, Nat.le_of_ble_eq_true rfl⟩) hKK hP hD hS hA rfl hl.1 rfl (Nat.le_of_ble_eq_true rfl) ⟨Nat.zero_le _, Nat.zero_le _⟩ dL_fits_194 (fun H locs hP hD hS => ?_)
          refine lv_lload_n hx hb dL_fits_197 rfl (lv_at hl 2 rfl) ?_
          refine W.lcmp hx hb dL_fits_198 ?_
          refine z_top (v := nI 0) (lg_self _) ?_
          refine lv_if_ne (tgt := 206) hx hb dL_fits_199 (by decide) (fun h => absurd h (fun z => z rfl)) (fun _ => ?_)
          refine lv_iconst (v := nI 1) hx hb dL_fits_202 (by decide) ?_
          refine lv_goto (tgt := 207) hx hb dL_fits_203 (by decide) ?_
          exact z_zret hx hb hr hlk hP hD hS dL_fits_207 rfl rfl rfl
        · skip
          have hk9 : k < min e 3 := by omega
          obtain ⟨-, h5, m9, hm9, h6⟩ := hX.2.2.2 k (by omega) (by omega)
          have hkp : kpN v ((e - 1 - k) % 3) ≤ 40 := fb_ct_le _ 40
          have hst1 : fb_ct (pSt v e (e - 1 - k)) 40 ≤ kpN v ((e - 1 - k) % 3) := st_le_kp
          have hst2 := st_le_nm hX hB (show k < 3 by omega) (show k < e by omega)
          refine lv_iload hx hb dL_fits_115 (lv_at hl 4 rfl) ?_
          refine lv_if_eq (tgt := 188) hx hb dL_fits_117 (by decide) (fun h => absurd h (by decide)) (fun _ => ?_)
          refine lv_aload_n hx hb dL_fits_120 rfl (lv_at hl 0 rfl) ?_
          refine lv_iload hx hb dL_fits_121 (lv_at hl 5 rfl) ?_
          refine lv_iconst (v := nI 1) hx hb dL_fits_123 (by decide) ?_
          refine z_qV (As := [.int (nI k), .int (nI 1)]) (rest := []) F (q_cmp k 1 (by omega) (by omega)) (cwV 2 hts gL_fits_X3_compaction rfl rfl rfl (by decide +kernel) ⟨Nat.le_of_ble_eq_true rfl, Nat.le_of_ble_eq_true rfl⟩) hKK hw0 hP hD hS hA rfl hl.1 rfl (Nat.le_of_ble_eq_true rfl) ⟨Nat.zero_le _, Nat.zero_le _⟩ dL_fits_124 (fun H locs hP hD hS => ?_)
          refine z_top (v := nI (kpN v ((e - 1 - k) % 3))) (by rw [cmpA, if_neg (by omega)]; exact h5) ?_
          refine lv_istore (lv' := [(8, .int (nI (kpN v ((e - 1 - k) % 3)))), (0, .ref o), (1, .int x), (2, .long (trK v e)), (5, .int (nI (min e 3))), (6, .int (nI 1)), (7, .int (nI k))]) hx hb dL_fits_127 hl (by decide) rfl (fun ls hl => ?_)
          refine lv_aload_n hx hb dL_fits_129 rfl (lv_at hl 1 rfl) ?_
          refine lv_iload hx hb dL_fits_130 (lv_at hl 6 rfl) ?_
          refine lv_iconst (v := nI 2) hx hb dL_fits_132 (by decide) ?_
          refine z_qV (As := [.int (nI k), .int (nI 2)]) (rest := []) F (q_cmp k 2 (by omega) (by omega)) (cwV 2 hts gL_fits_X3_compaction rfl rfl rfl (by decide +kernel) ⟨Nat.le_of_ble_eq_true rfl, Nat.le_of_ble_eq_true rfl⟩) hKK hw0 hP hD hS hA rfl hl.1 rfl (Nat.le_of_ble_eq_true rfl) ⟨Nat.zero_le _, Nat.zero_le _⟩ dL_fits_133 (fun H locs hP hD hS => ?_)
          refine z_top (v := nI m9) (by rw [cmpA, if_neg (by omega)]; exact h6) ?_
          refine lv_iload hx hb dL_fits_136 (lv_at hl 0 rfl) ?_
          refine lv_icmp_gt (tgt := 179) hx hb dL_fits_138 (by decide) (fun h => absurd h (nI_nlt hm9 (by omega))) (fun _ => ?_)
          refine lv_aload_n hx hb dL_fits_141 rfl (lv_at hl 1 rfl) ?_
          refine lv_iload hx hb dL_fits_142 (lv_at hl 6 rfl) ?_
          refine lv_iconst (v := nI 3) hx hb dL_fits_144 (by decide) ?_
          refine z_qV (As := [.int (nI k), .int (nI 3)]) (rest := []) F (q_cmp k 3 (by omega) (by omega)) (cwV 2 hts gL_fits_X3_compaction rfl rfl rfl (by decide +kernel) ⟨Nat.le_of_ble_eq_true rfl, Nat.le_of_ble_eq_true rfl⟩) hKK hw0 hP hD hS hA rfl hl.1 rfl (Nat.le_of_ble_eq_true rfl) ⟨Nat.zero_le _, Nat.zero_le _⟩ dL_fits_145 (fun H locs hP hD hS => ?_)
          refine z_top (v := nI (fb_ct (pSt v e (e - 1 - k)) 40)) (by rw [cmpA, if_neg (by omega)]; rfl) ?_
          refine lv_iload hx hb dL_fits_148 (lv_at hl 0 rfl) ?_
          refine lv_icmp_gt (tgt := 179) hx hb dL_fits_150 (by decide) (fun h => absurd h (nI_nlt hst1 (by omega))) (fun _ => ?_)
          refine lv_aload_n hx hb dL_fits_153 rfl (lv_at hl 1 rfl) ?_
          refine lv_iload hx hb dL_fits_154 (lv_at hl 6 rfl) ?_
          refine lv_iconst (v := nI 3) hx hb dL_fits_156 (by decide) ?_
          refine z_qV (As := [.int (nI k), .int (nI 3)]) (rest := []) F (q_cmp k 3 (by omega) (by omega)) (cwV 2 hts gL_fits_X3_compaction rfl rfl rfl (by decide +kernel) ⟨Nat.le_of_ble_eq_true rfl, Nat.le_of_ble_eq_true rfl⟩) hKK hw0 hP hD hS hA rfl hl.1 rfl (Nat.le_of_ble_eq_true rfl) ⟨Nat.zero_le _, Nat.zero_le _⟩ dL_fits_157 (fun H locs hP hD hS => ?_)
          refine z_top (v := nI (fb_ct (pSt v e (e - 1 - k)) 40)) (by rw [cmpA, if_neg (by omega)]; rfl) ?_
          refine lv_aload_n hx hb dL_fits_160 rfl (lv_at hl 1 rfl) ?_
          refine lv_iconst (v := nI 0) hx hb dL_fits_161 (by decide) ?_
          refine z_qV (As := [.int (nI 0)]) (rest := [.int (nI (fb_ct (pSt v e (e - 1 - k)) 40))]) F (q_cnt 0 (by omega)) (cwV 1 hts gL_fits_X3_count rfl rfl rfl (by decide +kernel) ⟨Nat.le_of_ble_eq_true rfl, Nat.le_of_ble_eq_true rfl⟩) hKK hw0 hP hD hS hA rfl hl.1 rfl (Nat.le_of_ble_eq_true rfl) ⟨Nat.zero_le _, Nat.zero_le _⟩ dL_fits_162 (fun H locs hP hD hS => ?_)
          refine z_top (v := nI (fb_ct (pNm v) 40)) rfl ?_
          refine lv_icmp_gt (tgt := 179) hx hb dL_fits_165 (by decide) (fun h => absurd h (nI_nlt hst2 (by omega))) (fun _ => ?_)
          refine lv_iload hx hb dL_fits_168 (lv_at hl 0 rfl) ?_
          refine lv_bipush (v := nI 40) hx hb dL_fits_170 (by decide) ?_
          refine lv_icmp_gt (tgt := 179) hx hb dL_fits_172 (by decide) (fun h => absurd h (nI_nlt hkp (by omega))) (fun _ => ?_)
          refine lv_iconst (v := nI 1) hx hb dL_fits_175 (by decide) ?_
          refine lv_goto (tgt := 180) hx hb dL_fits_176 (by decide) ?_
          refine lv_istore (lv' := [(6, .int (nI 1)), (8, .int (nI (kpN v ((e - 1 - k) % 3)))), (0, .ref o), (1, .int x), (2, .long (trK v e)), (5, .int (nI (min e 3))), (7, .int (nI k))]) hx hb dL_fits_180 hl (by decide) rfl (fun ls hl => ?_)
          refine lv_iinc (v := nI (k + 1)) (lv' := [(7, .int (nI (k + 1))), (6, .int (nI 1)), (8, .int (nI (kpN v ((e - 1 - k) % 3)))), (0, .ref o), (1, .int x), (2, .long (trK v e)), (5, .int (nI (min e 3)))]) hx hb dL_fits_182 hl (k := 6) rfl (nI_add _ _) (by decide) rfl (fun ls hl => ?_)
          refine lv_goto (tgt := 108) hx hb dL_fits_185 (by decide) ?_
          exact ih_108 (k + 1) (by omega) (by omega) H locs ls hP hD hS (lv_sub hl [3, 4, 5, 6, 1, 0] rfl)
    exact key_108 4 0 (by omega) (by omega) _ _ _ hP hD hS (lv_sub hl [5, 6, 4, 2, 1, 0] rfl)
