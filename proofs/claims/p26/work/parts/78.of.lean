theorem c_L_padded_x (l : Launch) (G : ZG) (w : va_W) (x : Int32) (k : Nat) (hx : x = nI k) (h0 : 1 ≤ k) (hk : k < 387420489) : CI l G yL_padded wsL_padded (zRm 0 0) [.int x] w (nI (padK 5 k)) w := by
  subst hx
  exact c_L_padded l G w k h0 hk
theorem us_0 {a b : Nat} (h : a = b) : nI a - nI b = 0 := by
  subst h
  rw [pk_sub (Nat.le_refl a), Nat.sub_self]
  rfl

set_option maxHeartbeats 4000000 in
set_option maxRecDepth 100000 in
theorem c_L_ordersFit (l : Launch) (G : ZG) (o : Nat) (w : va_W) (v : Mem) (e B : Nat) (hQ : QS l G o w v e) (hX : okX v e B) (hB : B < 10000) : CI l G yL_ordersFit wsL_ordersFit (zRm 4 92) [.ref o] w (nI 1) w := by
  refine CI.ent (cc := cL_ordersFit) (maxL := 10) (ty := .boolean) (own := RL) (by decide) rfl rfl (Nat.le_of_ble_eq_true rfl) ?_
  intro p ee s m args below meth c A ls F hr hlk hKK hP hD hA hS hl
  obtain ⟨hx, hb, hml, hown, hts⟩ := id F
  have hl : lv_has ls 10 [(0, .ref o)] := hl
  obtain ⟨⟨fs, hw0⟩, q_cnt, q_num, q_cel, q_cmp, q_cm3, q_fnd, q_why, q_fol, q_nam, q_beg, q_wb, q_nat, q_bh⟩ := id hQ
  have hv := hX.1
  have hC := hX.2.1
  have he9 := hv.1.2
  have hNM := fb_ct_le (pNm v) 40
  refine lv_aload_n hx hb dL_ordersFit_0 rfl (lv_at hl 0 rfl) ?_
  refine lv_iconst (v := nI 0) hx hb dL_ordersFit_1 (by decide) ?_
  refine z_qV (As := [.int (nI 0)]) (rest := []) F (q_cnt 0 (by omega)) (cwV 1 hts gL_ordersFit_X3_count rfl rfl rfl (by decide +kernel) ⟨Nat.le_of_ble_eq_true rfl, Nat.le_of_ble_eq_true rfl⟩) hKK hw0 hP hD hS hA rfl hl.1 rfl (Nat.le_of_ble_eq_true rfl) ⟨Nat.zero_le _, Nat.zero_le _⟩ dL_ordersFit_2 (fun H locs hP hD hS => ?_)
  refine z_top (v := nI (fb_ct (pNm v) 40)) rfl ?_
  refine lv_istore_n (lv' := [(1, .int (nI (fb_ct (pNm v) 40))), (0, .ref o)]) hx hb dL_ordersFit_5 rfl hl (by decide) rfl (fun ls hl => ?_)
  refine lv_iconst (v := nI 1) hx hb dL_ordersFit_6 (by decide) ?_
  refine lv_istore_n (lv' := [(2, .int (nI 1)), (1, .int (nI (fb_ct (pNm v) 40))), (0, .ref o)]) hx hb dL_ordersFit_7 rfl hl (by decide) rfl (fun ls hl => ?_)
  refine lv_iconst (v := nI 0) hx hb dL_ordersFit_8 (by decide) ?_
  refine lv_istore_n (lv' := [(3, .int (nI 0)), (2, .int (nI 1)), (1, .int (nI (fb_ct (pNm v) 40))), (0, .ref o)]) hx hb dL_ordersFit_9 rfl hl (by decide) rfl (fun ls hl => ?_)
  have key_10 : ∀ (nn : Nat) (ρ : Nat), (ρ ≤ 3) → 3 - ρ < nn → ∀ (H : Heap) (locs : List Loc) (ls : Array Slot), va_P G.1 vwCl w H → va_D A w → va_S A s.heap H locs → lv_has ls 10 [(0, .ref o), (1, .int (nI (fb_ct (pNm v) 40))), (2, .int (nI 1)), (3, .int (nI ρ))] → W p l ee (zRm 4 92) s m args below meth c H locs 0 0 (MQ below (ZQi G A w (nI 1)) args s 0 0 A) (F0 m 10 ls []) := by
    intro nn
    induction nn with
    | zero => intro ρ _ h; exact absurd h (Nat.not_lt_zero _)
    | succ nn ih_10 =>
      intro ρ hρ hm_10 H locs ls hP hD hS hl
      refine lv_iload_n hx hb dL_ordersFit_10 rfl (lv_at hl 3 rfl) ?_
      refine lv_iconst (v := nI 3) hx hb dL_ordersFit_11 (by decide) ?_
      refine z_ge (tgt := 225) hx hb dL_ordersFit_12 (by decide) (by omega) (by omega) (fun c_a => ?_) (fun c_a => ?_)
      · skip
        refine lv_iload_n hx hb dL_ordersFit_225 rfl (lv_at hl 2 rfl) ?_
        refine lv_if_eq (tgt := 254) hx hb dL_ordersFit_226 (by decide) (fun h => absurd h (by decide)) (fun _ => ?_)
        refine lv_iload_n hx hb dL_ordersFit_229 rfl (lv_at hl 1 rfl) ?_
        refine lv_if_eq (tgt := 250) hx hb dL_ordersFit_230 (by decide) (fun c_f => ?_) (fun c_f => ?_)
        · skip
          refine lv_iconst (v := nI 1) hx hb dL_ordersFit_250 (by decide) ?_
          refine lv_goto (tgt := 255) hx hb dL_ordersFit_251 (by decide) ?_
          exact z_zret hx hb hr hlk hP hD hS dL_ordersFit_255 rfl rfl rfl
        · skip
          have hN0 : 0 < fb_ct (pNm v) 40 := Nat.pos_of_ne_zero (fun z => c_f (by rw [z]; rfl))
          refine lv_aload_n hx hb dL_ordersFit_233 rfl (lv_at hl 0 rfl) ?_
          refine lv_aload_n hx hb dL_ordersFit_234 rfl (lv_at hl 0 rfl) ?_
          refine lv_iconst (v := nI 1) hx hb dL_ordersFit_235 (by decide) ?_
          refine lv_iload_n hx hb dL_ordersFit_236 rfl (lv_at hl 1 rfl) ?_
          refine lv_iconst (v := nI 1) hx hb dL_ordersFit_237 (by decide) ?_
          refine z_sub (v := nI (fb_ct (pNm v) 40 - 1)) hx hb dL_ordersFit_238 (pk_sub (by omega)) ?_
          refine z_qVE (As := [.int (nI 1), .int (nI (fb_ct (pNm v) 40 - 1))]) (rest := [.ref o]) F (q_nat 1 (fb_ct (pNm v) 40 - 1) (by omega) (by omega)) (cwV 2 hts gL_ordersFit_X3_nameAt rfl rfl rfl (by decide +kernel) ⟨Nat.le_of_ble_eq_true rfl, Nat.le_of_ble_eq_true rfl⟩) hKK hw0 hP hD hS hA rfl hl.1 rfl (Nat.le_of_ble_eq_true rfl) ⟨Nat.zero_le _, Nat.zero_le _⟩ dL_ordersFit_239 (fun r_1 u_1 H locs hq_1 hP hD hS => ?_)
          obtain ⟨i, hi, hi0, hik, ri⟩ := na_in hv (show fb_ct (pNm v) 40 - 1 < fb_ct (pNm v) 40 by omega) hq_1
          have hP : va_P G.1 vwCl w H := hP
          have hD : va_D A w := hD
          refine z_top (v := v 0 i) ri ?_
          refine z_qVE (As := [.int (v 0 i)]) (rest := []) F (q_bh i hi hi0) (cwV 1 hts gL_ordersFit_X3_behind rfl rfl rfl (by decide +kernel) ⟨Nat.le_of_ble_eq_true rfl, Nat.le_of_ble_eq_true rfl⟩) hKK hw0 hP hD hS hA rfl hl.1 rfl (Nat.le_of_ble_eq_true rfl) ⟨Nat.zero_le _, Nat.zero_le _⟩ dL_ordersFit_242 (fun r_2 u_2 H locs hq_2 hP hD hS => ?_)
          have r8 : r_2 = -1000004 := bh_last hv hi hi0 (by omega) hq_2
          have hP : va_P G.1 vwCl w H := hP
          have hD : va_D A w := hD
          refine z_top (v := (-1000004)) r8 ?_
          refine z_ldc (v := (-1000004)) (v' := (-1000004)) hx hb hown (hts (.constant RL 37 (-1000004)) (by decide +kernel)) dL_ordersFit_245 rfl ?_
          refine lv_icmp_ne (tgt := 254) hx hb dL_ordersFit_247 (by decide) (fun h => absurd h (fun z => z rfl)) (fun _ => ?_)
          refine lv_iconst (v := nI 1) hx hb dL_ordersFit_250 (by decide) ?_
          refine lv_goto (tgt := 255) hx hb dL_ordersFit_251 (by decide) ?_
          exact z_zret hx hb hr hlk hP hD hS dL_ordersFit_255 rfl rfl rfl
      · skip
        have hρ9 : ρ < 3 := by omega
        refine lv_iload_n hx hb dL_ordersFit_15 rfl (lv_at hl 2 rfl) ?_
        refine lv_if_eq (tgt := 225) hx hb dL_ordersFit_16 (by decide) (fun h => absurd h (by decide)) (fun _ => ?_)
        refine lv_aload_n hx hb dL_ordersFit_19 rfl (lv_at hl 0 rfl) ?_
        refine lv_iload_n hx hb dL_ordersFit_20 rfl (lv_at hl 3 rfl) ?_
        refine lv_iload_n hx hb dL_ordersFit_21 rfl (lv_at hl 1 rfl) ?_
        refine z_qVE (As := [.int (nI ρ), .int (nI (fb_ct (pNm v) 40))]) (rest := []) F (q_nat ρ (fb_ct (pNm v) 40) (by omega) (by omega)) (cwV 2 hts gL_ordersFit_X3_nameAt rfl rfl rfl (by decide +kernel) ⟨Nat.le_of_ble_eq_true rfl, Nat.le_of_ble_eq_true rfl⟩) hKK hw0 hP hD hS hA rfl hl.1 rfl (Nat.le_of_ble_eq_true rfl) ⟨Nat.zero_le _, Nat.zero_le _⟩ dL_ordersFit_22 (fun r_3 u_3 H locs hq_3 hP hD hS => ?_)
        have r9 : r_3 = -1000004 := na_end hq_3
        have hP : va_P G.1 vwCl w H := hP
        have hD : va_D A w := hD
        refine z_top (v := (-1000004)) r9 ?_
        refine z_ldc (v := (-1000004)) (v' := (-1000004)) hx hb hown (hts (.constant RL 37 (-1000004)) (by decide +kernel)) dL_ordersFit_25 rfl ?_
        refine lv_icmp_ne (tgt := 34) hx hb dL_ordersFit_27 (by decide) (fun h => absurd h (fun z => z rfl)) (fun _ => ?_)
        refine lv_iconst (v := nI 1) hx hb dL_ordersFit_30 (by decide) ?_
        refine lv_goto (tgt := 35) hx hb dL_ordersFit_31 (by decide) ?_
        refine lv_istore_n (lv' := [(2, .int (nI 1)), (0, .ref o), (1, .int (nI (fb_ct (pNm v) 40))), (3, .int (nI ρ))]) hx hb dL_ordersFit_35 rfl hl (by decide) rfl (fun ls hl => ?_)
        refine lv_iconst (v := nI 0) hx hb dL_ordersFit_36 (by decide) ?_
        refine lv_istore (lv' := [(4, .int (nI 0)), (2, .int (nI 1)), (0, .ref o), (1, .int (nI (fb_ct (pNm v) 40))), (3, .int (nI ρ))]) hx hb dL_ordersFit_37 hl (by decide) rfl (fun ls hl => ?_)
        have key_39 : ∀ (nn : Nat) (k : Nat), (k ≤ fb_ct (pNm v) 40) → fb_ct (pNm v) 40 - k < nn → ∀ (H : Heap) (locs : List Loc) (ls : Array Slot), va_P G.1 vwCl w H → va_D A w → va_S A s.heap H locs → lv_has ls 10 [(0, .ref o), (1, .int (nI (fb_ct (pNm v) 40))), (2, .int (nI 1)), (3, .int (nI ρ)), (4, .int (nI k))] → W p l ee (zRm 4 92) s m args below meth c H locs 0 0 (MQ below (ZQi G A w (nI 1)) args s 0 0 A) (F0 m 39 ls []) := by
          intro nn
          induction nn with
          | zero => intro k _ h; exact absurd h (Nat.not_lt_zero _)
          | succ nn ih_39 =>
            intro k hk hm_39 H locs ls hP hD hS hl
            refine lv_iload hx hb dL_ordersFit_39 (lv_at hl 4 rfl) ?_
            refine lv_iload_n hx hb dL_ordersFit_41 rfl (lv_at hl 1 rfl) ?_
            refine z_ge (tgt := 219) hx hb dL_ordersFit_42 (by decide) (by omega) (by omega) (fun c_b => ?_) (fun c_b => ?_)
            · skip
              refine lv_iinc (v := nI (ρ + 1)) (lv' := [(3, .int (nI (ρ + 1))), (0, .ref o), (1, .int (nI (fb_ct (pNm v) 40))), (2, .int (nI 1)), (4, .int (nI k))]) hx hb dL_ordersFit_219 hl (k := 3) rfl (nI_add _ _) (by decide) rfl (fun ls hl => ?_)
              refine lv_goto (tgt := 10) hx hb dL_ordersFit_222 (by decide) ?_
              exact ih_10 (ρ + 1) (by omega) (by omega) H locs ls hP hD hS (lv_sub hl [1, 2, 3, 0] rfl)
            · skip
              have hk9 : k < fb_ct (pNm v) 40 := by omega
              refine lv_iload_n hx hb dL_ordersFit_45 rfl (lv_at hl 2 rfl) ?_
              refine lv_if_eq (tgt := 219) hx hb dL_ordersFit_46 (by decide) (fun h => absurd h (by decide)) (fun _ => ?_)
              refine lv_aload_n hx hb dL_ordersFit_49 rfl (lv_at hl 0 rfl) ?_
              refine lv_iload_n hx hb dL_ordersFit_50 rfl (lv_at hl 3 rfl) ?_
              refine lv_iload hx hb dL_ordersFit_51 (lv_at hl 4 rfl) ?_
              refine z_qVE (As := [.int (nI ρ), .int (nI k)]) (rest := []) F (q_nat ρ k (by omega) (by omega)) (cwV 2 hts gL_ordersFit_X3_nameAt rfl rfl rfl (by decide +kernel) ⟨Nat.le_of_ble_eq_true rfl, Nat.le_of_ble_eq_true rfl⟩) hKK hw0 hP hD hS hA rfl hl.1 rfl (Nat.le_of_ble_eq_true rfl) ⟨Nat.zero_le _, Nat.zero_le _⟩ dL_ordersFit_53 (fun r_4 u_4 H locs hq_4 hP hD hS => ?_)
              obtain ⟨j, hj, hj0, hjk, rj⟩ := na_in hv hk9 hq_4
              have hP : va_P G.1 vwCl w H := hP
              have hD : va_D A w := hD
              refine z_top (v := v 0 j) rj ?_
              refine lv_istore (lv' := [(5, .int (v 0 j)), (0, .ref o), (1, .int (nI (fb_ct (pNm v) 40))), (2, .int (nI 1)), (3, .int (nI ρ)), (4, .int (nI k))]) hx hb dL_ordersFit_56 hl (by decide) rfl (fun ls hl => ?_)
              refine lv_aload_n hx hb dL_ordersFit_58 rfl (lv_at hl 1 rfl) ?_
              refine lv_iload hx hb dL_ordersFit_59 (lv_at hl 0 rfl) ?_
              refine z_qV (As := [.int (v 0 j)]) (rest := []) F (q_fnd j hj hj0) (cwV 1 hts gL_ordersFit_X3_find rfl rfl rfl (by decide +kernel) ⟨Nat.le_of_ble_eq_true rfl, Nat.le_of_ble_eq_true rfl⟩) hKK hw0 hP hD hS hA rfl hl.1 rfl (Nat.le_of_ble_eq_true rfl) ⟨Nat.zero_le _, Nat.zero_le _⟩ dL_ordersFit_61 (fun H locs hP hD hS => ?_)
              refine lv_istore (lv' := [(6, .int (nI j)), (5, .int (v 0 j)), (0, .ref o), (1, .int (nI (fb_ct (pNm v) 40))), (2, .int (nI 1)), (3, .int (nI ρ)), (4, .int (nI k))]) hx hb dL_ordersFit_64 hl (by decide) rfl (fun ls hl => ?_)
              refine lv_iload hx hb dL_ordersFit_66 (lv_at hl 0 rfl) ?_
              refine lv_if_lt (tgt := 87) hx hb dL_ordersFit_68 (by decide) (fun h => absurd h (nI_pos (by omega))) (fun _ => ?_)
              refine lv_aload_n hx hb dL_ordersFit_71 rfl (lv_at hl 2 rfl) ?_
              refine lv_iload hx hb dL_ordersFit_72 (lv_at hl 0 rfl) ?_
              refine lv_iload_n hx hb dL_ordersFit_74 rfl (lv_at hl 5 rfl) ?_
              refine z_qV (As := [.int (nI j), .int (nI ρ)]) (rest := []) F (q_wb j ρ hj (by omega)) (cwV 2 hts gL_ordersFit_X3_wouldBe rfl rfl rfl (by decide +kernel) ⟨Nat.le_of_ble_eq_true rfl, Nat.le_of_ble_eq_true rfl⟩) hKK hw0 hP hD hS hA rfl hl.1 rfl (Nat.le_of_ble_eq_true rfl) ⟨Nat.zero_le _, Nat.zero_le _⟩ dL_ordersFit_75 (fun H locs hP hD hS => ?_)
              refine z_top (v := nI k) ((if_neg hj0).trans (by rw [hjk])) ?_
              refine lv_iload hx hb dL_ordersFit_78 (lv_at hl 6 rfl) ?_
              refine lv_icmp_ne (tgt := 87) hx hb dL_ordersFit_80 (by decide) (fun h => absurd h (fun z => z rfl)) (fun _ => ?_)
              refine lv_iconst (v := nI 1) hx hb dL_ordersFit_83 (by decide) ?_
              refine lv_goto (tgt := 88) hx hb dL_ordersFit_84 (by decide) ?_
              refine lv_istore_n (lv' := [(2, .int (nI 1)), (6, .int (nI j)), (5, .int (v 0 j)), (0, .ref o), (1, .int (nI (fb_ct (pNm v) 40))), (3, .int (nI ρ)), (4, .int (nI k))]) hx hb dL_ordersFit_88 rfl hl (by decide) rfl (fun ls hl => ?_)
              refine lv_iload_n hx hb dL_ordersFit_89 rfl (lv_at hl 0 rfl) ?_
              refine lv_if_eq (tgt := 213) hx hb dL_ordersFit_90 (by decide) (fun h => absurd h (by decide)) (fun _ => ?_)
              refine lv_iload hx hb dL_ordersFit_93 (lv_at hl 6 rfl) ?_
              refine z_ifNle (tgt := 213) hx hb dL_ordersFit_95 (by decide) (by omega) (fun c_d => ?_) (fun c_d => ?_)
              · skip
                refine lv_iinc (v := nI (k + 1)) (lv' := [(4, .int (nI (k + 1))), (2, .int (nI 1)), (6, .int (nI j)), (5, .int (v 0 j)), (0, .ref o), (1, .int (nI (fb_ct (pNm v) 40))), (3, .int (nI ρ))]) hx hb dL_ordersFit_213 hl (k := 6) rfl (nI_add _ _) (by decide) rfl (fun ls hl => ?_)
                refine lv_goto (tgt := 39) hx hb dL_ordersFit_216 (by decide) ?_
                exact ih_39 (k + 1) (by omega) (by omega) H locs ls hP hD hS (lv_sub hl [4, 5, 1, 6, 0] rfl)
              · skip
                refine lv_aload_n hx hb dL_ordersFit_98 rfl (lv_at hl 3 rfl) ?_
                refine lv_iload_n hx hb dL_ordersFit_99 rfl (lv_at hl 5 rfl) ?_
                refine lv_iload hx hb dL_ordersFit_100 (lv_at hl 6 rfl) ?_
                refine lv_iconst (v := nI 1) hx hb dL_ordersFit_102 (by decide) ?_
                refine z_sub (v := nI (k - 1)) hx hb dL_ordersFit_103 (pk_sub (by omega)) ?_
                refine z_qVE (As := [.int (nI ρ), .int (nI (k - 1))]) (rest := []) F (q_nat ρ (k - 1) (by omega) (by omega)) (cwV 2 hts gL_ordersFit_X3_nameAt rfl rfl rfl (by decide +kernel) ⟨Nat.le_of_ble_eq_true rfl, Nat.le_of_ble_eq_true rfl⟩) hKK hw0 hP hD hS hA rfl hl.1 rfl (Nat.le_of_ble_eq_true rfl) ⟨Nat.zero_le _, Nat.zero_le _⟩ dL_ordersFit_104 (fun r_5 u_5 H locs hq_5 hP hD hS => ?_)
                obtain ⟨i, hi, hi0, hik, ri⟩ := na_in hv (show k - 1 < fb_ct (pNm v) 40 by omega) hq_5
                have hij : zAh (v 0) (v 1) ρ i j = true := (pl_lt hv hi hj hi0 hj0).mpr (by omega)
                obtain ⟨hui, hui0, hui9⟩ := us_y hv hi hi0
                obtain ⟨huj, huj0, huj9⟩ := us_y hv hj hj0
                have hP : va_P G.1 vwCl w H := hP
                have hD : va_D A w := hD
                refine z_top (v := v 0 i) ri ?_
                refine lv_istore (lv' := [(7, .int (v 0 i)), (2, .int (nI 1)), (6, .int (nI j)), (5, .int (v 0 j)), (0, .ref o), (1, .int (nI (fb_ct (pNm v) 40))), (3, .int (nI ρ)), (4, .int (nI k))]) hx hb dL_ordersFit_107 hl (by decide) rfl (fun ls hl => ?_)
                refine lv_aload_n hx hb dL_ordersFit_109 rfl (lv_at hl 4 rfl) ?_
                refine lv_iload hx hb dL_ordersFit_110 (lv_at hl 0 rfl) ?_
                refine z_qV (As := [.int (v 0 i)]) (rest := []) F (q_fnd i hi hi0) (cwV 1 hts gL_ordersFit_X3_find rfl rfl rfl (by decide +kernel) ⟨Nat.le_of_ble_eq_true rfl, Nat.le_of_ble_eq_true rfl⟩) hKK hw0 hP hD hS hA rfl hl.1 rfl (Nat.le_of_ble_eq_true rfl) ⟨Nat.zero_le _, Nat.zero_le _⟩ dL_ordersFit_112 (fun H locs hP hD hS => ?_)
                refine lv_istore (lv' := [(8, .int (nI i)), (7, .int (v 0 i)), (2, .int (nI 1)), (6, .int (nI j)), (5, .int (v 0 j)), (0, .ref o), (1, .int (nI (fb_ct (pNm v) 40))), (3, .int (nI ρ)), (4, .int (nI k))]) hx hb dL_ordersFit_115 hl (by decide) rfl (fun ls hl => ?_)
                refine lv_aload_n hx hb dL_ordersFit_117 rfl (lv_at hl 5 rfl) ?_
                refine lv_iload hx hb dL_ordersFit_118 (lv_at hl 0 rfl) ?_
                refine lv_iconst (v := nI 1) hx hb dL_ordersFit_120 (by decide) ?_
                refine z_qV (As := [.int (nI i), .int (nI 1)]) (rest := []) F (q_num i 1 hi (by omega)) (cwV 2 hts gL_ordersFit_X3_numberOf rfl rfl rfl (by decide +kernel) ⟨Nat.le_of_ble_eq_true rfl, Nat.le_of_ble_eq_true rfl⟩) hKK hw0 hP hD hS hA rfl hl.1 rfl (Nat.le_of_ble_eq_true rfl) ⟨Nat.zero_le _, Nat.zero_le _⟩ dL_ordersFit_121 (fun H locs hP hD hS => ?_)
                refine z_top (v := nI (usK v i)) hui ?_
                refine lv_aload_n hx hb dL_ordersFit_124 rfl (lv_at hl 5 rfl) ?_
                refine lv_iload hx hb dL_ordersFit_125 (lv_at hl 3 rfl) ?_
                refine lv_iconst (v := nI 1) hx hb dL_ordersFit_127 (by decide) ?_
                refine z_qV (As := [.int (nI j), .int (nI 1)]) (rest := [.int (nI (usK v i))]) F (q_num j 1 hj (by omega)) (cwV 2 hts gL_ordersFit_X3_numberOf rfl rfl rfl (by decide +kernel) ⟨Nat.le_of_ble_eq_true rfl, Nat.le_of_ble_eq_true rfl⟩) hKK hw0 hP hD hS hA rfl hl.1 rfl (Nat.le_of_ble_eq_true rfl) ⟨Nat.zero_le _, Nat.zero_le _⟩ dL_ordersFit_128 (fun H locs hP hD hS => ?_)
                refine z_top (v := nI (usK v j)) huj ?_
                refine z_sub (v := ((nI (usK v i)) - (nI (usK v j)))) hx hb dL_ordersFit_131 rfl ?_
                refine lv_istore (lv' := [(9, .int ((nI (usK v i)) - (nI (usK v j)))), (8, .int (nI i)), (7, .int (v 0 i)), (2, .int (nI 1)), (6, .int (nI j)), (5, .int (v 0 j)), (0, .ref o), (1, .int (nI (fb_ct (pNm v) 40))), (3, .int (nI ρ)), (4, .int (nI k))]) hx hb dL_ordersFit_132 hl (by decide) rfl (fun ls hl => ?_)
                rcases (show ρ = 0 ∨ ρ = 1 ∨ ρ = 2 by omega) with hr0 | hr0 | hr0
                · have hlt : i < j := (zAh_0 (by omega) (by omega)).mp hij
                  refine lv_iload_n hx hb dL_ordersFit_134 rfl (lv_at hl 8 rfl) ?_
                  refine lv_if_ne (tgt := 153) hx hb dL_ordersFit_135 (by decide) (fun h => absurd h (fun z => z (by rw [hr0]; rfl))) (fun _ => ?_)
                  refine lv_iload hx hb dL_ordersFit_138 (lv_at hl 1 rfl) ?_
                  refine lv_iload hx hb dL_ordersFit_140 (lv_at hl 4 rfl) ?_
                  refine lv_icmp_ge (tgt := 149) hx hb dL_ordersFit_142 (by decide) (fun h => absurd h (fun z => absurd ((nI_leI (by omega) (by omega)).mp z) (by omega))) (fun _ => ?_)
                  refine lv_iconst (v := nI 1) hx hb dL_ordersFit_145 (by decide) ?_
                  refine lv_goto (tgt := 212) hx hb dL_ordersFit_146 (by decide) ?_
                  refine lv_istore_n (lv' := [(2, .int (nI 1)), (9, .int ((nI (usK v i)) - (nI (usK v j)))), (8, .int (nI i)), (7, .int (v 0 i)), (6, .int (nI j)), (5, .int (v 0 j)), (0, .ref o), (1, .int (nI (fb_ct (pNm v) 40))), (3, .int (nI ρ)), (4, .int (nI k))]) hx hb dL_ordersFit_212 rfl hl (by decide) rfl (fun ls hl => ?_)
                  refine lv_iinc (v := nI (k + 1)) (lv' := [(4, .int (nI (k + 1))), (2, .int (nI 1)), (9, .int ((nI (usK v i)) - (nI (usK v j)))), (8, .int (nI i)), (7, .int (v 0 i)), (6, .int (nI j)), (5, .int (v 0 j)), (0, .ref o), (1, .int (nI (fb_ct (pNm v) 40))), (3, .int (nI ρ))]) hx hb dL_ordersFit_213 hl (k := 9) rfl (nI_add _ _) (by decide) rfl (fun ls hl => ?_)
                  refine lv_goto (tgt := 39) hx hb dL_ordersFit_216 (by decide) ?_
                  exact ih_39 (k + 1) (by omega) (by omega) H locs ls hP hD hS (lv_sub hl [7, 8, 1, 9, 0] rfl)
                · have hlt : Kv v i < Kv v j := (zAh_1 hr0).mp hij
                  have e1 : zPl v 1 j = k := by rw [← hjk, hr0]
                  have e2 : zPl v 1 i = k - 1 := by rw [← hik, hr0]
                  obtain ⟨ni1, ni2, ni3, -⟩ := nm_is hv hi hi0
                  obtain ⟨nj1, nj2, nj3, -⟩ := nm_is hv hj hj0
                  refine lv_iload_n hx hb dL_ordersFit_134 rfl (lv_at hl 8 rfl) ?_
                  refine lv_if_ne (tgt := 153) hx hb dL_ordersFit_135 (by decide) (fun _ => ?_) (fun h => absurd h (nI_ne0 (by omega) (by omega)))
                  refine lv_iload_n hx hb dL_ordersFit_153 rfl (lv_at hl 8 rfl) ?_
                  refine lv_iconst (v := nI 1) hx hb dL_ordersFit_154 (by decide) ?_
                  refine lv_icmp_ne (tgt := 190) hx hb dL_ordersFit_155 (by decide) (fun h => absurd h (fun z => z (by rw [hr0]))) (fun _ => ?_)
                  refine lv_iload hx hb dL_ordersFit_158 (lv_at hl 2 rfl) ?_
                  refine z_qS (As := [.int (v 0 i)]) (rest := []) F (c_L_padded_x l G w (v 0 i) (nmK v i) ni1 ni2 ni3) (va_cwS 1 hts gL_ordersFit_L_padded rfl rfl rfl (by decide +kernel) ⟨Nat.le_of_ble_eq_true rfl, Nat.le_of_ble_eq_true rfl⟩) hKK hP hD hS hA rfl hl.1 rfl (Nat.le_of_ble_eq_true rfl) ⟨Nat.zero_le _, Nat.zero_le _⟩ dL_ordersFit_160 (fun H locs hP hD hS => ?_)
                  refine lv_iload hx hb dL_ordersFit_163 (lv_at hl 5 rfl) ?_
                  refine z_qS (As := [.int (v 0 j)]) (rest := [.int (nI (Kv v i))]) F (c_L_padded_x l G w (v 0 j) (nmK v j) nj1 nj2 nj3) (va_cwS 1 hts gL_ordersFit_L_padded rfl rfl rfl (by decide +kernel) ⟨Nat.le_of_ble_eq_true rfl, Nat.le_of_ble_eq_true rfl⟩) hKK hP hD hS hA rfl hl.1 rfl (Nat.le_of_ble_eq_true rfl) ⟨Nat.zero_le _, Nat.zero_le _⟩ dL_ordersFit_165 (fun H locs hP hD hS => ?_)
                  refine lv_icmp_ge (tgt := 186) hx hb dL_ordersFit_168 (by decide) (fun h => absurd h (fun z => absurd ((nI_leI (Nat.lt_trans (padK_lt 5 (nmK v j) nj3) (by omega)) (Nat.lt_trans (padK_lt 5 (nmK v i) ni3) (by omega))).mp z) (Nat.not_le.mpr hlt))) (fun _ => ?_)
                  refine lv_aload_n hx hb dL_ordersFit_171 rfl (lv_at hl 6 rfl) ?_
                  refine lv_iload hx hb dL_ordersFit_172 (lv_at hl 2 rfl) ?_
                  refine z_qVE (As := [.int (v 0 i)]) (rest := []) F (q_bh i hi hi0) (cwV 1 hts gL_ordersFit_X3_behind rfl rfl rfl (by decide +kernel) ⟨Nat.le_of_ble_eq_true rfl, Nat.le_of_ble_eq_true rfl⟩) hKK hw0 hP hD hS hA rfl hl.1 rfl (Nat.le_of_ble_eq_true rfl) ⟨Nat.zero_le _, Nat.zero_le _⟩ dL_ordersFit_174 (fun r_6 u_6 H locs hq_6 hP hD hS => ?_)
                  have r8 : r_6 = v 0 j := bh_next hv hi hj hi0 hj0 (by omega) hq_6
                  have hP : va_P G.1 vwCl w H := hP
                  have hD : va_D A w := hD
                  refine z_top (v := v 0 j) r8 ?_
                  refine lv_iload hx hb dL_ordersFit_177 (lv_at hl 5 rfl) ?_
                  refine lv_icmp_ne (tgt := 186) hx hb dL_ordersFit_179 (by decide) (fun h => absurd h (fun z => z rfl)) (fun _ => ?_)
                  refine lv_iconst (v := nI 1) hx hb dL_ordersFit_182 (by decide) ?_
                  refine lv_goto (tgt := 212) hx hb dL_ordersFit_183 (by decide) ?_
                  refine lv_istore_n (lv' := [(2, .int (nI 1)), (9, .int ((nI (usK v i)) - (nI (usK v j)))), (8, .int (nI i)), (7, .int (v 0 i)), (6, .int (nI j)), (5, .int (v 0 j)), (0, .ref o), (1, .int (nI (fb_ct (pNm v) 40))), (3, .int (nI ρ)), (4, .int (nI k))]) hx hb dL_ordersFit_212 rfl hl (by decide) rfl (fun ls hl => ?_)
                  refine lv_iinc (v := nI (k + 1)) (lv' := [(4, .int (nI (k + 1))), (2, .int (nI 1)), (9, .int ((nI (usK v i)) - (nI (usK v j)))), (8, .int (nI i)), (7, .int (v 0 i)), (6, .int (nI j)), (5, .int (v 0 j)), (0, .ref o), (1, .int (nI (fb_ct (pNm v) 40))), (3, .int (nI ρ))]) hx hb dL_ordersFit_213 hl (k := 9) rfl (nI_add _ _) (by decide) rfl (fun ls hl => ?_)
                  refine lv_goto (tgt := 39) hx hb dL_ordersFit_216 (by decide) ?_
                  exact ih_39 (k + 1) (by omega) (by omega) H locs ls hP hD hS (lv_sub hl [7, 8, 1, 9, 0] rfl)
                · skip
                  refine lv_iload_n hx hb dL_ordersFit_134 rfl (lv_at hl 8 rfl) ?_
                  refine lv_if_ne (tgt := 153) hx hb dL_ordersFit_135 (by decide) (fun _ => ?_) (fun h => absurd h (nI_ne0 (by omega) (by omega)))
                  refine lv_iload_n hx hb dL_ordersFit_153 rfl (lv_at hl 8 rfl) ?_
                  refine lv_iconst (v := nI 1) hx hb dL_ordersFit_154 (by decide) ?_
                  refine lv_icmp_ne (tgt := 190) hx hb dL_ordersFit_155 (by decide) (fun _ => ?_) (fun h => absurd h (fun z => by have := nI_inj (by omega) (by omega) z; omega))
                  rcases (zAh_2 (by omega) hr0).mp hij with hm | ⟨hm, hlt⟩
                  · rw [hui, huj, nI_toInt (by omega), nI_toInt (by omega)] at hm
                    refine lv_iload hx hb dL_ordersFit_190 (lv_at hl 0 rfl) ?_
                    refine lv_if_gt (tgt := 207) hx hb dL_ordersFit_192 (by decide) (fun _ => ?_) (fun h => absurd (by rw [pk_sub (by omega)]; exact nI_lt (a := 0) (by omega) (by omega)) h)
                    refine lv_iconst (v := nI 1) hx hb dL_ordersFit_207 (by decide) ?_
                    refine lv_goto (tgt := 212) hx hb dL_ordersFit_208 (by decide) ?_
                    refine lv_istore_n (lv' := [(2, .int (nI 1)), (9, .int ((nI (usK v i)) - (nI (usK v j)))), (8, .int (nI i)), (7, .int (v 0 i)), (6, .int (nI j)), (5, .int (v 0 j)), (0, .ref o), (1, .int (nI (fb_ct (pNm v) 40))), (3, .int (nI ρ)), (4, .int (nI k))]) hx hb dL_ordersFit_212 rfl hl (by decide) rfl (fun ls hl => ?_)
                    refine lv_iinc (v := nI (k + 1)) (lv' := [(4, .int (nI (k + 1))), (2, .int (nI 1)), (9, .int ((nI (usK v i)) - (nI (usK v j)))), (8, .int (nI i)), (7, .int (v 0 i)), (6, .int (nI j)), (5, .int (v 0 j)), (0, .ref o), (1, .int (nI (fb_ct (pNm v) 40))), (3, .int (nI ρ))]) hx hb dL_ordersFit_213 hl (k := 9) rfl (nI_add _ _) (by decide) rfl (fun ls hl => ?_)
                    refine lv_goto (tgt := 39) hx hb dL_ordersFit_216 (by decide) ?_
                    exact ih_39 (k + 1) (by omega) (by omega) H locs ls hP hD hS (lv_sub hl [7, 8, 1, 9, 0] rfl)
                  · rw [hui, huj, nI_toInt (by omega), nI_toInt (by omega)] at hm
                    refine lv_iload hx hb dL_ordersFit_190 (lv_at hl 0 rfl) ?_
                    refine lv_if_gt (tgt := 207) hx hb dL_ordersFit_192 (by decide) (fun h => absurd h (by rw [us_0 (show usK v i = usK v j by omega)]; decide)) (fun _ => ?_)
                    refine lv_iload hx hb dL_ordersFit_195 (lv_at hl 0 rfl) ?_
                    refine lv_if_ne (tgt := 211) hx hb dL_ordersFit_197 (by decide) (fun h => absurd h (fun z => z (us_0 (show usK v i = usK v j by omega)))) (fun _ => ?_)
                    refine lv_iload hx hb dL_ordersFit_200 (lv_at hl 1 rfl) ?_
                    refine lv_iload hx hb dL_ordersFit_202 (lv_at hl 4 rfl) ?_
                    refine lv_icmp_ge (tgt := 211) hx hb dL_ordersFit_204 (by decide) (fun h => absurd h (fun z => absurd ((nI_leI (by omega) (by omega)).mp z) (by omega))) (fun _ => ?_)
                    refine lv_iconst (v := nI 1) hx hb dL_ordersFit_207 (by decide) ?_
                    refine lv_goto (tgt := 212) hx hb dL_ordersFit_208 (by decide) ?_
                    refine lv_istore_n (lv' := [(2, .int (nI 1)), (9, .int ((nI (usK v i)) - (nI (usK v j)))), (8, .int (nI i)), (7, .int (v 0 i)), (6, .int (nI j)), (5, .int (v 0 j)), (0, .ref o), (1, .int (nI (fb_ct (pNm v) 40))), (3, .int (nI ρ)), (4, .int (nI k))]) hx hb dL_ordersFit_212 rfl hl (by decide) rfl (fun ls hl => ?_)
                    refine lv_iinc (v := nI (k + 1)) (lv' := [(4, .int (nI (k + 1))), (2, .int (nI 1)), (9, .int ((nI (usK v i)) - (nI (usK v j)))), (8, .int (nI i)), (7, .int (v 0 i)), (6, .int (nI j)), (5, .int (v 0 j)), (0, .ref o), (1, .int (nI (fb_ct (pNm v) 40))), (3, .int (nI ρ))]) hx hb dL_ordersFit_213 hl (k := 9) rfl (nI_add _ _) (by decide) rfl (fun ls hl => ?_)
                    refine lv_goto (tgt := 39) hx hb dL_ordersFit_216 (by decide) ?_
                    exact ih_39 (k + 1) (by omega) (by omega) H locs ls hP hD hS (lv_sub hl [7, 8, 1, 9, 0] rfl)
        exact key_39 41 0 (by omega) (by omega) _ _ _ hP hD hS (lv_sub hl [2, 3, 1, 4, 0] rfl)
  exact key_10 4 0 (by omega) (by omega) _ _ _ hP hD hS (lv_sub hl [3, 2, 1, 0] rfl)
