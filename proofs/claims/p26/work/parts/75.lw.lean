def mkN (x : Int32) : Nat := x.toBitVec.toNat % 2 ^ 31
theorem mkN_lt (x : Int32) : mkN x < 2 ^ 31 := Nat.mod_lt _ (by decide)
def lowN (x : Int32) (n : Nat) : Nat := mkN x % n
theorem lowN_lt (x : Int32) {n : Nat} (h : 0 < n) : lowN x n < n := Nat.mod_lt _ h
theorem mk_is (x : Int32) : x &&& nI 2147483647 = nI (mkN x) := pk_and x 31 (by decide)

set_option maxHeartbeats 4000000 in
set_option maxRecDepth 100000 in
theorem c_L_low (l : Launch) (G : ZG) (w : va_W) (x : Int32) (n : Nat) (h0 : 0 < n) (hn : n < 2 ^ 31) : CI l G yL_low wsL_low (zRm 0 0) [.int x, .int (nI n)] w (nI (lowN x n)) w := by
  refine CI.ent (cc := cL_low) (maxL := 2) (ty := .int) (own := RL) (by decide) rfl rfl (Nat.le_of_ble_eq_true rfl) ?_
  intro p ee s m args below meth c A ls F hr hlk hKK hP hD hA hS hl
  obtain ⟨hx, hb, hml, hown, hts⟩ := id F
  have hl : lv_has ls 2 [(0, .int x), (1, .int (nI n))] := hl
  refine lv_iload_n hx hb dL_low_0 rfl (lv_at hl 0 rfl) ?_
  refine z_ldc (v := (2147483647)) (v' := nI 2147483647) hx hb hown (hts (.constant RL 8 (2147483647)) (by decide +kernel)) dL_low_1 rfl ?_
  refine lv_iand hx hb dL_low_3 ?_
  refine z_top (v := nI (mkN x)) (mk_is x) ?_
  refine lv_iload_n hx hb dL_low_4 rfl (lv_at hl 1 rfl) ?_
  refine z_rem (v := nI (lowN x n)) hx hb dL_low_5 (nI_ne0 h0 hn) (pk_rem (mkN_lt x) h0 hn) ?_
  exact z_zret hx hb hr hlk hP hD hS dL_low_6 rfl rfl rfl

set_option maxHeartbeats 4000000 in
set_option maxRecDepth 100000 in
theorem c_L_near (l : Launch) (G : ZG) (w : va_W) (x : Int32) (n : Nat) (h0 : 0 < n) (hn : n < 2 ^ 31) : CIE l G yL_near wsL_near (zRm 1 21) [.int x, .int (nI n)] w (S := Unit) (fun _ _ => True) (fun _ => w) := by
  refine CIE.ent (cc := cL_near) (maxL := 3) (ty := .int) (own := RL) (by decide) rfl rfl (Nat.le_of_ble_eq_true rfl) ?_
  intro p ee s m args below meth c A ls F hr hlk hKK hP hD hA hS hl
  obtain ⟨hx, hb, hml, hown, hts⟩ := id F
  have hl : lv_has ls 3 [(0, .int x), (1, .int (nI n))] := hl
  refine lv_iload_n hx hb dL_near_0 rfl (lv_at hl 0 rfl) ?_
  refine lv_bipush (v := nI 40) hx hb dL_near_1 (by decide) ?_
  refine z_qS (As := [.int x, .int (nI 40)]) (rest := []) F (c_L_low l G w x 40 (by omega) (by omega)) (va_cwS 2 hts gL_near_L_low rfl rfl rfl (by decide +kernel) ⟨Nat.le_of_ble_eq_true rfl, Nat.le_of_ble_eq_true rfl⟩) hKK hP hD hS hA rfl hl.1 rfl (Nat.le_of_ble_eq_true rfl) ⟨Nat.zero_le _, Nat.zero_le _⟩ dL_near_3 (fun H locs hP hD hS => ?_)
  refine lv_istore_n (lv' := [(2, .int (nI (lowN x 40))), (0, .int x), (1, .int (nI n))]) hx hb dL_near_6 rfl hl (by decide) rfl (fun ls hl => ?_)
  refine lv_iload_n hx hb dL_near_7 rfl (lv_at hl 0 rfl) ?_
  refine lv_if_ne (tgt := 15) hx hb dL_near_8 (by decide) (fun c_1 => ?_) (fun c_1 => ?_)
  · skip
    refine lv_iload_n hx hb dL_near_15 rfl (lv_at hl 0 rfl) ?_
    refine lv_iconst (v := nI 1) hx hb dL_near_16 (by decide) ?_
    refine lv_icmp_ne (tgt := 24) hx hb dL_near_17 (by decide) (fun c_2 => ?_) (fun c_2 => ?_)
    · skip
      refine lv_iload_n hx hb dL_near_24 rfl (lv_at hl 0 rfl) ?_
      refine lv_iconst (v := nI 2) hx hb dL_near_25 (by decide) ?_
      refine lv_icmp_ne (tgt := 33) hx hb dL_near_26 (by decide) (fun c_3 => ?_) (fun c_3 => ?_)
      · skip
        refine lv_iload_n hx hb dL_near_33 rfl (lv_at hl 2 rfl) ?_
        refine lv_iconst (v := nI 1) hx hb dL_near_34 (by decide) ?_
        refine lv_icmp_ge (tgt := 42) hx hb dL_near_35 (by decide) (fun _ => ?_) (fun h => absurd ((nI_leI (a := 1) (by omega) hn).mpr h0) h)
        refine lv_iload_n hx hb dL_near_42 rfl (lv_at hl 1 rfl) ?_
        refine lv_bipush (v := nI 6) hx hb dL_near_43 (by decide) ?_
        refine lv_ishr hx hb dL_near_45 ?_
        refine lv_iload_n hx hb dL_near_46 rfl (lv_at hl 2 rfl) ?_
        refine z_qS (As := [.int (x >>> ((nI 6) &&& 31)), .int (nI n)]) (rest := []) F (c_L_low l G w (x >>> ((nI 6) &&& 31)) n (by omega) (by omega)) (va_cwS 2 hts gL_near_L_low rfl rfl rfl (by decide +kernel) ⟨Nat.le_of_ble_eq_true rfl, Nat.le_of_ble_eq_true rfl⟩) hKK hP hD hS hA rfl hl.1 rfl (Nat.le_of_ble_eq_true rfl) ⟨Nat.zero_le _, Nat.zero_le _⟩ dL_near_47 (fun H locs hP hD hS => ?_)
        exact z_iretE () hx hb hr hlk hP hD hS dL_near_50 rfl trivial
      · skip
        refine lv_iload_n hx hb dL_near_29 rfl (lv_at hl 1 rfl) ?_
        refine lv_goto (tgt := 50) hx hb dL_near_30 (by decide) ?_
        exact z_iretE () hx hb hr hlk hP hD hS dL_near_50 rfl trivial
    · skip
      refine lv_iload_n hx hb dL_near_20 rfl (lv_at hl 2 rfl) ?_
      refine lv_goto (tgt := 50) hx hb dL_near_21 (by decide) ?_
      exact z_iretE () hx hb hr hlk hP hD hS dL_near_50 rfl trivial
  · skip
    refine lv_iconst (v := (-1)) hx hb dL_near_11 (by decide) ?_
    refine lv_goto (tgt := 50) hx hb dL_near_12 (by decide) ?_
    exact z_iretE () hx hb hr hlk hP hD hS dL_near_50 rfl trivial

set_option maxHeartbeats 4000000 in
set_option maxRecDepth 100000 in
theorem c_L_isError (l : Launch) (G : ZG) (w : va_W) (r : Int32) : CI l G yL_isError wsL_isError (zRm 0 0) [.int r] w (bI (erB r)) w := by
  refine CI.ent (cc := cL_isError) (maxL := 1) (ty := .boolean) (own := RL) (by decide) rfl rfl (Nat.le_of_ble_eq_true rfl) ?_
  intro p ee s m args below meth c A ls F hr hlk hKK hP hD hA hS hl
  obtain ⟨hx, hb, hml, hown, hts⟩ := id F
  have hl : lv_has ls 1 [(0, .int r)] := hl
  refine lv_iload_n hx hb dL_isError_0 rfl (lv_at hl 0 rfl) ?_
  refine z_ldc (v := (-1000001)) (v' := (-1000001)) hx hb hown (hts (.constant RL 15 (-1000001)) (by decide +kernel)) dL_isError_1 rfl ?_
  refine lv_icmp_gt (tgt := 16) hx hb dL_isError_3 (by decide) (fun c_a => ?_) (fun c_a => ?_)
  · skip
    refine lv_iconst (v := nI 0) hx hb dL_isError_16 (by decide) ?_
    exact z_zret hx hb hr hlk hP hD hS dL_isError_17 rfl (by rw [erB, decide_eq_false (fun z => z c_a)]; rfl) rfl
  · skip
    refine lv_iload_n hx hb dL_isError_6 rfl (lv_at hl 0 rfl) ?_
    refine z_ldc (v := (-1000005)) (v' := (-1000005)) hx hb hown (hts (.constant RL 16 (-1000005)) (by decide +kernel)) dL_isError_7 rfl ?_
    refine lv_icmp_lt (tgt := 16) hx hb dL_isError_9 (by decide) (fun c_b => ?_) (fun c_b => ?_)
    · skip
      refine lv_iconst (v := nI 0) hx hb dL_isError_16 (by decide) ?_
      exact z_zret hx hb hr hlk hP hD hS dL_isError_17 rfl (by rw [erB, decide_eq_true c_a, decide_eq_false (fun z => z c_b)]; rfl) rfl
    · skip
      refine lv_iconst (v := nI 1) hx hb dL_isError_12 (by decide) ?_
      refine lv_goto (tgt := 17) hx hb dL_isError_13 (by decide) ?_
      exact z_zret hx hb hr hlk hP hD hS dL_isError_17 rfl (by rw [erB, decide_eq_true c_a, decide_eq_true c_b]; rfl) rfl

set_option maxHeartbeats 4000000 in
set_option maxRecDepth 100000 in
theorem c_L_padded (l : Launch) (G : ZG) (w : va_W) (k : Nat) (h0 : 1 ≤ k) (hk : k < 387420489) : CI l G yL_padded wsL_padded (zRm 0 0) [.int (nI k)] w (nI (padK 5 k)) w := by
  refine CI.ent (cc := cL_padded) (maxL := 2) (ty := .int) (own := RL) (by decide) rfl rfl (Nat.le_of_ble_eq_true rfl) ?_
  intro p ee s m args below meth c A ls F hr hlk hKK hP hD hA hS hl
  obtain ⟨hx, hb, hml, hown, hts⟩ := id F
  have hl : lv_has ls 2 [(0, .int (nI k))] := hl
  refine lv_iload_n hx hb dL_padded_0 rfl (lv_at hl 0 rfl) ?_
  refine lv_istore_n (lv' := [(1, .int (nI k)), (0, .int (nI k))]) hx hb dL_padded_1 rfl hl (by decide) rfl (fun ls hl => ?_)
  have key_2 : ∀ (nn : Nat) (f r : Nat), (14348907 ≤ r * 27 ^ f) → (r < 387420489) → (padK f r = padK 5 k) → f < nn → ∀ (H : Heap) (locs : List Loc) (ls : Array Slot), va_P G.1 vwCl w H → va_D A w → va_S A s.heap H locs → lv_has ls 2 [(1, .int (nI r))] → W p l ee (zRm 0 0) s m args below meth c H locs 0 0 (MQ below (ZQi G A w (nI (padK 5 k))) args s 0 0 A) (F0 m 2 ls []) := by
    intro nn
    induction nn with
    | zero => intro f r _ _ _ h; exact absurd h (Nat.not_lt_zero _)
    | succ nn ih_2 =>
      intro f r h1 h2 h3 hm_2 H locs ls hP hD hS hl
      refine lv_iload_n hx hb dL_padded_2 rfl (lv_at hl 0 rfl) ?_
      refine z_ldc (v := (14348907)) (v' := nI 14348907) hx hb hown (hts (.constant RL 36 (14348907)) (by decide +kernel)) dL_padded_3 rfl ?_
      refine z_ge (tgt := 16) hx hb dL_padded_5 (by decide) (by omega) (by omega) (fun c_a => ?_) (fun c_a => ?_)
      · skip
        refine lv_iload_n hx hb dL_padded_16 rfl (lv_at hl 0 rfl) ?_
        exact z_zret hx hb hr hlk hP hD hS dL_padded_17 rfl (by rw [← h3, padK_x c_a]) rfl
      · skip
        refine lv_iload_n hx hb dL_padded_8 rfl (lv_at hl 0 rfl) ?_
        refine lv_bipush (v := nI 27) hx hb dL_padded_9 (by decide) ?_
        refine z_mul (v := nI (r * 27)) hx hb dL_padded_11 (pk_mul _ _) ?_
        refine lv_istore_n (lv' := [(1, .int (nI (r * 27)))]) hx hb dL_padded_12 rfl hl (by decide) rfl (fun ls hl => ?_)
        refine lv_goto (tgt := 2) hx hb dL_padded_13 (by decide) ?_
        obtain ⟨g, rfl, g1, g2⟩ := padK_m h1 c_a
        exact ih_2 g (r * 27) g1 (by omega) (g2.symm.trans h3) (by omega) H locs ls hP hD hS (lv_sub hl [0] rfl)
  exact key_2 6 5 k (by rw [show 27 ^ 5 = 14348907 from by decide]; omega) hk rfl (by omega) _ _ _ hP hD hS (lv_sub hl [0] rfl)

set_option maxHeartbeats 4000000 in
set_option maxRecDepth 100000 in
theorem c_L_name (l : Launch) (G : ZG) (w : va_W) (x : Int32) : CIE l G yL_name wsL_name (zRm 1 21) [.int x] w (S := Unit) (fun _ _ => True) (fun _ => w) := by
  refine CIE.ent (cc := cL_name) (maxL := 3) (ty := .int) (own := RL) (by decide) rfl rfl (Nat.le_of_ble_eq_true rfl) ?_
  intro p ee s m args below meth c A ls F hr hlk hKK hP hD hA hS hl
  obtain ⟨hx, hb, hml, hown, hts⟩ := id F
  have hl : lv_has ls 3 [(0, .int x)] := hl
  refine lv_iconst (v := nI 1) hx hb dL_name_0 (by decide) ?_
  refine lv_iload_n hx hb dL_name_1 rfl (lv_at hl 0 rfl) ?_
  refine lv_iconst (v := nI 3) hx hb dL_name_2 (by decide) ?_
  refine z_qS (As := [.int x, .int (nI 3)]) (rest := [.int (nI 1)]) F (c_L_low l G w x 3 (by omega) (by omega)) (va_cwS 2 hts gL_name_L_low rfl rfl rfl (by decide +kernel) ⟨Nat.le_of_ble_eq_true rfl, Nat.le_of_ble_eq_true rfl⟩) hKK hP hD hS hA rfl hl.1 rfl (Nat.le_of_ble_eq_true rfl) ⟨Nat.zero_le _, Nat.zero_le _⟩ dL_name_3 (fun H locs hP hD hS => ?_)
  refine z_add (v := ((nI 1) + (nI (lowN x 3)))) hx hb dL_name_6 rfl ?_
  refine lv_istore_n (lv' := [(1, .int ((nI 1) + (nI (lowN x 3)))), (0, .int x)]) hx hb dL_name_7 rfl hl (by decide) rfl (fun ls hl => ?_)
  refine lv_iconst (v := nI 1) hx hb dL_name_8 (by decide) ?_
  refine lv_iload_n hx hb dL_name_9 rfl (lv_at hl 1 rfl) ?_
  refine lv_iconst (v := nI 2) hx hb dL_name_10 (by decide) ?_
  refine lv_ishr hx hb dL_name_11 ?_
  refine lv_iconst (v := nI 2) hx hb dL_name_12 (by decide) ?_
  refine z_qS (As := [.int (x >>> ((nI 2) &&& 31)), .int (nI 2)]) (rest := [.int (nI 1)]) F (c_L_low l G w (x >>> ((nI 2) &&& 31)) 2 (by omega) (by omega)) (va_cwS 2 hts gL_name_L_low rfl rfl rfl (by decide +kernel) ⟨Nat.le_of_ble_eq_true rfl, Nat.le_of_ble_eq_true rfl⟩) hKK hP hD hS hA rfl hl.1 rfl (Nat.le_of_ble_eq_true rfl) ⟨Nat.zero_le _, Nat.zero_le _⟩ dL_name_13 (fun H locs hP hD hS => ?_)
  refine z_add (v := ((nI 1) + (nI (lowN (x >>> ((nI 2) &&& 31)) 2)))) hx hb dL_name_16 rfl ?_
  refine lv_istore_n (lv' := [(2, .int ((nI 1) + (nI (lowN (x >>> ((nI 2) &&& 31)) 2)))), (1, .int ((nI 1) + (nI (lowN x 3)))), (0, .int x)]) hx hb dL_name_17 rfl hl (by decide) rfl (fun ls hl => ?_)
  refine lv_iload_n hx hb dL_name_18 rfl (lv_at hl 2 rfl) ?_
  refine lv_iconst (v := nI 4) hx hb dL_name_19 (by decide) ?_
  refine lv_ishr hx hb dL_name_20 ?_
  refine lv_iconst (v := nI 3) hx hb dL_name_21 (by decide) ?_
  refine z_qS (As := [.int (x >>> ((nI 4) &&& 31)), .int (nI 3)]) (rest := []) F (c_L_low l G w (x >>> ((nI 4) &&& 31)) 3 (by omega) (by omega)) (va_cwS 2 hts gL_name_L_low rfl rfl rfl (by decide +kernel) ⟨Nat.le_of_ble_eq_true rfl, Nat.le_of_ble_eq_true rfl⟩) hKK hP hD hS hA rfl hl.1 rfl (Nat.le_of_ble_eq_true rfl) ⟨Nat.zero_le _, Nat.zero_le _⟩ dL_name_22 (fun H locs hP hD hS => ?_)
  refine lv_if_ne (tgt := 32) hx hb dL_name_25 (by decide) (fun c_1 => ?_) (fun c_1 => ?_)
  · skip
    refine lv_iload_n hx hb dL_name_32 rfl (lv_at hl 2 rfl) ?_
    refine lv_iconst (v := nI 4) hx hb dL_name_33 (by decide) ?_
    refine lv_ishr hx hb dL_name_34 ?_
    refine lv_iconst (v := nI 3) hx hb dL_name_35 (by decide) ?_
    refine z_qS (As := [.int (x >>> ((nI 4) &&& 31)), .int (nI 3)]) (rest := []) F (c_L_low l G w (x >>> ((nI 4) &&& 31)) 3 (by omega) (by omega)) (va_cwS 2 hts gL_name_L_low rfl rfl rfl (by decide +kernel) ⟨Nat.le_of_ble_eq_true rfl, Nat.le_of_ble_eq_true rfl⟩) hKK hP hD hS hA rfl hl.1 rfl (Nat.le_of_ble_eq_true rfl) ⟨Nat.zero_le _, Nat.zero_le _⟩ dL_name_36 (fun H locs hP hD hS => ?_)
    refine lv_iconst (v := nI 1) hx hb dL_name_39 (by decide) ?_
    refine lv_icmp_ne (tgt := 52) hx hb dL_name_40 (by decide) (fun c_2 => ?_) (fun c_2 => ?_)
    · skip
      refine lv_sipush (v := nI 729) hx hb dL_name_52 (by decide) ?_
      refine lv_iload_n hx hb dL_name_55 rfl (lv_at hl 1 rfl) ?_
      refine z_mul (v := ((nI 729) * ((nI 1) + (nI (lowN x 3))))) hx hb dL_name_56 rfl ?_
      refine lv_bipush (v := nI 27) hx hb dL_name_57 (by decide) ?_
      refine lv_iload_n hx hb dL_name_59 rfl (lv_at hl 0 rfl) ?_
      refine z_mul (v := ((nI 27) * ((nI 1) + (nI (lowN (x >>> ((nI 2) &&& 31)) 2))))) hx hb dL_name_60 rfl ?_
      refine z_add (v := (((nI 729) * ((nI 1) + (nI (lowN x 3)))) + ((nI 27) * ((nI 1) + (nI (lowN (x >>> ((nI 2) &&& 31)) 2)))))) hx hb dL_name_61 rfl ?_
      refine lv_iconst (v := nI 1) hx hb dL_name_62 (by decide) ?_
      refine z_add (v := ((((nI 729) * ((nI 1) + (nI (lowN x 3)))) + ((nI 27) * ((nI 1) + (nI (lowN (x >>> ((nI 2) &&& 31)) 2))))) + (nI 1))) hx hb dL_name_63 rfl ?_
      refine lv_iload_n hx hb dL_name_64 rfl (lv_at hl 2 rfl) ?_
      refine lv_bipush (v := nI 7) hx hb dL_name_65 (by decide) ?_
      refine lv_ishr hx hb dL_name_67 ?_
      refine lv_iconst (v := nI 3) hx hb dL_name_68 (by decide) ?_
      refine z_qS (As := [.int (x >>> ((nI 7) &&& 31)), .int (nI 3)]) (rest := [.int ((((nI 729) * ((nI 1) + (nI (lowN x 3)))) + ((nI 27) * ((nI 1) + (nI (lowN (x >>> ((nI 2) &&& 31)) 2))))) + (nI 1))]) F (c_L_low l G w (x >>> ((nI 7) &&& 31)) 3 (by omega) (by omega)) (va_cwS 2 hts gL_name_L_low rfl rfl rfl (by decide +kernel) ⟨Nat.le_of_ble_eq_true rfl, Nat.le_of_ble_eq_true rfl⟩) hKK hP hD hS hA rfl hl.1 rfl (Nat.le_of_ble_eq_true rfl) ⟨Nat.zero_le _, Nat.zero_le _⟩ dL_name_69 (fun H locs hP hD hS => ?_)
      refine z_add (v := (((((nI 729) * ((nI 1) + (nI (lowN x 3)))) + ((nI 27) * ((nI 1) + (nI (lowN (x >>> ((nI 2) &&& 31)) 2))))) + (nI 1)) + (nI (lowN (x >>> ((nI 7) &&& 31)) 3)))) hx hb dL_name_72 rfl ?_
      exact z_iretE () hx hb hr hlk hP hD hS dL_name_73 rfl trivial
    · skip
      refine lv_bipush (v := nI 27) hx hb dL_name_43 (by decide) ?_
      refine lv_iload_n hx hb dL_name_45 rfl (lv_at hl 1 rfl) ?_
      refine z_mul (v := ((nI 27) * ((nI 1) + (nI (lowN x 3))))) hx hb dL_name_46 rfl ?_
      refine lv_iload_n hx hb dL_name_47 rfl (lv_at hl 0 rfl) ?_
      refine z_add (v := (((nI 27) * ((nI 1) + (nI (lowN x 3)))) + ((nI 1) + (nI (lowN (x >>> ((nI 2) &&& 31)) 2))))) hx hb dL_name_48 rfl ?_
      refine lv_goto (tgt := 73) hx hb dL_name_49 (by decide) ?_
      exact z_iretE () hx hb hr hlk hP hD hS dL_name_73 rfl trivial
  · skip
    refine lv_iload_n hx hb dL_name_28 rfl (lv_at hl 1 rfl) ?_
    refine lv_goto (tgt := 73) hx hb dL_name_29 (by decide) ?_
    exact z_iretE () hx hb hr hlk hP hD hS dL_name_73 rfl trivial

set_option maxHeartbeats 4000000 in
set_option maxRecDepth 100000 in
theorem c_L_above (l : Launch) (G : ZG) (w : va_W) (x : Int32) : CIE l G yL_above wsL_above (zRm 0 0) [.int x] w (S := Unit) (fun _ _ => True) (fun _ => w) := by
  refine CIE.ent (cc := cL_above) (maxL := 1) (ty := .int) (own := RL) (by decide) rfl rfl (Nat.le_of_ble_eq_true rfl) ?_
  intro p ee s m args below meth c A ls F hr hlk hKK hP hD hA hS hl
  obtain ⟨hx, hb, hml, hown, hts⟩ := id F
  have hl : lv_has ls 1 [(0, .int x)] := hl
  refine lv_iload_n hx hb dL_above_0 rfl (lv_at hl 0 rfl) ?_
  refine lv_if_ge (tgt := 8) hx hb dL_above_1 (by decide) (fun c_1 => ?_) (fun c_1 => ?_)
  · skip
    refine lv_iload_n hx hb dL_above_8 rfl (lv_at hl 0 rfl) ?_
    exact z_iretE () hx hb hr hlk hP hD hS dL_above_9 rfl trivial
  · skip
    refine lv_iconst (v := nI 0) hx hb dL_above_4 (by decide) ?_
    refine lv_goto (tgt := 9) hx hb dL_above_5 (by decide) ?_
    exact z_iretE () hx hb hr hlk hP hD hS dL_above_9 rfl trivial

set_option maxHeartbeats 4000000 in
set_option maxRecDepth 100000 in
theorem c_L_tag (l : Launch) (G : ZG) (o : Nat) (w : va_W) (v : Mem) (e B : Nat) (hQ : QS l G o w v e) (hX : okX v e B) (hB : B < 10000) (x : Int32) : CIE l G yL_tag wsL_tag (zRm 3 66) [.ref o, .int x] w (S := Unit) (fun _ _ => True) (fun _ => w) := by
  refine CIE.ent (cc := cL_tag) (maxL := 3) (ty := .int) (own := RL) (by decide) rfl rfl (Nat.le_of_ble_eq_true rfl) ?_
  intro p ee s m args below meth c A ls F hr hlk hKK hP hD hA hS hl
  obtain ⟨hx, hb, hml, hown, hts⟩ := id F
  have hl : lv_has ls 3 [(0, .ref o), (1, .int x)] := hl
  obtain ⟨⟨fs, hw0⟩, q_cnt, q_num, q_cel, q_cmp, q_cm3, q_fnd, q_why, q_fol, q_nam, q_beg, q_wb, q_nat, q_bh⟩ := id hQ
  have hv := hX.1
  have hC := hX.2.1
  have he9 := hv.1.2
  have hlo := lowN_lt x (show 0 < 8 by omega)
  refine lv_iload_n hx hb dL_tag_0 rfl (lv_at hl 1 rfl) ?_
  refine lv_bipush (v := nI 8) hx hb dL_tag_1 (by decide) ?_
  refine z_qS (As := [.int x, .int (nI 8)]) (rest := []) F (c_L_low l G w x 8 (by omega) (by omega)) (va_cwS 2 hts gL_tag_L_low rfl rfl rfl (by decide +kernel) ⟨Nat.le_of_ble_eq_true rfl, Nat.le_of_ble_eq_true rfl⟩) hKK hP hD hS hA rfl hl.1 rfl (Nat.le_of_ble_eq_true rfl) ⟨Nat.zero_le _, Nat.zero_le _⟩ dL_tag_3 (fun H locs hP hD hS => ?_)
  refine lv_istore_n (lv' := [(2, .int (nI (lowN x 8))), (0, .ref o), (1, .int x)]) hx hb dL_tag_6 rfl hl (by decide) rfl (fun ls hl => ?_)
  refine lv_iload_n hx hb dL_tag_7 rfl (lv_at hl 2 rfl) ?_
  refine lv_iconst (v := nI 5) hx hb dL_tag_8 (by decide) ?_
  refine lv_ishr hx hb dL_tag_9 ?_
  refine lv_bipush (v := nI 9) hx hb dL_tag_10 (by decide) ?_
  refine z_qS (As := [.int (x >>> ((nI 5) &&& 31)), .int (nI 9)]) (rest := []) F (c_L_low l G w (x >>> ((nI 5) &&& 31)) 9 (by omega) (by omega)) (va_cwS 2 hts gL_tag_L_low rfl rfl rfl (by decide +kernel) ⟨Nat.le_of_ble_eq_true rfl, Nat.le_of_ble_eq_true rfl⟩) hKK hP hD hS hA rfl hl.1 rfl (Nat.le_of_ble_eq_true rfl) ⟨Nat.zero_le _, Nat.zero_le _⟩ dL_tag_12 (fun H locs hP hD hS => ?_)
  refine lv_if_ne (tgt := 22) hx hb dL_tag_15 (by decide) (fun c_1 => ?_) (fun c_1 => ?_)
  · skip
    refine z_ldc (v := (1000000)) (v' := nI 1000000) hx hb hown (hts (.constant RL 38 (1000000)) (by decide +kernel)) dL_tag_22 rfl ?_
    refine lv_aload_n hx hb dL_tag_24 rfl (lv_at hl 1 rfl) ?_
    refine lv_iconst (v := nI 3) hx hb dL_tag_25 (by decide) ?_
    refine z_qV (As := [.int (nI 3)]) (rest := [.int (nI 1000000)]) F (q_cnt 3 (by omega)) (cwV 1 hts gL_tag_X3_count rfl rfl rfl (by decide +kernel) ⟨Nat.le_of_ble_eq_true rfl, Nat.le_of_ble_eq_true rfl⟩) hKK hw0 hP hD hS hA rfl hl.1 rfl (Nat.le_of_ble_eq_true rfl) ⟨Nat.zero_le _, Nat.zero_le _⟩ dL_tag_26 (fun H locs hP hD hS => ?_)
    refine lv_iload_n hx hb dL_tag_29 rfl (lv_at hl 2 rfl) ?_
    refine lv_bipush (v := nI 9) hx hb dL_tag_30 (by decide) ?_
    refine lv_ishr hx hb dL_tag_32 ?_
    refine lv_iload_n hx hb dL_tag_33 rfl (lv_at hl 2 rfl) ?_
    refine lv_bipush (v := nI 13) hx hb dL_tag_34 (by decide) ?_
    refine lv_ishr hx hb dL_tag_36 ?_
    refine lv_iconst (v := nI 3) hx hb dL_tag_37 (by decide) ?_
    refine z_qS (As := [.int (x >>> ((nI 13) &&& 31)), .int (nI 3)]) (rest := [.int (x >>> ((nI 9) &&& 31)), .int (cnA v e 3), .int (nI 1000000)]) F (c_L_low l G w (x >>> ((nI 13) &&& 31)) 3 (by omega) (by omega)) (va_cwS 2 hts gL_tag_L_low rfl rfl rfl (by decide +kernel) ⟨Nat.le_of_ble_eq_true rfl, Nat.le_of_ble_eq_true rfl⟩) hKK hP hD hS hA rfl hl.1 rfl (Nat.le_of_ble_eq_true rfl) ⟨Nat.zero_le _, Nat.zero_le _⟩ dL_tag_38 (fun H locs hP hD hS => ?_)
    refine lv_if_ne (tgt := 48) hx hb dL_tag_41 (by decide) (fun c_2 => ?_) (fun c_2 => ?_)
    · skip
      refine lv_iconst (v := nI 1) hx hb dL_tag_48 (by decide) ?_
      refine z_qS (As := [.int (x >>> ((nI 9) &&& 31)), .int (nI 1)]) (rest := [.int (cnA v e 3), .int (nI 1000000)]) F (c_L_low l G w (x >>> ((nI 9) &&& 31)) 1 (by omega) (by omega)) (va_cwS 2 hts gL_tag_L_low rfl rfl rfl (by decide +kernel) ⟨Nat.le_of_ble_eq_true rfl, Nat.le_of_ble_eq_true rfl⟩) hKK hP hD hS hA rfl hl.1 rfl (Nat.le_of_ble_eq_true rfl) ⟨Nat.zero_le _, Nat.zero_le _⟩ dL_tag_49 (fun H locs hP hD hS => ?_)
      refine z_sub (v := ((cnA v e 3) - (nI (lowN (x >>> ((nI 9) &&& 31)) 1)))) hx hb dL_tag_52 rfl ?_
      refine z_qSE (As := [.int ((cnA v e 3) - (nI (lowN (x >>> ((nI 9) &&& 31)) 1)))]) (rest := [.int (nI 1000000)]) F (c_L_above l G w ((cnA v e 3) - (nI (lowN (x >>> ((nI 9) &&& 31)) 1)))) (va_cwS 1 hts gL_tag_L_above rfl rfl rfl (by decide +kernel) ⟨Nat.le_of_ble_eq_true rfl, Nat.le_of_ble_eq_true rfl⟩) hKK hP hD hS hA rfl hl.1 rfl (Nat.le_of_ble_eq_true rfl) ⟨Nat.zero_le _, Nat.zero_le _⟩ dL_tag_53 (fun r_3 u_3 H locs hq_3 hP hD hS => ?_)
      have hP : va_P G.1 vwCl w H := hP
      have hD : va_D A w := hD
      refine z_mul (v := ((nI 1000000) * r_3)) hx hb dL_tag_56 rfl ?_
      refine lv_bipush (v := nI 100) hx hb dL_tag_57 (by decide) ?_
      refine lv_aload_n hx hb dL_tag_59 rfl (lv_at hl 1 rfl) ?_
      refine lv_iload_n hx hb dL_tag_60 rfl (lv_at hl 0 rfl) ?_
      refine lv_iconst (v := nI 3) hx hb dL_tag_61 (by decide) ?_
      refine z_qV (As := [.int (nI (lowN x 8)), .int (nI 3)]) (rest := [.int (nI 100), .int ((nI 1000000) * r_3)]) F (q_num (lowN x 8) 3 (by omega) (by omega)) (cwV 2 hts gL_tag_X3_numberOf rfl rfl rfl (by decide +kernel) ⟨Nat.le_of_ble_eq_true rfl, Nat.le_of_ble_eq_true rfl⟩) hKK hw0 hP hD hS hA rfl hl.1 rfl (Nat.le_of_ble_eq_true rfl) ⟨Nat.zero_le _, Nat.zero_le _⟩ dL_tag_62 (fun H locs hP hD hS => ?_)
      refine lv_iload_n hx hb dL_tag_65 rfl (lv_at hl 2 rfl) ?_
      refine lv_bipush (v := nI 17) hx hb dL_tag_66 (by decide) ?_
      refine lv_ishr hx hb dL_tag_68 ?_
      refine lv_iload_n hx hb dL_tag_69 rfl (lv_at hl 2 rfl) ?_
      refine lv_bipush (v := nI 20) hx hb dL_tag_70 (by decide) ?_
      refine lv_ishr hx hb dL_tag_72 ?_
      refine lv_iconst (v := nI 3) hx hb dL_tag_73 (by decide) ?_
      refine z_qS (As := [.int (x >>> ((nI 20) &&& 31)), .int (nI 3)]) (rest := [.int (x >>> ((nI 17) &&& 31)), .int (numA v (lowN x 8) 3), .int (nI 100), .int ((nI 1000000) * r_3)]) F (c_L_low l G w (x >>> ((nI 20) &&& 31)) 3 (by omega) (by omega)) (va_cwS 2 hts gL_tag_L_low rfl rfl rfl (by decide +kernel) ⟨Nat.le_of_ble_eq_true rfl, Nat.le_of_ble_eq_true rfl⟩) hKK hP hD hS hA rfl hl.1 rfl (Nat.le_of_ble_eq_true rfl) ⟨Nat.zero_le _, Nat.zero_le _⟩ dL_tag_74 (fun H locs hP hD hS => ?_)
      refine lv_if_ne (tgt := 84) hx hb dL_tag_77 (by decide) (fun c_4 => ?_) (fun c_4 => ?_)
      · skip
        refine lv_iconst (v := nI 1) hx hb dL_tag_84 (by decide) ?_
        refine z_qS (As := [.int (x >>> ((nI 17) &&& 31)), .int (nI 1)]) (rest := [.int (numA v (lowN x 8) 3), .int (nI 100), .int ((nI 1000000) * r_3)]) F (c_L_low l G w (x >>> ((nI 17) &&& 31)) 1 (by omega) (by omega)) (va_cwS 2 hts gL_tag_L_low rfl rfl rfl (by decide +kernel) ⟨Nat.le_of_ble_eq_true rfl, Nat.le_of_ble_eq_true rfl⟩) hKK hP hD hS hA rfl hl.1 rfl (Nat.le_of_ble_eq_true rfl) ⟨Nat.zero_le _, Nat.zero_le _⟩ dL_tag_85 (fun H locs hP hD hS => ?_)
        refine z_sub (v := ((numA v (lowN x 8) 3) - (nI (lowN (x >>> ((nI 17) &&& 31)) 1)))) hx hb dL_tag_88 rfl ?_
        refine z_qSE (As := [.int ((numA v (lowN x 8) 3) - (nI (lowN (x >>> ((nI 17) &&& 31)) 1)))]) (rest := [.int (nI 100), .int ((nI 1000000) * r_3)]) F (c_L_above l G w ((numA v (lowN x 8) 3) - (nI (lowN (x >>> ((nI 17) &&& 31)) 1)))) (va_cwS 1 hts gL_tag_L_above rfl rfl rfl (by decide +kernel) ⟨Nat.le_of_ble_eq_true rfl, Nat.le_of_ble_eq_true rfl⟩) hKK hP hD hS hA rfl hl.1 rfl (Nat.le_of_ble_eq_true rfl) ⟨Nat.zero_le _, Nat.zero_le _⟩ dL_tag_89 (fun r_5 u_5 H locs hq_5 hP hD hS => ?_)
        have hP : va_P G.1 vwCl w H := hP
        have hD : va_D A w := hD
        refine z_mul (v := ((nI 100) * r_5)) hx hb dL_tag_92 rfl ?_
        refine z_add (v := (((nI 1000000) * r_3) + ((nI 100) * r_5))) hx hb dL_tag_93 rfl ?_
        refine lv_iload_n hx hb dL_tag_94 rfl (lv_at hl 0 rfl) ?_
        refine z_add (v := ((((nI 1000000) * r_3) + ((nI 100) * r_5)) + (nI (lowN x 8)))) hx hb dL_tag_95 rfl ?_
        exact z_iretE () hx hb hr hlk hP hD hS dL_tag_96 rfl trivial
      · skip
        refine lv_iconst (v := nI 3) hx hb dL_tag_80 (by decide) ?_
        refine lv_goto (tgt := 85) hx hb dL_tag_81 (by decide) ?_
        refine z_qS (As := [.int (x >>> ((nI 17) &&& 31)), .int (nI 3)]) (rest := [.int (numA v (lowN x 8) 3), .int (nI 100), .int ((nI 1000000) * r_3)]) F (c_L_low l G w (x >>> ((nI 17) &&& 31)) 3 (by omega) (by omega)) (va_cwS 2 hts gL_tag_L_low rfl rfl rfl (by decide +kernel) ⟨Nat.le_of_ble_eq_true rfl, Nat.le_of_ble_eq_true rfl⟩) hKK hP hD hS hA rfl hl.1 rfl (Nat.le_of_ble_eq_true rfl) ⟨Nat.zero_le _, Nat.zero_le _⟩ dL_tag_85 (fun H locs hP hD hS => ?_)
        refine z_sub (v := ((numA v (lowN x 8) 3) - (nI (lowN (x >>> ((nI 17) &&& 31)) 3)))) hx hb dL_tag_88 rfl ?_
        refine z_qSE (As := [.int ((numA v (lowN x 8) 3) - (nI (lowN (x >>> ((nI 17) &&& 31)) 3)))]) (rest := [.int (nI 100), .int ((nI 1000000) * r_3)]) F (c_L_above l G w ((numA v (lowN x 8) 3) - (nI (lowN (x >>> ((nI 17) &&& 31)) 3)))) (va_cwS 1 hts gL_tag_L_above rfl rfl rfl (by decide +kernel) ⟨Nat.le_of_ble_eq_true rfl, Nat.le_of_ble_eq_true rfl⟩) hKK hP hD hS hA rfl hl.1 rfl (Nat.le_of_ble_eq_true rfl) ⟨Nat.zero_le _, Nat.zero_le _⟩ dL_tag_89 (fun r_6 u_6 H locs hq_6 hP hD hS => ?_)
        have hP : va_P G.1 vwCl w H := hP
        have hD : va_D A w := hD
        refine z_mul (v := ((nI 100) * r_6)) hx hb dL_tag_92 rfl ?_
        refine z_add (v := (((nI 1000000) * r_3) + ((nI 100) * r_6))) hx hb dL_tag_93 rfl ?_
        refine lv_iload_n hx hb dL_tag_94 rfl (lv_at hl 0 rfl) ?_
        refine z_add (v := ((((nI 1000000) * r_3) + ((nI 100) * r_6)) + (nI (lowN x 8)))) hx hb dL_tag_95 rfl ?_
        exact z_iretE () hx hb hr hlk hP hD hS dL_tag_96 rfl trivial
    · skip
      refine lv_iconst (v := nI 5) hx hb dL_tag_44 (by decide) ?_
      refine lv_goto (tgt := 49) hx hb dL_tag_45 (by decide) ?_
      refine z_qS (As := [.int (x >>> ((nI 9) &&& 31)), .int (nI 5)]) (rest := [.int (cnA v e 3), .int (nI 1000000)]) F (c_L_low l G w (x >>> ((nI 9) &&& 31)) 5 (by omega) (by omega)) (va_cwS 2 hts gL_tag_L_low rfl rfl rfl (by decide +kernel) ⟨Nat.le_of_ble_eq_true rfl, Nat.le_of_ble_eq_true rfl⟩) hKK hP hD hS hA rfl hl.1 rfl (Nat.le_of_ble_eq_true rfl) ⟨Nat.zero_le _, Nat.zero_le _⟩ dL_tag_49 (fun H locs hP hD hS => ?_)
      refine z_sub (v := ((cnA v e 3) - (nI (lowN (x >>> ((nI 9) &&& 31)) 5)))) hx hb dL_tag_52 rfl ?_
      refine z_qSE (As := [.int ((cnA v e 3) - (nI (lowN (x >>> ((nI 9) &&& 31)) 5)))]) (rest := [.int (nI 1000000)]) F (c_L_above l G w ((cnA v e 3) - (nI (lowN (x >>> ((nI 9) &&& 31)) 5)))) (va_cwS 1 hts gL_tag_L_above rfl rfl rfl (by decide +kernel) ⟨Nat.le_of_ble_eq_true rfl, Nat.le_of_ble_eq_true rfl⟩) hKK hP hD hS hA rfl hl.1 rfl (Nat.le_of_ble_eq_true rfl) ⟨Nat.zero_le _, Nat.zero_le _⟩ dL_tag_53 (fun r_7 u_7 H locs hq_7 hP hD hS => ?_)
      have hP : va_P G.1 vwCl w H := hP
      have hD : va_D A w := hD
      refine z_mul (v := ((nI 1000000) * r_7)) hx hb dL_tag_56 rfl ?_
      refine lv_bipush (v := nI 100) hx hb dL_tag_57 (by decide) ?_
      refine lv_aload_n hx hb dL_tag_59 rfl (lv_at hl 1 rfl) ?_
      refine lv_iload_n hx hb dL_tag_60 rfl (lv_at hl 0 rfl) ?_
      refine lv_iconst (v := nI 3) hx hb dL_tag_61 (by decide) ?_
      refine z_qV (As := [.int (nI (lowN x 8)), .int (nI 3)]) (rest := [.int (nI 100), .int ((nI 1000000) * r_7)]) F (q_num (lowN x 8) 3 (by omega) (by omega)) (cwV 2 hts gL_tag_X3_numberOf rfl rfl rfl (by decide +kernel) ⟨Nat.le_of_ble_eq_true rfl, Nat.le_of_ble_eq_true rfl⟩) hKK hw0 hP hD hS hA rfl hl.1 rfl (Nat.le_of_ble_eq_true rfl) ⟨Nat.zero_le _, Nat.zero_le _⟩ dL_tag_62 (fun H locs hP hD hS => ?_)
      refine lv_iload_n hx hb dL_tag_65 rfl (lv_at hl 2 rfl) ?_
      refine lv_bipush (v := nI 17) hx hb dL_tag_66 (by decide) ?_
      refine lv_ishr hx hb dL_tag_68 ?_
      refine lv_iload_n hx hb dL_tag_69 rfl (lv_at hl 2 rfl) ?_
      refine lv_bipush (v := nI 20) hx hb dL_tag_70 (by decide) ?_
      refine lv_ishr hx hb dL_tag_72 ?_
      refine lv_iconst (v := nI 3) hx hb dL_tag_73 (by decide) ?_
      refine z_qS (As := [.int (x >>> ((nI 20) &&& 31)), .int (nI 3)]) (rest := [.int (x >>> ((nI 17) &&& 31)), .int (numA v (lowN x 8) 3), .int (nI 100), .int ((nI 1000000) * r_7)]) F (c_L_low l G w (x >>> ((nI 20) &&& 31)) 3 (by omega) (by omega)) (va_cwS 2 hts gL_tag_L_low rfl rfl rfl (by decide +kernel) ⟨Nat.le_of_ble_eq_true rfl, Nat.le_of_ble_eq_true rfl⟩) hKK hP hD hS hA rfl hl.1 rfl (Nat.le_of_ble_eq_true rfl) ⟨Nat.zero_le _, Nat.zero_le _⟩ dL_tag_74 (fun H locs hP hD hS => ?_)
      refine lv_if_ne (tgt := 84) hx hb dL_tag_77 (by decide) (fun c_8 => ?_) (fun c_8 => ?_)
      · skip
        refine lv_iconst (v := nI 1) hx hb dL_tag_84 (by decide) ?_
        refine z_qS (As := [.int (x >>> ((nI 17) &&& 31)), .int (nI 1)]) (rest := [.int (numA v (lowN x 8) 3), .int (nI 100), .int ((nI 1000000) * r_7)]) F (c_L_low l G w (x >>> ((nI 17) &&& 31)) 1 (by omega) (by omega)) (va_cwS 2 hts gL_tag_L_low rfl rfl rfl (by decide +kernel) ⟨Nat.le_of_ble_eq_true rfl, Nat.le_of_ble_eq_true rfl⟩) hKK hP hD hS hA rfl hl.1 rfl (Nat.le_of_ble_eq_true rfl) ⟨Nat.zero_le _, Nat.zero_le _⟩ dL_tag_85 (fun H locs hP hD hS => ?_)
        refine z_sub (v := ((numA v (lowN x 8) 3) - (nI (lowN (x >>> ((nI 17) &&& 31)) 1)))) hx hb dL_tag_88 rfl ?_
        refine z_qSE (As := [.int ((numA v (lowN x 8) 3) - (nI (lowN (x >>> ((nI 17) &&& 31)) 1)))]) (rest := [.int (nI 100), .int ((nI 1000000) * r_7)]) F (c_L_above l G w ((numA v (lowN x 8) 3) - (nI (lowN (x >>> ((nI 17) &&& 31)) 1)))) (va_cwS 1 hts gL_tag_L_above rfl rfl rfl (by decide +kernel) ⟨Nat.le_of_ble_eq_true rfl, Nat.le_of_ble_eq_true rfl⟩) hKK hP hD hS hA rfl hl.1 rfl (Nat.le_of_ble_eq_true rfl) ⟨Nat.zero_le _, Nat.zero_le _⟩ dL_tag_89 (fun r_9 u_9 H locs hq_9 hP hD hS => ?_)
        have hP : va_P G.1 vwCl w H := hP
        have hD : va_D A w := hD
        refine z_mul (v := ((nI 100) * r_9)) hx hb dL_tag_92 rfl ?_
        refine z_add (v := (((nI 1000000) * r_7) + ((nI 100) * r_9))) hx hb dL_tag_93 rfl ?_
        refine lv_iload_n hx hb dL_tag_94 rfl (lv_at hl 0 rfl) ?_
        refine z_add (v := ((((nI 1000000) * r_7) + ((nI 100) * r_9)) + (nI (lowN x 8)))) hx hb dL_tag_95 rfl ?_
        exact z_iretE () hx hb hr hlk hP hD hS dL_tag_96 rfl trivial
      · skip
        refine lv_iconst (v := nI 3) hx hb dL_tag_80 (by decide) ?_
        refine lv_goto (tgt := 85) hx hb dL_tag_81 (by decide) ?_
        refine z_qS (As := [.int (x >>> ((nI 17) &&& 31)), .int (nI 3)]) (rest := [.int (numA v (lowN x 8) 3), .int (nI 100), .int ((nI 1000000) * r_7)]) F (c_L_low l G w (x >>> ((nI 17) &&& 31)) 3 (by omega) (by omega)) (va_cwS 2 hts gL_tag_L_low rfl rfl rfl (by decide +kernel) ⟨Nat.le_of_ble_eq_true rfl, Nat.le_of_ble_eq_true rfl⟩) hKK hP hD hS hA rfl hl.1 rfl (Nat.le_of_ble_eq_true rfl) ⟨Nat.zero_le _, Nat.zero_le _⟩ dL_tag_85 (fun H locs hP hD hS => ?_)
        refine z_sub (v := ((numA v (lowN x 8) 3) - (nI (lowN (x >>> ((nI 17) &&& 31)) 3)))) hx hb dL_tag_88 rfl ?_
        refine z_qSE (As := [.int ((numA v (lowN x 8) 3) - (nI (lowN (x >>> ((nI 17) &&& 31)) 3)))]) (rest := [.int (nI 100), .int ((nI 1000000) * r_7)]) F (c_L_above l G w ((numA v (lowN x 8) 3) - (nI (lowN (x >>> ((nI 17) &&& 31)) 3)))) (va_cwS 1 hts gL_tag_L_above rfl rfl rfl (by decide +kernel) ⟨Nat.le_of_ble_eq_true rfl, Nat.le_of_ble_eq_true rfl⟩) hKK hP hD hS hA rfl hl.1 rfl (Nat.le_of_ble_eq_true rfl) ⟨Nat.zero_le _, Nat.zero_le _⟩ dL_tag_89 (fun r_10 u_10 H locs hq_10 hP hD hS => ?_)
        have hP : va_P G.1 vwCl w H := hP
        have hD : va_D A w := hD
        refine z_mul (v := ((nI 100) * r_10)) hx hb dL_tag_92 rfl ?_
        refine z_add (v := (((nI 1000000) * r_7) + ((nI 100) * r_10))) hx hb dL_tag_93 rfl ?_
        refine lv_iload_n hx hb dL_tag_94 rfl (lv_at hl 0 rfl) ?_
        refine z_add (v := ((((nI 1000000) * r_7) + ((nI 100) * r_10)) + (nI (lowN x 8)))) hx hb dL_tag_95 rfl ?_
        exact z_iretE () hx hb hr hlk hP hD hS dL_tag_96 rfl trivial
  · skip
    refine lv_iload_n hx hb dL_tag_18 rfl (lv_at hl 2 rfl) ?_
    refine lv_goto (tgt := 96) hx hb dL_tag_19 (by decide) ?_
    exact z_iretE () hx hb hr hlk hP hD hS dL_tag_96 rfl trivial
