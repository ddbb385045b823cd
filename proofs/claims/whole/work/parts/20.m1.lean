set_option maxHeartbeats 4000000 in
set_option maxRecDepth 100000 in
theorem c_X4_within (l : Launch) (G : ZG) (x : Int32) (lo hi : Nat)  : CI l G yX4_within wsX4_within (zRm 0 0) [.int x, .int (nI lo), .int (nI hi)] ([]) (bI (zWi x lo hi)) ([]) := by
  refine CI.ent (cc := cX4_within) (maxL := 3) (ty := .boolean) (own := RX4) (by decide) rfl rfl (Nat.le_of_ble_eq_true rfl) ?_
  intro p ee s m args below meth c A ls F hr hlk hKK hP hD hA hS hl
  obtain ⟨hx, hb, hml, hown, hts⟩ := id F
  have hl : lv_has ls 3 [(0, .int x), (1, .int (nI lo)), (2, .int (nI hi))] := hl
  refine lv_iload_n hx hb dX4_within_0 rfl (lv_at hl 0 rfl) ?_
  refine lv_iload_n hx hb dX4_within_1 rfl (lv_at hl 1 rfl) ?_
  refine lv_icmp_lt (tgt := 14) hx hb dX4_within_2 (by decide) (fun c_1 => ?_) (fun c_1 => ?_)
  · skip
    refine lv_iconst (v := nI 0) hx hb dX4_within_14 (by decide) ?_
    exact z_zret hx hb hr hlk hP hD hS dX4_within_15 (by decide) (by rw [zWi_lo c_1]; rfl) rfl
  · skip
    refine lv_iload_n hx hb dX4_within_5 rfl (lv_at hl 0 rfl) ?_
    refine lv_iload_n hx hb dX4_within_6 rfl (lv_at hl 2 rfl) ?_
    refine lv_icmp_gt (tgt := 14) hx hb dX4_within_7 (by decide) (fun c_2 => ?_) (fun c_2 => ?_)
    · skip
      refine lv_iconst (v := nI 0) hx hb dX4_within_14 (by decide) ?_
      exact z_zret hx hb hr hlk hP hD hS dX4_within_15 (by decide) (by rw [zWi_hi c_2]; rfl) rfl
    · skip
      refine lv_iconst (v := nI 1) hx hb dX4_within_10 (by decide) ?_
      refine lv_goto (tgt := 15) hx hb dX4_within_11 (by decide) ?_
      exact z_zret hx hb hr hlk hP hD hS dX4_within_15 (by decide) (by rw [zWi_t c_1 c_2]; rfl) rfl

set_option maxHeartbeats 4000000 in
set_option maxRecDepth 100000 in
theorem c_X4_isName_bad (l : Launch) (G : ZG) (x : Int32) (h : zWi x 1 387420488 = false) : CI l G yX4_isName wsX4_isName (zRm 1 22) [.int x] ([]) (bI (false)) ([]) := by
  refine CI.ent (cc := cX4_isName) (maxL := 3) (ty := .boolean) (own := RX4) (by decide) rfl rfl (Nat.le_of_ble_eq_true rfl) ?_
  intro p ee s m args below meth c A ls F hr hlk hKK hP hD hA hS hl
  obtain ⟨hx, hb, hml, hown, hts⟩ := id F
  have hl : lv_has ls 3 [(0, .int x)] := hl
  have ct_36 := hts (.constant RX4 36 (387420488)) (by decide +kernel)
  refine lv_iload_n hx hb dX4_isName_0 rfl (lv_at hl 0 rfl) ?_
  refine lv_iconst (v := nI 1) hx hb dX4_isName_1 (by decide) ?_
  refine z_ldc (v' := nI 387420488) hx hb hown ct_36 dX4_isName_2 rfl ?_
  refine z_callSI (As := [.int x, .int (nI 1), .int (nI 387420488)]) (rest := []) F (c_X4_within l G x (1) (387420488)) (va_cwS 3 hts gX4_isName_X4_within rfl rfl rfl (by decide +kernel) ⟨Nat.le_of_ble_eq_true rfl, Nat.le_of_ble_eq_true rfl⟩) hKK hP hD hS hA rfl hl.1 rfl (Nat.le_of_ble_eq_true rfl) ⟨Nat.zero_le _, Nat.zero_le _⟩ dX4_isName_4 (fun H locs hP hD hS => ?_)
  refine z_top (v := bI (false)) (by rw [h]) ?_
  refine lv_istore_n (lv' := [(1, .int (bI (false))), (0, .int x)]) hx hb dX4_isName_7 rfl hl (by decide) rfl (fun ls hl => ?_)
  refine lv_iload_n hx hb dX4_isName_8 rfl (lv_at hl 1 rfl) ?_
  refine lv_istore_n (lv' := [(2, .int x), (1, .int (bI (false))), (0, .int x)]) hx hb dX4_isName_9 rfl hl (by decide) rfl (fun ls hl => ?_)
  refine lv_iload_n hx hb dX4_isName_10 rfl (lv_at hl 0 rfl) ?_
  refine lv_if_le (tgt := 39) hx hb dX4_isName_11 (by decide) (fun c_1 => ?_) (fun c_1 => ?_)
  · skip
    refine lv_iload_n hx hb dX4_isName_39 rfl (lv_at hl 1 rfl) ?_
    exact z_zret hx hb hr hlk hP hD hS dX4_isName_40 (bI_nar _) rfl rfl
  · skip
    refine lv_iload_n hx hb dX4_isName_14 rfl (lv_at hl 1 rfl) ?_
    refine z_ifBeq (tgt := 39) hx hb dX4_isName_15 (by decide) (fun c_2 => ?_) (fun c_2 => absurd c_2 (by decide))
    refine lv_iload_n hx hb dX4_isName_39 rfl (lv_at hl 1 rfl) ?_
    exact z_zret hx hb hr hlk hP hD hS dX4_isName_40 (bI_nar _) rfl rfl

set_option maxHeartbeats 4000000 in
set_option maxRecDepth 100000 in
theorem c_X4_isName_N (l : Launch) (G : ZG) (k : Nat) (h1 : 1 ≤ k) (h2 : k ≤ 387420488) : CI l G yX4_isName wsX4_isName (zRm 1 22) [.int (nI k)] ([]) (bI (digOk 6 k)) ([]) := by
  refine CI.ent (cc := cX4_isName) (maxL := 3) (ty := .boolean) (own := RX4) (by decide) rfl rfl (Nat.le_of_ble_eq_true rfl) ?_
  intro p ee s m args below meth c A ls F hr hlk hKK hP hD hA hS hl
  obtain ⟨hx, hb, hml, hown, hts⟩ := id F
  have hl : lv_has ls 3 [(0, .int (nI k))] := hl
  have ct_36 := hts (.constant RX4 36 (387420488)) (by decide +kernel)
  refine lv_iload_n hx hb dX4_isName_0 rfl (lv_at hl 0 rfl) ?_
  refine lv_iconst (v := nI 1) hx hb dX4_isName_1 (by decide) ?_
  refine z_ldc (v' := nI 387420488) hx hb hown ct_36 dX4_isName_2 rfl ?_
  refine z_callSI (As := [.int (nI k), .int (nI 1), .int (nI 387420488)]) (rest := []) F (c_X4_within l G (nI k) (1) (387420488)) (va_cwS 3 hts gX4_isName_X4_within rfl rfl rfl (by decide +kernel) ⟨Nat.le_of_ble_eq_true rfl, Nat.le_of_ble_eq_true rfl⟩) hKK hP hD hS hA rfl hl.1 rfl (Nat.le_of_ble_eq_true rfl) ⟨Nat.zero_le _, Nat.zero_le _⟩ dX4_isName_4 (fun H locs hP hD hS => ?_)
  refine z_top (v := bI (true)) (by rw [zWi_N (by omega) (by decide) (by decide), decide_eq_true h1, decide_eq_true h2]; rfl) ?_
  refine lv_istore_n (lv' := [(1, .int (bI (true))), (0, .int (nI k))]) hx hb dX4_isName_7 rfl hl (by decide) rfl (fun ls hl => ?_)
  refine lv_iload_n hx hb dX4_isName_8 rfl (lv_at hl 1 rfl) ?_
  refine lv_istore_n (lv' := [(2, .int (nI k)), (1, .int (bI (true))), (0, .int (nI k))]) hx hb dX4_isName_9 rfl hl (by decide) rfl (fun ls hl => ?_)
  have key_1 : ∀ (nn : Nat) (r f : Nat) (q : Bool), r < 27 ^ f → r ≤ 387420488 → digOk 6 k = (q && digOk f r) → r < nn → ∀ (H : Heap) (locs : List Loc) (ls : Array Slot), va_P G.1 vwCl ([]) H → va_D A ([]) → va_S A s.heap H locs → lv_has ls 3 [(0, .int (nI k)), (1, .int (bI (q))), (2, .int (nI r))] → W p l ee (zRm 1 22) s m args below meth c H locs 0 0 (MQ below (ZQi G A ([]) (bI (digOk 6 k))) args s 0 0 A) (F0 m 10 ls []) := by
    intro nn
    induction nn with
    | zero => intro r f q _ _ _ hm; exact absurd hm (Nat.not_lt_zero _)
    | succ nn ih_1 =>
      intro r f q hr1 hr2 hd hm H locs ls hP hD hS hl
      refine lv_iload_n hx hb dX4_isName_10 rfl (lv_at hl 2 rfl) ?_
      refine z_ifNle (tgt := 39) hx hb dX4_isName_11 (by decide) (by omega) (fun c_2 => ?_) (fun c_2 => ?_)
      · skip
        refine lv_iload_n hx hb dX4_isName_39 rfl (lv_at hl 1 rfl) ?_
        exact z_zret hx hb hr hlk hP hD hS dX4_isName_40 (bI_nar _) (by rw [hd, show r = 0 by omega, digOk_0, Bool.and_true]) rfl
      · skip
        obtain ⟨g, rfl, hg2, hg3⟩ := digOk_m (b := q) hr1 c_2
        refine lv_iload_n hx hb dX4_isName_14 rfl (lv_at hl 1 rfl) ?_
        refine z_ifBeq (tgt := 39) hx hb dX4_isName_15 (by decide) (fun c_3 => ?_) (fun c_3 => ?_)
        · skip
          refine lv_iload_n hx hb dX4_isName_39 rfl (lv_at hl 1 rfl) ?_
          exact z_zret hx hb hr hlk hP hD hS dX4_isName_40 (bI_nar _) (by rw [hd, c_3]; rfl) rfl
        · skip
          refine lv_iload_n hx hb dX4_isName_18 rfl (lv_at hl 2 rfl) ?_
          refine lv_bipush (v := nI 27) hx hb dX4_isName_19 (by decide) ?_
          refine z_rem (v := nI (r % 27)) hx hb dX4_isName_21 (by decide) (pk_rem (by omega) (by decide) (by decide)) ?_
          refine z_ifNle (tgt := 29) hx hb dX4_isName_22 (by decide) (by omega) (fun c_4 => ?_) (fun c_4 => ?_)
          · skip
            refine lv_iconst (v := nI 0) hx hb dX4_isName_29 (by decide) ?_
            refine lv_istore_n (lv' := [(1, .int (nI 0)), (0, .int (nI k)), (2, .int (nI r))]) hx hb dX4_isName_30 rfl hl (by decide) rfl (fun ls hl => ?_)
            refine lv_iload_n hx hb dX4_isName_31 rfl (lv_at hl 2 rfl) ?_
            refine lv_bipush (v := nI 27) hx hb dX4_isName_32 (by decide) ?_
            refine z_div (v := nI (r / 27)) hx hb dX4_isName_34 (by decide) (pk_div (by omega) (by decide) (by decide)) ?_
            refine lv_istore_n (lv' := [(2, .int (nI (r / 27))), (1, .int (nI 0)), (0, .int (nI k))]) hx hb dX4_isName_35 rfl hl (by decide) rfl (fun ls hl => ?_)
            refine lv_goto (tgt := 10) hx hb dX4_isName_36 (by decide) ?_
            have hl : lv_has ls 3 [(2, .int (nI (r / 27))), (1, .int (bI (decide (0 < r % 27)))), (0, .int (nI k))] := by rw [show decide (0 < r % 27) = false from decide_eq_false (by omega)]; exact hl
            exact ih_1 (r / 27) g (decide (0 < r % 27)) hg2 (by omega) (by rw [hd, hg3, c_3]; rfl) (by omega) _ _ _ hP hD hS (lv_sub hl [2, 1, 0] rfl)
          · skip
            refine lv_iconst (v := nI 1) hx hb dX4_isName_25 (by decide) ?_
            refine lv_goto (tgt := 30) hx hb dX4_isName_26 (by decide) ?_
            refine lv_istore_n (lv' := [(1, .int (nI 1)), (0, .int (nI k)), (2, .int (nI r))]) hx hb dX4_isName_30 rfl hl (by decide) rfl (fun ls hl => ?_)
            refine lv_iload_n hx hb dX4_isName_31 rfl (lv_at hl 2 rfl) ?_
            refine lv_bipush (v := nI 27) hx hb dX4_isName_32 (by decide) ?_
            refine z_div (v := nI (r / 27)) hx hb dX4_isName_34 (by decide) (pk_div (by omega) (by decide) (by decide)) ?_
            refine lv_istore_n (lv' := [(2, .int (nI (r / 27))), (1, .int (nI 1)), (0, .int (nI k))]) hx hb dX4_isName_35 rfl hl (by decide) rfl (fun ls hl => ?_)
            refine lv_goto (tgt := 10) hx hb dX4_isName_36 (by decide) ?_
            have hl : lv_has ls 3 [(2, .int (nI (r / 27))), (1, .int (bI (decide (0 < r % 27)))), (0, .int (nI k))] := by rw [decide_eq_true c_4]; exact hl
            exact ih_1 (r / 27) g (decide (0 < r % 27)) hg2 (by omega) (by rw [hd, hg3, c_3]; rfl) (by omega) _ _ _ hP hD hS (lv_sub hl [2, 1, 0] rfl)
  exact key_1 _ k 6 true (by have : 27 ^ 6 = 387420489 := (by decide); omega) (by omega) rfl (Nat.lt_succ_self _) _ _ _ hP hD hS (lv_sub hl [2, 1, 0] rfl)

theorem c_X4_isName (l : Launch) (G : ZG) (x : Int32) : CI l G yX4_isName wsX4_isName (zRm 1 22) [.int x] ([]) (bI (zName x)) ([]) := by
  cases h : zWi x 1 387420488 with
  | false =>
    have h2 : zName x = false := by
      cases hz : zName x with
      | false => rfl
      | true =>
        obtain ⟨k, h1, h2, rfl, -⟩ := zName_of hz
        rw [zWi_N (by omega) (by decide) (by decide), decide_eq_true h1, decide_eq_true h2] at h
        cases h
    rw [h2]
    exact c_X4_isName_bad l G x h
  | true =>
    obtain ⟨k, h1, h2, rfl⟩ := zWi_of (by decide) (by decide) h
    rw [zName_N h1 h2]
    exact c_X4_isName_N l G k h1 h2

set_option maxHeartbeats 4000000 in
set_option maxRecDepth 100000 in
theorem c_X4_padded (l : Launch) (G : ZG) (k : Nat) (hk1 : 1 ≤ k) (hk : k < 387420489) : CI l G yX4_padded wsX4_padded (zRm 0 0) [.int (nI k)] ([]) (nI (padK 5 k)) ([]) := by
  refine CI.ent (cc := cX4_padded) (maxL := 2) (ty := .int) (own := RX4) (by decide) rfl rfl (Nat.le_of_ble_eq_true rfl) ?_
  intro p ee s m args below meth c A ls F hr hlk hKK hP hD hA hS hl
  obtain ⟨hx, hb, hml, hown, hts⟩ := id F
  have hl : lv_has ls 2 [(0, .int (nI k))] := hl
  have ct_41 := hts (.constant RX4 41 (14348907)) (by decide +kernel)
  refine lv_iload_n hx hb dX4_padded_0 rfl (lv_at hl 0 rfl) ?_
  refine lv_istore_n (lv' := [(1, .int (nI k)), (0, .int (nI k))]) hx hb dX4_padded_1 rfl hl (by decide) rfl (fun ls hl => ?_)
  have key_1 : ∀ (nn : Nat) (r f : Nat), 1 ≤ r → r < 387420489 → 14348907 ≤ r * 27 ^ f → padK 5 k = padK f r → 14348907 - r < nn → ∀ (H : Heap) (locs : List Loc) (ls : Array Slot), va_P G.1 vwCl ([]) H → va_D A ([]) → va_S A s.heap H locs → lv_has ls 2 [(0, .int (nI k)), (1, .int (nI r))] → W p l ee (zRm 0 0) s m args below meth c H locs 0 0 (MQ below (ZQi G A ([]) (nI (padK 5 k))) args s 0 0 A) (F0 m 2 ls []) := by
    intro nn
    induction nn with
    | zero => intro r f _ _ _ _ hm; exact absurd hm (Nat.not_lt_zero _)
    | succ nn ih_1 =>
      intro r f hr0 hr1 hr2 hd hm H locs ls hP hD hS hl
      refine lv_iload_n hx hb dX4_padded_2 rfl (lv_at hl 1 rfl) ?_
      refine z_ifNle (tgt := 20) hx hb dX4_padded_3 (by decide) (by omega) (fun c_2 => absurd c_2 (by omega)) (fun c_2 => ?_)
      refine lv_iload_n hx hb dX4_padded_6 rfl (lv_at hl 1 rfl) ?_
      refine z_ldc (v' := nI 14348907) hx hb hown ct_41 dX4_padded_7 rfl ?_
      refine z_ge (tgt := 20) hx hb dX4_padded_9 (by decide) (by omega) (by omega) (fun c_3 => ?_) (fun c_3 => ?_)
      · skip
        refine lv_iload_n hx hb dX4_padded_20 rfl (lv_at hl 1 rfl) ?_
        exact z_iret hx hb hr hlk hP hD hS dX4_padded_21 (by rw [hd, padK_x c_3]) rfl
      · skip
        refine lv_iload_n hx hb dX4_padded_12 rfl (lv_at hl 1 rfl) ?_
        refine lv_bipush (v := nI 27) hx hb dX4_padded_13 (by decide) ?_
        refine z_mul (v := nI (r * 27)) hx hb dX4_padded_15 (pk_mul _ _) ?_
        refine lv_istore_n (lv' := [(1, .int (nI (r * 27))), (0, .int (nI k))]) hx hb dX4_padded_16 rfl hl (by decide) rfl (fun ls hl => ?_)
        refine lv_goto (tgt := 2) hx hb dX4_padded_17 (by decide) ?_
        obtain ⟨g, rfl, hg2, hg3⟩ := padK_m hr2 c_3
        exact ih_1 (r * 27) g (by omega) (by omega) hg2 (hd.trans hg3) (by omega) _ _ _ hP hD hS (lv_sub hl [1, 0] rfl)
  exact key_1 _ k 5 (by omega) (by omega) (by have : 27 ^ 5 = 14348907 := (by decide); omega) rfl (Nat.lt_succ_self _) _ _ _ hP hD hS (lv_sub hl [1, 0] rfl)

set_option maxHeartbeats 4000000 in
set_option maxRecDepth 100000 in
theorem c_X4_begins (l : Launch) (G : ZG) (k w : Nat) (hk : k < 387420489) (hw1 : 1 ≤ w) (hw : w < 387420489) : CI l G yX4_begins wsX4_begins (zRm 0 0) [.int (nI k), .int (nI w)] ([]) (bI (decide (begK 5 k w = w))) ([]) := by
  refine CI.ent (cc := cX4_begins) (maxL := 3) (ty := .boolean) (own := RX4) (by decide) rfl rfl (Nat.le_of_ble_eq_true rfl) ?_
  intro p ee s m args below meth c A ls F hr hlk hKK hP hD hA hS hl
  obtain ⟨hx, hb, hml, hown, hts⟩ := id F
  have hl : lv_has ls 3 [(0, .int (nI k)), (1, .int (nI w))] := hl
  refine lv_iload_n hx hb dX4_begins_0 rfl (lv_at hl 0 rfl) ?_
  refine lv_istore_n (lv' := [(2, .int (nI k)), (0, .int (nI k)), (1, .int (nI w))]) hx hb dX4_begins_1 rfl hl (by decide) rfl (fun ls hl => ?_)
  have key_1 : ∀ (nn : Nat) (r : Nat), r < 387420489 → (begK 5 k w = w ↔ begX r w) → r < nn → ∀ (H : Heap) (locs : List Loc) (ls : Array Slot), va_P G.1 vwCl ([]) H → va_D A ([]) → va_S A s.heap H locs → lv_has ls 3 [(0, .int (nI k)), (1, .int (nI w)), (2, .int (nI r))] → W p l ee (zRm 0 0) s m args below meth c H locs 0 0 (MQ below (ZQi G A ([]) (bI (decide (begK 5 k w = w)))) args s 0 0 A) (F0 m 2 ls []) := by
    intro nn
    induction nn with
    | zero => intro r _ _ hm; exact absurd hm (Nat.not_lt_zero _)
    | succ nn ih_1 =>
      intro r hr1 hd hm H locs ls hP hD hS hl
      refine lv_iload_n hx hb dX4_begins_2 rfl (lv_at hl 2 rfl) ?_
      refine lv_iload_n hx hb dX4_begins_3 rfl (lv_at hl 1 rfl) ?_
      refine z_le (tgt := 15) hx hb dX4_begins_4 (by decide) (by omega) (by omega) (fun c_2 => ?_) (fun c_2 => ?_)
      · skip
        refine lv_iload_n hx hb dX4_begins_15 rfl (lv_at hl 2 rfl) ?_
        refine lv_iload_n hx hb dX4_begins_16 rfl (lv_at hl 1 rfl) ?_
        refine z_ne (tgt := 24) hx hb dX4_begins_17 (by decide) (by omega) (by omega) (fun c_3 => ?_) (fun c_3 => ?_)
        · skip
          refine lv_iconst (v := nI 0) hx hb dX4_begins_24 (by decide) ?_
          exact z_zret hx hb hr hlk hP hD hS dX4_begins_25 (by decide) (bI_df (fun z => c_3 (begX_n c_2 (hd.mp z)))) rfl
        · skip
          refine lv_iconst (v := nI 1) hx hb dX4_begins_20 (by decide) ?_
          refine lv_goto (tgt := 25) hx hb dX4_begins_21 (by decide) ?_
          exact z_zret hx hb hr hlk hP hD hS dX4_begins_25 (by decide) (bI_dt (hd.mpr (begX_y c_3))) rfl
      · skip
        refine lv_iload_n hx hb dX4_begins_7 rfl (lv_at hl 2 rfl) ?_
        refine lv_bipush (v := nI 27) hx hb dX4_begins_8 (by decide) ?_
        refine z_div (v := nI (r / 27)) hx hb dX4_begins_10 (by decide) (pk_div (by omega) (by decide) (by decide)) ?_
        refine lv_istore_n (lv' := [(2, .int (nI (r / 27))), (0, .int (nI k)), (1, .int (nI w))]) hx hb dX4_begins_11 rfl hl (by decide) rfl (fun ls hl => ?_)
        refine lv_goto (tgt := 2) hx hb dX4_begins_12 (by decide) ?_
        exact ih_1 (r / 27) (by omega) (hd.trans (begX_go hw1 c_2)) (by omega) _ _ _ hP hD hS (lv_sub hl [1, 2, 0] rfl)
  exact key_1 _ k (by omega) (begX_5 hk hw1) (Nat.lt_succ_self _) _ _ _ hP hD hS (lv_sub hl [1, 2, 0] rfl)

set_option maxHeartbeats 4000000 in
set_option maxRecDepth 100000 in
theorem c_X4_isNamed (l : Launch) (G : ZG) (a : Nat → Nat) (v : Mem) (y : Nat → Nat) (n : Nat) (hn : n < 40) : CI l G yX4_isNamed wsX4_isNamed (zRm 0 0) [.ref (a 0), .int (nI n)] (modW G a v y) (bI (decide (¬ v 0 (4 + n) = 0))) (modW G a v y) := by
  refine CI.ent (cc := cX4_isNamed) (maxL := 2) (ty := .boolean) (own := RX4) (by decide) rfl rfl (Nat.le_of_ble_eq_true rfl) ?_
  intro p ee s m args below meth c A ls F hr hlk hKK hP hD hA hS hl
  obtain ⟨hx, hb, hml, hown, hts⟩ := id F
  have hl : lv_has ls 2 [(0, .ref (a 0)), (1, .int (nI n))] := hl
  have fl_7 := hts (.fieldLink RX4 7 "NameRollsModel" "now" "[I") (by decide +kernel)
  have hinX4 : ∀ w ∈ wsX40, w ∈ wsX4_isNamed := by decide +kernel
  refine lv_aload_n hx hb dX4_isNamed_0 rfl (lv_at hl 0 rfl) ?_
  refine va_get (D := G.1) (ci := 4) (v := .ref (a 1)) (C := RX4) (T := TX4) (N := 17) hx hb hts hinX4 hown hKK.1 hP 0 rfl rfl 0 (by decide) fl_7 (fun _ h9 => h9) rfl dX4_isNamed_1 ?_
  refine lv_iconst (v := nI 4) hx hb dX4_isNamed_4 (by decide) ?_
  refine lv_iload_n hx hb dX4_isNamed_5 rfl (lv_at hl 1 rfl) ?_
  refine z_add (v := nI (4 + n)) hx hb dX4_isNamed_6 (nI_add _ _) ?_
  refine z_iald (n := 511) (f := v 0) (v := v 0 (4 + n)) hx hb hKK hP 1 rfl (by omega) (by decide) rfl dX4_isNamed_7 ?_
  refine lv_if_eq (tgt := 15) hx hb dX4_isNamed_8 (by decide) (fun c_1 => ?_) (fun c_1 => ?_)
  · skip
    refine lv_iconst (v := nI 0) hx hb dX4_isNamed_15 (by decide) ?_
    exact z_zret hx hb hr hlk hP hD hS dX4_isNamed_16 (by decide) (bI_df (fun q => q c_1)) rfl
  · skip
    refine lv_iconst (v := nI 1) hx hb dX4_isNamed_11 (by decide) ?_
    refine lv_goto (tgt := 16) hx hb dX4_isNamed_12 (by decide) ?_
    exact z_zret hx hb hr hlk hP hD hS dX4_isNamed_16 (by decide) (bI_dt c_1) rfl

set_option maxHeartbeats 4000000 in
set_option maxRecDepth 100000 in
theorem c_X4_numberWith (l : Launch) (G : ZG) (a : Nat → Nat) (v : Mem) (y : Nat → Nat) (x : Int32)  : CI l G yX4_numberWith wsX4_numberWith (zRm 0 0) [.ref (a 0), .int x] (modW G a v y) (zNum (rN (v 0)) x) (modW G a v y) := by
  refine CI.ent (cc := cX4_numberWith) (maxL := 3) (ty := .int) (own := RX4) (by decide) rfl rfl (Nat.le_of_ble_eq_true rfl) ?_
  intro p ee s m args below meth c A ls F hr hlk hKK hP hD hA hS hl
  obtain ⟨hx, hb, hml, hown, hts⟩ := id F
  have hl : lv_has ls 3 [(0, .ref (a 0)), (1, .int x)] := hl
  have fl_7 := hts (.fieldLink RX4 7 "NameRollsModel" "now" "[I") (by decide +kernel)
  have hinX4 : ∀ w ∈ wsX40, w ∈ wsX4_numberWith := by decide +kernel
  refine lv_iconst (v := nI 0) hx hb dX4_numberWith_0 (by decide) ?_
  refine lv_istore_n (lv' := [(2, .int (nI 0)), (0, .ref (a 0)), (1, .int x)]) hx hb dX4_numberWith_1 rfl hl (by decide) rfl (fun ls hl => ?_)
  have key_1 : ∀ (nn : Nat) (i : Nat), i ≤ 40 → (∀ j, j < i → ¬ rN (v 0) j = x) → 40 - i < nn → ∀ (H : Heap) (locs : List Loc) (ls : Array Slot), va_P G.1 vwCl (modW G a v y) H → va_D A (modW G a v y) → va_S A s.heap H locs → lv_has ls 3 [(0, .ref (a 0)), (1, .int x), (2, .int (nI i))] → W p l ee (zRm 0 0) s m args below meth c H locs 0 0 (MQ below (ZQi G A (modW G a v y) (zNum (rN (v 0)) x)) args s 0 0 A) (F0 m 2 ls []) := by
    intro nn
    induction nn with
    | zero => intro i _ _ hm; exact absurd hm (Nat.not_lt_zero _)
    | succ nn ih_1 =>
      intro i hi hno hm H locs ls hP hD hS hl
      refine lv_iload_n hx hb dX4_numberWith_2 rfl (lv_at hl 2 rfl) ?_
      refine lv_bipush (v := nI 40) hx hb dX4_numberWith_3 (by decide) ?_
      refine z_ge (tgt := 28) hx hb dX4_numberWith_5 (by decide) (by omega) (by omega) (fun c_2 => ?_) (fun c_2 => ?_)
      · skip
        refine lv_iconst (v := (-1)) hx hb dX4_numberWith_28 (by decide) ?_
        exact z_iret hx hb hr hlk hP hD hS dX4_numberWith_29 (zNum_no (by omega) hno) rfl
      · skip
        refine lv_aload_n hx hb dX4_numberWith_8 rfl (lv_at hl 0 rfl) ?_
        refine va_get (D := G.1) (ci := 4) (v := .ref (a 1)) (C := RX4) (T := TX4) (N := 17) hx hb hts hinX4 hown hKK.1 hP 0 rfl rfl 0 (by decide) fl_7 (fun _ h9 => h9) rfl dX4_numberWith_9 ?_
        refine lv_iconst (v := nI 4) hx hb dX4_numberWith_12 (by decide) ?_
        refine lv_iload_n hx hb dX4_numberWith_13 rfl (lv_at hl 2 rfl) ?_
        refine z_add (v := nI (4 + i)) hx hb dX4_numberWith_14 (nI_add _ _) ?_
        refine z_iald (n := 511) (f := v 0) (v := v 0 (4 + i)) hx hb hKK hP 1 rfl (by omega) (by decide) rfl dX4_numberWith_15 ?_
        refine lv_iload_n hx hb dX4_numberWith_16 rfl (lv_at hl 1 rfl) ?_
        refine lv_icmp_ne (tgt := 22) hx hb dX4_numberWith_17 (by decide) (fun c_3 => ?_) (fun c_3 => ?_)
        · skip
          refine lv_iinc (v := nI (i + 1)) (lv' := [(2, .int (nI (i + 1))), (0, .ref (a 0)), (1, .int x)]) hx hb dX4_numberWith_22 hl (k := 2) rfl (nI_1 _) (by decide) rfl (fun ls hl => ?_)
          refine lv_goto (tgt := 2) hx hb dX4_numberWith_25 (by decide) ?_
          exact ih_1 (i + 1) (by omega) (z_ext hno c_3) (by omega) _ _ _ hP hD hS (lv_sub hl [1, 2, 0] rfl)
        · skip
          refine lv_iload_n hx hb dX4_numberWith_20 rfl (lv_at hl 2 rfl) ?_
          exact z_iret hx hb hr hlk hP hD hS dX4_numberWith_21 (zNum_at (f := rN (v 0)) (by omega) c_3 hno) rfl
  exact key_1 _ 0 (by omega) (fun j hj => absurd hj (Nat.not_lt_zero j)) (Nat.lt_succ_self _) _ _ _ hP hD hS (lv_sub hl [1, 2, 0] rfl)

set_option maxHeartbeats 4000000 in
set_option maxRecDepth 100000 in
theorem c_X4_freeNumber (l : Launch) (G : ZG) (a : Nat → Nat) (v : Mem) (y : Nat → Nat)  : CI l G yX4_freeNumber wsX4_freeNumber (zRm 1 21) [.ref (a 0)] (modW G a v y) (zNum (rN (v 0)) (nI 0)) (modW G a v y) := by
  refine CI.ent (cc := cX4_freeNumber) (maxL := 2) (ty := .int) (own := RX4) (by decide) rfl rfl (Nat.le_of_ble_eq_true rfl) ?_
  intro p ee s m args below meth c A ls F hr hlk hKK hP hD hA hS hl
  obtain ⟨hx, hb, hml, hown, hts⟩ := id F
  have hl : lv_has ls 2 [(0, .ref (a 0))] := hl
  refine lv_iconst (v := nI 0) hx hb dX4_freeNumber_0 (by decide) ?_
  refine lv_istore_n (lv' := [(1, .int (nI 0)), (0, .ref (a 0))]) hx hb dX4_freeNumber_1 rfl hl (by decide) rfl (fun ls hl => ?_)
  have key_1 : ∀ (nn : Nat) (i : Nat), i ≤ 40 → (∀ j, j < i → ¬ rN (v 0) j = nI 0) → 40 - i < nn → ∀ (H : Heap) (locs : List Loc) (ls : Array Slot), va_P G.1 vwCl (modW G a v y) H → va_D A (modW G a v y) → va_S A s.heap H locs → lv_has ls 2 [(0, .ref (a 0)), (1, .int (nI i))] → W p l ee (zRm 1 21) s m args below meth c H locs 0 0 (MQ below (ZQi G A (modW G a v y) (zNum (rN (v 0)) (nI 0))) args s 0 0 A) (F0 m 2 ls []) := by
    intro nn
    induction nn with
    | zero => intro i _ _ hm; exact absurd hm (Nat.not_lt_zero _)
    | succ nn ih_1 =>
      intro i hi hno hm H locs ls hP hD hS hl
      refine lv_iload_n hx hb dX4_freeNumber_2 rfl (lv_at hl 1 rfl) ?_
      refine lv_bipush (v := nI 40) hx hb dX4_freeNumber_3 (by decide) ?_
      refine z_ge (tgt := 24) hx hb dX4_freeNumber_5 (by decide) (by omega) (by omega) (fun c_2 => ?_) (fun c_2 => ?_)
      · skip
        refine lv_iconst (v := (-1)) hx hb dX4_freeNumber_24 (by decide) ?_
        exact z_iret hx hb hr hlk hP hD hS dX4_freeNumber_25 (zNum_no (by omega) hno) rfl
      · skip
        refine lv_aload_n hx hb dX4_freeNumber_8 rfl (lv_at hl 0 rfl) ?_
        refine lv_iload_n hx hb dX4_freeNumber_9 rfl (lv_at hl 1 rfl) ?_
        refine z_callVI (As := [.int (nI i)]) (rest := []) (wr := []) (C := RX4) F (c_X4_isNamed l G a v y (i) (by omega)) (cwV 1 hts gX4_freeNumber_X4_isNamed rfl rfl rfl (by decide +kernel) ⟨Nat.le_of_ble_eq_true rfl, Nat.le_of_ble_eq_true rfl⟩) hKK (z_recv hKK hP (q0 := 0) (ci := 4) rfl rfl) hP hD hS hA rfl hl.1 rfl (Nat.le_of_ble_eq_true rfl) ⟨Nat.zero_le _, Nat.zero_le _⟩ dX4_freeNumber_10 (fun H locs hP hD hS => ?_)
        have hP : va_P G.1 vwCl (modW G a v y) H := hP
        have hD : va_D A (modW G a v y) := hD
        refine z_ifBne (tgt := 18) hx hb dX4_freeNumber_13 (by decide) (fun c_3 => ?_) (fun c_3 => ?_)
        · skip
          refine lv_iinc (v := nI (i + 1)) (lv' := [(1, .int (nI (i + 1))), (0, .ref (a 0))]) hx hb dX4_freeNumber_18 hl (k := 1) rfl (nI_1 _) (by decide) rfl (fun ls hl => ?_)
          refine lv_goto (tgt := 2) hx hb dX4_freeNumber_21 (by decide) ?_
          exact ih_1 (i + 1) (by omega) (z_ext hno (of_decide_eq_true c_3)) (by omega) _ _ _ hP hD hS (lv_sub hl [1, 0] rfl)
        · skip
          refine lv_iload_n hx hb dX4_freeNumber_16 rfl (lv_at hl 1 rfl) ?_
          exact z_iret hx hb hr hlk hP hD hS dX4_freeNumber_17 (zNum_at (f := rN (v 0)) (by omega) (Classical.not_not.mp (of_decide_eq_false c_3)) hno) rfl
  exact key_1 _ 0 (by omega) (fun j hj => absurd hj (Nat.not_lt_zero j)) (Nat.lt_succ_self _) _ _ _ hP hD hS (lv_sub hl [1, 0] rfl)

set_option maxHeartbeats 4000000 in
set_option maxRecDepth 100000 in
theorem c_X4_tagOf (l : Launch) (G : ZG) (a : Nat → Nat) (v : Mem) (y : Nat → Nat) (n : Nat) (hn : n < 40) : CI l G yX4_tagOf wsX4_tagOf (zRm 0 0) [.ref (a 0), .int (nI n)] (modW G a v y) (mTag (v 0) n) (modW G a v y) := by
  refine CI.ent (cc := cX4_tagOf) (maxL := 2) (ty := .int) (own := RX4) (by decide) rfl rfl (Nat.le_of_ble_eq_true rfl) ?_
  intro p ee s m args below meth c A ls F hr hlk hKK hP hD hA hS hl
  obtain ⟨hx, hb, hml, hown, hts⟩ := id F
  have hl : lv_has ls 2 [(0, .ref (a 0)), (1, .int (nI n))] := hl
  have ct_46 := hts (.constant RX4 46 (1000000)) (by decide +kernel)
  have fl_7 := hts (.fieldLink RX4 7 "NameRollsModel" "now" "[I") (by decide +kernel)
  have hinX4 : ∀ w ∈ wsX40, w ∈ wsX4_tagOf := by decide +kernel
  refine z_ldc (v' := nI 1000000) hx hb hown ct_46 dX4_tagOf_0 rfl ?_
  refine lv_aload_n hx hb dX4_tagOf_2 rfl (lv_at hl 0 rfl) ?_
  refine va_get (D := G.1) (ci := 4) (v := .ref (a 1)) (C := RX4) (T := TX4) (N := 17) hx hb hts hinX4 hown hKK.1 hP 0 rfl rfl 0 (by decide) fl_7 (fun _ h9 => h9) rfl dX4_tagOf_3 ?_
  refine lv_iconst (v := nI 0) hx hb dX4_tagOf_6 (by decide) ?_
  refine z_iald (n := 511) (f := v 0) (v := v 0 0) hx hb hKK hP 1 rfl (by omega) (by decide) rfl dX4_tagOf_7 ?_
  refine z_mul (v := (nI 1000000) * (v 0 0)) hx hb dX4_tagOf_8 rfl ?_
  refine lv_bipush (v := nI 100) hx hb dX4_tagOf_9 (by decide) ?_
  refine lv_aload_n hx hb dX4_tagOf_11 rfl (lv_at hl 0 rfl) ?_
  refine va_get (D := G.1) (ci := 4) (v := .ref (a 1)) (C := RX4) (T := TX4) (N := 17) hx hb hts hinX4 hown hKK.1 hP 0 rfl rfl 0 (by decide) fl_7 (fun _ h9 => h9) rfl dX4_tagOf_12 ?_
  refine lv_bipush (v := nI 84) hx hb dX4_tagOf_15 (by decide) ?_
  refine lv_iload_n hx hb dX4_tagOf_17 rfl (lv_at hl 1 rfl) ?_
  refine z_add (v := nI (84 + n)) hx hb dX4_tagOf_18 (nI_add _ _) ?_
  refine z_iald (n := 511) (f := v 0) (v := v 0 (84 + n)) hx hb hKK hP 1 rfl (by omega) (by decide) rfl dX4_tagOf_19 ?_
  refine z_mul (v := (nI 100) * (v 0 (84 + n))) hx hb dX4_tagOf_20 rfl ?_
  refine z_add (v := ((nI 1000000) * (v 0 0)) + ((nI 100) * (v 0 (84 + n)))) hx hb dX4_tagOf_21 rfl ?_
  refine lv_iload_n hx hb dX4_tagOf_22 rfl (lv_at hl 1 rfl) ?_
  refine z_add (v := (((nI 1000000) * (v 0 0)) + ((nI 100) * (v 0 (84 + n)))) + (nI n)) hx hb dX4_tagOf_23 rfl ?_
  exact z_iret hx hb hr hlk hP hD hS dX4_tagOf_24 rfl rfl

set_option maxHeartbeats 4000000 in
set_option maxRecDepth 100000 in
theorem c_X4_cellsWith (l : Launch) (G : ZG) (a : Nat → Nat) (v : Mem) (y : Nat → Nat) (x : Int32)  : CI l G yX4_cellsWith wsX4_cellsWith (zRm 0 0) [.ref (a 0), .int x] (modW G a v y) (nI (zCells (rC (v 0)) x)) (modW G a v y) := by
  refine CI.ent (cc := cX4_cellsWith) (maxL := 4) (ty := .int) (own := RX4) (by decide) rfl rfl (Nat.le_of_ble_eq_true rfl) ?_
  intro p ee s m args below meth c A ls F hr hlk hKK hP hD hA hS hl
  obtain ⟨hx, hb, hml, hown, hts⟩ := id F
  have hl : lv_has ls 4 [(0, .ref (a 0)), (1, .int x)] := hl
  have fl_7 := hts (.fieldLink RX4 7 "NameRollsModel" "now" "[I") (by decide +kernel)
  have hinX4 : ∀ w ∈ wsX40, w ∈ wsX4_cellsWith := by decide +kernel
  refine lv_iconst (v := nI 0) hx hb dX4_cellsWith_0 (by decide) ?_
  refine lv_istore_n (lv' := [(2, .int (nI 0)), (0, .ref (a 0)), (1, .int x)]) hx hb dX4_cellsWith_1 rfl hl (by decide) rfl (fun ls hl => ?_)
  refine lv_iconst (v := nI 0) hx hb dX4_cellsWith_2 (by decide) ?_
  refine lv_istore_n (lv' := [(3, .int (nI 0)), (2, .int (nI 0)), (0, .ref (a 0)), (1, .int x)]) hx hb dX4_cellsWith_3 rfl hl (by decide) rfl (fun ls hl => ?_)
  have key_1 : ∀ (nn : Nat) (i : Nat), i ≤ 18 → 18 - i < nn → ∀ (H : Heap) (locs : List Loc) (ls : Array Slot), va_P G.1 vwCl (modW G a v y) H → va_D A (modW G a v y) → va_S A s.heap H locs → lv_has ls 4 [(0, .ref (a 0)), (1, .int x), (2, .int (nI (fb_ct (fun i => decide (rC (v 0) i = x)) i))), (3, .int (nI i))] → W p l ee (zRm 0 0) s m args below meth c H locs 0 0 (MQ below (ZQi G A (modW G a v y) (nI (zCells (rC (v 0)) x))) args s 0 0 A) (F0 m 4 ls []) := by
    intro nn
    induction nn with
    | zero => intro i _ hm; exact absurd hm (Nat.not_lt_zero _)
    | succ nn ih_1 =>
      intro i hi hm H locs ls hP hD hS hl
      refine lv_iload_n hx hb dX4_cellsWith_4 rfl (lv_at hl 3 rfl) ?_
      refine lv_bipush (v := nI 18) hx hb dX4_cellsWith_5 (by decide) ?_
      refine z_ge (tgt := 37) hx hb dX4_cellsWith_7 (by decide) (by omega) (by omega) (fun c_2 => ?_) (fun c_2 => ?_)
      · skip
        refine lv_iload_n hx hb dX4_cellsWith_37 rfl (lv_at hl 2 rfl) ?_
        exact z_iret hx hb hr hlk hP hD hS dX4_cellsWith_38 (by rw [show i = 18 by omega]; rfl) rfl
      · skip
        refine lv_iload_n hx hb dX4_cellsWith_10 rfl (lv_at hl 2 rfl) ?_
        refine lv_aload_n hx hb dX4_cellsWith_11 rfl (lv_at hl 0 rfl) ?_
        refine va_get (D := G.1) (ci := 4) (v := .ref (a 1)) (C := RX4) (T := TX4) (N := 17) hx hb hts hinX4 hown hKK.1 hP 0 rfl rfl 0 (by decide) fl_7 (fun _ h9 => h9) rfl dX4_cellsWith_12 ?_
        refine lv_bipush (v := nI 124) hx hb dX4_cellsWith_15 (by decide) ?_
        refine lv_iload_n hx hb dX4_cellsWith_17 rfl (lv_at hl 3 rfl) ?_
        refine z_add (v := nI (124 + i)) hx hb dX4_cellsWith_18 (nI_add _ _) ?_
        refine z_iald (n := 511) (f := v 0) (v := v 0 (124 + i)) hx hb hKK hP 1 rfl (by omega) (by decide) rfl dX4_cellsWith_19 ?_
        refine lv_iload_n hx hb dX4_cellsWith_20 rfl (lv_at hl 1 rfl) ?_
        refine lv_icmp_ne (tgt := 28) hx hb dX4_cellsWith_21 (by decide) (fun c_3 => ?_) (fun c_3 => ?_)
        · skip
          refine lv_iconst (v := nI 0) hx hb dX4_cellsWith_28 (by decide) ?_
          refine z_add (v := nI (fb_ct (fun i => decide (rC (v 0) i = x)) (i + 1))) hx hb dX4_cellsWith_29 (by rw [fb_ct_f (p := fun i => decide (rC (v 0) i = x)) (n := i) (decide_eq_false c_3)]; exact nI_add _ 0) ?_
          refine lv_istore_n (lv' := [(2, .int (nI (fb_ct (fun i => decide (rC (v 0) i = x)) (i + 1)))), (0, .ref (a 0)), (1, .int x), (3, .int (nI i))]) hx hb dX4_cellsWith_30 rfl hl (by decide) rfl (fun ls hl => ?_)
          refine lv_iinc (v := nI (i + 1)) (lv' := [(3, .int (nI (i + 1))), (2, .int (nI (fb_ct (fun i => decide (rC (v 0) i = x)) (i + 1)))), (0, .ref (a 0)), (1, .int x)]) hx hb dX4_cellsWith_31 hl (k := 3) rfl (nI_1 _) (by decide) rfl (fun ls hl => ?_)
          refine lv_goto (tgt := 4) hx hb dX4_cellsWith_34 (by decide) ?_
          exact ih_1 (i + 1) (by omega) (by omega) _ _ _ hP hD hS (lv_sub hl [2, 3, 1, 0] rfl)
        · skip
          refine lv_iconst (v := nI 1) hx hb dX4_cellsWith_24 (by decide) ?_
          refine lv_goto (tgt := 29) hx hb dX4_cellsWith_25 (by decide) ?_
          refine z_add (v := nI (fb_ct (fun i => decide (rC (v 0) i = x)) (i + 1))) hx hb dX4_cellsWith_29 (by rw [fb_ct_t (p := fun i => decide (rC (v 0) i = x)) (n := i) (decide_eq_true c_3)]; exact nI_1 _) ?_
          refine lv_istore_n (lv' := [(2, .int (nI (fb_ct (fun i => decide (rC (v 0) i = x)) (i + 1)))), (0, .ref (a 0)), (1, .int x), (3, .int (nI i))]) hx hb dX4_cellsWith_30 rfl hl (by decide) rfl (fun ls hl => ?_)
          refine lv_iinc (v := nI (i + 1)) (lv' := [(3, .int (nI (i + 1))), (2, .int (nI (fb_ct (fun i => decide (rC (v 0) i = x)) (i + 1)))), (0, .ref (a 0)), (1, .int x)]) hx hb dX4_cellsWith_31 hl (k := 3) rfl (nI_1 _) (by decide) rfl (fun ls hl => ?_)
          refine lv_goto (tgt := 4) hx hb dX4_cellsWith_34 (by decide) ?_
          exact ih_1 (i + 1) (by omega) (by omega) _ _ _ hP hD hS (lv_sub hl [2, 3, 1, 0] rfl)
  exact key_1 _ 0 (by omega) (Nat.lt_succ_self _) _ _ _ hP hD hS (lv_sub hl [2, 3, 1, 0] rfl)

set_option maxHeartbeats 4000000 in
set_option maxRecDepth 100000 in
theorem c_X4_givesBack (l : Launch) (G : ZG) (a : Nat → Nat) (v : Mem) (y : Nat → Nat) (n : Nat) (hn : n < 40) : CI l G yX4_givesBack wsX4_givesBack (zRm 0 0) [.ref (a 0), .int (nI n)] (modW G a v y) (v 0 (44 + n) - nI 1) (modW G a (mrow v 0 (mGive (v 0) n)) y) := by
  refine CI.ent (cc := cX4_givesBack) (maxL := 2) (ty := .int) (own := RX4) (by decide) rfl rfl (Nat.le_of_ble_eq_true rfl) ?_
  intro p ee s m args below meth c A ls F hr hlk hKK hP hD hA hS hl
  obtain ⟨hx, hb, hml, hown, hts⟩ := id F
  have hl : lv_has ls 2 [(0, .ref (a 0)), (1, .int (nI n))] := hl
  have fl_7 := hts (.fieldLink RX4 7 "NameRollsModel" "now" "[I") (by decide +kernel)
  have hinX4 : ∀ w ∈ wsX40, w ∈ wsX4_givesBack := by decide +kernel
  refine lv_aload_n hx hb dX4_givesBack_0 rfl (lv_at hl 0 rfl) ?_
  refine va_get (D := G.1) (ci := 4) (v := .ref (a 1)) (C := RX4) (T := TX4) (N := 17) hx hb hts hinX4 hown hKK.1 hP 0 rfl rfl 0 (by decide) fl_7 (fun _ h9 => h9) rfl dX4_givesBack_1 ?_
  refine lv_bipush (v := nI 44) hx hb dX4_givesBack_4 (by decide) ?_
  refine lv_iload_n hx hb dX4_givesBack_6 rfl (lv_at hl 1 rfl) ?_
  refine z_add (v := nI (44 + n)) hx hb dX4_givesBack_7 (nI_add _ _) ?_
  refine lv_dup2_11 hx hb dX4_givesBack_8 rfl rfl ?_
  refine z_iald (n := 511) (f := v 0) (v := v 0 (44 + n)) hx hb hKK hP 1 rfl (by omega) (by decide) rfl dX4_givesBack_9 ?_
  refine lv_iconst (v := nI 1) hx hb dX4_givesBack_10 (by decide) ?_
  refine z_sub (v := (v 0 (44 + n)) - (nI 1)) hx hb dX4_givesBack_11 rfl ?_
  refine z_iast (n := 511) (f := v 0) (w2 := modW G a (mrow v 0 (upd (v 0) (44 + n) ((v 0 (44 + n)) - (nI 1)))) y) hx hb hKK hP hD hS 1 rfl (by omega) (by decide) rfl dX4_givesBack_12 (fun H locs hP hD hS => ?_)
  refine lv_aload_n hx hb dX4_givesBack_13 rfl (lv_at hl 0 rfl) ?_
  refine va_get (D := G.1) (ci := 4) (v := .ref (a 1)) (C := RX4) (T := TX4) (N := 17) hx hb hts hinX4 hown hKK.1 hP 0 rfl rfl 0 (by decide) fl_7 (fun _ h9 => h9) rfl dX4_givesBack_14 ?_
  refine lv_bipush (v := nI 44) hx hb dX4_givesBack_17 (by decide) ?_
  refine lv_iload_n hx hb dX4_givesBack_19 rfl (lv_at hl 1 rfl) ?_
  refine z_add (v := nI (44 + n)) hx hb dX4_givesBack_20 (nI_add _ _) ?_
  refine z_iald (n := 511) (f := upd (v 0) (44 + n) ((v 0 (44 + n)) - (nI 1))) (v := (v 0 (44 + n)) - (nI 1)) hx hb hKK hP 1 rfl (by omega) (by decide) pk_us dX4_givesBack_21 ?_
  refine lv_if_ne (tgt := 57) hx hb dX4_givesBack_22 (by decide) (fun c_1 => ?_) (fun c_1 => ?_)
  · skip
    refine lv_aload_n hx hb dX4_givesBack_57 rfl (lv_at hl 0 rfl) ?_
    refine va_get (D := G.1) (ci := 4) (v := .ref (a 1)) (C := RX4) (T := TX4) (N := 17) hx hb hts hinX4 hown hKK.1 hP 0 rfl rfl 0 (by decide) fl_7 (fun _ h9 => h9) rfl dX4_givesBack_58 ?_
    refine lv_bipush (v := nI 44) hx hb dX4_givesBack_61 (by decide) ?_
    refine lv_iload_n hx hb dX4_givesBack_63 rfl (lv_at hl 1 rfl) ?_
    refine z_add (v := nI (44 + n)) hx hb dX4_givesBack_64 (nI_add _ _) ?_
    refine z_iald (n := 511) (f := upd (v 0) (44 + n) ((v 0 (44 + n)) - (nI 1))) (v := (v 0 (44 + n)) - (nI 1)) hx hb hKK hP 1 rfl (by omega) (by decide) pk_us dX4_givesBack_65 ?_
    exact z_iret hx hb hr hlk hP hD hS dX4_givesBack_66 rfl (congrArg (fun z => modW G a z y) (by rw [mGive, if_neg c_1]))
  · skip
    refine lv_aload_n hx hb dX4_givesBack_25 rfl (lv_at hl 0 rfl) ?_
    refine va_get (D := G.1) (ci := 4) (v := .ref (a 1)) (C := RX4) (T := TX4) (N := 17) hx hb hts hinX4 hown hKK.1 hP 0 rfl rfl 0 (by decide) fl_7 (fun _ h9 => h9) rfl dX4_givesBack_26 ?_
    refine lv_iconst (v := nI 4) hx hb dX4_givesBack_29 (by decide) ?_
    refine lv_iload_n hx hb dX4_givesBack_30 rfl (lv_at hl 1 rfl) ?_
    refine z_add (v := nI (4 + n)) hx hb dX4_givesBack_31 (nI_add _ _) ?_
    refine lv_iconst (v := nI 0) hx hb dX4_givesBack_32 (by decide) ?_
    refine z_iast (n := 511) (f := upd (v 0) (44 + n) ((v 0 (44 + n)) - (nI 1))) (w2 := modW G a (mrow v 0 (upd (upd (v 0) (44 + n) ((v 0 (44 + n)) - (nI 1))) (4 + n) (nI 0))) y) hx hb hKK hP hD hS 1 rfl (by omega) (by decide) rfl dX4_givesBack_33 (fun H locs hP hD hS => ?_)
    refine lv_aload_n hx hb dX4_givesBack_34 rfl (lv_at hl 0 rfl) ?_
    refine va_get (D := G.1) (ci := 4) (v := .ref (a 1)) (C := RX4) (T := TX4) (N := 17) hx hb hts hinX4 hown hKK.1 hP 0 rfl rfl 0 (by decide) fl_7 (fun _ h9 => h9) rfl dX4_givesBack_35 ?_
    refine lv_bipush (v := nI 84) hx hb dX4_givesBack_38 (by decide) ?_
    refine lv_iload_n hx hb dX4_givesBack_40 rfl (lv_at hl 1 rfl) ?_
    refine z_add (v := nI (84 + n)) hx hb dX4_givesBack_41 (nI_add _ _) ?_
    refine lv_dup2_11 hx hb dX4_givesBack_42 rfl rfl ?_
    refine z_iald (n := 511) (f := upd (upd (v 0) (44 + n) ((v 0 (44 + n)) - (nI 1))) (4 + n) (nI 0)) (v := v 0 (84 + n)) hx hb hKK hP 1 rfl (by omega) (by decide) ((pk_un (by omega)).trans ((pk_un (by omega)).trans rfl)) dX4_givesBack_43 ?_
    refine lv_iconst (v := nI 1) hx hb dX4_givesBack_44 (by decide) ?_
    refine z_add (v := (v 0 (84 + n)) + (nI 1)) hx hb dX4_givesBack_45 rfl ?_
    refine z_iast (n := 511) (f := upd (upd (v 0) (44 + n) ((v 0 (44 + n)) - (nI 1))) (4 + n) (nI 0)) (w2 := modW G a (mrow v 0 (upd (upd (upd (v 0) (44 + n) ((v 0 (44 + n)) - (nI 1))) (4 + n) (nI 0)) (84 + n) ((v 0 (84 + n)) + (nI 1)))) y) hx hb hKK hP hD hS 1 rfl (by omega) (by decide) rfl dX4_givesBack_46 (fun H locs hP hD hS => ?_)
    refine lv_aload_n hx hb dX4_givesBack_47 rfl (lv_at hl 0 rfl) ?_
    refine va_get (D := G.1) (ci := 4) (v := .ref (a 1)) (C := RX4) (T := TX4) (N := 17) hx hb hts hinX4 hown hKK.1 hP 0 rfl rfl 0 (by decide) fl_7 (fun _ h9 => h9) rfl dX4_givesBack_48 ?_
    refine lv_iconst (v := nI 2) hx hb dX4_givesBack_51 (by decide) ?_
    refine lv_dup2_11 hx hb dX4_givesBack_52 rfl rfl ?_
    refine z_iald (n := 511) (f := upd (upd (upd (v 0) (44 + n) ((v 0 (44 + n)) - (nI 1))) (4 + n) (nI 0)) (84 + n) ((v 0 (84 + n)) + (nI 1))) (v := v 0 2) hx hb hKK hP 1 rfl (by omega) (by decide) ((pk_un (by omega)).trans ((pk_un (by omega)).trans ((pk_un (by omega)).trans rfl))) dX4_givesBack_53 ?_
    refine lv_iconst (v := nI 1) hx hb dX4_givesBack_54 (by decide) ?_
    refine z_add (v := (v 0 2) + (nI 1)) hx hb dX4_givesBack_55 rfl ?_
    refine z_iast (n := 511) (f := upd (upd (upd (v 0) (44 + n) ((v 0 (44 + n)) - (nI 1))) (4 + n) (nI 0)) (84 + n) ((v 0 (84 + n)) + (nI 1))) (w2 := modW G a (mrow v 0 (upd (upd (upd (upd (v 0) (44 + n) ((v 0 (44 + n)) - (nI 1))) (4 + n) (nI 0)) (84 + n) ((v 0 (84 + n)) + (nI 1))) 2 ((v 0 2) + (nI 1)))) y) hx hb hKK hP hD hS 1 rfl (by omega) (by decide) rfl dX4_givesBack_56 (fun H locs hP hD hS => ?_)
    refine lv_aload_n hx hb dX4_givesBack_57 rfl (lv_at hl 0 rfl) ?_
    refine va_get (D := G.1) (ci := 4) (v := .ref (a 1)) (C := RX4) (T := TX4) (N := 17) hx hb hts hinX4 hown hKK.1 hP 0 rfl rfl 0 (by decide) fl_7 (fun _ h9 => h9) rfl dX4_givesBack_58 ?_
    refine lv_bipush (v := nI 44) hx hb dX4_givesBack_61 (by decide) ?_
    refine lv_iload_n hx hb dX4_givesBack_63 rfl (lv_at hl 1 rfl) ?_
    refine z_add (v := nI (44 + n)) hx hb dX4_givesBack_64 (nI_add _ _) ?_
    refine z_iald (n := 511) (f := upd (upd (upd (upd (v 0) (44 + n) ((v 0 (44 + n)) - (nI 1))) (4 + n) (nI 0)) (84 + n) ((v 0 (84 + n)) + (nI 1))) 2 ((v 0 2) + (nI 1))) (v := (v 0 (44 + n)) - (nI 1)) hx hb hKK hP 1 rfl (by omega) (by decide) ((pk_un (by omega)).trans ((pk_un (by omega)).trans ((pk_un (by omega)).trans pk_us))) dX4_givesBack_65 ?_
    exact z_iret hx hb hr hlk hP hD hS dX4_givesBack_66 rfl (congrArg (fun z => modW G a z y) (by rw [mGive, if_pos c_1]))

set_option maxHeartbeats 4000000 in
set_option maxRecDepth 100000 in
theorem c_X4_canAcquire_old (l : Launch) (G : ZG) (a : Nat → Nat) (v : Mem) (y : Nat → Nat) (x : Int32) (n : Nat) (hn : n < 40) (h : zNum (rN (v 0)) x = nI n) : CI l G yX4_canAcquire wsX4_canAcquire (zRm 2 42) [.ref (a 0), .int x] (modW G a v y) (bI (decide (¬ nI 999 ≤ v 0 (44 + n)))) (modW G a v y) := by
  refine CI.ent (cc := cX4_canAcquire) (maxL := 3) (ty := .boolean) (own := RX4) (by decide) rfl rfl (Nat.le_of_ble_eq_true rfl) ?_
  intro p ee s m args below meth c A ls F hr hlk hKK hP hD hA hS hl
  obtain ⟨hx, hb, hml, hown, hts⟩ := id F
  have hl : lv_has ls 3 [(0, .ref (a 0)), (1, .int x)] := hl
  have fl_7 := hts (.fieldLink RX4 7 "NameRollsModel" "now" "[I") (by decide +kernel)
  have hinX4 : ∀ w ∈ wsX40, w ∈ wsX4_canAcquire := by decide +kernel
  refine lv_aload_n hx hb dX4_canAcquire_0 rfl (lv_at hl 0 rfl) ?_
  refine lv_iload_n hx hb dX4_canAcquire_1 rfl (lv_at hl 1 rfl) ?_
  refine z_callVI (As := [.int x]) (rest := []) (wr := []) (C := RX4) F (c_X4_numberWith l G a v y x) (cwV 1 hts gX4_canAcquire_X4_numberWith rfl rfl rfl (by decide +kernel) ⟨Nat.le_of_ble_eq_true rfl, Nat.le_of_ble_eq_true rfl⟩) hKK (z_recv hKK hP (q0 := 0) (ci := 4) rfl rfl) hP hD hS hA rfl hl.1 rfl (Nat.le_of_ble_eq_true rfl) ⟨Nat.zero_le _, Nat.zero_le _⟩ dX4_canAcquire_2 (fun H locs hP hD hS => ?_)
  have hP : va_P G.1 vwCl (modW G a v y) H := hP
  have hD : va_D A (modW G a v y) := hD
  refine z_top (v := nI n) h ?_
  refine lv_istore_n (lv' := [(2, .int (nI n)), (0, .ref (a 0)), (1, .int x)]) hx hb dX4_canAcquire_5 rfl hl (by decide) rfl (fun ls hl => ?_)
  refine lv_iload_n hx hb dX4_canAcquire_6 rfl (lv_at hl 0 rfl) ?_
  refine z_ifNlt (tgt := 33) hx hb dX4_canAcquire_7 (by decide) (by omega) (fun c_1 => absurd c_1 (Nat.not_lt_zero _)) (fun c_1 => ?_)
  refine lv_aload_n hx hb dX4_canAcquire_10 rfl (lv_at hl 1 rfl) ?_
  refine va_get (D := G.1) (ci := 4) (v := .ref (a 1)) (C := RX4) (T := TX4) (N := 17) hx hb hts hinX4 hown hKK.1 hP 0 rfl rfl 0 (by decide) fl_7 (fun _ h9 => h9) rfl dX4_canAcquire_11 ?_
  refine lv_bipush (v := nI 44) hx hb dX4_canAcquire_14 (by decide) ?_
  refine lv_iload_n hx hb dX4_canAcquire_16 rfl (lv_at hl 0 rfl) ?_
  refine z_add (v := nI (44 + n)) hx hb dX4_canAcquire_17 (nI_add _ _) ?_
  refine z_iald (n := 511) (f := v 0) (v := v 0 (44 + n)) hx hb hKK hP 1 rfl (by omega) (by decide) rfl dX4_canAcquire_18 ?_
  refine lv_sipush (v := nI 999) hx hb dX4_canAcquire_19 (by decide) ?_
  refine lv_icmp_ge (tgt := 29) hx hb dX4_canAcquire_22 (by decide) (fun c_2 => ?_) (fun c_2 => ?_)
  · skip
    refine lv_iconst (v := nI 0) hx hb dX4_canAcquire_29 (by decide) ?_
    refine lv_goto (tgt := 45) hx hb dX4_canAcquire_30 (by decide) ?_
    exact z_zret hx hb hr hlk hP hD hS dX4_canAcquire_45 (by decide) (bI_df (fun q => q c_2)) rfl
  · skip
    refine lv_iconst (v := nI 1) hx hb dX4_canAcquire_25 (by decide) ?_
    refine lv_goto (tgt := 45) hx hb dX4_canAcquire_26 (by decide) ?_
    exact z_zret hx hb hr hlk hP hD hS dX4_canAcquire_45 (by decide) (bI_dt c_2) rfl

set_option maxHeartbeats 4000000 in
set_option maxRecDepth 100000 in
theorem c_X4_canAcquire_new (l : Launch) (G : ZG) (a : Nat → Nat) (v : Mem) (y : Nat → Nat) (x : Int32) (n : Nat) (h : zNum (rN (v 0)) x = -1) (hn : n < 40) (h2 : zNum (rN (v 0)) (nI 0) = nI n) : CI l G yX4_canAcquire wsX4_canAcquire (zRm 2 42) [.ref (a 0), .int x] (modW G a v y) (bI (true)) (modW G a v y) := by
  refine CI.ent (cc := cX4_canAcquire) (maxL := 3) (ty := .boolean) (own := RX4) (by decide) rfl rfl (Nat.le_of_ble_eq_true rfl) ?_
  intro p ee s m args below meth c A ls F hr hlk hKK hP hD hA hS hl
  obtain ⟨hx, hb, hml, hown, hts⟩ := id F
  have hl : lv_has ls 3 [(0, .ref (a 0)), (1, .int x)] := hl
  refine lv_aload_n hx hb dX4_canAcquire_0 rfl (lv_at hl 0 rfl) ?_
  refine lv_iload_n hx hb dX4_canAcquire_1 rfl (lv_at hl 1 rfl) ?_
  refine z_callVI (As := [.int x]) (rest := []) (wr := []) (C := RX4) F (c_X4_numberWith l G a v y x) (cwV 1 hts gX4_canAcquire_X4_numberWith rfl rfl rfl (by decide +kernel) ⟨Nat.le_of_ble_eq_true rfl, Nat.le_of_ble_eq_true rfl⟩) hKK (z_recv hKK hP (q0 := 0) (ci := 4) rfl rfl) hP hD hS hA rfl hl.1 rfl (Nat.le_of_ble_eq_true rfl) ⟨Nat.zero_le _, Nat.zero_le _⟩ dX4_canAcquire_2 (fun H locs hP hD hS => ?_)
  have hP : va_P G.1 vwCl (modW G a v y) H := hP
  have hD : va_D A (modW G a v y) := hD
  refine z_top (v := (-1)) h ?_
  refine lv_istore_n (lv' := [(2, .int ((-1))), (0, .ref (a 0)), (1, .int x)]) hx hb dX4_canAcquire_5 rfl hl (by decide) rfl (fun ls hl => ?_)
  refine lv_iload_n hx hb dX4_canAcquire_6 rfl (lv_at hl 0 rfl) ?_
  refine lv_if_lt (tgt := 33) hx hb dX4_canAcquire_7 (by decide) (fun c_1 => ?_) (fun c_1 => absurd (by decide) c_1)
  refine lv_aload_n hx hb dX4_canAcquire_33 rfl (lv_at hl 1 rfl) ?_
  refine z_callVI (As := []) (rest := []) (wr := []) (C := RX4) F (c_X4_freeNumber l G a v y) (cwV 0 hts gX4_canAcquire_X4_freeNumber rfl rfl rfl (by decide +kernel) ⟨Nat.le_of_ble_eq_true rfl, Nat.le_of_ble_eq_true rfl⟩) hKK (z_recv hKK hP (q0 := 0) (ci := 4) rfl rfl) hP hD hS hA rfl hl.1 rfl (Nat.le_of_ble_eq_true rfl) ⟨Nat.zero_le _, Nat.zero_le _⟩ dX4_canAcquire_34 (fun H locs hP hD hS => ?_)
  have hP : va_P G.1 vwCl (modW G a v y) H := hP
  have hD : va_D A (modW G a v y) := hD
  refine z_top (v := nI n) h2 ?_
  refine z_ifNlt (tgt := 44) hx hb dX4_canAcquire_37 (by decide) (by omega) (fun c_2 => absurd c_2 (Nat.not_lt_zero _)) (fun c_2 => ?_)
  refine lv_iconst (v := nI 1) hx hb dX4_canAcquire_40 (by decide) ?_
  refine lv_goto (tgt := 45) hx hb dX4_canAcquire_41 (by decide) ?_
  exact z_zret hx hb hr hlk hP hD hS dX4_canAcquire_45 (by decide) rfl rfl

set_option maxHeartbeats 4000000 in
set_option maxRecDepth 100000 in
theorem c_X4_canAcquire_no (l : Launch) (G : ZG) (a : Nat → Nat) (v : Mem) (y : Nat → Nat) (x : Int32) (h : zNum (rN (v 0)) x = -1) (h2 : zNum (rN (v 0)) (nI 0) = -1) : CI l G yX4_canAcquire wsX4_canAcquire (zRm 2 42) [.ref (a 0), .int x] (modW G a v y) (bI (false)) (modW G a v y) := by
  refine CI.ent (cc := cX4_canAcquire) (maxL := 3) (ty := .boolean) (own := RX4) (by decide) rfl rfl (Nat.le_of_ble_eq_true rfl) ?_
  intro p ee s m args below meth c A ls F hr hlk hKK hP hD hA hS hl
  obtain ⟨hx, hb, hml, hown, hts⟩ := id F
  have hl : lv_has ls 3 [(0, .ref (a 0)), (1, .int x)] := hl
  refine lv_aload_n hx hb dX4_canAcquire_0 rfl (lv_at hl 0 rfl) ?_
  refine lv_iload_n hx hb dX4_canAcquire_1 rfl (lv_at hl 1 rfl) ?_
  refine z_callVI (As := [.int x]) (rest := []) (wr := []) (C := RX4) F (c_X4_numberWith l G a v y x) (cwV 1 hts gX4_canAcquire_X4_numberWith rfl rfl rfl (by decide +kernel) ⟨Nat.le_of_ble_eq_true rfl, Nat.le_of_ble_eq_true rfl⟩) hKK (z_recv hKK hP (q0 := 0) (ci := 4) rfl rfl) hP hD hS hA rfl hl.1 rfl (Nat.le_of_ble_eq_true rfl) ⟨Nat.zero_le _, Nat.zero_le _⟩ dX4_canAcquire_2 (fun H locs hP hD hS => ?_)
  have hP : va_P G.1 vwCl (modW G a v y) H := hP
  have hD : va_D A (modW G a v y) := hD
  refine z_top (v := (-1)) h ?_
  refine lv_istore_n (lv' := [(2, .int ((-1))), (0, .ref (a 0)), (1, .int x)]) hx hb dX4_canAcquire_5 rfl hl (by decide) rfl (fun ls hl => ?_)
  refine lv_iload_n hx hb dX4_canAcquire_6 rfl (lv_at hl 0 rfl) ?_
  refine lv_if_lt (tgt := 33) hx hb dX4_canAcquire_7 (by decide) (fun c_1 => ?_) (fun c_1 => absurd (by decide) c_1)
  refine lv_aload_n hx hb dX4_canAcquire_33 rfl (lv_at hl 1 rfl) ?_
  refine z_callVI (As := []) (rest := []) (wr := []) (C := RX4) F (c_X4_freeNumber l G a v y) (cwV 0 hts gX4_canAcquire_X4_freeNumber rfl rfl rfl (by decide +kernel) ⟨Nat.le_of_ble_eq_true rfl, Nat.le_of_ble_eq_true rfl⟩) hKK (z_recv hKK hP (q0 := 0) (ci := 4) rfl rfl) hP hD hS hA rfl hl.1 rfl (Nat.le_of_ble_eq_true rfl) ⟨Nat.zero_le _, Nat.zero_le _⟩ dX4_canAcquire_34 (fun H locs hP hD hS => ?_)
  have hP : va_P G.1 vwCl (modW G a v y) H := hP
  have hD : va_D A (modW G a v y) := hD
  refine z_top (v := (-1)) h2 ?_
  refine lv_if_lt (tgt := 44) hx hb dX4_canAcquire_37 (by decide) (fun c_2 => ?_) (fun c_2 => absurd (by decide) c_2)
  refine lv_iconst (v := nI 0) hx hb dX4_canAcquire_44 (by decide) ?_
  exact z_zret hx hb hr hlk hP hD hS dX4_canAcquire_45 (by decide) rfl rfl

set_option maxHeartbeats 4000000 in
set_option maxRecDepth 100000 in
theorem c_X4_acquires_old (l : Launch) (G : ZG) (a : Nat → Nat) (v : Mem) (y : Nat → Nat) (x : Int32) (n : Nat) (hn : n < 40) (h : zNum (rN (v 0)) x = nI n) : CI l G yX4_acquires wsX4_acquires (zRm 2 42) [.ref (a 0), .int x] (modW G a v y) (mTag (mEntO (v 0) n) n) (modW G a (mrow v 0 (mEntO (v 0) n)) y) := by
  refine CI.ent (cc := cX4_acquires) (maxL := 3) (ty := .int) (own := RX4) (by decide) rfl rfl (Nat.le_of_ble_eq_true rfl) ?_
  intro p ee s m args below meth c A ls F hr hlk hKK hP hD hA hS hl
  obtain ⟨hx, hb, hml, hown, hts⟩ := id F
  have hl : lv_has ls 3 [(0, .ref (a 0)), (1, .int x)] := hl
  have fl_7 := hts (.fieldLink RX4 7 "NameRollsModel" "now" "[I") (by decide +kernel)
  have hinX4 : ∀ w ∈ wsX40, w ∈ wsX4_acquires := by decide +kernel
  refine lv_aload_n hx hb dX4_acquires_0 rfl (lv_at hl 0 rfl) ?_
  refine lv_iload_n hx hb dX4_acquires_1 rfl (lv_at hl 1 rfl) ?_
  refine z_callVI (As := [.int x]) (rest := []) (wr := []) (C := RX4) F (c_X4_numberWith l G a v y x) (cwV 1 hts gX4_acquires_X4_numberWith rfl rfl rfl (by decide +kernel) ⟨Nat.le_of_ble_eq_true rfl, Nat.le_of_ble_eq_true rfl⟩) hKK (z_recv hKK hP (q0 := 0) (ci := 4) rfl rfl) hP hD hS hA rfl hl.1 rfl (Nat.le_of_ble_eq_true rfl) ⟨Nat.zero_le _, Nat.zero_le _⟩ dX4_acquires_2 (fun H locs hP hD hS => ?_)
  have hP : va_P G.1 vwCl (modW G a v y) H := hP
  have hD : va_D A (modW G a v y) := hD
  refine z_top (v := nI n) h ?_
  refine lv_istore_n (lv' := [(2, .int (nI n)), (0, .ref (a 0)), (1, .int x)]) hx hb dX4_acquires_5 rfl hl (by decide) rfl (fun ls hl => ?_)
  refine lv_iload_n hx hb dX4_acquires_6 rfl (lv_at hl 0 rfl) ?_
  refine z_ifNge (tgt := 44) hx hb dX4_acquires_7 (by decide) (by omega) (fun c_1 => ?_) (fun c_1 => absurd c_1 (Nat.not_lt_zero _))
  refine lv_aload_n hx hb dX4_acquires_44 rfl (lv_at hl 1 rfl) ?_
  refine va_get (D := G.1) (ci := 4) (v := .ref (a 1)) (C := RX4) (T := TX4) (N := 17) hx hb hts hinX4 hown hKK.1 hP 0 rfl rfl 0 (by decide) fl_7 (fun _ h9 => h9) rfl dX4_acquires_45 ?_
  refine lv_bipush (v := nI 44) hx hb dX4_acquires_48 (by decide) ?_
  refine lv_iload_n hx hb dX4_acquires_50 rfl (lv_at hl 0 rfl) ?_
  refine z_add (v := nI (44 + n)) hx hb dX4_acquires_51 (nI_add _ _) ?_
  refine lv_dup2_11 hx hb dX4_acquires_52 rfl rfl ?_
  refine z_iald (n := 511) (f := v 0) (v := v 0 (44 + n)) hx hb hKK hP 1 rfl (by omega) (by decide) rfl dX4_acquires_53 ?_
  refine lv_iconst (v := nI 1) hx hb dX4_acquires_54 (by decide) ?_
  refine z_add (v := (v 0 (44 + n)) + (nI 1)) hx hb dX4_acquires_55 rfl ?_
  refine z_iast (n := 511) (f := v 0) (w2 := modW G a (mrow v 0 (upd (v 0) (44 + n) ((v 0 (44 + n)) + (nI 1)))) y) hx hb hKK hP hD hS 1 rfl (by omega) (by decide) rfl dX4_acquires_56 (fun H locs hP hD hS => ?_)
  refine lv_aload_n hx hb dX4_acquires_57 rfl (lv_at hl 1 rfl) ?_
  refine lv_iload_n hx hb dX4_acquires_58 rfl (lv_at hl 0 rfl) ?_
  refine z_callVI (As := [.int (nI n)]) (rest := []) (wr := []) (C := RX4) F (c_X4_tagOf l G a (mrow v 0 (upd (v 0) (44 + n) ((v 0 (44 + n)) + (nI 1)))) y (n) (by omega)) (cwV 1 hts gX4_acquires_X4_tagOf rfl rfl rfl (by decide +kernel) ⟨Nat.le_of_ble_eq_true rfl, Nat.le_of_ble_eq_true rfl⟩) hKK (z_recv hKK hP (q0 := 0) (ci := 4) rfl rfl) hP hD hS hA rfl hl.1 rfl (Nat.le_of_ble_eq_true rfl) ⟨Nat.zero_le _, Nat.zero_le _⟩ dX4_acquires_59 (fun H locs hP hD hS => ?_)
  have hP : va_P G.1 vwCl (modW G a (mrow v 0 (upd (v 0) (44 + n) ((v 0 (44 + n)) + (nI 1)))) y) H := hP
  have hD : va_D A (modW G a (mrow v 0 (upd (v 0) (44 + n) ((v 0 (44 + n)) + (nI 1)))) y) := hD
  exact z_iret hx hb hr hlk hP hD hS dX4_acquires_62 rfl rfl

set_option maxHeartbeats 4000000 in
set_option maxRecDepth 100000 in
theorem c_X4_acquires_new (l : Launch) (G : ZG) (a : Nat → Nat) (v : Mem) (y : Nat → Nat) (x : Int32) (n : Nat) (h : zNum (rN (v 0)) x = -1) (hn : n < 40) (h2 : zNum (rN (v 0)) (nI 0) = nI n) : CI l G yX4_acquires wsX4_acquires (zRm 2 42) [.ref (a 0), .int x] (modW G a v y) (mTag (mEntN (v 0) n x) n) (modW G a (mrow v 0 (mEntN (v 0) n x)) y) := by
  refine CI.ent (cc := cX4_acquires) (maxL := 3) (ty := .int) (own := RX4) (by decide) rfl rfl (Nat.le_of_ble_eq_true rfl) ?_
  intro p ee s m args below meth c A ls F hr hlk hKK hP hD hA hS hl
  obtain ⟨hx, hb, hml, hown, hts⟩ := id F
  have hl : lv_has ls 3 [(0, .ref (a 0)), (1, .int x)] := hl
  have fl_7 := hts (.fieldLink RX4 7 "NameRollsModel" "now" "[I") (by decide +kernel)
  have hinX4 : ∀ w ∈ wsX40, w ∈ wsX4_acquires := by decide +kernel
  refine lv_aload_n hx hb dX4_acquires_0 rfl (lv_at hl 0 rfl) ?_
  refine lv_iload_n hx hb dX4_acquires_1 rfl (lv_at hl 1 rfl) ?_
  refine z_callVI (As := [.int x]) (rest := []) (wr := []) (C := RX4) F (c_X4_numberWith l G a v y x) (cwV 1 hts gX4_acquires_X4_numberWith rfl rfl rfl (by decide +kernel) ⟨Nat.le_of_ble_eq_true rfl, Nat.le_of_ble_eq_true rfl⟩) hKK (z_recv hKK hP (q0 := 0) (ci := 4) rfl rfl) hP hD hS hA rfl hl.1 rfl (Nat.le_of_ble_eq_true rfl) ⟨Nat.zero_le _, Nat.zero_le _⟩ dX4_acquires_2 (fun H locs hP hD hS => ?_)
  have hP : va_P G.1 vwCl (modW G a v y) H := hP
  have hD : va_D A (modW G a v y) := hD
  refine z_top (v := (-1)) h ?_
  refine lv_istore_n (lv' := [(2, .int ((-1))), (0, .ref (a 0)), (1, .int x)]) hx hb dX4_acquires_5 rfl hl (by decide) rfl (fun ls hl => ?_)
  refine lv_iload_n hx hb dX4_acquires_6 rfl (lv_at hl 0 rfl) ?_
  refine lv_if_ge (tgt := 44) hx hb dX4_acquires_7 (by decide) (fun c_1 => absurd c_1 (by decide)) (fun c_1 => ?_)
  refine lv_aload_n hx hb dX4_acquires_10 rfl (lv_at hl 1 rfl) ?_
  refine z_callVI (As := []) (rest := []) (wr := []) (C := RX4) F (c_X4_freeNumber l G a v y) (cwV 0 hts gX4_acquires_X4_freeNumber rfl rfl rfl (by decide +kernel) ⟨Nat.le_of_ble_eq_true rfl, Nat.le_of_ble_eq_true rfl⟩) hKK (z_recv hKK hP (q0 := 0) (ci := 4) rfl rfl) hP hD hS hA rfl hl.1 rfl (Nat.le_of_ble_eq_true rfl) ⟨Nat.zero_le _, Nat.zero_le _⟩ dX4_acquires_11 (fun H locs hP hD hS => ?_)
  have hP : va_P G.1 vwCl (modW G a v y) H := hP
  have hD : va_D A (modW G a v y) := hD
  refine z_top (v := nI n) h2 ?_
  refine lv_istore_n (lv' := [(2, .int (nI n)), (0, .ref (a 0)), (1, .int x)]) hx hb dX4_acquires_14 rfl hl (by decide) rfl (fun ls hl => ?_)
  refine lv_aload_n hx hb dX4_acquires_15 rfl (lv_at hl 1 rfl) ?_
  refine va_get (D := G.1) (ci := 4) (v := .ref (a 1)) (C := RX4) (T := TX4) (N := 17) hx hb hts hinX4 hown hKK.1 hP 0 rfl rfl 0 (by decide) fl_7 (fun _ h9 => h9) rfl dX4_acquires_16 ?_
  refine lv_iconst (v := nI 4) hx hb dX4_acquires_19 (by decide) ?_
  refine lv_iload_n hx hb dX4_acquires_20 rfl (lv_at hl 0 rfl) ?_
  refine z_add (v := nI (4 + n)) hx hb dX4_acquires_21 (nI_add _ _) ?_
  refine lv_iload_n hx hb dX4_acquires_22 rfl (lv_at hl 2 rfl) ?_
  refine z_iast (n := 511) (f := v 0) (w2 := modW G a (mrow v 0 (upd (v 0) (4 + n) x)) y) hx hb hKK hP hD hS 1 rfl (by omega) (by decide) rfl dX4_acquires_23 (fun H locs hP hD hS => ?_)
  refine lv_aload_n hx hb dX4_acquires_24 rfl (lv_at hl 1 rfl) ?_
  refine va_get (D := G.1) (ci := 4) (v := .ref (a 1)) (C := RX4) (T := TX4) (N := 17) hx hb hts hinX4 hown hKK.1 hP 0 rfl rfl 0 (by decide) fl_7 (fun _ h9 => h9) rfl dX4_acquires_25 ?_
  refine lv_bipush (v := nI 44) hx hb dX4_acquires_28 (by decide) ?_
  refine lv_iload_n hx hb dX4_acquires_30 rfl (lv_at hl 0 rfl) ?_
  refine z_add (v := nI (44 + n)) hx hb dX4_acquires_31 (nI_add _ _) ?_
  refine lv_iconst (v := nI 0) hx hb dX4_acquires_32 (by decide) ?_
  refine z_iast (n := 511) (f := upd (v 0) (4 + n) x) (w2 := modW G a (mrow v 0 (upd (upd (v 0) (4 + n) x) (44 + n) (nI 0))) y) hx hb hKK hP hD hS 1 rfl (by omega) (by decide) rfl dX4_acquires_33 (fun H locs hP hD hS => ?_)
  refine lv_aload_n hx hb dX4_acquires_34 rfl (lv_at hl 1 rfl) ?_
  refine va_get (D := G.1) (ci := 4) (v := .ref (a 1)) (C := RX4) (T := TX4) (N := 17) hx hb hts hinX4 hown hKK.1 hP 0 rfl rfl 0 (by decide) fl_7 (fun _ h9 => h9) rfl dX4_acquires_35 ?_
  refine lv_iconst (v := nI 1) hx hb dX4_acquires_38 (by decide) ?_
  refine lv_dup2_11 hx hb dX4_acquires_39 rfl rfl ?_
  refine z_iald (n := 511) (f := upd (upd (v 0) (4 + n) x) (44 + n) (nI 0)) (v := v 0 1) hx hb hKK hP 1 rfl (by omega) (by decide) ((pk_un (by omega)).trans ((pk_un (by omega)).trans rfl)) dX4_acquires_40 ?_
  refine lv_iconst (v := nI 1) hx hb dX4_acquires_41 (by decide) ?_
  refine z_add (v := (v 0 1) + (nI 1)) hx hb dX4_acquires_42 rfl ?_
  refine z_iast (n := 511) (f := upd (upd (v 0) (4 + n) x) (44 + n) (nI 0)) (w2 := modW G a (mrow v 0 (upd (upd (upd (v 0) (4 + n) x) (44 + n) (nI 0)) 1 ((v 0 1) + (nI 1)))) y) hx hb hKK hP hD hS 1 rfl (by omega) (by decide) rfl dX4_acquires_43 (fun H locs hP hD hS => ?_)
  refine lv_aload_n hx hb dX4_acquires_44 rfl (lv_at hl 1 rfl) ?_
  refine va_get (D := G.1) (ci := 4) (v := .ref (a 1)) (C := RX4) (T := TX4) (N := 17) hx hb hts hinX4 hown hKK.1 hP 0 rfl rfl 0 (by decide) fl_7 (fun _ h9 => h9) rfl dX4_acquires_45 ?_
  refine lv_bipush (v := nI 44) hx hb dX4_acquires_48 (by decide) ?_
  refine lv_iload_n hx hb dX4_acquires_50 rfl (lv_at hl 0 rfl) ?_
  refine z_add (v := nI (44 + n)) hx hb dX4_acquires_51 (nI_add _ _) ?_
  refine lv_dup2_11 hx hb dX4_acquires_52 rfl rfl ?_
  refine z_iald (n := 511) (f := upd (upd (upd (v 0) (4 + n) x) (44 + n) (nI 0)) 1 ((v 0 1) + (nI 1))) (v := nI 0) hx hb hKK hP 1 rfl (by omega) (by decide) ((pk_un (by omega)).trans pk_us) dX4_acquires_53 ?_
  refine lv_iconst (v := nI 1) hx hb dX4_acquires_54 (by decide) ?_
  refine z_add (v := (nI 0) + (nI 1)) hx hb dX4_acquires_55 rfl ?_
  refine z_iast (n := 511) (f := upd (upd (upd (v 0) (4 + n) x) (44 + n) (nI 0)) 1 ((v 0 1) + (nI 1))) (w2 := modW G a (mrow v 0 (upd (upd (upd (upd (v 0) (4 + n) x) (44 + n) (nI 0)) 1 ((v 0 1) + (nI 1))) (44 + n) ((nI 0) + (nI 1)))) y) hx hb hKK hP hD hS 1 rfl (by omega) (by decide) rfl dX4_acquires_56 (fun H locs hP hD hS => ?_)
  refine lv_aload_n hx hb dX4_acquires_57 rfl (lv_at hl 1 rfl) ?_
  refine lv_iload_n hx hb dX4_acquires_58 rfl (lv_at hl 0 rfl) ?_
  refine z_callVI (As := [.int (nI n)]) (rest := []) (wr := []) (C := RX4) F (c_X4_tagOf l G a (mrow v 0 (upd (upd (upd (upd (v 0) (4 + n) x) (44 + n) (nI 0)) 1 ((v 0 1) + (nI 1))) (44 + n) ((nI 0) + (nI 1)))) y (n) (by omega)) (cwV 1 hts gX4_acquires_X4_tagOf rfl rfl rfl (by decide +kernel) ⟨Nat.le_of_ble_eq_true rfl, Nat.le_of_ble_eq_true rfl⟩) hKK (z_recv hKK hP (q0 := 0) (ci := 4) rfl rfl) hP hD hS hA rfl hl.1 rfl (Nat.le_of_ble_eq_true rfl) ⟨Nat.zero_le _, Nat.zero_le _⟩ dX4_acquires_59 (fun H locs hP hD hS => ?_)
  have hP : va_P G.1 vwCl (modW G a (mrow v 0 (upd (upd (upd (upd (v 0) (4 + n) x) (44 + n) (nI 0)) 1 ((v 0 1) + (nI 1))) (44 + n) ((nI 0) + (nI 1)))) y) H := hP
  have hD : va_D A (modW G a (mrow v 0 (upd (upd (upd (upd (v 0) (4 + n) x) (44 + n) (nI 0)) 1 ((v 0 1) + (nI 1))) (44 + n) ((nI 0) + (nI 1)))) y) := hD
  exact z_iret hx hb hr hlk hP hD hS dX4_acquires_62 rfl rfl

set_option maxHeartbeats 4000000 in
set_option maxRecDepth 100000 in
theorem c_X4_kept (l : Launch) (G : ZG) (a : Nat → Nat) (v : Mem) (y : Nat → Nat) (e : Nat) (hm : v 0 3 = nI e) (he2 : e ≤ 999) : CI l G yX4_kept wsX4_kept (zRm 0 0) [.ref (a 0)] (modW G a v y) (nI (min e 3)) (modW G a v y) := by
  refine CI.ent (cc := cX4_kept) (maxL := 1) (ty := .int) (own := RX4) (by decide) rfl rfl (Nat.le_of_ble_eq_true rfl) ?_
  intro p ee s m args below meth c A ls F hr hlk hKK hP hD hA hS hl
  obtain ⟨hx, hb, hml, hown, hts⟩ := id F
  have hl : lv_has ls 1 [(0, .ref (a 0))] := hl
  have fl_7 := hts (.fieldLink RX4 7 "NameRollsModel" "now" "[I") (by decide +kernel)
  have hinX4 : ∀ w ∈ wsX40, w ∈ wsX4_kept := by decide +kernel
  refine lv_aload_n hx hb dX4_kept_0 rfl (lv_at hl 0 rfl) ?_
  refine va_get (D := G.1) (ci := 4) (v := .ref (a 1)) (C := RX4) (T := TX4) (N := 17) hx hb hts hinX4 hown hKK.1 hP 0 rfl rfl 0 (by decide) fl_7 (fun _ h9 => h9) rfl dX4_kept_1 ?_
  refine lv_iconst (v := nI 3) hx hb dX4_kept_4 (by decide) ?_
  refine z_iald (n := 511) (f := v 0) (v := v 0 3) hx hb hKK hP 1 rfl (by omega) (by decide) rfl dX4_kept_5 ?_
  refine z_top (v := nI e) hm ?_
  refine lv_iconst (v := nI 3) hx hb dX4_kept_6 (by decide) ?_
  refine z_ge (tgt := 19) hx hb dX4_kept_7 (by decide) (by omega) (by omega) (fun c_1 => ?_) (fun c_1 => ?_)
  · skip
    refine lv_iconst (v := nI 3) hx hb dX4_kept_19 (by decide) ?_
    exact z_iret hx hb hr hlk hP hD hS dX4_kept_20 (by rw [show min e 3 = 3 by omega]) rfl
  · skip
    refine lv_aload_n hx hb dX4_kept_10 rfl (lv_at hl 0 rfl) ?_
    refine va_get (D := G.1) (ci := 4) (v := .ref (a 1)) (C := RX4) (T := TX4) (N := 17) hx hb hts hinX4 hown hKK.1 hP 0 rfl rfl 0 (by decide) fl_7 (fun _ h9 => h9) rfl dX4_kept_11 ?_
    refine lv_iconst (v := nI 3) hx hb dX4_kept_14 (by decide) ?_
    refine z_iald (n := 511) (f := v 0) (v := v 0 3) hx hb hKK hP 1 rfl (by omega) (by decide) rfl dX4_kept_15 ?_
    refine z_top (v := nI e) hm ?_
    refine lv_goto (tgt := 20) hx hb dX4_kept_16 (by decide) ?_
    exact z_iret hx hb hr hlk hP hD hS dX4_kept_20 (by rw [show min e 3 = e by omega]) rfl

set_option maxHeartbeats 4000000 in
set_option maxRecDepth 100000 in
theorem c_X4_ofCompaction (l : Launch) (G : ZG) (a : Nat → Nat) (v : Mem) (y : Nat → Nat) (i w : Nat) (hi : i < 3) (hw : w < 123) : CI l G yX4_ofCompaction wsX4_ofCompaction (zRm 0 0) [.ref (a 0), .int (nI i), .int (nI w)] (modW G a v y) (v 0 (142 + 123 * i + w)) (modW G a v y) := by
  refine CI.ent (cc := cX4_ofCompaction) (maxL := 3) (ty := .int) (own := RX4) (by decide) rfl rfl (Nat.le_of_ble_eq_true rfl) ?_
  intro p ee s m args below meth c A ls F hr hlk hKK hP hD hA hS hl
  obtain ⟨hx, hb, hml, hown, hts⟩ := id F
  have hl : lv_has ls 3 [(0, .ref (a 0)), (1, .int (nI i)), (2, .int (nI w))] := hl
  have fl_7 := hts (.fieldLink RX4 7 "NameRollsModel" "now" "[I") (by decide +kernel)
  have hinX4 : ∀ w ∈ wsX40, w ∈ wsX4_ofCompaction := by decide +kernel
  refine lv_aload_n hx hb dX4_ofCompaction_0 rfl (lv_at hl 0 rfl) ?_
  refine va_get (D := G.1) (ci := 4) (v := .ref (a 1)) (C := RX4) (T := TX4) (N := 17) hx hb hts hinX4 hown hKK.1 hP 0 rfl rfl 0 (by decide) fl_7 (fun _ h9 => h9) rfl dX4_ofCompaction_1 ?_
  refine lv_sipush (v := nI 142) hx hb dX4_ofCompaction_4 (by decide) ?_
  refine lv_bipush (v := nI 123) hx hb dX4_ofCompaction_7 (by decide) ?_
  refine lv_iload_n hx hb dX4_ofCompaction_9 rfl (lv_at hl 1 rfl) ?_
  refine z_mul (v := nI (123 * i)) hx hb dX4_ofCompaction_10 (pk_mul _ _) ?_
  refine z_add (v := nI (142 + (123 * i))) hx hb dX4_ofCompaction_11 (nI_add _ _) ?_
  refine lv_iload_n hx hb dX4_ofCompaction_12 rfl (lv_at hl 2 rfl) ?_
  refine z_add (v := nI ((142 + (123 * i)) + w)) hx hb dX4_ofCompaction_13 (nI_add _ _) ?_
  refine z_iald (n := 511) (f := v 0) (v := v 0 ((142 + (123 * i)) + w)) hx hb hKK hP 1 rfl (by omega) (by decide) rfl dX4_ofCompaction_14 ?_
  exact z_iret hx hb hr hlk hP hD hS dX4_ofCompaction_15 rfl rfl
