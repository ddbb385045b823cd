set_option maxHeartbeats 4000000 in
set_option maxRecDepth 100000 in
theorem c_X3_isBelow (l : Launch) (G : ZG) (x : Int32) (b : Nat) (hb1 : b < 2 ^ 31) : CI l G yX3_isBelow wsX3_isBelow (zRm 0 0) [.int x, .int (nI b)] ([]) (bI (zBel x b)) ([]) := by
  refine CI.ent (cc := cX3_isBelow) (maxL := 2) (ty := .boolean) (own := RX3) (by decide) rfl rfl (Nat.le_of_ble_eq_true rfl) ?_
  intro p ee s m args below meth c A ls F hr hlk hKK hP hD hA hS hl
  obtain ⟨hx, hb, hml, hown, hts⟩ := id F
  have hl : lv_has ls 2 [(0, .int x), (1, .int (nI b))] := hl
  refine lv_iload_n hx hb dX3_isBelow_0 rfl (lv_at hl 0 rfl) ?_
  refine lv_if_lt (tgt := 13) hx hb dX3_isBelow_1 (by decide) (fun c_1 => ?_) (fun c_1 => ?_)
  · skip
    refine lv_iconst (v := nI 0) hx hb dX3_isBelow_13 (by decide) ?_
    exact z_zret hx hb hr hlk hP hD hS dX3_isBelow_14 (by decide) (by rw [zBel_neg c_1]; rfl) rfl
  · skip
    refine lv_iload_n hx hb dX3_isBelow_4 rfl (lv_at hl 0 rfl) ?_
    refine lv_iload_n hx hb dX3_isBelow_5 rfl (lv_at hl 1 rfl) ?_
    refine lv_icmp_ge (tgt := 13) hx hb dX3_isBelow_6 (by decide) (fun c_2 => ?_) (fun c_2 => ?_)
    · skip
      refine lv_iconst (v := nI 0) hx hb dX3_isBelow_13 (by decide) ?_
      exact z_zret hx hb hr hlk hP hD hS dX3_isBelow_14 (by decide) (by rw [zBel_ge c_2]; rfl) rfl
    · skip
      refine lv_iconst (v := nI 1) hx hb dX3_isBelow_9 (by decide) ?_
      refine lv_goto (tgt := 14) hx hb dX3_isBelow_10 (by decide) ?_
      exact z_zret hx hb hr hlk hP hD hS dX3_isBelow_14 (by decide) (by rw [zBel_t c_1 c_2]; rfl) rfl

theorem c_X3_isBelow_N (l : Launch) (G : ZG) (x b : Nat) (ha : x < 2 ^ 31) (hb : b < 2 ^ 31) : CI l G yX3_isBelow wsX3_isBelow (zRm 0 0) [.int (nI x), .int (nI b)] ([]) (bI (decide (x < b))) ([]) := by
  have h := c_X3_isBelow l G (nI x) b hb
  rw [zBel_N ha hb] at h
  exact h

set_option maxHeartbeats 4000000 in
set_option maxRecDepth 100000 in
theorem c_X3_cellIndex (l : Launch) (G : ZG) (x y : Nat)  : CI l G yX3_cellIndex wsX3_cellIndex (zRm 0 0) [.int (nI x), .int (nI y)] ([]) (nI (x * 6 + y)) ([]) := by
  refine CI.ent (cc := cX3_cellIndex) (maxL := 2) (ty := .int) (own := RX3) (by decide) rfl rfl (Nat.le_of_ble_eq_true rfl) ?_
  intro p ee s m args below meth c A ls F hr hlk hKK hP hD hA hS hl
  obtain ⟨hx, hb, hml, hown, hts⟩ := id F
  have hl : lv_has ls 2 [(0, .int (nI x)), (1, .int (nI y))] := hl
  refine lv_iload_n hx hb dX3_cellIndex_0 rfl (lv_at hl 0 rfl) ?_
  refine lv_bipush (v := nI 6) hx hb dX3_cellIndex_1 (by decide) ?_
  refine z_mul (v := nI (x * 6)) hx hb dX3_cellIndex_3 (pk_mul _ _) ?_
  refine lv_iload_n hx hb dX3_cellIndex_4 rfl (lv_at hl 1 rfl) ?_
  refine z_add (v := nI ((x * 6) + y)) hx hb dX3_cellIndex_5 (nI_add _ _) ?_
  exact z_iret hx hb hr hlk hP hD hS dX3_cellIndex_6 rfl rfl

set_option maxHeartbeats 4000000 in
set_option maxRecDepth 100000 in
theorem c_X3_isCell (l : Launch) (G : ZG) (x y : Int32)  : CI l G yX3_isCell wsX3_isCell (zRm 1 21) [.int x, .int y] ([]) (bI ((zBel x 3 && zBel y 6))) ([]) := by
  refine CI.ent (cc := cX3_isCell) (maxL := 2) (ty := .boolean) (own := RX3) (by decide) rfl rfl (Nat.le_of_ble_eq_true rfl) ?_
  intro p ee s m args below meth c A ls F hr hlk hKK hP hD hA hS hl
  obtain ⟨hx, hb, hml, hown, hts⟩ := id F
  have hl : lv_has ls 2 [(0, .int x), (1, .int y)] := hl
  refine lv_iload_n hx hb dX3_isCell_0 rfl (lv_at hl 0 rfl) ?_
  refine lv_iconst (v := nI 3) hx hb dX3_isCell_1 (by decide) ?_
  refine z_callSI (As := [.int x, .int (nI 3)]) (rest := []) F (c_X3_isBelow l G x (3) (by omega)) (va_cwS 2 hts gX3_isCell_X3_isBelow rfl rfl rfl (by decide +kernel) ⟨Nat.le_of_ble_eq_true rfl, Nat.le_of_ble_eq_true rfl⟩) hKK hP hD hS hA rfl hl.1 rfl (Nat.le_of_ble_eq_true rfl) ⟨Nat.zero_le _, Nat.zero_le _⟩ dX3_isCell_2 (fun H locs hP hD hS => ?_)
  refine z_ifBeq (tgt := 21) hx hb dX3_isCell_5 (by decide) (fun c_1 => ?_) (fun c_1 => ?_)
  · skip
    refine lv_iconst (v := nI 0) hx hb dX3_isCell_21 (by decide) ?_
    exact z_zret hx hb hr hlk hP hD hS dX3_isCell_22 (by decide) (by simp [c_1]; rfl) rfl
  · skip
    refine lv_iload_n hx hb dX3_isCell_8 rfl (lv_at hl 1 rfl) ?_
    refine lv_bipush (v := nI 6) hx hb dX3_isCell_9 (by decide) ?_
    refine z_callSI (As := [.int y, .int (nI 6)]) (rest := []) F (c_X3_isBelow l G y (6) (by omega)) (va_cwS 2 hts gX3_isCell_X3_isBelow rfl rfl rfl (by decide +kernel) ⟨Nat.le_of_ble_eq_true rfl, Nat.le_of_ble_eq_true rfl⟩) hKK hP hD hS hA rfl hl.1 rfl (Nat.le_of_ble_eq_true rfl) ⟨Nat.zero_le _, Nat.zero_le _⟩ dX3_isCell_11 (fun H locs hP hD hS => ?_)
    refine z_ifBeq (tgt := 21) hx hb dX3_isCell_14 (by decide) (fun c_2 => ?_) (fun c_2 => ?_)
    · skip
      refine lv_iconst (v := nI 0) hx hb dX3_isCell_21 (by decide) ?_
      exact z_zret hx hb hr hlk hP hD hS dX3_isCell_22 (by decide) (by simp [c_1, c_2]; rfl) rfl
    · skip
      refine lv_iconst (v := nI 1) hx hb dX3_isCell_17 (by decide) ?_
      refine lv_goto (tgt := 22) hx hb dX3_isCell_18 (by decide) ?_
      exact z_zret hx hb hr hlk hP hD hS dX3_isCell_22 (by decide) (by simp [c_1, c_2]; rfl) rfl

set_option maxHeartbeats 4000000 in
set_option maxRecDepth 100000 in
theorem c_X3_isName (l : Launch) (G : ZG) (x : Int32)  : CI l G yX3_isName wsX3_isName (zRm 0 0) [.int x] ([]) (bI (zName x)) ([]) := by
  refine CI.ent (cc := cX3_isName) (maxL := 3) (ty := .boolean) (own := RX3) (by decide) rfl rfl (Nat.le_of_ble_eq_true rfl) ?_
  intro p ee s m args below meth c A ls F hr hlk hKK hP hD hA hS hl
  obtain ⟨hx, hb, hml, hown, hts⟩ := id F
  have hl : lv_has ls 3 [(0, .int x)] := hl
  have ct_193 := hts (.constant RX3 193 (387420488)) (by decide +kernel)
  refine lv_iload_n hx hb dX3_isName_0 rfl (lv_at hl 0 rfl) ?_
  refine lv_iconst (v := nI 1) hx hb dX3_isName_1 (by decide) ?_
  refine lv_icmp_lt (tgt := 11) hx hb dX3_isName_2 (by decide) (fun c_1 => ?_) (fun c_1 => ?_)
  · skip
    refine lv_iconst (v := nI 0) hx hb dX3_isName_11 (by decide) ?_
    exact z_zret hx hb hr hlk hP hD hS dX3_isName_12 (by decide) (by rw [zName_lo c_1]; rfl) rfl
  · skip
    refine lv_iload_n hx hb dX3_isName_5 rfl (lv_at hl 0 rfl) ?_
    refine z_ldc (v' := nI 387420488) hx hb hown ct_193 dX3_isName_6 rfl ?_
    refine lv_icmp_le (tgt := 13) hx hb dX3_isName_8 (by decide) (fun c_2 => ?_) (fun c_2 => ?_)
    · skip
      obtain ⟨k, hk1, hk2, hxk⟩ := zName_ex c_1 c_2
      rw [hxk] at hl
      refine lv_iload_n hx hb dX3_isName_13 rfl (lv_at hl 0 rfl) ?_
      refine lv_istore_n (lv' := [(1, .int (nI k)), (0, .int (nI k))]) hx hb dX3_isName_14 rfl hl (by decide) rfl (fun ls hl => ?_)
      refine lv_iconst (v := nI 0) hx hb dX3_isName_15 (by decide) ?_
      refine lv_istore_n (lv' := [(2, .int (nI 0)), (1, .int (nI k)), (0, .int (nI k))]) hx hb dX3_isName_16 rfl hl (by decide) rfl (fun ls hl => ?_)
      have key_3 : ∀ (nn : Nat) (i r : Nat), i ≤ 6 → r ≤ 387420488 → digOk 6 k = digOk (6 - i) r → 6 - i < nn → ∀ (H : Heap) (locs : List Loc) (ls : Array Slot), va_P G.1 vwCl ([]) H → va_D A ([]) → va_S A s.heap H locs → lv_has ls 3 [(0, .int (nI k)), (1, .int (nI r)), (2, .int (nI i))] → W p l ee (zRm 0 0) s m args below meth c H locs 0 0 (MQ below (ZQi G A ([]) (bI (zName x))) args s 0 0 A) (F0 m 17 ls []) := by
        intro nn
        induction nn with
        | zero => intro i r _ _ _ hm; exact absurd hm (Nat.not_lt_zero _)
        | succ nn ih_3 =>
          intro i r hi hr1 hd hm H locs ls hP hD hS hl
          refine lv_iload_n hx hb dX3_isName_17 rfl (lv_at hl 2 rfl) ?_
          refine lv_bipush (v := nI 6) hx hb dX3_isName_18 (by decide) ?_
          refine z_ge (tgt := 47) hx hb dX3_isName_20 (by decide) (by omega) (by omega) (fun c_4 => ?_) (fun c_4 => ?_)
          · skip
            refine lv_iconst (v := nI 1) hx hb dX3_isName_47 (by decide) ?_
            exact z_zret hx hb hr hlk hP hD hS dX3_isName_48 (by decide) (by rw [hxk, zName_N hk1 hk2, hd, digOk_end (by omega)]; rfl) rfl
          · skip
            refine lv_iload_n hx hb dX3_isName_23 rfl (lv_at hl 1 rfl) ?_
            refine z_ifNle (tgt := 47) hx hb dX3_isName_24 (by decide) (by omega) (fun c_5 => ?_) (fun c_5 => ?_)
            · skip
              refine lv_iconst (v := nI 1) hx hb dX3_isName_47 (by decide) ?_
              exact z_zret hx hb hr hlk hP hD hS dX3_isName_48 (by decide) (by rw [hxk, zName_N hk1 hk2, hd, digOk_end (by omega)]; rfl) rfl
            · skip
              refine lv_iload_n hx hb dX3_isName_27 rfl (lv_at hl 1 rfl) ?_
              refine lv_bipush (v := nI 27) hx hb dX3_isName_28 (by decide) ?_
              refine z_rem (v := nI (r % 27)) hx hb dX3_isName_30 (by decide) (pk_rem (by omega) (by decide) (by decide)) ?_
              refine z_ifNne (tgt := 36) hx hb dX3_isName_31 (by decide) (by omega) (fun c_6 => ?_) (fun c_6 => ?_)
              · skip
                refine lv_iload_n hx hb dX3_isName_36 rfl (lv_at hl 1 rfl) ?_
                refine lv_bipush (v := nI 27) hx hb dX3_isName_37 (by decide) ?_
                refine z_div (v := nI (r / 27)) hx hb dX3_isName_39 (by decide) (pk_div (by omega) (by decide) (by decide)) ?_
                refine lv_istore_n (lv' := [(1, .int (nI (r / 27))), (0, .int (nI k)), (2, .int (nI i))]) hx hb dX3_isName_40 rfl hl (by decide) rfl (fun ls hl => ?_)
                refine lv_iinc (v := nI (i + 1)) (lv' := [(2, .int (nI (i + 1))), (1, .int (nI (r / 27))), (0, .int (nI k))]) hx hb dX3_isName_41 hl (k := 2) rfl (nI_1 _) (by decide) rfl (fun ls hl => ?_)
                refine lv_goto (tgt := 17) hx hb dX3_isName_44 (by decide) ?_
                exact ih_3 (i + 1) (r / 27) (by omega) (by omega) (hd.trans (digOk_go (by omega) (by omega) (by omega))) (by omega) _ _ _ hP hD hS (lv_sub hl [2, 1, 0] rfl)
              · skip
                refine lv_iconst (v := nI 0) hx hb dX3_isName_34 (by decide) ?_
                exact z_zret hx hb hr hlk hP hD hS dX3_isName_35 (by decide) (by rw [hxk, zName_N hk1 hk2, hd, digOk_bad (by omega) (by omega) (by omega)]; rfl) rfl
      exact key_3 _ 0 k (by omega) (by omega) rfl (Nat.lt_succ_self _) _ _ _ hP hD hS (lv_sub hl [2, 1, 0] rfl)
    · skip
      refine lv_iconst (v := nI 0) hx hb dX3_isName_11 (by decide) ?_
      exact z_zret hx hb hr hlk hP hD hS dX3_isName_12 (by decide) (by rw [zName_hi c_2]; rfl) rfl

set_option maxHeartbeats 4000000 in
set_option maxRecDepth 100000 in
theorem c_X3_orderKey (l : Launch) (G : ZG) (k : Nat) (hk : k < 387420489) : CI l G yX3_orderKey wsX3_orderKey (zRm 0 0) [.int (nI k)] ([]) (nI (padK 5 k)) ([]) := by
  refine CI.ent (cc := cX3_orderKey) (maxL := 3) (ty := .int) (own := RX3) (by decide) rfl rfl (Nat.le_of_ble_eq_true rfl) ?_
  intro p ee s m args below meth c A ls F hr hlk hKK hP hD hA hS hl
  obtain ⟨hx, hb, hml, hown, hts⟩ := id F
  have hl : lv_has ls 3 [(0, .int (nI k))] := hl
  have ct_194 := hts (.constant RX3 194 (14348907)) (by decide +kernel)
  refine lv_iload_n hx hb dX3_orderKey_0 rfl (lv_at hl 0 rfl) ?_
  refine lv_istore_n (lv' := [(1, .int (nI k)), (0, .int (nI k))]) hx hb dX3_orderKey_1 rfl hl (by decide) rfl (fun ls hl => ?_)
  refine lv_iconst (v := nI 1) hx hb dX3_orderKey_2 (by decide) ?_
  refine lv_istore_n (lv' := [(2, .int (nI 1)), (1, .int (nI k)), (0, .int (nI k))]) hx hb dX3_orderKey_3 rfl hl (by decide) rfl (fun ls hl => ?_)
  have key_1 : ∀ (nn : Nat) (i r : Nat), 1 ≤ i → i ≤ 6 → r < 387420489 → padK 5 k = padK (6 - i) r → 6 - i < nn → ∀ (H : Heap) (locs : List Loc) (ls : Array Slot), va_P G.1 vwCl ([]) H → va_D A ([]) → va_S A s.heap H locs → lv_has ls 3 [(0, .int (nI k)), (1, .int (nI r)), (2, .int (nI i))] → W p l ee (zRm 0 0) s m args below meth c H locs 0 0 (MQ below (ZQi G A ([]) (nI (padK 5 k))) args s 0 0 A) (F0 m 4 ls []) := by
    intro nn
    induction nn with
    | zero => intro i r _ _ _ _ hm; exact absurd hm (Nat.not_lt_zero _)
    | succ nn ih_1 =>
      intro i r hi1 hi hr1 hd hm H locs ls hP hD hS hl
      refine lv_iload_n hx hb dX3_orderKey_4 rfl (lv_at hl 2 rfl) ?_
      refine lv_bipush (v := nI 6) hx hb dX3_orderKey_5 (by decide) ?_
      refine z_ge (tgt := 27) hx hb dX3_orderKey_7 (by decide) (by omega) (by omega) (fun c_2 => ?_) (fun c_2 => ?_)
      · skip
        refine lv_iload_n hx hb dX3_orderKey_27 rfl (lv_at hl 1 rfl) ?_
        exact z_iret hx hb hr hlk hP hD hS dX3_orderKey_28 (by rw [hd, padK_end (by omega)]) rfl
      · skip
        refine lv_iload_n hx hb dX3_orderKey_10 rfl (lv_at hl 1 rfl) ?_
        refine z_ldc (v' := nI 14348907) hx hb hown ct_194 dX3_orderKey_11 rfl ?_
        refine z_ge (tgt := 27) hx hb dX3_orderKey_13 (by decide) (by omega) (by omega) (fun c_3 => ?_) (fun c_3 => ?_)
        · skip
          refine lv_iload_n hx hb dX3_orderKey_27 rfl (lv_at hl 1 rfl) ?_
          exact z_iret hx hb hr hlk hP hD hS dX3_orderKey_28 (by rw [hd, padK_end (by omega)]) rfl
        · skip
          refine lv_iload_n hx hb dX3_orderKey_16 rfl (lv_at hl 1 rfl) ?_
          refine lv_bipush (v := nI 27) hx hb dX3_orderKey_17 (by decide) ?_
          refine z_mul (v := nI (r * 27)) hx hb dX3_orderKey_19 (pk_mul _ _) ?_
          refine lv_istore_n (lv' := [(1, .int (nI (r * 27))), (0, .int (nI k)), (2, .int (nI i))]) hx hb dX3_orderKey_20 rfl hl (by decide) rfl (fun ls hl => ?_)
          refine lv_iinc (v := nI (i + 1)) (lv' := [(2, .int (nI (i + 1))), (1, .int (nI (r * 27))), (0, .int (nI k))]) hx hb dX3_orderKey_21 hl (k := 2) rfl (nI_1 _) (by decide) rfl (fun ls hl => ?_)
          refine lv_goto (tgt := 4) hx hb dX3_orderKey_24 (by decide) ?_
          exact ih_1 (i + 1) (r * 27) (by omega) (by omega) (by omega) (hd.trans (padK_go (by omega) (by omega))) (by omega) _ _ _ hP hD hS (lv_sub hl [2, 1, 0] rfl)
  exact key_1 _ 1 k (by omega) (by omega) (by omega) rfl (Nat.lt_succ_self _) _ _ _ hP hD hS (lv_sub hl [2, 1, 0] rfl)

set_option maxHeartbeats 4000000 in
set_option maxRecDepth 100000 in
theorem c_X3_beginsWith (l : Launch) (G : ZG) (k w : Nat) (hk : k < 387420489) (hw : w < 387420489) : CI l G yX3_beginsWith wsX3_beginsWith (zRm 0 0) [.int (nI k), .int (nI w)] ([]) (bI (decide (begK 5 k w = w))) ([]) := by
  refine CI.ent (cc := cX3_beginsWith) (maxL := 4) (ty := .boolean) (own := RX3) (by decide) rfl rfl (Nat.le_of_ble_eq_true rfl) ?_
  intro p ee s m args below meth c A ls F hr hlk hKK hP hD hA hS hl
  obtain ⟨hx, hb, hml, hown, hts⟩ := id F
  have hl : lv_has ls 4 [(0, .int (nI k)), (1, .int (nI w))] := hl
  refine lv_iload_n hx hb dX3_beginsWith_0 rfl (lv_at hl 0 rfl) ?_
  refine lv_istore_n (lv' := [(2, .int (nI k)), (0, .int (nI k)), (1, .int (nI w))]) hx hb dX3_beginsWith_1 rfl hl (by decide) rfl (fun ls hl => ?_)
  refine lv_iconst (v := nI 1) hx hb dX3_beginsWith_2 (by decide) ?_
  refine lv_istore_n (lv' := [(3, .int (nI 1)), (2, .int (nI k)), (0, .int (nI k)), (1, .int (nI w))]) hx hb dX3_beginsWith_3 rfl hl (by decide) rfl (fun ls hl => ?_)
  have key_1 : ∀ (nn : Nat) (i r : Nat), 1 ≤ i → i ≤ 6 → r < 387420489 → begK 5 k w = begK (6 - i) r w → 6 - i < nn → ∀ (H : Heap) (locs : List Loc) (ls : Array Slot), va_P G.1 vwCl ([]) H → va_D A ([]) → va_S A s.heap H locs → lv_has ls 4 [(0, .int (nI k)), (1, .int (nI w)), (2, .int (nI r)), (3, .int (nI i))] → W p l ee (zRm 0 0) s m args below meth c H locs 0 0 (MQ below (ZQi G A ([]) (bI (decide (begK 5 k w = w)))) args s 0 0 A) (F0 m 4 ls []) := by
    intro nn
    induction nn with
    | zero => intro i r _ _ _ _ hm; exact absurd hm (Nat.not_lt_zero _)
    | succ nn ih_1 =>
      intro i r hi1 hi hr1 hd hm H locs ls hP hD hS hl
      refine lv_iload_n hx hb dX3_beginsWith_4 rfl (lv_at hl 3 rfl) ?_
      refine lv_bipush (v := nI 6) hx hb dX3_beginsWith_5 (by decide) ?_
      refine z_ge (tgt := 26) hx hb dX3_beginsWith_7 (by decide) (by omega) (by omega) (fun c_2 => ?_) (fun c_2 => ?_)
      · skip
        refine lv_iload_n hx hb dX3_beginsWith_26 rfl (lv_at hl 2 rfl) ?_
        refine lv_iload_n hx hb dX3_beginsWith_27 rfl (lv_at hl 1 rfl) ?_
        refine z_ne (tgt := 35) hx hb dX3_beginsWith_28 (by decide) (by omega) (by omega) (fun c_3 => ?_) (fun c_3 => ?_)
        · skip
          refine lv_iconst (v := nI 0) hx hb dX3_beginsWith_35 (by decide) ?_
          exact z_zret hx hb hr hlk hP hD hS dX3_beginsWith_36 (by decide) (by rw [hd, begK_end (by omega)]; first | (rw [decide_eq_true (by omega)]; rfl) | (rw [decide_eq_false (by omega)]; rfl)) rfl
        · skip
          refine lv_iconst (v := nI 1) hx hb dX3_beginsWith_31 (by decide) ?_
          refine lv_goto (tgt := 36) hx hb dX3_beginsWith_32 (by decide) ?_
          exact z_zret hx hb hr hlk hP hD hS dX3_beginsWith_36 (by decide) (by rw [hd, begK_end (by omega)]; first | (rw [decide_eq_true (by omega)]; rfl) | (rw [decide_eq_false (by omega)]; rfl)) rfl
      · skip
        refine lv_iload_n hx hb dX3_beginsWith_10 rfl (lv_at hl 2 rfl) ?_
        refine lv_iload_n hx hb dX3_beginsWith_11 rfl (lv_at hl 1 rfl) ?_
        refine z_le (tgt := 26) hx hb dX3_beginsWith_12 (by decide) (by omega) (by omega) (fun c_4 => ?_) (fun c_4 => ?_)
        · skip
          refine lv_iload_n hx hb dX3_beginsWith_26 rfl (lv_at hl 2 rfl) ?_
          refine lv_iload_n hx hb dX3_beginsWith_27 rfl (lv_at hl 1 rfl) ?_
          refine z_ne (tgt := 35) hx hb dX3_beginsWith_28 (by decide) (by omega) (by omega) (fun c_5 => ?_) (fun c_5 => ?_)
          · skip
            refine lv_iconst (v := nI 0) hx hb dX3_beginsWith_35 (by decide) ?_
            exact z_zret hx hb hr hlk hP hD hS dX3_beginsWith_36 (by decide) (by rw [hd, begK_end (by omega)]; first | (rw [decide_eq_true (by omega)]; rfl) | (rw [decide_eq_false (by omega)]; rfl)) rfl
          · skip
            refine lv_iconst (v := nI 1) hx hb dX3_beginsWith_31 (by decide) ?_
            refine lv_goto (tgt := 36) hx hb dX3_beginsWith_32 (by decide) ?_
            exact z_zret hx hb hr hlk hP hD hS dX3_beginsWith_36 (by decide) (by rw [hd, begK_end (by omega)]; first | (rw [decide_eq_true (by omega)]; rfl) | (rw [decide_eq_false (by omega)]; rfl)) rfl
        · skip
          refine lv_iload_n hx hb dX3_beginsWith_15 rfl (lv_at hl 2 rfl) ?_
          refine lv_bipush (v := nI 27) hx hb dX3_beginsWith_16 (by decide) ?_
          refine z_div (v := nI (r / 27)) hx hb dX3_beginsWith_18 (by decide) (pk_div (by omega) (by decide) (by decide)) ?_
          refine lv_istore_n (lv' := [(2, .int (nI (r / 27))), (0, .int (nI k)), (1, .int (nI w)), (3, .int (nI i))]) hx hb dX3_beginsWith_19 rfl hl (by decide) rfl (fun ls hl => ?_)
          refine lv_iinc (v := nI (i + 1)) (lv' := [(3, .int (nI (i + 1))), (2, .int (nI (r / 27))), (0, .int (nI k)), (1, .int (nI w))]) hx hb dX3_beginsWith_20 hl (k := 3) rfl (nI_1 _) (by decide) rfl (fun ls hl => ?_)
          refine lv_goto (tgt := 4) hx hb dX3_beginsWith_23 (by decide) ?_
          exact ih_1 (i + 1) (r / 27) (by omega) (by omega) (by omega) (hd.trans (begK_go (by omega) (by omega))) (by omega) _ _ _ hP hD hS (lv_sub hl [2, 3, 1, 0] rfl)
  exact key_1 _ 1 k (by omega) (by omega) (by omega) rfl (Nat.lt_succ_self _) _ _ _ hP hD hS (lv_sub hl [2, 3, 1, 0] rfl)

set_option maxHeartbeats 4000000 in
set_option maxRecDepth 100000 in
theorem c_J7_fill (l : Launch) (G : ZG) (q n : Nat) (hn : n < 2 ^ 31) (x : Int32) (f : Nat → Int32) : CV l G yJ7_fill_53178 wsJ7_fill_53178 (zRm 0 0) [.ref q, .int x] ([(q, .inl (G.2.1, n, .inl f))]) ([(q, .inl (G.2.1, n, .inl (zFillA n x f)))]) := by
  refine CV.ent (cc := cJ7_fill_53178) (maxL := 4) (own := RJ7) (by decide) rfl rfl (Nat.le_of_ble_eq_true rfl) ?_
  intro p ee s m args below meth c A ls F hr hlk hKK hP hD hA hS hl
  obtain ⟨hx, hb, hml, hown, hts⟩ := id F
  have hl : lv_has ls 4 [(0, .ref q), (1, .int x)] := hl
  refine lv_iconst (v := nI 0) hx hb dJ7_fill_53178_0 (by decide) ?_
  refine lv_istore_n (lv' := [(2, .int (nI 0)), (0, .ref q), (1, .int x)]) hx hb dJ7_fill_53178_1 rfl hl (by decide) rfl (fun ls hl => ?_)
  refine lv_aload_n hx hb dJ7_fill_53178_2 rfl (lv_at hl 1 rfl) ?_
  refine z_alen (n := n) hx hb hKK hP 0 rfl dJ7_fill_53178_3 ?_
  refine lv_istore_n (lv' := [(3, .int (nI n)), (2, .int (nI 0)), (0, .ref q), (1, .int x)]) hx hb dJ7_fill_53178_4 rfl hl (by decide) rfl (fun ls hl => ?_)
  have key_1 : ∀ (nn : Nat) (i : Nat), i ≤ n → n - i < nn → ∀ (H : Heap) (locs : List Loc) (ls : Array Slot), va_P G.1 vwCl ([(q, .inl (G.2.1, n, .inl (zFillTo i x f)))]) H → va_D A ([(q, .inl (G.2.1, n, .inl (zFillTo i x f)))]) → va_S A s.heap H locs → lv_has ls 4 [(0, .ref q), (1, .int x), (2, .int (nI i)), (3, .int (nI n))] → W p l ee (zRm 0 0) s m args below meth c H locs 0 0 (MQ below (ZQv G A ([(q, .inl (G.2.1, n, .inl (zFillA n x f)))])) args s 0 0 A) (F0 m 5 ls []) := by
    intro nn
    induction nn with
    | zero => intro i _ hm; exact absurd hm (Nat.not_lt_zero _)
    | succ nn ih_1 =>
      intro i hi hm H locs ls hP hD hS hl
      refine lv_iload_n hx hb dJ7_fill_53178_5 rfl (lv_at hl 2 rfl) ?_
      refine lv_iload_n hx hb dJ7_fill_53178_6 rfl (lv_at hl 3 rfl) ?_
      refine z_ge (tgt := 20) hx hb dJ7_fill_53178_7 (by decide) (by omega) (by omega) (fun c_2 => ?_) (fun c_2 => ?_)
      · skip
        exact z_vret hx hb hr hlk hP hD hS dJ7_fill_53178_20 (by rw [show i = n by omega]; rfl)
      · skip
        refine lv_aload_n hx hb dJ7_fill_53178_10 rfl (lv_at hl 0 rfl) ?_
        refine lv_iload_n hx hb dJ7_fill_53178_11 rfl (lv_at hl 2 rfl) ?_
        refine lv_iload_n hx hb dJ7_fill_53178_12 rfl (lv_at hl 1 rfl) ?_
        refine z_iast (n := n) (f := zFillTo i x f) (w2 := [(q, .inl (G.2.1, n, .inl (upd (zFillTo i x f) i x)))]) hx hb hKK hP hD hS 0 rfl (by omega) hn rfl dJ7_fill_53178_13 (fun H locs hP hD hS => ?_)
        refine lv_iinc (v := nI (i + 1)) (lv' := [(2, .int (nI (i + 1))), (0, .ref q), (1, .int x), (3, .int (nI n))]) hx hb dJ7_fill_53178_14 hl (k := 2) rfl (nI_1 _) (by decide) rfl (fun ls hl => ?_)
        refine lv_goto (tgt := 5) hx hb dJ7_fill_53178_17 (by decide) ?_
        rw [zFillTo_s] at hP hD
        exact ih_1 (i + 1) (by omega) (by omega) _ _ _ hP hD hS (lv_sub hl [1, 2, 0, 3] rfl)
  have e0 : f = zFillTo 0 x f := (zFillTo_0 x f).symm
  rw [e0] at hP hD
  exact key_1 _ 0 (by omega) (Nat.lt_succ_self _) _ _ _ hP hD hS (lv_sub hl [2, 3, 1, 0] rfl)

set_option maxHeartbeats 4000000 in
set_option maxRecDepth 100000 in
theorem c_X1_tagIn (l : Launch) (G : ZG) (e y n : Int32)  : CI l G yX1_tagIn wsX1_tagIn (zRm 0 0) [.int e, .int y, .int n] ([]) (nI 1000000 * e + nI 100 * y + n) ([]) := by
  refine CI.ent (cc := cX1_tagIn) (maxL := 3) (ty := .int) (own := RX1) (by decide) rfl rfl (Nat.le_of_ble_eq_true rfl) ?_
  intro p ee s m args below meth c A ls F hr hlk hKK hP hD hA hS hl
  obtain ⟨hx, hb, hml, hown, hts⟩ := id F
  have hl : lv_has ls 3 [(0, .int e), (1, .int y), (2, .int n)] := hl
  have ct_79 := hts (.constant RX1 79 (1000000)) (by decide +kernel)
  refine z_ldc (v' := nI 1000000) hx hb hown ct_79 dX1_tagIn_0 rfl ?_
  refine lv_iload_n hx hb dX1_tagIn_2 rfl (lv_at hl 0 rfl) ?_
  refine z_mul (v := (nI 1000000) * e) hx hb dX1_tagIn_3 rfl ?_
  refine lv_bipush (v := nI 100) hx hb dX1_tagIn_4 (by decide) ?_
  refine lv_iload_n hx hb dX1_tagIn_6 rfl (lv_at hl 1 rfl) ?_
  refine z_mul (v := (nI 100) * y) hx hb dX1_tagIn_7 rfl ?_
  refine z_add (v := ((nI 1000000) * e) + ((nI 100) * y)) hx hb dX1_tagIn_8 rfl ?_
  refine lv_iload_n hx hb dX1_tagIn_9 rfl (lv_at hl 2 rfl) ?_
  refine z_add (v := (((nI 1000000) * e) + ((nI 100) * y)) + n) hx hb dX1_tagIn_10 rfl ?_
  exact z_iret hx hb hr hlk hP hD hS dX1_tagIn_11 rfl rfl

set_option maxHeartbeats 4000000 in
set_option maxRecDepth 100000 in
theorem c_X1_tagOf (l : Launch) (G : ZG) (a : Nat → Nat) (v : Mem) (n : Nat) (hn : n < 40) : CI l G yX1_tagOf wsX1_tagOf (zRm 1 22) [.ref (a 0), .int (nI n)] (rollW G a v) (nI 1000000 * v 12 0 + nI 100 * v 2 n + nI n) (rollW G a v) := by
  refine CI.ent (cc := cX1_tagOf) (maxL := 2) (ty := .int) (own := RX1) (by decide) rfl rfl (Nat.le_of_ble_eq_true rfl) ?_
  intro p ee s m args below meth c A ls F hr hlk hKK hP hD hA hS hl
  obtain ⟨hx, hb, hml, hown, hts⟩ := id F
  have hl : lv_has ls 2 [(0, .ref (a 0)), (1, .int (nI n))] := hl
  have fl_18 := hts (.fieldLink RX1 18 "NameRolls$Roll" "years" "[I") (by decide +kernel)
  have fl_60 := hts (.fieldLink RX1 60 "NameRolls$Roll" "epoch" "I") (by decide +kernel)
  have hinX1 : ∀ w ∈ wsX10, w ∈ wsX1_tagOf := by decide +kernel
  have st_X3_isBelow := hts (.static yX3_isBelow) (by decide +kernel)
  have ini_X3 := hts (.initialized RX3) (by decide +kernel)
  refine lv_iload_n hx hb dX1_tagOf_0 rfl (lv_at hl 1 rfl) ?_
  refine lv_bipush (v := nI 40) hx hb dX1_tagOf_1 (by decide) ?_
  refine z_callNI (As := [.int (nI n), .int (nI 40)]) (rest := []) F (c_X3_isBelow_N l G (n) (40) (by omega) (by omega)) ⟨va_cnB 2 hts gX1_tagOf_X3_isBelow_n70 rfl rfl rfl hKK.2.1 ini_X3 (by decide +kernel) ⟨Nat.le_of_ble_eq_true rfl, Nat.le_of_ble_eq_true rfl⟩, st_X3_isBelow, trivial⟩ hKK hP hD hS hA rfl hl.1 rfl (Nat.le_of_ble_eq_true rfl) ⟨Nat.zero_le _, Nat.zero_le _⟩ dX1_tagOf_3 (fun H locs hP hD hS => ?_)
  refine z_ifBeq (tgt := 26) hx hb dX1_tagOf_6 (by decide) (fun c_1 => absurd c_1 (by simp; omega)) (fun c_1 => ?_)
  refine lv_aload_n hx hb dX1_tagOf_9 rfl (lv_at hl 0 rfl) ?_
  refine va_get (D := G.1) (ci := 1) (v := .int (v 12 0)) (C := RX1) (T := TX1) (N := 15) hx hb hts hinX1 hown hKK.1 hP 0 rfl rfl 4 (by decide) fl_60 (fun _ h9 => h9) rfl dX1_tagOf_10 ?_
  refine lv_aload_n hx hb dX1_tagOf_13 rfl (lv_at hl 0 rfl) ?_
  refine va_get (D := G.1) (ci := 1) (v := .ref (a 3)) (C := RX1) (T := TX1) (N := 15) hx hb hts hinX1 hown hKK.1 hP 0 rfl rfl 2 (by decide) fl_18 (fun _ h9 => h9) rfl dX1_tagOf_14 ?_
  refine lv_iload_n hx hb dX1_tagOf_17 rfl (lv_at hl 1 rfl) ?_
  refine z_iald (n := 40) (f := v 2) (v := v 2 n) hx hb hKK hP 3 rfl (by omega) (by decide) rfl dX1_tagOf_18 ?_
  refine lv_iload_n hx hb dX1_tagOf_19 rfl (lv_at hl 1 rfl) ?_
  refine z_callSI (As := [.int (v 12 0), .int (v 2 n), .int (nI n)]) (rest := []) F (c_X1_tagIn l G (v 12 0) (v 2 n) (nI n)) (va_cwS 3 hts gX1_tagOf_X1_tagIn rfl rfl rfl (by decide +kernel) ⟨Nat.le_of_ble_eq_true rfl, Nat.le_of_ble_eq_true rfl⟩) hKK hP hD hS hA rfl hl.1 rfl (Nat.le_of_ble_eq_true rfl) ⟨Nat.zero_le _, Nat.zero_le _⟩ dX1_tagOf_20 (fun H locs hP hD hS => ?_)
  refine lv_goto (tgt := 28) hx hb dX1_tagOf_23 (by decide) ?_
  exact z_iret hx hb hr hlk hP hD hS dX1_tagOf_28 rfl rfl

set_option maxHeartbeats 4000000 in
set_option maxRecDepth 100000 in
theorem c_X1_numberWith (l : Launch) (G : ZG) (a : Nat → Nat) (v : Mem) (x : Int32)  : CI l G yX1_numberWith wsX1_numberWith (zRm 0 0) [.ref (a 0), .int x] (rollW G a v) (zNum (v 0) x) (rollW G a v) := by
  refine CI.ent (cc := cX1_numberWith) (maxL := 3) (ty := .int) (own := RX1) (by decide) rfl rfl (Nat.le_of_ble_eq_true rfl) ?_
  intro p ee s m args below meth c A ls F hr hlk hKK hP hD hA hS hl
  obtain ⟨hx, hb, hml, hown, hts⟩ := id F
  have hl : lv_has ls 3 [(0, .ref (a 0)), (1, .int x)] := hl
  have fl_9 := hts (.fieldLink RX1 9 "NameRolls$Roll" "names" "[I") (by decide +kernel)
  have hinX1 : ∀ w ∈ wsX10, w ∈ wsX1_numberWith := by decide +kernel
  refine lv_iconst (v := nI 0) hx hb dX1_numberWith_0 (by decide) ?_
  refine lv_istore_n (lv' := [(2, .int (nI 0)), (0, .ref (a 0)), (1, .int x)]) hx hb dX1_numberWith_1 rfl hl (by decide) rfl (fun ls hl => ?_)
  have key_1 : ∀ (nn : Nat) (i : Nat), i ≤ 40 → (∀ j, j < i → ¬ v 0 j = x) → 40 - i < nn → ∀ (H : Heap) (locs : List Loc) (ls : Array Slot), va_P G.1 vwCl (rollW G a v) H → va_D A (rollW G a v) → va_S A s.heap H locs → lv_has ls 3 [(0, .ref (a 0)), (1, .int x), (2, .int (nI i))] → W p l ee (zRm 0 0) s m args below meth c H locs 0 0 (MQ below (ZQi G A (rollW G a v) (zNum (v 0) x)) args s 0 0 A) (F0 m 2 ls []) := by
    intro nn
    induction nn with
    | zero => intro i _ _ hm; exact absurd hm (Nat.not_lt_zero _)
    | succ nn ih_1 =>
      intro i hi hno hm H locs ls hP hD hS hl
      refine lv_iload_n hx hb dX1_numberWith_2 rfl (lv_at hl 2 rfl) ?_
      refine lv_bipush (v := nI 40) hx hb dX1_numberWith_3 (by decide) ?_
      refine z_ge (tgt := 26) hx hb dX1_numberWith_5 (by decide) (by omega) (by omega) (fun c_2 => ?_) (fun c_2 => ?_)
      · skip
        refine lv_iconst (v := (-1)) hx hb dX1_numberWith_26 (by decide) ?_
        exact z_iret hx hb hr hlk hP hD hS dX1_numberWith_27 (zNum_no (by omega) hno) rfl
      · skip
        refine lv_aload_n hx hb dX1_numberWith_8 rfl (lv_at hl 0 rfl) ?_
        refine va_get (D := G.1) (ci := 1) (v := .ref (a 1)) (C := RX1) (T := TX1) (N := 15) hx hb hts hinX1 hown hKK.1 hP 0 rfl rfl 0 (by decide) fl_9 (fun _ h9 => h9) rfl dX1_numberWith_9 ?_
        refine lv_iload_n hx hb dX1_numberWith_12 rfl (lv_at hl 2 rfl) ?_
        refine z_iald (n := 40) (f := v 0) (v := v 0 i) hx hb hKK hP 1 rfl (by omega) (by decide) rfl dX1_numberWith_13 ?_
        refine lv_iload_n hx hb dX1_numberWith_14 rfl (lv_at hl 1 rfl) ?_
        refine lv_icmp_ne (tgt := 20) hx hb dX1_numberWith_15 (by decide) (fun c_3 => ?_) (fun c_3 => ?_)
        · skip
          refine lv_iinc (v := nI (i + 1)) (lv' := [(2, .int (nI (i + 1))), (0, .ref (a 0)), (1, .int x)]) hx hb dX1_numberWith_20 hl (k := 2) rfl (nI_1 _) (by decide) rfl (fun ls hl => ?_)
          refine lv_goto (tgt := 2) hx hb dX1_numberWith_23 (by decide) ?_
          exact ih_1 (i + 1) (by omega) (z_ext hno c_3) (by omega) _ _ _ hP hD hS (lv_sub hl [1, 2, 0] rfl)
        · skip
          refine lv_iload_n hx hb dX1_numberWith_18 rfl (lv_at hl 2 rfl) ?_
          exact z_iret hx hb hr hlk hP hD hS dX1_numberWith_19 (zNum_at (by omega) c_3 hno) rfl
  exact key_1 _ 0 (by omega) (fun j hj => absurd hj (Nat.not_lt_zero j)) (Nat.lt_succ_self _) _ _ _ hP hD hS (lv_sub hl [1, 2, 0] rfl)

set_option maxHeartbeats 4000000 in
set_option maxRecDepth 100000 in
theorem c_X1_cellsWith (l : Launch) (G : ZG) (a : Nat → Nat) (v : Mem) (x : Int32)  : CI l G yX1_cellsWith wsX1_cellsWith (zRm 0 0) [.ref (a 0), .int x] (rollW G a v) (nI (zCells (v 3) x)) (rollW G a v) := by
  refine CI.ent (cc := cX1_cellsWith) (maxL := 4) (ty := .int) (own := RX1) (by decide) rfl rfl (Nat.le_of_ble_eq_true rfl) ?_
  intro p ee s m args below meth c A ls F hr hlk hKK hP hD hA hS hl
  obtain ⟨hx, hb, hml, hown, hts⟩ := id F
  have hl : lv_has ls 4 [(0, .ref (a 0)), (1, .int x)] := hl
  have fl_21 := hts (.fieldLink RX1 21 "NameRolls$Roll" "cells" "[I") (by decide +kernel)
  have hinX1 : ∀ w ∈ wsX10, w ∈ wsX1_cellsWith := by decide +kernel
  refine lv_iconst (v := nI 0) hx hb dX1_cellsWith_0 (by decide) ?_
  refine lv_istore_n (lv' := [(2, .int (nI 0)), (0, .ref (a 0)), (1, .int x)]) hx hb dX1_cellsWith_1 rfl hl (by decide) rfl (fun ls hl => ?_)
  refine lv_iconst (v := nI 0) hx hb dX1_cellsWith_2 (by decide) ?_
  refine lv_istore_n (lv' := [(3, .int (nI 0)), (2, .int (nI 0)), (0, .ref (a 0)), (1, .int x)]) hx hb dX1_cellsWith_3 rfl hl (by decide) rfl (fun ls hl => ?_)
  have key_1 : ∀ (nn : Nat) (i : Nat), i ≤ 18 → 18 - i < nn → ∀ (H : Heap) (locs : List Loc) (ls : Array Slot), va_P G.1 vwCl (rollW G a v) H → va_D A (rollW G a v) → va_S A s.heap H locs → lv_has ls 4 [(0, .ref (a 0)), (1, .int x), (2, .int (nI (fb_ct (fun i => decide (v 3 i = x)) i))), (3, .int (nI i))] → W p l ee (zRm 0 0) s m args below meth c H locs 0 0 (MQ below (ZQi G A (rollW G a v) (nI (zCells (v 3) x))) args s 0 0 A) (F0 m 4 ls []) := by
    intro nn
    induction nn with
    | zero => intro i _ hm; exact absurd hm (Nat.not_lt_zero _)
    | succ nn ih_1 =>
      intro i hi hm H locs ls hP hD hS hl
      refine lv_iload_n hx hb dX1_cellsWith_4 rfl (lv_at hl 3 rfl) ?_
      refine lv_aload_n hx hb dX1_cellsWith_5 rfl (lv_at hl 0 rfl) ?_
      refine va_get (D := G.1) (ci := 1) (v := .ref (a 4)) (C := RX1) (T := TX1) (N := 15) hx hb hts hinX1 hown hKK.1 hP 0 rfl rfl 3 (by decide) fl_21 (fun _ h9 => h9) rfl dX1_cellsWith_6 ?_
      refine z_alen (n := 18) hx hb hKK hP 4 rfl dX1_cellsWith_9 ?_
      refine z_ge (tgt := 32) hx hb dX1_cellsWith_10 (by decide) (by omega) (by omega) (fun c_2 => ?_) (fun c_2 => ?_)
      · skip
        refine lv_iload_n hx hb dX1_cellsWith_32 rfl (lv_at hl 2 rfl) ?_
        exact z_iret hx hb hr hlk hP hD hS dX1_cellsWith_33 (by rw [show i = 18 by omega]; rfl) rfl
      · skip
        refine lv_aload_n hx hb dX1_cellsWith_13 rfl (lv_at hl 0 rfl) ?_
        refine va_get (D := G.1) (ci := 1) (v := .ref (a 4)) (C := RX1) (T := TX1) (N := 15) hx hb hts hinX1 hown hKK.1 hP 0 rfl rfl 3 (by decide) fl_21 (fun _ h9 => h9) rfl dX1_cellsWith_14 ?_
        refine lv_iload_n hx hb dX1_cellsWith_17 rfl (lv_at hl 3 rfl) ?_
        refine z_iald (n := 18) (f := v 3) (v := v 3 i) hx hb hKK hP 4 rfl (by omega) (by decide) rfl dX1_cellsWith_18 ?_
        refine lv_iload_n hx hb dX1_cellsWith_19 rfl (lv_at hl 1 rfl) ?_
        refine lv_icmp_ne (tgt := 26) hx hb dX1_cellsWith_20 (by decide) (fun c_3 => ?_) (fun c_3 => ?_)
        · skip
          rw [← fb_ct_f (p := fun i => decide (v 3 i = x)) (n := i) (decide_eq_false c_3)] at hl
          refine lv_iinc (v := nI (i + 1)) (lv' := [(3, .int (nI (i + 1))), (0, .ref (a 0)), (1, .int x), (2, .int (nI (fb_ct (fun i => decide (v 3 i = x)) (i + 1))))]) hx hb dX1_cellsWith_26 hl (k := 3) rfl (nI_1 _) (by decide) rfl (fun ls hl => ?_)
          refine lv_goto (tgt := 4) hx hb dX1_cellsWith_29 (by decide) ?_
          exact ih_1 (i + 1) (by omega) (by omega) _ _ _ hP hD hS (lv_sub hl [1, 2, 3, 0] rfl)
        · skip
          refine lv_iinc (v := nI (fb_ct (fun i => decide (v 3 i = x)) (i + 1))) (lv' := [(2, .int (nI (fb_ct (fun i => decide (v 3 i = x)) (i + 1)))), (0, .ref (a 0)), (1, .int x), (3, .int (nI i))]) hx hb dX1_cellsWith_23 hl (k := 2) rfl (by rw [fb_ct_t (decide_eq_true c_3)]; exact nI_1 _) (by decide) rfl (fun ls hl => ?_)
          refine lv_iinc (v := nI (i + 1)) (lv' := [(3, .int (nI (i + 1))), (2, .int (nI (fb_ct (fun i => decide (v 3 i = x)) (i + 1)))), (0, .ref (a 0)), (1, .int x)]) hx hb dX1_cellsWith_26 hl (k := 3) rfl (nI_1 _) (by decide) rfl (fun ls hl => ?_)
          refine lv_goto (tgt := 4) hx hb dX1_cellsWith_29 (by decide) ?_
          exact ih_1 (i + 1) (by omega) (by omega) _ _ _ hP hD hS (lv_sub hl [2, 3, 1, 0] rfl)
  exact key_1 _ 0 (by omega) (Nat.lt_succ_self _) _ _ _ hP hD hS (lv_sub hl [2, 3, 1, 0] rfl)
