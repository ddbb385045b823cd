set_option maxHeartbeats 4000000 in
set_option maxRecDepth 100000 in
theorem c_X4_numberOf_bad (l : Launch) (G : ZG) (a : Nat → Nat) (v : Mem) (y : Nat → Nat) (x w : Int32) (h9 : (zWi x 0 39 && zWi w 0 4) = false) : CI l G yX4_numberOf wsX4_numberOf (zRm 1 23) [.ref (a 0), .int x, .int w] (modW G a v y) ((-1000001)) (modW G a v y) := by
  refine CI.ent (cc := cX4_numberOf) (maxL := 3) (ty := .int) (own := RX4) (by decide) rfl rfl (Nat.le_of_ble_eq_true rfl) ?_
  intro p ee s m args below meth c A ls F hr hlk hKK hP hD hA hS hl
  obtain ⟨hx, hb, hml, hown, hts⟩ := id F
  have hl : lv_has ls 3 [(0, .ref (a 0)), (1, .int x), (2, .int w)] := hl
  have ct_61 := hts (.constant RX4 61 (-1000001)) (by decide +kernel)
  refine lv_iload_n hx hb dX4_numberOf_0 rfl (lv_at hl 1 rfl) ?_
  refine lv_iconst (v := nI 0) hx hb dX4_numberOf_1 (by decide) ?_
  refine lv_bipush (v := nI 39) hx hb dX4_numberOf_2 (by decide) ?_
  refine z_callSI (As := [.int x, .int (nI 0), .int (nI 39)]) (rest := []) F (c_X4_within l G x (0) (39)) (va_cwS 3 hts gX4_numberOf_X4_within rfl rfl rfl (by decide +kernel) ⟨Nat.le_of_ble_eq_true rfl, Nat.le_of_ble_eq_true rfl⟩) hKK hP hD hS hA rfl hl.1 rfl (Nat.le_of_ble_eq_true rfl) ⟨Nat.zero_le _, Nat.zero_le _⟩ dX4_numberOf_4 (fun H locs hP hD hS => ?_)
  refine z_ifBeq (tgt := 19) hx hb dX4_numberOf_7 (by decide) (fun c_1 => ?_) (fun c_1 => ?_)
  · skip
    refine z_ldc (v' := (-1000001)) hx hb hown ct_61 dX4_numberOf_19 rfl ?_
    exact z_iret hx hb hr hlk hP hD hS dX4_numberOf_21 rfl rfl
  · skip
    refine lv_iload_n hx hb dX4_numberOf_10 rfl (lv_at hl 2 rfl) ?_
    refine lv_iconst (v := nI 0) hx hb dX4_numberOf_11 (by decide) ?_
    refine lv_iconst (v := nI 4) hx hb dX4_numberOf_12 (by decide) ?_
    refine z_callSI (As := [.int w, .int (nI 0), .int (nI 4)]) (rest := []) F (c_X4_within l G w (0) (4)) (va_cwS 3 hts gX4_numberOf_X4_within rfl rfl rfl (by decide +kernel) ⟨Nat.le_of_ble_eq_true rfl, Nat.le_of_ble_eq_true rfl⟩) hKK hP hD hS hA rfl hl.1 rfl (Nat.le_of_ble_eq_true rfl) ⟨Nat.zero_le _, Nat.zero_le _⟩ dX4_numberOf_13 (fun H locs hP hD hS => ?_)
    refine z_ifBne (tgt := 22) hx hb dX4_numberOf_16 (by decide) (fun c_2 => absurd ((congrArg (zWi x 0 39 && ·) c_2).symm.trans h9) (by rw [c_1]; decide)) (fun c_2 => ?_)
    refine z_ldc (v' := (-1000001)) hx hb hown ct_61 dX4_numberOf_19 rfl ?_
    exact z_iret hx hb hr hlk hP hD hS dX4_numberOf_21 rfl rfl

set_option maxHeartbeats 4000000 in
set_option maxRecDepth 100000 in
theorem c_X4_numberOf_0n (l : Launch) (G : ZG) (a : Nat → Nat) (v : Mem) (y : Nat → Nat) (n : Nat) (hn : n < 40) (h0 : ¬ v 0 (4 + n) = 0) : CI l G yX4_numberOf wsX4_numberOf (zRm 1 23) [.ref (a 0), .int (nI n), .int (nI 0)] (modW G a v y) (v 0 (4 + n)) (modW G a v y) := by
  refine CI.ent (cc := cX4_numberOf) (maxL := 3) (ty := .int) (own := RX4) (by decide) rfl rfl (Nat.le_of_ble_eq_true rfl) ?_
  intro p ee s m args below meth c A ls F hr hlk hKK hP hD hA hS hl
  obtain ⟨hx, hb, hml, hown, hts⟩ := id F
  have hl : lv_has ls 3 [(0, .ref (a 0)), (1, .int (nI n)), (2, .int (nI 0))] := hl
  have fl_7 := hts (.fieldLink RX4 7 "NameRollsModel" "now" "[I") (by decide +kernel)
  have hinX4 : ∀ w ∈ wsX40, w ∈ wsX4_numberOf := by decide +kernel
  refine lv_iload_n hx hb dX4_numberOf_0 rfl (lv_at hl 1 rfl) ?_
  refine lv_iconst (v := nI 0) hx hb dX4_numberOf_1 (by decide) ?_
  refine lv_bipush (v := nI 39) hx hb dX4_numberOf_2 (by decide) ?_
  refine z_callSI (As := [.int (nI n), .int (nI 0), .int (nI 39)]) (rest := []) F (c_X4_within_t l G (n) (0) (39) (by omega) (by omega) (by decide)) (va_cwS 3 hts gX4_numberOf_X4_within rfl rfl rfl (by decide +kernel) ⟨Nat.le_of_ble_eq_true rfl, Nat.le_of_ble_eq_true rfl⟩) hKK hP hD hS hA rfl hl.1 rfl (Nat.le_of_ble_eq_true rfl) ⟨Nat.zero_le _, Nat.zero_le _⟩ dX4_numberOf_4 (fun H locs hP hD hS => ?_)
  refine z_ifBeq (tgt := 19) hx hb dX4_numberOf_7 (by decide) (fun c_1 => absurd c_1 (by decide)) (fun c_1 => ?_)
  refine lv_iload_n hx hb dX4_numberOf_10 rfl (lv_at hl 2 rfl) ?_
  refine lv_iconst (v := nI 0) hx hb dX4_numberOf_11 (by decide) ?_
  refine lv_iconst (v := nI 4) hx hb dX4_numberOf_12 (by decide) ?_
  refine z_callSI (As := [.int (nI 0), .int (nI 0), .int (nI 4)]) (rest := []) F (c_X4_within_t l G (0) (0) (4) (by omega) (by omega) (by decide)) (va_cwS 3 hts gX4_numberOf_X4_within rfl rfl rfl (by decide +kernel) ⟨Nat.le_of_ble_eq_true rfl, Nat.le_of_ble_eq_true rfl⟩) hKK hP hD hS hA rfl hl.1 rfl (Nat.le_of_ble_eq_true rfl) ⟨Nat.zero_le _, Nat.zero_le _⟩ dX4_numberOf_13 (fun H locs hP hD hS => ?_)
  refine z_ifBne (tgt := 22) hx hb dX4_numberOf_16 (by decide) (fun c_2 => ?_) (fun c_2 => absurd c_2 (by decide))
  refine lv_iload_n hx hb dX4_numberOf_22 rfl (lv_at hl 2 rfl) ?_
  refine lv_tableIn (off := 29) (tgt := 52) hx hb dX4_numberOf_23 (by decide) (by decide) rfl (by decide) ?_
  refine lv_aload_n hx hb dX4_numberOf_52 rfl (lv_at hl 0 rfl) ?_
  refine lv_iload_n hx hb dX4_numberOf_53 rfl (lv_at hl 1 rfl) ?_
  refine z_callVI (As := [.int (nI n)]) (rest := []) (wr := []) (C := RX4) F (c_X4_isNamed l G a v y (n) (by omega)) (cwV 1 hts gX4_numberOf_X4_isNamed rfl rfl rfl (by decide +kernel) ⟨Nat.le_of_ble_eq_true rfl, Nat.le_of_ble_eq_true rfl⟩) hKK (z_recv hKK hP (q0 := 0) (ci := 4) rfl rfl) hP hD hS hA rfl hl.1 rfl (Nat.le_of_ble_eq_true rfl) ⟨Nat.zero_le _, Nat.zero_le _⟩ dX4_numberOf_54 (fun H locs hP hD hS => ?_)
  have hP : va_P G.1 vwCl (modW G a v y) H := hP
  have hD : va_D A (modW G a v y) := hD
  refine z_ifBeq (tgt := 71) hx hb dX4_numberOf_57 (by decide) (fun c_3 => absurd h0 (of_decide_eq_false c_3)) (fun c_3 => ?_)
  refine lv_aload_n hx hb dX4_numberOf_60 rfl (lv_at hl 0 rfl) ?_
  refine va_get (D := G.1) (ci := 4) (v := .ref (a 1)) (C := RX4) (T := TX4) (N := 17) hx hb hts hinX4 hown hKK.1 hP 0 rfl rfl 0 (by decide) fl_7 (fun _ h9 => h9) rfl dX4_numberOf_61 ?_
  refine lv_iconst (v := nI 4) hx hb dX4_numberOf_64 (by decide) ?_
  refine lv_iload_n hx hb dX4_numberOf_65 rfl (lv_at hl 1 rfl) ?_
  refine z_add (v := nI (4 + n)) hx hb dX4_numberOf_66 (nI_add _ _) ?_
  refine z_iald (n := 511) (f := v 0) (v := v 0 (4 + n)) hx hb hKK hP 1 rfl (by omega) (by decide) rfl dX4_numberOf_67 ?_
  refine lv_goto (tgt := 73) hx hb dX4_numberOf_68 (by decide) ?_
  exact z_iret hx hb hr hlk hP hD hS dX4_numberOf_73 rfl rfl

set_option maxHeartbeats 4000000 in
set_option maxRecDepth 100000 in
theorem c_X4_numberOf_0z (l : Launch) (G : ZG) (a : Nat → Nat) (v : Mem) (y : Nat → Nat) (n : Nat) (hn : n < 40) (h0 : v 0 (4 + n) = 0) : CI l G yX4_numberOf wsX4_numberOf (zRm 1 23) [.ref (a 0), .int (nI n), .int (nI 0)] (modW G a v y) ((-1000004)) (modW G a v y) := by
  refine CI.ent (cc := cX4_numberOf) (maxL := 3) (ty := .int) (own := RX4) (by decide) rfl rfl (Nat.le_of_ble_eq_true rfl) ?_
  intro p ee s m args below meth c A ls F hr hlk hKK hP hD hA hS hl
  obtain ⟨hx, hb, hml, hown, hts⟩ := id F
  have hl : lv_has ls 3 [(0, .ref (a 0)), (1, .int (nI n)), (2, .int (nI 0))] := hl
  have ct_99 := hts (.constant RX4 99 (-1000004)) (by decide +kernel)
  refine lv_iload_n hx hb dX4_numberOf_0 rfl (lv_at hl 1 rfl) ?_
  refine lv_iconst (v := nI 0) hx hb dX4_numberOf_1 (by decide) ?_
  refine lv_bipush (v := nI 39) hx hb dX4_numberOf_2 (by decide) ?_
  refine z_callSI (As := [.int (nI n), .int (nI 0), .int (nI 39)]) (rest := []) F (c_X4_within_t l G (n) (0) (39) (by omega) (by omega) (by decide)) (va_cwS 3 hts gX4_numberOf_X4_within rfl rfl rfl (by decide +kernel) ⟨Nat.le_of_ble_eq_true rfl, Nat.le_of_ble_eq_true rfl⟩) hKK hP hD hS hA rfl hl.1 rfl (Nat.le_of_ble_eq_true rfl) ⟨Nat.zero_le _, Nat.zero_le _⟩ dX4_numberOf_4 (fun H locs hP hD hS => ?_)
  refine z_ifBeq (tgt := 19) hx hb dX4_numberOf_7 (by decide) (fun c_1 => absurd c_1 (by decide)) (fun c_1 => ?_)
  refine lv_iload_n hx hb dX4_numberOf_10 rfl (lv_at hl 2 rfl) ?_
  refine lv_iconst (v := nI 0) hx hb dX4_numberOf_11 (by decide) ?_
  refine lv_iconst (v := nI 4) hx hb dX4_numberOf_12 (by decide) ?_
  refine z_callSI (As := [.int (nI 0), .int (nI 0), .int (nI 4)]) (rest := []) F (c_X4_within_t l G (0) (0) (4) (by omega) (by omega) (by decide)) (va_cwS 3 hts gX4_numberOf_X4_within rfl rfl rfl (by decide +kernel) ⟨Nat.le_of_ble_eq_true rfl, Nat.le_of_ble_eq_true rfl⟩) hKK hP hD hS hA rfl hl.1 rfl (Nat.le_of_ble_eq_true rfl) ⟨Nat.zero_le _, Nat.zero_le _⟩ dX4_numberOf_13 (fun H locs hP hD hS => ?_)
  refine z_ifBne (tgt := 22) hx hb dX4_numberOf_16 (by decide) (fun c_2 => ?_) (fun c_2 => absurd c_2 (by decide))
  refine lv_iload_n hx hb dX4_numberOf_22 rfl (lv_at hl 2 rfl) ?_
  refine lv_tableIn (off := 29) (tgt := 52) hx hb dX4_numberOf_23 (by decide) (by decide) rfl (by decide) ?_
  refine lv_aload_n hx hb dX4_numberOf_52 rfl (lv_at hl 0 rfl) ?_
  refine lv_iload_n hx hb dX4_numberOf_53 rfl (lv_at hl 1 rfl) ?_
  refine z_callVI (As := [.int (nI n)]) (rest := []) (wr := []) (C := RX4) F (c_X4_isNamed l G a v y (n) (by omega)) (cwV 1 hts gX4_numberOf_X4_isNamed rfl rfl rfl (by decide +kernel) ⟨Nat.le_of_ble_eq_true rfl, Nat.le_of_ble_eq_true rfl⟩) hKK (z_recv hKK hP (q0 := 0) (ci := 4) rfl rfl) hP hD hS hA rfl hl.1 rfl (Nat.le_of_ble_eq_true rfl) ⟨Nat.zero_le _, Nat.zero_le _⟩ dX4_numberOf_54 (fun H locs hP hD hS => ?_)
  have hP : va_P G.1 vwCl (modW G a v y) H := hP
  have hD : va_D A (modW G a v y) := hD
  refine z_ifBeq (tgt := 71) hx hb dX4_numberOf_57 (by decide) (fun c_3 => ?_) (fun c_3 => absurd h0 (of_decide_eq_true c_3))
  refine z_ldc (v' := (-1000004)) hx hb hown ct_99 dX4_numberOf_71 rfl ?_
  exact z_iret hx hb hr hlk hP hD hS dX4_numberOf_73 rfl rfl

set_option maxHeartbeats 4000000 in
set_option maxRecDepth 100000 in
theorem c_X4_numberOf_1 (l : Launch) (G : ZG) (a : Nat → Nat) (v : Mem) (y : Nat → Nat) (n : Nat) (hn : n < 40) : CI l G yX4_numberOf wsX4_numberOf (zRm 1 23) [.ref (a 0), .int (nI n), .int (nI 1)] (modW G a v y) (v 0 (44 + n)) (modW G a v y) := by
  refine CI.ent (cc := cX4_numberOf) (maxL := 3) (ty := .int) (own := RX4) (by decide) rfl rfl (Nat.le_of_ble_eq_true rfl) ?_
  intro p ee s m args below meth c A ls F hr hlk hKK hP hD hA hS hl
  obtain ⟨hx, hb, hml, hown, hts⟩ := id F
  have hl : lv_has ls 3 [(0, .ref (a 0)), (1, .int (nI n)), (2, .int (nI 1))] := hl
  have fl_7 := hts (.fieldLink RX4 7 "NameRollsModel" "now" "[I") (by decide +kernel)
  have hinX4 : ∀ w ∈ wsX40, w ∈ wsX4_numberOf := by decide +kernel
  refine lv_iload_n hx hb dX4_numberOf_0 rfl (lv_at hl 1 rfl) ?_
  refine lv_iconst (v := nI 0) hx hb dX4_numberOf_1 (by decide) ?_
  refine lv_bipush (v := nI 39) hx hb dX4_numberOf_2 (by decide) ?_
  refine z_callSI (As := [.int (nI n), .int (nI 0), .int (nI 39)]) (rest := []) F (c_X4_within_t l G (n) (0) (39) (by omega) (by omega) (by decide)) (va_cwS 3 hts gX4_numberOf_X4_within rfl rfl rfl (by decide +kernel) ⟨Nat.le_of_ble_eq_true rfl, Nat.le_of_ble_eq_true rfl⟩) hKK hP hD hS hA rfl hl.1 rfl (Nat.le_of_ble_eq_true rfl) ⟨Nat.zero_le _, Nat.zero_le _⟩ dX4_numberOf_4 (fun H locs hP hD hS => ?_)
  refine z_ifBeq (tgt := 19) hx hb dX4_numberOf_7 (by decide) (fun c_1 => absurd c_1 (by decide)) (fun c_1 => ?_)
  refine lv_iload_n hx hb dX4_numberOf_10 rfl (lv_at hl 2 rfl) ?_
  refine lv_iconst (v := nI 0) hx hb dX4_numberOf_11 (by decide) ?_
  refine lv_iconst (v := nI 4) hx hb dX4_numberOf_12 (by decide) ?_
  refine z_callSI (As := [.int (nI 1), .int (nI 0), .int (nI 4)]) (rest := []) F (c_X4_within_t l G (1) (0) (4) (by omega) (by omega) (by decide)) (va_cwS 3 hts gX4_numberOf_X4_within rfl rfl rfl (by decide +kernel) ⟨Nat.le_of_ble_eq_true rfl, Nat.le_of_ble_eq_true rfl⟩) hKK hP hD hS hA rfl hl.1 rfl (Nat.le_of_ble_eq_true rfl) ⟨Nat.zero_le _, Nat.zero_le _⟩ dX4_numberOf_13 (fun H locs hP hD hS => ?_)
  refine z_ifBne (tgt := 22) hx hb dX4_numberOf_16 (by decide) (fun c_2 => ?_) (fun c_2 => absurd c_2 (by decide))
  refine lv_iload_n hx hb dX4_numberOf_22 rfl (lv_at hl 2 rfl) ?_
  refine lv_tableIn (off := 51) (tgt := 74) hx hb dX4_numberOf_23 (by decide) (by decide) rfl (by decide) ?_
  refine lv_aload_n hx hb dX4_numberOf_74 rfl (lv_at hl 0 rfl) ?_
  refine va_get (D := G.1) (ci := 4) (v := .ref (a 1)) (C := RX4) (T := TX4) (N := 17) hx hb hts hinX4 hown hKK.1 hP 0 rfl rfl 0 (by decide) fl_7 (fun _ h9 => h9) rfl dX4_numberOf_75 ?_
  refine lv_bipush (v := nI 44) hx hb dX4_numberOf_78 (by decide) ?_
  refine lv_iload_n hx hb dX4_numberOf_80 rfl (lv_at hl 1 rfl) ?_
  refine z_add (v := nI (44 + n)) hx hb dX4_numberOf_81 (nI_add _ _) ?_
  refine z_iald (n := 511) (f := v 0) (v := v 0 (44 + n)) hx hb hKK hP 1 rfl (by omega) (by decide) rfl dX4_numberOf_82 ?_
  exact z_iret hx hb hr hlk hP hD hS dX4_numberOf_83 rfl rfl

set_option maxHeartbeats 4000000 in
set_option maxRecDepth 100000 in
theorem c_X4_numberOf_2 (l : Launch) (G : ZG) (a : Nat → Nat) (v : Mem) (y : Nat → Nat) (n : Nat) (hn : n < 40) : CI l G yX4_numberOf wsX4_numberOf (zRm 1 23) [.ref (a 0), .int (nI n), .int (nI 2)] (modW G a v y) (nI (zCells (rC (v 0)) (nI n))) (modW G a v y) := by
  refine CI.ent (cc := cX4_numberOf) (maxL := 3) (ty := .int) (own := RX4) (by decide) rfl rfl (Nat.le_of_ble_eq_true rfl) ?_
  intro p ee s m args below meth c A ls F hr hlk hKK hP hD hA hS hl
  obtain ⟨hx, hb, hml, hown, hts⟩ := id F
  have hl : lv_has ls 3 [(0, .ref (a 0)), (1, .int (nI n)), (2, .int (nI 2))] := hl
  refine lv_iload_n hx hb dX4_numberOf_0 rfl (lv_at hl 1 rfl) ?_
  refine lv_iconst (v := nI 0) hx hb dX4_numberOf_1 (by decide) ?_
  refine lv_bipush (v := nI 39) hx hb dX4_numberOf_2 (by decide) ?_
  refine z_callSI (As := [.int (nI n), .int (nI 0), .int (nI 39)]) (rest := []) F (c_X4_within_t l G (n) (0) (39) (by omega) (by omega) (by decide)) (va_cwS 3 hts gX4_numberOf_X4_within rfl rfl rfl (by decide +kernel) ⟨Nat.le_of_ble_eq_true rfl, Nat.le_of_ble_eq_true rfl⟩) hKK hP hD hS hA rfl hl.1 rfl (Nat.le_of_ble_eq_true rfl) ⟨Nat.zero_le _, Nat.zero_le _⟩ dX4_numberOf_4 (fun H locs hP hD hS => ?_)
  refine z_ifBeq (tgt := 19) hx hb dX4_numberOf_7 (by decide) (fun c_1 => absurd c_1 (by decide)) (fun c_1 => ?_)
  refine lv_iload_n hx hb dX4_numberOf_10 rfl (lv_at hl 2 rfl) ?_
  refine lv_iconst (v := nI 0) hx hb dX4_numberOf_11 (by decide) ?_
  refine lv_iconst (v := nI 4) hx hb dX4_numberOf_12 (by decide) ?_
  refine z_callSI (As := [.int (nI 2), .int (nI 0), .int (nI 4)]) (rest := []) F (c_X4_within_t l G (2) (0) (4) (by omega) (by omega) (by decide)) (va_cwS 3 hts gX4_numberOf_X4_within rfl rfl rfl (by decide +kernel) ⟨Nat.le_of_ble_eq_true rfl, Nat.le_of_ble_eq_true rfl⟩) hKK hP hD hS hA rfl hl.1 rfl (Nat.le_of_ble_eq_true rfl) ⟨Nat.zero_le _, Nat.zero_le _⟩ dX4_numberOf_13 (fun H locs hP hD hS => ?_)
  refine z_ifBne (tgt := 22) hx hb dX4_numberOf_16 (by decide) (fun c_2 => ?_) (fun c_2 => absurd c_2 (by decide))
  refine lv_iload_n hx hb dX4_numberOf_22 rfl (lv_at hl 2 rfl) ?_
  refine lv_tableIn (off := 61) (tgt := 84) hx hb dX4_numberOf_23 (by decide) (by decide) rfl (by decide) ?_
  refine lv_aload_n hx hb dX4_numberOf_84 rfl (lv_at hl 0 rfl) ?_
  refine lv_iload_n hx hb dX4_numberOf_85 rfl (lv_at hl 1 rfl) ?_
  refine z_callVI (As := [.int (nI n)]) (rest := []) (wr := []) (C := RX4) F (c_X4_cellsWith l G a v y (nI n)) (cwV 1 hts gX4_numberOf_X4_cellsWith rfl rfl rfl (by decide +kernel) ⟨Nat.le_of_ble_eq_true rfl, Nat.le_of_ble_eq_true rfl⟩) hKK (z_recv hKK hP (q0 := 0) (ci := 4) rfl rfl) hP hD hS hA rfl hl.1 rfl (Nat.le_of_ble_eq_true rfl) ⟨Nat.zero_le _, Nat.zero_le _⟩ dX4_numberOf_86 (fun H locs hP hD hS => ?_)
  have hP : va_P G.1 vwCl (modW G a v y) H := hP
  have hD : va_D A (modW G a v y) := hD
  exact z_iret hx hb hr hlk hP hD hS dX4_numberOf_89 rfl rfl

set_option maxHeartbeats 4000000 in
set_option maxRecDepth 100000 in
theorem c_X4_numberOf_3 (l : Launch) (G : ZG) (a : Nat → Nat) (v : Mem) (y : Nat → Nat) (n : Nat) (hn : n < 40) : CI l G yX4_numberOf wsX4_numberOf (zRm 1 23) [.ref (a 0), .int (nI n), .int (nI 3)] (modW G a v y) (v 0 (84 + n)) (modW G a v y) := by
  refine CI.ent (cc := cX4_numberOf) (maxL := 3) (ty := .int) (own := RX4) (by decide) rfl rfl (Nat.le_of_ble_eq_true rfl) ?_
  intro p ee s m args below meth c A ls F hr hlk hKK hP hD hA hS hl
  obtain ⟨hx, hb, hml, hown, hts⟩ := id F
  have hl : lv_has ls 3 [(0, .ref (a 0)), (1, .int (nI n)), (2, .int (nI 3))] := hl
  have fl_7 := hts (.fieldLink RX4 7 "NameRollsModel" "now" "[I") (by decide +kernel)
  have hinX4 : ∀ w ∈ wsX40, w ∈ wsX4_numberOf := by decide +kernel
  refine lv_iload_n hx hb dX4_numberOf_0 rfl (lv_at hl 1 rfl) ?_
  refine lv_iconst (v := nI 0) hx hb dX4_numberOf_1 (by decide) ?_
  refine lv_bipush (v := nI 39) hx hb dX4_numberOf_2 (by decide) ?_
  refine z_callSI (As := [.int (nI n), .int (nI 0), .int (nI 39)]) (rest := []) F (c_X4_within_t l G (n) (0) (39) (by omega) (by omega) (by decide)) (va_cwS 3 hts gX4_numberOf_X4_within rfl rfl rfl (by decide +kernel) ⟨Nat.le_of_ble_eq_true rfl, Nat.le_of_ble_eq_true rfl⟩) hKK hP hD hS hA rfl hl.1 rfl (Nat.le_of_ble_eq_true rfl) ⟨Nat.zero_le _, Nat.zero_le _⟩ dX4_numberOf_4 (fun H locs hP hD hS => ?_)
  refine z_ifBeq (tgt := 19) hx hb dX4_numberOf_7 (by decide) (fun c_1 => absurd c_1 (by decide)) (fun c_1 => ?_)
  refine lv_iload_n hx hb dX4_numberOf_10 rfl (lv_at hl 2 rfl) ?_
  refine lv_iconst (v := nI 0) hx hb dX4_numberOf_11 (by decide) ?_
  refine lv_iconst (v := nI 4) hx hb dX4_numberOf_12 (by decide) ?_
  refine z_callSI (As := [.int (nI 3), .int (nI 0), .int (nI 4)]) (rest := []) F (c_X4_within_t l G (3) (0) (4) (by omega) (by omega) (by decide)) (va_cwS 3 hts gX4_numberOf_X4_within rfl rfl rfl (by decide +kernel) ⟨Nat.le_of_ble_eq_true rfl, Nat.le_of_ble_eq_true rfl⟩) hKK hP hD hS hA rfl hl.1 rfl (Nat.le_of_ble_eq_true rfl) ⟨Nat.zero_le _, Nat.zero_le _⟩ dX4_numberOf_13 (fun H locs hP hD hS => ?_)
  refine z_ifBne (tgt := 22) hx hb dX4_numberOf_16 (by decide) (fun c_2 => ?_) (fun c_2 => absurd c_2 (by decide))
  refine lv_iload_n hx hb dX4_numberOf_22 rfl (lv_at hl 2 rfl) ?_
  refine lv_tableIn (off := 67) (tgt := 90) hx hb dX4_numberOf_23 (by decide) (by decide) rfl (by decide) ?_
  refine lv_aload_n hx hb dX4_numberOf_90 rfl (lv_at hl 0 rfl) ?_
  refine va_get (D := G.1) (ci := 4) (v := .ref (a 1)) (C := RX4) (T := TX4) (N := 17) hx hb hts hinX4 hown hKK.1 hP 0 rfl rfl 0 (by decide) fl_7 (fun _ h9 => h9) rfl dX4_numberOf_91 ?_
  refine lv_bipush (v := nI 84) hx hb dX4_numberOf_94 (by decide) ?_
  refine lv_iload_n hx hb dX4_numberOf_96 rfl (lv_at hl 1 rfl) ?_
  refine z_add (v := nI (84 + n)) hx hb dX4_numberOf_97 (nI_add _ _) ?_
  refine z_iald (n := 511) (f := v 0) (v := v 0 (84 + n)) hx hb hKK hP 1 rfl (by omega) (by decide) rfl dX4_numberOf_98 ?_
  exact z_iret hx hb hr hlk hP hD hS dX4_numberOf_99 rfl rfl

set_option maxHeartbeats 4000000 in
set_option maxRecDepth 100000 in
theorem c_X4_numberOf_4n (l : Launch) (G : ZG) (a : Nat → Nat) (v : Mem) (y : Nat → Nat) (n : Nat) (hn : n < 40) (h0 : ¬ v 0 (4 + n) = 0) : CI l G yX4_numberOf wsX4_numberOf (zRm 1 23) [.ref (a 0), .int (nI n), .int (nI 4)] (modW G a v y) (mTag (v 0) n) (modW G a v y) := by
  refine CI.ent (cc := cX4_numberOf) (maxL := 3) (ty := .int) (own := RX4) (by decide) rfl rfl (Nat.le_of_ble_eq_true rfl) ?_
  intro p ee s m args below meth c A ls F hr hlk hKK hP hD hA hS hl
  obtain ⟨hx, hb, hml, hown, hts⟩ := id F
  have hl : lv_has ls 3 [(0, .ref (a 0)), (1, .int (nI n)), (2, .int (nI 4))] := hl
  refine lv_iload_n hx hb dX4_numberOf_0 rfl (lv_at hl 1 rfl) ?_
  refine lv_iconst (v := nI 0) hx hb dX4_numberOf_1 (by decide) ?_
  refine lv_bipush (v := nI 39) hx hb dX4_numberOf_2 (by decide) ?_
  refine z_callSI (As := [.int (nI n), .int (nI 0), .int (nI 39)]) (rest := []) F (c_X4_within_t l G (n) (0) (39) (by omega) (by omega) (by decide)) (va_cwS 3 hts gX4_numberOf_X4_within rfl rfl rfl (by decide +kernel) ⟨Nat.le_of_ble_eq_true rfl, Nat.le_of_ble_eq_true rfl⟩) hKK hP hD hS hA rfl hl.1 rfl (Nat.le_of_ble_eq_true rfl) ⟨Nat.zero_le _, Nat.zero_le _⟩ dX4_numberOf_4 (fun H locs hP hD hS => ?_)
  refine z_ifBeq (tgt := 19) hx hb dX4_numberOf_7 (by decide) (fun c_1 => absurd c_1 (by decide)) (fun c_1 => ?_)
  refine lv_iload_n hx hb dX4_numberOf_10 rfl (lv_at hl 2 rfl) ?_
  refine lv_iconst (v := nI 0) hx hb dX4_numberOf_11 (by decide) ?_
  refine lv_iconst (v := nI 4) hx hb dX4_numberOf_12 (by decide) ?_
  refine z_callSI (As := [.int (nI 4), .int (nI 0), .int (nI 4)]) (rest := []) F (c_X4_within_t l G (4) (0) (4) (by omega) (by omega) (by decide)) (va_cwS 3 hts gX4_numberOf_X4_within rfl rfl rfl (by decide +kernel) ⟨Nat.le_of_ble_eq_true rfl, Nat.le_of_ble_eq_true rfl⟩) hKK hP hD hS hA rfl hl.1 rfl (Nat.le_of_ble_eq_true rfl) ⟨Nat.zero_le _, Nat.zero_le _⟩ dX4_numberOf_13 (fun H locs hP hD hS => ?_)
  refine z_ifBne (tgt := 22) hx hb dX4_numberOf_16 (by decide) (fun c_2 => ?_) (fun c_2 => absurd c_2 (by decide))
  refine lv_iload_n hx hb dX4_numberOf_22 rfl (lv_at hl 2 rfl) ?_
  refine lv_tableOut (tgt := 100) hx hb dX4_numberOf_23 (by decide) (by decide) ?_
  refine lv_aload_n hx hb dX4_numberOf_100 rfl (lv_at hl 0 rfl) ?_
  refine lv_iload_n hx hb dX4_numberOf_101 rfl (lv_at hl 1 rfl) ?_
  refine z_callVI (As := [.int (nI n)]) (rest := []) (wr := []) (C := RX4) F (c_X4_isNamed l G a v y (n) (by omega)) (cwV 1 hts gX4_numberOf_X4_isNamed rfl rfl rfl (by decide +kernel) ⟨Nat.le_of_ble_eq_true rfl, Nat.le_of_ble_eq_true rfl⟩) hKK (z_recv hKK hP (q0 := 0) (ci := 4) rfl rfl) hP hD hS hA rfl hl.1 rfl (Nat.le_of_ble_eq_true rfl) ⟨Nat.zero_le _, Nat.zero_le _⟩ dX4_numberOf_102 (fun H locs hP hD hS => ?_)
  have hP : va_P G.1 vwCl (modW G a v y) H := hP
  have hD : va_D A (modW G a v y) := hD
  refine z_ifBeq (tgt := 116) hx hb dX4_numberOf_105 (by decide) (fun c_3 => absurd h0 (of_decide_eq_false c_3)) (fun c_3 => ?_)
  refine lv_aload_n hx hb dX4_numberOf_108 rfl (lv_at hl 0 rfl) ?_
  refine lv_iload_n hx hb dX4_numberOf_109 rfl (lv_at hl 1 rfl) ?_
  refine z_callVI (As := [.int (nI n)]) (rest := []) (wr := []) (C := RX4) F (c_X4_tagOf l G a v y (n) (by omega)) (cwV 1 hts gX4_numberOf_X4_tagOf rfl rfl rfl (by decide +kernel) ⟨Nat.le_of_ble_eq_true rfl, Nat.le_of_ble_eq_true rfl⟩) hKK (z_recv hKK hP (q0 := 0) (ci := 4) rfl rfl) hP hD hS hA rfl hl.1 rfl (Nat.le_of_ble_eq_true rfl) ⟨Nat.zero_le _, Nat.zero_le _⟩ dX4_numberOf_110 (fun H locs hP hD hS => ?_)
  have hP : va_P G.1 vwCl (modW G a v y) H := hP
  have hD : va_D A (modW G a v y) := hD
  refine lv_goto (tgt := 118) hx hb dX4_numberOf_113 (by decide) ?_
  exact z_iret hx hb hr hlk hP hD hS dX4_numberOf_118 rfl rfl

set_option maxHeartbeats 4000000 in
set_option maxRecDepth 100000 in
theorem c_X4_numberOf_4z (l : Launch) (G : ZG) (a : Nat → Nat) (v : Mem) (y : Nat → Nat) (n : Nat) (hn : n < 40) (h0 : v 0 (4 + n) = 0) : CI l G yX4_numberOf wsX4_numberOf (zRm 1 23) [.ref (a 0), .int (nI n), .int (nI 4)] (modW G a v y) ((-1000004)) (modW G a v y) := by
  refine CI.ent (cc := cX4_numberOf) (maxL := 3) (ty := .int) (own := RX4) (by decide) rfl rfl (Nat.le_of_ble_eq_true rfl) ?_
  intro p ee s m args below meth c A ls F hr hlk hKK hP hD hA hS hl
  obtain ⟨hx, hb, hml, hown, hts⟩ := id F
  have hl : lv_has ls 3 [(0, .ref (a 0)), (1, .int (nI n)), (2, .int (nI 4))] := hl
  have ct_99 := hts (.constant RX4 99 (-1000004)) (by decide +kernel)
  refine lv_iload_n hx hb dX4_numberOf_0 rfl (lv_at hl 1 rfl) ?_
  refine lv_iconst (v := nI 0) hx hb dX4_numberOf_1 (by decide) ?_
  refine lv_bipush (v := nI 39) hx hb dX4_numberOf_2 (by decide) ?_
  refine z_callSI (As := [.int (nI n), .int (nI 0), .int (nI 39)]) (rest := []) F (c_X4_within_t l G (n) (0) (39) (by omega) (by omega) (by decide)) (va_cwS 3 hts gX4_numberOf_X4_within rfl rfl rfl (by decide +kernel) ⟨Nat.le_of_ble_eq_true rfl, Nat.le_of_ble_eq_true rfl⟩) hKK hP hD hS hA rfl hl.1 rfl (Nat.le_of_ble_eq_true rfl) ⟨Nat.zero_le _, Nat.zero_le _⟩ dX4_numberOf_4 (fun H locs hP hD hS => ?_)
  refine z_ifBeq (tgt := 19) hx hb dX4_numberOf_7 (by decide) (fun c_1 => absurd c_1 (by decide)) (fun c_1 => ?_)
  refine lv_iload_n hx hb dX4_numberOf_10 rfl (lv_at hl 2 rfl) ?_
  refine lv_iconst (v := nI 0) hx hb dX4_numberOf_11 (by decide) ?_
  refine lv_iconst (v := nI 4) hx hb dX4_numberOf_12 (by decide) ?_
  refine z_callSI (As := [.int (nI 4), .int (nI 0), .int (nI 4)]) (rest := []) F (c_X4_within_t l G (4) (0) (4) (by omega) (by omega) (by decide)) (va_cwS 3 hts gX4_numberOf_X4_within rfl rfl rfl (by decide +kernel) ⟨Nat.le_of_ble_eq_true rfl, Nat.le_of_ble_eq_true rfl⟩) hKK hP hD hS hA rfl hl.1 rfl (Nat.le_of_ble_eq_true rfl) ⟨Nat.zero_le _, Nat.zero_le _⟩ dX4_numberOf_13 (fun H locs hP hD hS => ?_)
  refine z_ifBne (tgt := 22) hx hb dX4_numberOf_16 (by decide) (fun c_2 => ?_) (fun c_2 => absurd c_2 (by decide))
  refine lv_iload_n hx hb dX4_numberOf_22 rfl (lv_at hl 2 rfl) ?_
  refine lv_tableOut (tgt := 100) hx hb dX4_numberOf_23 (by decide) (by decide) ?_
  refine lv_aload_n hx hb dX4_numberOf_100 rfl (lv_at hl 0 rfl) ?_
  refine lv_iload_n hx hb dX4_numberOf_101 rfl (lv_at hl 1 rfl) ?_
  refine z_callVI (As := [.int (nI n)]) (rest := []) (wr := []) (C := RX4) F (c_X4_isNamed l G a v y (n) (by omega)) (cwV 1 hts gX4_numberOf_X4_isNamed rfl rfl rfl (by decide +kernel) ⟨Nat.le_of_ble_eq_true rfl, Nat.le_of_ble_eq_true rfl⟩) hKK (z_recv hKK hP (q0 := 0) (ci := 4) rfl rfl) hP hD hS hA rfl hl.1 rfl (Nat.le_of_ble_eq_true rfl) ⟨Nat.zero_le _, Nat.zero_le _⟩ dX4_numberOf_102 (fun H locs hP hD hS => ?_)
  have hP : va_P G.1 vwCl (modW G a v y) H := hP
  have hD : va_D A (modW G a v y) := hD
  refine z_ifBeq (tgt := 116) hx hb dX4_numberOf_105 (by decide) (fun c_3 => ?_) (fun c_3 => absurd h0 (of_decide_eq_true c_3))
  refine z_ldc (v' := (-1000004)) hx hb hown ct_99 dX4_numberOf_116 rfl ?_
  exact z_iret hx hb hr hlk hP hD hS dX4_numberOf_118 rfl rfl

set_option maxHeartbeats 4000000 in
set_option maxRecDepth 100000 in
theorem c_X4_find_bad (l : Launch) (G : ZG) (a : Nat → Nat) (v : Mem) (y : Nat → Nat) (x : Int32) (h9 : zName x = false) : CI l G yX4_find wsX4_find (zRm 2 44) [.ref (a 0), .int x] (modW G a v y) ((-1000001)) (modW G a v y) := by
  refine CI.ent (cc := cX4_find) (maxL := 3) (ty := .int) (own := RX4) (by decide) rfl rfl (Nat.le_of_ble_eq_true rfl) ?_
  intro p ee s m args below meth c A ls F hr hlk hKK hP hD hA hS hl
  obtain ⟨hx, hb, hml, hown, hts⟩ := id F
  have hl : lv_has ls 3 [(0, .ref (a 0)), (1, .int x)] := hl
  have ct_61 := hts (.constant RX4 61 (-1000001)) (by decide +kernel)
  refine lv_iload_n hx hb dX4_find_0 rfl (lv_at hl 1 rfl) ?_
  refine z_callSI (As := [.int x]) (rest := []) F (c_X4_isName l G x) (va_cwS 1 hts gX4_find_X4_isName rfl rfl rfl (by decide +kernel) ⟨Nat.le_of_ble_eq_true rfl, Nat.le_of_ble_eq_true rfl⟩) hKK hP hD hS hA rfl hl.1 rfl (Nat.le_of_ble_eq_true rfl) ⟨Nat.zero_le _, Nat.zero_le _⟩ dX4_find_1 (fun H locs hP hD hS => ?_)
  refine z_top (v := bI (false)) (by rw [h9]) ?_
  refine z_ifBne (tgt := 10) hx hb dX4_find_4 (by decide) (fun c_1 => absurd c_1 (by decide)) (fun c_1 => ?_)
  refine z_ldc (v' := (-1000001)) hx hb hown ct_61 dX4_find_7 rfl ?_
  exact z_iret hx hb hr hlk hP hD hS dX4_find_9 rfl rfl

set_option maxHeartbeats 4000000 in
set_option maxRecDepth 100000 in
theorem c_X4_find_no (l : Launch) (G : ZG) (a : Nat → Nat) (v : Mem) (y : Nat → Nat) (x : Int32) (h9 : zName x = true) (h : zNum (rN (v 0)) x = -1) : CI l G yX4_find wsX4_find (zRm 2 44) [.ref (a 0), .int x] (modW G a v y) ((-1000004)) (modW G a v y) := by
  refine CI.ent (cc := cX4_find) (maxL := 3) (ty := .int) (own := RX4) (by decide) rfl rfl (Nat.le_of_ble_eq_true rfl) ?_
  intro p ee s m args below meth c A ls F hr hlk hKK hP hD hA hS hl
  obtain ⟨hx, hb, hml, hown, hts⟩ := id F
  have hl : lv_has ls 3 [(0, .ref (a 0)), (1, .int x)] := hl
  have ct_99 := hts (.constant RX4 99 (-1000004)) (by decide +kernel)
  refine lv_iload_n hx hb dX4_find_0 rfl (lv_at hl 1 rfl) ?_
  refine z_callSI (As := [.int x]) (rest := []) F (c_X4_isName l G x) (va_cwS 1 hts gX4_find_X4_isName rfl rfl rfl (by decide +kernel) ⟨Nat.le_of_ble_eq_true rfl, Nat.le_of_ble_eq_true rfl⟩) hKK hP hD hS hA rfl hl.1 rfl (Nat.le_of_ble_eq_true rfl) ⟨Nat.zero_le _, Nat.zero_le _⟩ dX4_find_1 (fun H locs hP hD hS => ?_)
  refine z_top (v := bI (true)) (by rw [h9]) ?_
  refine z_ifBne (tgt := 10) hx hb dX4_find_4 (by decide) (fun c_1 => ?_) (fun c_1 => absurd c_1 (by decide))
  refine lv_aload_n hx hb dX4_find_10 rfl (lv_at hl 0 rfl) ?_
  refine lv_iload_n hx hb dX4_find_11 rfl (lv_at hl 1 rfl) ?_
  refine z_callVI (As := [.int x]) (rest := []) (wr := []) (C := RX4) F (c_X4_numberWith l G a v y x) (cwV 1 hts gX4_find_X4_numberWith rfl rfl rfl (by decide +kernel) ⟨Nat.le_of_ble_eq_true rfl, Nat.le_of_ble_eq_true rfl⟩) hKK (z_recv hKK hP (q0 := 0) (ci := 4) rfl rfl) hP hD hS hA rfl hl.1 rfl (Nat.le_of_ble_eq_true rfl) ⟨Nat.zero_le _, Nat.zero_le _⟩ dX4_find_12 (fun H locs hP hD hS => ?_)
  have hP : va_P G.1 vwCl (modW G a v y) H := hP
  have hD : va_D A (modW G a v y) := hD
  refine z_top (v := (-1)) h ?_
  refine lv_istore_n (lv' := [(2, .int ((-1))), (0, .ref (a 0)), (1, .int x)]) hx hb dX4_find_15 rfl hl (by decide) rfl (fun ls hl => ?_)
  refine lv_iload_n hx hb dX4_find_16 rfl (lv_at hl 0 rfl) ?_
  refine lv_if_ge (tgt := 25) hx hb dX4_find_17 (by decide) (fun c_2 => absurd c_2 (by decide)) (fun c_2 => ?_)
  refine z_ldc (v' := (-1000004)) hx hb hown ct_99 dX4_find_20 rfl ?_
  refine lv_goto (tgt := 26) hx hb dX4_find_22 (by decide) ?_
  exact z_iret hx hb hr hlk hP hD hS dX4_find_26 rfl rfl

set_option maxHeartbeats 4000000 in
set_option maxRecDepth 100000 in
theorem c_X4_find_ok (l : Launch) (G : ZG) (a : Nat → Nat) (v : Mem) (y : Nat → Nat) (x : Int32) (n : Nat) (h9 : zName x = true) (hn : n < 40) (h : zNum (rN (v 0)) x = nI n) : CI l G yX4_find wsX4_find (zRm 2 44) [.ref (a 0), .int x] (modW G a v y) (nI n) (modW G a v y) := by
  refine CI.ent (cc := cX4_find) (maxL := 3) (ty := .int) (own := RX4) (by decide) rfl rfl (Nat.le_of_ble_eq_true rfl) ?_
  intro p ee s m args below meth c A ls F hr hlk hKK hP hD hA hS hl
  obtain ⟨hx, hb, hml, hown, hts⟩ := id F
  have hl : lv_has ls 3 [(0, .ref (a 0)), (1, .int x)] := hl
  refine lv_iload_n hx hb dX4_find_0 rfl (lv_at hl 1 rfl) ?_
  refine z_callSI (As := [.int x]) (rest := []) F (c_X4_isName l G x) (va_cwS 1 hts gX4_find_X4_isName rfl rfl rfl (by decide +kernel) ⟨Nat.le_of_ble_eq_true rfl, Nat.le_of_ble_eq_true rfl⟩) hKK hP hD hS hA rfl hl.1 rfl (Nat.le_of_ble_eq_true rfl) ⟨Nat.zero_le _, Nat.zero_le _⟩ dX4_find_1 (fun H locs hP hD hS => ?_)
  refine z_top (v := bI (true)) (by rw [h9]) ?_
  refine z_ifBne (tgt := 10) hx hb dX4_find_4 (by decide) (fun c_1 => ?_) (fun c_1 => absurd c_1 (by decide))
  refine lv_aload_n hx hb dX4_find_10 rfl (lv_at hl 0 rfl) ?_
  refine lv_iload_n hx hb dX4_find_11 rfl (lv_at hl 1 rfl) ?_
  refine z_callVI (As := [.int x]) (rest := []) (wr := []) (C := RX4) F (c_X4_numberWith l G a v y x) (cwV 1 hts gX4_find_X4_numberWith rfl rfl rfl (by decide +kernel) ⟨Nat.le_of_ble_eq_true rfl, Nat.le_of_ble_eq_true rfl⟩) hKK (z_recv hKK hP (q0 := 0) (ci := 4) rfl rfl) hP hD hS hA rfl hl.1 rfl (Nat.le_of_ble_eq_true rfl) ⟨Nat.zero_le _, Nat.zero_le _⟩ dX4_find_12 (fun H locs hP hD hS => ?_)
  have hP : va_P G.1 vwCl (modW G a v y) H := hP
  have hD : va_D A (modW G a v y) := hD
  refine z_top (v := nI n) h ?_
  refine lv_istore_n (lv' := [(2, .int (nI n)), (0, .ref (a 0)), (1, .int x)]) hx hb dX4_find_15 rfl hl (by decide) rfl (fun ls hl => ?_)
  refine lv_iload_n hx hb dX4_find_16 rfl (lv_at hl 0 rfl) ?_
  refine z_ifNge (tgt := 25) hx hb dX4_find_17 (by decide) (by omega) (fun c_2 => ?_) (fun c_2 => absurd c_2 (Nat.not_lt_zero _))
  refine lv_iload_n hx hb dX4_find_25 rfl (lv_at hl 0 rfl) ?_
  exact z_iret hx hb hr hlk hP hD hS dX4_find_26 rfl rfl

set_option maxHeartbeats 4000000 in
set_option maxRecDepth 100000 in
theorem c_X4_acquire_bad (l : Launch) (G : ZG) (a : Nat → Nat) (v : Mem) (y : Nat → Nat) (x : Int32) (h9 : zName x = false) : CI l G yX4_acquire wsX4_acquire (zRm 3 64) [.ref (a 0), .int x] (modW G a v y) ((-1000001)) (modW G a v y) := by
  refine CI.ent (cc := cX4_acquire) (maxL := 2) (ty := .int) (own := RX4) (by decide) rfl rfl (Nat.le_of_ble_eq_true rfl) ?_
  intro p ee s m args below meth c A ls F hr hlk hKK hP hD hA hS hl
  obtain ⟨hx, hb, hml, hown, hts⟩ := id F
  have hl : lv_has ls 2 [(0, .ref (a 0)), (1, .int x)] := hl
  have ct_61 := hts (.constant RX4 61 (-1000001)) (by decide +kernel)
  refine lv_iload_n hx hb dX4_acquire_0 rfl (lv_at hl 1 rfl) ?_
  refine z_callSI (As := [.int x]) (rest := []) F (c_X4_isName l G x) (va_cwS 1 hts gX4_acquire_X4_isName rfl rfl rfl (by decide +kernel) ⟨Nat.le_of_ble_eq_true rfl, Nat.le_of_ble_eq_true rfl⟩) hKK hP hD hS hA rfl hl.1 rfl (Nat.le_of_ble_eq_true rfl) ⟨Nat.zero_le _, Nat.zero_le _⟩ dX4_acquire_1 (fun H locs hP hD hS => ?_)
  refine z_top (v := bI (false)) (by rw [h9]) ?_
  refine z_ifBne (tgt := 10) hx hb dX4_acquire_4 (by decide) (fun c_1 => absurd c_1 (by decide)) (fun c_1 => ?_)
  refine z_ldc (v' := (-1000001)) hx hb hown ct_61 dX4_acquire_7 rfl ?_
  exact z_iret hx hb hr hlk hP hD hS dX4_acquire_9 rfl rfl

set_option maxHeartbeats 4000000 in
set_option maxRecDepth 100000 in
theorem c_X4_acquire_full (l : Launch) (G : ZG) (a : Nat → Nat) (v : Mem) (y : Nat → Nat) (x : Int32) (h9 : zName x = true) (n : Nat) (hn : n < 40) (h : zNum (rN (v 0)) x = nI n) (hu : nI 999 ≤ v 0 (44 + n)) : CI l G yX4_acquire wsX4_acquire (zRm 3 64) [.ref (a 0), .int x] (modW G a v y) ((-1000003)) (modW G a v y) := by
  refine CI.ent (cc := cX4_acquire) (maxL := 2) (ty := .int) (own := RX4) (by decide) rfl rfl (Nat.le_of_ble_eq_true rfl) ?_
  intro p ee s m args below meth c A ls F hr hlk hKK hP hD hA hS hl
  obtain ⟨hx, hb, hml, hown, hts⟩ := id F
  have hl : lv_has ls 2 [(0, .ref (a 0)), (1, .int x)] := hl
  have ct_65 := hts (.constant RX4 65 (-1000003)) (by decide +kernel)
  refine lv_iload_n hx hb dX4_acquire_0 rfl (lv_at hl 1 rfl) ?_
  refine z_callSI (As := [.int x]) (rest := []) F (c_X4_isName l G x) (va_cwS 1 hts gX4_acquire_X4_isName rfl rfl rfl (by decide +kernel) ⟨Nat.le_of_ble_eq_true rfl, Nat.le_of_ble_eq_true rfl⟩) hKK hP hD hS hA rfl hl.1 rfl (Nat.le_of_ble_eq_true rfl) ⟨Nat.zero_le _, Nat.zero_le _⟩ dX4_acquire_1 (fun H locs hP hD hS => ?_)
  refine z_top (v := bI (true)) (by rw [h9]) ?_
  refine z_ifBne (tgt := 10) hx hb dX4_acquire_4 (by decide) (fun c_1 => ?_) (fun c_1 => absurd c_1 (by decide))
  refine lv_aload_n hx hb dX4_acquire_10 rfl (lv_at hl 0 rfl) ?_
  refine lv_iload_n hx hb dX4_acquire_11 rfl (lv_at hl 1 rfl) ?_
  refine z_callVI (As := [.int x]) (rest := []) (wr := []) (C := RX4) F (c_X4_canAcquire_old l G a v y x n hn h) (cwV 1 hts gX4_acquire_X4_canAcquire rfl rfl rfl (by decide +kernel) ⟨Nat.le_of_ble_eq_true rfl, Nat.le_of_ble_eq_true rfl⟩) hKK (z_recv hKK hP (q0 := 0) (ci := 4) rfl rfl) hP hD hS hA rfl hl.1 rfl (Nat.le_of_ble_eq_true rfl) ⟨Nat.zero_le _, Nat.zero_le _⟩ dX4_acquire_12 (fun H locs hP hD hS => ?_)
  have hP : va_P G.1 vwCl (modW G a v y) H := hP
  have hD : va_D A (modW G a v y) := hD
  refine z_top (v := bI (false)) (by rw [decide_eq_false (fun q => q hu)]) ?_
  refine z_ifBne (tgt := 21) hx hb dX4_acquire_15 (by decide) (fun c_2 => absurd c_2 (by decide)) (fun c_2 => ?_)
  refine z_ldc (v' := (-1000003)) hx hb hown ct_65 dX4_acquire_18 rfl ?_
  exact z_iret hx hb hr hlk hP hD hS dX4_acquire_20 rfl rfl

set_option maxHeartbeats 4000000 in
set_option maxRecDepth 100000 in
theorem c_X4_acquire_no (l : Launch) (G : ZG) (a : Nat → Nat) (v : Mem) (y : Nat → Nat) (x : Int32) (h9 : zName x = true) (h : zNum (rN (v 0)) x = -1) (h2 : zNum (rN (v 0)) (nI 0) = -1) : CI l G yX4_acquire wsX4_acquire (zRm 3 64) [.ref (a 0), .int x] (modW G a v y) ((-1000003)) (modW G a v y) := by
  refine CI.ent (cc := cX4_acquire) (maxL := 2) (ty := .int) (own := RX4) (by decide) rfl rfl (Nat.le_of_ble_eq_true rfl) ?_
  intro p ee s m args below meth c A ls F hr hlk hKK hP hD hA hS hl
  obtain ⟨hx, hb, hml, hown, hts⟩ := id F
  have hl : lv_has ls 2 [(0, .ref (a 0)), (1, .int x)] := hl
  have ct_65 := hts (.constant RX4 65 (-1000003)) (by decide +kernel)
  refine lv_iload_n hx hb dX4_acquire_0 rfl (lv_at hl 1 rfl) ?_
  refine z_callSI (As := [.int x]) (rest := []) F (c_X4_isName l G x) (va_cwS 1 hts gX4_acquire_X4_isName rfl rfl rfl (by decide +kernel) ⟨Nat.le_of_ble_eq_true rfl, Nat.le_of_ble_eq_true rfl⟩) hKK hP hD hS hA rfl hl.1 rfl (Nat.le_of_ble_eq_true rfl) ⟨Nat.zero_le _, Nat.zero_le _⟩ dX4_acquire_1 (fun H locs hP hD hS => ?_)
  refine z_top (v := bI (true)) (by rw [h9]) ?_
  refine z_ifBne (tgt := 10) hx hb dX4_acquire_4 (by decide) (fun c_1 => ?_) (fun c_1 => absurd c_1 (by decide))
  refine lv_aload_n hx hb dX4_acquire_10 rfl (lv_at hl 0 rfl) ?_
  refine lv_iload_n hx hb dX4_acquire_11 rfl (lv_at hl 1 rfl) ?_
  refine z_callVI (As := [.int x]) (rest := []) (wr := []) (C := RX4) F (c_X4_canAcquire_no l G a v y x h h2) (cwV 1 hts gX4_acquire_X4_canAcquire rfl rfl rfl (by decide +kernel) ⟨Nat.le_of_ble_eq_true rfl, Nat.le_of_ble_eq_true rfl⟩) hKK (z_recv hKK hP (q0 := 0) (ci := 4) rfl rfl) hP hD hS hA rfl hl.1 rfl (Nat.le_of_ble_eq_true rfl) ⟨Nat.zero_le _, Nat.zero_le _⟩ dX4_acquire_12 (fun H locs hP hD hS => ?_)
  have hP : va_P G.1 vwCl (modW G a v y) H := hP
  have hD : va_D A (modW G a v y) := hD
  refine z_ifBne (tgt := 21) hx hb dX4_acquire_15 (by decide) (fun c_2 => absurd c_2 (by decide)) (fun c_2 => ?_)
  refine z_ldc (v' := (-1000003)) hx hb hown ct_65 dX4_acquire_18 rfl ?_
  exact z_iret hx hb hr hlk hP hD hS dX4_acquire_20 rfl rfl

set_option maxHeartbeats 4000000 in
set_option maxRecDepth 100000 in
theorem c_X4_acquire_old (l : Launch) (G : ZG) (a : Nat → Nat) (v : Mem) (y : Nat → Nat) (x : Int32) (h9 : zName x = true) (n : Nat) (hn : n < 40) (h : zNum (rN (v 0)) x = nI n) (hu : ¬ nI 999 ≤ v 0 (44 + n)) (s1 : Nat) (hs : y 0 = s1) (hs4 : s1 ≤ 4) : CI l G yX4_acquire wsX4_acquire (zRm 3 64) [.ref (a 0), .int x] (modW G a v y) (mTag (mEntO (v 0) n) n) (modW G a (mrow (mrow v 1 (svR (v 1) (v 0) s1)) 0 (mEntO (v 0) n)) (nup y 0 (svN s1))) := by
  refine CI.ent (cc := cX4_acquire) (maxL := 2) (ty := .int) (own := RX4) (by decide) rfl rfl (Nat.le_of_ble_eq_true rfl) ?_
  intro p ee s m args below meth c A ls F hr hlk hKK hP hD hA hS hl
  obtain ⟨hx, hb, hml, hown, hts⟩ := id F
  have hl : lv_has ls 2 [(0, .ref (a 0)), (1, .int x)] := hl
  refine lv_iload_n hx hb dX4_acquire_0 rfl (lv_at hl 1 rfl) ?_
  refine z_callSI (As := [.int x]) (rest := []) F (c_X4_isName l G x) (va_cwS 1 hts gX4_acquire_X4_isName rfl rfl rfl (by decide +kernel) ⟨Nat.le_of_ble_eq_true rfl, Nat.le_of_ble_eq_true rfl⟩) hKK hP hD hS hA rfl hl.1 rfl (Nat.le_of_ble_eq_true rfl) ⟨Nat.zero_le _, Nat.zero_le _⟩ dX4_acquire_1 (fun H locs hP hD hS => ?_)
  refine z_top (v := bI (true)) (by rw [h9]) ?_
  refine z_ifBne (tgt := 10) hx hb dX4_acquire_4 (by decide) (fun c_1 => ?_) (fun c_1 => absurd c_1 (by decide))
  refine lv_aload_n hx hb dX4_acquire_10 rfl (lv_at hl 0 rfl) ?_
  refine lv_iload_n hx hb dX4_acquire_11 rfl (lv_at hl 1 rfl) ?_
  refine z_callVI (As := [.int x]) (rest := []) (wr := []) (C := RX4) F (c_X4_canAcquire_old l G a v y x n hn h) (cwV 1 hts gX4_acquire_X4_canAcquire rfl rfl rfl (by decide +kernel) ⟨Nat.le_of_ble_eq_true rfl, Nat.le_of_ble_eq_true rfl⟩) hKK (z_recv hKK hP (q0 := 0) (ci := 4) rfl rfl) hP hD hS hA rfl hl.1 rfl (Nat.le_of_ble_eq_true rfl) ⟨Nat.zero_le _, Nat.zero_le _⟩ dX4_acquire_12 (fun H locs hP hD hS => ?_)
  have hP : va_P G.1 vwCl (modW G a v y) H := hP
  have hD : va_D A (modW G a v y) := hD
  refine z_top (v := bI (true)) (by rw [decide_eq_true hu]) ?_
  refine z_ifBne (tgt := 21) hx hb dX4_acquire_15 (by decide) (fun c_2 => ?_) (fun c_2 => absurd c_2 (by decide))
  refine lv_aload_n hx hb dX4_acquire_21 rfl (lv_at hl 0 rfl) ?_
  refine z_callVV (As := []) (rest := []) (wr := []) (C := RX4) F (c_X4_saves l G a v y s1 hs hs4) (cwV 0 hts gX4_acquire_X4_saves rfl rfl rfl (by decide +kernel) ⟨Nat.le_of_ble_eq_true rfl, Nat.le_of_ble_eq_true rfl⟩) hKK (z_recv hKK hP (q0 := 0) (ci := 4) rfl rfl) hP hD hS hA rfl hl.1 rfl (Nat.le_of_ble_eq_true rfl) ⟨Nat.zero_le _, Nat.zero_le _⟩ dX4_acquire_22 (fun H locs hP hD hS => ?_)
  have hP : va_P G.1 vwCl (modW G a (mrow v 1 (svR (v 1) (v 0) s1)) (nup y 0 (svN s1))) H := hP
  have hD : va_D A (modW G a (mrow v 1 (svR (v 1) (v 0) s1)) (nup y 0 (svN s1))) := hD
  refine lv_aload_n hx hb dX4_acquire_25 rfl (lv_at hl 0 rfl) ?_
  refine lv_iload_n hx hb dX4_acquire_26 rfl (lv_at hl 1 rfl) ?_
  refine z_callVI (As := [.int x]) (rest := []) (wr := []) (C := RX4) F (c_X4_acquires_old l G a (mrow v 1 (svR (v 1) (v 0) s1)) (nup y 0 (svN s1)) x n hn h) (cwV 1 hts gX4_acquire_X4_acquires rfl rfl rfl (by decide +kernel) ⟨Nat.le_of_ble_eq_true rfl, Nat.le_of_ble_eq_true rfl⟩) hKK (z_recv hKK hP (q0 := 0) (ci := 4) rfl rfl) hP hD hS hA rfl hl.1 rfl (Nat.le_of_ble_eq_true rfl) ⟨Nat.zero_le _, Nat.zero_le _⟩ dX4_acquire_27 (fun H locs hP hD hS => ?_)
  have hP : va_P G.1 vwCl (modW G a (mrow (mrow v 1 (svR (v 1) (v 0) s1)) 0 (mEntO (v 0) n)) (nup y 0 (svN s1))) H := hP
  have hD : va_D A (modW G a (mrow (mrow v 1 (svR (v 1) (v 0) s1)) 0 (mEntO (v 0) n)) (nup y 0 (svN s1))) := hD
  exact z_iret hx hb hr hlk hP hD hS dX4_acquire_30 rfl rfl

set_option maxHeartbeats 4000000 in
set_option maxRecDepth 100000 in
theorem c_X4_acquire_new (l : Launch) (G : ZG) (a : Nat → Nat) (v : Mem) (y : Nat → Nat) (x : Int32) (h9 : zName x = true) (n : Nat) (h : zNum (rN (v 0)) x = -1) (hn : n < 40) (h2 : zNum (rN (v 0)) (nI 0) = nI n) (s1 : Nat) (hs : y 0 = s1) (hs4 : s1 ≤ 4) : CI l G yX4_acquire wsX4_acquire (zRm 3 64) [.ref (a 0), .int x] (modW G a v y) (mTag (mEntN (v 0) n x) n) (modW G a (mrow (mrow v 1 (svR (v 1) (v 0) s1)) 0 (mEntN (v 0) n x)) (nup y 0 (svN s1))) := by
  refine CI.ent (cc := cX4_acquire) (maxL := 2) (ty := .int) (own := RX4) (by decide) rfl rfl (Nat.le_of_ble_eq_true rfl) ?_
  intro p ee s m args below meth c A ls F hr hlk hKK hP hD hA hS hl
  obtain ⟨hx, hb, hml, hown, hts⟩ := id F
  have hl : lv_has ls 2 [(0, .ref (a 0)), (1, .int x)] := hl
  refine lv_iload_n hx hb dX4_acquire_0 rfl (lv_at hl 1 rfl) ?_
  refine z_callSI (As := [.int x]) (rest := []) F (c_X4_isName l G x) (va_cwS 1 hts gX4_acquire_X4_isName rfl rfl rfl (by decide +kernel) ⟨Nat.le_of_ble_eq_true rfl, Nat.le_of_ble_eq_true rfl⟩) hKK hP hD hS hA rfl hl.1 rfl (Nat.le_of_ble_eq_true rfl) ⟨Nat.zero_le _, Nat.zero_le _⟩ dX4_acquire_1 (fun H locs hP hD hS => ?_)
  refine z_top (v := bI (true)) (by rw [h9]) ?_
  refine z_ifBne (tgt := 10) hx hb dX4_acquire_4 (by decide) (fun c_1 => ?_) (fun c_1 => absurd c_1 (by decide))
  refine lv_aload_n hx hb dX4_acquire_10 rfl (lv_at hl 0 rfl) ?_
  refine lv_iload_n hx hb dX4_acquire_11 rfl (lv_at hl 1 rfl) ?_
  refine z_callVI (As := [.int x]) (rest := []) (wr := []) (C := RX4) F (c_X4_canAcquire_new l G a v y x n h hn h2) (cwV 1 hts gX4_acquire_X4_canAcquire rfl rfl rfl (by decide +kernel) ⟨Nat.le_of_ble_eq_true rfl, Nat.le_of_ble_eq_true rfl⟩) hKK (z_recv hKK hP (q0 := 0) (ci := 4) rfl rfl) hP hD hS hA rfl hl.1 rfl (Nat.le_of_ble_eq_true rfl) ⟨Nat.zero_le _, Nat.zero_le _⟩ dX4_acquire_12 (fun H locs hP hD hS => ?_)
  have hP : va_P G.1 vwCl (modW G a v y) H := hP
  have hD : va_D A (modW G a v y) := hD
  refine z_ifBne (tgt := 21) hx hb dX4_acquire_15 (by decide) (fun c_2 => ?_) (fun c_2 => absurd c_2 (by decide))
  refine lv_aload_n hx hb dX4_acquire_21 rfl (lv_at hl 0 rfl) ?_
  refine z_callVV (As := []) (rest := []) (wr := []) (C := RX4) F (c_X4_saves l G a v y s1 hs hs4) (cwV 0 hts gX4_acquire_X4_saves rfl rfl rfl (by decide +kernel) ⟨Nat.le_of_ble_eq_true rfl, Nat.le_of_ble_eq_true rfl⟩) hKK (z_recv hKK hP (q0 := 0) (ci := 4) rfl rfl) hP hD hS hA rfl hl.1 rfl (Nat.le_of_ble_eq_true rfl) ⟨Nat.zero_le _, Nat.zero_le _⟩ dX4_acquire_22 (fun H locs hP hD hS => ?_)
  have hP : va_P G.1 vwCl (modW G a (mrow v 1 (svR (v 1) (v 0) s1)) (nup y 0 (svN s1))) H := hP
  have hD : va_D A (modW G a (mrow v 1 (svR (v 1) (v 0) s1)) (nup y 0 (svN s1))) := hD
  refine lv_aload_n hx hb dX4_acquire_25 rfl (lv_at hl 0 rfl) ?_
  refine lv_iload_n hx hb dX4_acquire_26 rfl (lv_at hl 1 rfl) ?_
  refine z_callVI (As := [.int x]) (rest := []) (wr := []) (C := RX4) F (c_X4_acquires_new l G a (mrow v 1 (svR (v 1) (v 0) s1)) (nup y 0 (svN s1)) x n h hn h2) (cwV 1 hts gX4_acquire_X4_acquires rfl rfl rfl (by decide +kernel) ⟨Nat.le_of_ble_eq_true rfl, Nat.le_of_ble_eq_true rfl⟩) hKK (z_recv hKK hP (q0 := 0) (ci := 4) rfl rfl) hP hD hS hA rfl hl.1 rfl (Nat.le_of_ble_eq_true rfl) ⟨Nat.zero_le _, Nat.zero_le _⟩ dX4_acquire_27 (fun H locs hP hD hS => ?_)
  have hP : va_P G.1 vwCl (modW G a (mrow (mrow v 1 (svR (v 1) (v 0) s1)) 0 (mEntN (v 0) n x)) (nup y 0 (svN s1))) H := hP
  have hD : va_D A (modW G a (mrow (mrow v 1 (svR (v 1) (v 0) s1)) 0 (mEntN (v 0) n x)) (nup y 0 (svN s1))) := hD
  exact z_iret hx hb hr hlk hP hD hS dX4_acquire_30 rfl rfl

set_option maxHeartbeats 4000000 in
set_option maxRecDepth 100000 in
theorem c_X4_nameAt_bad (l : Launch) (G : ZG) (a : Nat → Nat) (v : Mem) (y : Nat → Nat) (ρ x : Int32) (h9 : ¬ (zWi ρ 0 2 = true ∧ ¬ x < 0)) : CI l G yX4_nameAt wsX4_nameAt (zRm 3 67) [.ref (a 0), .int ρ, .int x] (modW G a v y) ((-1000001)) (modW G a v y) := by
  refine CI.ent (cc := cX4_nameAt) (maxL := 3) (ty := .int) (own := RX4) (by decide) rfl rfl (Nat.le_of_ble_eq_true rfl) ?_
  intro p ee s m args below meth c A ls F hr hlk hKK hP hD hA hS hl
  obtain ⟨hx, hb, hml, hown, hts⟩ := id F
  have hl : lv_has ls 3 [(0, .ref (a 0)), (1, .int ρ), (2, .int x)] := hl
  have ct_61 := hts (.constant RX4 61 (-1000001)) (by decide +kernel)
  refine lv_iload_n hx hb dX4_nameAt_0 rfl (lv_at hl 1 rfl) ?_
  refine lv_iconst (v := nI 0) hx hb dX4_nameAt_1 (by decide) ?_
  refine lv_iconst (v := nI 2) hx hb dX4_nameAt_2 (by decide) ?_
  refine z_callSI (As := [.int ρ, .int (nI 0), .int (nI 2)]) (rest := []) F (c_X4_within l G ρ (0) (2)) (va_cwS 3 hts gX4_nameAt_X4_within rfl rfl rfl (by decide +kernel) ⟨Nat.le_of_ble_eq_true rfl, Nat.le_of_ble_eq_true rfl⟩) hKK hP hD hS hA rfl hl.1 rfl (Nat.le_of_ble_eq_true rfl) ⟨Nat.zero_le _, Nat.zero_le _⟩ dX4_nameAt_3 (fun H locs hP hD hS => ?_)
  refine z_ifBeq (tgt := 13) hx hb dX4_nameAt_6 (by decide) (fun c_1 => ?_) (fun c_1 => ?_)
  · skip
    refine z_ldc (v' := (-1000001)) hx hb hown ct_61 dX4_nameAt_13 rfl ?_
    exact z_iret hx hb hr hlk hP hD hS dX4_nameAt_15 rfl rfl
  · skip
    refine lv_iload_n hx hb dX4_nameAt_9 rfl (lv_at hl 2 rfl) ?_
    refine lv_if_ge (tgt := 16) hx hb dX4_nameAt_10 (by decide) (fun c_2 => absurd ⟨c_1, Int32.not_lt.mpr c_2⟩ h9) (fun c_2 => ?_)
    refine z_ldc (v' := (-1000001)) hx hb hown ct_61 dX4_nameAt_13 rfl ?_
    exact z_iret hx hb hr hlk hP hD hS dX4_nameAt_15 rfl rfl

set_option maxHeartbeats 4000000 in
set_option maxRecDepth 100000 in
theorem c_X4_nameAt_ok (l : Launch) (G : ZG) (a : Nat → Nat) (v : Mem) (y : Nat → Nat) (ρ q : Nat) (hρ : ρ ≤ 2) (hq : q < 2 ^ 31) (hN : okNm (rN (v 0))) (hI : injN (rN (v 0))) : CIE l G yX4_nameAt wsX4_nameAt (zRm 3 67) [.ref (a 0), .int (nI ρ), .int (nI q)] (modW G a v y) (S := Nat → Int32) (fun r _ => naPost (v 0) ρ q r) (fun g => modW G a (mrow v 4 g) (nup y 2 (cntA (v 0)))) := by
  refine CIE.ent (cc := cX4_nameAt) (maxL := 3) (ty := .int) (own := RX4) (by decide) rfl rfl (Nat.le_of_ble_eq_true rfl) ?_
  intro p ee s m args below meth c A ls F hr hlk hKK hP hD hA hS hl
  obtain ⟨hx, hb, hml, hown, hts⟩ := id F
  have hl : lv_has ls 3 [(0, .ref (a 0)), (1, .int (nI ρ)), (2, .int (nI q))] := hl
  have ct_99 := hts (.constant RX4 99 (-1000004)) (by decide +kernel)
  have fl_7 := hts (.fieldLink RX4 7 "NameRollsModel" "now" "[I") (by decide +kernel)
  have fl_22 := hts (.fieldLink RX4 22 "NameRollsModel" "ranked" "[I") (by decide +kernel)
  have fl_103 := hts (.fieldLink RX4 103 "NameRollsModel" "named" "I") (by decide +kernel)
  have hinX4 : ∀ w ∈ wsX40, w ∈ wsX4_nameAt := by decide +kernel
  refine lv_iload_n hx hb dX4_nameAt_0 rfl (lv_at hl 1 rfl) ?_
  refine lv_iconst (v := nI 0) hx hb dX4_nameAt_1 (by decide) ?_
  refine lv_iconst (v := nI 2) hx hb dX4_nameAt_2 (by decide) ?_
  refine z_callSI (As := [.int (nI ρ), .int (nI 0), .int (nI 2)]) (rest := []) F (c_X4_within_t l G (ρ) (0) (2) (by omega) (by omega) (by decide)) (va_cwS 3 hts gX4_nameAt_X4_within rfl rfl rfl (by decide +kernel) ⟨Nat.le_of_ble_eq_true rfl, Nat.le_of_ble_eq_true rfl⟩) hKK hP hD hS hA rfl hl.1 rfl (Nat.le_of_ble_eq_true rfl) ⟨Nat.zero_le _, Nat.zero_le _⟩ dX4_nameAt_3 (fun H locs hP hD hS => ?_)
  refine z_ifBeq (tgt := 13) hx hb dX4_nameAt_6 (by decide) (fun c_1 => absurd c_1 (by decide)) (fun c_1 => ?_)
  refine lv_iload_n hx hb dX4_nameAt_9 rfl (lv_at hl 2 rfl) ?_
  refine z_ifNge (tgt := 16) hx hb dX4_nameAt_10 (by decide) (by omega) (fun c_2 => ?_) (fun c_2 => absurd c_2 (Nat.not_lt_zero _))
  refine lv_aload_n hx hb dX4_nameAt_16 rfl (lv_at hl 0 rfl) ?_
  refine lv_iload_n hx hb dX4_nameAt_17 rfl (lv_at hl 1 rfl) ?_
  refine z_callVVE (As := [.int (nI ρ)]) (rest := []) (wr := []) (C := RX4) F (c_X4_ranks l G a v y ρ (by omega) hN hI) (cwV 1 hts gX4_nameAt_X4_ranks rfl rfl rfl (by decide +kernel) ⟨Nat.le_of_ble_eq_true rfl, Nat.le_of_ble_eq_true rfl⟩) hKK (z_recv hKK hP (q0 := 0) (ci := 4) rfl rfl) hP hD hS hA rfl hl.1 rfl (Nat.le_of_ble_eq_true rfl) ⟨Nat.zero_le _, Nat.zero_le _⟩ dX4_nameAt_18 (fun u_3 H locs hq_3 hP hD hS => ?_)
  have hs : srt (rN (v 0)) (rU (v 0)) ρ 40 (cntA (v 0)) u_3 := hq_3
  obtain ⟨g, hg9⟩ : ∃ g, g = u_3 := ⟨_, rfl⟩
  rw [← hg9] at hP hD hs
  have hM : cntA (v 0) ≤ 40 := fb_ct_le _ _
  have hP : va_P G.1 vwCl (modW G a (mrow v 4 g) (nup y 2 (cntA (v 0)))) H := hP
  have hD : va_D A (modW G a (mrow v 4 g) (nup y 2 (cntA (v 0)))) := hD
  refine lv_iload_n hx hb dX4_nameAt_21 rfl (lv_at hl 2 rfl) ?_
  refine lv_aload_n hx hb dX4_nameAt_22 rfl (lv_at hl 0 rfl) ?_
  refine va_get (D := G.1) (ci := 4) (v := .int (nI (cntA (v 0)))) (C := RX4) (T := TX4) (N := 17) hx hb hts hinX4 hown hKK.1 hP 0 rfl rfl 8 (by decide) fl_103 (fun _ h9 => h9) rfl dX4_nameAt_23 ?_
  refine z_ge (tgt := 45) hx hb dX4_nameAt_26 (by decide) (by omega) (by omega) (fun c_4 => ?_) (fun c_4 => ?_)
  · skip
    refine z_ldc (v' := (-1000004)) hx hb hown ct_99 dX4_nameAt_45 rfl ?_
    exact z_iretE g hx hb hr hlk hP hD hS dX4_nameAt_47 rfl (na_n hs (by omega) rfl)
  · skip
    obtain ⟨j, hj, hj0, hje⟩ := hs.1 q (by omega)
    refine lv_aload_n hx hb dX4_nameAt_29 rfl (lv_at hl 0 rfl) ?_
    refine va_get (D := G.1) (ci := 4) (v := .ref (a 1)) (C := RX4) (T := TX4) (N := 17) hx hb hts hinX4 hown hKK.1 hP 0 rfl rfl 0 (by decide) fl_7 (fun _ h9 => h9) rfl dX4_nameAt_30 ?_
    refine lv_iconst (v := nI 4) hx hb dX4_nameAt_33 (by decide) ?_
    refine lv_aload_n hx hb dX4_nameAt_34 rfl (lv_at hl 0 rfl) ?_
    refine va_get (D := G.1) (ci := 4) (v := .ref (a 5)) (C := RX4) (T := TX4) (N := 17) hx hb hts hinX4 hown hKK.1 hP 0 rfl rfl 6 (by decide) fl_22 (fun _ h9 => h9) rfl dX4_nameAt_35 ?_
    refine lv_iload_n hx hb dX4_nameAt_38 rfl (lv_at hl 2 rfl) ?_
    refine z_iald (n := 40) (f := g) (v := g q) hx hb hKK hP 5 rfl (by omega) (by decide) rfl dX4_nameAt_39 ?_
    refine z_top (v := nI j) hje ?_
    refine z_add (v := nI (4 + j)) hx hb dX4_nameAt_40 (nI_add _ _) ?_
    refine z_iald (n := 511) (f := v 0) (v := v 0 (4 + j)) hx hb hKK hP 1 rfl (by omega) (by decide) rfl dX4_nameAt_41 ?_
    refine lv_goto (tgt := 47) hx hb dX4_nameAt_42 (by decide) ?_
    exact z_iretE g hx hb hr hlk hP hD hS dX4_nameAt_47 rfl (na_y hs (by omega) hj hj0 hje rfl)

set_option maxHeartbeats 4000000 in
set_option maxRecDepth 100000 in
theorem c_X4_beginning_bad (l : Launch) (G : ZG) (a : Nat → Nat) (v : Mem) (y : Nat → Nat) (x : Int32) (h9 : zName x = false) : CI l G yX4_beginning wsX4_beginning (zRm 2 44) [.ref (a 0), .int x] (modW G a v y) ((-1000001)) (modW G a v y) := by
  refine CI.ent (cc := cX4_beginning) (maxL := 4) (ty := .int) (own := RX4) (by decide) rfl rfl (Nat.le_of_ble_eq_true rfl) ?_
  intro p ee s m args below meth c A ls F hr hlk hKK hP hD hA hS hl
  obtain ⟨hx, hb, hml, hown, hts⟩ := id F
  have hl : lv_has ls 4 [(0, .ref (a 0)), (1, .int x)] := hl
  have ct_61 := hts (.constant RX4 61 (-1000001)) (by decide +kernel)
  refine lv_iload_n hx hb dX4_beginning_0 rfl (lv_at hl 1 rfl) ?_
  refine z_callSI (As := [.int x]) (rest := []) F (c_X4_isName l G x) (va_cwS 1 hts gX4_beginning_X4_isName rfl rfl rfl (by decide +kernel) ⟨Nat.le_of_ble_eq_true rfl, Nat.le_of_ble_eq_true rfl⟩) hKK hP hD hS hA rfl hl.1 rfl (Nat.le_of_ble_eq_true rfl) ⟨Nat.zero_le _, Nat.zero_le _⟩ dX4_beginning_1 (fun H locs hP hD hS => ?_)
  refine z_top (v := bI (false)) (by rw [h9]) ?_
  refine z_ifBne (tgt := 10) hx hb dX4_beginning_4 (by decide) (fun c_1 => absurd c_1 (by decide)) (fun c_1 => ?_)
  refine z_ldc (v' := (-1000001)) hx hb hown ct_61 dX4_beginning_7 rfl ?_
  exact z_iret hx hb hr hlk hP hD hS dX4_beginning_9 rfl rfl

set_option maxHeartbeats 4000000 in
set_option maxRecDepth 100000 in
theorem c_X4_beginning_ok (l : Launch) (G : ZG) (a : Nat → Nat) (v : Mem) (y : Nat → Nat) (w : Nat) (h9 : zName (nI w) = true) (hw1 : 1 ≤ w) (hw : w < 387420489) (hN : okNm (rN (v 0))) : CI l G yX4_beginning wsX4_beginning (zRm 2 44) [.ref (a 0), .int (nI w)] (modW G a v y) (nI (fb_ct (pBg (rN (v 0)) w) 40)) (modW G a v y) := by
  refine CI.ent (cc := cX4_beginning) (maxL := 4) (ty := .int) (own := RX4) (by decide) rfl rfl (Nat.le_of_ble_eq_true rfl) ?_
  intro p ee s m args below meth c A ls F hr hlk hKK hP hD hA hS hl
  obtain ⟨hx, hb, hml, hown, hts⟩ := id F
  have hl : lv_has ls 4 [(0, .ref (a 0)), (1, .int (nI w))] := hl
  have fl_7 := hts (.fieldLink RX4 7 "NameRollsModel" "now" "[I") (by decide +kernel)
  have hinX4 : ∀ w ∈ wsX40, w ∈ wsX4_beginning := by decide +kernel
  refine lv_iload_n hx hb dX4_beginning_0 rfl (lv_at hl 1 rfl) ?_
  refine z_callSI (As := [.int (nI w)]) (rest := []) F (c_X4_isName l G (nI w)) (va_cwS 1 hts gX4_beginning_X4_isName rfl rfl rfl (by decide +kernel) ⟨Nat.le_of_ble_eq_true rfl, Nat.le_of_ble_eq_true rfl⟩) hKK hP hD hS hA rfl hl.1 rfl (Nat.le_of_ble_eq_true rfl) ⟨Nat.zero_le _, Nat.zero_le _⟩ dX4_beginning_1 (fun H locs hP hD hS => ?_)
  refine z_top (v := bI (true)) (by rw [h9]) ?_
  refine z_ifBne (tgt := 10) hx hb dX4_beginning_4 (by decide) (fun c_1 => ?_) (fun c_1 => absurd c_1 (by decide))
  refine lv_iconst (v := nI 0) hx hb dX4_beginning_10 (by decide) ?_
  refine lv_istore_n (lv' := [(2, .int (nI 0)), (0, .ref (a 0)), (1, .int (nI w))]) hx hb dX4_beginning_11 rfl hl (by decide) rfl (fun ls hl => ?_)
  refine lv_iconst (v := nI 0) hx hb dX4_beginning_12 (by decide) ?_
  refine lv_istore_n (lv' := [(3, .int (nI 0)), (2, .int (nI 0)), (0, .ref (a 0)), (1, .int (nI w))]) hx hb dX4_beginning_13 rfl hl (by decide) rfl (fun ls hl => ?_)
  have key_2 : ∀ (nn : Nat) (i : Nat), i ≤ 40 → 40 - i < nn → ∀ (H : Heap) (locs : List Loc) (ls : Array Slot), va_P G.1 vwCl (modW G a v y) H → va_D A (modW G a v y) → va_S A s.heap H locs → lv_has ls 4 [(0, .ref (a 0)), (1, .int (nI w)), (2, .int (nI (fb_ct (pBg (rN (v 0)) w) i))), (3, .int (nI i))] → W p l ee (zRm 2 44) s m args below meth c H locs 0 0 (MQ below (ZQi G A (modW G a v y) (nI (fb_ct (pBg (rN (v 0)) w) 40))) args s 0 0 A) (F0 m 14 ls []) := by
    intro nn
    induction nn with
    | zero => intro i _ hm; exact absurd hm (Nat.not_lt_zero _)
    | succ nn ih_2 =>
      intro i hi hm H locs ls hP hD hS hl
      refine lv_iload_n hx hb dX4_beginning_14 rfl (lv_at hl 3 rfl) ?_
      refine lv_bipush (v := nI 40) hx hb dX4_beginning_15 (by decide) ?_
      refine z_ge (tgt := 57) hx hb dX4_beginning_17 (by decide) (by omega) (by omega) (fun c_3 => ?_) (fun c_3 => ?_)
      · skip
        refine lv_iload_n hx hb dX4_beginning_57 rfl (lv_at hl 2 rfl) ?_
        exact z_iret hx hb hr hlk hP hD hS dX4_beginning_58 (by rw [show i = 40 by omega]) rfl
      · skip
        refine lv_iload_n hx hb dX4_beginning_20 rfl (lv_at hl 2 rfl) ?_
        refine lv_aload_n hx hb dX4_beginning_21 rfl (lv_at hl 0 rfl) ?_
        refine lv_iload_n hx hb dX4_beginning_22 rfl (lv_at hl 3 rfl) ?_
        refine z_callVI (As := [.int (nI i)]) (rest := [.int (nI (fb_ct (pBg (rN (v 0)) w) i))]) (wr := []) (C := RX4) F (c_X4_isNamed l G a v y (i) (by omega)) (cwV 1 hts gX4_beginning_X4_isNamed rfl rfl rfl (by decide +kernel) ⟨Nat.le_of_ble_eq_true rfl, Nat.le_of_ble_eq_true rfl⟩) hKK (z_recv hKK hP (q0 := 0) (ci := 4) rfl rfl) hP hD hS hA rfl hl.1 rfl (Nat.le_of_ble_eq_true rfl) ⟨Nat.zero_le _, Nat.zero_le _⟩ dX4_beginning_23 (fun H locs hP hD hS => ?_)
        have hP : va_P G.1 vwCl (modW G a v y) H := hP
        have hD : va_D A (modW G a v y) := hD
        refine z_ifBeq (tgt := 48) hx hb dX4_beginning_26 (by decide) (fun c_4 => ?_) (fun c_4 => ?_)
        · skip
          refine lv_iconst (v := nI 0) hx hb dX4_beginning_48 (by decide) ?_
          refine z_add (v := nI (fb_ct (pBg (rN (v 0)) w) (i + 1))) hx hb dX4_beginning_49 (by rw [fb_ct_f (p := pBg (rN (v 0)) w) (n := i) (by rw [pBg, show decide (¬ rN (v 0) i = 0) = false from c_4]; rfl)]; exact nI_add _ 0) ?_
          refine lv_istore_n (lv' := [(2, .int (nI (fb_ct (pBg (rN (v 0)) w) (i + 1)))), (0, .ref (a 0)), (1, .int (nI w)), (3, .int (nI i))]) hx hb dX4_beginning_50 rfl hl (by decide) rfl (fun ls hl => ?_)
          refine lv_iinc (v := nI (i + 1)) (lv' := [(3, .int (nI (i + 1))), (2, .int (nI (fb_ct (pBg (rN (v 0)) w) (i + 1)))), (0, .ref (a 0)), (1, .int (nI w))]) hx hb dX4_beginning_51 hl (k := 3) rfl (nI_1 _) (by decide) rfl (fun ls hl => ?_)
          refine lv_goto (tgt := 14) hx hb dX4_beginning_54 (by decide) ?_
          exact ih_2 (i + 1) (by omega) (by omega) _ _ _ hP hD hS (lv_sub hl [2, 3, 1, 0] rfl)
        · skip
          refine lv_aload_n hx hb dX4_beginning_29 rfl (lv_at hl 0 rfl) ?_
          refine va_get (D := G.1) (ci := 4) (v := .ref (a 1)) (C := RX4) (T := TX4) (N := 17) hx hb hts hinX4 hown hKK.1 hP 0 rfl rfl 0 (by decide) fl_7 (fun _ h9 => h9) rfl dX4_beginning_30 ?_
          refine lv_iconst (v := nI 4) hx hb dX4_beginning_33 (by decide) ?_
          refine lv_iload_n hx hb dX4_beginning_34 rfl (lv_at hl 3 rfl) ?_
          refine z_add (v := nI (4 + i)) hx hb dX4_beginning_35 (nI_add _ _) ?_
          refine z_iald (n := 511) (f := v 0) (v := v 0 (4 + i)) hx hb hKK hP 1 rfl (by omega) (by decide) rfl dX4_beginning_36 ?_
          refine z_top (v := nI ((rN (v 0) i).toNatClampNeg)) (hN i (by omega)).1 ?_
          refine lv_iload_n hx hb dX4_beginning_37 rfl (lv_at hl 1 rfl) ?_
          refine z_callSI (As := [.int (nI ((rN (v 0) i).toNatClampNeg)), .int (nI w)]) (rest := [.int (nI (fb_ct (pBg (rN (v 0)) w) i))]) F (c_X4_begins l G ((rN (v 0) i).toNatClampNeg) (w) (hN i (by omega)).2 hw1 hw) (va_cwS 2 hts gX4_beginning_X4_begins rfl rfl rfl (by decide +kernel) ⟨Nat.le_of_ble_eq_true rfl, Nat.le_of_ble_eq_true rfl⟩) hKK hP hD hS hA rfl hl.1 rfl (Nat.le_of_ble_eq_true rfl) ⟨Nat.zero_le _, Nat.zero_le _⟩ dX4_beginning_38 (fun H locs hP hD hS => ?_)
          refine z_ifBeq (tgt := 48) hx hb dX4_beginning_41 (by decide) (fun c_5 => ?_) (fun c_5 => ?_)
          · skip
            refine lv_iconst (v := nI 0) hx hb dX4_beginning_48 (by decide) ?_
            refine z_add (v := nI (fb_ct (pBg (rN (v 0)) w) (i + 1))) hx hb dX4_beginning_49 (by rw [fb_ct_f (p := pBg (rN (v 0)) w) (n := i) (by rw [pBg, show decide (¬ rN (v 0) i = 0) = true from c_4, show decide (begK 5 (rN (v 0) i).toNatClampNeg w = w) = false from c_5]; rfl)]; exact nI_add _ 0) ?_
            refine lv_istore_n (lv' := [(2, .int (nI (fb_ct (pBg (rN (v 0)) w) (i + 1)))), (0, .ref (a 0)), (1, .int (nI w)), (3, .int (nI i))]) hx hb dX4_beginning_50 rfl hl (by decide) rfl (fun ls hl => ?_)
            refine lv_iinc (v := nI (i + 1)) (lv' := [(3, .int (nI (i + 1))), (2, .int (nI (fb_ct (pBg (rN (v 0)) w) (i + 1)))), (0, .ref (a 0)), (1, .int (nI w))]) hx hb dX4_beginning_51 hl (k := 3) rfl (nI_1 _) (by decide) rfl (fun ls hl => ?_)
            refine lv_goto (tgt := 14) hx hb dX4_beginning_54 (by decide) ?_
            exact ih_2 (i + 1) (by omega) (by omega) _ _ _ hP hD hS (lv_sub hl [2, 3, 1, 0] rfl)
          · skip
            refine lv_iconst (v := nI 1) hx hb dX4_beginning_44 (by decide) ?_
            refine lv_goto (tgt := 49) hx hb dX4_beginning_45 (by decide) ?_
            refine z_add (v := nI (fb_ct (pBg (rN (v 0)) w) (i + 1))) hx hb dX4_beginning_49 (by rw [fb_ct_t (p := pBg (rN (v 0)) w) (n := i) (by rw [pBg, Bool.and_eq_true]; exact ⟨c_4, c_5⟩)]; exact nI_1 _) ?_
            refine lv_istore_n (lv' := [(2, .int (nI (fb_ct (pBg (rN (v 0)) w) (i + 1)))), (0, .ref (a 0)), (1, .int (nI w)), (3, .int (nI i))]) hx hb dX4_beginning_50 rfl hl (by decide) rfl (fun ls hl => ?_)
            refine lv_iinc (v := nI (i + 1)) (lv' := [(3, .int (nI (i + 1))), (2, .int (nI (fb_ct (pBg (rN (v 0)) w) (i + 1)))), (0, .ref (a 0)), (1, .int (nI w))]) hx hb dX4_beginning_51 hl (k := 3) rfl (nI_1 _) (by decide) rfl (fun ls hl => ?_)
            refine lv_goto (tgt := 14) hx hb dX4_beginning_54 (by decide) ?_
            exact ih_2 (i + 1) (by omega) (by omega) _ _ _ hP hD hS (lv_sub hl [2, 3, 1, 0] rfl)
  exact key_2 _ 0 (by omega) (Nat.lt_succ_self _) _ _ _ hP hD hS (lv_sub hl [2, 3, 1, 0] rfl)

set_option maxHeartbeats 4000000 in
set_option maxRecDepth 100000 in
theorem c_X4_behind_bad (l : Launch) (G : ZG) (a : Nat → Nat) (v : Mem) (y : Nat → Nat) (x : Int32) (h9 : zName x = false) : CI l G yX4_behind wsX4_behind (zRm 3 67) [.ref (a 0), .int x] (modW G a v y) ((-1000001)) (modW G a v y) := by
  refine CI.ent (cc := cX4_behind) (maxL := 3) (ty := .int) (own := RX4) (by decide) rfl rfl (Nat.le_of_ble_eq_true rfl) ?_
  intro p ee s m args below meth c A ls F hr hlk hKK hP hD hA hS hl
  obtain ⟨hx, hb, hml, hown, hts⟩ := id F
  have hl : lv_has ls 3 [(0, .ref (a 0)), (1, .int x)] := hl
  have ct_61 := hts (.constant RX4 61 (-1000001)) (by decide +kernel)
  refine lv_iload_n hx hb dX4_behind_0 rfl (lv_at hl 1 rfl) ?_
  refine z_callSI (As := [.int x]) (rest := []) F (c_X4_isName l G x) (va_cwS 1 hts gX4_behind_X4_isName rfl rfl rfl (by decide +kernel) ⟨Nat.le_of_ble_eq_true rfl, Nat.le_of_ble_eq_true rfl⟩) hKK hP hD hS hA rfl hl.1 rfl (Nat.le_of_ble_eq_true rfl) ⟨Nat.zero_le _, Nat.zero_le _⟩ dX4_behind_1 (fun H locs hP hD hS => ?_)
  refine z_top (v := bI (false)) (by rw [h9]) ?_
  refine z_ifBne (tgt := 10) hx hb dX4_behind_4 (by decide) (fun c_1 => absurd c_1 (by decide)) (fun c_1 => ?_)
  refine z_ldc (v' := (-1000001)) hx hb hown ct_61 dX4_behind_7 rfl ?_
  exact z_iret hx hb hr hlk hP hD hS dX4_behind_9 rfl rfl

set_option maxHeartbeats 4000000 in
set_option maxRecDepth 100000 in
theorem c_X4_behind_ok (l : Launch) (G : ZG) (a : Nat → Nat) (v : Mem) (y : Nat → Nat) (w : Nat) (h9 : zName (nI w) = true) (hw1 : 1 ≤ w) (hw : w < 387420489) (hN : okNm (rN (v 0))) (hI : injN (rN (v 0))) : CIE l G yX4_behind wsX4_behind (zRm 3 67) [.ref (a 0), .int (nI w)] (modW G a v y) (S := Nat → Int32) (fun r _ => bhPost (v 0) (padK 5 w) r) (fun g => modW G a (mrow v 4 g) (nup y 2 (cntA (v 0)))) := by
  refine CIE.ent (cc := cX4_behind) (maxL := 3) (ty := .int) (own := RX4) (by decide) rfl rfl (Nat.le_of_ble_eq_true rfl) ?_
  intro p ee s m args below meth c A ls F hr hlk hKK hP hD hA hS hl
  obtain ⟨hx, hb, hml, hown, hts⟩ := id F
  have hl : lv_has ls 3 [(0, .ref (a 0)), (1, .int (nI w))] := hl
  have ct_99 := hts (.constant RX4 99 (-1000004)) (by decide +kernel)
  have fl_7 := hts (.fieldLink RX4 7 "NameRollsModel" "now" "[I") (by decide +kernel)
  have fl_22 := hts (.fieldLink RX4 22 "NameRollsModel" "ranked" "[I") (by decide +kernel)
  have fl_103 := hts (.fieldLink RX4 103 "NameRollsModel" "named" "I") (by decide +kernel)
  have hinX4 : ∀ w ∈ wsX40, w ∈ wsX4_behind := by decide +kernel
  refine lv_iload_n hx hb dX4_behind_0 rfl (lv_at hl 1 rfl) ?_
  refine z_callSI (As := [.int (nI w)]) (rest := []) F (c_X4_isName l G (nI w)) (va_cwS 1 hts gX4_behind_X4_isName rfl rfl rfl (by decide +kernel) ⟨Nat.le_of_ble_eq_true rfl, Nat.le_of_ble_eq_true rfl⟩) hKK hP hD hS hA rfl hl.1 rfl (Nat.le_of_ble_eq_true rfl) ⟨Nat.zero_le _, Nat.zero_le _⟩ dX4_behind_1 (fun H locs hP hD hS => ?_)
  refine z_top (v := bI (true)) (by rw [h9]) ?_
  refine z_ifBne (tgt := 10) hx hb dX4_behind_4 (by decide) (fun c_1 => ?_) (fun c_1 => absurd c_1 (by decide))
  refine lv_aload_n hx hb dX4_behind_10 rfl (lv_at hl 0 rfl) ?_
  refine lv_iconst (v := nI 1) hx hb dX4_behind_11 (by decide) ?_
  refine z_callVVE (As := [.int (nI 1)]) (rest := []) (wr := []) (C := RX4) F (c_X4_ranks l G a v y 1 (by omega) hN hI) (cwV 1 hts gX4_behind_X4_ranks rfl rfl rfl (by decide +kernel) ⟨Nat.le_of_ble_eq_true rfl, Nat.le_of_ble_eq_true rfl⟩) hKK (z_recv hKK hP (q0 := 0) (ci := 4) rfl rfl) hP hD hS hA rfl hl.1 rfl (Nat.le_of_ble_eq_true rfl) ⟨Nat.zero_le _, Nat.zero_le _⟩ dX4_behind_12 (fun u_2 H locs hq_2 hP hD hS => ?_)
  have hs : srt (rN (v 0)) (rU (v 0)) 1 40 (cntA (v 0)) u_2 := hq_2
  obtain ⟨g, hg9⟩ : ∃ g, g = u_2 := ⟨_, rfl⟩
  rw [← hg9] at hP hD hs
  have hM : cntA (v 0) ≤ 40 := fb_ct_le _ _
  have hP : va_P G.1 vwCl (modW G a (mrow v 4 g) (nup y 2 (cntA (v 0)))) H := hP
  have hD : va_D A (modW G a (mrow v 4 g) (nup y 2 (cntA (v 0)))) := hD
  refine lv_iconst (v := nI 0) hx hb dX4_behind_15 (by decide) ?_
  refine lv_istore_n (lv' := [(2, .int (nI 0)), (0, .ref (a 0)), (1, .int (nI w))]) hx hb dX4_behind_16 rfl hl (by decide) rfl (fun ls hl => ?_)
  have key_3 : ∀ (nn : Nat) (t : Nat), t ≤ cntA (v 0) → (∀ t' j, t' < t → g t' = nI j → j < 40 → ¬ padK 5 w < Kp (v 0) j) → cntA (v 0) - t < nn → ∀ (H : Heap) (locs : List Loc) (ls : Array Slot), va_P G.1 vwCl (modW G a (mrow v 4 g) (nup y 2 (cntA (v 0)))) H → va_D A (modW G a (mrow v 4 g) (nup y 2 (cntA (v 0)))) → va_S A s.heap H locs → lv_has ls 3 [(0, .ref (a 0)), (1, .int (nI w)), (2, .int (nI t))] → W p l ee (zRm 3 67) s m args below meth c H locs 0 0 (MQ below (ZQie G A (S := Nat → Int32) (fun r _ => bhPost (v 0) (padK 5 w) r) (fun g => modW G a (mrow v 4 g) (nup y 2 (cntA (v 0))))) args s 0 0 A) (F0 m 17 ls []) := by
    intro nn
    induction nn with
    | zero => intro t _ _ hm; exact absurd hm (Nat.not_lt_zero _)
    | succ nn ih_3 =>
      intro t ht hno hm H locs ls hP hD hS hl
      refine lv_iload_n hx hb dX4_behind_17 rfl (lv_at hl 2 rfl) ?_
      refine lv_aload_n hx hb dX4_behind_18 rfl (lv_at hl 0 rfl) ?_
      refine va_get (D := G.1) (ci := 4) (v := .int (nI (cntA (v 0)))) (C := RX4) (T := TX4) (N := 17) hx hb hts hinX4 hown hKK.1 hP 0 rfl rfl 8 (by decide) fl_103 (fun _ h9 => h9) rfl dX4_behind_19 ?_
      refine z_ge (tgt := 68) hx hb dX4_behind_22 (by decide) (by omega) (by omega) (fun c_4 => ?_) (fun c_4 => ?_)
      · skip
        refine z_ldc (v' := (-1000004)) hx hb hown ct_99 dX4_behind_68 rfl ?_
        exact z_iretE g hx hb hr hlk hP hD hS dX4_behind_70 rfl (bh_n hs hno (by omega) rfl)
      · skip
        obtain ⟨j, hj, hj0, hje⟩ := hs.1 t (by omega)
        refine lv_aload_n hx hb dX4_behind_25 rfl (lv_at hl 0 rfl) ?_
        refine va_get (D := G.1) (ci := 4) (v := .ref (a 1)) (C := RX4) (T := TX4) (N := 17) hx hb hts hinX4 hown hKK.1 hP 0 rfl rfl 0 (by decide) fl_7 (fun _ h9 => h9) rfl dX4_behind_26 ?_
        refine lv_iconst (v := nI 4) hx hb dX4_behind_29 (by decide) ?_
        refine lv_aload_n hx hb dX4_behind_30 rfl (lv_at hl 0 rfl) ?_
        refine va_get (D := G.1) (ci := 4) (v := .ref (a 5)) (C := RX4) (T := TX4) (N := 17) hx hb hts hinX4 hown hKK.1 hP 0 rfl rfl 6 (by decide) fl_22 (fun _ h9 => h9) rfl dX4_behind_31 ?_
        refine lv_iload_n hx hb dX4_behind_34 rfl (lv_at hl 2 rfl) ?_
        refine z_iald (n := 40) (f := g) (v := g t) hx hb hKK hP 5 rfl (by omega) (by decide) rfl dX4_behind_35 ?_
        refine z_top (v := nI j) hje ?_
        refine z_add (v := nI (4 + j)) hx hb dX4_behind_36 (nI_add _ _) ?_
        refine z_iald (n := 511) (f := v 0) (v := v 0 (4 + j)) hx hb hKK hP 1 rfl (by omega) (by decide) rfl dX4_behind_37 ?_
        refine z_top (v := nI ((rN (v 0) j).toNatClampNeg)) (hN j hj).1 ?_
        refine z_callSI (As := [.int (nI ((rN (v 0) j).toNatClampNeg))]) (rest := []) F (c_X4_padded l G ((rN (v 0) j).toNatClampNeg) (nm_pos (hN j hj).1 hj0) (hN j hj).2) (va_cwS 1 hts gX4_behind_X4_padded rfl rfl rfl (by decide +kernel) ⟨Nat.le_of_ble_eq_true rfl, Nat.le_of_ble_eq_true rfl⟩) hKK hP hD hS hA rfl hl.1 rfl (Nat.le_of_ble_eq_true rfl) ⟨Nat.zero_le _, Nat.zero_le _⟩ dX4_behind_38 (fun H locs hP hD hS => ?_)
        refine lv_iload_n hx hb dX4_behind_41 rfl (lv_at hl 1 rfl) ?_
        refine z_callSI (As := [.int (nI w)]) (rest := [.int (nI (padK 5 ((rN (v 0) j).toNatClampNeg)))]) F (c_X4_padded l G (w) hw1 hw) (va_cwS 1 hts gX4_behind_X4_padded rfl rfl rfl (by decide +kernel) ⟨Nat.le_of_ble_eq_true rfl, Nat.le_of_ble_eq_true rfl⟩) hKK hP hD hS hA rfl hl.1 rfl (Nat.le_of_ble_eq_true rfl) ⟨Nat.zero_le _, Nat.zero_le _⟩ dX4_behind_42 (fun H locs hP hD hS => ?_)
        refine z_le (tgt := 62) hx hb dX4_behind_45 (by decide) (Nat.lt_trans (padK_lt 5 _ (hN j hj).2) (by decide)) (Nat.lt_trans (padK_lt 5 _ hw) (by decide)) (fun c_5 => ?_) (fun c_5 => ?_)
        · skip
          refine lv_iinc (v := nI (t + 1)) (lv' := [(2, .int (nI (t + 1))), (0, .ref (a 0)), (1, .int (nI w))]) hx hb dX4_behind_62 hl (k := 2) rfl (nI_1 _) (by decide) rfl (fun ls hl => ?_)
          refine lv_goto (tgt := 17) hx hb dX4_behind_65 (by decide) ?_
          exact ih_3 (t + 1) (by omega) (bh_s hno hj hje (Nat.not_lt.mpr c_5)) (by omega) _ _ _ hP hD hS (lv_sub hl [1, 2, 0] rfl)
        · skip
          refine lv_aload_n hx hb dX4_behind_48 rfl (lv_at hl 0 rfl) ?_
          refine va_get (D := G.1) (ci := 4) (v := .ref (a 1)) (C := RX4) (T := TX4) (N := 17) hx hb hts hinX4 hown hKK.1 hP 0 rfl rfl 0 (by decide) fl_7 (fun _ h9 => h9) rfl dX4_behind_49 ?_
          refine lv_iconst (v := nI 4) hx hb dX4_behind_52 (by decide) ?_
          refine lv_aload_n hx hb dX4_behind_53 rfl (lv_at hl 0 rfl) ?_
          refine va_get (D := G.1) (ci := 4) (v := .ref (a 5)) (C := RX4) (T := TX4) (N := 17) hx hb hts hinX4 hown hKK.1 hP 0 rfl rfl 6 (by decide) fl_22 (fun _ h9 => h9) rfl dX4_behind_54 ?_
          refine lv_iload_n hx hb dX4_behind_57 rfl (lv_at hl 2 rfl) ?_
          refine z_iald (n := 40) (f := g) (v := g t) hx hb hKK hP 5 rfl (by omega) (by decide) rfl dX4_behind_58 ?_
          refine z_top (v := nI j) hje ?_
          refine z_add (v := nI (4 + j)) hx hb dX4_behind_59 (nI_add _ _) ?_
          refine z_iald (n := 511) (f := v 0) (v := v 0 (4 + j)) hx hb hKK hP 1 rfl (by omega) (by decide) rfl dX4_behind_60 ?_
          exact z_iretE g hx hb hr hlk hP hD hS dX4_behind_61 rfl (bh_y hs hno (by omega) hj hj0 hje c_5 rfl)
  exact key_3 _ 0 (by omega) (fun t' j h => absurd h (Nat.not_lt_zero _)) (Nat.lt_succ_self _) _ _ _ hP hD hS (lv_sub hl [1, 2, 0] rfl)

set_option maxHeartbeats 4000000 in
set_option maxRecDepth 100000 in
theorem c_X4_wouldBe_bad (l : Launch) (G : ZG) (a : Nat → Nat) (v : Mem) (y : Nat → Nat) (x w : Int32) (h9 : (zWi x 0 39 && zWi w 0 2) = false) : CI l G yX4_wouldBe wsX4_wouldBe (zRm 3 67) [.ref (a 0), .int x, .int w] (modW G a v y) ((-1000001)) (modW G a v y) := by
  refine CI.ent (cc := cX4_wouldBe) (maxL := 4) (ty := .int) (own := RX4) (by decide) rfl rfl (Nat.le_of_ble_eq_true rfl) ?_
  intro p ee s m args below meth c A ls F hr hlk hKK hP hD hA hS hl
  obtain ⟨hx, hb, hml, hown, hts⟩ := id F
  have hl : lv_has ls 4 [(0, .ref (a 0)), (1, .int x), (2, .int w)] := hl
  have ct_61 := hts (.constant RX4 61 (-1000001)) (by decide +kernel)
  refine lv_iload_n hx hb dX4_wouldBe_0 rfl (lv_at hl 1 rfl) ?_
  refine lv_iconst (v := nI 0) hx hb dX4_wouldBe_1 (by decide) ?_
  refine lv_bipush (v := nI 39) hx hb dX4_wouldBe_2 (by decide) ?_
  refine z_callSI (As := [.int x, .int (nI 0), .int (nI 39)]) (rest := []) F (c_X4_within l G x (0) (39)) (va_cwS 3 hts gX4_wouldBe_X4_within rfl rfl rfl (by decide +kernel) ⟨Nat.le_of_ble_eq_true rfl, Nat.le_of_ble_eq_true rfl⟩) hKK hP hD hS hA rfl hl.1 rfl (Nat.le_of_ble_eq_true rfl) ⟨Nat.zero_le _, Nat.zero_le _⟩ dX4_wouldBe_4 (fun H locs hP hD hS => ?_)
  refine z_ifBeq (tgt := 19) hx hb dX4_wouldBe_7 (by decide) (fun c_1 => ?_) (fun c_1 => ?_)
  · skip
    refine z_ldc (v' := (-1000001)) hx hb hown ct_61 dX4_wouldBe_19 rfl ?_
    exact z_iret hx hb hr hlk hP hD hS dX4_wouldBe_21 rfl rfl
  · skip
    refine lv_iload_n hx hb dX4_wouldBe_10 rfl (lv_at hl 2 rfl) ?_
    refine lv_iconst (v := nI 0) hx hb dX4_wouldBe_11 (by decide) ?_
    refine lv_iconst (v := nI 2) hx hb dX4_wouldBe_12 (by decide) ?_
    refine z_callSI (As := [.int w, .int (nI 0), .int (nI 2)]) (rest := []) F (c_X4_within l G w (0) (2)) (va_cwS 3 hts gX4_wouldBe_X4_within rfl rfl rfl (by decide +kernel) ⟨Nat.le_of_ble_eq_true rfl, Nat.le_of_ble_eq_true rfl⟩) hKK hP hD hS hA rfl hl.1 rfl (Nat.le_of_ble_eq_true rfl) ⟨Nat.zero_le _, Nat.zero_le _⟩ dX4_wouldBe_13 (fun H locs hP hD hS => ?_)
    refine z_ifBne (tgt := 22) hx hb dX4_wouldBe_16 (by decide) (fun c_2 => absurd ((congrArg (zWi x 0 39 && ·) c_2).symm.trans h9) (by rw [c_1]; decide)) (fun c_2 => ?_)
    refine z_ldc (v' := (-1000001)) hx hb hown ct_61 dX4_wouldBe_19 rfl ?_
    exact z_iret hx hb hr hlk hP hD hS dX4_wouldBe_21 rfl rfl

set_option maxHeartbeats 4000000 in
set_option maxRecDepth 100000 in
theorem c_X4_wouldBe_ok (l : Launch) (G : ZG) (a : Nat → Nat) (v : Mem) (y : Nat → Nat) (n ρ : Nat) (hn : n < 40) (hρ : ρ ≤ 2) (hN : okNm (rN (v 0))) (hI : injN (rN (v 0))) : CIE l G yX4_wouldBe wsX4_wouldBe (zRm 3 67) [.ref (a 0), .int (nI n), .int (nI ρ)] (modW G a v y) (S := Nat → Int32) (fun r _ => wbPost (v 0) ρ n r) (fun g => modW G a (mrow v 4 g) (nup y 2 (cntA (v 0)))) := by
  refine CIE.ent (cc := cX4_wouldBe) (maxL := 4) (ty := .int) (own := RX4) (by decide) rfl rfl (Nat.le_of_ble_eq_true rfl) ?_
  intro p ee s m args below meth c A ls F hr hlk hKK hP hD hA hS hl
  obtain ⟨hx, hb, hml, hown, hts⟩ := id F
  have hl : lv_has ls 4 [(0, .ref (a 0)), (1, .int (nI n)), (2, .int (nI ρ))] := hl
  have ct_99 := hts (.constant RX4 99 (-1000004)) (by decide +kernel)
  have fl_22 := hts (.fieldLink RX4 22 "NameRollsModel" "ranked" "[I") (by decide +kernel)
  have fl_103 := hts (.fieldLink RX4 103 "NameRollsModel" "named" "I") (by decide +kernel)
  have hinX4 : ∀ w ∈ wsX40, w ∈ wsX4_wouldBe := by decide +kernel
  refine lv_iload_n hx hb dX4_wouldBe_0 rfl (lv_at hl 1 rfl) ?_
  refine lv_iconst (v := nI 0) hx hb dX4_wouldBe_1 (by decide) ?_
  refine lv_bipush (v := nI 39) hx hb dX4_wouldBe_2 (by decide) ?_
  refine z_callSI (As := [.int (nI n), .int (nI 0), .int (nI 39)]) (rest := []) F (c_X4_within_t l G (n) (0) (39) (by omega) (by omega) (by decide)) (va_cwS 3 hts gX4_wouldBe_X4_within rfl rfl rfl (by decide +kernel) ⟨Nat.le_of_ble_eq_true rfl, Nat.le_of_ble_eq_true rfl⟩) hKK hP hD hS hA rfl hl.1 rfl (Nat.le_of_ble_eq_true rfl) ⟨Nat.zero_le _, Nat.zero_le _⟩ dX4_wouldBe_4 (fun H locs hP hD hS => ?_)
  refine z_ifBeq (tgt := 19) hx hb dX4_wouldBe_7 (by decide) (fun c_1 => absurd c_1 (by decide)) (fun c_1 => ?_)
  refine lv_iload_n hx hb dX4_wouldBe_10 rfl (lv_at hl 2 rfl) ?_
  refine lv_iconst (v := nI 0) hx hb dX4_wouldBe_11 (by decide) ?_
  refine lv_iconst (v := nI 2) hx hb dX4_wouldBe_12 (by decide) ?_
  refine z_callSI (As := [.int (nI ρ), .int (nI 0), .int (nI 2)]) (rest := []) F (c_X4_within_t l G (ρ) (0) (2) (by omega) (by omega) (by decide)) (va_cwS 3 hts gX4_wouldBe_X4_within rfl rfl rfl (by decide +kernel) ⟨Nat.le_of_ble_eq_true rfl, Nat.le_of_ble_eq_true rfl⟩) hKK hP hD hS hA rfl hl.1 rfl (Nat.le_of_ble_eq_true rfl) ⟨Nat.zero_le _, Nat.zero_le _⟩ dX4_wouldBe_13 (fun H locs hP hD hS => ?_)
  refine z_ifBne (tgt := 22) hx hb dX4_wouldBe_16 (by decide) (fun c_2 => ?_) (fun c_2 => absurd c_2 (by decide))
  refine lv_aload_n hx hb dX4_wouldBe_22 rfl (lv_at hl 0 rfl) ?_
  refine lv_iload_n hx hb dX4_wouldBe_23 rfl (lv_at hl 2 rfl) ?_
  refine z_callVVE (As := [.int (nI ρ)]) (rest := []) (wr := []) (C := RX4) F (c_X4_ranks l G a v y ρ (by omega) hN hI) (cwV 1 hts gX4_wouldBe_X4_ranks rfl rfl rfl (by decide +kernel) ⟨Nat.le_of_ble_eq_true rfl, Nat.le_of_ble_eq_true rfl⟩) hKK (z_recv hKK hP (q0 := 0) (ci := 4) rfl rfl) hP hD hS hA rfl hl.1 rfl (Nat.le_of_ble_eq_true rfl) ⟨Nat.zero_le _, Nat.zero_le _⟩ dX4_wouldBe_24 (fun u_3 H locs hq_3 hP hD hS => ?_)
  have hs : srt (rN (v 0)) (rU (v 0)) ρ 40 (cntA (v 0)) u_3 := hq_3
  obtain ⟨g, hg9⟩ : ∃ g, g = u_3 := ⟨_, rfl⟩
  rw [← hg9] at hP hD hs
  have hM : cntA (v 0) ≤ 40 := fb_ct_le _ _
  have hP : va_P G.1 vwCl (modW G a (mrow v 4 g) (nup y 2 (cntA (v 0)))) H := hP
  have hD : va_D A (modW G a (mrow v 4 g) (nup y 2 (cntA (v 0)))) := hD
  refine lv_iconst (v := nI 0) hx hb dX4_wouldBe_27 (by decide) ?_
  refine lv_istore_n (lv' := [(3, .int (nI 0)), (0, .ref (a 0)), (1, .int (nI n)), (2, .int (nI ρ))]) hx hb dX4_wouldBe_28 rfl hl (by decide) rfl (fun ls hl => ?_)
  have key_4 : ∀ (nn : Nat) (t : Nat), t ≤ cntA (v 0) → (∀ t', t' < t → ¬ g t' = nI n) → cntA (v 0) - t < nn → ∀ (H : Heap) (locs : List Loc) (ls : Array Slot), va_P G.1 vwCl (modW G a (mrow v 4 g) (nup y 2 (cntA (v 0)))) H → va_D A (modW G a (mrow v 4 g) (nup y 2 (cntA (v 0)))) → va_S A s.heap H locs → lv_has ls 4 [(0, .ref (a 0)), (1, .int (nI n)), (2, .int (nI ρ)), (3, .int (nI t))] → W p l ee (zRm 3 67) s m args below meth c H locs 0 0 (MQ below (ZQie G A (S := Nat → Int32) (fun r _ => wbPost (v 0) ρ n r) (fun g => modW G a (mrow v 4 g) (nup y 2 (cntA (v 0))))) args s 0 0 A) (F0 m 29 ls []) := by
    intro nn
    induction nn with
    | zero => intro t _ _ hm; exact absurd hm (Nat.not_lt_zero _)
    | succ nn ih_4 =>
      intro t ht hno hm H locs ls hP hD hS hl
      refine lv_iload_n hx hb dX4_wouldBe_29 rfl (lv_at hl 3 rfl) ?_
      refine lv_aload_n hx hb dX4_wouldBe_30 rfl (lv_at hl 0 rfl) ?_
      refine va_get (D := G.1) (ci := 4) (v := .int (nI (cntA (v 0)))) (C := RX4) (T := TX4) (N := 17) hx hb hts hinX4 hown hKK.1 hP 0 rfl rfl 8 (by decide) fl_103 (fun _ h9 => h9) rfl dX4_wouldBe_31 ?_
      refine z_ge (tgt := 55) hx hb dX4_wouldBe_34 (by decide) (by omega) (by omega) (fun c_5 => ?_) (fun c_5 => ?_)
      · skip
        refine z_ldc (v' := (-1000004)) hx hb hown ct_99 dX4_wouldBe_55 rfl ?_
        exact z_iretE g hx hb hr hlk hP hD hS dX4_wouldBe_57 rfl (wb_n hs hn hno (by omega) rfl)
      · skip
        obtain ⟨j, hj, hj0, hje⟩ := hs.1 t (by omega)
        refine lv_aload_n hx hb dX4_wouldBe_37 rfl (lv_at hl 0 rfl) ?_
        refine va_get (D := G.1) (ci := 4) (v := .ref (a 5)) (C := RX4) (T := TX4) (N := 17) hx hb hts hinX4 hown hKK.1 hP 0 rfl rfl 6 (by decide) fl_22 (fun _ h9 => h9) rfl dX4_wouldBe_38 ?_
        refine lv_iload_n hx hb dX4_wouldBe_41 rfl (lv_at hl 3 rfl) ?_
        refine z_iald (n := 40) (f := g) (v := g t) hx hb hKK hP 5 rfl (by omega) (by decide) rfl dX4_wouldBe_42 ?_
        refine z_top (v := nI j) hje ?_
        refine lv_iload_n hx hb dX4_wouldBe_43 rfl (lv_at hl 1 rfl) ?_
        refine z_ne (tgt := 49) hx hb dX4_wouldBe_44 (by decide) (by omega) (by omega) (fun c_6 => ?_) (fun c_6 => ?_)
        · skip
          refine lv_iinc (v := nI (t + 1)) (lv' := [(3, .int (nI (t + 1))), (0, .ref (a 0)), (1, .int (nI n)), (2, .int (nI ρ))]) hx hb dX4_wouldBe_49 hl (k := 3) rfl (nI_1 _) (by decide) rfl (fun ls hl => ?_)
          refine lv_goto (tgt := 29) hx hb dX4_wouldBe_52 (by decide) ?_
          exact ih_4 (t + 1) (by omega) (z_ext hno (fun z => c_6 (nI_inj (by omega) (by omega) (hje.symm.trans z)))) (by omega) _ _ _ hP hD hS (lv_sub hl [1, 2, 3, 0] rfl)
        · skip
          refine lv_iload_n hx hb dX4_wouldBe_47 rfl (lv_at hl 3 rfl) ?_
          exact z_iretE g hx hb hr hlk hP hD hS dX4_wouldBe_48 rfl (wb_y hs hn (by omega) (by rw [hje, c_6]) rfl)
  exact key_4 _ 0 (by omega) (fun t' h => absurd h (Nat.not_lt_zero _)) (Nat.lt_succ_self _) _ _ _ hP hD hS (lv_sub hl [1, 2, 3, 0] rfl)

set_option maxHeartbeats 4000000 in
set_option maxRecDepth 100000 in
theorem c_X4_standing (l : Launch) (G : ZG) (a : Nat → Nat) (v : Mem) (y : Nat → Nat) (i : Nat) (e : Nat) (he : v 0 0 = nI e) (hm : v 0 3 = nI e) (he2 : e ≤ 999) (hc : okM (v 0) e) (hi : i < 3) (hie : i < e) : CIE l G yX4_standing wsX4_standing (zRm 2 48) [.ref (a 0), .int (nI i)] (modW G a v y) (S := Nat → Nat) (fun r Y => r = nI (fb_ct (pSm (v 0) e i) 40) ∧ ∀ j, j ≠ 3 → Y j = y j) (fun Y => modW G a v Y) := by
  refine CIE.ent (cc := cX4_standing) (maxL := 6) (ty := .int) (own := RX4) (by decide) rfl rfl (Nat.le_of_ble_eq_true rfl) ?_
  intro p ee s m args below meth c A ls F hr hlk hKK hP hD hA hS hl
  obtain ⟨hx, hb, hml, hown, hts⟩ := id F
  have hl : lv_has ls 6 [(0, .ref (a 0)), (1, .int (nI i))] := hl
  have ct_46 := hts (.constant RX4 46 (1000000)) (by decide +kernel)
  have fl_7 := hts (.fieldLink RX4 7 "NameRollsModel" "now" "[I") (by decide +kernel)
  have hinX4 : ∀ w ∈ wsX40, w ∈ wsX4_standing := by decide +kernel
  have hm9 := hm
  refine lv_iconst (v := nI 0) hx hb dX4_standing_0 (by decide) ?_
  refine lv_istore_n (lv' := [(2, .int (nI 0)), (0, .ref (a 0)), (1, .int (nI i))]) hx hb dX4_standing_1 rfl hl (by decide) rfl (fun ls hl => ?_)
  refine lv_aload_n hx hb dX4_standing_2 rfl (lv_at hl 1 rfl) ?_
  refine va_get (D := G.1) (ci := 4) (v := .ref (a 1)) (C := RX4) (T := TX4) (N := 17) hx hb hts hinX4 hown hKK.1 hP 0 rfl rfl 0 (by decide) fl_7 (fun _ h9 => h9) rfl dX4_standing_3 ?_
  refine lv_iconst (v := nI 0) hx hb dX4_standing_6 (by decide) ?_
  refine z_iald (n := 511) (f := v 0) (v := v 0 0) hx hb hKK hP 1 rfl (by omega) (by decide) rfl dX4_standing_7 ?_
  refine z_top (v := nI e) he ?_
  refine lv_iconst (v := nI 1) hx hb dX4_standing_8 (by decide) ?_
  refine z_sub (v := nI (e - 1)) hx hb dX4_standing_9 (pk_sub (by omega)) ?_
  refine lv_iload_n hx hb dX4_standing_10 rfl (lv_at hl 2 rfl) ?_
  refine z_sub (v := nI ((e - 1) - i)) hx hb dX4_standing_11 (pk_sub (by omega)) ?_
  refine lv_istore_n (lv' := [(3, .int (nI ((e - 1) - i))), (2, .int (nI 0)), (0, .ref (a 0)), (1, .int (nI i))]) hx hb dX4_standing_12 rfl hl (by decide) rfl (fun ls hl => ?_)
  refine lv_iconst (v := nI 0) hx hb dX4_standing_13 (by decide) ?_
  refine lv_istore (lv' := [(4, .int (nI 0)), (3, .int (nI ((e - 1) - i))), (2, .int (nI 0)), (0, .ref (a 0)), (1, .int (nI i))]) hx hb dX4_standing_14 hl (by decide) rfl (fun ls hl => ?_)
  have key_1 : ∀ (nn : Nat) (n : Nat) (Y : Nat → Nat), n ≤ 40 → (∀ j, j ≠ 3 → Y j = y j) → 40 - n < nn → ∀ (H : Heap) (locs : List Loc) (ls : Array Slot), va_P G.1 vwCl (modW G a v Y) H → va_D A (modW G a v Y) → va_S A s.heap H locs → lv_has ls 6 [(0, .ref (a 0)), (1, .int (nI i)), (2, .int (nI (fb_ct (pSm (v 0) e i) n))), (3, .int (nI (e - 1 - i))), (4, .int (nI n))] → W p l ee (zRm 2 48) s m args below meth c H locs 0 0 (MQ below (ZQie G A (S := Nat → Nat) (fun r Y => r = nI (fb_ct (pSm (v 0) e i) 40) ∧ ∀ j, j ≠ 3 → Y j = y j) (fun Y => modW G a v Y)) args s 0 0 A) (F0 m 16 ls []) := by
    intro nn
    induction nn with
    | zero => intro n Y _ _ hm; exact absurd hm (Nat.not_lt_zero _)
    | succ nn ih_1 =>
      intro n Y hn hY hm H locs ls hP hD hS hl
      refine lv_iload hx hb dX4_standing_16 (lv_at hl 4 rfl) ?_
      refine lv_bipush (v := nI 40) hx hb dX4_standing_18 (by decide) ?_
      refine z_ge (tgt := 73) hx hb dX4_standing_20 (by decide) (by omega) (by omega) (fun c_2 => ?_) (fun c_2 => ?_)
      · skip
        refine lv_iload_n hx hb dX4_standing_73 rfl (lv_at hl 2 rfl) ?_
        exact z_iretE Y hx hb hr hlk hP hD hS dX4_standing_74 rfl ⟨(by rw [show n = 40 by omega]), hY⟩
      · skip
        refine lv_aload_n hx hb dX4_standing_23 rfl (lv_at hl 0 rfl) ?_
        refine lv_iload_n hx hb dX4_standing_24 rfl (lv_at hl 1 rfl) ?_
        refine lv_iconst (v := nI 3) hx hb dX4_standing_25 (by decide) ?_
        refine lv_iload hx hb dX4_standing_26 (lv_at hl 4 rfl) ?_
        refine z_add (v := nI (3 + n)) hx hb dX4_standing_28 (nI_add _ _) ?_
        refine z_callVI (As := [.int (nI i), .int (nI (3 + n))]) (rest := []) (wr := []) (C := RX4) F (c_X4_ofCompaction l G a v Y (i) (3 + n) (by omega) (by omega)) (cwV 2 hts gX4_standing_X4_ofCompaction rfl rfl rfl (by decide +kernel) ⟨Nat.le_of_ble_eq_true rfl, Nat.le_of_ble_eq_true rfl⟩) hKK (z_recv hKK hP (q0 := 0) (ci := 4) rfl rfl) hP hD hS hA rfl hl.1 rfl (Nat.le_of_ble_eq_true rfl) ⟨Nat.zero_le _, Nat.zero_le _⟩ dX4_standing_29 (fun H locs hP hD hS => ?_)
        have hP : va_P G.1 vwCl (modW G a v Y) H := hP
        have hD : va_D A (modW G a v Y) := hD
        refine lv_istore (lv' := [(5, .int (v 0 (142 + 123 * i + (3 + n)))), (0, .ref (a 0)), (1, .int (nI i)), (2, .int (nI (fb_ct (pSm (v 0) e i) n))), (3, .int (nI (e - 1 - i))), (4, .int (nI n))]) hx hb dX4_standing_32 hl (by decide) rfl (fun ls hl => ?_)
        refine lv_iload_n hx hb dX4_standing_34 rfl (lv_at hl 3 rfl) ?_
        refine lv_iload hx hb dX4_standing_35 (lv_at hl 0 rfl) ?_
        refine lv_if_lt (tgt := 64) hx hb dX4_standing_37 (by decide) (fun c_3 => ?_) (fun c_3 => ?_)
        · skip
          refine lv_iconst (v := nI 0) hx hb dX4_standing_64 (by decide) ?_
          refine z_add (v := nI (fb_ct (pSm (v 0) e i) (n + 1))) hx hb dX4_standing_65 (by rw [fb_ct_f (p := pSm (v 0) e i) (n := n) (by rw [pSm, decide_eq_false (fun z => z c_3), Bool.false_and])]; exact nI_add _ 0) ?_
          refine lv_istore_n (lv' := [(2, .int (nI (fb_ct (pSm (v 0) e i) (n + 1)))), (5, .int (v 0 (142 + 123 * i + (3 + n)))), (0, .ref (a 0)), (1, .int (nI i)), (3, .int (nI (e - 1 - i))), (4, .int (nI n))]) hx hb dX4_standing_66 rfl hl (by decide) rfl (fun ls hl => ?_)
          refine lv_iinc (v := nI (n + 1)) (lv' := [(4, .int (nI (n + 1))), (2, .int (nI (fb_ct (pSm (v 0) e i) (n + 1)))), (5, .int (v 0 (142 + 123 * i + (3 + n)))), (0, .ref (a 0)), (1, .int (nI i)), (3, .int (nI (e - 1 - i)))]) hx hb dX4_standing_67 hl (k := 5) rfl (nI_1 _) (by decide) rfl (fun ls hl => ?_)
          refine lv_goto (tgt := 16) hx hb dX4_standing_70 (by decide) ?_
          exact ih_1 (n + 1) _ (by omega) hY (by omega) _ _ _ hP hD hS (lv_sub hl [3, 4, 1, 5, 0] rfl)
        · skip
          refine lv_aload_n hx hb dX4_standing_40 rfl (lv_at hl 1 rfl) ?_
          refine z_ldc (v' := nI 1000000) hx hb hown ct_46 dX4_standing_41 rfl ?_
          refine lv_iload_n hx hb dX4_standing_43 rfl (lv_at hl 4 rfl) ?_
          refine z_mul (v := nI 1000000 * nI (e - 1 - i)) hx hb dX4_standing_44 rfl ?_
          refine lv_bipush (v := nI 100) hx hb dX4_standing_45 (by decide) ?_
          refine lv_iload hx hb dX4_standing_47 (lv_at hl 0 rfl) ?_
          refine z_mul (v := (nI 100) * (v 0 (142 + 123 * i + (3 + n)))) hx hb dX4_standing_49 rfl ?_
          refine z_add (v := (nI 1000000 * nI (e - 1 - i)) + ((nI 100) * (v 0 (142 + 123 * i + (3 + n))))) hx hb dX4_standing_50 rfl ?_
          refine lv_iload hx hb dX4_standing_51 (lv_at hl 5 rfl) ?_
          refine z_add (v := ((nI 1000000 * nI (e - 1 - i)) + ((nI 100) * (v 0 (142 + 123 * i + (3 + n))))) + (nI n)) hx hb dX4_standing_53 rfl ?_
          refine z_callVI (As := [.int (((nI 1000000 * nI (e - 1 - i)) + ((nI 100) * (v 0 (142 + 123 * i + (3 + n))))) + (nI n))]) (rest := [.int (nI (fb_ct (pSm (v 0) e i) n))]) (wr := []) (C := RX4) F (c_X4_reasonOf l G a v Y (((nI 1000000 * nI (e - 1 - i)) + ((nI 100) * (v 0 (142 + 123 * i + (3 + n))))) + (nI n)) e he hm9 he2 hc) (cwV 1 hts gX4_standing_X4_reasonOf rfl rfl rfl (by decide +kernel) ⟨Nat.le_of_ble_eq_true rfl, Nat.le_of_ble_eq_true rfl⟩) hKK (z_recv hKK hP (q0 := 0) (ci := 4) rfl rfl) hP hD hS hA rfl hl.1 rfl (Nat.le_of_ble_eq_true rfl) ⟨Nat.zero_le _, Nat.zero_le _⟩ dX4_standing_54 (fun H locs hP hD hS => ?_)
          have hP : va_P G.1 vwCl (modW G a v (mY Y (mSta (v 0) e (((nI 1000000 * nI (e - 1 - i)) + ((nI 100) * (v 0 (142 + 123 * i + (3 + n))))) + (nI n))))) H := hP
          have hD : va_D A (modW G a v (mY Y (mSta (v 0) e (((nI 1000000 * nI (e - 1 - i)) + ((nI 100) * (v 0 (142 + 123 * i + (3 + n))))) + (nI n))))) := hD
          refine z_ifNne (tgt := 64) hx hb dX4_standing_57 (by decide) (mSta_le4 _ _ _) (fun c_4 => ?_) (fun c_4 => ?_)
          · skip
            refine lv_iconst (v := nI 0) hx hb dX4_standing_64 (by decide) ?_
            refine z_add (v := nI (fb_ct (pSm (v 0) e i) (n + 1))) hx hb dX4_standing_65 (by rw [fb_ct_f (p := pSm (v 0) e i) (n := n) (by rw [pSm, decide_eq_false c_4, Bool.and_false])]; exact nI_add _ 0) ?_
            refine lv_istore_n (lv' := [(2, .int (nI (fb_ct (pSm (v 0) e i) (n + 1)))), (5, .int (v 0 (142 + 123 * i + (3 + n)))), (0, .ref (a 0)), (1, .int (nI i)), (3, .int (nI (e - 1 - i))), (4, .int (nI n))]) hx hb dX4_standing_66 rfl hl (by decide) rfl (fun ls hl => ?_)
            refine lv_iinc (v := nI (n + 1)) (lv' := [(4, .int (nI (n + 1))), (2, .int (nI (fb_ct (pSm (v 0) e i) (n + 1)))), (5, .int (v 0 (142 + 123 * i + (3 + n)))), (0, .ref (a 0)), (1, .int (nI i)), (3, .int (nI (e - 1 - i)))]) hx hb dX4_standing_67 hl (k := 5) rfl (nI_1 _) (by decide) rfl (fun ls hl => ?_)
            refine lv_goto (tgt := 16) hx hb dX4_standing_70 (by decide) ?_
            exact ih_1 (n + 1) _ (by omega) (fun j hj => (mY_3 _ _ j hj).trans (hY j hj)) (by omega) _ _ _ hP hD hS (lv_sub hl [3, 4, 1, 5, 0] rfl)
          · skip
            refine lv_iconst (v := nI 1) hx hb dX4_standing_60 (by decide) ?_
            refine lv_goto (tgt := 65) hx hb dX4_standing_61 (by decide) ?_
            refine z_add (v := nI (fb_ct (pSm (v 0) e i) (n + 1))) hx hb dX4_standing_65 (by rw [fb_ct_t (p := pSm (v 0) e i) (n := n) (by rw [pSm, Bool.and_eq_true]; exact ⟨decide_eq_true c_3, decide_eq_true c_4⟩)]; exact nI_1 _) ?_
            refine lv_istore_n (lv' := [(2, .int (nI (fb_ct (pSm (v 0) e i) (n + 1)))), (5, .int (v 0 (142 + 123 * i + (3 + n)))), (0, .ref (a 0)), (1, .int (nI i)), (3, .int (nI (e - 1 - i))), (4, .int (nI n))]) hx hb dX4_standing_66 rfl hl (by decide) rfl (fun ls hl => ?_)
            refine lv_iinc (v := nI (n + 1)) (lv' := [(4, .int (nI (n + 1))), (2, .int (nI (fb_ct (pSm (v 0) e i) (n + 1)))), (5, .int (v 0 (142 + 123 * i + (3 + n)))), (0, .ref (a 0)), (1, .int (nI i)), (3, .int (nI (e - 1 - i)))]) hx hb dX4_standing_67 hl (k := 5) rfl (nI_1 _) (by decide) rfl (fun ls hl => ?_)
            refine lv_goto (tgt := 16) hx hb dX4_standing_70 (by decide) ?_
            exact ih_1 (n + 1) _ (by omega) (fun j hj => (mY_3 _ _ j hj).trans (hY j hj)) (by omega) _ _ _ hP hD hS (lv_sub hl [3, 4, 1, 5, 0] rfl)
  exact key_1 _ 0 y (by omega) (fun _ _ => rfl) (Nat.lt_succ_self _) _ _ _ hP hD hS (lv_sub hl [3, 4, 2, 1, 0] rfl)

set_option maxHeartbeats 4000000 in
set_option maxRecDepth 100000 in
theorem c_X4_compaction_bad (l : Launch) (G : ZG) (a : Nat → Nat) (v : Mem) (y : Nat → Nat) (x w : Int32) (h9 : (zWi x 0 2 && zWi w 0 3) = false) : CI l G yX4_compaction wsX4_compaction (zRm 3 73) [.ref (a 0), .int x, .int w] (modW G a v y) ((-1000001)) (modW G a v y) := by
  refine CI.ent (cc := cX4_compaction) (maxL := 3) (ty := .int) (own := RX4) (by decide) rfl rfl (Nat.le_of_ble_eq_true rfl) ?_
  intro p ee s m args below meth c A ls F hr hlk hKK hP hD hA hS hl
  obtain ⟨hx, hb, hml, hown, hts⟩ := id F
  have hl : lv_has ls 3 [(0, .ref (a 0)), (1, .int x), (2, .int w)] := hl
  have ct_61 := hts (.constant RX4 61 (-1000001)) (by decide +kernel)
  refine lv_iload_n hx hb dX4_compaction_0 rfl (lv_at hl 1 rfl) ?_
  refine lv_iconst (v := nI 0) hx hb dX4_compaction_1 (by decide) ?_
  refine lv_iconst (v := nI 2) hx hb dX4_compaction_2 (by decide) ?_
  refine z_callSI (As := [.int x, .int (nI 0), .int (nI 2)]) (rest := []) F (c_X4_within l G x (0) (2)) (va_cwS 3 hts gX4_compaction_X4_within rfl rfl rfl (by decide +kernel) ⟨Nat.le_of_ble_eq_true rfl, Nat.le_of_ble_eq_true rfl⟩) hKK hP hD hS hA rfl hl.1 rfl (Nat.le_of_ble_eq_true rfl) ⟨Nat.zero_le _, Nat.zero_le _⟩ dX4_compaction_3 (fun H locs hP hD hS => ?_)
  refine z_ifBeq (tgt := 18) hx hb dX4_compaction_6 (by decide) (fun c_1 => ?_) (fun c_1 => ?_)
  · skip
    refine z_ldc (v' := (-1000001)) hx hb hown ct_61 dX4_compaction_18 rfl ?_
    exact z_iret hx hb hr hlk hP hD hS dX4_compaction_20 rfl rfl
  · skip
    refine lv_iload_n hx hb dX4_compaction_9 rfl (lv_at hl 2 rfl) ?_
    refine lv_iconst (v := nI 0) hx hb dX4_compaction_10 (by decide) ?_
    refine lv_iconst (v := nI 3) hx hb dX4_compaction_11 (by decide) ?_
    refine z_callSI (As := [.int w, .int (nI 0), .int (nI 3)]) (rest := []) F (c_X4_within l G w (0) (3)) (va_cwS 3 hts gX4_compaction_X4_within rfl rfl rfl (by decide +kernel) ⟨Nat.le_of_ble_eq_true rfl, Nat.le_of_ble_eq_true rfl⟩) hKK hP hD hS hA rfl hl.1 rfl (Nat.le_of_ble_eq_true rfl) ⟨Nat.zero_le _, Nat.zero_le _⟩ dX4_compaction_12 (fun H locs hP hD hS => ?_)
    refine z_ifBne (tgt := 21) hx hb dX4_compaction_15 (by decide) (fun c_2 => absurd ((congrArg (zWi x 0 2 && ·) c_2).symm.trans h9) (by rw [c_1]; decide)) (fun c_2 => ?_)
    refine z_ldc (v' := (-1000001)) hx hb hown ct_61 dX4_compaction_18 rfl ?_
    exact z_iret hx hb hr hlk hP hD hS dX4_compaction_20 rfl rfl

set_option maxHeartbeats 4000000 in
set_option maxRecDepth 100000 in
theorem c_X4_compaction_no (l : Launch) (G : ZG) (a : Nat → Nat) (v : Mem) (y : Nat → Nat) (i w e : Nat) (hi : i < 3) (hw : w ≤ 3) (he : v 0 0 = nI e) (hm : v 0 3 = nI e) (he2 : e ≤ 999) (hie : ¬ i < e) : CI l G yX4_compaction wsX4_compaction (zRm 3 73) [.ref (a 0), .int (nI i), .int (nI w)] (modW G a v y) ((-1000004)) (modW G a v y) := by
  refine CI.ent (cc := cX4_compaction) (maxL := 3) (ty := .int) (own := RX4) (by decide) rfl rfl (Nat.le_of_ble_eq_true rfl) ?_
  intro p ee s m args below meth c A ls F hr hlk hKK hP hD hA hS hl
  obtain ⟨hx, hb, hml, hown, hts⟩ := id F
  have hl : lv_has ls 3 [(0, .ref (a 0)), (1, .int (nI i)), (2, .int (nI w))] := hl
  have ct_99 := hts (.constant RX4 99 (-1000004)) (by decide +kernel)
  refine lv_iload_n hx hb dX4_compaction_0 rfl (lv_at hl 1 rfl) ?_
  refine lv_iconst (v := nI 0) hx hb dX4_compaction_1 (by decide) ?_
  refine lv_iconst (v := nI 2) hx hb dX4_compaction_2 (by decide) ?_
  refine z_callSI (As := [.int (nI i), .int (nI 0), .int (nI 2)]) (rest := []) F (c_X4_within_t l G (i) (0) (2) (by omega) (by omega) (by decide)) (va_cwS 3 hts gX4_compaction_X4_within rfl rfl rfl (by decide +kernel) ⟨Nat.le_of_ble_eq_true rfl, Nat.le_of_ble_eq_true rfl⟩) hKK hP hD hS hA rfl hl.1 rfl (Nat.le_of_ble_eq_true rfl) ⟨Nat.zero_le _, Nat.zero_le _⟩ dX4_compaction_3 (fun H locs hP hD hS => ?_)
  refine z_ifBeq (tgt := 18) hx hb dX4_compaction_6 (by decide) (fun c_1 => absurd c_1 (by decide)) (fun c_1 => ?_)
  refine lv_iload_n hx hb dX4_compaction_9 rfl (lv_at hl 2 rfl) ?_
  refine lv_iconst (v := nI 0) hx hb dX4_compaction_10 (by decide) ?_
  refine lv_iconst (v := nI 3) hx hb dX4_compaction_11 (by decide) ?_
  refine z_callSI (As := [.int (nI w), .int (nI 0), .int (nI 3)]) (rest := []) F (c_X4_within_t l G (w) (0) (3) (by omega) (by omega) (by decide)) (va_cwS 3 hts gX4_compaction_X4_within rfl rfl rfl (by decide +kernel) ⟨Nat.le_of_ble_eq_true rfl, Nat.le_of_ble_eq_true rfl⟩) hKK hP hD hS hA rfl hl.1 rfl (Nat.le_of_ble_eq_true rfl) ⟨Nat.zero_le _, Nat.zero_le _⟩ dX4_compaction_12 (fun H locs hP hD hS => ?_)
  refine z_ifBne (tgt := 21) hx hb dX4_compaction_15 (by decide) (fun c_2 => ?_) (fun c_2 => absurd c_2 (by decide))
  refine lv_iload_n hx hb dX4_compaction_21 rfl (lv_at hl 1 rfl) ?_
  refine lv_aload_n hx hb dX4_compaction_22 rfl (lv_at hl 0 rfl) ?_
  refine z_callVI (As := []) (rest := [.int (nI i)]) (wr := []) (C := RX4) F (c_X4_kept l G a v y e hm he2) (cwV 0 hts gX4_compaction_X4_kept rfl rfl rfl (by decide +kernel) ⟨Nat.le_of_ble_eq_true rfl, Nat.le_of_ble_eq_true rfl⟩) hKK (z_recv hKK hP (q0 := 0) (ci := 4) rfl rfl) hP hD hS hA rfl hl.1 rfl (Nat.le_of_ble_eq_true rfl) ⟨Nat.zero_le _, Nat.zero_le _⟩ dX4_compaction_23 (fun H locs hP hD hS => ?_)
  have hP : va_P G.1 vwCl (modW G a v y) H := hP
  have hD : va_D A (modW G a v y) := hD
  refine z_lt (tgt := 32) hx hb dX4_compaction_26 (by decide) (by omega) (by omega) (fun c_3 => absurd c_3 (by omega)) (fun c_3 => ?_)
  refine z_ldc (v' := (-1000004)) hx hb hown ct_99 dX4_compaction_29 rfl ?_
  exact z_iret hx hb hr hlk hP hD hS dX4_compaction_31 rfl rfl

set_option maxHeartbeats 4000000 in
set_option maxRecDepth 100000 in
theorem c_X4_compaction_w (l : Launch) (G : ZG) (a : Nat → Nat) (v : Mem) (y : Nat → Nat) (i w e : Nat) (hi : i < 3) (hw : w < 3) (he : v 0 0 = nI e) (hm : v 0 3 = nI e) (he2 : e ≤ 999) (hie : i < e) : CI l G yX4_compaction wsX4_compaction (zRm 3 73) [.ref (a 0), .int (nI i), .int (nI w)] (modW G a v y) (v 0 (142 + 123 * i + w)) (modW G a v y) := by
  refine CI.ent (cc := cX4_compaction) (maxL := 3) (ty := .int) (own := RX4) (by decide) rfl rfl (Nat.le_of_ble_eq_true rfl) ?_
  intro p ee s m args below meth c A ls F hr hlk hKK hP hD hA hS hl
  obtain ⟨hx, hb, hml, hown, hts⟩ := id F
  have hl : lv_has ls 3 [(0, .ref (a 0)), (1, .int (nI i)), (2, .int (nI w))] := hl
  refine lv_iload_n hx hb dX4_compaction_0 rfl (lv_at hl 1 rfl) ?_
  refine lv_iconst (v := nI 0) hx hb dX4_compaction_1 (by decide) ?_
  refine lv_iconst (v := nI 2) hx hb dX4_compaction_2 (by decide) ?_
  refine z_callSI (As := [.int (nI i), .int (nI 0), .int (nI 2)]) (rest := []) F (c_X4_within_t l G (i) (0) (2) (by omega) (by omega) (by decide)) (va_cwS 3 hts gX4_compaction_X4_within rfl rfl rfl (by decide +kernel) ⟨Nat.le_of_ble_eq_true rfl, Nat.le_of_ble_eq_true rfl⟩) hKK hP hD hS hA rfl hl.1 rfl (Nat.le_of_ble_eq_true rfl) ⟨Nat.zero_le _, Nat.zero_le _⟩ dX4_compaction_3 (fun H locs hP hD hS => ?_)
  refine z_ifBeq (tgt := 18) hx hb dX4_compaction_6 (by decide) (fun c_1 => absurd c_1 (by decide)) (fun c_1 => ?_)
  refine lv_iload_n hx hb dX4_compaction_9 rfl (lv_at hl 2 rfl) ?_
  refine lv_iconst (v := nI 0) hx hb dX4_compaction_10 (by decide) ?_
  refine lv_iconst (v := nI 3) hx hb dX4_compaction_11 (by decide) ?_
  refine z_callSI (As := [.int (nI w), .int (nI 0), .int (nI 3)]) (rest := []) F (c_X4_within_t l G (w) (0) (3) (by omega) (by omega) (by decide)) (va_cwS 3 hts gX4_compaction_X4_within rfl rfl rfl (by decide +kernel) ⟨Nat.le_of_ble_eq_true rfl, Nat.le_of_ble_eq_true rfl⟩) hKK hP hD hS hA rfl hl.1 rfl (Nat.le_of_ble_eq_true rfl) ⟨Nat.zero_le _, Nat.zero_le _⟩ dX4_compaction_12 (fun H locs hP hD hS => ?_)
  refine z_ifBne (tgt := 21) hx hb dX4_compaction_15 (by decide) (fun c_2 => ?_) (fun c_2 => absurd c_2 (by decide))
  refine lv_iload_n hx hb dX4_compaction_21 rfl (lv_at hl 1 rfl) ?_
  refine lv_aload_n hx hb dX4_compaction_22 rfl (lv_at hl 0 rfl) ?_
  refine z_callVI (As := []) (rest := [.int (nI i)]) (wr := []) (C := RX4) F (c_X4_kept l G a v y e hm he2) (cwV 0 hts gX4_compaction_X4_kept rfl rfl rfl (by decide +kernel) ⟨Nat.le_of_ble_eq_true rfl, Nat.le_of_ble_eq_true rfl⟩) hKK (z_recv hKK hP (q0 := 0) (ci := 4) rfl rfl) hP hD hS hA rfl hl.1 rfl (Nat.le_of_ble_eq_true rfl) ⟨Nat.zero_le _, Nat.zero_le _⟩ dX4_compaction_23 (fun H locs hP hD hS => ?_)
  have hP : va_P G.1 vwCl (modW G a v y) H := hP
  have hD : va_D A (modW G a v y) := hD
  refine z_lt (tgt := 32) hx hb dX4_compaction_26 (by decide) (by omega) (by omega) (fun c_3 => ?_) (fun c_3 => absurd c_3 (by omega))
  refine lv_iload_n hx hb dX4_compaction_32 rfl (lv_at hl 2 rfl) ?_
  refine lv_iconst (v := nI 3) hx hb dX4_compaction_33 (by decide) ?_
  refine z_ge (tgt := 46) hx hb dX4_compaction_34 (by decide) (by omega) (by omega) (fun c_4 => absurd c_4 (by omega)) (fun c_4 => ?_)
  refine lv_aload_n hx hb dX4_compaction_37 rfl (lv_at hl 0 rfl) ?_
  refine lv_iload_n hx hb dX4_compaction_38 rfl (lv_at hl 1 rfl) ?_
  refine lv_iload_n hx hb dX4_compaction_39 rfl (lv_at hl 2 rfl) ?_
  refine z_callVI (As := [.int (nI i), .int (nI w)]) (rest := []) (wr := []) (C := RX4) F (c_X4_ofCompaction l G a v y (i) (w) (by omega) (by omega)) (cwV 2 hts gX4_compaction_X4_ofCompaction rfl rfl rfl (by decide +kernel) ⟨Nat.le_of_ble_eq_true rfl, Nat.le_of_ble_eq_true rfl⟩) hKK (z_recv hKK hP (q0 := 0) (ci := 4) rfl rfl) hP hD hS hA rfl hl.1 rfl (Nat.le_of_ble_eq_true rfl) ⟨Nat.zero_le _, Nat.zero_le _⟩ dX4_compaction_40 (fun H locs hP hD hS => ?_)
  have hP : va_P G.1 vwCl (modW G a v y) H := hP
  have hD : va_D A (modW G a v y) := hD
  refine lv_goto (tgt := 51) hx hb dX4_compaction_43 (by decide) ?_
  exact z_iret hx hb hr hlk hP hD hS dX4_compaction_51 rfl rfl

set_option maxHeartbeats 4000000 in
set_option maxRecDepth 100000 in
theorem c_X4_compaction_s (l : Launch) (G : ZG) (a : Nat → Nat) (v : Mem) (y : Nat → Nat) (i : Nat) (e : Nat) (he : v 0 0 = nI e) (hm : v 0 3 = nI e) (he2 : e ≤ 999) (hc : okM (v 0) e) (hi : i < 3) (hie : i < e) : CIE l G yX4_compaction wsX4_compaction (zRm 3 73) [.ref (a 0), .int (nI i), .int (nI 3)] (modW G a v y) (S := Nat → Nat) (fun r Y => r = nI (fb_ct (pSm (v 0) e i) 40) ∧ ∀ j, j ≠ 3 → Y j = y j) (fun Y => modW G a v Y) := by
  refine CIE.ent (cc := cX4_compaction) (maxL := 3) (ty := .int) (own := RX4) (by decide) rfl rfl (Nat.le_of_ble_eq_true rfl) ?_
  intro p ee s m args below meth c A ls F hr hlk hKK hP hD hA hS hl
  obtain ⟨hx, hb, hml, hown, hts⟩ := id F
  have hl : lv_has ls 3 [(0, .ref (a 0)), (1, .int (nI i)), (2, .int (nI 3))] := hl
  refine lv_iload_n hx hb dX4_compaction_0 rfl (lv_at hl 1 rfl) ?_
  refine lv_iconst (v := nI 0) hx hb dX4_compaction_1 (by decide) ?_
  refine lv_iconst (v := nI 2) hx hb dX4_compaction_2 (by decide) ?_
  refine z_callSI (As := [.int (nI i), .int (nI 0), .int (nI 2)]) (rest := []) F (c_X4_within_t l G (i) (0) (2) (by omega) (by omega) (by decide)) (va_cwS 3 hts gX4_compaction_X4_within rfl rfl rfl (by decide +kernel) ⟨Nat.le_of_ble_eq_true rfl, Nat.le_of_ble_eq_true rfl⟩) hKK hP hD hS hA rfl hl.1 rfl (Nat.le_of_ble_eq_true rfl) ⟨Nat.zero_le _, Nat.zero_le _⟩ dX4_compaction_3 (fun H locs hP hD hS => ?_)
  refine z_ifBeq (tgt := 18) hx hb dX4_compaction_6 (by decide) (fun c_1 => absurd c_1 (by decide)) (fun c_1 => ?_)
  refine lv_iload_n hx hb dX4_compaction_9 rfl (lv_at hl 2 rfl) ?_
  refine lv_iconst (v := nI 0) hx hb dX4_compaction_10 (by decide) ?_
  refine lv_iconst (v := nI 3) hx hb dX4_compaction_11 (by decide) ?_
  refine z_callSI (As := [.int (nI 3), .int (nI 0), .int (nI 3)]) (rest := []) F (c_X4_within_t l G (3) (0) (3) (by omega) (by omega) (by decide)) (va_cwS 3 hts gX4_compaction_X4_within rfl rfl rfl (by decide +kernel) ⟨Nat.le_of_ble_eq_true rfl, Nat.le_of_ble_eq_true rfl⟩) hKK hP hD hS hA rfl hl.1 rfl (Nat.le_of_ble_eq_true rfl) ⟨Nat.zero_le _, Nat.zero_le _⟩ dX4_compaction_12 (fun H locs hP hD hS => ?_)
  refine z_ifBne (tgt := 21) hx hb dX4_compaction_15 (by decide) (fun c_2 => ?_) (fun c_2 => absurd c_2 (by decide))
  refine lv_iload_n hx hb dX4_compaction_21 rfl (lv_at hl 1 rfl) ?_
  refine lv_aload_n hx hb dX4_compaction_22 rfl (lv_at hl 0 rfl) ?_
  refine z_callVI (As := []) (rest := [.int (nI i)]) (wr := []) (C := RX4) F (c_X4_kept l G a v y e hm he2) (cwV 0 hts gX4_compaction_X4_kept rfl rfl rfl (by decide +kernel) ⟨Nat.le_of_ble_eq_true rfl, Nat.le_of_ble_eq_true rfl⟩) hKK (z_recv hKK hP (q0 := 0) (ci := 4) rfl rfl) hP hD hS hA rfl hl.1 rfl (Nat.le_of_ble_eq_true rfl) ⟨Nat.zero_le _, Nat.zero_le _⟩ dX4_compaction_23 (fun H locs hP hD hS => ?_)
  have hP : va_P G.1 vwCl (modW G a v y) H := hP
  have hD : va_D A (modW G a v y) := hD
  refine z_lt (tgt := 32) hx hb dX4_compaction_26 (by decide) (by omega) (by omega) (fun c_3 => ?_) (fun c_3 => absurd c_3 (by omega))
  refine lv_iload_n hx hb dX4_compaction_32 rfl (lv_at hl 2 rfl) ?_
  refine lv_iconst (v := nI 3) hx hb dX4_compaction_33 (by decide) ?_
  refine z_ge (tgt := 46) hx hb dX4_compaction_34 (by decide) (by omega) (by omega) (fun c_4 => ?_) (fun c_4 => absurd c_4 (by omega))
  refine lv_aload_n hx hb dX4_compaction_46 rfl (lv_at hl 0 rfl) ?_
  refine lv_iload_n hx hb dX4_compaction_47 rfl (lv_at hl 1 rfl) ?_
  refine z_callVIE (As := [.int (nI i)]) (rest := []) (wr := []) (C := RX4) F (c_X4_standing l G a v y i e he hm he2 hc hi hie) (cwV 1 hts gX4_compaction_X4_standing rfl rfl rfl (by decide +kernel) ⟨Nat.le_of_ble_eq_true rfl, Nat.le_of_ble_eq_true rfl⟩) hKK (z_recv hKK hP (q0 := 0) (ci := 4) rfl rfl) hP hD hS hA rfl hl.1 rfl (Nat.le_of_ble_eq_true rfl) ⟨Nat.zero_le _, Nat.zero_le _⟩ dX4_compaction_48 (fun r_5 u_5 H locs hq_5 hP hD hS => ?_)
  obtain ⟨hq1_5, hq2_5⟩ := hq_5
  subst hq1_5
  have hP : va_P G.1 vwCl (modW G a v u_5) H := hP
  have hD : va_D A (modW G a v u_5) := hD
  exact z_iretE u_5 hx hb hr hlk hP hD hS dX4_compaction_51 rfl ⟨rfl, hq2_5⟩

set_option maxHeartbeats 4000000 in
set_option maxRecDepth 100000 in
theorem c_X4_count_0 (l : Launch) (G : ZG) (a : Nat → Nat) (v : Mem) (y : Nat → Nat)  : CI l G yX4_count wsX4_count (zRm 2 43) [.ref (a 0), .int (nI 0)] (modW G a v y) (nI (cntA (v 0))) (modW G a v y) := by
  refine CI.ent (cc := cX4_count) (maxL := 2) (ty := .int) (own := RX4) (by decide) rfl rfl (Nat.le_of_ble_eq_true rfl) ?_
  intro p ee s m args below meth c A ls F hr hlk hKK hP hD hA hS hl
  obtain ⟨hx, hb, hml, hown, hts⟩ := id F
  have hl : lv_has ls 2 [(0, .ref (a 0)), (1, .int (nI 0))] := hl
  refine lv_iload_n hx hb dX4_count_0 rfl (lv_at hl 1 rfl) ?_
  refine lv_tableIn (off := 59) (tgt := 60) hx hb dX4_count_1 (by decide) (by decide) rfl (by decide) ?_
  refine lv_aload_n hx hb dX4_count_60 rfl (lv_at hl 0 rfl) ?_
  refine z_callVI (As := []) (rest := []) (wr := []) (C := RX4) F (c_X4_namesAll l G a v y) (cwV 0 hts gX4_count_X4_namesAll rfl rfl rfl (by decide +kernel) ⟨Nat.le_of_ble_eq_true rfl, Nat.le_of_ble_eq_true rfl⟩) hKK (z_recv hKK hP (q0 := 0) (ci := 4) rfl rfl) hP hD hS hA rfl hl.1 rfl (Nat.le_of_ble_eq_true rfl) ⟨Nat.zero_le _, Nat.zero_le _⟩ dX4_count_61 (fun H locs hP hD hS => ?_)
  have hP : va_P G.1 vwCl (modW G a v y) H := hP
  have hD : va_D A (modW G a v y) := hD
  exact z_iret hx hb hr hlk hP hD hS dX4_count_64 rfl rfl

set_option maxHeartbeats 4000000 in
set_option maxRecDepth 100000 in
theorem c_X4_count_1 (l : Launch) (G : ZG) (a : Nat → Nat) (v : Mem) (y : Nat → Nat)  : CI l G yX4_count wsX4_count (zRm 2 43) [.ref (a 0), .int (nI 1)] (modW G a v y) (zSm (rU (v 0)) 40) (modW G a v y) := by
  refine CI.ent (cc := cX4_count) (maxL := 2) (ty := .int) (own := RX4) (by decide) rfl rfl (Nat.le_of_ble_eq_true rfl) ?_
  intro p ee s m args below meth c A ls F hr hlk hKK hP hD hA hS hl
  obtain ⟨hx, hb, hml, hown, hts⟩ := id F
  have hl : lv_has ls 2 [(0, .ref (a 0)), (1, .int (nI 1))] := hl
  refine lv_iload_n hx hb dX4_count_0 rfl (lv_at hl 1 rfl) ?_
  refine lv_tableIn (off := 64) (tgt := 65) hx hb dX4_count_1 (by decide) (by decide) rfl (by decide) ?_
  refine lv_aload_n hx hb dX4_count_65 rfl (lv_at hl 0 rfl) ?_
  refine z_callVI (As := []) (rest := []) (wr := []) (C := RX4) F (c_X4_usersAll l G a v y) (cwV 0 hts gX4_count_X4_usersAll rfl rfl rfl (by decide +kernel) ⟨Nat.le_of_ble_eq_true rfl, Nat.le_of_ble_eq_true rfl⟩) hKK (z_recv hKK hP (q0 := 0) (ci := 4) rfl rfl) hP hD hS hA rfl hl.1 rfl (Nat.le_of_ble_eq_true rfl) ⟨Nat.zero_le _, Nat.zero_le _⟩ dX4_count_66 (fun H locs hP hD hS => ?_)
  have hP : va_P G.1 vwCl (modW G a v y) H := hP
  have hD : va_D A (modW G a v y) := hD
  exact z_iret hx hb hr hlk hP hD hS dX4_count_69 rfl rfl

set_option maxHeartbeats 4000000 in
set_option maxRecDepth 100000 in
theorem c_X4_count_2 (l : Launch) (G : ZG) (a : Nat → Nat) (v : Mem) (y : Nat → Nat)  : CI l G yX4_count wsX4_count (zRm 2 43) [.ref (a 0), .int (nI 2)] (modW G a v y) (nI 18 - nI (zCells (rC (v 0)) (-1))) (modW G a v y) := by
  refine CI.ent (cc := cX4_count) (maxL := 2) (ty := .int) (own := RX4) (by decide) rfl rfl (Nat.le_of_ble_eq_true rfl) ?_
  intro p ee s m args below meth c A ls F hr hlk hKK hP hD hA hS hl
  obtain ⟨hx, hb, hml, hown, hts⟩ := id F
  have hl : lv_has ls 2 [(0, .ref (a 0)), (1, .int (nI 2))] := hl
  refine lv_iload_n hx hb dX4_count_0 rfl (lv_at hl 1 rfl) ?_
  refine lv_tableIn (off := 69) (tgt := 70) hx hb dX4_count_1 (by decide) (by decide) rfl (by decide) ?_
  refine lv_bipush (v := nI 18) hx hb dX4_count_70 (by decide) ?_
  refine lv_aload_n hx hb dX4_count_72 rfl (lv_at hl 0 rfl) ?_
  refine lv_iconst (v := (-1)) hx hb dX4_count_73 (by decide) ?_
  refine z_callVI (As := [.int ((-1))]) (rest := [.int (nI 18)]) (wr := []) (C := RX4) F (c_X4_cellsWith l G a v y ((-1))) (cwV 1 hts gX4_count_X4_cellsWith rfl rfl rfl (by decide +kernel) ⟨Nat.le_of_ble_eq_true rfl, Nat.le_of_ble_eq_true rfl⟩) hKK (z_recv hKK hP (q0 := 0) (ci := 4) rfl rfl) hP hD hS hA rfl hl.1 rfl (Nat.le_of_ble_eq_true rfl) ⟨Nat.zero_le _, Nat.zero_le _⟩ dX4_count_74 (fun H locs hP hD hS => ?_)
  have hP : va_P G.1 vwCl (modW G a v y) H := hP
  have hD : va_D A (modW G a v y) := hD
  refine z_sub (v := nI 18 - nI (zCells (rC (v 0)) (-1))) hx hb dX4_count_77 rfl ?_
  exact z_iret hx hb hr hlk hP hD hS dX4_count_78 rfl rfl

set_option maxHeartbeats 4000000 in
set_option maxRecDepth 100000 in
theorem c_X4_count_3 (l : Launch) (G : ZG) (a : Nat → Nat) (v : Mem) (y : Nat → Nat)  : CI l G yX4_count wsX4_count (zRm 2 43) [.ref (a 0), .int (nI 3)] (modW G a v y) (v 0 0) (modW G a v y) := by
  refine CI.ent (cc := cX4_count) (maxL := 2) (ty := .int) (own := RX4) (by decide) rfl rfl (Nat.le_of_ble_eq_true rfl) ?_
  intro p ee s m args below meth c A ls F hr hlk hKK hP hD hA hS hl
  obtain ⟨hx, hb, hml, hown, hts⟩ := id F
  have hl : lv_has ls 2 [(0, .ref (a 0)), (1, .int (nI 3))] := hl
  have fl_7 := hts (.fieldLink RX4 7 "NameRollsModel" "now" "[I") (by decide +kernel)
  have hinX4 : ∀ w ∈ wsX40, w ∈ wsX4_count := by decide +kernel
  refine lv_iload_n hx hb dX4_count_0 rfl (lv_at hl 1 rfl) ?_
  refine lv_tableIn (off := 78) (tgt := 79) hx hb dX4_count_1 (by decide) (by decide) rfl (by decide) ?_
  refine lv_aload_n hx hb dX4_count_79 rfl (lv_at hl 0 rfl) ?_
  refine va_get (D := G.1) (ci := 4) (v := .ref (a 1)) (C := RX4) (T := TX4) (N := 17) hx hb hts hinX4 hown hKK.1 hP 0 rfl rfl 0 (by decide) fl_7 (fun _ h9 => h9) rfl dX4_count_80 ?_
  refine lv_iconst (v := nI 0) hx hb dX4_count_83 (by decide) ?_
  refine z_iald (n := 511) (f := v 0) (v := v 0 0) hx hb hKK hP 1 rfl (by omega) (by decide) rfl dX4_count_84 ?_
  exact z_iret hx hb hr hlk hP hD hS dX4_count_85 rfl rfl

set_option maxHeartbeats 4000000 in
set_option maxRecDepth 100000 in
theorem c_X4_count_4 (l : Launch) (G : ZG) (a : Nat → Nat) (v : Mem) (y : Nat → Nat)  : CI l G yX4_count wsX4_count (zRm 2 43) [.ref (a 0), .int (nI 4)] (modW G a v y) (nI (zTop (rN (v 0)) 40)) (modW G a v y) := by
  refine CI.ent (cc := cX4_count) (maxL := 2) (ty := .int) (own := RX4) (by decide) rfl rfl (Nat.le_of_ble_eq_true rfl) ?_
  intro p ee s m args below meth c A ls F hr hlk hKK hP hD hA hS hl
  obtain ⟨hx, hb, hml, hown, hts⟩ := id F
  have hl : lv_has ls 2 [(0, .ref (a 0)), (1, .int (nI 4))] := hl
  refine lv_iload_n hx hb dX4_count_0 rfl (lv_at hl 1 rfl) ?_
  refine lv_tableIn (off := 85) (tgt := 86) hx hb dX4_count_1 (by decide) (by decide) rfl (by decide) ?_
  refine lv_aload_n hx hb dX4_count_86 rfl (lv_at hl 0 rfl) ?_
  refine z_callVI (As := []) (rest := []) (wr := []) (C := RX4) F (c_X4_highest l G a v y) (cwV 0 hts gX4_count_X4_highest rfl rfl rfl (by decide +kernel) ⟨Nat.le_of_ble_eq_true rfl, Nat.le_of_ble_eq_true rfl⟩) hKK (z_recv hKK hP (q0 := 0) (ci := 4) rfl rfl) hP hD hS hA rfl hl.1 rfl (Nat.le_of_ble_eq_true rfl) ⟨Nat.zero_le _, Nat.zero_le _⟩ dX4_count_87 (fun H locs hP hD hS => ?_)
  have hP : va_P G.1 vwCl (modW G a v y) H := hP
  have hD : va_D A (modW G a v y) := hD
  exact z_iret hx hb hr hlk hP hD hS dX4_count_90 rfl rfl

set_option maxHeartbeats 4000000 in
set_option maxRecDepth 100000 in
theorem c_X4_count_5 (l : Launch) (G : ZG) (a : Nat → Nat) (v : Mem) (y : Nat → Nat)  : CI l G yX4_count wsX4_count (zRm 2 43) [.ref (a 0), .int (nI 5)] (modW G a v y) (nI (zTop (rN (v 0)) 40) - nI (cntA (v 0))) (modW G a v y) := by
  refine CI.ent (cc := cX4_count) (maxL := 2) (ty := .int) (own := RX4) (by decide) rfl rfl (Nat.le_of_ble_eq_true rfl) ?_
  intro p ee s m args below meth c A ls F hr hlk hKK hP hD hA hS hl
  obtain ⟨hx, hb, hml, hown, hts⟩ := id F
  have hl : lv_has ls 2 [(0, .ref (a 0)), (1, .int (nI 5))] := hl
  refine lv_iload_n hx hb dX4_count_0 rfl (lv_at hl 1 rfl) ?_
  refine lv_tableIn (off := 90) (tgt := 91) hx hb dX4_count_1 (by decide) (by decide) rfl (by decide) ?_
  refine lv_aload_n hx hb dX4_count_91 rfl (lv_at hl 0 rfl) ?_
  refine z_callVI (As := []) (rest := []) (wr := []) (C := RX4) F (c_X4_highest l G a v y) (cwV 0 hts gX4_count_X4_highest rfl rfl rfl (by decide +kernel) ⟨Nat.le_of_ble_eq_true rfl, Nat.le_of_ble_eq_true rfl⟩) hKK (z_recv hKK hP (q0 := 0) (ci := 4) rfl rfl) hP hD hS hA rfl hl.1 rfl (Nat.le_of_ble_eq_true rfl) ⟨Nat.zero_le _, Nat.zero_le _⟩ dX4_count_92 (fun H locs hP hD hS => ?_)
  have hP : va_P G.1 vwCl (modW G a v y) H := hP
  have hD : va_D A (modW G a v y) := hD
  refine lv_aload_n hx hb dX4_count_95 rfl (lv_at hl 0 rfl) ?_
  refine z_callVI (As := []) (rest := [.int (nI (zTop (rN (v 0)) 40))]) (wr := []) (C := RX4) F (c_X4_namesAll l G a v y) (cwV 0 hts gX4_count_X4_namesAll rfl rfl rfl (by decide +kernel) ⟨Nat.le_of_ble_eq_true rfl, Nat.le_of_ble_eq_true rfl⟩) hKK (z_recv hKK hP (q0 := 0) (ci := 4) rfl rfl) hP hD hS hA rfl hl.1 rfl (Nat.le_of_ble_eq_true rfl) ⟨Nat.zero_le _, Nat.zero_le _⟩ dX4_count_96 (fun H locs hP hD hS => ?_)
  have hP : va_P G.1 vwCl (modW G a v y) H := hP
  have hD : va_D A (modW G a v y) := hD
  refine z_sub (v := nI (zTop (rN (v 0)) 40) - nI (cntA (v 0))) hx hb dX4_count_99 rfl ?_
  exact z_iret hx hb hr hlk hP hD hS dX4_count_100 rfl rfl

set_option maxHeartbeats 4000000 in
set_option maxRecDepth 100000 in
theorem c_X4_count_6 (l : Launch) (G : ZG) (a : Nat → Nat) (v : Mem) (y : Nat → Nat)  : CI l G yX4_count wsX4_count (zRm 2 43) [.ref (a 0), .int (nI 6)] (modW G a v y) (v 0 1) (modW G a v y) := by
  refine CI.ent (cc := cX4_count) (maxL := 2) (ty := .int) (own := RX4) (by decide) rfl rfl (Nat.le_of_ble_eq_true rfl) ?_
  intro p ee s m args below meth c A ls F hr hlk hKK hP hD hA hS hl
  obtain ⟨hx, hb, hml, hown, hts⟩ := id F
  have hl : lv_has ls 2 [(0, .ref (a 0)), (1, .int (nI 6))] := hl
  have fl_7 := hts (.fieldLink RX4 7 "NameRollsModel" "now" "[I") (by decide +kernel)
  have hinX4 : ∀ w ∈ wsX40, w ∈ wsX4_count := by decide +kernel
  refine lv_iload_n hx hb dX4_count_0 rfl (lv_at hl 1 rfl) ?_
  refine lv_tableIn (off := 100) (tgt := 101) hx hb dX4_count_1 (by decide) (by decide) rfl (by decide) ?_
  refine lv_aload_n hx hb dX4_count_101 rfl (lv_at hl 0 rfl) ?_
  refine va_get (D := G.1) (ci := 4) (v := .ref (a 1)) (C := RX4) (T := TX4) (N := 17) hx hb hts hinX4 hown hKK.1 hP 0 rfl rfl 0 (by decide) fl_7 (fun _ h9 => h9) rfl dX4_count_102 ?_
  refine lv_iconst (v := nI 1) hx hb dX4_count_105 (by decide) ?_
  refine z_iald (n := 511) (f := v 0) (v := v 0 1) hx hb hKK hP 1 rfl (by omega) (by decide) rfl dX4_count_106 ?_
  exact z_iret hx hb hr hlk hP hD hS dX4_count_107 rfl rfl

set_option maxHeartbeats 4000000 in
set_option maxRecDepth 100000 in
theorem c_X4_count_7 (l : Launch) (G : ZG) (a : Nat → Nat) (v : Mem) (y : Nat → Nat)  : CI l G yX4_count wsX4_count (zRm 2 43) [.ref (a 0), .int (nI 7)] (modW G a v y) (v 0 2) (modW G a v y) := by
  refine CI.ent (cc := cX4_count) (maxL := 2) (ty := .int) (own := RX4) (by decide) rfl rfl (Nat.le_of_ble_eq_true rfl) ?_
  intro p ee s m args below meth c A ls F hr hlk hKK hP hD hA hS hl
  obtain ⟨hx, hb, hml, hown, hts⟩ := id F
  have hl : lv_has ls 2 [(0, .ref (a 0)), (1, .int (nI 7))] := hl
  have fl_7 := hts (.fieldLink RX4 7 "NameRollsModel" "now" "[I") (by decide +kernel)
  have hinX4 : ∀ w ∈ wsX40, w ∈ wsX4_count := by decide +kernel
  refine lv_iload_n hx hb dX4_count_0 rfl (lv_at hl 1 rfl) ?_
  refine lv_tableIn (off := 107) (tgt := 108) hx hb dX4_count_1 (by decide) (by decide) rfl (by decide) ?_
  refine lv_aload_n hx hb dX4_count_108 rfl (lv_at hl 0 rfl) ?_
  refine va_get (D := G.1) (ci := 4) (v := .ref (a 1)) (C := RX4) (T := TX4) (N := 17) hx hb hts hinX4 hown hKK.1 hP 0 rfl rfl 0 (by decide) fl_7 (fun _ h9 => h9) rfl dX4_count_109 ?_
  refine lv_iconst (v := nI 2) hx hb dX4_count_112 (by decide) ?_
  refine z_iald (n := 511) (f := v 0) (v := v 0 2) hx hb hKK hP 1 rfl (by omega) (by decide) rfl dX4_count_113 ?_
  exact z_iret hx hb hr hlk hP hD hS dX4_count_114 rfl rfl

set_option maxHeartbeats 4000000 in
set_option maxRecDepth 100000 in
theorem c_X4_count_8 (l : Launch) (G : ZG) (a : Nat → Nat) (v : Mem) (y : Nat → Nat) (e : Nat) (hm : v 0 3 = nI e) (he2 : e ≤ 999) : CI l G yX4_count wsX4_count (zRm 2 43) [.ref (a 0), .int (nI 8)] (modW G a v y) (nI (min e 3)) (modW G a v y) := by
  refine CI.ent (cc := cX4_count) (maxL := 2) (ty := .int) (own := RX4) (by decide) rfl rfl (Nat.le_of_ble_eq_true rfl) ?_
  intro p ee s m args below meth c A ls F hr hlk hKK hP hD hA hS hl
  obtain ⟨hx, hb, hml, hown, hts⟩ := id F
  have hl : lv_has ls 2 [(0, .ref (a 0)), (1, .int (nI 8))] := hl
  refine lv_iload_n hx hb dX4_count_0 rfl (lv_at hl 1 rfl) ?_
  refine lv_tableIn (off := 114) (tgt := 115) hx hb dX4_count_1 (by decide) (by decide) rfl (by decide) ?_
  refine lv_aload_n hx hb dX4_count_115 rfl (lv_at hl 0 rfl) ?_
  refine z_callVI (As := []) (rest := []) (wr := []) (C := RX4) F (c_X4_kept l G a v y e hm he2) (cwV 0 hts gX4_count_X4_kept rfl rfl rfl (by decide +kernel) ⟨Nat.le_of_ble_eq_true rfl, Nat.le_of_ble_eq_true rfl⟩) hKK (z_recv hKK hP (q0 := 0) (ci := 4) rfl rfl) hP hD hS hA rfl hl.1 rfl (Nat.le_of_ble_eq_true rfl) ⟨Nat.zero_le _, Nat.zero_le _⟩ dX4_count_116 (fun H locs hP hD hS => ?_)
  have hP : va_P G.1 vwCl (modW G a v y) H := hP
  have hD : va_D A (modW G a v y) := hD
  exact z_iret hx hb hr hlk hP hD hS dX4_count_119 rfl rfl

set_option maxHeartbeats 4000000 in
set_option maxRecDepth 100000 in
theorem c_X4_count_9 (l : Launch) (G : ZG) (a : Nat → Nat) (v : Mem) (y : Nat → Nat)  : CI l G yX4_count wsX4_count (zRm 2 43) [.ref (a 0), .int (nI 9)] (modW G a v y) (nI (y 0)) (modW G a v y) := by
  refine CI.ent (cc := cX4_count) (maxL := 2) (ty := .int) (own := RX4) (by decide) rfl rfl (Nat.le_of_ble_eq_true rfl) ?_
  intro p ee s m args below meth c A ls F hr hlk hKK hP hD hA hS hl
  obtain ⟨hx, hb, hml, hown, hts⟩ := id F
  have hl : lv_has ls 2 [(0, .ref (a 0)), (1, .int (nI 9))] := hl
  have fl_31 := hts (.fieldLink RX4 31 "NameRollsModel" "saved" "I") (by decide +kernel)
  have hinX4 : ∀ w ∈ wsX40, w ∈ wsX4_count := by decide +kernel
  refine lv_iload_n hx hb dX4_count_0 rfl (lv_at hl 1 rfl) ?_
  refine lv_tableIn (off := 119) (tgt := 120) hx hb dX4_count_1 (by decide) (by decide) rfl (by decide) ?_
  refine lv_aload_n hx hb dX4_count_120 rfl (lv_at hl 0 rfl) ?_
  refine va_get (D := G.1) (ci := 4) (v := .int (nI (y 0))) (C := RX4) (T := TX4) (N := 17) hx hb hts hinX4 hown hKK.1 hP 0 rfl rfl 2 (by decide) fl_31 (fun _ h9 => h9) rfl dX4_count_121 ?_
  exact z_iret hx hb hr hlk hP hD hS dX4_count_124 rfl rfl

set_option maxHeartbeats 4000000 in
set_option maxRecDepth 100000 in
theorem c_X4_count_10 (l : Launch) (G : ZG) (a : Nat → Nat) (v : Mem) (y : Nat → Nat)  : CI l G yX4_count wsX4_count (zRm 2 43) [.ref (a 0), .int (nI 10)] (modW G a v y) (nI (y 1)) (modW G a v y) := by
  refine CI.ent (cc := cX4_count) (maxL := 2) (ty := .int) (own := RX4) (by decide) rfl rfl (Nat.le_of_ble_eq_true rfl) ?_
  intro p ee s m args below meth c A ls F hr hlk hKK hP hD hA hS hl
  obtain ⟨hx, hb, hml, hown, hts⟩ := id F
  have hl : lv_has ls 2 [(0, .ref (a 0)), (1, .int (nI 10))] := hl
  have fl_131 := hts (.fieldLink RX4 131 "NameRollsModel" "length" "I") (by decide +kernel)
  have hinX4 : ∀ w ∈ wsX40, w ∈ wsX4_count := by decide +kernel
  refine lv_iload_n hx hb dX4_count_0 rfl (lv_at hl 1 rfl) ?_
  refine lv_tableIn (off := 124) (tgt := 125) hx hb dX4_count_1 (by decide) (by decide) rfl (by decide) ?_
  refine lv_aload_n hx hb dX4_count_125 rfl (lv_at hl 0 rfl) ?_
  refine va_get (D := G.1) (ci := 4) (v := .int (nI (y 1))) (C := RX4) (T := TX4) (N := 17) hx hb hts hinX4 hown hKK.1 hP 0 rfl rfl 5 (by decide) fl_131 (fun _ h9 => h9) rfl dX4_count_126 ?_
  exact z_iret hx hb hr hlk hP hD hS dX4_count_129 rfl rfl

set_option maxHeartbeats 4000000 in
set_option maxRecDepth 100000 in
theorem c_X4_count_out (l : Launch) (G : ZG) (a : Nat → Nat) (v : Mem) (y : Nat → Nat) (x : Int32) (h9 : x.toInt < 0 ∨ (10 : Int) < x.toInt) : CI l G yX4_count wsX4_count (zRm 2 43) [.ref (a 0), .int x] (modW G a v y) ((-1000001)) (modW G a v y) := by
  refine CI.ent (cc := cX4_count) (maxL := 2) (ty := .int) (own := RX4) (by decide) rfl rfl (Nat.le_of_ble_eq_true rfl) ?_
  intro p ee s m args below meth c A ls F hr hlk hKK hP hD hA hS hl
  obtain ⟨hx, hb, hml, hown, hts⟩ := id F
  have hl : lv_has ls 2 [(0, .ref (a 0)), (1, .int x)] := hl
  have ct_61 := hts (.constant RX4 61 (-1000001)) (by decide +kernel)
  refine lv_iload_n hx hb dX4_count_0 rfl (lv_at hl 1 rfl) ?_
  refine lv_tableOut (tgt := 130) hx hb dX4_count_1 h9 (by decide) ?_
  refine z_ldc (v' := (-1000001)) hx hb hown ct_61 dX4_count_130 rfl ?_
  exact z_iret hx hb hr hlk hP hD hS dX4_count_132 rfl rfl

set_option maxHeartbeats 4000000 in
set_option maxRecDepth 100000 in
theorem c_X4_type_bad (l : Launch) (G : ZG) (a : Nat → Nat) (v : Mem) (y : Nat → Nat) (x : Int32) (h9 : zWi x 32 126 = false) : CI l G yX4_type wsX4_type (zRm 1 22) [.ref (a 0), .int x] (modW G a v y) ((-1000001)) (modW G a v y) := by
  refine CI.ent (cc := cX4_type) (maxL := 2) (ty := .int) (own := RX4) (by decide) rfl rfl (Nat.le_of_ble_eq_true rfl) ?_
  intro p ee s m args below meth c A ls F hr hlk hKK hP hD hA hS hl
  obtain ⟨hx, hb, hml, hown, hts⟩ := id F
  have hl : lv_has ls 2 [(0, .ref (a 0)), (1, .int x)] := hl
  have ct_61 := hts (.constant RX4 61 (-1000001)) (by decide +kernel)
  refine lv_iload_n hx hb dX4_type_0 rfl (lv_at hl 1 rfl) ?_
  refine lv_bipush (v := nI 32) hx hb dX4_type_1 (by decide) ?_
  refine lv_bipush (v := nI 126) hx hb dX4_type_3 (by decide) ?_
  refine z_callSI (As := [.int x, .int (nI 32), .int (nI 126)]) (rest := []) F (c_X4_within l G x (32) (126)) (va_cwS 3 hts gX4_type_X4_within rfl rfl rfl (by decide +kernel) ⟨Nat.le_of_ble_eq_true rfl, Nat.le_of_ble_eq_true rfl⟩) hKK hP hD hS hA rfl hl.1 rfl (Nat.le_of_ble_eq_true rfl) ⟨Nat.zero_le _, Nat.zero_le _⟩ dX4_type_5 (fun H locs hP hD hS => ?_)
  refine z_top (v := bI (false)) (by rw [h9]) ?_
  refine z_ifBne (tgt := 14) hx hb dX4_type_8 (by decide) (fun c_1 => absurd c_1 (by decide)) (fun c_1 => ?_)
  refine z_ldc (v' := (-1000001)) hx hb hown ct_61 dX4_type_11 rfl ?_
  exact z_iret hx hb hr hlk hP hD hS dX4_type_13 rfl rfl

set_option maxHeartbeats 4000000 in
set_option maxRecDepth 100000 in
theorem c_X4_type_full (l : Launch) (G : ZG) (a : Nat → Nat) (v : Mem) (y : Nat → Nat) (ch : Nat) (h1 : 32 ≤ ch) (h2 : ch ≤ 126) (hL : y 1 = 60) : CI l G yX4_type wsX4_type (zRm 1 22) [.ref (a 0), .int (nI ch)] (modW G a v y) ((-1000003)) (modW G a v y) := by
  refine CI.ent (cc := cX4_type) (maxL := 2) (ty := .int) (own := RX4) (by decide) rfl rfl (Nat.le_of_ble_eq_true rfl) ?_
  intro p ee s m args below meth c A ls F hr hlk hKK hP hD hA hS hl
  obtain ⟨hx, hb, hml, hown, hts⟩ := id F
  have hl : lv_has ls 2 [(0, .ref (a 0)), (1, .int (nI ch))] := hl
  have ct_65 := hts (.constant RX4 65 (-1000003)) (by decide +kernel)
  have fl_131 := hts (.fieldLink RX4 131 "NameRollsModel" "length" "I") (by decide +kernel)
  have hinX4 : ∀ w ∈ wsX40, w ∈ wsX4_type := by decide +kernel
  refine lv_iload_n hx hb dX4_type_0 rfl (lv_at hl 1 rfl) ?_
  refine lv_bipush (v := nI 32) hx hb dX4_type_1 (by decide) ?_
  refine lv_bipush (v := nI 126) hx hb dX4_type_3 (by decide) ?_
  refine z_callSI (As := [.int (nI ch), .int (nI 32), .int (nI 126)]) (rest := []) F (c_X4_within_t l G (ch) (32) (126) (by omega) (by omega) (by decide)) (va_cwS 3 hts gX4_type_X4_within rfl rfl rfl (by decide +kernel) ⟨Nat.le_of_ble_eq_true rfl, Nat.le_of_ble_eq_true rfl⟩) hKK hP hD hS hA rfl hl.1 rfl (Nat.le_of_ble_eq_true rfl) ⟨Nat.zero_le _, Nat.zero_le _⟩ dX4_type_5 (fun H locs hP hD hS => ?_)
  refine z_ifBne (tgt := 14) hx hb dX4_type_8 (by decide) (fun c_1 => ?_) (fun c_1 => absurd c_1 (by decide))
  refine lv_aload_n hx hb dX4_type_14 rfl (lv_at hl 0 rfl) ?_
  refine va_get (D := G.1) (ci := 4) (v := .int (nI (y 1))) (C := RX4) (T := TX4) (N := 17) hx hb hts hinX4 hown hKK.1 hP 0 rfl rfl 5 (by decide) fl_131 (fun _ h9 => h9) rfl dX4_type_15 ?_
  refine z_top (v := nI 60) (by rw [hL]) ?_
  refine lv_bipush (v := nI 60) hx hb dX4_type_18 (by decide) ?_
  refine z_ne (tgt := 26) hx hb dX4_type_20 (by decide) (by omega) (by omega) (fun c_2 => absurd rfl c_2) (fun c_2 => ?_)
  refine z_ldc (v' := (-1000003)) hx hb hown ct_65 dX4_type_23 rfl ?_
  exact z_iret hx hb hr hlk hP hD hS dX4_type_25 rfl rfl

set_option maxHeartbeats 4000000 in
set_option maxRecDepth 100000 in
theorem c_X4_type_ok (l : Launch) (G : ZG) (a : Nat → Nat) (v : Mem) (y : Nat → Nat) (ch tl : Nat) (h1 : 32 ≤ ch) (h2 : ch ≤ 126) (hL : y 1 = tl) (hL6 : tl < 60) : CI l G yX4_type wsX4_type (zRm 1 22) [.ref (a 0), .int (nI ch)] (modW G a v y) (nI (tl + 1)) (modW G a (mrow v 3 (upd (v 3) tl (nI ch))) (nup y 1 (tl + 1))) := by
  refine CI.ent (cc := cX4_type) (maxL := 2) (ty := .int) (own := RX4) (by decide) rfl rfl (Nat.le_of_ble_eq_true rfl) ?_
  intro p ee s m args below meth c A ls F hr hlk hKK hP hD hA hS hl
  obtain ⟨hx, hb, hml, hown, hts⟩ := id F
  have hl : lv_has ls 2 [(0, .ref (a 0)), (1, .int (nI ch))] := hl
  have fl_19 := hts (.fieldLink RX4 19 "NameRollsModel" "text" "[I") (by decide +kernel)
  have fl_131 := hts (.fieldLink RX4 131 "NameRollsModel" "length" "I") (by decide +kernel)
  have hinX4 : ∀ w ∈ wsX40, w ∈ wsX4_type := by decide +kernel
  refine lv_iload_n hx hb dX4_type_0 rfl (lv_at hl 1 rfl) ?_
  refine lv_bipush (v := nI 32) hx hb dX4_type_1 (by decide) ?_
  refine lv_bipush (v := nI 126) hx hb dX4_type_3 (by decide) ?_
  refine z_callSI (As := [.int (nI ch), .int (nI 32), .int (nI 126)]) (rest := []) F (c_X4_within_t l G (ch) (32) (126) (by omega) (by omega) (by decide)) (va_cwS 3 hts gX4_type_X4_within rfl rfl rfl (by decide +kernel) ⟨Nat.le_of_ble_eq_true rfl, Nat.le_of_ble_eq_true rfl⟩) hKK hP hD hS hA rfl hl.1 rfl (Nat.le_of_ble_eq_true rfl) ⟨Nat.zero_le _, Nat.zero_le _⟩ dX4_type_5 (fun H locs hP hD hS => ?_)
  refine z_ifBne (tgt := 14) hx hb dX4_type_8 (by decide) (fun c_1 => ?_) (fun c_1 => absurd c_1 (by decide))
  refine lv_aload_n hx hb dX4_type_14 rfl (lv_at hl 0 rfl) ?_
  refine va_get (D := G.1) (ci := 4) (v := .int (nI (y 1))) (C := RX4) (T := TX4) (N := 17) hx hb hts hinX4 hown hKK.1 hP 0 rfl rfl 5 (by decide) fl_131 (fun _ h9 => h9) rfl dX4_type_15 ?_
  refine z_top (v := nI tl) (by rw [hL]) ?_
  refine lv_bipush (v := nI 60) hx hb dX4_type_18 (by decide) ?_
  refine z_ne (tgt := 26) hx hb dX4_type_20 (by decide) (by omega) (by omega) (fun c_2 => ?_) (fun c_2 => absurd c_2 (by omega))
  refine lv_aload_n hx hb dX4_type_26 rfl (lv_at hl 0 rfl) ?_
  refine va_get (D := G.1) (ci := 4) (v := .ref (a 4)) (C := RX4) (T := TX4) (N := 17) hx hb hts hinX4 hown hKK.1 hP 0 rfl rfl 4 (by decide) fl_19 (fun _ h9 => h9) rfl dX4_type_27 ?_
  refine lv_aload_n hx hb dX4_type_30 rfl (lv_at hl 0 rfl) ?_
  refine va_get (D := G.1) (ci := 4) (v := .int (nI (y 1))) (C := RX4) (T := TX4) (N := 17) hx hb hts hinX4 hown hKK.1 hP 0 rfl rfl 5 (by decide) fl_131 (fun _ h9 => h9) rfl dX4_type_31 ?_
  refine z_top (v := nI tl) (by rw [hL]) ?_
  refine lv_iload_n hx hb dX4_type_34 rfl (lv_at hl 1 rfl) ?_
  refine z_iast (n := 60) (f := v 3) (w2 := modW G a (mrow v 3 (upd (v 3) tl (nI ch))) y) hx hb hKK hP hD hS 4 rfl (by omega) (by decide) rfl dX4_type_35 (fun H locs hP hD hS => ?_)
  refine lv_aload_n hx hb dX4_type_36 rfl (lv_at hl 0 rfl) ?_
  refine lv_dup hx hb dX4_type_37 rfl ?_
  refine va_get (D := G.1) (ci := 4) (v := .int (nI (y 1))) (C := RX4) (T := TX4) (N := 17) hx hb hts hinX4 hown hKK.1 hP 0 rfl rfl 5 (by decide) fl_131 (fun _ h9 => h9) rfl dX4_type_38 ?_
  refine z_top (v := nI tl) (by rw [hL]) ?_
  refine lv_iconst (v := nI 1) hx hb dX4_type_41 (by decide) ?_
  refine z_add (v := nI (tl + 1)) hx hb dX4_type_42 (nI_add _ _) ?_
  refine z_put (w2 := modW G a (mrow v 3 (upd (v 3) tl (nI ch))) (nup y 1 (tl + 1))) hx hb hts hinX4 tyX4 tyX4_ok nmX4 hown hKK hP hD hS 0 (ci := 4) (C := RX4) (T := TX4) (N := 17) rfl rfl 5 (by decide) fl_131 rfl rfl rfl (Nat.le_of_ble_eq_true rfl) rfl dX4_type_43 (fun H locs hP hD hS => ?_)
  refine lv_aload_n hx hb dX4_type_46 rfl (lv_at hl 0 rfl) ?_
  refine va_get (D := G.1) (ci := 4) (v := .int (nI (tl + 1))) (C := RX4) (T := TX4) (N := 17) hx hb hts hinX4 hown hKK.1 hP 0 rfl rfl 5 (by decide) fl_131 (fun _ h9 => h9) rfl dX4_type_47 ?_
  exact z_iret hx hb hr hlk hP hD hS dX4_type_50 rfl rfl

set_option maxHeartbeats 4000000 in
set_option maxRecDepth 100000 in
theorem c_X4_clearText (l : Launch) (G : ZG) (a : Nat → Nat) (v : Mem) (y : Nat → Nat)  : CI l G yX4_clearText wsX4_clearText (zRm 0 0) [.ref (a 0)] (modW G a v y) (nI (y 1)) (modW G a v (nup y 1 0)) := by
  refine CI.ent (cc := cX4_clearText) (maxL := 2) (ty := .int) (own := RX4) (by decide) rfl rfl (Nat.le_of_ble_eq_true rfl) ?_
  intro p ee s m args below meth c A ls F hr hlk hKK hP hD hA hS hl
  obtain ⟨hx, hb, hml, hown, hts⟩ := id F
  have hl : lv_has ls 2 [(0, .ref (a 0))] := hl
  have fl_131 := hts (.fieldLink RX4 131 "NameRollsModel" "length" "I") (by decide +kernel)
  have hinX4 : ∀ w ∈ wsX40, w ∈ wsX4_clearText := by decide +kernel
  refine lv_aload_n hx hb dX4_clearText_0 rfl (lv_at hl 0 rfl) ?_
  refine va_get (D := G.1) (ci := 4) (v := .int (nI (y 1))) (C := RX4) (T := TX4) (N := 17) hx hb hts hinX4 hown hKK.1 hP 0 rfl rfl 5 (by decide) fl_131 (fun _ h9 => h9) rfl dX4_clearText_1 ?_
  refine lv_istore_n (lv' := [(1, .int (nI (y 1))), (0, .ref (a 0))]) hx hb dX4_clearText_4 rfl hl (by decide) rfl (fun ls hl => ?_)
  refine lv_aload_n hx hb dX4_clearText_5 rfl (lv_at hl 1 rfl) ?_
  refine lv_iconst (v := nI 0) hx hb dX4_clearText_6 (by decide) ?_
  refine z_put (w2 := modW G a v (nup y 1 0)) hx hb hts hinX4 tyX4 tyX4_ok nmX4 hown hKK hP hD hS 0 (ci := 4) (C := RX4) (T := TX4) (N := 17) rfl rfl 5 (by decide) fl_131 rfl rfl rfl (Nat.le_of_ble_eq_true rfl) rfl dX4_clearText_7 (fun H locs hP hD hS => ?_)
  refine lv_iload_n hx hb dX4_clearText_10 rfl (lv_at hl 0 rfl) ?_
  exact z_iret hx hb hr hlk hP hD hS dX4_clearText_11 rfl rfl
