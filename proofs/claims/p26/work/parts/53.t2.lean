set_option maxHeartbeats 4000000 in
set_option maxRecDepth 100000 in
theorem c_X0_checkRanges_no (l : Launch) (G : ZG) (q d : Nat) (P : Nat → Nat) (g6 : P 6 < 3) (g7 : P 7 < 6) (g8 : P 8 < 3) (g9 : P 9 ≤ 6) : CV l G yX0_checkRanges wsX0_checkRanges (zRm 1 22) [.ref q] (playW G q d P) (playW G q d P) := by
  refine CV.ent (cc := cX0_checkRanges) (maxL := 1) (own := RX0) (by decide) rfl rfl (Nat.le_of_ble_eq_true rfl) ?_
  intro p ee s m args below meth c A ls F hr hlk hKK hP hD hA hS hl
  obtain ⟨hx, hb, hml, hown, hts⟩ := id F
  have hl : lv_has ls 1 [(0, .ref q)] := hl
  have fl_58 := hts (.fieldLink RX0 58 "NameRolls$Player" "table" "I") (by decide +kernel)
  have fl_61 := hts (.fieldLink RX0 61 "NameRolls$Player" "cell" "I") (by decide +kernel)
  have fl_64 := hts (.fieldLink RX0 64 "NameRolls$Player" "rule" "I") (by decide +kernel)
  have fl_67 := hts (.fieldLink RX0 67 "NameRolls$Player" "letters" "I") (by decide +kernel)
  have hinX0 : ∀ w ∈ wsX00, w ∈ wsX0_checkRanges := by decide +kernel
  refine lv_aload_n hx hb dX0_checkRanges_0 rfl (lv_at hl 0 rfl) ?_
  refine va_get (D := G.1) (ci := 0) (v := .int (nI (P 6))) (C := RX0) (T := TX0) (N := 12) hx hb hts hinX0 hown hKK.1 hP 0 rfl rfl 7 (by decide) fl_58 (fun _ h9 => h9) rfl dX0_checkRanges_1 ?_
  refine lv_iconst (v := nI 3) hx hb dX0_checkRanges_4 (by decide) ?_
  refine z_lt (tgt := 14) hx hb dX0_checkRanges_5 (by decide) (by omega) (by omega) (fun c_1 => ?_) (fun c_1 => absurd c_1 (by omega))
  refine lv_aload_n hx hb dX0_checkRanges_14 rfl (lv_at hl 0 rfl) ?_
  refine va_get (D := G.1) (ci := 0) (v := .int (nI (P 7))) (C := RX0) (T := TX0) (N := 12) hx hb hts hinX0 hown hKK.1 hP 0 rfl rfl 8 (by decide) fl_61 (fun _ h9 => h9) rfl dX0_checkRanges_15 ?_
  refine lv_bipush (v := nI 6) hx hb dX0_checkRanges_18 (by decide) ?_
  refine z_lt (tgt := 29) hx hb dX0_checkRanges_20 (by decide) (by omega) (by omega) (fun c_2 => ?_) (fun c_2 => absurd c_2 (by omega))
  refine lv_aload_n hx hb dX0_checkRanges_29 rfl (lv_at hl 0 rfl) ?_
  refine va_get (D := G.1) (ci := 0) (v := .int (nI (P 8))) (C := RX0) (T := TX0) (N := 12) hx hb hts hinX0 hown hKK.1 hP 0 rfl rfl 9 (by decide) fl_64 (fun _ h9 => h9) rfl dX0_checkRanges_30 ?_
  refine lv_iconst (v := nI 3) hx hb dX0_checkRanges_33 (by decide) ?_
  refine z_lt (tgt := 43) hx hb dX0_checkRanges_34 (by decide) (by omega) (by omega) (fun c_3 => ?_) (fun c_3 => absurd c_3 (by omega))
  refine lv_aload_n hx hb dX0_checkRanges_43 rfl (lv_at hl 0 rfl) ?_
  refine va_get (D := G.1) (ci := 0) (v := .int (nI (P 9))) (C := RX0) (T := TX0) (N := 12) hx hb hts hinX0 hown hKK.1 hP 0 rfl rfl 10 (by decide) fl_67 (fun _ h9 => h9) rfl dX0_checkRanges_44 ?_
  refine lv_bipush (v := nI 6) hx hb dX0_checkRanges_47 (by decide) ?_
  refine z_le (tgt := 58) hx hb dX0_checkRanges_49 (by decide) (by omega) (by omega) (fun c_4 => ?_) (fun c_4 => absurd c_4 (by omega))
  exact z_vret hx hb hr hlk hP hD hS dX0_checkRanges_58 rfl

set_option maxHeartbeats 4000000 in
set_option maxRecDepth 100000 in
theorem c_X0_checkRanges_s0 (l : Launch) (G : ZG) (q d : Nat) (P : Nat → Nat) (h1 : P 1 = 0) (b6 : P 6 ≤ 100) (b7 : P 7 ≤ 100) (b8 : P 8 ≤ 100) (b9 : P 9 ≤ 100) (g6 : 3 ≤ P 6) : CV l G yX0_checkRanges wsX0_checkRanges (zRm 1 22) [.ref q] (playW G q d P) (playW G q d (nup (nup P 1 2) 2 0)) := by
  refine CV.ent (cc := cX0_checkRanges) (maxL := 1) (own := RX0) (by decide) rfl rfl (Nat.le_of_ble_eq_true rfl) ?_
  intro p ee s m args below meth c A ls F hr hlk hKK hP hD hA hS hl
  obtain ⟨hx, hb, hml, hown, hts⟩ := id F
  have hl : lv_has ls 1 [(0, .ref q)] := hl
  have fl_58 := hts (.fieldLink RX0 58 "NameRolls$Player" "table" "I") (by decide +kernel)
  have fl_61 := hts (.fieldLink RX0 61 "NameRolls$Player" "cell" "I") (by decide +kernel)
  have fl_64 := hts (.fieldLink RX0 64 "NameRolls$Player" "rule" "I") (by decide +kernel)
  have fl_67 := hts (.fieldLink RX0 67 "NameRolls$Player" "letters" "I") (by decide +kernel)
  have hinX0 : ∀ w ∈ wsX00, w ∈ wsX0_checkRanges := by decide +kernel
  refine lv_aload_n hx hb dX0_checkRanges_0 rfl (lv_at hl 0 rfl) ?_
  refine va_get (D := G.1) (ci := 0) (v := .int (nI (P 6))) (C := RX0) (T := TX0) (N := 12) hx hb hts hinX0 hown hKK.1 hP 0 rfl rfl 7 (by decide) fl_58 (fun _ h9 => h9) rfl dX0_checkRanges_1 ?_
  refine lv_iconst (v := nI 3) hx hb dX0_checkRanges_4 (by decide) ?_
  refine z_lt (tgt := 14) hx hb dX0_checkRanges_5 (by decide) (by omega) (by omega) (fun c_1 => absurd c_1 (by omega)) (fun c_1 => ?_)
  refine lv_aload_n hx hb dX0_checkRanges_8 rfl (lv_at hl 0 rfl) ?_
  refine lv_iconst (v := nI 2) hx hb dX0_checkRanges_9 (by decide) ?_
  refine lv_iconst (v := nI 0) hx hb dX0_checkRanges_10 (by decide) ?_
  refine z_callVV (As := [.int (nI 2), .int (nI 0)]) (rest := []) (wr := []) (C := RX0) F (c_X0_fail_z l G q d P (2) (0) (by exact h1)) (cwV 2 hts gX0_checkRanges_X0_fail rfl rfl rfl (by decide +kernel) ⟨Nat.le_of_ble_eq_true rfl, Nat.le_of_ble_eq_true rfl⟩) hKK (z_recv hKK hP (q0 := 0) (ci := 0) rfl rfl) hP hD hS hA rfl hl.1 rfl (Nat.le_of_ble_eq_true rfl) ⟨Nat.zero_le _, Nat.zero_le _⟩ dX0_checkRanges_11 (fun H locs hP hD hS => ?_)
  have hP : va_P G.1 vwCl (playW G q d (nup (nup P 1 2) 2 0)) H := hP
  have hD : va_D A (playW G q d (nup (nup P 1 2) 2 0)) := hD
  refine lv_aload_n hx hb dX0_checkRanges_14 rfl (lv_at hl 0 rfl) ?_
  refine va_get (D := G.1) (ci := 0) (v := .int (nI (P 7))) (C := RX0) (T := TX0) (N := 12) hx hb hts hinX0 hown hKK.1 hP 0 rfl rfl 8 (by decide) fl_61 (fun _ h9 => h9) rfl dX0_checkRanges_15 ?_
  refine lv_bipush (v := nI 6) hx hb dX0_checkRanges_18 (by decide) ?_
  refine z_lt (tgt := 29) hx hb dX0_checkRanges_20 (by decide) (by omega) (by omega) (fun c_2 => ?_) (fun c_2 => ?_)
  · skip
    refine lv_aload_n hx hb dX0_checkRanges_29 rfl (lv_at hl 0 rfl) ?_
    refine va_get (D := G.1) (ci := 0) (v := .int (nI (P 8))) (C := RX0) (T := TX0) (N := 12) hx hb hts hinX0 hown hKK.1 hP 0 rfl rfl 9 (by decide) fl_64 (fun _ h9 => h9) rfl dX0_checkRanges_30 ?_
    refine lv_iconst (v := nI 3) hx hb dX0_checkRanges_33 (by decide) ?_
    refine z_lt (tgt := 43) hx hb dX0_checkRanges_34 (by decide) (by omega) (by omega) (fun c_3 => ?_) (fun c_3 => ?_)
    · skip
      refine lv_aload_n hx hb dX0_checkRanges_43 rfl (lv_at hl 0 rfl) ?_
      refine va_get (D := G.1) (ci := 0) (v := .int (nI (P 9))) (C := RX0) (T := TX0) (N := 12) hx hb hts hinX0 hown hKK.1 hP 0 rfl rfl 10 (by decide) fl_67 (fun _ h9 => h9) rfl dX0_checkRanges_44 ?_
      refine lv_bipush (v := nI 6) hx hb dX0_checkRanges_47 (by decide) ?_
      refine z_le (tgt := 58) hx hb dX0_checkRanges_49 (by decide) (by omega) (by omega) (fun c_4 => ?_) (fun c_4 => ?_)
      · skip
        exact z_vret hx hb hr hlk hP hD hS dX0_checkRanges_58 rfl
      · skip
        refine lv_aload_n hx hb dX0_checkRanges_52 rfl (lv_at hl 0 rfl) ?_
        refine lv_iconst (v := nI 2) hx hb dX0_checkRanges_53 (by decide) ?_
        refine lv_iconst (v := nI 3) hx hb dX0_checkRanges_54 (by decide) ?_
        refine z_callVV (As := [.int (nI 2), .int (nI 3)]) (rest := []) (wr := []) (C := RX0) F (c_X0_fail_nz l G q d (nup (nup P 1 2) 2 0) (2) (3) (show ¬ 2 = 0 by decide) (show 2 ≤ 3 by decide)) (cwV 2 hts gX0_checkRanges_X0_fail rfl rfl rfl (by decide +kernel) ⟨Nat.le_of_ble_eq_true rfl, Nat.le_of_ble_eq_true rfl⟩) hKK (z_recv hKK hP (q0 := 0) (ci := 0) rfl rfl) hP hD hS hA rfl hl.1 rfl (Nat.le_of_ble_eq_true rfl) ⟨Nat.zero_le _, Nat.zero_le _⟩ dX0_checkRanges_55 (fun H locs hP hD hS => ?_)
        have hP : va_P G.1 vwCl (playW G q d (nup (nup P 1 2) 2 0)) H := hP
        have hD : va_D A (playW G q d (nup (nup P 1 2) 2 0)) := hD
        exact z_vret hx hb hr hlk hP hD hS dX0_checkRanges_58 rfl
    · skip
      refine lv_aload_n hx hb dX0_checkRanges_37 rfl (lv_at hl 0 rfl) ?_
      refine lv_iconst (v := nI 2) hx hb dX0_checkRanges_38 (by decide) ?_
      refine lv_iconst (v := nI 2) hx hb dX0_checkRanges_39 (by decide) ?_
      refine z_callVV (As := [.int (nI 2), .int (nI 2)]) (rest := []) (wr := []) (C := RX0) F (c_X0_fail_nz l G q d (nup (nup P 1 2) 2 0) (2) (2) (show ¬ 2 = 0 by decide) (show 2 ≤ 3 by decide)) (cwV 2 hts gX0_checkRanges_X0_fail rfl rfl rfl (by decide +kernel) ⟨Nat.le_of_ble_eq_true rfl, Nat.le_of_ble_eq_true rfl⟩) hKK (z_recv hKK hP (q0 := 0) (ci := 0) rfl rfl) hP hD hS hA rfl hl.1 rfl (Nat.le_of_ble_eq_true rfl) ⟨Nat.zero_le _, Nat.zero_le _⟩ dX0_checkRanges_40 (fun H locs hP hD hS => ?_)
      have hP : va_P G.1 vwCl (playW G q d (nup (nup P 1 2) 2 0)) H := hP
      have hD : va_D A (playW G q d (nup (nup P 1 2) 2 0)) := hD
      refine lv_aload_n hx hb dX0_checkRanges_43 rfl (lv_at hl 0 rfl) ?_
      refine va_get (D := G.1) (ci := 0) (v := .int (nI (P 9))) (C := RX0) (T := TX0) (N := 12) hx hb hts hinX0 hown hKK.1 hP 0 rfl rfl 10 (by decide) fl_67 (fun _ h9 => h9) rfl dX0_checkRanges_44 ?_
      refine lv_bipush (v := nI 6) hx hb dX0_checkRanges_47 (by decide) ?_
      refine z_le (tgt := 58) hx hb dX0_checkRanges_49 (by decide) (by omega) (by omega) (fun c_5 => ?_) (fun c_5 => ?_)
      · skip
        exact z_vret hx hb hr hlk hP hD hS dX0_checkRanges_58 rfl
      · skip
        refine lv_aload_n hx hb dX0_checkRanges_52 rfl (lv_at hl 0 rfl) ?_
        refine lv_iconst (v := nI 2) hx hb dX0_checkRanges_53 (by decide) ?_
        refine lv_iconst (v := nI 3) hx hb dX0_checkRanges_54 (by decide) ?_
        refine z_callVV (As := [.int (nI 2), .int (nI 3)]) (rest := []) (wr := []) (C := RX0) F (c_X0_fail_nz l G q d (nup (nup P 1 2) 2 0) (2) (3) (show ¬ 2 = 0 by decide) (show 2 ≤ 3 by decide)) (cwV 2 hts gX0_checkRanges_X0_fail rfl rfl rfl (by decide +kernel) ⟨Nat.le_of_ble_eq_true rfl, Nat.le_of_ble_eq_true rfl⟩) hKK (z_recv hKK hP (q0 := 0) (ci := 0) rfl rfl) hP hD hS hA rfl hl.1 rfl (Nat.le_of_ble_eq_true rfl) ⟨Nat.zero_le _, Nat.zero_le _⟩ dX0_checkRanges_55 (fun H locs hP hD hS => ?_)
        have hP : va_P G.1 vwCl (playW G q d (nup (nup P 1 2) 2 0)) H := hP
        have hD : va_D A (playW G q d (nup (nup P 1 2) 2 0)) := hD
        exact z_vret hx hb hr hlk hP hD hS dX0_checkRanges_58 rfl
  · skip
    refine lv_aload_n hx hb dX0_checkRanges_23 rfl (lv_at hl 0 rfl) ?_
    refine lv_iconst (v := nI 2) hx hb dX0_checkRanges_24 (by decide) ?_
    refine lv_iconst (v := nI 1) hx hb dX0_checkRanges_25 (by decide) ?_
    refine z_callVV (As := [.int (nI 2), .int (nI 1)]) (rest := []) (wr := []) (C := RX0) F (c_X0_fail_nz l G q d (nup (nup P 1 2) 2 0) (2) (1) (show ¬ 2 = 0 by decide) (show 2 ≤ 3 by decide)) (cwV 2 hts gX0_checkRanges_X0_fail rfl rfl rfl (by decide +kernel) ⟨Nat.le_of_ble_eq_true rfl, Nat.le_of_ble_eq_true rfl⟩) hKK (z_recv hKK hP (q0 := 0) (ci := 0) rfl rfl) hP hD hS hA rfl hl.1 rfl (Nat.le_of_ble_eq_true rfl) ⟨Nat.zero_le _, Nat.zero_le _⟩ dX0_checkRanges_26 (fun H locs hP hD hS => ?_)
    have hP : va_P G.1 vwCl (playW G q d (nup (nup P 1 2) 2 0)) H := hP
    have hD : va_D A (playW G q d (nup (nup P 1 2) 2 0)) := hD
    refine lv_aload_n hx hb dX0_checkRanges_29 rfl (lv_at hl 0 rfl) ?_
    refine va_get (D := G.1) (ci := 0) (v := .int (nI (P 8))) (C := RX0) (T := TX0) (N := 12) hx hb hts hinX0 hown hKK.1 hP 0 rfl rfl 9 (by decide) fl_64 (fun _ h9 => h9) rfl dX0_checkRanges_30 ?_
    refine lv_iconst (v := nI 3) hx hb dX0_checkRanges_33 (by decide) ?_
    refine z_lt (tgt := 43) hx hb dX0_checkRanges_34 (by decide) (by omega) (by omega) (fun c_6 => ?_) (fun c_6 => ?_)
    · skip
      refine lv_aload_n hx hb dX0_checkRanges_43 rfl (lv_at hl 0 rfl) ?_
      refine va_get (D := G.1) (ci := 0) (v := .int (nI (P 9))) (C := RX0) (T := TX0) (N := 12) hx hb hts hinX0 hown hKK.1 hP 0 rfl rfl 10 (by decide) fl_67 (fun _ h9 => h9) rfl dX0_checkRanges_44 ?_
      refine lv_bipush (v := nI 6) hx hb dX0_checkRanges_47 (by decide) ?_
      refine z_le (tgt := 58) hx hb dX0_checkRanges_49 (by decide) (by omega) (by omega) (fun c_7 => ?_) (fun c_7 => ?_)
      · skip
        exact z_vret hx hb hr hlk hP hD hS dX0_checkRanges_58 rfl
      · skip
        refine lv_aload_n hx hb dX0_checkRanges_52 rfl (lv_at hl 0 rfl) ?_
        refine lv_iconst (v := nI 2) hx hb dX0_checkRanges_53 (by decide) ?_
        refine lv_iconst (v := nI 3) hx hb dX0_checkRanges_54 (by decide) ?_
        refine z_callVV (As := [.int (nI 2), .int (nI 3)]) (rest := []) (wr := []) (C := RX0) F (c_X0_fail_nz l G q d (nup (nup P 1 2) 2 0) (2) (3) (show ¬ 2 = 0 by decide) (show 2 ≤ 3 by decide)) (cwV 2 hts gX0_checkRanges_X0_fail rfl rfl rfl (by decide +kernel) ⟨Nat.le_of_ble_eq_true rfl, Nat.le_of_ble_eq_true rfl⟩) hKK (z_recv hKK hP (q0 := 0) (ci := 0) rfl rfl) hP hD hS hA rfl hl.1 rfl (Nat.le_of_ble_eq_true rfl) ⟨Nat.zero_le _, Nat.zero_le _⟩ dX0_checkRanges_55 (fun H locs hP hD hS => ?_)
        have hP : va_P G.1 vwCl (playW G q d (nup (nup P 1 2) 2 0)) H := hP
        have hD : va_D A (playW G q d (nup (nup P 1 2) 2 0)) := hD
        exact z_vret hx hb hr hlk hP hD hS dX0_checkRanges_58 rfl
    · skip
      refine lv_aload_n hx hb dX0_checkRanges_37 rfl (lv_at hl 0 rfl) ?_
      refine lv_iconst (v := nI 2) hx hb dX0_checkRanges_38 (by decide) ?_
      refine lv_iconst (v := nI 2) hx hb dX0_checkRanges_39 (by decide) ?_
      refine z_callVV (As := [.int (nI 2), .int (nI 2)]) (rest := []) (wr := []) (C := RX0) F (c_X0_fail_nz l G q d (nup (nup P 1 2) 2 0) (2) (2) (show ¬ 2 = 0 by decide) (show 2 ≤ 3 by decide)) (cwV 2 hts gX0_checkRanges_X0_fail rfl rfl rfl (by decide +kernel) ⟨Nat.le_of_ble_eq_true rfl, Nat.le_of_ble_eq_true rfl⟩) hKK (z_recv hKK hP (q0 := 0) (ci := 0) rfl rfl) hP hD hS hA rfl hl.1 rfl (Nat.le_of_ble_eq_true rfl) ⟨Nat.zero_le _, Nat.zero_le _⟩ dX0_checkRanges_40 (fun H locs hP hD hS => ?_)
      have hP : va_P G.1 vwCl (playW G q d (nup (nup P 1 2) 2 0)) H := hP
      have hD : va_D A (playW G q d (nup (nup P 1 2) 2 0)) := hD
      refine lv_aload_n hx hb dX0_checkRanges_43 rfl (lv_at hl 0 rfl) ?_
      refine va_get (D := G.1) (ci := 0) (v := .int (nI (P 9))) (C := RX0) (T := TX0) (N := 12) hx hb hts hinX0 hown hKK.1 hP 0 rfl rfl 10 (by decide) fl_67 (fun _ h9 => h9) rfl dX0_checkRanges_44 ?_
      refine lv_bipush (v := nI 6) hx hb dX0_checkRanges_47 (by decide) ?_
      refine z_le (tgt := 58) hx hb dX0_checkRanges_49 (by decide) (by omega) (by omega) (fun c_8 => ?_) (fun c_8 => ?_)
      · skip
        exact z_vret hx hb hr hlk hP hD hS dX0_checkRanges_58 rfl
      · skip
        refine lv_aload_n hx hb dX0_checkRanges_52 rfl (lv_at hl 0 rfl) ?_
        refine lv_iconst (v := nI 2) hx hb dX0_checkRanges_53 (by decide) ?_
        refine lv_iconst (v := nI 3) hx hb dX0_checkRanges_54 (by decide) ?_
        refine z_callVV (As := [.int (nI 2), .int (nI 3)]) (rest := []) (wr := []) (C := RX0) F (c_X0_fail_nz l G q d (nup (nup P 1 2) 2 0) (2) (3) (show ¬ 2 = 0 by decide) (show 2 ≤ 3 by decide)) (cwV 2 hts gX0_checkRanges_X0_fail rfl rfl rfl (by decide +kernel) ⟨Nat.le_of_ble_eq_true rfl, Nat.le_of_ble_eq_true rfl⟩) hKK (z_recv hKK hP (q0 := 0) (ci := 0) rfl rfl) hP hD hS hA rfl hl.1 rfl (Nat.le_of_ble_eq_true rfl) ⟨Nat.zero_le _, Nat.zero_le _⟩ dX0_checkRanges_55 (fun H locs hP hD hS => ?_)
        have hP : va_P G.1 vwCl (playW G q d (nup (nup P 1 2) 2 0)) H := hP
        have hD : va_D A (playW G q d (nup (nup P 1 2) 2 0)) := hD
        exact z_vret hx hb hr hlk hP hD hS dX0_checkRanges_58 rfl

set_option maxHeartbeats 4000000 in
set_option maxRecDepth 100000 in
theorem c_X0_checkRanges_s1 (l : Launch) (G : ZG) (q d : Nat) (P : Nat → Nat) (h1 : P 1 = 0) (b6 : P 6 ≤ 100) (b7 : P 7 ≤ 100) (b8 : P 8 ≤ 100) (b9 : P 9 ≤ 100) (g6 : P 6 < 3) (g7 : 6 ≤ P 7) : CV l G yX0_checkRanges wsX0_checkRanges (zRm 1 22) [.ref q] (playW G q d P) (playW G q d (nup (nup P 1 2) 2 1)) := by
  refine CV.ent (cc := cX0_checkRanges) (maxL := 1) (own := RX0) (by decide) rfl rfl (Nat.le_of_ble_eq_true rfl) ?_
  intro p ee s m args below meth c A ls F hr hlk hKK hP hD hA hS hl
  obtain ⟨hx, hb, hml, hown, hts⟩ := id F
  have hl : lv_has ls 1 [(0, .ref q)] := hl
  have fl_58 := hts (.fieldLink RX0 58 "NameRolls$Player" "table" "I") (by decide +kernel)
  have fl_61 := hts (.fieldLink RX0 61 "NameRolls$Player" "cell" "I") (by decide +kernel)
  have fl_64 := hts (.fieldLink RX0 64 "NameRolls$Player" "rule" "I") (by decide +kernel)
  have fl_67 := hts (.fieldLink RX0 67 "NameRolls$Player" "letters" "I") (by decide +kernel)
  have hinX0 : ∀ w ∈ wsX00, w ∈ wsX0_checkRanges := by decide +kernel
  refine lv_aload_n hx hb dX0_checkRanges_0 rfl (lv_at hl 0 rfl) ?_
  refine va_get (D := G.1) (ci := 0) (v := .int (nI (P 6))) (C := RX0) (T := TX0) (N := 12) hx hb hts hinX0 hown hKK.1 hP 0 rfl rfl 7 (by decide) fl_58 (fun _ h9 => h9) rfl dX0_checkRanges_1 ?_
  refine lv_iconst (v := nI 3) hx hb dX0_checkRanges_4 (by decide) ?_
  refine z_lt (tgt := 14) hx hb dX0_checkRanges_5 (by decide) (by omega) (by omega) (fun c_1 => ?_) (fun c_1 => absurd c_1 (by omega))
  refine lv_aload_n hx hb dX0_checkRanges_14 rfl (lv_at hl 0 rfl) ?_
  refine va_get (D := G.1) (ci := 0) (v := .int (nI (P 7))) (C := RX0) (T := TX0) (N := 12) hx hb hts hinX0 hown hKK.1 hP 0 rfl rfl 8 (by decide) fl_61 (fun _ h9 => h9) rfl dX0_checkRanges_15 ?_
  refine lv_bipush (v := nI 6) hx hb dX0_checkRanges_18 (by decide) ?_
  refine z_lt (tgt := 29) hx hb dX0_checkRanges_20 (by decide) (by omega) (by omega) (fun c_2 => absurd c_2 (by omega)) (fun c_2 => ?_)
  refine lv_aload_n hx hb dX0_checkRanges_23 rfl (lv_at hl 0 rfl) ?_
  refine lv_iconst (v := nI 2) hx hb dX0_checkRanges_24 (by decide) ?_
  refine lv_iconst (v := nI 1) hx hb dX0_checkRanges_25 (by decide) ?_
  refine z_callVV (As := [.int (nI 2), .int (nI 1)]) (rest := []) (wr := []) (C := RX0) F (c_X0_fail_z l G q d P (2) (1) (by exact h1)) (cwV 2 hts gX0_checkRanges_X0_fail rfl rfl rfl (by decide +kernel) ⟨Nat.le_of_ble_eq_true rfl, Nat.le_of_ble_eq_true rfl⟩) hKK (z_recv hKK hP (q0 := 0) (ci := 0) rfl rfl) hP hD hS hA rfl hl.1 rfl (Nat.le_of_ble_eq_true rfl) ⟨Nat.zero_le _, Nat.zero_le _⟩ dX0_checkRanges_26 (fun H locs hP hD hS => ?_)
  have hP : va_P G.1 vwCl (playW G q d (nup (nup P 1 2) 2 1)) H := hP
  have hD : va_D A (playW G q d (nup (nup P 1 2) 2 1)) := hD
  refine lv_aload_n hx hb dX0_checkRanges_29 rfl (lv_at hl 0 rfl) ?_
  refine va_get (D := G.1) (ci := 0) (v := .int (nI (P 8))) (C := RX0) (T := TX0) (N := 12) hx hb hts hinX0 hown hKK.1 hP 0 rfl rfl 9 (by decide) fl_64 (fun _ h9 => h9) rfl dX0_checkRanges_30 ?_
  refine lv_iconst (v := nI 3) hx hb dX0_checkRanges_33 (by decide) ?_
  refine z_lt (tgt := 43) hx hb dX0_checkRanges_34 (by decide) (by omega) (by omega) (fun c_3 => ?_) (fun c_3 => ?_)
  · skip
    refine lv_aload_n hx hb dX0_checkRanges_43 rfl (lv_at hl 0 rfl) ?_
    refine va_get (D := G.1) (ci := 0) (v := .int (nI (P 9))) (C := RX0) (T := TX0) (N := 12) hx hb hts hinX0 hown hKK.1 hP 0 rfl rfl 10 (by decide) fl_67 (fun _ h9 => h9) rfl dX0_checkRanges_44 ?_
    refine lv_bipush (v := nI 6) hx hb dX0_checkRanges_47 (by decide) ?_
    refine z_le (tgt := 58) hx hb dX0_checkRanges_49 (by decide) (by omega) (by omega) (fun c_4 => ?_) (fun c_4 => ?_)
    · skip
      exact z_vret hx hb hr hlk hP hD hS dX0_checkRanges_58 rfl
    · skip
      refine lv_aload_n hx hb dX0_checkRanges_52 rfl (lv_at hl 0 rfl) ?_
      refine lv_iconst (v := nI 2) hx hb dX0_checkRanges_53 (by decide) ?_
      refine lv_iconst (v := nI 3) hx hb dX0_checkRanges_54 (by decide) ?_
      refine z_callVV (As := [.int (nI 2), .int (nI 3)]) (rest := []) (wr := []) (C := RX0) F (c_X0_fail_nz l G q d (nup (nup P 1 2) 2 1) (2) (3) (show ¬ 2 = 0 by decide) (show 2 ≤ 3 by decide)) (cwV 2 hts gX0_checkRanges_X0_fail rfl rfl rfl (by decide +kernel) ⟨Nat.le_of_ble_eq_true rfl, Nat.le_of_ble_eq_true rfl⟩) hKK (z_recv hKK hP (q0 := 0) (ci := 0) rfl rfl) hP hD hS hA rfl hl.1 rfl (Nat.le_of_ble_eq_true rfl) ⟨Nat.zero_le _, Nat.zero_le _⟩ dX0_checkRanges_55 (fun H locs hP hD hS => ?_)
      have hP : va_P G.1 vwCl (playW G q d (nup (nup P 1 2) 2 1)) H := hP
      have hD : va_D A (playW G q d (nup (nup P 1 2) 2 1)) := hD
      exact z_vret hx hb hr hlk hP hD hS dX0_checkRanges_58 rfl
  · skip
    refine lv_aload_n hx hb dX0_checkRanges_37 rfl (lv_at hl 0 rfl) ?_
    refine lv_iconst (v := nI 2) hx hb dX0_checkRanges_38 (by decide) ?_
    refine lv_iconst (v := nI 2) hx hb dX0_checkRanges_39 (by decide) ?_
    refine z_callVV (As := [.int (nI 2), .int (nI 2)]) (rest := []) (wr := []) (C := RX0) F (c_X0_fail_nz l G q d (nup (nup P 1 2) 2 1) (2) (2) (show ¬ 2 = 0 by decide) (show 2 ≤ 3 by decide)) (cwV 2 hts gX0_checkRanges_X0_fail rfl rfl rfl (by decide +kernel) ⟨Nat.le_of_ble_eq_true rfl, Nat.le_of_ble_eq_true rfl⟩) hKK (z_recv hKK hP (q0 := 0) (ci := 0) rfl rfl) hP hD hS hA rfl hl.1 rfl (Nat.le_of_ble_eq_true rfl) ⟨Nat.zero_le _, Nat.zero_le _⟩ dX0_checkRanges_40 (fun H locs hP hD hS => ?_)
    have hP : va_P G.1 vwCl (playW G q d (nup (nup P 1 2) 2 1)) H := hP
    have hD : va_D A (playW G q d (nup (nup P 1 2) 2 1)) := hD
    refine lv_aload_n hx hb dX0_checkRanges_43 rfl (lv_at hl 0 rfl) ?_
    refine va_get (D := G.1) (ci := 0) (v := .int (nI (P 9))) (C := RX0) (T := TX0) (N := 12) hx hb hts hinX0 hown hKK.1 hP 0 rfl rfl 10 (by decide) fl_67 (fun _ h9 => h9) rfl dX0_checkRanges_44 ?_
    refine lv_bipush (v := nI 6) hx hb dX0_checkRanges_47 (by decide) ?_
    refine z_le (tgt := 58) hx hb dX0_checkRanges_49 (by decide) (by omega) (by omega) (fun c_5 => ?_) (fun c_5 => ?_)
    · skip
      exact z_vret hx hb hr hlk hP hD hS dX0_checkRanges_58 rfl
    · skip
      refine lv_aload_n hx hb dX0_checkRanges_52 rfl (lv_at hl 0 rfl) ?_
      refine lv_iconst (v := nI 2) hx hb dX0_checkRanges_53 (by decide) ?_
      refine lv_iconst (v := nI 3) hx hb dX0_checkRanges_54 (by decide) ?_
      refine z_callVV (As := [.int (nI 2), .int (nI 3)]) (rest := []) (wr := []) (C := RX0) F (c_X0_fail_nz l G q d (nup (nup P 1 2) 2 1) (2) (3) (show ¬ 2 = 0 by decide) (show 2 ≤ 3 by decide)) (cwV 2 hts gX0_checkRanges_X0_fail rfl rfl rfl (by decide +kernel) ⟨Nat.le_of_ble_eq_true rfl, Nat.le_of_ble_eq_true rfl⟩) hKK (z_recv hKK hP (q0 := 0) (ci := 0) rfl rfl) hP hD hS hA rfl hl.1 rfl (Nat.le_of_ble_eq_true rfl) ⟨Nat.zero_le _, Nat.zero_le _⟩ dX0_checkRanges_55 (fun H locs hP hD hS => ?_)
      have hP : va_P G.1 vwCl (playW G q d (nup (nup P 1 2) 2 1)) H := hP
      have hD : va_D A (playW G q d (nup (nup P 1 2) 2 1)) := hD
      exact z_vret hx hb hr hlk hP hD hS dX0_checkRanges_58 rfl

set_option maxHeartbeats 4000000 in
set_option maxRecDepth 100000 in
theorem c_X0_checkRanges_s2 (l : Launch) (G : ZG) (q d : Nat) (P : Nat → Nat) (h1 : P 1 = 0) (b6 : P 6 ≤ 100) (b7 : P 7 ≤ 100) (b8 : P 8 ≤ 100) (b9 : P 9 ≤ 100) (g6 : P 6 < 3) (g7 : P 7 < 6) (g8 : 3 ≤ P 8) : CV l G yX0_checkRanges wsX0_checkRanges (zRm 1 22) [.ref q] (playW G q d P) (playW G q d (nup (nup P 1 2) 2 2)) := by
  refine CV.ent (cc := cX0_checkRanges) (maxL := 1) (own := RX0) (by decide) rfl rfl (Nat.le_of_ble_eq_true rfl) ?_
  intro p ee s m args below meth c A ls F hr hlk hKK hP hD hA hS hl
  obtain ⟨hx, hb, hml, hown, hts⟩ := id F
  have hl : lv_has ls 1 [(0, .ref q)] := hl
  have fl_58 := hts (.fieldLink RX0 58 "NameRolls$Player" "table" "I") (by decide +kernel)
  have fl_61 := hts (.fieldLink RX0 61 "NameRolls$Player" "cell" "I") (by decide +kernel)
  have fl_64 := hts (.fieldLink RX0 64 "NameRolls$Player" "rule" "I") (by decide +kernel)
  have fl_67 := hts (.fieldLink RX0 67 "NameRolls$Player" "letters" "I") (by decide +kernel)
  have hinX0 : ∀ w ∈ wsX00, w ∈ wsX0_checkRanges := by decide +kernel
  refine lv_aload_n hx hb dX0_checkRanges_0 rfl (lv_at hl 0 rfl) ?_
  refine va_get (D := G.1) (ci := 0) (v := .int (nI (P 6))) (C := RX0) (T := TX0) (N := 12) hx hb hts hinX0 hown hKK.1 hP 0 rfl rfl 7 (by decide) fl_58 (fun _ h9 => h9) rfl dX0_checkRanges_1 ?_
  refine lv_iconst (v := nI 3) hx hb dX0_checkRanges_4 (by decide) ?_
  refine z_lt (tgt := 14) hx hb dX0_checkRanges_5 (by decide) (by omega) (by omega) (fun c_1 => ?_) (fun c_1 => absurd c_1 (by omega))
  refine lv_aload_n hx hb dX0_checkRanges_14 rfl (lv_at hl 0 rfl) ?_
  refine va_get (D := G.1) (ci := 0) (v := .int (nI (P 7))) (C := RX0) (T := TX0) (N := 12) hx hb hts hinX0 hown hKK.1 hP 0 rfl rfl 8 (by decide) fl_61 (fun _ h9 => h9) rfl dX0_checkRanges_15 ?_
  refine lv_bipush (v := nI 6) hx hb dX0_checkRanges_18 (by decide) ?_
  refine z_lt (tgt := 29) hx hb dX0_checkRanges_20 (by decide) (by omega) (by omega) (fun c_2 => ?_) (fun c_2 => absurd c_2 (by omega))
  refine lv_aload_n hx hb dX0_checkRanges_29 rfl (lv_at hl 0 rfl) ?_
  refine va_get (D := G.1) (ci := 0) (v := .int (nI (P 8))) (C := RX0) (T := TX0) (N := 12) hx hb hts hinX0 hown hKK.1 hP 0 rfl rfl 9 (by decide) fl_64 (fun _ h9 => h9) rfl dX0_checkRanges_30 ?_
  refine lv_iconst (v := nI 3) hx hb dX0_checkRanges_33 (by decide) ?_
  refine z_lt (tgt := 43) hx hb dX0_checkRanges_34 (by decide) (by omega) (by omega) (fun c_3 => absurd c_3 (by omega)) (fun c_3 => ?_)
  refine lv_aload_n hx hb dX0_checkRanges_37 rfl (lv_at hl 0 rfl) ?_
  refine lv_iconst (v := nI 2) hx hb dX0_checkRanges_38 (by decide) ?_
  refine lv_iconst (v := nI 2) hx hb dX0_checkRanges_39 (by decide) ?_
  refine z_callVV (As := [.int (nI 2), .int (nI 2)]) (rest := []) (wr := []) (C := RX0) F (c_X0_fail_z l G q d P (2) (2) (by exact h1)) (cwV 2 hts gX0_checkRanges_X0_fail rfl rfl rfl (by decide +kernel) ⟨Nat.le_of_ble_eq_true rfl, Nat.le_of_ble_eq_true rfl⟩) hKK (z_recv hKK hP (q0 := 0) (ci := 0) rfl rfl) hP hD hS hA rfl hl.1 rfl (Nat.le_of_ble_eq_true rfl) ⟨Nat.zero_le _, Nat.zero_le _⟩ dX0_checkRanges_40 (fun H locs hP hD hS => ?_)
  have hP : va_P G.1 vwCl (playW G q d (nup (nup P 1 2) 2 2)) H := hP
  have hD : va_D A (playW G q d (nup (nup P 1 2) 2 2)) := hD
  refine lv_aload_n hx hb dX0_checkRanges_43 rfl (lv_at hl 0 rfl) ?_
  refine va_get (D := G.1) (ci := 0) (v := .int (nI (P 9))) (C := RX0) (T := TX0) (N := 12) hx hb hts hinX0 hown hKK.1 hP 0 rfl rfl 10 (by decide) fl_67 (fun _ h9 => h9) rfl dX0_checkRanges_44 ?_
  refine lv_bipush (v := nI 6) hx hb dX0_checkRanges_47 (by decide) ?_
  refine z_le (tgt := 58) hx hb dX0_checkRanges_49 (by decide) (by omega) (by omega) (fun c_4 => ?_) (fun c_4 => ?_)
  · skip
    exact z_vret hx hb hr hlk hP hD hS dX0_checkRanges_58 rfl
  · skip
    refine lv_aload_n hx hb dX0_checkRanges_52 rfl (lv_at hl 0 rfl) ?_
    refine lv_iconst (v := nI 2) hx hb dX0_checkRanges_53 (by decide) ?_
    refine lv_iconst (v := nI 3) hx hb dX0_checkRanges_54 (by decide) ?_
    refine z_callVV (As := [.int (nI 2), .int (nI 3)]) (rest := []) (wr := []) (C := RX0) F (c_X0_fail_nz l G q d (nup (nup P 1 2) 2 2) (2) (3) (show ¬ 2 = 0 by decide) (show 2 ≤ 3 by decide)) (cwV 2 hts gX0_checkRanges_X0_fail rfl rfl rfl (by decide +kernel) ⟨Nat.le_of_ble_eq_true rfl, Nat.le_of_ble_eq_true rfl⟩) hKK (z_recv hKK hP (q0 := 0) (ci := 0) rfl rfl) hP hD hS hA rfl hl.1 rfl (Nat.le_of_ble_eq_true rfl) ⟨Nat.zero_le _, Nat.zero_le _⟩ dX0_checkRanges_55 (fun H locs hP hD hS => ?_)
    have hP : va_P G.1 vwCl (playW G q d (nup (nup P 1 2) 2 2)) H := hP
    have hD : va_D A (playW G q d (nup (nup P 1 2) 2 2)) := hD
    exact z_vret hx hb hr hlk hP hD hS dX0_checkRanges_58 rfl

set_option maxHeartbeats 4000000 in
set_option maxRecDepth 100000 in
theorem c_X0_checkRanges_s3 (l : Launch) (G : ZG) (q d : Nat) (P : Nat → Nat) (h1 : P 1 = 0) (b6 : P 6 ≤ 100) (b7 : P 7 ≤ 100) (b8 : P 8 ≤ 100) (b9 : P 9 ≤ 100) (g6 : P 6 < 3) (g7 : P 7 < 6) (g8 : P 8 < 3) (g9 : 6 < P 9) : CV l G yX0_checkRanges wsX0_checkRanges (zRm 1 22) [.ref q] (playW G q d P) (playW G q d (nup (nup P 1 2) 2 3)) := by
  refine CV.ent (cc := cX0_checkRanges) (maxL := 1) (own := RX0) (by decide) rfl rfl (Nat.le_of_ble_eq_true rfl) ?_
  intro p ee s m args below meth c A ls F hr hlk hKK hP hD hA hS hl
  obtain ⟨hx, hb, hml, hown, hts⟩ := id F
  have hl : lv_has ls 1 [(0, .ref q)] := hl
  have fl_58 := hts (.fieldLink RX0 58 "NameRolls$Player" "table" "I") (by decide +kernel)
  have fl_61 := hts (.fieldLink RX0 61 "NameRolls$Player" "cell" "I") (by decide +kernel)
  have fl_64 := hts (.fieldLink RX0 64 "NameRolls$Player" "rule" "I") (by decide +kernel)
  have fl_67 := hts (.fieldLink RX0 67 "NameRolls$Player" "letters" "I") (by decide +kernel)
  have hinX0 : ∀ w ∈ wsX00, w ∈ wsX0_checkRanges := by decide +kernel
  refine lv_aload_n hx hb dX0_checkRanges_0 rfl (lv_at hl 0 rfl) ?_
  refine va_get (D := G.1) (ci := 0) (v := .int (nI (P 6))) (C := RX0) (T := TX0) (N := 12) hx hb hts hinX0 hown hKK.1 hP 0 rfl rfl 7 (by decide) fl_58 (fun _ h9 => h9) rfl dX0_checkRanges_1 ?_
  refine lv_iconst (v := nI 3) hx hb dX0_checkRanges_4 (by decide) ?_
  refine z_lt (tgt := 14) hx hb dX0_checkRanges_5 (by decide) (by omega) (by omega) (fun c_1 => ?_) (fun c_1 => absurd c_1 (by omega))
  refine lv_aload_n hx hb dX0_checkRanges_14 rfl (lv_at hl 0 rfl) ?_
  refine va_get (D := G.1) (ci := 0) (v := .int (nI (P 7))) (C := RX0) (T := TX0) (N := 12) hx hb hts hinX0 hown hKK.1 hP 0 rfl rfl 8 (by decide) fl_61 (fun _ h9 => h9) rfl dX0_checkRanges_15 ?_
  refine lv_bipush (v := nI 6) hx hb dX0_checkRanges_18 (by decide) ?_
  refine z_lt (tgt := 29) hx hb dX0_checkRanges_20 (by decide) (by omega) (by omega) (fun c_2 => ?_) (fun c_2 => absurd c_2 (by omega))
  refine lv_aload_n hx hb dX0_checkRanges_29 rfl (lv_at hl 0 rfl) ?_
  refine va_get (D := G.1) (ci := 0) (v := .int (nI (P 8))) (C := RX0) (T := TX0) (N := 12) hx hb hts hinX0 hown hKK.1 hP 0 rfl rfl 9 (by decide) fl_64 (fun _ h9 => h9) rfl dX0_checkRanges_30 ?_
  refine lv_iconst (v := nI 3) hx hb dX0_checkRanges_33 (by decide) ?_
  refine z_lt (tgt := 43) hx hb dX0_checkRanges_34 (by decide) (by omega) (by omega) (fun c_3 => ?_) (fun c_3 => absurd c_3 (by omega))
  refine lv_aload_n hx hb dX0_checkRanges_43 rfl (lv_at hl 0 rfl) ?_
  refine va_get (D := G.1) (ci := 0) (v := .int (nI (P 9))) (C := RX0) (T := TX0) (N := 12) hx hb hts hinX0 hown hKK.1 hP 0 rfl rfl 10 (by decide) fl_67 (fun _ h9 => h9) rfl dX0_checkRanges_44 ?_
  refine lv_bipush (v := nI 6) hx hb dX0_checkRanges_47 (by decide) ?_
  refine z_le (tgt := 58) hx hb dX0_checkRanges_49 (by decide) (by omega) (by omega) (fun c_4 => absurd c_4 (by omega)) (fun c_4 => ?_)
  refine lv_aload_n hx hb dX0_checkRanges_52 rfl (lv_at hl 0 rfl) ?_
  refine lv_iconst (v := nI 2) hx hb dX0_checkRanges_53 (by decide) ?_
  refine lv_iconst (v := nI 3) hx hb dX0_checkRanges_54 (by decide) ?_
  refine z_callVV (As := [.int (nI 2), .int (nI 3)]) (rest := []) (wr := []) (C := RX0) F (c_X0_fail_z l G q d P (2) (3) (by exact h1)) (cwV 2 hts gX0_checkRanges_X0_fail rfl rfl rfl (by decide +kernel) ⟨Nat.le_of_ble_eq_true rfl, Nat.le_of_ble_eq_true rfl⟩) hKK (z_recv hKK hP (q0 := 0) (ci := 0) rfl rfl) hP hD hS hA rfl hl.1 rfl (Nat.le_of_ble_eq_true rfl) ⟨Nat.zero_le _, Nat.zero_le _⟩ dX0_checkRanges_55 (fun H locs hP hD hS => ?_)
  have hP : va_P G.1 vwCl (playW G q d (nup (nup P 1 2) 2 3)) H := hP
  have hD : va_D A (playW G q d (nup (nup P 1 2) 2 3)) := hD
  exact z_vret hx hb hr hlk hP hD hS dX0_checkRanges_58 rfl

set_option maxHeartbeats 4000000 in
set_option maxRecDepth 100000 in
theorem c_X0_checkRanges_nz (l : Launch) (G : ZG) (q d : Nat) (P : Nat → Nat) (h1 : ¬ P 1 = 0) (h2 : P 1 ≤ 3) (b6 : P 6 ≤ 100) (b7 : P 7 ≤ 100) (b8 : P 8 ≤ 100) (b9 : P 9 ≤ 100)  : CV l G yX0_checkRanges wsX0_checkRanges (zRm 1 22) [.ref q] (playW G q d P) (playW G q d P) := by
  refine CV.ent (cc := cX0_checkRanges) (maxL := 1) (own := RX0) (by decide) rfl rfl (Nat.le_of_ble_eq_true rfl) ?_
  intro p ee s m args below meth c A ls F hr hlk hKK hP hD hA hS hl
  obtain ⟨hx, hb, hml, hown, hts⟩ := id F
  have hl : lv_has ls 1 [(0, .ref q)] := hl
  have fl_58 := hts (.fieldLink RX0 58 "NameRolls$Player" "table" "I") (by decide +kernel)
  have fl_61 := hts (.fieldLink RX0 61 "NameRolls$Player" "cell" "I") (by decide +kernel)
  have fl_64 := hts (.fieldLink RX0 64 "NameRolls$Player" "rule" "I") (by decide +kernel)
  have fl_67 := hts (.fieldLink RX0 67 "NameRolls$Player" "letters" "I") (by decide +kernel)
  have hinX0 : ∀ w ∈ wsX00, w ∈ wsX0_checkRanges := by decide +kernel
  refine lv_aload_n hx hb dX0_checkRanges_0 rfl (lv_at hl 0 rfl) ?_
  refine va_get (D := G.1) (ci := 0) (v := .int (nI (P 6))) (C := RX0) (T := TX0) (N := 12) hx hb hts hinX0 hown hKK.1 hP 0 rfl rfl 7 (by decide) fl_58 (fun _ h9 => h9) rfl dX0_checkRanges_1 ?_
  refine lv_iconst (v := nI 3) hx hb dX0_checkRanges_4 (by decide) ?_
  refine z_lt (tgt := 14) hx hb dX0_checkRanges_5 (by decide) (by omega) (by omega) (fun c_1 => ?_) (fun c_1 => ?_)
  · skip
    refine lv_aload_n hx hb dX0_checkRanges_14 rfl (lv_at hl 0 rfl) ?_
    refine va_get (D := G.1) (ci := 0) (v := .int (nI (P 7))) (C := RX0) (T := TX0) (N := 12) hx hb hts hinX0 hown hKK.1 hP 0 rfl rfl 8 (by decide) fl_61 (fun _ h9 => h9) rfl dX0_checkRanges_15 ?_
    refine lv_bipush (v := nI 6) hx hb dX0_checkRanges_18 (by decide) ?_
    refine z_lt (tgt := 29) hx hb dX0_checkRanges_20 (by decide) (by omega) (by omega) (fun c_2 => ?_) (fun c_2 => ?_)
    · skip
      refine lv_aload_n hx hb dX0_checkRanges_29 rfl (lv_at hl 0 rfl) ?_
      refine va_get (D := G.1) (ci := 0) (v := .int (nI (P 8))) (C := RX0) (T := TX0) (N := 12) hx hb hts hinX0 hown hKK.1 hP 0 rfl rfl 9 (by decide) fl_64 (fun _ h9 => h9) rfl dX0_checkRanges_30 ?_
      refine lv_iconst (v := nI 3) hx hb dX0_checkRanges_33 (by decide) ?_
      refine z_lt (tgt := 43) hx hb dX0_checkRanges_34 (by decide) (by omega) (by omega) (fun c_3 => ?_) (fun c_3 => ?_)
      · skip
        refine lv_aload_n hx hb dX0_checkRanges_43 rfl (lv_at hl 0 rfl) ?_
        refine va_get (D := G.1) (ci := 0) (v := .int (nI (P 9))) (C := RX0) (T := TX0) (N := 12) hx hb hts hinX0 hown hKK.1 hP 0 rfl rfl 10 (by decide) fl_67 (fun _ h9 => h9) rfl dX0_checkRanges_44 ?_
        refine lv_bipush (v := nI 6) hx hb dX0_checkRanges_47 (by decide) ?_
        refine z_le (tgt := 58) hx hb dX0_checkRanges_49 (by decide) (by omega) (by omega) (fun c_4 => ?_) (fun c_4 => ?_)
        · skip
          exact z_vret hx hb hr hlk hP hD hS dX0_checkRanges_58 rfl
        · skip
          refine lv_aload_n hx hb dX0_checkRanges_52 rfl (lv_at hl 0 rfl) ?_
          refine lv_iconst (v := nI 2) hx hb dX0_checkRanges_53 (by decide) ?_
          refine lv_iconst (v := nI 3) hx hb dX0_checkRanges_54 (by decide) ?_
          refine z_callVV (As := [.int (nI 2), .int (nI 3)]) (rest := []) (wr := []) (C := RX0) F (c_X0_fail_nz l G q d P (2) (3) (by exact h1) (by exact h2)) (cwV 2 hts gX0_checkRanges_X0_fail rfl rfl rfl (by decide +kernel) ⟨Nat.le_of_ble_eq_true rfl, Nat.le_of_ble_eq_true rfl⟩) hKK (z_recv hKK hP (q0 := 0) (ci := 0) rfl rfl) hP hD hS hA rfl hl.1 rfl (Nat.le_of_ble_eq_true rfl) ⟨Nat.zero_le _, Nat.zero_le _⟩ dX0_checkRanges_55 (fun H locs hP hD hS => ?_)
          have hP : va_P G.1 vwCl (playW G q d P) H := hP
          have hD : va_D A (playW G q d P) := hD
          exact z_vret hx hb hr hlk hP hD hS dX0_checkRanges_58 rfl
      · skip
        refine lv_aload_n hx hb dX0_checkRanges_37 rfl (lv_at hl 0 rfl) ?_
        refine lv_iconst (v := nI 2) hx hb dX0_checkRanges_38 (by decide) ?_
        refine lv_iconst (v := nI 2) hx hb dX0_checkRanges_39 (by decide) ?_
        refine z_callVV (As := [.int (nI 2), .int (nI 2)]) (rest := []) (wr := []) (C := RX0) F (c_X0_fail_nz l G q d P (2) (2) (by exact h1) (by exact h2)) (cwV 2 hts gX0_checkRanges_X0_fail rfl rfl rfl (by decide +kernel) ⟨Nat.le_of_ble_eq_true rfl, Nat.le_of_ble_eq_true rfl⟩) hKK (z_recv hKK hP (q0 := 0) (ci := 0) rfl rfl) hP hD hS hA rfl hl.1 rfl (Nat.le_of_ble_eq_true rfl) ⟨Nat.zero_le _, Nat.zero_le _⟩ dX0_checkRanges_40 (fun H locs hP hD hS => ?_)
        have hP : va_P G.1 vwCl (playW G q d P) H := hP
        have hD : va_D A (playW G q d P) := hD
        refine lv_aload_n hx hb dX0_checkRanges_43 rfl (lv_at hl 0 rfl) ?_
        refine va_get (D := G.1) (ci := 0) (v := .int (nI (P 9))) (C := RX0) (T := TX0) (N := 12) hx hb hts hinX0 hown hKK.1 hP 0 rfl rfl 10 (by decide) fl_67 (fun _ h9 => h9) rfl dX0_checkRanges_44 ?_
        refine lv_bipush (v := nI 6) hx hb dX0_checkRanges_47 (by decide) ?_
        refine z_le (tgt := 58) hx hb dX0_checkRanges_49 (by decide) (by omega) (by omega) (fun c_5 => ?_) (fun c_5 => ?_)
        · skip
          exact z_vret hx hb hr hlk hP hD hS dX0_checkRanges_58 rfl
        · skip
          refine lv_aload_n hx hb dX0_checkRanges_52 rfl (lv_at hl 0 rfl) ?_
          refine lv_iconst (v := nI 2) hx hb dX0_checkRanges_53 (by decide) ?_
          refine lv_iconst (v := nI 3) hx hb dX0_checkRanges_54 (by decide) ?_
          refine z_callVV (As := [.int (nI 2), .int (nI 3)]) (rest := []) (wr := []) (C := RX0) F (c_X0_fail_nz l G q d P (2) (3) (by exact h1) (by exact h2)) (cwV 2 hts gX0_checkRanges_X0_fail rfl rfl rfl (by decide +kernel) ⟨Nat.le_of_ble_eq_true rfl, Nat.le_of_ble_eq_true rfl⟩) hKK (z_recv hKK hP (q0 := 0) (ci := 0) rfl rfl) hP hD hS hA rfl hl.1 rfl (Nat.le_of_ble_eq_true rfl) ⟨Nat.zero_le _, Nat.zero_le _⟩ dX0_checkRanges_55 (fun H locs hP hD hS => ?_)
          have hP : va_P G.1 vwCl (playW G q d P) H := hP
          have hD : va_D A (playW G q d P) := hD
          exact z_vret hx hb hr hlk hP hD hS dX0_checkRanges_58 rfl
    · skip
      refine lv_aload_n hx hb dX0_checkRanges_23 rfl (lv_at hl 0 rfl) ?_
      refine lv_iconst (v := nI 2) hx hb dX0_checkRanges_24 (by decide) ?_
      refine lv_iconst (v := nI 1) hx hb dX0_checkRanges_25 (by decide) ?_
      refine z_callVV (As := [.int (nI 2), .int (nI 1)]) (rest := []) (wr := []) (C := RX0) F (c_X0_fail_nz l G q d P (2) (1) (by exact h1) (by exact h2)) (cwV 2 hts gX0_checkRanges_X0_fail rfl rfl rfl (by decide +kernel) ⟨Nat.le_of_ble_eq_true rfl, Nat.le_of_ble_eq_true rfl⟩) hKK (z_recv hKK hP (q0 := 0) (ci := 0) rfl rfl) hP hD hS hA rfl hl.1 rfl (Nat.le_of_ble_eq_true rfl) ⟨Nat.zero_le _, Nat.zero_le _⟩ dX0_checkRanges_26 (fun H locs hP hD hS => ?_)
      have hP : va_P G.1 vwCl (playW G q d P) H := hP
      have hD : va_D A (playW G q d P) := hD
      refine lv_aload_n hx hb dX0_checkRanges_29 rfl (lv_at hl 0 rfl) ?_
      refine va_get (D := G.1) (ci := 0) (v := .int (nI (P 8))) (C := RX0) (T := TX0) (N := 12) hx hb hts hinX0 hown hKK.1 hP 0 rfl rfl 9 (by decide) fl_64 (fun _ h9 => h9) rfl dX0_checkRanges_30 ?_
      refine lv_iconst (v := nI 3) hx hb dX0_checkRanges_33 (by decide) ?_
      refine z_lt (tgt := 43) hx hb dX0_checkRanges_34 (by decide) (by omega) (by omega) (fun c_6 => ?_) (fun c_6 => ?_)
      · skip
        refine lv_aload_n hx hb dX0_checkRanges_43 rfl (lv_at hl 0 rfl) ?_
        refine va_get (D := G.1) (ci := 0) (v := .int (nI (P 9))) (C := RX0) (T := TX0) (N := 12) hx hb hts hinX0 hown hKK.1 hP 0 rfl rfl 10 (by decide) fl_67 (fun _ h9 => h9) rfl dX0_checkRanges_44 ?_
        refine lv_bipush (v := nI 6) hx hb dX0_checkRanges_47 (by decide) ?_
        refine z_le (tgt := 58) hx hb dX0_checkRanges_49 (by decide) (by omega) (by omega) (fun c_7 => ?_) (fun c_7 => ?_)
        · skip
          exact z_vret hx hb hr hlk hP hD hS dX0_checkRanges_58 rfl
        · skip
          refine lv_aload_n hx hb dX0_checkRanges_52 rfl (lv_at hl 0 rfl) ?_
          refine lv_iconst (v := nI 2) hx hb dX0_checkRanges_53 (by decide) ?_
          refine lv_iconst (v := nI 3) hx hb dX0_checkRanges_54 (by decide) ?_
          refine z_callVV (As := [.int (nI 2), .int (nI 3)]) (rest := []) (wr := []) (C := RX0) F (c_X0_fail_nz l G q d P (2) (3) (by exact h1) (by exact h2)) (cwV 2 hts gX0_checkRanges_X0_fail rfl rfl rfl (by decide +kernel) ⟨Nat.le_of_ble_eq_true rfl, Nat.le_of_ble_eq_true rfl⟩) hKK (z_recv hKK hP (q0 := 0) (ci := 0) rfl rfl) hP hD hS hA rfl hl.1 rfl (Nat.le_of_ble_eq_true rfl) ⟨Nat.zero_le _, Nat.zero_le _⟩ dX0_checkRanges_55 (fun H locs hP hD hS => ?_)
          have hP : va_P G.1 vwCl (playW G q d P) H := hP
          have hD : va_D A (playW G q d P) := hD
          exact z_vret hx hb hr hlk hP hD hS dX0_checkRanges_58 rfl
      · skip
        refine lv_aload_n hx hb dX0_checkRanges_37 rfl (lv_at hl 0 rfl) ?_
        refine lv_iconst (v := nI 2) hx hb dX0_checkRanges_38 (by decide) ?_
        refine lv_iconst (v := nI 2) hx hb dX0_checkRanges_39 (by decide) ?_
        refine z_callVV (As := [.int (nI 2), .int (nI 2)]) (rest := []) (wr := []) (C := RX0) F (c_X0_fail_nz l G q d P (2) (2) (by exact h1) (by exact h2)) (cwV 2 hts gX0_checkRanges_X0_fail rfl rfl rfl (by decide +kernel) ⟨Nat.le_of_ble_eq_true rfl, Nat.le_of_ble_eq_true rfl⟩) hKK (z_recv hKK hP (q0 := 0) (ci := 0) rfl rfl) hP hD hS hA rfl hl.1 rfl (Nat.le_of_ble_eq_true rfl) ⟨Nat.zero_le _, Nat.zero_le _⟩ dX0_checkRanges_40 (fun H locs hP hD hS => ?_)
        have hP : va_P G.1 vwCl (playW G q d P) H := hP
        have hD : va_D A (playW G q d P) := hD
        refine lv_aload_n hx hb dX0_checkRanges_43 rfl (lv_at hl 0 rfl) ?_
        refine va_get (D := G.1) (ci := 0) (v := .int (nI (P 9))) (C := RX0) (T := TX0) (N := 12) hx hb hts hinX0 hown hKK.1 hP 0 rfl rfl 10 (by decide) fl_67 (fun _ h9 => h9) rfl dX0_checkRanges_44 ?_
        refine lv_bipush (v := nI 6) hx hb dX0_checkRanges_47 (by decide) ?_
        refine z_le (tgt := 58) hx hb dX0_checkRanges_49 (by decide) (by omega) (by omega) (fun c_8 => ?_) (fun c_8 => ?_)
        · skip
          exact z_vret hx hb hr hlk hP hD hS dX0_checkRanges_58 rfl
        · skip
          refine lv_aload_n hx hb dX0_checkRanges_52 rfl (lv_at hl 0 rfl) ?_
          refine lv_iconst (v := nI 2) hx hb dX0_checkRanges_53 (by decide) ?_
          refine lv_iconst (v := nI 3) hx hb dX0_checkRanges_54 (by decide) ?_
          refine z_callVV (As := [.int (nI 2), .int (nI 3)]) (rest := []) (wr := []) (C := RX0) F (c_X0_fail_nz l G q d P (2) (3) (by exact h1) (by exact h2)) (cwV 2 hts gX0_checkRanges_X0_fail rfl rfl rfl (by decide +kernel) ⟨Nat.le_of_ble_eq_true rfl, Nat.le_of_ble_eq_true rfl⟩) hKK (z_recv hKK hP (q0 := 0) (ci := 0) rfl rfl) hP hD hS hA rfl hl.1 rfl (Nat.le_of_ble_eq_true rfl) ⟨Nat.zero_le _, Nat.zero_le _⟩ dX0_checkRanges_55 (fun H locs hP hD hS => ?_)
          have hP : va_P G.1 vwCl (playW G q d P) H := hP
          have hD : va_D A (playW G q d P) := hD
          exact z_vret hx hb hr hlk hP hD hS dX0_checkRanges_58 rfl
  · skip
    refine lv_aload_n hx hb dX0_checkRanges_8 rfl (lv_at hl 0 rfl) ?_
    refine lv_iconst (v := nI 2) hx hb dX0_checkRanges_9 (by decide) ?_
    refine lv_iconst (v := nI 0) hx hb dX0_checkRanges_10 (by decide) ?_
    refine z_callVV (As := [.int (nI 2), .int (nI 0)]) (rest := []) (wr := []) (C := RX0) F (c_X0_fail_nz l G q d P (2) (0) (by exact h1) (by exact h2)) (cwV 2 hts gX0_checkRanges_X0_fail rfl rfl rfl (by decide +kernel) ⟨Nat.le_of_ble_eq_true rfl, Nat.le_of_ble_eq_true rfl⟩) hKK (z_recv hKK hP (q0 := 0) (ci := 0) rfl rfl) hP hD hS hA rfl hl.1 rfl (Nat.le_of_ble_eq_true rfl) ⟨Nat.zero_le _, Nat.zero_le _⟩ dX0_checkRanges_11 (fun H locs hP hD hS => ?_)
    have hP : va_P G.1 vwCl (playW G q d P) H := hP
    have hD : va_D A (playW G q d P) := hD
    refine lv_aload_n hx hb dX0_checkRanges_14 rfl (lv_at hl 0 rfl) ?_
    refine va_get (D := G.1) (ci := 0) (v := .int (nI (P 7))) (C := RX0) (T := TX0) (N := 12) hx hb hts hinX0 hown hKK.1 hP 0 rfl rfl 8 (by decide) fl_61 (fun _ h9 => h9) rfl dX0_checkRanges_15 ?_
    refine lv_bipush (v := nI 6) hx hb dX0_checkRanges_18 (by decide) ?_
    refine z_lt (tgt := 29) hx hb dX0_checkRanges_20 (by decide) (by omega) (by omega) (fun c_9 => ?_) (fun c_9 => ?_)
    · skip
      refine lv_aload_n hx hb dX0_checkRanges_29 rfl (lv_at hl 0 rfl) ?_
      refine va_get (D := G.1) (ci := 0) (v := .int (nI (P 8))) (C := RX0) (T := TX0) (N := 12) hx hb hts hinX0 hown hKK.1 hP 0 rfl rfl 9 (by decide) fl_64 (fun _ h9 => h9) rfl dX0_checkRanges_30 ?_
      refine lv_iconst (v := nI 3) hx hb dX0_checkRanges_33 (by decide) ?_
      refine z_lt (tgt := 43) hx hb dX0_checkRanges_34 (by decide) (by omega) (by omega) (fun c_10 => ?_) (fun c_10 => ?_)
      · skip
        refine lv_aload_n hx hb dX0_checkRanges_43 rfl (lv_at hl 0 rfl) ?_
        refine va_get (D := G.1) (ci := 0) (v := .int (nI (P 9))) (C := RX0) (T := TX0) (N := 12) hx hb hts hinX0 hown hKK.1 hP 0 rfl rfl 10 (by decide) fl_67 (fun _ h9 => h9) rfl dX0_checkRanges_44 ?_
        refine lv_bipush (v := nI 6) hx hb dX0_checkRanges_47 (by decide) ?_
        refine z_le (tgt := 58) hx hb dX0_checkRanges_49 (by decide) (by omega) (by omega) (fun c_11 => ?_) (fun c_11 => ?_)
        · skip
          exact z_vret hx hb hr hlk hP hD hS dX0_checkRanges_58 rfl
        · skip
          refine lv_aload_n hx hb dX0_checkRanges_52 rfl (lv_at hl 0 rfl) ?_
          refine lv_iconst (v := nI 2) hx hb dX0_checkRanges_53 (by decide) ?_
          refine lv_iconst (v := nI 3) hx hb dX0_checkRanges_54 (by decide) ?_
          refine z_callVV (As := [.int (nI 2), .int (nI 3)]) (rest := []) (wr := []) (C := RX0) F (c_X0_fail_nz l G q d P (2) (3) (by exact h1) (by exact h2)) (cwV 2 hts gX0_checkRanges_X0_fail rfl rfl rfl (by decide +kernel) ⟨Nat.le_of_ble_eq_true rfl, Nat.le_of_ble_eq_true rfl⟩) hKK (z_recv hKK hP (q0 := 0) (ci := 0) rfl rfl) hP hD hS hA rfl hl.1 rfl (Nat.le_of_ble_eq_true rfl) ⟨Nat.zero_le _, Nat.zero_le _⟩ dX0_checkRanges_55 (fun H locs hP hD hS => ?_)
          have hP : va_P G.1 vwCl (playW G q d P) H := hP
          have hD : va_D A (playW G q d P) := hD
          exact z_vret hx hb hr hlk hP hD hS dX0_checkRanges_58 rfl
      · skip
        refine lv_aload_n hx hb dX0_checkRanges_37 rfl (lv_at hl 0 rfl) ?_
        refine lv_iconst (v := nI 2) hx hb dX0_checkRanges_38 (by decide) ?_
        refine lv_iconst (v := nI 2) hx hb dX0_checkRanges_39 (by decide) ?_
        refine z_callVV (As := [.int (nI 2), .int (nI 2)]) (rest := []) (wr := []) (C := RX0) F (c_X0_fail_nz l G q d P (2) (2) (by exact h1) (by exact h2)) (cwV 2 hts gX0_checkRanges_X0_fail rfl rfl rfl (by decide +kernel) ⟨Nat.le_of_ble_eq_true rfl, Nat.le_of_ble_eq_true rfl⟩) hKK (z_recv hKK hP (q0 := 0) (ci := 0) rfl rfl) hP hD hS hA rfl hl.1 rfl (Nat.le_of_ble_eq_true rfl) ⟨Nat.zero_le _, Nat.zero_le _⟩ dX0_checkRanges_40 (fun H locs hP hD hS => ?_)
        have hP : va_P G.1 vwCl (playW G q d P) H := hP
        have hD : va_D A (playW G q d P) := hD
        refine lv_aload_n hx hb dX0_checkRanges_43 rfl (lv_at hl 0 rfl) ?_
        refine va_get (D := G.1) (ci := 0) (v := .int (nI (P 9))) (C := RX0) (T := TX0) (N := 12) hx hb hts hinX0 hown hKK.1 hP 0 rfl rfl 10 (by decide) fl_67 (fun _ h9 => h9) rfl dX0_checkRanges_44 ?_
        refine lv_bipush (v := nI 6) hx hb dX0_checkRanges_47 (by decide) ?_
        refine z_le (tgt := 58) hx hb dX0_checkRanges_49 (by decide) (by omega) (by omega) (fun c_12 => ?_) (fun c_12 => ?_)
        · skip
          exact z_vret hx hb hr hlk hP hD hS dX0_checkRanges_58 rfl
        · skip
          refine lv_aload_n hx hb dX0_checkRanges_52 rfl (lv_at hl 0 rfl) ?_
          refine lv_iconst (v := nI 2) hx hb dX0_checkRanges_53 (by decide) ?_
          refine lv_iconst (v := nI 3) hx hb dX0_checkRanges_54 (by decide) ?_
          refine z_callVV (As := [.int (nI 2), .int (nI 3)]) (rest := []) (wr := []) (C := RX0) F (c_X0_fail_nz l G q d P (2) (3) (by exact h1) (by exact h2)) (cwV 2 hts gX0_checkRanges_X0_fail rfl rfl rfl (by decide +kernel) ⟨Nat.le_of_ble_eq_true rfl, Nat.le_of_ble_eq_true rfl⟩) hKK (z_recv hKK hP (q0 := 0) (ci := 0) rfl rfl) hP hD hS hA rfl hl.1 rfl (Nat.le_of_ble_eq_true rfl) ⟨Nat.zero_le _, Nat.zero_le _⟩ dX0_checkRanges_55 (fun H locs hP hD hS => ?_)
          have hP : va_P G.1 vwCl (playW G q d P) H := hP
          have hD : va_D A (playW G q d P) := hD
          exact z_vret hx hb hr hlk hP hD hS dX0_checkRanges_58 rfl
    · skip
      refine lv_aload_n hx hb dX0_checkRanges_23 rfl (lv_at hl 0 rfl) ?_
      refine lv_iconst (v := nI 2) hx hb dX0_checkRanges_24 (by decide) ?_
      refine lv_iconst (v := nI 1) hx hb dX0_checkRanges_25 (by decide) ?_
      refine z_callVV (As := [.int (nI 2), .int (nI 1)]) (rest := []) (wr := []) (C := RX0) F (c_X0_fail_nz l G q d P (2) (1) (by exact h1) (by exact h2)) (cwV 2 hts gX0_checkRanges_X0_fail rfl rfl rfl (by decide +kernel) ⟨Nat.le_of_ble_eq_true rfl, Nat.le_of_ble_eq_true rfl⟩) hKK (z_recv hKK hP (q0 := 0) (ci := 0) rfl rfl) hP hD hS hA rfl hl.1 rfl (Nat.le_of_ble_eq_true rfl) ⟨Nat.zero_le _, Nat.zero_le _⟩ dX0_checkRanges_26 (fun H locs hP hD hS => ?_)
      have hP : va_P G.1 vwCl (playW G q d P) H := hP
      have hD : va_D A (playW G q d P) := hD
      refine lv_aload_n hx hb dX0_checkRanges_29 rfl (lv_at hl 0 rfl) ?_
      refine va_get (D := G.1) (ci := 0) (v := .int (nI (P 8))) (C := RX0) (T := TX0) (N := 12) hx hb hts hinX0 hown hKK.1 hP 0 rfl rfl 9 (by decide) fl_64 (fun _ h9 => h9) rfl dX0_checkRanges_30 ?_
      refine lv_iconst (v := nI 3) hx hb dX0_checkRanges_33 (by decide) ?_
      refine z_lt (tgt := 43) hx hb dX0_checkRanges_34 (by decide) (by omega) (by omega) (fun c_13 => ?_) (fun c_13 => ?_)
      · skip
        refine lv_aload_n hx hb dX0_checkRanges_43 rfl (lv_at hl 0 rfl) ?_
        refine va_get (D := G.1) (ci := 0) (v := .int (nI (P 9))) (C := RX0) (T := TX0) (N := 12) hx hb hts hinX0 hown hKK.1 hP 0 rfl rfl 10 (by decide) fl_67 (fun _ h9 => h9) rfl dX0_checkRanges_44 ?_
        refine lv_bipush (v := nI 6) hx hb dX0_checkRanges_47 (by decide) ?_
        refine z_le (tgt := 58) hx hb dX0_checkRanges_49 (by decide) (by omega) (by omega) (fun c_14 => ?_) (fun c_14 => ?_)
        · skip
          exact z_vret hx hb hr hlk hP hD hS dX0_checkRanges_58 rfl
        · skip
          refine lv_aload_n hx hb dX0_checkRanges_52 rfl (lv_at hl 0 rfl) ?_
          refine lv_iconst (v := nI 2) hx hb dX0_checkRanges_53 (by decide) ?_
          refine lv_iconst (v := nI 3) hx hb dX0_checkRanges_54 (by decide) ?_
          refine z_callVV (As := [.int (nI 2), .int (nI 3)]) (rest := []) (wr := []) (C := RX0) F (c_X0_fail_nz l G q d P (2) (3) (by exact h1) (by exact h2)) (cwV 2 hts gX0_checkRanges_X0_fail rfl rfl rfl (by decide +kernel) ⟨Nat.le_of_ble_eq_true rfl, Nat.le_of_ble_eq_true rfl⟩) hKK (z_recv hKK hP (q0 := 0) (ci := 0) rfl rfl) hP hD hS hA rfl hl.1 rfl (Nat.le_of_ble_eq_true rfl) ⟨Nat.zero_le _, Nat.zero_le _⟩ dX0_checkRanges_55 (fun H locs hP hD hS => ?_)
          have hP : va_P G.1 vwCl (playW G q d P) H := hP
          have hD : va_D A (playW G q d P) := hD
          exact z_vret hx hb hr hlk hP hD hS dX0_checkRanges_58 rfl
      · skip
        refine lv_aload_n hx hb dX0_checkRanges_37 rfl (lv_at hl 0 rfl) ?_
        refine lv_iconst (v := nI 2) hx hb dX0_checkRanges_38 (by decide) ?_
        refine lv_iconst (v := nI 2) hx hb dX0_checkRanges_39 (by decide) ?_
        refine z_callVV (As := [.int (nI 2), .int (nI 2)]) (rest := []) (wr := []) (C := RX0) F (c_X0_fail_nz l G q d P (2) (2) (by exact h1) (by exact h2)) (cwV 2 hts gX0_checkRanges_X0_fail rfl rfl rfl (by decide +kernel) ⟨Nat.le_of_ble_eq_true rfl, Nat.le_of_ble_eq_true rfl⟩) hKK (z_recv hKK hP (q0 := 0) (ci := 0) rfl rfl) hP hD hS hA rfl hl.1 rfl (Nat.le_of_ble_eq_true rfl) ⟨Nat.zero_le _, Nat.zero_le _⟩ dX0_checkRanges_40 (fun H locs hP hD hS => ?_)
        have hP : va_P G.1 vwCl (playW G q d P) H := hP
        have hD : va_D A (playW G q d P) := hD
        refine lv_aload_n hx hb dX0_checkRanges_43 rfl (lv_at hl 0 rfl) ?_
        refine va_get (D := G.1) (ci := 0) (v := .int (nI (P 9))) (C := RX0) (T := TX0) (N := 12) hx hb hts hinX0 hown hKK.1 hP 0 rfl rfl 10 (by decide) fl_67 (fun _ h9 => h9) rfl dX0_checkRanges_44 ?_
        refine lv_bipush (v := nI 6) hx hb dX0_checkRanges_47 (by decide) ?_
        refine z_le (tgt := 58) hx hb dX0_checkRanges_49 (by decide) (by omega) (by omega) (fun c_15 => ?_) (fun c_15 => ?_)
        · skip
          exact z_vret hx hb hr hlk hP hD hS dX0_checkRanges_58 rfl
        · skip
          refine lv_aload_n hx hb dX0_checkRanges_52 rfl (lv_at hl 0 rfl) ?_
          refine lv_iconst (v := nI 2) hx hb dX0_checkRanges_53 (by decide) ?_
          refine lv_iconst (v := nI 3) hx hb dX0_checkRanges_54 (by decide) ?_
          refine z_callVV (As := [.int (nI 2), .int (nI 3)]) (rest := []) (wr := []) (C := RX0) F (c_X0_fail_nz l G q d P (2) (3) (by exact h1) (by exact h2)) (cwV 2 hts gX0_checkRanges_X0_fail rfl rfl rfl (by decide +kernel) ⟨Nat.le_of_ble_eq_true rfl, Nat.le_of_ble_eq_true rfl⟩) hKK (z_recv hKK hP (q0 := 0) (ci := 0) rfl rfl) hP hD hS hA rfl hl.1 rfl (Nat.le_of_ble_eq_true rfl) ⟨Nat.zero_le _, Nat.zero_le _⟩ dX0_checkRanges_55 (fun H locs hP hD hS => ?_)
          have hP : va_P G.1 vwCl (playW G q d P) H := hP
          have hD : va_D A (playW G q d P) := hD
          exact z_vret hx hb hr hlk hP hD hS dX0_checkRanges_58 rfl
