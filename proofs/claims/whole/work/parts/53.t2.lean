set_option maxHeartbeats 4000000 in
set_option maxRecDepth 100000 in
theorem c_X0_checkRanges_no (l : Launch) (G : ZG) (q d : Nat) (P : Nat → Nat) (g6 : P 6 < 3) (g7 : P 7 < 6) (g8 : P 8 < 3) (g9 : P 9 ≤ 6) : CV l G yX0_checkRanges wsX0_checkRanges (zRm 1 22) [.ref q] (playW G q d P) (playW G q d P) := by
  refine CV.ent (cc := cX0_checkRanges) (maxL := 1) (own := RX0) (by decide) rfl rfl (Nat.le_of_ble_eq_true rfl) ?_
  intro p ee s m args below meth c A ls F hr hlk hKK hP hD hA hS hl
  obtain ⟨hx, hb, hml, hown, hts⟩ := id F
  have hl : lv_has ls 1 [(0, .ref q)] := hl
  have fl_58 := hts (.fieldLink RX0 58 "NameRolls$Player" "table" "I") (by decide +kernel)
  have fl_61 := hts (.fieldLink RX0 61 "NameRolls$Player" "cell" "I") (by decide +kernel)
  have fl_64 := hts (.fieldLink RX0 64 "NameRolls$Player" "rule" "I") (by decide +kernel)
  have fl_67 := hts (.fieldLink RX0 67 "NameRolls$Player" "letters" "I") (by decide +kernel)
  have hinX0 : ∀ w ∈ wsX00, w ∈ wsX0_checkRanges := by decide +kernel
  refine lv_aload_n hx hb dX0_checkRanges_0 rfl (lv_at hl 0 rfl) ?_
  refine va_get (D := G.1) (ci := 0) (v := .int (nI (P 6))) (C := RX0) (T := TX0) (N := 12) hx hb hts hinX0 hown hKK.1 hP 0 rfl rfl 7 (by decide) fl_58 (fun _ h9 => h9) rfl dX0_checkRanges_1 ?_
  refine lv_iconst (v := nI 3) hx hb dX0_checkRanges_4 (by decide) ?_
  refine z_lt (tgt := 14) hx hb dX0_checkRanges_5 (by decide) (by omega) (by omega) (fun c_1 => ?_) (fun c_1 => absurd c_1 (by omega))
  refine lv_aload_n hx hb dX0_checkRanges_14 rfl (lv_at hl 0 rfl) ?_
  refine va_get (D := G.1) (ci := 0) (v := .int (nI (P 7))) (C := RX0) (T := TX0) (N := 12) hx hb hts hinX0 hown hKK.1 hP 0 rfl rfl 8 (by decide) fl_61 (fun _ h9 => h9) rfl dX0_checkRanges_15 ?_
  refine lv_bipush (v := nI 6) hx hb dX0_checkRanges_18 (by decide) ?_
  refine z_lt (tgt := 29) hx hb dX0_checkRanges_20 (by decide) (by omega) (by omega) (fun c_2 => ?_) (fun c_2 => absurd c_2 (by omega))
  refine lv_aload_n hx hb dX0_checkRanges_29 rfl (lv_at hl 0 rfl) ?_
  refine va_get (D := G.1) (ci := 0) (v := .int (nI (P 8))) (C := RX0) (T := TX0) (N := 12) hx hb hts hinX0 hown hKK.1 hP 0 rfl rfl 9 (by decide) fl_64 (fun _ h9 => h9) rfl dX0_checkRanges_30 ?_
  refine lv_iconst (v := nI 3) hx hb dX0_checkRanges_33 (by decide) ?_
  refine z_lt (tgt := 43) hx hb dX0_checkRanges_34 (by decide) (by omega) (by omega) (fun c_3 => ?_) (fun c_3 => absurd c_3 (by omega))
  refine lv_aload_n hx hb dX0_checkRanges_43 rfl (lv_at hl 0 rfl) ?_
  refine va_get (D := G.1) (ci := 0) (v := .int (nI (P 9))) (C := RX0) (T := TX0) (N := 12) hx hb hts hinX0 hown hKK.1 hP 0 rfl rfl 10 (by decide) fl_67 (fun _ h9 => h9) rfl dX0_checkRanges_44 ?_
  refine lv_bipush (v := nI 6) hx hb dX0_checkRanges_47 (by decide) ?_
  refine z_le (tgt := 58) hx hb dX0_checkRanges_49 (by decide) (by omega) (by omega) (fun c_4 => ?_) (fun c_4 => absurd c_4 (by omega))
  exact z_vret hx hb hr hlk hP hD hS dX0_checkRanges_58 rfl

set_option maxHeartbeats 4000000 in
set_option maxRecDepth 100000 in
theorem c_X0_checkRanges_s0 (l : Launch) (G : ZG) (q d : Nat) (P : Nat → Nat) (h1 : P 1 = 0) (b6 : P 6 ≤ 100) (b7 : P 7 ≤ 100) (b8 : P 8 ≤ 100) (b9 : P 9 ≤ 100) (g6 : 3 ≤ P 6) : CV l G yX0_checkRanges wsX0_checkRanges (zRm 1 22) [.ref q] (playW G q d P) (playW G q d (nup (nup P 1 2) 2 0)) := by
  refine CV.ent (cc := cX0_checkRanges) (maxL := 1) (own := RX0) (by decide) rfl rfl (Nat.le_of_ble_eq_true rfl) ?_
  intro p ee s m args below meth c A ls F hr hlk hKK hP hD hA hS hl
  obtain ⟨hx, hb, hml, hown, hts⟩ := id F
  have hl : lv_has ls 1 [(0, .ref q)] := hl
  have fl_58 := hts (.fieldLink RX0 58 "NameRolls$Player" "table" "I") (by decide +kernel)
  have fl_61 := hts (.fieldLink RX0 61 "NameRolls$Player" "cell" "I") (by decide +kernel)
  have fl_64 := hts (.fieldLink RX0 64 "NameRolls$Player" "rule" "I") (by decide +kernel)
  have fl_67 := hts (.fieldLink RX0 67 "NameRolls$Player" "letters" "I") (by decide +kernel)
  have hinX0 : ∀ w ∈ wsX00, w ∈ wsX0_checkRanges := by decide +kernel
  refine lv_aload_n hx hb dX0_checkRanges_0 rfl (lv_at hl 0 rfl) ?_
  refine va_get (D := G.1) (ci := 0) (v := .int (nI (P 6))) (C := RX0) (T := TX0) (N := 12) hx hb hts hinX0 hown hKK.1 hP 0 rfl rfl 7 (by decide) fl_58 (fun _ h9 => h9) rfl dX0_checkRanges_1 ?_
  refine lv_iconst (v := nI 3) hx hb dX0_checkRanges_4 (by decide) ?_
  refine z_lt (tgt := 14) hx hb dX0_checkRanges_5 (by decide) (by omega) (by omega) (fun c_1 => absurd c_1 (by omega)) (fun c_1 => ?_)
  refine lv_aload_n hx hb dX0_checkRanges_8 rfl (lv_at hl 0 rfl) ?_
  refine lv_iconst (v := nI 2) hx hb dX0_checkRanges_9 (by decide) ?_
  refine lv_iconst (v := nI 0) hx hb dX0_checkRanges_10 (by decide) ?_
  refine z_callVV (As := [.int (nI 2), .int (nI 0)]) (rest := []) (wr := []) (C := RX0) F (c_X0_fail_z l G q d P (2) (0) (by exact h1)) (cwV 2 hts gX0_checkRanges_X0_fail rfl rfl rfl (by decide +kernel) ⟨Nat.le_of_ble_eq_true rfl, Nat.le_of_ble_eq_true rfl⟩) hKK (z_recv hKK hP (q0 := 0) (ci := 0) rfl rfl) hP hD hS hA rfl hl.1 rfl (Nat.le_of_ble_eq_true rfl) ⟨Nat.zero_le _, Nat.zero_le _⟩ dX0_checkRanges_11 (fun H locs hP hD hS => ?_)
  have hP : va_P G.1 vwCl (playW G q d (nup (nup P 1 2) 2 0)) H := hP
  have hD : va_D A (playW G q d (nup (nup P 1 2) 2 0)) := hD
  refine lv_aload_n hx hb dX0_checkRanges_14 rfl (lv_at hl 0 rfl) ?_
  refine va_get (D := G.1) (ci := 0) (v := .int (nI (P 7))) (C := RX0) (T := TX0) (N := 12) hx hb hts hinX0 hown hKK.1 hP 0 rfl rfl 8 (by decide) fl_61 (fun _ h9 => h9) rfl dX0_checkRanges_15 ?_
  refine lv_bipush (v := nI 6) hx hb dX0_checkRanges_18 (by decide) ?_
  refine z_lt (tgt := 29) hx hb dX0_checkRanges_20 (by decide) (by omega) (by omega) (fun c_2 => ?_) (fun c_2 => ?_)
  · skip
    refine lv_aload_n hx hb dX0_checkRanges_29 rfl (lv_at hl 0 rfl) ?_
    refine va_get (D := G.1) (ci := 0) (v := .int (nI (P 8))) (C := RX0) (T := TX0) (N := 12) hx hb hts hinX0 hown hKK.1 hP 0 rfl rfl 9 (by decide) fl_64 (fun _ h9 => h9) rfl dX0_checkRanges_30 ?_
    refine lv_iconst (v := nI 3) hx hb dX0_checkRanges_33 (by decide) ?_
    refine z_lt (tgt := 43) hx hb dX0_checkRanges_34 (by decide) (by omega) (by omega) (fun c_3 => ?_) (fun c_3 => ?_)
    · skip
      refine lv_aload_n hx hb dX0_checkRanges_43 rfl (lv_at hl 0 rfl) ?_
      refine va_get (D := G.1) (ci := 0) (v := .int (nI (P 9))) (C := RX0) (T := TX0) (N := 12) hx hb hts hinX0 hown hKK.1 hP 0 rfl rfl 10 (by decide) fl_67 (fun _ h9 => h9) rfl dX0_checkRanges_44 ?_
      refine lv_bipush (v := nI 6) hx hb dX0_checkRanges_47 (by decide) ?_
      refine z_le (tgt := 58) hx hb dX0_checkRanges_49 (by decide) (by omega) (by omega) (fun c_4 => ?_) (fun c_4 => ?_)
      · skip
        exact z_vret hx hb hr hlk hP hD hS dX0_checkRanges_58 rfl
      · skip
        refine lv_aload_n hx hb dX0_checkRanges_52 rfl (lv_at hl 0 rfl) ?_
        refine lv_iconst (v := nI 2) hx hb dX0_checkRanges_53 (by decide) ?_
        refine lv_iconst (v := nI 3) hx hb dX0_checkRanges_54 (by decide) ?_
        refine z_callVV (As := [.int (nI 2), .int (nI 3)]) (rest := []) (wr := []) (C := RX0) F (c_X0_fail_nz l G q d (nup (nup P 1 2) 2 0) (2) (3) (show ¬ 2 = 0 by decide) (show 2 ≤ 3 by decide)) (cwV 2 hts gX0_checkRanges_X0_fail rfl rfl rfl (by decide +kernel) ⟨Nat.le_of_ble_eq_true rfl, Nat.le_of_ble_eq_true rfl⟩) hKK (z_recv hKK hP (q0 := 0) (ci := 0) rfl rfl) hP hD hS hA rfl hl.1 rfl (Nat.le_of_ble_eq_true rfl) ⟨Nat.zero_le _, Nat.zero_le _⟩ dX0_checkRanges_55 (fun H locs hP hD hS => ?_)
        have hP : va_P G.1 vwCl (playW G q d (nup (nup P 1 2) 2 0)) H := hP
        have hD : va_D A (playW G q d (nup (nup P 1 2) 2 0)) := hD
        exact z_vret hx hb hr hlk hP hD hS dX0_checkRanges_58 rfl
    · skip
      refine lv_aload_n hx hb dX0_checkRanges_37 rfl (lv_at hl 0 rfl) ?_
      refine lv_iconst (v := nI 2) hx hb dX0_checkRanges_38 (by decide) ?_
      refine lv_iconst (v := nI 2) hx hb dX0_checkRanges_39 (by decide) ?_
      refine z_callVV (As := [.int (nI 2), .int (nI 2)]) (rest := []) (wr := []) (C := RX0) F (c_X0_fail_nz l G q d (nup (nup P 1 2) 2 0) (2) (2) (show ¬ 2 = 0 by decide) (show 2 ≤ 3 by decide)) (cwV 2 hts gX0_checkRanges_X0_fail rfl rfl rfl (by decide +kernel) ⟨Nat.le_of_ble_eq_true rfl, Nat.le_of_ble_eq_true rfl⟩) hKK (z_recv hKK hP (q0 := 0) (ci := 0) rfl rfl) hP hD hS hA rfl hl.1 rfl (Nat.le_of_ble_eq_true rfl) ⟨Nat.zero_le _, Nat.zero_le _⟩ dX0_checkRanges_40 (fun H locs hP hD hS => ?_)
      have hP : va_P G.1 vwCl (playW G q d (nup (nup P 1 2) 2 0)) H := hP
      have hD : va_D A (playW G q d (nup (nup P 1 2) 2 0)) := hD
      refine lv_aload_n hx hb dX0_checkRanges_43 rfl (lv_at hl 0 rfl) ?_
      refine va_get (D := G.1) (ci := 0) (v := .int (nI (P 9))) (C := RX0) (T := TX0) (N := 12) hx hb hts hinX0 hown hKK.1 hP 0 rfl rfl 10 (by decide) fl_67 (fun _ h9 => h9) rfl dX0_checkRanges_44 ?_
      refine lv_bipush (v := nI 6) hx hb dX0_checkRanges_47 (by decide) ?_
      refine z_le (tgt := 58) hx hb dX0_checkRanges_49 (by decide) (by omega) (by omega) (fun c_5 => ?_) (fun c_5 => ?_)
      · skip
        exact z_vret hx hb hr hlk hP hD hS dX0_checkRanges_58 rfl
      · skip
        refine lv_aload_n hx hb dX0_checkRanges_52 rfl (lv_at hl 0 rfl) ?_
        refine lv_iconst (v := nI 2) hx hb dX0_checkRanges_53 (by decide) ?_
        refine lv_iconst (v := nI 3) hx hb dX0_checkRanges_54 (by decide) ?_
        refine z_callVV (As := [.int (nI 2), .int (nI 3)]) (rest := []) (wr := []) (C := RX0) F (c_X0_fail_nz l G q d (nup (nup P 1 2) 2 0) (2) (3) (show ¬ 2 = 0 by decide) (show 2 ≤ 3 by decide)) (cwV 2 hts gX0_checkRanges_X0_fail rfl rfl rfl (by decide +kernel) ⟨Nat.le_of_ble_eq_true rfl, Nat.le_of_ble_eq_true rfl⟩) hKK (z_recv hKK hP (q0 := 0) (ci := 0) rfl rfl) hP hD hS hA rfl hl.1 rfl (Nat.le_of_ble_eq_true rfl) ⟨Nat.zero_le _, Nat.zero_le _⟩ dX0_checkRanges_55 (fun H locs hP hD hS => ?_)
        have hP : va_P G.1 vwCl (playW G q d (nup (nup P 1 2) 2 0)) H := hP
        have hD : va_D A (playW G q d (nup (nup P 1 2) 2 0)) := hD
        exact z_vret hx hb hr hlk hP hD hS dX0_checkRanges_58 rfl
  · skip
    refine lv_aload_n hx hb dX0_checkRanges_23 rfl (lv_at hl 0 rfl) ?_
    refine lv_iconst (v := nI 2) hx hb dX0_checkRanges_24 (by decide) ?_
    refine lv_iconst (v := nI 1) hx hb dX0_checkRanges_25 (by decide) ?_
    refine z_callVV (As := [.int (nI 2), .int (nI 1)]) (rest := []) (wr := []) (C := RX0) F (c_X0_fail_nz l G q d (nup (nup P 1 2) 2 0) (2) (1) (show ¬ 2 = 0 by decide) (show 2 ≤ 3 by decide)) (cwV 2 hts gX0_checkRanges_X0_fail rfl rfl rfl (by decide +kernel) ⟨Nat.le_of_ble_eq_true rfl, Nat.le_of_ble_eq_true rfl⟩) hKK (z_recv hKK hP (q0 := 0) (ci := 0) rfl rfl) hP hD hS hA rfl hl.1 rfl (Nat.le_of_ble_eq_true rfl) ⟨Nat.zero_le _, Nat.zero_le _⟩ dX0_checkRanges_26 (fun H locs hP hD hS => ?_)
    have hP : va_P G.1 vwCl (playW G q d (nup (nup P 1 2) 2 0)) H := hP
    have hD : va_D A (playW G q d (nup (nup P 1 2) 2 0)) := hD
    refine lv_aload_n hx hb dX0_checkRanges_29 rfl (lv_at hl 0 rfl) ?_
    refine va_get (D := G.1) (ci := 0) (v := .int (nI (P 8))) (C := RX0) (T := TX0) (N := 12) hx hb hts hinX0 hown hKK.1 hP 0 rfl rfl 9 (by decide) fl_64 (fun _ h9 => h9) rfl dX0_checkRanges_30 ?_
    refine lv_iconst (v := nI 3) hx hb dX0_checkRanges_33 (by decide) ?_
    refine z_lt (tgt := 43) hx hb dX0_checkRanges_34 (by decide) (by omega) (by omega) (fun c_6 => ?_) (fun c_6 => ?_)
    · skip
      refine lv_aload_n hx hb dX0_checkRanges_43 rfl (lv_at hl 0 rfl) ?_
      refine va_get (D := G.1) (ci := 0) (v := .int (nI (P 9))) (C := RX0) (T := TX0) (N := 12) hx hb hts hinX0 hown hKK.1 hP 0 rfl rfl 10 (by decide) fl_67 (fun _ h9 => h9) rfl dX0_checkRanges_44 ?_
      refine lv_bipush (v := nI 6) hx hb dX0_checkRanges_47 (by decide) ?_
      refine z_le (tgt := 58) hx hb dX0_checkRanges_49 (by decide) (by omega) (by omega) (fun c_7 => ?_) (fun c_7 => ?_)
      · skip
        exact z_vret hx hb hr hlk hP hD hS dX0_checkRanges_58 rfl
      · skip
        refine lv_aload_n hx hb dX0_checkRanges_52 rfl (lv_at hl 0 rfl) ?_
        refine lv_iconst (v := nI 2) hx hb dX0_checkRanges_53 (by decide) ?_
        refine lv_iconst (v := nI 3) hx hb dX0_checkRanges_54 (by decide) ?_
        refine z_callVV (As := [.int (nI 2), .int (nI 3)]) (rest := []) (wr := []) (C := RX0) F (c_X0_fail_nz l G q d (nup (nup P 1 2) 2 0) (2) (3) (show ¬ 2 = 0 by decide) (show 2 ≤ 3 by decide)) (cwV 2 hts gX0_checkRanges_X0_fail rfl rfl rfl (by decide +kernel) ⟨Nat.le_of_ble_eq_true rfl, Nat.le_of_ble_eq_true rfl⟩) hKK (z_recv hKK hP (q0 := 0) (ci := 0) rfl rfl) hP hD hS hA rfl hl.1 rfl (Nat.le_of_ble_eq_true rfl) ⟨Nat.zero_le _, Nat.zero_le _⟩ dX0_checkRanges_55 (fun H locs hP hD hS => ?_)
        have hP : va_P G.1 vwCl (playW G q d (nup (nup P 1 2) 2 0)) H := hP
        have hD : va_D A (playW G q d (nup (nup P 1 2) 2 0)) := hD
        exact z_vret hx hb hr hlk hP hD hS dX0_checkRanges_58 rfl
    · skip
      refine lv_aload_n hx hb dX0_checkRanges_37 rfl (lv_at hl 0 rfl) ?_
      refine lv_iconst (v := nI 2) hx hb dX0_checkRanges_38 (by decide) ?_
      refine lv_iconst (v := nI 2) hx hb dX0_checkRanges_39 (by decide) ?_
      refine z_callVV (As := [.int (nI 2), .int (nI 2)]) (rest := []) (wr := []) (C := RX0) F (c_X0_fail_nz l G q d (nup (nup P 1 2) 2 0) (2) (2) (show ¬ 2 = 0 by decide) (show 2 ≤ 3 by decide)) (cwV 2 hts gX0_checkRanges_X0_fail rfl rfl rfl (by decide +kernel) ⟨Nat.le_of_ble_eq_true rfl, Nat.le_of_ble_eq_true rfl⟩) hKK (z_recv hKK hP (q0 := 0) (ci := 0) rfl rfl) hP hD hS hA rfl hl.1 rfl (Nat.le_of_ble_eq_true rfl) ⟨Nat.zero_le _, Nat.zero_le _⟩ dX0_checkRanges_40 (fun H locs hP hD hS => ?_)
      have hP : va_P G.1 vwCl (playW G q d (nup (nup P 1 2) 2 0)) H := hP
      have hD : va_D A (playW G q d (nup (nup P 1 2) 2 0)) := hD
      refine lv_aload_n hx hb dX0_checkRanges_43 rfl (lv_at hl 0 rfl) ?_
      refine va_get (D := G.1) (ci := 0) (v := .int (nI (P 9))) (C := RX0) (T := TX0) (N := 12) hx hb hts hinX0 hown hKK.1 hP 0 rfl rfl 10 (by decide) fl_67 (fun _ h9 => h9) rfl dX0_checkRanges_44 ?_
      refine lv_bipush (v := nI 6) hx hb dX0_checkRanges_47 (by decide) ?_
      refine z_le (tgt := 58) hx hb dX0_checkRanges_49 (by decide) (by omega) (by omega) (fun c_8 => ?_) (fun c_8 => ?_)
      · skip
        exact z_vret hx hb hr hlk hP hD hS dX0_checkRanges_58 rfl
      · skip
        refine lv_aload_n hx hb dX0_checkRanges_52 rfl (lv_at hl 0 rfl) ?_
        refine lv_iconst (v := nI 2) hx hb dX0_checkRanges_53 (by decide) ?_
        refine lv_iconst (v := nI 3) hx hb dX0_checkRanges_54 (by decide) ?_
        refine z_callVV (As := [.int (nI 2), .int (nI 3)]) (rest := []) (wr := []) (C := RX0) F (c_X0_fail_nz l G q d (nup (nup P 1 2) 2 0) (2) (3) (show ¬ 2 = 0 by decide) (show 2 ≤ 3 by decide)) (cwV 2 hts gX0_checkRanges_X0_fail rfl rfl rfl (by decide +kernel) ⟨Nat.le_of_ble_eq_true rfl, Nat.le_of_ble_eq_true rfl⟩) hKK (z_recv hKK hP (q0 := 0) (ci := 0) rfl rfl) hP hD hS hA rfl hl.1 rfl (Nat.le_of_ble_eq_true rfl) ⟨Nat.zero_le _, Nat.zero_le _⟩ dX0_checkRanges_55 (fun H locs hP hD hS => ?_)
        have hP : va_P G.1 vwCl (playW G q d (nup (nup P 1 2) 2 0)) H := hP
        have hD : va_D A (playW G q d (nup (nup P 1 2) 2 0)) := hD
        exact z_vret hx hb hr hlk hP hD hS dX0_checkRanges_58 rfl

set_option maxHeartbeats 4000000 in
set_option maxRecDepth 100000 in
theorem c_X0_checkRanges_s1 (l : Launch) (G : ZG) (q d : Nat) (P : Nat → Nat) (h1 : P 1 = 0) (b6 : P 6 ≤ 100) (b7 : P 7 ≤ 100) (b8 : P 8 ≤ 100) (b9 : P 9 ≤ 100) (g6 : P 6 < 3) (g7 : 6 ≤ P 7) : CV l G yX0_checkRanges wsX0_checkRanges (zRm 1 22) [.ref q] (playW G q d P) (playW G q d (nup (nup P 1 2) 2 1)) := by
  refine CV.ent (cc := cX0_checkRanges) (maxL := 1) (own := RX0) (by decide) rfl rfl (Nat.le_of_ble_eq_true rfl) ?_
  intro p ee s m args below meth c A ls F hr hlk hKK hP hD hA hS hl
  obtain ⟨hx, hb, hml, hown, hts⟩ := id F
  have hl : lv_has ls 1 [(0, .ref q)] := hl
  have fl_58 := hts (.fieldLink RX0 58 "NameRolls$Player" "table" "I") (by decide +kernel)
  have fl_61 := hts (.fieldLink RX0 61 "NameRolls$Player" "cell" "I") (by decide +kernel)
  have fl_64 := hts (.fieldLink RX0 64 "NameRolls$Player" "rule" "I") (by decide +kernel)
  have fl_67 := hts (.fieldLink RX0 67 "NameRolls$Player" "letters" "I") (by decide +kernel)
  have hinX0 : ∀ w ∈ wsX00, w ∈ wsX0_checkRanges := by decide +kernel
  refine lv_aload_n hx hb dX0_checkRanges_0 rfl (lv_at hl 0 rfl) ?_
  refine va_get (D := G.1) (ci := 0) (v := .int (nI (P 6))) (C := RX0) (T := TX0) (N := 12) hx hb hts hinX0 hown hKK.1 hP 0 rfl rfl 7 (by decide) fl_58 (fun _ h9 => h9) rfl dX0_checkRanges_1 ?_
  refine lv_iconst (v := nI 3) hx hb dX0_checkRanges_4 (by decide) ?_
  refine z_lt (tgt := 14) hx hb dX0_checkRanges_5 (by decide) (by omega) (by omega) (fun c_1 => ?_) (fun c_1 => absurd c_1 (by omega))
  refine lv_aload_n hx hb dX0_checkRanges_14 rfl (lv_at hl 0 rfl) ?_
  refine va_get (D := G.1) (ci := 0) (v := .int (nI (P 7))) (C := RX0) (T := TX0) (N := 12) hx hb hts hinX0 hown hKK.1 hP 0 rfl rfl 8 (by decide) fl_61 (fun _ h9 => h9) rfl dX0_checkRanges_15 ?_
  refine lv_bipush (v := nI 6) hx hb dX0_checkRanges_18 (by decide) ?_
  refine z_lt (tgt := 29) hx hb dX0_checkRanges_20 (by decide) (by omega) (by omega) (fun c_2 => absurd c_2 (by omega)) (fun c_2 => ?_)
  refine lv_aload_n hx hb dX0_checkRanges_23 rfl (lv_at hl 0 rfl) ?_
  refine lv_iconst (v := nI 2) hx hb dX0_checkRanges_24 (by decide) ?_
  refine lv_iconst (v := nI 1) hx hb dX0_checkRanges_25 (by decide) ?_
  refine z_callVV (As := [.int (nI 2), .int (nI 1)]) (rest := []) (wr := []) (C := RX0) F (c_X0_fail_z l G q d P (2) (1) (by exact h1)) (cwV 2 hts gX0_checkRanges_X0_fail rfl rfl rfl (by decide +kernel) ⟨Nat.le_of_ble_eq_true rfl, Nat.le_of_ble_eq_true rfl⟩) hKK (z_recv hKK hP (q0 := 0) (ci := 0) rfl rfl) hP hD hS hA rfl hl.1 rfl (Nat.le_of_ble_eq_true rfl) ⟨Nat.zero_le _, Nat.zero_le _⟩ dX0_checkRanges_26 (fun H locs hP hD hS => ?_)
  have hP : va_P G.1 vwCl (playW G q d (nup (nup P 1 2) 2 1)) H := hP
  have hD : va_D A (playW G q d (nup (nup P 1 2) 2 1)) := hD
  refine lv_aload_n hx hb dX0_checkRanges_29 rfl (lv_at hl 0 rfl) ?_
  refine va_get (D := G.1) (ci := 0) (v := .int (nI (P 8))) (C := RX0) (T := TX0) (N := 12) hx hb hts hinX0 hown hKK.1 hP 0 rfl rfl 9 (by decide) fl_64 (fun _ h9 => h9) rfl dX0_checkRanges_30 ?_
  refine lv_iconst (v := nI 3) hx hb dX0_checkRanges_33 (by decide) ?_
  refine z_lt (tgt := 43) hx hb dX0_checkRanges_34 (by decide) (by omega) (by omega) (fun c_3 => ?_) (fun c_3 => ?_)
  · skip
    refine lv_aload_n hx hb dX0_checkRanges_43 rfl (lv_at hl 0 rfl) ?_
    refine va_get (D := G.1) (ci := 0) (v := .int (nI (P 9))) (C := RX0) (T := TX0) (N := 12) hx hb hts hinX0 hown hKK.1 hP 0 rfl rfl 10 (by decide) fl_67 (fun _ h9 => h9) rfl dX0_checkRanges_44 ?_
    refine lv_bipush (v := nI 6) hx hb dX0_checkRanges_47 (by decide) ?_
    refine z_le (tgt := 58) hx hb dX0_checkRanges_49 (by decide) (by omega) (by omega) (fun c_4 => ?_) (fun c_4 => ?_)
    · skip
      exact z_vret hx hb hr hlk hP hD hS dX0_checkRanges_58 rfl
    · skip
      refine lv_aload_n hx hb dX0_checkRanges_52 rfl (lv_at hl 0 rfl) ?_
      refine lv_iconst (v := nI 2) hx hb dX0_checkRanges_53 (by decide) ?_
      refine lv_iconst (v := nI 3) hx hb dX0_checkRanges_54 (by decide) ?_
      refine z_callVV (As := [.int (nI 2), .int (nI 3)]) (rest := []) (wr := []) (C := RX0) F (c_X0_fail_nz l G q d (nup (nup P 1 2) 2 1) (2) (3) (show ¬ 2 = 0 by decide) (show 2 ≤ 3 by decide)) (cwV 2 hts gX0_checkRanges_X0_fail rfl rfl rfl (by decide +kernel) ⟨Nat.le_of_ble_eq_true rfl, Nat.le_of_ble_eq_true rfl⟩) hKK (z_recv hKK hP (q0 := 0) (ci := 0) rfl rfl) hP hD hS hA rfl hl.1 rfl (Nat.le_of_ble_eq_true rfl) ⟨Nat.zero_le _, Nat.zero_le _⟩ dX0_checkRanges_55 (fun H locs hP hD hS => ?_)
      have hP : va_P G.1 vwCl (playW G q d (nup (nup P 1 2) 2 1)) H := hP
      have hD : va_D A (playW G q d (nup (nup P 1 2) 2 1)) := hD
      exact z_vret hx hb hr hlk hP hD hS dX0_checkRanges_58 rfl
  · skip
    refine lv_aload_n hx hb dX0_checkRanges_37 rfl (lv_at hl 0 rfl) ?_
    refine lv_iconst (v := nI 2) hx hb dX0_checkRanges_38 (by decide) ?_
    refine lv_iconst (v := nI 2) hx hb dX0_checkRanges_39 (by decide) ?_
    refine z_callVV (As := [.int (nI 2), .int (nI 2)]) (rest := []) (wr := []) (C := RX0) F (c_X0_fail_nz l G q d (nup (nup P 1 2) 2 1) (2) (2) (show ¬ 2 = 0 by decide) (show 2 ≤ 3 by decide)) (cwV 2 hts gX0_checkRanges_X0_fail rfl rfl rfl (by decide +kernel) ⟨Nat.le_of_ble_eq_true rfl, Nat.le_of_ble_eq_true rfl⟩) hKK (z_recv hKK hP (q0 := 0) (ci := 0) rfl rfl) hP hD hS hA rfl hl.1 rfl (Nat.le_of_ble_eq_true rfl) ⟨Nat.zero_le _, Nat.zero_le _⟩ dX0_checkRanges_40 (fun H locs hP hD hS => ?_)
    have hP : va_P G.1 vwCl (playW G q d (nup (nup P 1 2) 2 1)) H := hP
    have hD : va_D A (playW G q d (nup (nup P 1 2) 2 1)) := hD
    refine lv_aload_n hx hb dX0_checkRanges_43 rfl (lv_at hl 0 rfl) ?_
    refine va_get (D := G.1) (ci := 0) (v := .int (nI (P 9))) (C := RX0) (T := TX0) (N := 12) hx hb hts hinX0 hown hKK.1 hP 0 rfl rfl 10 (by decide) fl_67 (fun _ h9 => h9) rfl dX0_checkRanges_44 ?_
    refine lv_bipush (v := nI 6) hx hb dX0_checkRanges_47 (by decide) ?_
    refine z_le (tgt := 58) hx hb dX0_checkRanges_49 (by decide) (by omega) (by omega) (fun c_5 => ?_) (fun c_5 => ?_)
    · skip
      exact z_vret hx hb hr hlk hP hD hS dX0_checkRanges_58 rfl
    · skip
      refine lv_aload_n hx hb dX0_checkRanges_52 rfl (lv_at hl 0 rfl) ?_
      refine lv_iconst (v := nI 2) hx hb dX0_checkRanges_53 (by decide) ?_
      refine lv_iconst (v := nI 3) hx hb dX0_checkRanges_54 (by decide) ?_
      refine z_callVV (As := [.int (nI 2), .int (nI 3)]) (rest := []) (wr := []) (C := RX0) F (c_X0_fail_nz l G q d (nup (nup P 1 2) 2 1) (2) (3) (show ¬ 2 = 0 by decide) (show 2 ≤ 3 by decide)) (cwV 2 hts gX0_checkRanges_X0_fail rfl rfl rfl (by decide +kernel) ⟨Nat.le_of_ble_eq_true rfl, Nat.le_of_ble_eq_true rfl⟩) hKK (z_recv hKK hP (q0 := 0) (ci := 0) rfl rfl) hP hD hS hA rfl hl.1 rfl (Nat.le_of_ble_eq_true rfl) ⟨Nat.zero_le _, Nat.zero_le _⟩ dX0_checkRanges_55 (fun H locs hP hD hS => ?_)
      have hP : va_P G.1 vwCl (playW G q d (nup (nup P 1 2) 2 1)) H := hP
      have hD : va_D A (playW G q d (nup (nup P 1 2) 2 1)) := hD
      exact z_vret hx hb hr hlk hP hD hS dX0_checkRanges_58 rfl

set_option maxHeartbeats 4000000 in
set_option maxRecDepth 100000 in
theorem c_X0_checkRanges_s2 (l : Launch) (G : ZG) (q d : Nat) (P : Nat → Nat) (h1 : P 1 = 0) (b6 : P 6 ≤ 100) (b7 : P 7 ≤ 100) (b8 : P 8 ≤ 100) (b9 : P 9 ≤ 100) (g6 : P 6 < 3) (g7 : P 7 < 6) (g8 : 3 ≤ P 8) : CV l G yX0_checkRanges wsX0_checkRanges (zRm 1 22) [.ref q] (playW G q d P) (playW G q d (nup (nup P 1 2) 2 2)) := by
  refine CV.ent (cc := cX0_checkRanges) (maxL := 1) (own := RX0) (by decide) rfl rfl (Nat.le_of_ble_eq_true rfl) ?_
  intro p ee s m args below meth c A ls F hr hlk hKK hP hD hA hS hl
  obtain ⟨hx, hb, hml, hown, hts⟩ := id F
  have hl : lv_has ls 1 [(0, .ref q)] := hl
  have fl_58 := hts (.fieldLink RX0 58 "NameRolls$Player" "table" "I") (by decide +kernel)
  have fl_61 := hts (.fieldLink RX0 61 "NameRolls$Player" "cell" "I") (by decide +kernel)
  have fl_64 := hts (.fieldLink RX0 64 "NameRolls$Player" "rule" "I") (by decide +kernel)
  have fl_67 := hts (.fieldLink RX0 67 "NameRolls$Player" "letters" "I") (by decide +kernel)
  have hinX0 : ∀ w ∈ wsX00, w ∈ wsX0_checkRanges := by decide +kernel
  refine lv_aload_n hx hb dX0_checkRanges_0 rfl (lv_at hl 0 rfl) ?_
  refine va_get (D := G.1) (ci := 0) (v := .int (nI (P 6))) (C := RX0) (T := TX0) (N := 12) hx hb hts hinX0 hown hKK.1 hP 0 rfl rfl 7 (by decide) fl_58 (fun _ h9 => h9) rfl dX0_checkRanges_1 ?_
  refine lv_iconst (v := nI 3) hx hb dX0_checkRanges_4 (by decide) ?_
  refine z_lt (tgt := 14) hx hb dX0_checkRanges_5 (by decide) (by omega) (by omega) (fun c_1 => ?_) (fun c_1 => absurd c_1 (by omega))
  refine lv_aload_n hx hb dX0_checkRanges_14 rfl (lv_at hl 0 rfl) ?_
  refine va_get (D := G.1) (ci := 0) (v := .int (nI (P 7))) (C := RX0) (T := TX0) (N := 12) hx hb hts hinX0 hown hKK.1 hP 0 rfl rfl 8 (by decide) fl_61 (fun _ h9 => h9) rfl dX0_checkRanges_15 ?_
  refine lv_bipush (v := nI 6) hx hb dX0_checkRanges_18 (by decide) ?_
  refine z_lt (tgt := 29) hx hb dX0_checkRanges_20 (by decide) (by omega) (by omega) (fun c_2 => ?_) (fun c_2 => absurd c_2 (by omega))
  refine lv_aload_n hx hb dX0_checkRanges_29 rfl (lv_at hl 0 rfl) ?_
  refine va_get (D := G.1) (ci := 0) (v := .int (nI (P 8))) (C := RX0) (T := TX0) (N := 12) hx hb hts hinX0 hown hKK.1 hP 0 rfl rfl 9 (by decide) fl_64 (fun _ h9 => h9) rfl dX0_checkRanges_30 ?_
  refine lv_iconst (v := nI 3) hx hb dX0_checkRanges_33 (by decide) ?_
  refine z_lt (tgt := 43) hx hb dX0_checkRanges_34 (by decide) (by omega) (by omega) (fun c_3 => absurd c_3 (by omega)) (fun c_3 => ?_)
  refine lv_aload_n hx hb dX0_checkRanges_37 rfl (lv_at hl 0 rfl) ?_
  refine lv_iconst (v := nI 2) hx hb dX0_checkRanges_38 (by decide) ?_
  refine lv_iconst (v := nI 2) hx hb dX0_checkRanges_39 (by decide) ?_
  refine z_callVV (As := [.int (nI 2), .int (nI 2)]) (rest := []) (wr := []) (C := RX0) F (c_X0_fail_z l G q d P (2) (2) (by exact h1)) (cwV 2 hts gX0_checkRanges_X0_fail rfl rfl rfl (by decide +kernel) ⟨Nat.le_of_ble_eq_true rfl, Nat.le_of_ble_eq_true rfl⟩) hKK (z_recv hKK hP (q0 := 0) (ci := 0) rfl rfl) hP hD hS hA rfl hl.1 rfl (Nat.le_of_ble_eq_true rfl) ⟨Nat.zero_le _, Nat.zero_le _⟩ dX0_checkRanges_40 (fun H locs hP hD hS => ?_)
  have hP : va_P G.1 vwCl (playW G q d (nup (nup P 1 2) 2 2)) H := hP
  have hD : va_D A (playW G q d (nup (nup P 1 2) 2 2)) := hD
  refine lv_aload_n hx hb dX0_checkRanges_43 rfl (lv_at hl 0 rfl) ?_
  refine va_get (D := G.1) (ci := 0) (v := .int (nI (P 9))) (C := RX0) (T := TX0) (N := 12) hx hb hts hinX0 hown hKK.1 hP 0 rfl rfl 10 (by decide) fl_67 (fun _ h9 => h9) rfl dX0_checkRanges_44 ?_
  refine lv_bipush (v := nI 6) hx hb dX0_checkRanges_47 (by decide) ?_
  refine z_le (tgt := 58) hx hb dX0_checkRanges_49 (by decide) (by omega) (by omega) (fun c_4 => ?_) (fun c_4 => ?_)
  · skip
    exact z_vret hx hb hr hlk hP hD hS dX0_checkRanges_58 rfl
  · skip
    refine lv_aload_n hx hb dX0_checkRanges_52 rfl (lv_at hl 0 rfl) ?_
    refine lv_iconst (v := nI 2) hx hb dX0_checkRanges_53 (by decide) ?_
    refine lv_iconst (v := nI 3) hx hb dX0_checkRanges_54 (by decide) ?_
    refine z_callVV (As := [.int (nI 2), .int (nI 3)]) (rest := []) (wr := []) (C := RX0) F (c_X0_fail_nz l G q d (nup (nup P 1 2) 2 2) (2) (3) (show ¬ 2 = 0 by decide) (show 2 ≤ 3 by decide)) (cwV 2 hts gX0_checkRanges_X0_fail rfl rfl rfl (by decide +kernel) ⟨Nat.le_of_ble_eq_true rfl, Nat.le_of_ble_eq_true rfl⟩) hKK (z_recv hKK hP (q0 := 0) (ci := 0) rfl rfl) hP hD hS hA rfl hl.1 rfl (Nat.le_of_ble_eq_true rfl) ⟨Nat.zero_le _, Nat.zero_le _⟩ dX0_checkRanges_55 (fun H locs hP hD hS => ?_)
    have hP : va_P G.1 vwCl (playW G q d (nup (nup P 1 2) 2 2)) H := hP
    have hD : va_D A (playW G q d (nup (nup P 1 2) 2 2)) := hD
    exact z_vret hx hb hr hlk hP hD hS dX0_checkRanges_58 rfl

set_option maxHeartbeats 4000000 in
set_option maxRecDepth 100000 in
theorem c_X0_checkRanges_s3 (l : Launch) (G : ZG) (q d : Nat) (P : Nat → Nat) (h1 : P 1 = 0) (b6 : P 6 ≤ 100) (b7 : P 7 ≤ 100) (b8 : P 8 ≤ 100) (b9 : P 9 ≤ 100) (g6 : P 6 < 3) (g7 : P 7 < 6) (g8 : P 8 < 3) (g9 : 6 < P 9) : CV l G yX0_checkRanges wsX0_checkRanges (zRm 1 22) [.ref q] (playW G q d P) (playW G q d (nup (nup P 1 2) 2 3)) := by
  refine CV.ent (cc := cX0_checkRanges) (maxL := 1) (own := RX0) (by decide) rfl rfl (Nat.le_of_ble_eq_true rfl) ?_
  intro p ee s m args below meth c A ls F hr hlk hKK hP hD hA hS hl
  obtain ⟨hx, hb, hml, hown, hts⟩ := id F
  have hl : lv_has ls 1 [(0, .ref q)] := hl
  have fl_58 := hts (.fieldLink RX0 58 "NameRolls$Player" "table" "I") (by decide +kernel)
  have fl_61 := hts (.fieldLink RX0 61 "NameRolls$Player" "cell" "I") (by decide +kernel)
  have fl_64 := hts (.fieldLink RX0 64 "NameRolls$Player" "rule" "I") (by decide +kernel)
  have fl_67 := hts (.fieldLink RX0 67 "NameRolls$Player" "letters" "I") (by decide +kernel)
  have hinX0 : ∀ w ∈ wsX00, w ∈ wsX0_checkRanges := by decide +kernel
  refine lv_aload_n hx hb dX0_checkRanges_0 rfl (lv_at hl 0 rfl) ?_
  refine va_get (D := G.1) (ci := 0) (v := .int (nI (P 6))) (C := RX0) (T := TX0) (N := 12) hx hb hts hinX0 hown hKK.1 hP 0 rfl rfl 7 (by decide) fl_58 (fun _ h9 => h9) rfl dX0_checkRanges_1 ?_
  refine lv_iconst (v := nI 3) hx hb dX0_checkRanges_4 (by decide) ?_
  refine z_lt (tgt := 14) hx hb dX0_checkRanges_5 (by decide) (by omega) (by omega) (fun c_1 => ?_) (fun c_1 => absurd c_1 (by omega))
  refine lv_aload_n hx hb dX0_checkRanges_14 rfl (lv_at hl 0 rfl) ?_
  refine va_get (D := G.1) (ci := 0) (v := .int (nI (P 7))) (C := RX0) (T := TX0) (N := 12) hx hb hts hinX0 hown hKK.1 hP 0 rfl rfl 8 (by decide) fl_61 (fun _ h9 => h9) rfl dX0_checkRanges_15 ?_
  refine lv_bipush (v := nI 6) hx hb dX0_checkRanges_18 (by decide) ?_
  refine z_lt (tgt := 29) hx hb dX0_checkRanges_20 (by decide) (by omega) (by omega) (fun c_2 => ?_) (fun c_2 => absurd c_2 (by omega))
  refine lv_aload_n hx hb dX0_checkRanges_29 rfl (lv_at hl 0 rfl) ?_
  refine va_get (D := G.1) (ci := 0) (v := .int (nI (P 8))) (C := RX0) (T := TX0) (N := 12) hx hb hts hinX0 hown hKK.1 hP 0 rfl rfl 9 (by decide) fl_64 (fun _ h9 => h9) rfl dX0_checkRanges_30 ?_
  refine lv_iconst (v := nI 3) hx hb dX0_checkRanges_33 (by decide) ?_
  refine z_lt (tgt := 43) hx hb dX0_checkRanges_34 (by decide) (by omega) (by omega) (fun c_3 => ?_) (fun c_3 => absurd c_3 (by omega))
  refine lv_aload_n hx hb dX0_checkRanges_43 rfl (lv_at hl 0 rfl) ?_
  refine va_get (D := G.1) (ci := 0) (v := .int (nI (P 9))) (C := RX0) (T := TX0) (N := 12) hx hb hts hinX0 hown hKK.1 hP 0 rfl rfl 10 (by decide) fl_67 (fun _ h9 => h9) rfl dX0_checkRanges_44 ?_
  refine lv_bipush (v := nI 6) hx hb dX0_checkRanges_47 (by decide) ?_
  refine z_le (tgt := 58) hx hb dX0_checkRanges_49 (by decide) (by omega) (by omega) (fun c_4 => absurd c_4 (by omega)) (fun c_4 => ?_)
  refine lv_aload_n hx hb dX0_checkRanges_52 rfl (lv_at hl 0 rfl) ?_
  refine lv_iconst (v := nI 2) hx hb dX0_checkRanges_53 (by decide) ?_
  refine lv_iconst (v := nI 3) hx hb dX0_checkRanges_54 (by decide) ?_
  refine z_callVV (As := [.int (nI 2), .int (nI 3)]) (rest := []) (wr := []) (C := RX0) F (c_X0_fail_z l G q d P (2) (3) (by exact h1)) (cwV 2 hts gX0_checkRanges_X0_fail rfl rfl rfl (by decide +kernel) ⟨Nat.le_of_ble_eq_true rfl, Nat.le_of_ble_eq_true rfl⟩) hKK (z_recv hKK hP (q0 := 0) (ci := 0) rfl rfl) hP hD hS hA rfl hl.1 rfl (Nat.le_of_ble_eq_true rfl) ⟨Nat.zero_le _, Nat.zero_le _⟩ dX0_checkRanges_55 (fun H locs hP hD hS => ?_)
  have hP : va_P G.1 vwCl (playW G q d (nup (nup P 1 2) 2 3)) H := hP
  have hD : va_D A (playW G q d (nup (nup P 1 2) 2 3)) := hD
  exact z_vret hx hb hr hlk hP hD hS dX0_checkRanges_58 rfl

set_option maxHeartbeats 4000000 in
set_option maxRecDepth 100000 in
theorem c_X0_checkRanges_nz (l : Launch) (G : ZG) (q d : Nat) (P : Nat → Nat) (h1 : ¬ P 1 = 0) (h2 : P 1 ≤ 3) (b6 : P 6 ≤ 100) (b7 : P 7 ≤ 100) (b8 : P 8 ≤ 100) (b9 : P 9 ≤ 100)  : CV l G yX0_checkRanges wsX0_checkRanges (zRm 1 22) [.ref q] (playW G q d P) (playW G q d P) := by
  refine CV.ent (cc := cX0_checkRanges) (maxL := 1) (own := RX0) (by decide) rfl rfl (Nat.le_of_ble_eq_true rfl) ?_
  intro p ee s m args below meth c A ls F hr hlk hKK hP hD hA hS hl
  obtain ⟨hx, hb, hml, hown, hts⟩ := id F
  have hl : lv_has ls 1 [(0, .ref q)] := hl
  have fl_58 := hts (.fieldLink RX0 58 "NameRolls$Player" "table" "I") (by decide +kernel)
  have fl_61 := hts (.fieldLink RX0 61 "NameRolls$Player" "cell" "I") (by decide +kernel)
  have fl_64 := hts (.fieldLink RX0 64 "NameRolls$Player" "rule" "I") (by decide +kernel)
  have fl_67 := hts (.fieldLink RX0 67 "NameRolls$Player" "letters" "I") (by decide +kernel)
  have hinX0 : ∀ w ∈ wsX00, w ∈ wsX0_checkRanges := by decide +kernel
  refine lv_aload_n hx hb dX0_checkRanges_0 rfl (lv_at hl 0 rfl) ?_
  refine va_get (D := G.1) (ci := 0) (v := .int (nI (P 6))) (C := RX0) (T := TX0) (N := 12) hx hb hts hinX0 hown hKK.1 hP 0 rfl rfl 7 (by decide) fl_58 (fun _ h9 => h9) rfl dX0_checkRanges_1 ?_
  refine lv_iconst (v := nI 3) hx hb dX0_checkRanges_4 (by decide) ?_
  refine z_lt (tgt := 14) hx hb dX0_checkRanges_5 (by decide) (by omega) (by omega) (fun c_1 => ?_) (fun c_1 => ?_)
  · skip
    refine lv_aload_n hx hb dX0_checkRanges_14 rfl (lv_at hl 0 rfl) ?_
    refine va_get (D := G.1) (ci := 0) (v := .int (nI (P 7))) (C := RX0) (T := TX0) (N := 12) hx hb hts hinX0 hown hKK.1 hP 0 rfl rfl 8 (by decide) fl_61 (fun _ h9 => h9) rfl dX0_checkRanges_15 ?_
    refine lv_bipush (v := nI 6) hx hb dX0_checkRanges_18 (by decide) ?_
    refine z_lt (tgt := 29) hx hb dX0_checkRanges_20 (by decide) (by omega) (by omega) (fun c_2 => ?_) (fun c_2 => ?_)
    · skip
      refine lv_aload_n hx hb dX0_checkRanges_29 rfl (lv_at hl 0 rfl) ?_
      refine va_get (D := G.1) (ci := 0) (v := .int (nI (P 8))) (C := RX0) (T := TX0) (N := 12) hx hb hts hinX0 hown hKK.1 hP 0 rfl rfl 9 (by decide) fl_64 (fun _ h9 => h9) rfl dX0_checkRanges_30 ?_
      refine lv_iconst (v := nI 3) hx hb dX0_checkRanges_33 (by decide) ?_
      refine z_lt (tgt := 43) hx hb dX0_checkRanges_34 (by decide) (by omega) (by omega) (fun c_3 => ?_) (fun c_3 => ?_)
      · skip
        refine lv_aload_n hx hb dX0_checkRanges_43 rfl (lv_at hl 0 rfl) ?_
        refine va_get (D := G.1) (ci := 0) (v := .int (nI (P 9))) (C := RX0) (T := TX0) (N := 12) hx hb hts hinX0 hown hKK.1 hP 0 rfl rfl 10 (by decide) fl_67 (fun _ h9 => h9) rfl dX0_checkRanges_44 ?_
        refine lv_bipush (v := nI 6) hx hb dX0_checkRanges_47 (by decide) ?_
        refine z_le (tgt := 58) hx hb dX0_checkRanges_49 (by decide) (by omega) (by omega) (fun c_4 => ?_) (fun c_4 => ?_)
        · skip
          exact z_vret hx hb hr hlk hP hD hS dX0_checkRanges_58 rfl
        · skip
          refine lv_aload_n hx hb dX0_checkRanges_52 rfl (lv_at hl 0 rfl) ?_
          refine lv_iconst (v := nI 2) hx hb dX0_checkRanges_53 (by decide) ?_
          refine lv_iconst (v := nI 3) hx hb dX0_checkRanges_54 (by decide) ?_
          refine z_callVV (As := [.int (nI 2), .int (nI 3)]) (rest := []) (wr := []) (C := RX0) F (c_X0_fail_nz l G q d P (2) (3) (by exact h1) (by exact h2)) (cwV 2 hts gX0_checkRanges_X0_fail rfl rfl rfl (by decide +kernel) ⟨Nat.le_of_ble_eq_true rfl, Nat.le_of_ble_eq_true rfl⟩) hKK (z_recv hKK hP (q0 := 0) (ci := 0) rfl rfl) hP hD hS hA rfl hl.1 rfl (Nat.le_of_ble_eq_true rfl) ⟨Nat.zero_le _, Nat.zero_le _⟩ dX0_checkRanges_55 (fun H locs hP hD hS => ?_)
          have hP : va_P G.1 vwCl (playW G q d P) H := hP
          have hD : va_D A (playW G q d P) := hD
          exact z_vret hx hb hr hlk hP hD hS dX0_checkRanges_58 rfl
      · skip
        refine lv_aload_n hx hb dX0_checkRanges_37 rfl (lv_at hl 0 rfl) ?_
        refine lv_iconst (v := nI 2) hx hb dX0_checkRanges_38 (by decide) ?_
        refine lv_iconst (v := nI 2) hx hb dX0_checkRanges_39 (by decide) ?_
        refine z_callVV (As := [.int (nI 2), .int (nI 2)]) (rest := []) (wr := []) (C := RX0) F (c_X0_fail_nz l G q d P (2) (2) (by exact h1) (by exact h2)) (cwV 2 hts gX0_checkRanges_X0_fail rfl rfl rfl (by decide +kernel) ⟨Nat.le_of_ble_eq_true rfl, Nat.le_of_ble_eq_true rfl⟩) hKK (z_recv hKK hP (q0 := 0) (ci := 0) rfl rfl) hP hD hS hA rfl hl.1 rfl (Nat.le_of_ble_eq_true rfl) ⟨Nat.zero_le _, Nat.zero_le _⟩ dX0_checkRanges_40 (fun H locs hP hD hS => ?_)
        have hP : va_P G.1 vwCl (playW G q d P) H := hP
        have hD : va_D A (playW G q d P) := hD
        refine lv_aload_n hx hb dX0_checkRanges_43 rfl (lv_at hl 0 rfl) ?_
        refine va_get (D := G.1) (ci := 0) (v := .int (nI (P 9))) (C := RX0) (T := TX0) (N := 12) hx hb hts hinX0 hown hKK.1 hP 0 rfl rfl 10 (by decide) fl_67 (fun _ h9 => h9) rfl dX0_checkRanges_44 ?_
        refine lv_bipush (v := nI 6) hx hb dX0_checkRanges_47 (by decide) ?_
        refine z_le (tgt := 58) hx hb dX0_checkRanges_49 (by decide) (by omega) (by omega) (fun c_5 => ?_) (fun c_5 => ?_)
        · skip
          exact z_vret hx hb hr hlk hP hD hS dX0_checkRanges_58 rfl
        · skip
          refine lv_aload_n hx hb dX0_checkRanges_52 rfl (lv_at hl 0 rfl) ?_
          refine lv_iconst (v := nI 2) hx hb dX0_checkRanges_53 (by decide) ?_
          refine lv_iconst (v := nI 3) hx hb dX0_checkRanges_54 (by decide) ?_
          refine z_callVV (As := [.int (nI 2), .int (nI 3)]) (rest := []) (wr := []) (C := RX0) F (c_X0_fail_nz l G q d P (2) (3) (by exact h1) (by exact h2)) (cwV 2 hts gX0_checkRanges_X0_fail rfl rfl rfl (by decide +kernel) ⟨Nat.le_of_ble_eq_true rfl, Nat.le_of_ble_eq_true rfl⟩) hKK (z_recv hKK hP (q0 := 0) (ci := 0) rfl rfl) hP hD hS hA rfl hl.1 rfl (Nat.le_of_ble_eq_true rfl) ⟨Nat.zero_le _, Nat.zero_le _⟩ dX0_checkRanges_55 (fun H locs hP hD hS => ?_)
          have hP : va_P G.1 vwCl (playW G q d P) H := hP
          have hD : va_D A (playW G q d P) := hD
          exact z_vret hx hb hr hlk hP hD hS dX0_checkRanges_58 rfl
    · skip
      refine lv_aload_n hx hb dX0_checkRanges_23 rfl (lv_at hl 0 rfl) ?_
      refine lv_iconst (v := nI 2) hx hb dX0_checkRanges_24 (by decide) ?_
      refine lv_iconst (v := nI 1) hx hb dX0_checkRanges_25 (by decide) ?_
      refine z_callVV (As := [.int (nI 2), .int (nI 1)]) (rest := []) (wr := []) (C := RX0) F (c_X0_fail_nz l G q d P (2) (1) (by exact h1) (by exact h2)) (cwV 2 hts gX0_checkRanges_X0_fail rfl rfl rfl (by decide +kernel) ⟨Nat.le_of_ble_eq_true rfl, Nat.le_of_ble_eq_true rfl⟩) hKK (z_recv hKK hP (q0 := 0) (ci := 0) rfl rfl) hP hD hS hA rfl hl.1 rfl (Nat.le_of_ble_eq_true rfl) ⟨Nat.zero_le _, Nat.zero_le _⟩ dX0_checkRanges_26 (fun H locs hP hD hS => ?_)
      have hP : va_P G.1 vwCl (playW G q d P) H := hP
      have hD : va_D A (playW G q d P) := hD
      refine lv_aload_n hx hb dX0_checkRanges_29 rfl (lv_at hl 0 rfl) ?_
      refine va_get (D := G.1) (ci := 0) (v := .int (nI (P 8))) (C := RX0) (T := TX0) (N := 12) hx hb hts hinX0 hown hKK.1 hP 0 rfl rfl 9 (by decide) fl_64 (fun _ h9 => h9) rfl dX0_checkRanges_30 ?_
      refine lv_iconst (v := nI 3) hx hb dX0_checkRanges_33 (by decide) ?_
      refine z_lt (tgt := 43) hx hb dX0_checkRanges_34 (by decide) (by omega) (by omega) (fun c_6 => ?_) (fun c_6 => ?_)
      · skip
        refine lv_aload_n hx hb dX0_checkRanges_43 rfl (lv_at hl 0 rfl) ?_
        refine va_get (D := G.1) (ci := 0) (v := .int (nI (P 9))) (C := RX0) (T := TX0) (N := 12) hx hb hts hinX0 hown hKK.1 hP 0 rfl rfl 10 (by decide) fl_67 (fun _ h9 => h9) rfl dX0_checkRanges_44 ?_
        refine lv_bipush (v := nI 6) hx hb dX0_checkRanges_47 (by decide) ?_
        refine z_le (tgt := 58) hx hb dX0_checkRanges_49 (by decide) (by omega) (by omega) (fun c_7 => ?_) (fun c_7 => ?_)
        · skip
          exact z_vret hx hb hr hlk hP hD hS dX0_checkRanges_58 rfl
        · skip
          refine lv_aload_n hx hb dX0_checkRanges_52 rfl (lv_at hl 0 rfl) ?_
          refine lv_iconst (v := nI 2) hx hb dX0_checkRanges_53 (by decide) ?_
          refine lv_iconst (v := nI 3) hx hb dX0_checkRanges_54 (by decide) ?_
          refine z_callVV (As := [.int (nI 2), .int (nI 3)]) (rest := []) (wr := []) (C := RX0) F (c_X0_fail_nz l G q d P (2) (3) (by exact h1) (by exact h2)) (cwV 2 hts gX0_checkRanges_X0_fail rfl rfl rfl (by decide +kernel) ⟨Nat.le_of_ble_eq_true rfl, Nat.le_of_ble_eq_true rfl⟩) hKK (z_recv hKK hP (q0 := 0) (ci := 0) rfl rfl) hP hD hS hA rfl hl.1 rfl (Nat.le_of_ble_eq_true rfl) ⟨Nat.zero_le _, Nat.zero_le _⟩ dX0_checkRanges_55 (fun H locs hP hD hS => ?_)
          have hP : va_P G.1 vwCl (playW G q d P) H := hP
          have hD : va_D A (playW G q d P) := hD
          exact z_vret hx hb hr hlk hP hD hS dX0_checkRanges_58 rfl
      · skip
        refine lv_aload_n hx hb dX0_checkRanges_37 rfl (lv_at hl 0 rfl) ?_
        refine lv_iconst (v := nI 2) hx hb dX0_checkRanges_38 (by decide) ?_
        refine lv_iconst (v := nI 2) hx hb dX0_checkRanges_39 (by decide) ?_
        refine z_callVV (As := [.int (nI 2), .int (nI 2)]) (rest := []) (wr := []) (C := RX0) F (c_X0_fail_nz l G q d P (2) (2) (by exact h1) (by exact h2)) (cwV 2 hts gX0_checkRanges_X0_fail rfl rfl rfl (by decide +kernel) ⟨Nat.le_of_ble_eq_true rfl, Nat.le_of_ble_eq_true rfl⟩) hKK (z_recv hKK hP (q0 := 0) (ci := 0) rfl rfl) hP hD hS hA rfl hl.1 rfl (Nat.le_of_ble_eq_true rfl) ⟨Nat.zero_le _, Nat.zero_le _⟩ dX0_checkRanges_40 (fun H locs hP hD hS => ?_)
        have hP : va_P G.1 vwCl (playW G q d P) H := hP
        have hD : va_D A (playW G q d P) := hD
        refine lv_aload_n hx hb dX0_checkRanges_43 rfl (lv_at hl 0 rfl) ?_
        refine va_get (D := G.1) (ci := 0) (v := .int (nI (P 9))) (C := RX0) (T := TX0) (N := 12) hx hb hts hinX0 hown hKK.1 hP 0 rfl rfl 10 (by decide) fl_67 (fun _ h9 => h9) rfl dX0_checkRanges_44 ?_
        refine lv_bipush (v := nI 6) hx hb dX0_checkRanges_47 (by decide) ?_
        refine z_le (tgt := 58) hx hb dX0_checkRanges_49 (by decide) (by omega) (by omega) (fun c_8 => ?_) (fun c_8 => ?_)
        · skip
          exact z_vret hx hb hr hlk hP hD hS dX0_checkRanges_58 rfl
        · skip
          refine lv_aload_n hx hb dX0_checkRanges_52 rfl (lv_at hl 0 rfl) ?_
          refine lv_iconst (v := nI 2) hx hb dX0_checkRanges_53 (by decide) ?_
          refine lv_iconst (v := nI 3) hx hb dX0_checkRanges_54 (by decide) ?_
          refine z_callVV (As := [.int (nI 2), .int (nI 3)]) (rest := []) (wr := []) (C := RX0) F (c_X0_fail_nz l G q d P (2) (3) (by exact h1) (by exact h2)) (cwV 2 hts gX0_checkRanges_X0_fail rfl rfl rfl (by decide +kernel) ⟨Nat.le_of_ble_eq_true rfl, Nat.le_of_ble_eq_true rfl⟩) hKK (z_recv hKK hP (q0 := 0) (ci := 0) rfl rfl) hP hD hS hA rfl hl.1 rfl (Nat.le_of_ble_eq_true rfl) ⟨Nat.zero_le _, Nat.zero_le _⟩ dX0_checkRanges_55 (fun H locs hP hD hS => ?_)
          have hP : va_P G.1 vwCl (playW G q d P) H := hP
          have hD : va_D A (playW G q d P) := hD
          exact z_vret hx hb hr hlk hP hD hS dX0_checkRanges_58 rfl
  · skip
    refine lv_aload_n hx hb dX0_checkRanges_8 rfl (lv_at hl 0 rfl) ?_
    refine lv_iconst (v := nI 2) hx hb dX0_checkRanges_9 (by decide) ?_
    refine lv_iconst (v := nI 0) hx hb dX0_checkRanges_10 (by decide) ?_
    refine z_callVV (As := [.int (nI 2), .int (nI 0)]) (rest := []) (wr := []) (C := RX0) F (c_X0_fail_nz l G q d P (2) (0) (by exact h1) (by exact h2)) (cwV 2 hts gX0_checkRanges_X0_fail rfl rfl rfl (by decide +kernel) ⟨Nat.le_of_ble_eq_true rfl, Nat.le_of_ble_eq_true rfl⟩) hKK (z_recv hKK hP (q0 := 0) (ci := 0) rfl rfl) hP hD hS hA rfl hl.1 rfl (Nat.le_of_ble_eq_true rfl) ⟨Nat.zero_le _, Nat.zero_le _⟩ dX0_checkRanges_11 (fun H locs hP hD hS => ?_)
    have hP : va_P G.1 vwCl (playW G q d P) H := hP
    have hD : va_D A (playW G q d P) := hD
    refine lv_aload_n hx hb dX0_checkRanges_14 rfl (lv_at hl 0 rfl) ?_
    refine va_get (D := G.1) (ci := 0) (v := .int (nI (P 7))) (C := RX0) (T := TX0) (N := 12) hx hb hts hinX0 hown hKK.1 hP 0 rfl rfl 8 (by decide) fl_61 (fun _ h9 => h9) rfl dX0_checkRanges_15 ?_
    refine lv_bipush (v := nI 6) hx hb dX0_checkRanges_18 (by decide) ?_
    refine z_lt (tgt := 29) hx hb dX0_checkRanges_20 (by decide) (by omega) (by omega) (fun c_9 => ?_) (fun c_9 => ?_)
    · skip
      refine lv_aload_n hx hb dX0_checkRanges_29 rfl (lv_at hl 0 rfl) ?_
      refine va_get (D := G.1) (ci := 0) (v := .int (nI (P 8))) (C := RX0) (T := TX0) (N := 12) hx hb hts hinX0 hown hKK.1 hP 0 rfl rfl 9 (by decide) fl_64 (fun _ h9 => h9) rfl dX0_checkRanges_30 ?_
      refine lv_iconst (v := nI 3) hx hb dX0_checkRanges_33 (by decide) ?_
      refine z_lt (tgt := 43) hx hb dX0_checkRanges_34 (by decide) (by omega) (by omega) (fun c_10 => ?_) (fun c_10 => ?_)
      · skip
        refine lv_aload_n hx hb dX0_checkRanges_43 rfl (lv_at hl 0 rfl) ?_
        refine va_get (D := G.1) (ci := 0) (v := .int (nI (P 9))) (C := RX0) (T := TX0) (N := 12) hx hb hts hinX0 hown hKK.1 hP 0 rfl rfl 10 (by decide) fl_67 (fun _ h9 => h9) rfl dX0_checkRanges_44 ?_
        refine lv_bipush (v := nI 6) hx hb dX0_checkRanges_47 (by decide) ?_
        refine z_le (tgt := 58) hx hb dX0_checkRanges_49 (by decide) (by omega) (by omega) (fun c_11 => ?_) (fun c_11 => ?_)
        · skip
          exact z_vret hx hb hr hlk hP hD hS dX0_checkRanges_58 rfl
        · skip
          refine lv_aload_n hx hb dX0_checkRanges_52 rfl (lv_at hl 0 rfl) ?_
          refine lv_iconst (v := nI 2) hx hb dX0_checkRanges_53 (by decide) ?_
          refine lv_iconst (v := nI 3) hx hb dX0_checkRanges_54 (by decide) ?_
          refine z_callVV (As := [.int (nI 2), .int (nI 3)]) (rest := []) (wr := []) (C := RX0) F (c_X0_fail_nz l G q d P (2) (3) (by exact h1) (by exact h2)) (cwV 2 hts gX0_checkRanges_X0_fail rfl rfl rfl (by decide +kernel) ⟨Nat.le_of_ble_eq_true rfl, Nat.le_of_ble_eq_true rfl⟩) hKK (z_recv hKK hP (q0 := 0) (ci := 0) rfl rfl) hP hD hS hA rfl hl.1 rfl (Nat.le_of_ble_eq_true rfl) ⟨Nat.zero_le _, Nat.zero_le _⟩ dX0_checkRanges_55 (fun H locs hP hD hS => ?_)
          have hP : va_P G.1 vwCl (playW G q d P) H := hP
          have hD : va_D A (playW G q d P) := hD
          exact z_vret hx hb hr hlk hP hD hS dX0_checkRanges_58 rfl
      · skip
        refine lv_aload_n hx hb dX0_checkRanges_37 rfl (lv_at hl 0 rfl) ?_
        refine lv_iconst (v := nI 2) hx hb dX0_checkRanges_38 (by decide) ?_
        refine lv_iconst (v := nI 2) hx hb dX0_checkRanges_39 (by decide) ?_
        refine z_callVV (As := [.int (nI 2), .int (nI 2)]) (rest := []) (wr := []) (C := RX0) F (c_X0_fail_nz l G q d P (2) (2) (by exact h1) (by exact h2)) (cwV 2 hts gX0_checkRanges_X0_fail rfl rfl rfl (by decide +kernel) ⟨Nat.le_of_ble_eq_true rfl, Nat.le_of_ble_eq_true rfl⟩) hKK (z_recv hKK hP (q0 := 0) (ci := 0) rfl rfl) hP hD hS hA rfl hl.1 rfl (Nat.le_of_ble_eq_true rfl) ⟨Nat.zero_le _, Nat.zero_le _⟩ dX0_checkRanges_40 (fun H locs hP hD hS => ?_)
        have hP : va_P G.1 vwCl (playW G q d P) H := hP
        have hD : va_D A (playW G q d P) := hD
        refine lv_aload_n hx hb dX0_checkRanges_43 rfl (lv_at hl 0 rfl) ?_
        refine va_get (D := G.1) (ci := 0) (v := .int (nI (P 9))) (C := RX0) (T := TX0) (N := 12) hx hb hts hinX0 hown hKK.1 hP 0 rfl rfl 10 (by decide) fl_67 (fun _ h9 => h9) rfl dX0_checkRanges_44 ?_
        refine lv_bipush (v := nI 6) hx hb dX0_checkRanges_47 (by decide) ?_
        refine z_le (tgt := 58) hx hb dX0_checkRanges_49 (by decide) (by omega) (by omega) (fun c_12 => ?_) (fun c_12 => ?_)
        · skip
          exact z_vret hx hb hr hlk hP hD hS dX0_checkRanges_58 rfl
        · skip
          refine lv_aload_n hx hb dX0_checkRanges_52 rfl (lv_at hl 0 rfl) ?_
          refine lv_iconst (v := nI 2) hx hb dX0_checkRanges_53 (by decide) ?_
          refine lv_iconst (v := nI 3) hx hb dX0_checkRanges_54 (by decide) ?_
          refine z_callVV (As := [.int (nI 2), .int (nI 3)]) (rest := []) (wr := []) (C := RX0) F (c_X0_fail_nz l G q d P (2) (3) (by exact h1) (by exact h2)) (cwV 2 hts gX0_checkRanges_X0_fail rfl rfl rfl (by decide +kernel) ⟨Nat.le_of_ble_eq_true rfl, Nat.le_of_ble_eq_true rfl⟩) hKK (z_recv hKK hP (q0 := 0) (ci := 0) rfl rfl) hP hD hS hA rfl hl.1 rfl (Nat.le_of_ble_eq_true rfl) ⟨Nat.zero_le _, Nat.zero_le _⟩ dX0_checkRanges_55 (fun H locs hP hD hS => ?_)
          have hP : va_P G.1 vwCl (playW G q d P) H := hP
          have hD : va_D A (playW G q d P) := hD
          exact z_vret hx hb hr hlk hP hD hS dX0_checkRanges_58 rfl
    · skip
      refine lv_aload_n hx hb dX0_checkRanges_23 rfl (lv_at hl 0 rfl) ?_
      refine lv_iconst (v := nI 2) hx hb dX0_checkRanges_24 (by decide) ?_
      refine lv_iconst (v := nI 1) hx hb dX0_checkRanges_25 (by decide) ?_
      refine z_callVV (As := [.int (nI 2), .int (nI 1)]) (rest := []) (wr := []) (C := RX0) F (c_X0_fail_nz l G q d P (2) (1) (by exact h1) (by exact h2)) (cwV 2 hts gX0_checkRanges_X0_fail rfl rfl rfl (by decide +kernel) ⟨Nat.le_of_ble_eq_true rfl, Nat.le_of_ble_eq_true rfl⟩) hKK (z_recv hKK hP (q0 := 0) (ci := 0) rfl rfl) hP hD hS hA rfl hl.1 rfl (Nat.le_of_ble_eq_true rfl) ⟨Nat.zero_le _, Nat.zero_le _⟩ dX0_checkRanges_26 (fun H locs hP hD hS => ?_)
      have hP : va_P G.1 vwCl (playW G q d P) H := hP
      have hD : va_D A (playW G q d P) := hD
      refine lv_aload_n hx hb dX0_checkRanges_29 rfl (lv_at hl 0 rfl) ?_
      refine va_get (D := G.1) (ci := 0) (v := .int (nI (P 8))) (C := RX0) (T := TX0) (N := 12) hx hb hts hinX0 hown hKK.1 hP 0 rfl rfl 9 (by decide) fl_64 (fun _ h9 => h9) rfl dX0_checkRanges_30 ?_
      refine lv_iconst (v := nI 3) hx hb dX0_checkRanges_33 (by decide) ?_
      refine z_lt (tgt := 43) hx hb dX0_checkRanges_34 (by decide) (by omega) (by omega) (fun c_13 => ?_) (fun c_13 => ?_)
      · skip
        refine lv_aload_n hx hb dX0_checkRanges_43 rfl (lv_at hl 0 rfl) ?_
        refine va_get (D := G.1) (ci := 0) (v := .int (nI (P 9))) (C := RX0) (T := TX0) (N := 12) hx hb hts hinX0 hown hKK.1 hP 0 rfl rfl 10 (by decide) fl_67 (fun _ h9 => h9) rfl dX0_checkRanges_44 ?_
        refine lv_bipush (v := nI 6) hx hb dX0_checkRanges_47 (by decide) ?_
        refine z_le (tgt := 58) hx hb dX0_checkRanges_49 (by decide) (by omega) (by omega) (fun c_14 => ?_) (fun c_14 => ?_)
        · skip
          exact z_vret hx hb hr hlk hP hD hS dX0_checkRanges_58 rfl
        · skip
          refine lv_aload_n hx hb dX0_checkRanges_52 rfl (lv_at hl 0 rfl) ?_
          refine lv_iconst (v := nI 2) hx hb dX0_checkRanges_53 (by decide) ?_
          refine lv_iconst (v := nI 3) hx hb dX0_checkRanges_54 (by decide) ?_
          refine z_callVV (As := [.int (nI 2), .int (nI 3)]) (rest := []) (wr := []) (C := RX0) F (c_X0_fail_nz l G q d P (2) (3) (by exact h1) (by exact h2)) (cwV 2 hts gX0_checkRanges_X0_fail rfl rfl rfl (by decide +kernel) ⟨Nat.le_of_ble_eq_true rfl, Nat.le_of_ble_eq_true rfl⟩) hKK (z_recv hKK hP (q0 := 0) (ci := 0) rfl rfl) hP hD hS hA rfl hl.1 rfl (Nat.le_of_ble_eq_true rfl) ⟨Nat.zero_le _, Nat.zero_le _⟩ dX0_checkRanges_55 (fun H locs hP hD hS => ?_)
          have hP : va_P G.1 vwCl (playW G q d P) H := hP
          have hD : va_D A (playW G q d P) := hD
          exact z_vret hx hb hr hlk hP hD hS dX0_checkRanges_58 rfl
      · skip
        refine lv_aload_n hx hb dX0_checkRanges_37 rfl (lv_at hl 0 rfl) ?_
        refine lv_iconst (v := nI 2) hx hb dX0_checkRanges_38 (by decide) ?_
        refine lv_iconst (v := nI 2) hx hb dX0_checkRanges_39 (by decide) ?_
        refine z_callVV (As := [.int (nI 2), .int (nI 2)]) (rest := []) (wr := []) (C := RX0) F (c_X0_fail_nz l G q d P (2) (2) (by exact h1) (by exact h2)) (cwV 2 hts gX0_checkRanges_X0_fail rfl rfl rfl (by decide +kernel) ⟨Nat.le_of_ble_eq_true rfl, Nat.le_of_ble_eq_true rfl⟩) hKK (z_recv hKK hP (q0 := 0) (ci := 0) rfl rfl) hP hD hS hA rfl hl.1 rfl (Nat.le_of_ble_eq_true rfl) ⟨Nat.zero_le _, Nat.zero_le _⟩ dX0_checkRanges_40 (fun H locs hP hD hS => ?_)
        have hP : va_P G.1 vwCl (playW G q d P) H := hP
        have hD : va_D A (playW G q d P) := hD
        refine lv_aload_n hx hb dX0_checkRanges_43 rfl (lv_at hl 0 rfl) ?_
        refine va_get (D := G.1) (ci := 0) (v := .int (nI (P 9))) (C := RX0) (T := TX0) (N := 12) hx hb hts hinX0 hown hKK.1 hP 0 rfl rfl 10 (by decide) fl_67 (fun _ h9 => h9) rfl dX0_checkRanges_44 ?_
        refine lv_bipush (v := nI 6) hx hb dX0_checkRanges_47 (by decide) ?_
        refine z_le (tgt := 58) hx hb dX0_checkRanges_49 (by decide) (by omega) (by omega) (fun c_15 => ?_) (fun c_15 => ?_)
        · skip
          exact z_vret hx hb hr hlk hP hD hS dX0_checkRanges_58 rfl
        · skip
          refine lv_aload_n hx hb dX0_checkRanges_52 rfl (lv_at hl 0 rfl) ?_
          refine lv_iconst (v := nI 2) hx hb dX0_checkRanges_53 (by decide) ?_
          refine lv_iconst (v := nI 3) hx hb dX0_checkRanges_54 (by decide) ?_
          refine z_callVV (As := [.int (nI 2), .int (nI 3)]) (rest := []) (wr := []) (C := RX0) F (c_X0_fail_nz l G q d P (2) (3) (by exact h1) (by exact h2)) (cwV 2 hts gX0_checkRanges_X0_fail rfl rfl rfl (by decide +kernel) ⟨Nat.le_of_ble_eq_true rfl, Nat.le_of_ble_eq_true rfl⟩) hKK (z_recv hKK hP (q0 := 0) (ci := 0) rfl rfl) hP hD hS hA rfl hl.1 rfl (Nat.le_of_ble_eq_true rfl) ⟨Nat.zero_le _, Nat.zero_le _⟩ dX0_checkRanges_55 (fun H locs hP hD hS => ?_)
          have hP : va_P G.1 vwCl (playW G q d P) H := hP
          have hD : va_D A (playW G q d P) := hD
          exact z_vret hx hb hr hlk hP hD hS dX0_checkRanges_58 rfl

set_option maxHeartbeats 4000000 in
set_option maxRecDepth 100000 in
theorem c_X0_readOrder (l : Launch) (G : ZG) (q d : Nat) (P : Nat → Nat) (b : Nat → Nat) (t : Mem) (L : Nat → Nat) (hp4 : P 4 ≤ 60) (hs34 : P 3 = P 4) (h1 : P 1 = 0) (tl : Nat) (hL : L 0 = tl) (hL6 : tl ≤ 60) (hT : okTx (t 0)) : CVE l G yX0_readOrder wsX0_readOrder (zRm 3 65) [.ref q, .ref (b 0)] (playW G q d P ++ textW G b t L) (S := Nat → Nat) (roPost (sgT (t 0) tl) P) (fun u => playW G q d u ++ textW G b t L) := by
  refine CVE.ent (cc := cX0_readOrder) (maxL := 2) (own := RX0) (by decide) rfl rfl (Nat.le_of_ble_eq_true rfl) ?_
  intro p ee s m args below meth c A ls F hr hlk hKK hP hD hA hS hl
  obtain ⟨hx, hb, hml, hown, hts⟩ := id F
  have hl : lv_has ls 2 [(0, .ref q), (1, .ref (b 0))] := hl
  have fl_29 := hts (.fieldLink RX0 29 "NameRolls$Player" "at" "I") (by decide +kernel)
  have fl_54 := hts (.fieldLink RX0 54 "NameRolls$Player" "kind" "C") (by decide +kernel)
  have fl_58 := hts (.fieldLink RX0 58 "NameRolls$Player" "table" "I") (by decide +kernel)
  have fl_61 := hts (.fieldLink RX0 61 "NameRolls$Player" "cell" "I") (by decide +kernel)
  have fl_64 := hts (.fieldLink RX0 64 "NameRolls$Player" "rule" "I") (by decide +kernel)
  have fl_67 := hts (.fieldLink RX0 67 "NameRolls$Player" "letters" "I") (by decide +kernel)
  have fl_70 := hts (.fieldLink RX0 70 "NameRolls$Player" "name" "I") (by decide +kernel)
  have hinX0 : ∀ w ∈ wsX00, w ∈ wsX0_readOrder := by decide +kernel
  refine lv_aload_n hx hb dX0_readOrder_0 rfl (lv_at hl 0 rfl) ?_
  refine lv_aload_n hx hb dX0_readOrder_1 rfl (lv_at hl 1 rfl) ?_
  refine lv_aload_n hx hb dX0_readOrder_2 rfl (lv_at hl 0 rfl) ?_
  refine va_get (D := G.1) (ci := 0) (v := .int (nI (P 4))) (C := RX0) (T := TX0) (N := 12) hx hb hts hinX0 hown hKK.1 hP 0 rfl rfl 5 (by decide) fl_29 (fun _ h9 => h9) rfl dX0_readOrder_3 ?_
  refine z_callVI (As := [.int (nI (P 4))]) (rest := [.ref q]) (wr := (playW G q d P)) (C := RX2) F (c_X2_signAt l G b t L (P 4) (by omega) tl hL hL6 hT) (cwV 1 hts gX0_readOrder_X2_signAt rfl rfl rfl (by decide +kernel) ⟨Nat.le_of_ble_eq_true rfl, Nat.le_of_ble_eq_true rfl⟩) hKK (z_recv hKK hP (q0 := 1) (ci := 2) rfl rfl) hP hD hS hA rfl hl.1 rfl (Nat.le_of_ble_eq_true rfl) ⟨Nat.zero_le _, Nat.zero_le _⟩ dX0_readOrder_6 (fun H locs hP hD hS => ?_)
  have hP : va_P G.1 vwCl (playW G q d P ++ textW G b t L) H := hP
  have hD : va_D A (playW G q d P ++ textW G b t L) := hD
  refine z_putC (w2 := playW G q d (nup P 5 (sgT (t 0) tl (P 4))) ++ textW G b t L) hx hb hts hinX0 tyX0 tyX0_ok nmX0 hown hKK hP hD hS 0 (ci := 0) (C := RX0) (T := TX0) (N := 12) rfl rfl 6 (by decide) fl_54 rfl rfl ⟨rfl, _, sgT_lt hT hL6 _, rfl⟩ (Nat.le_of_ble_eq_true rfl) rfl dX0_readOrder_9 (fun H locs hP hD hS => ?_)
  refine lv_aload_n hx hb dX0_readOrder_12 rfl (lv_at hl 0 rfl) ?_
  refine lv_iconst (v := nI 0) hx hb dX0_readOrder_13 (by decide) ?_
  refine z_put (w2 := playW G q d (nup (nup P 5 (sgT (t 0) tl (P 4))) 6 0) ++ textW G b t L) hx hb hts hinX0 tyX0 tyX0_ok nmX0 hown hKK hP hD hS 0 (ci := 0) (C := RX0) (T := TX0) (N := 12) rfl rfl 7 (by decide) fl_58 rfl rfl rfl (Nat.le_of_ble_eq_true rfl) rfl dX0_readOrder_14 (fun H locs hP hD hS => ?_)
  refine lv_aload_n hx hb dX0_readOrder_17 rfl (lv_at hl 0 rfl) ?_
  refine lv_iconst (v := nI 0) hx hb dX0_readOrder_18 (by decide) ?_
  refine z_put (w2 := playW G q d (nup (nup (nup P 5 (sgT (t 0) tl (P 4))) 6 0) 7 0) ++ textW G b t L) hx hb hts hinX0 tyX0 tyX0_ok nmX0 hown hKK hP hD hS 0 (ci := 0) (C := RX0) (T := TX0) (N := 12) rfl rfl 8 (by decide) fl_61 rfl rfl rfl (Nat.le_of_ble_eq_true rfl) rfl dX0_readOrder_19 (fun H locs hP hD hS => ?_)
  refine lv_aload_n hx hb dX0_readOrder_22 rfl (lv_at hl 0 rfl) ?_
  refine lv_iconst (v := nI 0) hx hb dX0_readOrder_23 (by decide) ?_
  refine z_put (w2 := playW G q d (nup (nup (nup (nup P 5 (sgT (t 0) tl (P 4))) 6 0) 7 0) 8 0) ++ textW G b t L) hx hb hts hinX0 tyX0 tyX0_ok nmX0 hown hKK hP hD hS 0 (ci := 0) (C := RX0) (T := TX0) (N := 12) rfl rfl 9 (by decide) fl_64 rfl rfl rfl (Nat.le_of_ble_eq_true rfl) rfl dX0_readOrder_24 (fun H locs hP hD hS => ?_)
  refine lv_aload_n hx hb dX0_readOrder_27 rfl (lv_at hl 0 rfl) ?_
  refine lv_iconst (v := nI 0) hx hb dX0_readOrder_28 (by decide) ?_
  refine z_put (w2 := playW G q d (nup (nup (nup (nup (nup P 5 (sgT (t 0) tl (P 4))) 6 0) 7 0) 8 0) 9 0) ++ textW G b t L) hx hb hts hinX0 tyX0 tyX0_ok nmX0 hown hKK hP hD hS 0 (ci := 0) (C := RX0) (T := TX0) (N := 12) rfl rfl 10 (by decide) fl_67 rfl rfl rfl (Nat.le_of_ble_eq_true rfl) rfl dX0_readOrder_29 (fun H locs hP hD hS => ?_)
  refine lv_aload_n hx hb dX0_readOrder_32 rfl (lv_at hl 0 rfl) ?_
  refine lv_iconst (v := nI 0) hx hb dX0_readOrder_33 (by decide) ?_
  refine z_put (w2 := playW G q d (nup (nup (nup (nup (nup (nup P 5 (sgT (t 0) tl (P 4))) 6 0) 7 0) 8 0) 9 0) 10 0) ++ textW G b t L) hx hb hts hinX0 tyX0 tyX0_ok nmX0 hown hKK hP hD hS 0 (ci := 0) (C := RX0) (T := TX0) (N := 12) rfl rfl 11 (by decide) fl_70 rfl rfl rfl (Nat.le_of_ble_eq_true rfl) rfl dX0_readOrder_34 (fun H locs hP hD hS => ?_)
  refine lv_aload_n hx hb dX0_readOrder_37 rfl (lv_at hl 0 rfl) ?_
  refine va_get (D := G.1) (ci := 0) (v := .int (nI (sgT (t 0) tl (P 4)))) (C := RX0) (T := TX0) (N := 12) hx hb hts hinX0 hown hKK.1 hP 0 rfl rfl 6 (by decide) fl_54 (fun _ h9 => h9) rfl dX0_readOrder_38 ?_
  rcases kd_cases (sgT (t 0) tl (P 4)) with hk | hk | hk | hk | hk
  · refine z_top (v := nI 33) (by rw [hk]) ?_
    refine lv_lookup (off := 111) (tgt := 152) hx hb dX0_readOrder_41 (by decide) (by decide) (by decide) ?_
    refine lv_aload_n hx hb dX0_readOrder_152 rfl (lv_at hl 0 rfl) ?_
    refine lv_dup hx hb dX0_readOrder_153 rfl ?_
    refine va_get (D := G.1) (ci := 0) (v := .int (nI (P 4))) (C := RX0) (T := TX0) (N := 12) hx hb hts hinX0 hown hKK.1 hP 0 rfl rfl 5 (by decide) fl_29 (fun _ h9 => h9) rfl dX0_readOrder_154 ?_
    refine lv_iconst (v := nI 1) hx hb dX0_readOrder_157 (by decide) ?_
    refine z_add (v := nI ((P 4) + 1)) hx hb dX0_readOrder_158 (nI_add _ _) ?_
    refine z_put (w2 := playW G q d (nup (nup (nup (nup (nup (nup (nup P 4 ((P 4) + 1)) 5 (sgT (t 0) tl (P 4))) 6 0) 7 0) 8 0) 9 0) 10 0) ++ textW G b t L) hx hb hts hinX0 tyX0 tyX0_ok nmX0 hown hKK hP hD hS 0 (ci := 0) (C := RX0) (T := TX0) (N := 12) rfl rfl 5 (by decide) fl_29 rfl rfl rfl (Nat.le_of_ble_eq_true rfl) rfl dX0_readOrder_159 (fun H locs hP hD hS => ?_)
    refine lv_aload_n hx hb dX0_readOrder_162 rfl (lv_at hl 0 rfl) ?_
    refine lv_aload_n hx hb dX0_readOrder_163 rfl (lv_at hl 0 rfl) ?_
    refine lv_aload_n hx hb dX0_readOrder_164 rfl (lv_at hl 1 rfl) ?_
    rcases z_b (dgB (sgT (t 0) tl ((P 4) + 1))) with hd_1 | hd_1
    · have hg_1 := dgB_t hd_1
      refine z_callVI (As := [.ref (b 0)]) (rest := [.ref q]) (wr := []) (C := RX0) F (c_X0_readDigit_t l G q d (nup (nup (nup (nup (nup (nup (nup P 4 ((P 4) + 1)) 5 (sgT (t 0) tl (P 4))) 6 0) 7 0) 8 0) 9 0) 10 0) b t L (show (P 4) + 1 ≤ 400 by omega) tl hL hL6 hT hd_1) (cwV 1 hts gX0_readOrder_X0_readDigit rfl rfl rfl (by decide +kernel) ⟨Nat.le_of_ble_eq_true rfl, Nat.le_of_ble_eq_true rfl⟩) hKK (z_recv hKK hP (q0 := 0) (ci := 0) rfl rfl) hP hD hS hA rfl hl.1 rfl (Nat.le_of_ble_eq_true rfl) ⟨Nat.zero_le _, Nat.zero_le _⟩ dX0_readOrder_165 (fun H locs hP hD hS => ?_)
      have hP : va_P G.1 vwCl (playW G q d (nup (nup (nup (nup (nup (nup (nup P 4 ((P 4) + 2)) 5 (sgT (t 0) tl (P 4))) 6 0) 7 0) 8 0) 9 0) 10 0) ++ textW G b t L) H := hP
      have hD : va_D A (playW G q d (nup (nup (nup (nup (nup (nup (nup P 4 ((P 4) + 2)) 5 (sgT (t 0) tl (P 4))) 6 0) 7 0) 8 0) 9 0) 10 0) ++ textW G b t L) := hD
      refine z_put (w2 := playW G q d (nup (nup (nup (nup (nup (nup (nup P 4 ((P 4) + 2)) 5 (sgT (t 0) tl (P 4))) 6 0) 7 0) 8 (sgT (t 0) tl ((P 4) + 1) - 48)) 9 0) 10 0) ++ textW G b t L) hx hb hts hinX0 tyX0 tyX0_ok nmX0 hown hKK hP hD hS 0 (ci := 0) (C := RX0) (T := TX0) (N := 12) rfl rfl 9 (by decide) fl_64 rfl rfl rfl (Nat.le_of_ble_eq_true rfl) rfl dX0_readOrder_168 (fun H locs hP hD hS => ?_)
      refine lv_goto (tgt := 180) hx hb dX0_readOrder_171 (by decide) ?_
      refine lv_aload_n hx hb dX0_readOrder_180 rfl (lv_at hl 0 rfl) ?_
      refine lv_aload_n hx hb dX0_readOrder_181 rfl (lv_at hl 1 rfl) ?_
      refine lv_bipush (v := nI 59) hx hb dX0_readOrder_182 (by decide) ?_
      rcases Classical.em (sgT (t 0) tl ((P 4) + 2) = 59) with hd_2 | hd_2
      · skip
        refine z_callVV (As := [.ref (b 0), .int (nI 59)]) (rest := []) (wr := []) (C := RX0) F (c_X0_readSign_t l G q d (nup (nup (nup (nup (nup (nup (nup P 4 ((P 4) + 2)) 5 (sgT (t 0) tl (P 4))) 6 0) 7 0) 8 (sgT (t 0) tl ((P 4) + 1) - 48)) 9 0) 10 0) b t L (59) (by omega) (show (P 4) + 2 ≤ 400 by omega) tl hL hL6 hT hd_2) (cwV 2 hts gX0_readOrder_X0_readSign rfl rfl rfl (by decide +kernel) ⟨Nat.le_of_ble_eq_true rfl, Nat.le_of_ble_eq_true rfl⟩) hKK (z_recv hKK hP (q0 := 0) (ci := 0) rfl rfl) hP hD hS hA rfl hl.1 rfl (Nat.le_of_ble_eq_true rfl) ⟨Nat.zero_le _, Nat.zero_le _⟩ dX0_readOrder_184 (fun H locs hP hD hS => ?_)
        have hP : va_P G.1 vwCl (playW G q d (nup (nup (nup (nup (nup (nup (nup P 4 ((P 4) + 3)) 5 (sgT (t 0) tl (P 4))) 6 0) 7 0) 8 (sgT (t 0) tl ((P 4) + 1) - 48)) 9 0) 10 0) ++ textW G b t L) H := hP
        have hD : va_D A (playW G q d (nup (nup (nup (nup (nup (nup (nup P 4 ((P 4) + 3)) 5 (sgT (t 0) tl (P 4))) 6 0) 7 0) 8 (sgT (t 0) tl ((P 4) + 1) - 48)) 9 0) 10 0) ++ textW G b t L) := hD
        exact z_vretE (nup (nup (nup (nup (nup (nup (nup P 4 ((P 4) + 3)) 5 (sgT (t 0) tl (P 4))) 6 0) 7 0) 8 (sgT (t 0) tl ((P 4) + 1) - 48)) 9 0) 10 0) hx hb hr hlk hP hD hS dX0_readOrder_187 (ro_yes (q := (P 4) + 3) (d0 := sgT (t 0) tl ((P 4) + 1) - 48) (d1 := 0) (k := 0) (wd := 0) (by rw [prs, if_pos hk, if_pos hd_1, if_pos hd_2]) ⟨show P 0 = P 0 by omega, show P 3 = P 3 by omega, show sgT (t 0) tl (P 4) = sgT (t 0) tl (P 4) by omega, show (P 4) + 3 ≤ P 4 + 100 by omega, show 0 ≤ 9 by omega, show 0 ≤ 9 by omega, show sgT (t 0) tl ((P 4) + 1) - 48 ≤ 9 by omega, show 0 ≤ 60 by omega⟩ (by exact h1) rfl rfl rfl (fun _ => ⟨rfl, rfl, rfl⟩) (fun z => absurd hk z))
      · skip
        refine z_callVV (As := [.ref (b 0), .int (nI 59)]) (rest := []) (wr := []) (C := RX0) F (c_X0_readSign_f l G q d (nup (nup (nup (nup (nup (nup (nup P 4 ((P 4) + 2)) 5 (sgT (t 0) tl (P 4))) 6 0) 7 0) 8 (sgT (t 0) tl ((P 4) + 1) - 48)) 9 0) 10 0) b t L (59) (by omega) (show (P 4) + 2 ≤ 400 by omega) tl hL hL6 hT hd_2 (by exact h1) (show P 3 ≤ (P 4) + 2 by omega)) (cwV 2 hts gX0_readOrder_X0_readSign rfl rfl rfl (by decide +kernel) ⟨Nat.le_of_ble_eq_true rfl, Nat.le_of_ble_eq_true rfl⟩) hKK (z_recv hKK hP (q0 := 0) (ci := 0) rfl rfl) hP hD hS hA rfl hl.1 rfl (Nat.le_of_ble_eq_true rfl) ⟨Nat.zero_le _, Nat.zero_le _⟩ dX0_readOrder_184 (fun H locs hP hD hS => ?_)
        have hP : va_P G.1 vwCl (playW G q d (nup (nup (nup (nup (nup (nup (nup (nup (nup P 1 1) 2 ((P 4) + 2 - P 3)) 4 ((P 4) + 2)) 5 (sgT (t 0) tl (P 4))) 6 0) 7 0) 8 (sgT (t 0) tl ((P 4) + 1) - 48)) 9 0) 10 0) ++ textW G b t L) H := hP
        have hD : va_D A (playW G q d (nup (nup (nup (nup (nup (nup (nup (nup (nup P 1 1) 2 ((P 4) + 2 - P 3)) 4 ((P 4) + 2)) 5 (sgT (t 0) tl (P 4))) 6 0) 7 0) 8 (sgT (t 0) tl ((P 4) + 1) - 48)) 9 0) 10 0) ++ textW G b t L) := hD
        exact z_vretE (nup (nup (nup (nup (nup (nup (nup (nup (nup P 1 1) 2 ((P 4) + 2 - P 3)) 4 ((P 4) + 2)) 5 (sgT (t 0) tl (P 4))) 6 0) 7 0) 8 (sgT (t 0) tl ((P 4) + 1) - 48)) 9 0) 10 0) hx hb hr hlk hP hD hS dX0_readOrder_187 (ro_no (q := (P 4) + 2) (by rw [prs, if_pos hk, if_pos hd_1, if_neg hd_2]) ⟨show P 0 = P 0 by omega, show P 3 = P 3 by omega, show sgT (t 0) tl (P 4) = sgT (t 0) tl (P 4) by omega, show (P 4) + 2 ≤ P 4 + 100 by omega, show 0 ≤ 9 by omega, show 0 ≤ 9 by omega, show sgT (t 0) tl ((P 4) + 1) - 48 ≤ 9 by omega, show 0 ≤ 60 by omega⟩ (show 1 = 1 by omega) (show (P 4) + 2 - P 3 = (P 4) + 2 - P 4 by omega))
    · skip
      refine z_callVI (As := [.ref (b 0)]) (rest := [.ref q]) (wr := []) (C := RX0) F (c_X0_readDigit_f l G q d (nup (nup (nup (nup (nup (nup (nup P 4 ((P 4) + 1)) 5 (sgT (t 0) tl (P 4))) 6 0) 7 0) 8 0) 9 0) 10 0) b t L (show (P 4) + 1 ≤ 400 by omega) tl hL hL6 hT hd_1 (by exact h1) (show P 3 ≤ (P 4) + 1 by omega)) (cwV 1 hts gX0_readOrder_X0_readDigit rfl rfl rfl (by decide +kernel) ⟨Nat.le_of_ble_eq_true rfl, Nat.le_of_ble_eq_true rfl⟩) hKK (z_recv hKK hP (q0 := 0) (ci := 0) rfl rfl) hP hD hS hA rfl hl.1 rfl (Nat.le_of_ble_eq_true rfl) ⟨Nat.zero_le _, Nat.zero_le _⟩ dX0_readOrder_165 (fun H locs hP hD hS => ?_)
      have hP : va_P G.1 vwCl (playW G q d (nup (nup (nup (nup (nup (nup (nup (nup (nup P 1 1) 2 ((P 4) + 1 - P 3)) 4 ((P 4) + 1)) 5 (sgT (t 0) tl (P 4))) 6 0) 7 0) 8 0) 9 0) 10 0) ++ textW G b t L) H := hP
      have hD : va_D A (playW G q d (nup (nup (nup (nup (nup (nup (nup (nup (nup P 1 1) 2 ((P 4) + 1 - P 3)) 4 ((P 4) + 1)) 5 (sgT (t 0) tl (P 4))) 6 0) 7 0) 8 0) 9 0) 10 0) ++ textW G b t L) := hD
      refine z_put (w2 := playW G q d (nup (nup (nup (nup (nup (nup (nup (nup (nup P 1 1) 2 ((P 4) + 1 - P 3)) 4 ((P 4) + 1)) 5 (sgT (t 0) tl (P 4))) 6 0) 7 0) 8 0) 9 0) 10 0) ++ textW G b t L) hx hb hts hinX0 tyX0 tyX0_ok nmX0 hown hKK hP hD hS 0 (ci := 0) (C := RX0) (T := TX0) (N := 12) rfl rfl 9 (by decide) fl_64 rfl rfl rfl (Nat.le_of_ble_eq_true rfl) rfl dX0_readOrder_168 (fun H locs hP hD hS => ?_)
      refine lv_goto (tgt := 180) hx hb dX0_readOrder_171 (by decide) ?_
      refine lv_aload_n hx hb dX0_readOrder_180 rfl (lv_at hl 0 rfl) ?_
      refine lv_aload_n hx hb dX0_readOrder_181 rfl (lv_at hl 1 rfl) ?_
      refine lv_bipush (v := nI 59) hx hb dX0_readOrder_182 (by decide) ?_
      refine z_callVVE (As := [.ref (b 0), .int (nI 59)]) (rest := []) (wr := []) (C := RX0) F (c_X0_readSign_x l G q d (nup (nup (nup (nup (nup (nup (nup (nup (nup P 1 1) 2 ((P 4) + 1 - P 3)) 4 ((P 4) + 1)) 5 (sgT (t 0) tl (P 4))) 6 0) 7 0) 8 0) 9 0) 10 0) b t L (59) (by omega) (show (P 4) + 1 ≤ 400 by omega) tl hL hL6 hT (show ¬ 1 = 0 by omega) (show 1 ≤ 3 by omega) (show P 3 ≤ (P 4) + 1 by omega)) (cwV 2 hts gX0_readOrder_X0_readSign rfl rfl rfl (by decide +kernel) ⟨Nat.le_of_ble_eq_true rfl, Nat.le_of_ble_eq_true rfl⟩) hKK (z_recv hKK hP (q0 := 0) (ci := 0) rfl rfl) hP hD hS hA rfl hl.1 rfl (Nat.le_of_ble_eq_true rfl) ⟨Nat.zero_le _, Nat.zero_le _⟩ dX0_readOrder_184 (fun u_3 H locs hq_3 hP hD hS => ?_)
      have f0_3 : u_3 0 = P 0 := hq_3.1 0 (by decide)
      have f1_3 : u_3 1 = 1 := hq_3.1 1 (by decide)
      have f2_3 : u_3 2 = (P 4) + 1 - P 3 := hq_3.1 2 (by decide)
      have f3_3 : u_3 3 = P 3 := hq_3.1 3 (by decide)
      have f5_3 : u_3 5 = sgT (t 0) tl (P 4) := hq_3.1 5 (by decide)
      have f6_3 : u_3 6 = 0 := hq_3.1 6 (by decide)
      have f7_3 : u_3 7 = 0 := hq_3.1 7 (by decide)
      have f8_3 : u_3 8 = 0 := hq_3.1 8 (by decide)
      have f9_3 : u_3 9 = 0 := hq_3.1 9 (by decide)
      have f10_3 : u_3 10 = 0 := hq_3.1 10 (by decide)
      have f4_3 : u_3 4 ≤ (P 4) + 1 + 1 := hq_3.2.2
      have g4_3 : (P 4) + 1 ≤ u_3 4 := hq_3.2.1
      have hP : va_P G.1 vwCl (playW G q d u_3 ++ textW G b t L) H := hP
      have hD : va_D A (playW G q d u_3 ++ textW G b t L) := hD
      exact z_vretE u_3 hx hb hr hlk hP hD hS dX0_readOrder_187 (ro_no (q := (P 4) + 1) (by rw [prs, if_pos hk, if_neg (by rw [hd_1]; decide)]) ⟨show u_3 0 = P 0 by omega, show u_3 3 = P 3 by omega, show u_3 5 = sgT (t 0) tl (P 4) by omega, show u_3 4 ≤ P 4 + 100 by omega, show u_3 6 ≤ 9 by omega, show u_3 7 ≤ 9 by omega, show u_3 8 ≤ 9 by omega, show u_3 9 ≤ 60 by omega⟩ (show u_3 1 = 1 by omega) (show u_3 2 = (P 4) + 1 - P 4 by omega))
  · refine z_top (v := nI 43) (by rw [hk]) ?_
    refine lv_lookup (off := 43) (tgt := 84) hx hb dX0_readOrder_41 (by decide) (by decide) (by decide) ?_
    refine lv_aload_n hx hb dX0_readOrder_84 rfl (lv_at hl 0 rfl) ?_
    refine lv_dup hx hb dX0_readOrder_85 rfl ?_
    refine va_get (D := G.1) (ci := 0) (v := .int (nI (P 4))) (C := RX0) (T := TX0) (N := 12) hx hb hts hinX0 hown hKK.1 hP 0 rfl rfl 5 (by decide) fl_29 (fun _ h9 => h9) rfl dX0_readOrder_86 ?_
    refine lv_iconst (v := nI 1) hx hb dX0_readOrder_89 (by decide) ?_
    refine z_add (v := nI ((P 4) + 1)) hx hb dX0_readOrder_90 (nI_add _ _) ?_
    refine z_put (w2 := playW G q d (nup (nup (nup (nup (nup (nup (nup P 4 ((P 4) + 1)) 5 (sgT (t 0) tl (P 4))) 6 0) 7 0) 8 0) 9 0) 10 0) ++ textW G b t L) hx hb hts hinX0 tyX0 tyX0_ok nmX0 hown hKK hP hD hS 0 (ci := 0) (C := RX0) (T := TX0) (N := 12) rfl rfl 5 (by decide) fl_29 rfl rfl rfl (Nat.le_of_ble_eq_true rfl) rfl dX0_readOrder_91 (fun H locs hP hD hS => ?_)
    refine lv_aload_n hx hb dX0_readOrder_94 rfl (lv_at hl 0 rfl) ?_
    refine lv_aload_n hx hb dX0_readOrder_95 rfl (lv_at hl 1 rfl) ?_
    rcases Classical.em (0 < lc (sgT (t 0) tl) ((P 4) + 1)) with hd_4 | hd_4
    · skip
      refine z_callVV (As := [.ref (b 0)]) (rest := []) (wr := []) (C := RX0) F (c_X0_readLetters_y l G q d (nup (nup (nup (nup (nup (nup (nup P 4 ((P 4) + 1)) 5 (sgT (t 0) tl (P 4))) 6 0) 7 0) 8 0) 9 0) 10 0) b t L (show (P 4) + 1 ≤ 400 by omega) tl hL hL6 hT rfl rfl hd_4) (cwV 1 hts gX0_readOrder_X0_readLetters rfl rfl rfl (by decide +kernel) ⟨Nat.le_of_ble_eq_true rfl, Nat.le_of_ble_eq_true rfl⟩) hKK (z_recv hKK hP (q0 := 0) (ci := 0) rfl rfl) hP hD hS hA rfl hl.1 rfl (Nat.le_of_ble_eq_true rfl) ⟨Nat.zero_le _, Nat.zero_le _⟩ dX0_readOrder_96 (fun H locs hP hD hS => ?_)
      have hlc6 := lc_le60 (sgT (t 0) tl) ((P 4) + 1)
      have hP : va_P G.1 vwCl (playW G q d (nup (nup (nup (nup (nup (nup (nup P 4 ((P 4) + 1 + lc (sgT (t 0) tl) ((P 4) + 1))) 5 (sgT (t 0) tl (P 4))) 6 0) 7 0) 8 0) 9 (lc (sgT (t 0) tl) ((P 4) + 1))) 10 (wv (sgT (t 0) tl) ((P 4) + 1) (lc (sgT (t 0) tl) ((P 4) + 1)))) ++ textW G b t L) H := hP
      have hD : va_D A (playW G q d (nup (nup (nup (nup (nup (nup (nup P 4 ((P 4) + 1 + lc (sgT (t 0) tl) ((P 4) + 1))) 5 (sgT (t 0) tl (P 4))) 6 0) 7 0) 8 0) 9 (lc (sgT (t 0) tl) ((P 4) + 1))) 10 (wv (sgT (t 0) tl) ((P 4) + 1) (lc (sgT (t 0) tl) ((P 4) + 1)))) ++ textW G b t L) := hD
      refine lv_goto (tgt := 180) hx hb dX0_readOrder_99 (by decide) ?_
      refine lv_aload_n hx hb dX0_readOrder_180 rfl (lv_at hl 0 rfl) ?_
      refine lv_aload_n hx hb dX0_readOrder_181 rfl (lv_at hl 1 rfl) ?_
      refine lv_bipush (v := nI 59) hx hb dX0_readOrder_182 (by decide) ?_
      rcases Classical.em (sgT (t 0) tl ((P 4) + 1 + lc (sgT (t 0) tl) ((P 4) + 1)) = 59) with hd_5 | hd_5
      · skip
        refine z_callVV (As := [.ref (b 0), .int (nI 59)]) (rest := []) (wr := []) (C := RX0) F (c_X0_readSign_t l G q d (nup (nup (nup (nup (nup (nup (nup P 4 ((P 4) + 1 + lc (sgT (t 0) tl) ((P 4) + 1))) 5 (sgT (t 0) tl (P 4))) 6 0) 7 0) 8 0) 9 (lc (sgT (t 0) tl) ((P 4) + 1))) 10 (wv (sgT (t 0) tl) ((P 4) + 1) (lc (sgT (t 0) tl) ((P 4) + 1)))) b t L (59) (by omega) (show (P 4) + 1 + lc (sgT (t 0) tl) ((P 4) + 1) ≤ 400 by omega) tl hL hL6 hT hd_5) (cwV 2 hts gX0_readOrder_X0_readSign rfl rfl rfl (by decide +kernel) ⟨Nat.le_of_ble_eq_true rfl, Nat.le_of_ble_eq_true rfl⟩) hKK (z_recv hKK hP (q0 := 0) (ci := 0) rfl rfl) hP hD hS hA rfl hl.1 rfl (Nat.le_of_ble_eq_true rfl) ⟨Nat.zero_le _, Nat.zero_le _⟩ dX0_readOrder_184 (fun H locs hP hD hS => ?_)
        have hP : va_P G.1 vwCl (playW G q d (nup (nup (nup (nup (nup (nup (nup P 4 ((P 4) + 1 + lc (sgT (t 0) tl) ((P 4) + 1) + 1)) 5 (sgT (t 0) tl (P 4))) 6 0) 7 0) 8 0) 9 (lc (sgT (t 0) tl) ((P 4) + 1))) 10 (wv (sgT (t 0) tl) ((P 4) + 1) (lc (sgT (t 0) tl) ((P 4) + 1)))) ++ textW G b t L) H := hP
        have hD : va_D A (playW G q d (nup (nup (nup (nup (nup (nup (nup P 4 ((P 4) + 1 + lc (sgT (t 0) tl) ((P 4) + 1) + 1)) 5 (sgT (t 0) tl (P 4))) 6 0) 7 0) 8 0) 9 (lc (sgT (t 0) tl) ((P 4) + 1))) 10 (wv (sgT (t 0) tl) ((P 4) + 1) (lc (sgT (t 0) tl) ((P 4) + 1)))) ++ textW G b t L) := hD
        exact z_vretE (nup (nup (nup (nup (nup (nup (nup P 4 ((P 4) + 1 + lc (sgT (t 0) tl) ((P 4) + 1) + 1)) 5 (sgT (t 0) tl (P 4))) 6 0) 7 0) 8 0) 9 (lc (sgT (t 0) tl) ((P 4) + 1))) 10 (wv (sgT (t 0) tl) ((P 4) + 1) (lc (sgT (t 0) tl) ((P 4) + 1)))) hx hb hr hlk hP hD hS dX0_readOrder_187 (ro_yes (q := (P 4) + 1 + lc (sgT (t 0) tl) ((P 4) + 1) + 1) (d0 := 0) (d1 := 0) (k := lc (sgT (t 0) tl) ((P 4) + 1)) (wd := wv (sgT (t 0) tl) ((P 4) + 1) (lc (sgT (t 0) tl) ((P 4) + 1))) (by rw [prs, if_neg (by omega), if_neg (by omega), if_pos (by omega), prL, if_pos hd_4, if_pos hd_5]) ⟨show P 0 = P 0 by omega, show P 3 = P 3 by omega, show sgT (t 0) tl (P 4) = sgT (t 0) tl (P 4) by omega, show (P 4) + 1 + lc (sgT (t 0) tl) ((P 4) + 1) + 1 ≤ P 4 + 100 by omega, show 0 ≤ 9 by omega, show 0 ≤ 9 by omega, show 0 ≤ 9 by omega, show lc (sgT (t 0) tl) ((P 4) + 1) ≤ 60 by omega⟩ (by exact h1) rfl rfl rfl (fun z => absurd z (by omega)) (fun _ => ⟨rfl, rfl, rfl⟩))
      · skip
        refine z_callVV (As := [.ref (b 0), .int (nI 59)]) (rest := []) (wr := []) (C := RX0) F (c_X0_readSign_f l G q d (nup (nup (nup (nup (nup (nup (nup P 4 ((P 4) + 1 + lc (sgT (t 0) tl) ((P 4) + 1))) 5 (sgT (t 0) tl (P 4))) 6 0) 7 0) 8 0) 9 (lc (sgT (t 0) tl) ((P 4) + 1))) 10 (wv (sgT (t 0) tl) ((P 4) + 1) (lc (sgT (t 0) tl) ((P 4) + 1)))) b t L (59) (by omega) (show (P 4) + 1 + lc (sgT (t 0) tl) ((P 4) + 1) ≤ 400 by omega) tl hL hL6 hT hd_5 (by exact h1) (show P 3 ≤ (P 4) + 1 + lc (sgT (t 0) tl) ((P 4) + 1) by omega)) (cwV 2 hts gX0_readOrder_X0_readSign rfl rfl rfl (by decide +kernel) ⟨Nat.le_of_ble_eq_true rfl, Nat.le_of_ble_eq_true rfl⟩) hKK (z_recv hKK hP (q0 := 0) (ci := 0) rfl rfl) hP hD hS hA rfl hl.1 rfl (Nat.le_of_ble_eq_true rfl) ⟨Nat.zero_le _, Nat.zero_le _⟩ dX0_readOrder_184 (fun H locs hP hD hS => ?_)
        have hP : va_P G.1 vwCl (playW G q d (nup (nup (nup (nup (nup (nup (nup (nup (nup P 1 1) 2 ((P 4) + 1 + lc (sgT (t 0) tl) ((P 4) + 1) - P 3)) 4 ((P 4) + 1 + lc (sgT (t 0) tl) ((P 4) + 1))) 5 (sgT (t 0) tl (P 4))) 6 0) 7 0) 8 0) 9 (lc (sgT (t 0) tl) ((P 4) + 1))) 10 (wv (sgT (t 0) tl) ((P 4) + 1) (lc (sgT (t 0) tl) ((P 4) + 1)))) ++ textW G b t L) H := hP
        have hD : va_D A (playW G q d (nup (nup (nup (nup (nup (nup (nup (nup (nup P 1 1) 2 ((P 4) + 1 + lc (sgT (t 0) tl) ((P 4) + 1) - P 3)) 4 ((P 4) + 1 + lc (sgT (t 0) tl) ((P 4) + 1))) 5 (sgT (t 0) tl (P 4))) 6 0) 7 0) 8 0) 9 (lc (sgT (t 0) tl) ((P 4) + 1))) 10 (wv (sgT (t 0) tl) ((P 4) + 1) (lc (sgT (t 0) tl) ((P 4) + 1)))) ++ textW G b t L) := hD
        exact z_vretE (nup (nup (nup (nup (nup (nup (nup (nup (nup P 1 1) 2 ((P 4) + 1 + lc (sgT (t 0) tl) ((P 4) + 1) - P 3)) 4 ((P 4) + 1 + lc (sgT (t 0) tl) ((P 4) + 1))) 5 (sgT (t 0) tl (P 4))) 6 0) 7 0) 8 0) 9 (lc (sgT (t 0) tl) ((P 4) + 1))) 10 (wv (sgT (t 0) tl) ((P 4) + 1) (lc (sgT (t 0) tl) ((P 4) + 1)))) hx hb hr hlk hP hD hS dX0_readOrder_187 (ro_no (q := (P 4) + 1 + lc (sgT (t 0) tl) ((P 4) + 1)) (by rw [prs, if_neg (by omega), if_neg (by omega), if_pos (by omega), prL, if_pos hd_4, if_neg hd_5]) ⟨show P 0 = P 0 by omega, show P 3 = P 3 by omega, show sgT (t 0) tl (P 4) = sgT (t 0) tl (P 4) by omega, show (P 4) + 1 + lc (sgT (t 0) tl) ((P 4) + 1) ≤ P 4 + 100 by omega, show 0 ≤ 9 by omega, show 0 ≤ 9 by omega, show 0 ≤ 9 by omega, show lc (sgT (t 0) tl) ((P 4) + 1) ≤ 60 by omega⟩ (show 1 = 1 by omega) (show (P 4) + 1 + lc (sgT (t 0) tl) ((P 4) + 1) - P 3 = (P 4) + 1 + lc (sgT (t 0) tl) ((P 4) + 1) - P 4 by omega))
    · have hlc6 := lc_le60 (sgT (t 0) tl) ((P 4) + 1)
      refine z_callVV (As := [.ref (b 0)]) (rest := []) (wr := []) (C := RX0) F (c_X0_readLetters_f l G q d (nup (nup (nup (nup (nup (nup (nup P 4 ((P 4) + 1)) 5 (sgT (t 0) tl (P 4))) 6 0) 7 0) 8 0) 9 0) 10 0) b t L (show (P 4) + 1 ≤ 400 by omega) tl hL hL6 hT rfl rfl (by omega) (by exact h1) (show P 3 ≤ (P 4) + 1 by omega)) (cwV 1 hts gX0_readOrder_X0_readLetters rfl rfl rfl (by decide +kernel) ⟨Nat.le_of_ble_eq_true rfl, Nat.le_of_ble_eq_true rfl⟩) hKK (z_recv hKK hP (q0 := 0) (ci := 0) rfl rfl) hP hD hS hA rfl hl.1 rfl (Nat.le_of_ble_eq_true rfl) ⟨Nat.zero_le _, Nat.zero_le _⟩ dX0_readOrder_96 (fun H locs hP hD hS => ?_)
      have hP : va_P G.1 vwCl (playW G q d (nup (nup (nup (nup (nup (nup (nup (nup (nup P 1 1) 2 ((P 4) + 1 + lc (sgT (t 0) tl) ((P 4) + 1) - P 3)) 4 ((P 4) + 1 + lc (sgT (t 0) tl) ((P 4) + 1))) 5 (sgT (t 0) tl (P 4))) 6 0) 7 0) 8 0) 9 (lc (sgT (t 0) tl) ((P 4) + 1))) 10 (wv (sgT (t 0) tl) ((P 4) + 1) (lc (sgT (t 0) tl) ((P 4) + 1)))) ++ textW G b t L) H := hP
      have hD : va_D A (playW G q d (nup (nup (nup (nup (nup (nup (nup (nup (nup P 1 1) 2 ((P 4) + 1 + lc (sgT (t 0) tl) ((P 4) + 1) - P 3)) 4 ((P 4) + 1 + lc (sgT (t 0) tl) ((P 4) + 1))) 5 (sgT (t 0) tl (P 4))) 6 0) 7 0) 8 0) 9 (lc (sgT (t 0) tl) ((P 4) + 1))) 10 (wv (sgT (t 0) tl) ((P 4) + 1) (lc (sgT (t 0) tl) ((P 4) + 1)))) ++ textW G b t L) := hD
      refine lv_goto (tgt := 180) hx hb dX0_readOrder_99 (by decide) ?_
      refine lv_aload_n hx hb dX0_readOrder_180 rfl (lv_at hl 0 rfl) ?_
      refine lv_aload_n hx hb dX0_readOrder_181 rfl (lv_at hl 1 rfl) ?_
      refine lv_bipush (v := nI 59) hx hb dX0_readOrder_182 (by decide) ?_
      refine z_callVVE (As := [.ref (b 0), .int (nI 59)]) (rest := []) (wr := []) (C := RX0) F (c_X0_readSign_x l G q d (nup (nup (nup (nup (nup (nup (nup (nup (nup P 1 1) 2 ((P 4) + 1 + lc (sgT (t 0) tl) ((P 4) + 1) - P 3)) 4 ((P 4) + 1 + lc (sgT (t 0) tl) ((P 4) + 1))) 5 (sgT (t 0) tl (P 4))) 6 0) 7 0) 8 0) 9 (lc (sgT (t 0) tl) ((P 4) + 1))) 10 (wv (sgT (t 0) tl) ((P 4) + 1) (lc (sgT (t 0) tl) ((P 4) + 1)))) b t L (59) (by omega) (show (P 4) + 1 + lc (sgT (t 0) tl) ((P 4) + 1) ≤ 400 by omega) tl hL hL6 hT (show ¬ 1 = 0 by omega) (show 1 ≤ 3 by omega) (show P 3 ≤ (P 4) + 1 + lc (sgT (t 0) tl) ((P 4) + 1) by omega)) (cwV 2 hts gX0_readOrder_X0_readSign rfl rfl rfl (by decide +kernel) ⟨Nat.le_of_ble_eq_true rfl, Nat.le_of_ble_eq_true rfl⟩) hKK (z_recv hKK hP (q0 := 0) (ci := 0) rfl rfl) hP hD hS hA rfl hl.1 rfl (Nat.le_of_ble_eq_true rfl) ⟨Nat.zero_le _, Nat.zero_le _⟩ dX0_readOrder_184 (fun u_6 H locs hq_6 hP hD hS => ?_)
      have f0_6 : u_6 0 = P 0 := hq_6.1 0 (by decide)
      have f1_6 : u_6 1 = 1 := hq_6.1 1 (by decide)
      have f2_6 : u_6 2 = (P 4) + 1 + lc (sgT (t 0) tl) ((P 4) + 1) - P 3 := hq_6.1 2 (by decide)
      have f3_6 : u_6 3 = P 3 := hq_6.1 3 (by decide)
      have f5_6 : u_6 5 = sgT (t 0) tl (P 4) := hq_6.1 5 (by decide)
      have f6_6 : u_6 6 = 0 := hq_6.1 6 (by decide)
      have f7_6 : u_6 7 = 0 := hq_6.1 7 (by decide)
      have f8_6 : u_6 8 = 0 := hq_6.1 8 (by decide)
      have f9_6 : u_6 9 = lc (sgT (t 0) tl) ((P 4) + 1) := hq_6.1 9 (by decide)
      have f10_6 : u_6 10 = wv (sgT (t 0) tl) ((P 4) + 1) (lc (sgT (t 0) tl) ((P 4) + 1)) := hq_6.1 10 (by decide)
      have f4_6 : u_6 4 ≤ (P 4) + 1 + lc (sgT (t 0) tl) ((P 4) + 1) + 1 := hq_6.2.2
      have g4_6 : (P 4) + 1 + lc (sgT (t 0) tl) ((P 4) + 1) ≤ u_6 4 := hq_6.2.1
      have hP : va_P G.1 vwCl (playW G q d u_6 ++ textW G b t L) H := hP
      have hD : va_D A (playW G q d u_6 ++ textW G b t L) := hD
      exact z_vretE u_6 hx hb hr hlk hP hD hS dX0_readOrder_187 (ro_no (q := (P 4) + 1 + lc (sgT (t 0) tl) ((P 4) + 1)) (by rw [prs, if_neg (by omega), if_neg (by omega), if_pos (by omega), prL, if_neg hd_4]) ⟨show u_6 0 = P 0 by omega, show u_6 3 = P 3 by omega, show u_6 5 = sgT (t 0) tl (P 4) by omega, show u_6 4 ≤ P 4 + 100 by omega, show u_6 6 ≤ 9 by omega, show u_6 7 ≤ 9 by omega, show u_6 8 ≤ 9 by omega, show u_6 9 ≤ 60 by omega⟩ (show u_6 1 = 1 by omega) (show u_6 2 = (P 4) + 1 + lc (sgT (t 0) tl) ((P 4) + 1) - P 4 by omega))
  · refine z_top (v := nI 45) (by rw [hk]) ?_
    refine lv_lookup (off := 43) (tgt := 84) hx hb dX0_readOrder_41 (by decide) (by decide) (by decide) ?_
    refine lv_aload_n hx hb dX0_readOrder_84 rfl (lv_at hl 0 rfl) ?_
    refine lv_dup hx hb dX0_readOrder_85 rfl ?_
    refine va_get (D := G.1) (ci := 0) (v := .int (nI (P 4))) (C := RX0) (T := TX0) (N := 12) hx hb hts hinX0 hown hKK.1 hP 0 rfl rfl 5 (by decide) fl_29 (fun _ h9 => h9) rfl dX0_readOrder_86 ?_
    refine lv_iconst (v := nI 1) hx hb dX0_readOrder_89 (by decide) ?_
    refine z_add (v := nI ((P 4) + 1)) hx hb dX0_readOrder_90 (nI_add _ _) ?_
    refine z_put (w2 := playW G q d (nup (nup (nup (nup (nup (nup (nup P 4 ((P 4) + 1)) 5 (sgT (t 0) tl (P 4))) 6 0) 7 0) 8 0) 9 0) 10 0) ++ textW G b t L) hx hb hts hinX0 tyX0 tyX0_ok nmX0 hown hKK hP hD hS 0 (ci := 0) (C := RX0) (T := TX0) (N := 12) rfl rfl 5 (by decide) fl_29 rfl rfl rfl (Nat.le_of_ble_eq_true rfl) rfl dX0_readOrder_91 (fun H locs hP hD hS => ?_)
    refine lv_aload_n hx hb dX0_readOrder_94 rfl (lv_at hl 0 rfl) ?_
    refine lv_aload_n hx hb dX0_readOrder_95 rfl (lv_at hl 1 rfl) ?_
    rcases Classical.em (0 < lc (sgT (t 0) tl) ((P 4) + 1)) with hd_7 | hd_7
    · skip
      refine z_callVV (As := [.ref (b 0)]) (rest := []) (wr := []) (C := RX0) F (c_X0_readLetters_y l G q d (nup (nup (nup (nup (nup (nup (nup P 4 ((P 4) + 1)) 5 (sgT (t 0) tl (P 4))) 6 0) 7 0) 8 0) 9 0) 10 0) b t L (show (P 4) + 1 ≤ 400 by omega) tl hL hL6 hT rfl rfl hd_7) (cwV 1 hts gX0_readOrder_X0_readLetters rfl rfl rfl (by decide +kernel) ⟨Nat.le_of_ble_eq_true rfl, Nat.le_of_ble_eq_true rfl⟩) hKK (z_recv hKK hP (q0 := 0) (ci := 0) rfl rfl) hP hD hS hA rfl hl.1 rfl (Nat.le_of_ble_eq_true rfl) ⟨Nat.zero_le _, Nat.zero_le _⟩ dX0_readOrder_96 (fun H locs hP hD hS => ?_)
      have hlc6 := lc_le60 (sgT (t 0) tl) ((P 4) + 1)
      have hP : va_P G.1 vwCl (playW G q d (nup (nup (nup (nup (nup (nup (nup P 4 ((P 4) + 1 + lc (sgT (t 0) tl) ((P 4) + 1))) 5 (sgT (t 0) tl (P 4))) 6 0) 7 0) 8 0) 9 (lc (sgT (t 0) tl) ((P 4) + 1))) 10 (wv (sgT (t 0) tl) ((P 4) + 1) (lc (sgT (t 0) tl) ((P 4) + 1)))) ++ textW G b t L) H := hP
      have hD : va_D A (playW G q d (nup (nup (nup (nup (nup (nup (nup P 4 ((P 4) + 1 + lc (sgT (t 0) tl) ((P 4) + 1))) 5 (sgT (t 0) tl (P 4))) 6 0) 7 0) 8 0) 9 (lc (sgT (t 0) tl) ((P 4) + 1))) 10 (wv (sgT (t 0) tl) ((P 4) + 1) (lc (sgT (t 0) tl) ((P 4) + 1)))) ++ textW G b t L) := hD
      refine lv_goto (tgt := 180) hx hb dX0_readOrder_99 (by decide) ?_
      refine lv_aload_n hx hb dX0_readOrder_180 rfl (lv_at hl 0 rfl) ?_
      refine lv_aload_n hx hb dX0_readOrder_181 rfl (lv_at hl 1 rfl) ?_
      refine lv_bipush (v := nI 59) hx hb dX0_readOrder_182 (by decide) ?_
      rcases Classical.em (sgT (t 0) tl ((P 4) + 1 + lc (sgT (t 0) tl) ((P 4) + 1)) = 59) with hd_8 | hd_8
      · skip
        refine z_callVV (As := [.ref (b 0), .int (nI 59)]) (rest := []) (wr := []) (C := RX0) F (c_X0_readSign_t l G q d (nup (nup (nup (nup (nup (nup (nup P 4 ((P 4) + 1 + lc (sgT (t 0) tl) ((P 4) + 1))) 5 (sgT (t 0) tl (P 4))) 6 0) 7 0) 8 0) 9 (lc (sgT (t 0) tl) ((P 4) + 1))) 10 (wv (sgT (t 0) tl) ((P 4) + 1) (lc (sgT (t 0) tl) ((P 4) + 1)))) b t L (59) (by omega) (show (P 4) + 1 + lc (sgT (t 0) tl) ((P 4) + 1) ≤ 400 by omega) tl hL hL6 hT hd_8) (cwV 2 hts gX0_readOrder_X0_readSign rfl rfl rfl (by decide +kernel) ⟨Nat.le_of_ble_eq_true rfl, Nat.le_of_ble_eq_true rfl⟩) hKK (z_recv hKK hP (q0 := 0) (ci := 0) rfl rfl) hP hD hS hA rfl hl.1 rfl (Nat.le_of_ble_eq_true rfl) ⟨Nat.zero_le _, Nat.zero_le _⟩ dX0_readOrder_184 (fun H locs hP hD hS => ?_)
        have hP : va_P G.1 vwCl (playW G q d (nup (nup (nup (nup (nup (nup (nup P 4 ((P 4) + 1 + lc (sgT (t 0) tl) ((P 4) + 1) + 1)) 5 (sgT (t 0) tl (P 4))) 6 0) 7 0) 8 0) 9 (lc (sgT (t 0) tl) ((P 4) + 1))) 10 (wv (sgT (t 0) tl) ((P 4) + 1) (lc (sgT (t 0) tl) ((P 4) + 1)))) ++ textW G b t L) H := hP
        have hD : va_D A (playW G q d (nup (nup (nup (nup (nup (nup (nup P 4 ((P 4) + 1 + lc (sgT (t 0) tl) ((P 4) + 1) + 1)) 5 (sgT (t 0) tl (P 4))) 6 0) 7 0) 8 0) 9 (lc (sgT (t 0) tl) ((P 4) + 1))) 10 (wv (sgT (t 0) tl) ((P 4) + 1) (lc (sgT (t 0) tl) ((P 4) + 1)))) ++ textW G b t L) := hD
        exact z_vretE (nup (nup (nup (nup (nup (nup (nup P 4 ((P 4) + 1 + lc (sgT (t 0) tl) ((P 4) + 1) + 1)) 5 (sgT (t 0) tl (P 4))) 6 0) 7 0) 8 0) 9 (lc (sgT (t 0) tl) ((P 4) + 1))) 10 (wv (sgT (t 0) tl) ((P 4) + 1) (lc (sgT (t 0) tl) ((P 4) + 1)))) hx hb hr hlk hP hD hS dX0_readOrder_187 (ro_yes (q := (P 4) + 1 + lc (sgT (t 0) tl) ((P 4) + 1) + 1) (d0 := 0) (d1 := 0) (k := lc (sgT (t 0) tl) ((P 4) + 1)) (wd := wv (sgT (t 0) tl) ((P 4) + 1) (lc (sgT (t 0) tl) ((P 4) + 1))) (by rw [prs, if_neg (by omega), if_neg (by omega), if_pos (by omega), prL, if_pos hd_7, if_pos hd_8]) ⟨show P 0 = P 0 by omega, show P 3 = P 3 by omega, show sgT (t 0) tl (P 4) = sgT (t 0) tl (P 4) by omega, show (P 4) + 1 + lc (sgT (t 0) tl) ((P 4) + 1) + 1 ≤ P 4 + 100 by omega, show 0 ≤ 9 by omega, show 0 ≤ 9 by omega, show 0 ≤ 9 by omega, show lc (sgT (t 0) tl) ((P 4) + 1) ≤ 60 by omega⟩ (by exact h1) rfl rfl rfl (fun z => absurd z (by omega)) (fun _ => ⟨rfl, rfl, rfl⟩))
      · skip
        refine z_callVV (As := [.ref (b 0), .int (nI 59)]) (rest := []) (wr := []) (C := RX0) F (c_X0_readSign_f l G q d (nup (nup (nup (nup (nup (nup (nup P 4 ((P 4) + 1 + lc (sgT (t 0) tl) ((P 4) + 1))) 5 (sgT (t 0) tl (P 4))) 6 0) 7 0) 8 0) 9 (lc (sgT (t 0) tl) ((P 4) + 1))) 10 (wv (sgT (t 0) tl) ((P 4) + 1) (lc (sgT (t 0) tl) ((P 4) + 1)))) b t L (59) (by omega) (show (P 4) + 1 + lc (sgT (t 0) tl) ((P 4) + 1) ≤ 400 by omega) tl hL hL6 hT hd_8 (by exact h1) (show P 3 ≤ (P 4) + 1 + lc (sgT (t 0) tl) ((P 4) + 1) by omega)) (cwV 2 hts gX0_readOrder_X0_readSign rfl rfl rfl (by decide +kernel) ⟨Nat.le_of_ble_eq_true rfl, Nat.le_of_ble_eq_true rfl⟩) hKK (z_recv hKK hP (q0 := 0) (ci := 0) rfl rfl) hP hD hS hA rfl hl.1 rfl (Nat.le_of_ble_eq_true rfl) ⟨Nat.zero_le _, Nat.zero_le _⟩ dX0_readOrder_184 (fun H locs hP hD hS => ?_)
        have hP : va_P G.1 vwCl (playW G q d (nup (nup (nup (nup (nup (nup (nup (nup (nup P 1 1) 2 ((P 4) + 1 + lc (sgT (t 0) tl) ((P 4) + 1) - P 3)) 4 ((P 4) + 1 + lc (sgT (t 0) tl) ((P 4) + 1))) 5 (sgT (t 0) tl (P 4))) 6 0) 7 0) 8 0) 9 (lc (sgT (t 0) tl) ((P 4) + 1))) 10 (wv (sgT (t 0) tl) ((P 4) + 1) (lc (sgT (t 0) tl) ((P 4) + 1)))) ++ textW G b t L) H := hP
        have hD : va_D A (playW G q d (nup (nup (nup (nup (nup (nup (nup (nup (nup P 1 1) 2 ((P 4) + 1 + lc (sgT (t 0) tl) ((P 4) + 1) - P 3)) 4 ((P 4) + 1 + lc (sgT (t 0) tl) ((P 4) + 1))) 5 (sgT (t 0) tl (P 4))) 6 0) 7 0) 8 0) 9 (lc (sgT (t 0) tl) ((P 4) + 1))) 10 (wv (sgT (t 0) tl) ((P 4) + 1) (lc (sgT (t 0) tl) ((P 4) + 1)))) ++ textW G b t L) := hD
        exact z_vretE (nup (nup (nup (nup (nup (nup (nup (nup (nup P 1 1) 2 ((P 4) + 1 + lc (sgT (t 0) tl) ((P 4) + 1) - P 3)) 4 ((P 4) + 1 + lc (sgT (t 0) tl) ((P 4) + 1))) 5 (sgT (t 0) tl (P 4))) 6 0) 7 0) 8 0) 9 (lc (sgT (t 0) tl) ((P 4) + 1))) 10 (wv (sgT (t 0) tl) ((P 4) + 1) (lc (sgT (t 0) tl) ((P 4) + 1)))) hx hb hr hlk hP hD hS dX0_readOrder_187 (ro_no (q := (P 4) + 1 + lc (sgT (t 0) tl) ((P 4) + 1)) (by rw [prs, if_neg (by omega), if_neg (by omega), if_pos (by omega), prL, if_pos hd_7, if_neg hd_8]) ⟨show P 0 = P 0 by omega, show P 3 = P 3 by omega, show sgT (t 0) tl (P 4) = sgT (t 0) tl (P 4) by omega, show (P 4) + 1 + lc (sgT (t 0) tl) ((P 4) + 1) ≤ P 4 + 100 by omega, show 0 ≤ 9 by omega, show 0 ≤ 9 by omega, show 0 ≤ 9 by omega, show lc (sgT (t 0) tl) ((P 4) + 1) ≤ 60 by omega⟩ (show 1 = 1 by omega) (show (P 4) + 1 + lc (sgT (t 0) tl) ((P 4) + 1) - P 3 = (P 4) + 1 + lc (sgT (t 0) tl) ((P 4) + 1) - P 4 by omega))
    · have hlc6 := lc_le60 (sgT (t 0) tl) ((P 4) + 1)
      refine z_callVV (As := [.ref (b 0)]) (rest := []) (wr := []) (C := RX0) F (c_X0_readLetters_f l G q d (nup (nup (nup (nup (nup (nup (nup P 4 ((P 4) + 1)) 5 (sgT (t 0) tl (P 4))) 6 0) 7 0) 8 0) 9 0) 10 0) b t L (show (P 4) + 1 ≤ 400 by omega) tl hL hL6 hT rfl rfl (by omega) (by exact h1) (show P 3 ≤ (P 4) + 1 by omega)) (cwV 1 hts gX0_readOrder_X0_readLetters rfl rfl rfl (by decide +kernel) ⟨Nat.le_of_ble_eq_true rfl, Nat.le_of_ble_eq_true rfl⟩) hKK (z_recv hKK hP (q0 := 0) (ci := 0) rfl rfl) hP hD hS hA rfl hl.1 rfl (Nat.le_of_ble_eq_true rfl) ⟨Nat.zero_le _, Nat.zero_le _⟩ dX0_readOrder_96 (fun H locs hP hD hS => ?_)
      have hP : va_P G.1 vwCl (playW G q d (nup (nup (nup (nup (nup (nup (nup (nup (nup P 1 1) 2 ((P 4) + 1 + lc (sgT (t 0) tl) ((P 4) + 1) - P 3)) 4 ((P 4) + 1 + lc (sgT (t 0) tl) ((P 4) + 1))) 5 (sgT (t 0) tl (P 4))) 6 0) 7 0) 8 0) 9 (lc (sgT (t 0) tl) ((P 4) + 1))) 10 (wv (sgT (t 0) tl) ((P 4) + 1) (lc (sgT (t 0) tl) ((P 4) + 1)))) ++ textW G b t L) H := hP
      have hD : va_D A (playW G q d (nup (nup (nup (nup (nup (nup (nup (nup (nup P 1 1) 2 ((P 4) + 1 + lc (sgT (t 0) tl) ((P 4) + 1) - P 3)) 4 ((P 4) + 1 + lc (sgT (t 0) tl) ((P 4) + 1))) 5 (sgT (t 0) tl (P 4))) 6 0) 7 0) 8 0) 9 (lc (sgT (t 0) tl) ((P 4) + 1))) 10 (wv (sgT (t 0) tl) ((P 4) + 1) (lc (sgT (t 0) tl) ((P 4) + 1)))) ++ textW G b t L) := hD
      refine lv_goto (tgt := 180) hx hb dX0_readOrder_99 (by decide) ?_
      refine lv_aload_n hx hb dX0_readOrder_180 rfl (lv_at hl 0 rfl) ?_
      refine lv_aload_n hx hb dX0_readOrder_181 rfl (lv_at hl 1 rfl) ?_
      refine lv_bipush (v := nI 59) hx hb dX0_readOrder_182 (by decide) ?_
      refine z_callVVE (As := [.ref (b 0), .int (nI 59)]) (rest := []) (wr := []) (C := RX0) F (c_X0_readSign_x l G q d (nup (nup (nup (nup (nup (nup (nup (nup (nup P 1 1) 2 ((P 4) + 1 + lc (sgT (t 0) tl) ((P 4) + 1) - P 3)) 4 ((P 4) + 1 + lc (sgT (t 0) tl) ((P 4) + 1))) 5 (sgT (t 0) tl (P 4))) 6 0) 7 0) 8 0) 9 (lc (sgT (t 0) tl) ((P 4) + 1))) 10 (wv (sgT (t 0) tl) ((P 4) + 1) (lc (sgT (t 0) tl) ((P 4) + 1)))) b t L (59) (by omega) (show (P 4) + 1 + lc (sgT (t 0) tl) ((P 4) + 1) ≤ 400 by omega) tl hL hL6 hT (show ¬ 1 = 0 by omega) (show 1 ≤ 3 by omega) (show P 3 ≤ (P 4) + 1 + lc (sgT (t 0) tl) ((P 4) + 1) by omega)) (cwV 2 hts gX0_readOrder_X0_readSign rfl rfl rfl (by decide +kernel) ⟨Nat.le_of_ble_eq_true rfl, Nat.le_of_ble_eq_true rfl⟩) hKK (z_recv hKK hP (q0 := 0) (ci := 0) rfl rfl) hP hD hS hA rfl hl.1 rfl (Nat.le_of_ble_eq_true rfl) ⟨Nat.zero_le _, Nat.zero_le _⟩ dX0_readOrder_184 (fun u_9 H locs hq_9 hP hD hS => ?_)
      have f0_9 : u_9 0 = P 0 := hq_9.1 0 (by decide)
      have f1_9 : u_9 1 = 1 := hq_9.1 1 (by decide)
      have f2_9 : u_9 2 = (P 4) + 1 + lc (sgT (t 0) tl) ((P 4) + 1) - P 3 := hq_9.1 2 (by decide)
      have f3_9 : u_9 3 = P 3 := hq_9.1 3 (by decide)
      have f5_9 : u_9 5 = sgT (t 0) tl (P 4) := hq_9.1 5 (by decide)
      have f6_9 : u_9 6 = 0 := hq_9.1 6 (by decide)
      have f7_9 : u_9 7 = 0 := hq_9.1 7 (by decide)
      have f8_9 : u_9 8 = 0 := hq_9.1 8 (by decide)
      have f9_9 : u_9 9 = lc (sgT (t 0) tl) ((P 4) + 1) := hq_9.1 9 (by decide)
      have f10_9 : u_9 10 = wv (sgT (t 0) tl) ((P 4) + 1) (lc (sgT (t 0) tl) ((P 4) + 1)) := hq_9.1 10 (by decide)
      have f4_9 : u_9 4 ≤ (P 4) + 1 + lc (sgT (t 0) tl) ((P 4) + 1) + 1 := hq_9.2.2
      have g4_9 : (P 4) + 1 + lc (sgT (t 0) tl) ((P 4) + 1) ≤ u_9 4 := hq_9.2.1
      have hP : va_P G.1 vwCl (playW G q d u_9 ++ textW G b t L) H := hP
      have hD : va_D A (playW G q d u_9 ++ textW G b t L) := hD
      exact z_vretE u_9 hx hb hr hlk hP hD hS dX0_readOrder_187 (ro_no (q := (P 4) + 1 + lc (sgT (t 0) tl) ((P 4) + 1)) (by rw [prs, if_neg (by omega), if_neg (by omega), if_pos (by omega), prL, if_neg hd_7]) ⟨show u_9 0 = P 0 by omega, show u_9 3 = P 3 by omega, show u_9 5 = sgT (t 0) tl (P 4) by omega, show u_9 4 ≤ P 4 + 100 by omega, show u_9 6 ≤ 9 by omega, show u_9 7 ≤ 9 by omega, show u_9 8 ≤ 9 by omega, show u_9 9 ≤ 60 by omega⟩ (show u_9 1 = 1 by omega) (show u_9 2 = (P 4) + 1 + lc (sgT (t 0) tl) ((P 4) + 1) - P 4 by omega))
  · refine z_top (v := nI 61) (by rw [hk]) ?_
    refine lv_lookup (off := 61) (tgt := 102) hx hb dX0_readOrder_41 (by decide) (by decide) (by decide) ?_
    refine lv_aload_n hx hb dX0_readOrder_102 rfl (lv_at hl 0 rfl) ?_
    refine lv_dup hx hb dX0_readOrder_103 rfl ?_
    refine va_get (D := G.1) (ci := 0) (v := .int (nI (P 4))) (C := RX0) (T := TX0) (N := 12) hx hb hts hinX0 hown hKK.1 hP 0 rfl rfl 5 (by decide) fl_29 (fun _ h9 => h9) rfl dX0_readOrder_104 ?_
    refine lv_iconst (v := nI 1) hx hb dX0_readOrder_107 (by decide) ?_
    refine z_add (v := nI ((P 4) + 1)) hx hb dX0_readOrder_108 (nI_add _ _) ?_
    refine z_put (w2 := playW G q d (nup (nup (nup (nup (nup (nup (nup P 4 ((P 4) + 1)) 5 (sgT (t 0) tl (P 4))) 6 0) 7 0) 8 0) 9 0) 10 0) ++ textW G b t L) hx hb hts hinX0 tyX0 tyX0_ok nmX0 hown hKK hP hD hS 0 (ci := 0) (C := RX0) (T := TX0) (N := 12) rfl rfl 5 (by decide) fl_29 rfl rfl rfl (Nat.le_of_ble_eq_true rfl) rfl dX0_readOrder_109 (fun H locs hP hD hS => ?_)
    refine lv_aload_n hx hb dX0_readOrder_112 rfl (lv_at hl 0 rfl) ?_
    refine lv_aload_n hx hb dX0_readOrder_113 rfl (lv_at hl 0 rfl) ?_
    refine lv_aload_n hx hb dX0_readOrder_114 rfl (lv_at hl 1 rfl) ?_
    rcases z_b (dgB (sgT (t 0) tl ((P 4) + 1))) with hd_10 | hd_10
    · have hg_10 := dgB_t hd_10
      refine z_callVI (As := [.ref (b 0)]) (rest := [.ref q]) (wr := []) (C := RX0) F (c_X0_readDigit_t l G q d (nup (nup (nup (nup (nup (nup (nup P 4 ((P 4) + 1)) 5 (sgT (t 0) tl (P 4))) 6 0) 7 0) 8 0) 9 0) 10 0) b t L (show (P 4) + 1 ≤ 400 by omega) tl hL hL6 hT hd_10) (cwV 1 hts gX0_readOrder_X0_readDigit rfl rfl rfl (by decide +kernel) ⟨Nat.le_of_ble_eq_true rfl, Nat.le_of_ble_eq_true rfl⟩) hKK (z_recv hKK hP (q0 := 0) (ci := 0) rfl rfl) hP hD hS hA rfl hl.1 rfl (Nat.le_of_ble_eq_true rfl) ⟨Nat.zero_le _, Nat.zero_le _⟩ dX0_readOrder_115 (fun H locs hP hD hS => ?_)
      have hP : va_P G.1 vwCl (playW G q d (nup (nup (nup (nup (nup (nup (nup P 4 ((P 4) + 2)) 5 (sgT (t 0) tl (P 4))) 6 0) 7 0) 8 0) 9 0) 10 0) ++ textW G b t L) H := hP
      have hD : va_D A (playW G q d (nup (nup (nup (nup (nup (nup (nup P 4 ((P 4) + 2)) 5 (sgT (t 0) tl (P 4))) 6 0) 7 0) 8 0) 9 0) 10 0) ++ textW G b t L) := hD
      refine z_put (w2 := playW G q d (nup (nup (nup (nup (nup (nup (nup P 4 ((P 4) + 2)) 5 (sgT (t 0) tl (P 4))) 6 (sgT (t 0) tl ((P 4) + 1) - 48)) 7 0) 8 0) 9 0) 10 0) ++ textW G b t L) hx hb hts hinX0 tyX0 tyX0_ok nmX0 hown hKK hP hD hS 0 (ci := 0) (C := RX0) (T := TX0) (N := 12) rfl rfl 7 (by decide) fl_58 rfl rfl rfl (Nat.le_of_ble_eq_true rfl) rfl dX0_readOrder_118 (fun H locs hP hD hS => ?_)
      refine lv_aload_n hx hb dX0_readOrder_121 rfl (lv_at hl 0 rfl) ?_
      refine lv_aload_n hx hb dX0_readOrder_122 rfl (lv_at hl 1 rfl) ?_
      refine lv_bipush (v := nI 44) hx hb dX0_readOrder_123 (by decide) ?_
      rcases Classical.em (sgT (t 0) tl ((P 4) + 2) = 44) with hd_11 | hd_11
      · skip
        refine z_callVV (As := [.ref (b 0), .int (nI 44)]) (rest := []) (wr := []) (C := RX0) F (c_X0_readSign_t l G q d (nup (nup (nup (nup (nup (nup (nup P 4 ((P 4) + 2)) 5 (sgT (t 0) tl (P 4))) 6 (sgT (t 0) tl ((P 4) + 1) - 48)) 7 0) 8 0) 9 0) 10 0) b t L (44) (by omega) (show (P 4) + 2 ≤ 400 by omega) tl hL hL6 hT hd_11) (cwV 2 hts gX0_readOrder_X0_readSign rfl rfl rfl (by decide +kernel) ⟨Nat.le_of_ble_eq_true rfl, Nat.le_of_ble_eq_true rfl⟩) hKK (z_recv hKK hP (q0 := 0) (ci := 0) rfl rfl) hP hD hS hA rfl hl.1 rfl (Nat.le_of_ble_eq_true rfl) ⟨Nat.zero_le _, Nat.zero_le _⟩ dX0_readOrder_125 (fun H locs hP hD hS => ?_)
        have hP : va_P G.1 vwCl (playW G q d (nup (nup (nup (nup (nup (nup (nup P 4 ((P 4) + 3)) 5 (sgT (t 0) tl (P 4))) 6 (sgT (t 0) tl ((P 4) + 1) - 48)) 7 0) 8 0) 9 0) 10 0) ++ textW G b t L) H := hP
        have hD : va_D A (playW G q d (nup (nup (nup (nup (nup (nup (nup P 4 ((P 4) + 3)) 5 (sgT (t 0) tl (P 4))) 6 (sgT (t 0) tl ((P 4) + 1) - 48)) 7 0) 8 0) 9 0) 10 0) ++ textW G b t L) := hD
        refine lv_aload_n hx hb dX0_readOrder_128 rfl (lv_at hl 0 rfl) ?_
        refine lv_aload_n hx hb dX0_readOrder_129 rfl (lv_at hl 0 rfl) ?_
        refine lv_aload_n hx hb dX0_readOrder_130 rfl (lv_at hl 1 rfl) ?_
        rcases z_b (dgB (sgT (t 0) tl ((P 4) + 3))) with hd_12 | hd_12
        · have hg_12 := dgB_t hd_12
          refine z_callVI (As := [.ref (b 0)]) (rest := [.ref q]) (wr := []) (C := RX0) F (c_X0_readDigit_t l G q d (nup (nup (nup (nup (nup (nup (nup P 4 ((P 4) + 3)) 5 (sgT (t 0) tl (P 4))) 6 (sgT (t 0) tl ((P 4) + 1) - 48)) 7 0) 8 0) 9 0) 10 0) b t L (show (P 4) + 3 ≤ 400 by omega) tl hL hL6 hT hd_12) (cwV 1 hts gX0_readOrder_X0_readDigit rfl rfl rfl (by decide +kernel) ⟨Nat.le_of_ble_eq_true rfl, Nat.le_of_ble_eq_true rfl⟩) hKK (z_recv hKK hP (q0 := 0) (ci := 0) rfl rfl) hP hD hS hA rfl hl.1 rfl (Nat.le_of_ble_eq_true rfl) ⟨Nat.zero_le _, Nat.zero_le _⟩ dX0_readOrder_131 (fun H locs hP hD hS => ?_)
          have hP : va_P G.1 vwCl (playW G q d (nup (nup (nup (nup (nup (nup (nup P 4 ((P 4) + 4)) 5 (sgT (t 0) tl (P 4))) 6 (sgT (t 0) tl ((P 4) + 1) - 48)) 7 0) 8 0) 9 0) 10 0) ++ textW G b t L) H := hP
          have hD : va_D A (playW G q d (nup (nup (nup (nup (nup (nup (nup P 4 ((P 4) + 4)) 5 (sgT (t 0) tl (P 4))) 6 (sgT (t 0) tl ((P 4) + 1) - 48)) 7 0) 8 0) 9 0) 10 0) ++ textW G b t L) := hD
          refine z_put (w2 := playW G q d (nup (nup (nup (nup (nup (nup (nup P 4 ((P 4) + 4)) 5 (sgT (t 0) tl (P 4))) 6 (sgT (t 0) tl ((P 4) + 1) - 48)) 7 (sgT (t 0) tl ((P 4) + 3) - 48)) 8 0) 9 0) 10 0) ++ textW G b t L) hx hb hts hinX0 tyX0 tyX0_ok nmX0 hown hKK hP hD hS 0 (ci := 0) (C := RX0) (T := TX0) (N := 12) rfl rfl 8 (by decide) fl_61 rfl rfl rfl (Nat.le_of_ble_eq_true rfl) rfl dX0_readOrder_134 (fun H locs hP hD hS => ?_)
          refine lv_aload_n hx hb dX0_readOrder_137 rfl (lv_at hl 0 rfl) ?_
          refine lv_aload_n hx hb dX0_readOrder_138 rfl (lv_at hl 1 rfl) ?_
          refine lv_bipush (v := nI 44) hx hb dX0_readOrder_139 (by decide) ?_
          rcases Classical.em (sgT (t 0) tl ((P 4) + 4) = 44) with hd_13 | hd_13
          · skip
            refine z_callVV (As := [.ref (b 0), .int (nI 44)]) (rest := []) (wr := []) (C := RX0) F (c_X0_readSign_t l G q d (nup (nup (nup (nup (nup (nup (nup P 4 ((P 4) + 4)) 5 (sgT (t 0) tl (P 4))) 6 (sgT (t 0) tl ((P 4) + 1) - 48)) 7 (sgT (t 0) tl ((P 4) + 3) - 48)) 8 0) 9 0) 10 0) b t L (44) (by omega) (show (P 4) + 4 ≤ 400 by omega) tl hL hL6 hT hd_13) (cwV 2 hts gX0_readOrder_X0_readSign rfl rfl rfl (by decide +kernel) ⟨Nat.le_of_ble_eq_true rfl, Nat.le_of_ble_eq_true rfl⟩) hKK (z_recv hKK hP (q0 := 0) (ci := 0) rfl rfl) hP hD hS hA rfl hl.1 rfl (Nat.le_of_ble_eq_true rfl) ⟨Nat.zero_le _, Nat.zero_le _⟩ dX0_readOrder_141 (fun H locs hP hD hS => ?_)
            have hP : va_P G.1 vwCl (playW G q d (nup (nup (nup (nup (nup (nup (nup P 4 ((P 4) + 5)) 5 (sgT (t 0) tl (P 4))) 6 (sgT (t 0) tl ((P 4) + 1) - 48)) 7 (sgT (t 0) tl ((P 4) + 3) - 48)) 8 0) 9 0) 10 0) ++ textW G b t L) H := hP
            have hD : va_D A (playW G q d (nup (nup (nup (nup (nup (nup (nup P 4 ((P 4) + 5)) 5 (sgT (t 0) tl (P 4))) 6 (sgT (t 0) tl ((P 4) + 1) - 48)) 7 (sgT (t 0) tl ((P 4) + 3) - 48)) 8 0) 9 0) 10 0) ++ textW G b t L) := hD
            refine lv_aload_n hx hb dX0_readOrder_144 rfl (lv_at hl 0 rfl) ?_
            refine lv_aload_n hx hb dX0_readOrder_145 rfl (lv_at hl 1 rfl) ?_
            rcases Classical.em (0 < lc (sgT (t 0) tl) ((P 4) + 5)) with hd_14 | hd_14
            · skip
              refine z_callVV (As := [.ref (b 0)]) (rest := []) (wr := []) (C := RX0) F (c_X0_readLetters_y l G q d (nup (nup (nup (nup (nup (nup (nup P 4 ((P 4) + 5)) 5 (sgT (t 0) tl (P 4))) 6 (sgT (t 0) tl ((P 4) + 1) - 48)) 7 (sgT (t 0) tl ((P 4) + 3) - 48)) 8 0) 9 0) 10 0) b t L (show (P 4) + 5 ≤ 400 by omega) tl hL hL6 hT rfl rfl hd_14) (cwV 1 hts gX0_readOrder_X0_readLetters rfl rfl rfl (by decide +kernel) ⟨Nat.le_of_ble_eq_true rfl, Nat.le_of_ble_eq_true rfl⟩) hKK (z_recv hKK hP (q0 := 0) (ci := 0) rfl rfl) hP hD hS hA rfl hl.1 rfl (Nat.le_of_ble_eq_true rfl) ⟨Nat.zero_le _, Nat.zero_le _⟩ dX0_readOrder_146 (fun H locs hP hD hS => ?_)
              have hlc6 := lc_le60 (sgT (t 0) tl) ((P 4) + 5)
              have hP : va_P G.1 vwCl (playW G q d (nup (nup (nup (nup (nup (nup (nup P 4 ((P 4) + 5 + lc (sgT (t 0) tl) ((P 4) + 5))) 5 (sgT (t 0) tl (P 4))) 6 (sgT (t 0) tl ((P 4) + 1) - 48)) 7 (sgT (t 0) tl ((P 4) + 3) - 48)) 8 0) 9 (lc (sgT (t 0) tl) ((P 4) + 5))) 10 (wv (sgT (t 0) tl) ((P 4) + 5) (lc (sgT (t 0) tl) ((P 4) + 5)))) ++ textW G b t L) H := hP
              have hD : va_D A (playW G q d (nup (nup (nup (nup (nup (nup (nup P 4 ((P 4) + 5 + lc (sgT (t 0) tl) ((P 4) + 5))) 5 (sgT (t 0) tl (P 4))) 6 (sgT (t 0) tl ((P 4) + 1) - 48)) 7 (sgT (t 0) tl ((P 4) + 3) - 48)) 8 0) 9 (lc (sgT (t 0) tl) ((P 4) + 5))) 10 (wv (sgT (t 0) tl) ((P 4) + 5) (lc (sgT (t 0) tl) ((P 4) + 5)))) ++ textW G b t L) := hD
              refine lv_goto (tgt := 180) hx hb dX0_readOrder_149 (by decide) ?_
              refine lv_aload_n hx hb dX0_readOrder_180 rfl (lv_at hl 0 rfl) ?_
              refine lv_aload_n hx hb dX0_readOrder_181 rfl (lv_at hl 1 rfl) ?_
              refine lv_bipush (v := nI 59) hx hb dX0_readOrder_182 (by decide) ?_
              rcases Classical.em (sgT (t 0) tl ((P 4) + 5 + lc (sgT (t 0) tl) ((P 4) + 5)) = 59) with hd_15 | hd_15
              · skip
                refine z_callVV (As := [.ref (b 0), .int (nI 59)]) (rest := []) (wr := []) (C := RX0) F (c_X0_readSign_t l G q d (nup (nup (nup (nup (nup (nup (nup P 4 ((P 4) + 5 + lc (sgT (t 0) tl) ((P 4) + 5))) 5 (sgT (t 0) tl (P 4))) 6 (sgT (t 0) tl ((P 4) + 1) - 48)) 7 (sgT (t 0) tl ((P 4) + 3) - 48)) 8 0) 9 (lc (sgT (t 0) tl) ((P 4) + 5))) 10 (wv (sgT (t 0) tl) ((P 4) + 5) (lc (sgT (t 0) tl) ((P 4) + 5)))) b t L (59) (by omega) (show (P 4) + 5 + lc (sgT (t 0) tl) ((P 4) + 5) ≤ 400 by omega) tl hL hL6 hT hd_15) (cwV 2 hts gX0_readOrder_X0_readSign rfl rfl rfl (by decide +kernel) ⟨Nat.le_of_ble_eq_true rfl, Nat.le_of_ble_eq_true rfl⟩) hKK (z_recv hKK hP (q0 := 0) (ci := 0) rfl rfl) hP hD hS hA rfl hl.1 rfl (Nat.le_of_ble_eq_true rfl) ⟨Nat.zero_le _, Nat.zero_le _⟩ dX0_readOrder_184 (fun H locs hP hD hS => ?_)
                have hP : va_P G.1 vwCl (playW G q d (nup (nup (nup (nup (nup (nup (nup P 4 ((P 4) + 5 + lc (sgT (t 0) tl) ((P 4) + 5) + 1)) 5 (sgT (t 0) tl (P 4))) 6 (sgT (t 0) tl ((P 4) + 1) - 48)) 7 (sgT (t 0) tl ((P 4) + 3) - 48)) 8 0) 9 (lc (sgT (t 0) tl) ((P 4) + 5))) 10 (wv (sgT (t 0) tl) ((P 4) + 5) (lc (sgT (t 0) tl) ((P 4) + 5)))) ++ textW G b t L) H := hP
                have hD : va_D A (playW G q d (nup (nup (nup (nup (nup (nup (nup P 4 ((P 4) + 5 + lc (sgT (t 0) tl) ((P 4) + 5) + 1)) 5 (sgT (t 0) tl (P 4))) 6 (sgT (t 0) tl ((P 4) + 1) - 48)) 7 (sgT (t 0) tl ((P 4) + 3) - 48)) 8 0) 9 (lc (sgT (t 0) tl) ((P 4) + 5))) 10 (wv (sgT (t 0) tl) ((P 4) + 5) (lc (sgT (t 0) tl) ((P 4) + 5)))) ++ textW G b t L) := hD
                exact z_vretE (nup (nup (nup (nup (nup (nup (nup P 4 ((P 4) + 5 + lc (sgT (t 0) tl) ((P 4) + 5) + 1)) 5 (sgT (t 0) tl (P 4))) 6 (sgT (t 0) tl ((P 4) + 1) - 48)) 7 (sgT (t 0) tl ((P 4) + 3) - 48)) 8 0) 9 (lc (sgT (t 0) tl) ((P 4) + 5))) 10 (wv (sgT (t 0) tl) ((P 4) + 5) (lc (sgT (t 0) tl) ((P 4) + 5)))) hx hb hr hlk hP hD hS dX0_readOrder_187 (ro_yes (q := (P 4) + 5 + lc (sgT (t 0) tl) ((P 4) + 5) + 1) (d0 := sgT (t 0) tl ((P 4) + 1) - 48) (d1 := sgT (t 0) tl ((P 4) + 3) - 48) (k := lc (sgT (t 0) tl) ((P 4) + 5)) (wd := wv (sgT (t 0) tl) ((P 4) + 5) (lc (sgT (t 0) tl) ((P 4) + 5))) (by rw [prs, if_neg (by omega), if_pos hk, if_pos hd_10, if_pos hd_11, if_pos hd_12, if_pos hd_13, prL, if_pos hd_14, if_pos hd_15]) ⟨show P 0 = P 0 by omega, show P 3 = P 3 by omega, show sgT (t 0) tl (P 4) = sgT (t 0) tl (P 4) by omega, show (P 4) + 5 + lc (sgT (t 0) tl) ((P 4) + 5) + 1 ≤ P 4 + 100 by omega, show sgT (t 0) tl ((P 4) + 1) - 48 ≤ 9 by omega, show sgT (t 0) tl ((P 4) + 3) - 48 ≤ 9 by omega, show 0 ≤ 9 by omega, show lc (sgT (t 0) tl) ((P 4) + 5) ≤ 60 by omega⟩ (by exact h1) rfl rfl rfl (fun z => absurd z (by omega)) (fun _ => ⟨rfl, rfl, rfl⟩))
              · skip
                refine z_callVV (As := [.ref (b 0), .int (nI 59)]) (rest := []) (wr := []) (C := RX0) F (c_X0_readSign_f l G q d (nup (nup (nup (nup (nup (nup (nup P 4 ((P 4) + 5 + lc (sgT (t 0) tl) ((P 4) + 5))) 5 (sgT (t 0) tl (P 4))) 6 (sgT (t 0) tl ((P 4) + 1) - 48)) 7 (sgT (t 0) tl ((P 4) + 3) - 48)) 8 0) 9 (lc (sgT (t 0) tl) ((P 4) + 5))) 10 (wv (sgT (t 0) tl) ((P 4) + 5) (lc (sgT (t 0) tl) ((P 4) + 5)))) b t L (59) (by omega) (show (P 4) + 5 + lc (sgT (t 0) tl) ((P 4) + 5) ≤ 400 by omega) tl hL hL6 hT hd_15 (by exact h1) (show P 3 ≤ (P 4) + 5 + lc (sgT (t 0) tl) ((P 4) + 5) by omega)) (cwV 2 hts gX0_readOrder_X0_readSign rfl rfl rfl (by decide +kernel) ⟨Nat.le_of_ble_eq_true rfl, Nat.le_of_ble_eq_true rfl⟩) hKK (z_recv hKK hP (q0 := 0) (ci := 0) rfl rfl) hP hD hS hA rfl hl.1 rfl (Nat.le_of_ble_eq_true rfl) ⟨Nat.zero_le _, Nat.zero_le _⟩ dX0_readOrder_184 (fun H locs hP hD hS => ?_)
                have hP : va_P G.1 vwCl (playW G q d (nup (nup (nup (nup (nup (nup (nup (nup (nup P 1 1) 2 ((P 4) + 5 + lc (sgT (t 0) tl) ((P 4) + 5) - P 3)) 4 ((P 4) + 5 + lc (sgT (t 0) tl) ((P 4) + 5))) 5 (sgT (t 0) tl (P 4))) 6 (sgT (t 0) tl ((P 4) + 1) - 48)) 7 (sgT (t 0) tl ((P 4) + 3) - 48)) 8 0) 9 (lc (sgT (t 0) tl) ((P 4) + 5))) 10 (wv (sgT (t 0) tl) ((P 4) + 5) (lc (sgT (t 0) tl) ((P 4) + 5)))) ++ textW G b t L) H := hP
                have hD : va_D A (playW G q d (nup (nup (nup (nup (nup (nup (nup (nup (nup P 1 1) 2 ((P 4) + 5 + lc (sgT (t 0) tl) ((P 4) + 5) - P 3)) 4 ((P 4) + 5 + lc (sgT (t 0) tl) ((P 4) + 5))) 5 (sgT (t 0) tl (P 4))) 6 (sgT (t 0) tl ((P 4) + 1) - 48)) 7 (sgT (t 0) tl ((P 4) + 3) - 48)) 8 0) 9 (lc (sgT (t 0) tl) ((P 4) + 5))) 10 (wv (sgT (t 0) tl) ((P 4) + 5) (lc (sgT (t 0) tl) ((P 4) + 5)))) ++ textW G b t L) := hD
                exact z_vretE (nup (nup (nup (nup (nup (nup (nup (nup (nup P 1 1) 2 ((P 4) + 5 + lc (sgT (t 0) tl) ((P 4) + 5) - P 3)) 4 ((P 4) + 5 + lc (sgT (t 0) tl) ((P 4) + 5))) 5 (sgT (t 0) tl (P 4))) 6 (sgT (t 0) tl ((P 4) + 1) - 48)) 7 (sgT (t 0) tl ((P 4) + 3) - 48)) 8 0) 9 (lc (sgT (t 0) tl) ((P 4) + 5))) 10 (wv (sgT (t 0) tl) ((P 4) + 5) (lc (sgT (t 0) tl) ((P 4) + 5)))) hx hb hr hlk hP hD hS dX0_readOrder_187 (ro_no (q := (P 4) + 5 + lc (sgT (t 0) tl) ((P 4) + 5)) (by rw [prs, if_neg (by omega), if_pos hk, if_pos hd_10, if_pos hd_11, if_pos hd_12, if_pos hd_13, prL, if_pos hd_14, if_neg hd_15]) ⟨show P 0 = P 0 by omega, show P 3 = P 3 by omega, show sgT (t 0) tl (P 4) = sgT (t 0) tl (P 4) by omega, show (P 4) + 5 + lc (sgT (t 0) tl) ((P 4) + 5) ≤ P 4 + 100 by omega, show sgT (t 0) tl ((P 4) + 1) - 48 ≤ 9 by omega, show sgT (t 0) tl ((P 4) + 3) - 48 ≤ 9 by omega, show 0 ≤ 9 by omega, show lc (sgT (t 0) tl) ((P 4) + 5) ≤ 60 by omega⟩ (show 1 = 1 by omega) (show (P 4) + 5 + lc (sgT (t 0) tl) ((P 4) + 5) - P 3 = (P 4) + 5 + lc (sgT (t 0) tl) ((P 4) + 5) - P 4 by omega))
            · have hlc6 := lc_le60 (sgT (t 0) tl) ((P 4) + 5)
              refine z_callVV (As := [.ref (b 0)]) (rest := []) (wr := []) (C := RX0) F (c_X0_readLetters_f l G q d (nup (nup (nup (nup (nup (nup (nup P 4 ((P 4) + 5)) 5 (sgT (t 0) tl (P 4))) 6 (sgT (t 0) tl ((P 4) + 1) - 48)) 7 (sgT (t 0) tl ((P 4) + 3) - 48)) 8 0) 9 0) 10 0) b t L (show (P 4) + 5 ≤ 400 by omega) tl hL hL6 hT rfl rfl (by omega) (by exact h1) (show P 3 ≤ (P 4) + 5 by omega)) (cwV 1 hts gX0_readOrder_X0_readLetters rfl rfl rfl (by decide +kernel) ⟨Nat.le_of_ble_eq_true rfl, Nat.le_of_ble_eq_true rfl⟩) hKK (z_recv hKK hP (q0 := 0) (ci := 0) rfl rfl) hP hD hS hA rfl hl.1 rfl (Nat.le_of_ble_eq_true rfl) ⟨Nat.zero_le _, Nat.zero_le _⟩ dX0_readOrder_146 (fun H locs hP hD hS => ?_)
              have hP : va_P G.1 vwCl (playW G q d (nup (nup (nup (nup (nup (nup (nup (nup (nup P 1 1) 2 ((P 4) + 5 + lc (sgT (t 0) tl) ((P 4) + 5) - P 3)) 4 ((P 4) + 5 + lc (sgT (t 0) tl) ((P 4) + 5))) 5 (sgT (t 0) tl (P 4))) 6 (sgT (t 0) tl ((P 4) + 1) - 48)) 7 (sgT (t 0) tl ((P 4) + 3) - 48)) 8 0) 9 (lc (sgT (t 0) tl) ((P 4) + 5))) 10 (wv (sgT (t 0) tl) ((P 4) + 5) (lc (sgT (t 0) tl) ((P 4) + 5)))) ++ textW G b t L) H := hP
              have hD : va_D A (playW G q d (nup (nup (nup (nup (nup (nup (nup (nup (nup P 1 1) 2 ((P 4) + 5 + lc (sgT (t 0) tl) ((P 4) + 5) - P 3)) 4 ((P 4) + 5 + lc (sgT (t 0) tl) ((P 4) + 5))) 5 (sgT (t 0) tl (P 4))) 6 (sgT (t 0) tl ((P 4) + 1) - 48)) 7 (sgT (t 0) tl ((P 4) + 3) - 48)) 8 0) 9 (lc (sgT (t 0) tl) ((P 4) + 5))) 10 (wv (sgT (t 0) tl) ((P 4) + 5) (lc (sgT (t 0) tl) ((P 4) + 5)))) ++ textW G b t L) := hD
              refine lv_goto (tgt := 180) hx hb dX0_readOrder_149 (by decide) ?_
              refine lv_aload_n hx hb dX0_readOrder_180 rfl (lv_at hl 0 rfl) ?_
              refine lv_aload_n hx hb dX0_readOrder_181 rfl (lv_at hl 1 rfl) ?_
              refine lv_bipush (v := nI 59) hx hb dX0_readOrder_182 (by decide) ?_
              refine z_callVVE (As := [.ref (b 0), .int (nI 59)]) (rest := []) (wr := []) (C := RX0) F (c_X0_readSign_x l G q d (nup (nup (nup (nup (nup (nup (nup (nup (nup P 1 1) 2 ((P 4) + 5 + lc (sgT (t 0) tl) ((P 4) + 5) - P 3)) 4 ((P 4) + 5 + lc (sgT (t 0) tl) ((P 4) + 5))) 5 (sgT (t 0) tl (P 4))) 6 (sgT (t 0) tl ((P 4) + 1) - 48)) 7 (sgT (t 0) tl ((P 4) + 3) - 48)) 8 0) 9 (lc (sgT (t 0) tl) ((P 4) + 5))) 10 (wv (sgT (t 0) tl) ((P 4) + 5) (lc (sgT (t 0) tl) ((P 4) + 5)))) b t L (59) (by omega) (show (P 4) + 5 + lc (sgT (t 0) tl) ((P 4) + 5) ≤ 400 by omega) tl hL hL6 hT (show ¬ 1 = 0 by omega) (show 1 ≤ 3 by omega) (show P 3 ≤ (P 4) + 5 + lc (sgT (t 0) tl) ((P 4) + 5) by omega)) (cwV 2 hts gX0_readOrder_X0_readSign rfl rfl rfl (by decide +kernel) ⟨Nat.le_of_ble_eq_true rfl, Nat.le_of_ble_eq_true rfl⟩) hKK (z_recv hKK hP (q0 := 0) (ci := 0) rfl rfl) hP hD hS hA rfl hl.1 rfl (Nat.le_of_ble_eq_true rfl) ⟨Nat.zero_le _, Nat.zero_le _⟩ dX0_readOrder_184 (fun u_16 H locs hq_16 hP hD hS => ?_)
              have f0_16 : u_16 0 = P 0 := hq_16.1 0 (by decide)
              have f1_16 : u_16 1 = 1 := hq_16.1 1 (by decide)
              have f2_16 : u_16 2 = (P 4) + 5 + lc (sgT (t 0) tl) ((P 4) + 5) - P 3 := hq_16.1 2 (by decide)
              have f3_16 : u_16 3 = P 3 := hq_16.1 3 (by decide)
              have f5_16 : u_16 5 = sgT (t 0) tl (P 4) := hq_16.1 5 (by decide)
              have f6_16 : u_16 6 = sgT (t 0) tl ((P 4) + 1) - 48 := hq_16.1 6 (by decide)
              have f7_16 : u_16 7 = sgT (t 0) tl ((P 4) + 3) - 48 := hq_16.1 7 (by decide)
              have f8_16 : u_16 8 = 0 := hq_16.1 8 (by decide)
              have f9_16 : u_16 9 = lc (sgT (t 0) tl) ((P 4) + 5) := hq_16.1 9 (by decide)
              have f10_16 : u_16 10 = wv (sgT (t 0) tl) ((P 4) + 5) (lc (sgT (t 0) tl) ((P 4) + 5)) := hq_16.1 10 (by decide)
              have f4_16 : u_16 4 ≤ (P 4) + 5 + lc (sgT (t 0) tl) ((P 4) + 5) + 1 := hq_16.2.2
              have g4_16 : (P 4) + 5 + lc (sgT (t 0) tl) ((P 4) + 5) ≤ u_16 4 := hq_16.2.1
              have hP : va_P G.1 vwCl (playW G q d u_16 ++ textW G b t L) H := hP
              have hD : va_D A (playW G q d u_16 ++ textW G b t L) := hD
              exact z_vretE u_16 hx hb hr hlk hP hD hS dX0_readOrder_187 (ro_no (q := (P 4) + 5 + lc (sgT (t 0) tl) ((P 4) + 5)) (by rw [prs, if_neg (by omega), if_pos hk, if_pos hd_10, if_pos hd_11, if_pos hd_12, if_pos hd_13, prL, if_neg hd_14]) ⟨show u_16 0 = P 0 by omega, show u_16 3 = P 3 by omega, show u_16 5 = sgT (t 0) tl (P 4) by omega, show u_16 4 ≤ P 4 + 100 by omega, show u_16 6 ≤ 9 by omega, show u_16 7 ≤ 9 by omega, show u_16 8 ≤ 9 by omega, show u_16 9 ≤ 60 by omega⟩ (show u_16 1 = 1 by omega) (show u_16 2 = (P 4) + 5 + lc (sgT (t 0) tl) ((P 4) + 5) - P 4 by omega))
          · skip
            refine z_callVV (As := [.ref (b 0), .int (nI 44)]) (rest := []) (wr := []) (C := RX0) F (c_X0_readSign_f l G q d (nup (nup (nup (nup (nup (nup (nup P 4 ((P 4) + 4)) 5 (sgT (t 0) tl (P 4))) 6 (sgT (t 0) tl ((P 4) + 1) - 48)) 7 (sgT (t 0) tl ((P 4) + 3) - 48)) 8 0) 9 0) 10 0) b t L (44) (by omega) (show (P 4) + 4 ≤ 400 by omega) tl hL hL6 hT hd_13 (by exact h1) (show P 3 ≤ (P 4) + 4 by omega)) (cwV 2 hts gX0_readOrder_X0_readSign rfl rfl rfl (by decide +kernel) ⟨Nat.le_of_ble_eq_true rfl, Nat.le_of_ble_eq_true rfl⟩) hKK (z_recv hKK hP (q0 := 0) (ci := 0) rfl rfl) hP hD hS hA rfl hl.1 rfl (Nat.le_of_ble_eq_true rfl) ⟨Nat.zero_le _, Nat.zero_le _⟩ dX0_readOrder_141 (fun H locs hP hD hS => ?_)
            have hP : va_P G.1 vwCl (playW G q d (nup (nup (nup (nup (nup (nup (nup (nup (nup P 1 1) 2 ((P 4) + 4 - P 3)) 4 ((P 4) + 4)) 5 (sgT (t 0) tl (P 4))) 6 (sgT (t 0) tl ((P 4) + 1) - 48)) 7 (sgT (t 0) tl ((P 4) + 3) - 48)) 8 0) 9 0) 10 0) ++ textW G b t L) H := hP
            have hD : va_D A (playW G q d (nup (nup (nup (nup (nup (nup (nup (nup (nup P 1 1) 2 ((P 4) + 4 - P 3)) 4 ((P 4) + 4)) 5 (sgT (t 0) tl (P 4))) 6 (sgT (t 0) tl ((P 4) + 1) - 48)) 7 (sgT (t 0) tl ((P 4) + 3) - 48)) 8 0) 9 0) 10 0) ++ textW G b t L) := hD
            refine lv_aload_n hx hb dX0_readOrder_144 rfl (lv_at hl 0 rfl) ?_
            refine lv_aload_n hx hb dX0_readOrder_145 rfl (lv_at hl 1 rfl) ?_
            refine z_callVVE (As := [.ref (b 0)]) (rest := []) (wr := []) (C := RX0) F (c_X0_readLetters_x l G q d (nup (nup (nup (nup (nup (nup (nup (nup (nup P 1 1) 2 ((P 4) + 4 - P 3)) 4 ((P 4) + 4)) 5 (sgT (t 0) tl (P 4))) 6 (sgT (t 0) tl ((P 4) + 1) - 48)) 7 (sgT (t 0) tl ((P 4) + 3) - 48)) 8 0) 9 0) 10 0) b t L (show (P 4) + 4 ≤ 400 by omega) tl hL hL6 hT (show 0 = 0 by omega) (show 0 = 0 by omega) (show ¬ 1 = 0 by omega) (show 1 ≤ 3 by omega) (show P 3 ≤ (P 4) + 4 by omega)) (cwV 1 hts gX0_readOrder_X0_readLetters rfl rfl rfl (by decide +kernel) ⟨Nat.le_of_ble_eq_true rfl, Nat.le_of_ble_eq_true rfl⟩) hKK (z_recv hKK hP (q0 := 0) (ci := 0) rfl rfl) hP hD hS hA rfl hl.1 rfl (Nat.le_of_ble_eq_true rfl) ⟨Nat.zero_le _, Nat.zero_le _⟩ dX0_readOrder_146 (fun u_17 H locs hq_17 hP hD hS => ?_)
            have f0_17 : u_17 0 = P 0 := hq_17.1 0 (by decide) (by decide) (by decide)
            have f1_17 : u_17 1 = 1 := hq_17.1 1 (by decide) (by decide) (by decide)
            have f2_17 : u_17 2 = (P 4) + 4 - P 3 := hq_17.1 2 (by decide) (by decide) (by decide)
            have f3_17 : u_17 3 = P 3 := hq_17.1 3 (by decide) (by decide) (by decide)
            have f5_17 : u_17 5 = sgT (t 0) tl (P 4) := hq_17.1 5 (by decide) (by decide) (by decide)
            have f6_17 : u_17 6 = sgT (t 0) tl ((P 4) + 1) - 48 := hq_17.1 6 (by decide) (by decide) (by decide)
            have f7_17 : u_17 7 = sgT (t 0) tl ((P 4) + 3) - 48 := hq_17.1 7 (by decide) (by decide) (by decide)
            have f8_17 : u_17 8 = 0 := hq_17.1 8 (by decide) (by decide) (by decide)
            have f4_17 : u_17 4 ≤ (P 4) + 4 + 60 := hq_17.2.2.1
            have f9_17 : u_17 9 ≤ 60 := hq_17.2.2.2
            have g4_17 : (P 4) + 4 ≤ u_17 4 := hq_17.2.1
            have hP : va_P G.1 vwCl (playW G q d u_17 ++ textW G b t L) H := hP
            have hD : va_D A (playW G q d u_17 ++ textW G b t L) := hD
            refine lv_goto (tgt := 180) hx hb dX0_readOrder_149 (by decide) ?_
            refine lv_aload_n hx hb dX0_readOrder_180 rfl (lv_at hl 0 rfl) ?_
            refine lv_aload_n hx hb dX0_readOrder_181 rfl (lv_at hl 1 rfl) ?_
            refine lv_bipush (v := nI 59) hx hb dX0_readOrder_182 (by decide) ?_
            refine z_callVVE (As := [.ref (b 0), .int (nI 59)]) (rest := []) (wr := []) (C := RX0) F (c_X0_readSign_x l G q d u_17 b t L (59) (by omega) (show u_17 4 ≤ 400 by omega) tl hL hL6 hT (show ¬ u_17 1 = 0 by omega) (show u_17 1 ≤ 3 by omega) (show u_17 3 ≤ u_17 4 by omega)) (cwV 2 hts gX0_readOrder_X0_readSign rfl rfl rfl (by decide +kernel) ⟨Nat.le_of_ble_eq_true rfl, Nat.le_of_ble_eq_true rfl⟩) hKK (z_recv hKK hP (q0 := 0) (ci := 0) rfl rfl) hP hD hS hA rfl hl.1 rfl (Nat.le_of_ble_eq_true rfl) ⟨Nat.zero_le _, Nat.zero_le _⟩ dX0_readOrder_184 (fun u_18 H locs hq_18 hP hD hS => ?_)
            have f0_18 : u_18 0 = u_17 0 := hq_18.1 0 (by decide)
            have f1_18 : u_18 1 = u_17 1 := hq_18.1 1 (by decide)
            have f2_18 : u_18 2 = u_17 2 := hq_18.1 2 (by decide)
            have f3_18 : u_18 3 = u_17 3 := hq_18.1 3 (by decide)
            have f5_18 : u_18 5 = u_17 5 := hq_18.1 5 (by decide)
            have f6_18 : u_18 6 = u_17 6 := hq_18.1 6 (by decide)
            have f7_18 : u_18 7 = u_17 7 := hq_18.1 7 (by decide)
            have f8_18 : u_18 8 = u_17 8 := hq_18.1 8 (by decide)
            have f9_18 : u_18 9 = u_17 9 := hq_18.1 9 (by decide)
            have f10_18 : u_18 10 = u_17 10 := hq_18.1 10 (by decide)
            have f4_18 : u_18 4 ≤ u_17 4 + 1 := hq_18.2.2
            have g4_18 : u_17 4 ≤ u_18 4 := hq_18.2.1
            have hP : va_P G.1 vwCl (playW G q d u_18 ++ textW G b t L) H := hP
            have hD : va_D A (playW G q d u_18 ++ textW G b t L) := hD
            exact z_vretE u_18 hx hb hr hlk hP hD hS dX0_readOrder_187 (ro_no (q := (P 4) + 4) (by rw [prs, if_neg (by omega), if_pos hk, if_pos hd_10, if_pos hd_11, if_pos hd_12, if_neg hd_13]) ⟨show u_18 0 = P 0 by omega, show u_18 3 = P 3 by omega, show u_18 5 = sgT (t 0) tl (P 4) by omega, show u_18 4 ≤ P 4 + 100 by omega, show u_18 6 ≤ 9 by omega, show u_18 7 ≤ 9 by omega, show u_18 8 ≤ 9 by omega, show u_18 9 ≤ 60 by omega⟩ (show u_18 1 = 1 by omega) (show u_18 2 = (P 4) + 4 - P 4 by omega))
        · skip
          refine z_callVI (As := [.ref (b 0)]) (rest := [.ref q]) (wr := []) (C := RX0) F (c_X0_readDigit_f l G q d (nup (nup (nup (nup (nup (nup (nup P 4 ((P 4) + 3)) 5 (sgT (t 0) tl (P 4))) 6 (sgT (t 0) tl ((P 4) + 1) - 48)) 7 0) 8 0) 9 0) 10 0) b t L (show (P 4) + 3 ≤ 400 by omega) tl hL hL6 hT hd_12 (by exact h1) (show P 3 ≤ (P 4) + 3 by omega)) (cwV 1 hts gX0_readOrder_X0_readDigit rfl rfl rfl (by decide +kernel) ⟨Nat.le_of_ble_eq_true rfl, Nat.le_of_ble_eq_true rfl⟩) hKK (z_recv hKK hP (q0 := 0) (ci := 0) rfl rfl) hP hD hS hA rfl hl.1 rfl (Nat.le_of_ble_eq_true rfl) ⟨Nat.zero_le _, Nat.zero_le _⟩ dX0_readOrder_131 (fun H locs hP hD hS => ?_)
          have hP : va_P G.1 vwCl (playW G q d (nup (nup (nup (nup (nup (nup (nup (nup (nup P 1 1) 2 ((P 4) + 3 - P 3)) 4 ((P 4) + 3)) 5 (sgT (t 0) tl (P 4))) 6 (sgT (t 0) tl ((P 4) + 1) - 48)) 7 0) 8 0) 9 0) 10 0) ++ textW G b t L) H := hP
          have hD : va_D A (playW G q d (nup (nup (nup (nup (nup (nup (nup (nup (nup P 1 1) 2 ((P 4) + 3 - P 3)) 4 ((P 4) + 3)) 5 (sgT (t 0) tl (P 4))) 6 (sgT (t 0) tl ((P 4) + 1) - 48)) 7 0) 8 0) 9 0) 10 0) ++ textW G b t L) := hD
          refine z_put (w2 := playW G q d (nup (nup (nup (nup (nup (nup (nup (nup (nup P 1 1) 2 ((P 4) + 3 - P 3)) 4 ((P 4) + 3)) 5 (sgT (t 0) tl (P 4))) 6 (sgT (t 0) tl ((P 4) + 1) - 48)) 7 0) 8 0) 9 0) 10 0) ++ textW G b t L) hx hb hts hinX0 tyX0 tyX0_ok nmX0 hown hKK hP hD hS 0 (ci := 0) (C := RX0) (T := TX0) (N := 12) rfl rfl 8 (by decide) fl_61 rfl rfl rfl (Nat.le_of_ble_eq_true rfl) rfl dX0_readOrder_134 (fun H locs hP hD hS => ?_)
          refine lv_aload_n hx hb dX0_readOrder_137 rfl (lv_at hl 0 rfl) ?_
          refine lv_aload_n hx hb dX0_readOrder_138 rfl (lv_at hl 1 rfl) ?_
          refine lv_bipush (v := nI 44) hx hb dX0_readOrder_139 (by decide) ?_
          refine z_callVVE (As := [.ref (b 0), .int (nI 44)]) (rest := []) (wr := []) (C := RX0) F (c_X0_readSign_x l G q d (nup (nup (nup (nup (nup (nup (nup (nup (nup P 1 1) 2 ((P 4) + 3 - P 3)) 4 ((P 4) + 3)) 5 (sgT (t 0) tl (P 4))) 6 (sgT (t 0) tl ((P 4) + 1) - 48)) 7 0) 8 0) 9 0) 10 0) b t L (44) (by omega) (show (P 4) + 3 ≤ 400 by omega) tl hL hL6 hT (show ¬ 1 = 0 by omega) (show 1 ≤ 3 by omega) (show P 3 ≤ (P 4) + 3 by omega)) (cwV 2 hts gX0_readOrder_X0_readSign rfl rfl rfl (by decide +kernel) ⟨Nat.le_of_ble_eq_true rfl, Nat.le_of_ble_eq_true rfl⟩) hKK (z_recv hKK hP (q0 := 0) (ci := 0) rfl rfl) hP hD hS hA rfl hl.1 rfl (Nat.le_of_ble_eq_true rfl) ⟨Nat.zero_le _, Nat.zero_le _⟩ dX0_readOrder_141 (fun u_19 H locs hq_19 hP hD hS => ?_)
          have f0_19 : u_19 0 = P 0 := hq_19.1 0 (by decide)
          have f1_19 : u_19 1 = 1 := hq_19.1 1 (by decide)
          have f2_19 : u_19 2 = (P 4) + 3 - P 3 := hq_19.1 2 (by decide)
          have f3_19 : u_19 3 = P 3 := hq_19.1 3 (by decide)
          have f5_19 : u_19 5 = sgT (t 0) tl (P 4) := hq_19.1 5 (by decide)
          have f6_19 : u_19 6 = sgT (t 0) tl ((P 4) + 1) - 48 := hq_19.1 6 (by decide)
          have f7_19 : u_19 7 = 0 := hq_19.1 7 (by decide)
          have f8_19 : u_19 8 = 0 := hq_19.1 8 (by decide)
          have f9_19 : u_19 9 = 0 := hq_19.1 9 (by decide)
          have f10_19 : u_19 10 = 0 := hq_19.1 10 (by decide)
          have f4_19 : u_19 4 ≤ (P 4) + 3 + 1 := hq_19.2.2
          have g4_19 : (P 4) + 3 ≤ u_19 4 := hq_19.2.1
          have hP : va_P G.1 vwCl (playW G q d u_19 ++ textW G b t L) H := hP
          have hD : va_D A (playW G q d u_19 ++ textW G b t L) := hD
          refine lv_aload_n hx hb dX0_readOrder_144 rfl (lv_at hl 0 rfl) ?_
          refine lv_aload_n hx hb dX0_readOrder_145 rfl (lv_at hl 1 rfl) ?_
          refine z_callVVE (As := [.ref (b 0)]) (rest := []) (wr := []) (C := RX0) F (c_X0_readLetters_x l G q d u_19 b t L (show u_19 4 ≤ 400 by omega) tl hL hL6 hT (show u_19 9 = 0 by omega) (show u_19 10 = 0 by omega) (show ¬ u_19 1 = 0 by omega) (show u_19 1 ≤ 3 by omega) (show u_19 3 ≤ u_19 4 by omega)) (cwV 1 hts gX0_readOrder_X0_readLetters rfl rfl rfl (by decide +kernel) ⟨Nat.le_of_ble_eq_true rfl, Nat.le_of_ble_eq_true rfl⟩) hKK (z_recv hKK hP (q0 := 0) (ci := 0) rfl rfl) hP hD hS hA rfl hl.1 rfl (Nat.le_of_ble_eq_true rfl) ⟨Nat.zero_le _, Nat.zero_le _⟩ dX0_readOrder_146 (fun u_20 H locs hq_20 hP hD hS => ?_)
          have f0_20 : u_20 0 = u_19 0 := hq_20.1 0 (by decide) (by decide) (by decide)
          have f1_20 : u_20 1 = u_19 1 := hq_20.1 1 (by decide) (by decide) (by decide)
          have f2_20 : u_20 2 = u_19 2 := hq_20.1 2 (by decide) (by decide) (by decide)
          have f3_20 : u_20 3 = u_19 3 := hq_20.1 3 (by decide) (by decide) (by decide)
          have f5_20 : u_20 5 = u_19 5 := hq_20.1 5 (by decide) (by decide) (by decide)
          have f6_20 : u_20 6 = u_19 6 := hq_20.1 6 (by decide) (by decide) (by decide)
          have f7_20 : u_20 7 = u_19 7 := hq_20.1 7 (by decide) (by decide) (by decide)
          have f8_20 : u_20 8 = u_19 8 := hq_20.1 8 (by decide) (by decide) (by decide)
          have f4_20 : u_20 4 ≤ u_19 4 + 60 := hq_20.2.2.1
          have f9_20 : u_20 9 ≤ 60 := hq_20.2.2.2
          have g4_20 : u_19 4 ≤ u_20 4 := hq_20.2.1
          have hP : va_P G.1 vwCl (playW G q d u_20 ++ textW G b t L) H := hP
          have hD : va_D A (playW G q d u_20 ++ textW G b t L) := hD
          refine lv_goto (tgt := 180) hx hb dX0_readOrder_149 (by decide) ?_
          refine lv_aload_n hx hb dX0_readOrder_180 rfl (lv_at hl 0 rfl) ?_
          refine lv_aload_n hx hb dX0_readOrder_181 rfl (lv_at hl 1 rfl) ?_
          refine lv_bipush (v := nI 59) hx hb dX0_readOrder_182 (by decide) ?_
          refine z_callVVE (As := [.ref (b 0), .int (nI 59)]) (rest := []) (wr := []) (C := RX0) F (c_X0_readSign_x l G q d u_20 b t L (59) (by omega) (show u_20 4 ≤ 400 by omega) tl hL hL6 hT (show ¬ u_20 1 = 0 by omega) (show u_20 1 ≤ 3 by omega) (show u_20 3 ≤ u_20 4 by omega)) (cwV 2 hts gX0_readOrder_X0_readSign rfl rfl rfl (by decide +kernel) ⟨Nat.le_of_ble_eq_true rfl, Nat.le_of_ble_eq_true rfl⟩) hKK (z_recv hKK hP (q0 := 0) (ci := 0) rfl rfl) hP hD hS hA rfl hl.1 rfl (Nat.le_of_ble_eq_true rfl) ⟨Nat.zero_le _, Nat.zero_le _⟩ dX0_readOrder_184 (fun u_21 H locs hq_21 hP hD hS => ?_)
          have f0_21 : u_21 0 = u_20 0 := hq_21.1 0 (by decide)
          have f1_21 : u_21 1 = u_20 1 := hq_21.1 1 (by decide)
          have f2_21 : u_21 2 = u_20 2 := hq_21.1 2 (by decide)
          have f3_21 : u_21 3 = u_20 3 := hq_21.1 3 (by decide)
          have f5_21 : u_21 5 = u_20 5 := hq_21.1 5 (by decide)
          have f6_21 : u_21 6 = u_20 6 := hq_21.1 6 (by decide)
          have f7_21 : u_21 7 = u_20 7 := hq_21.1 7 (by decide)
          have f8_21 : u_21 8 = u_20 8 := hq_21.1 8 (by decide)
          have f9_21 : u_21 9 = u_20 9 := hq_21.1 9 (by decide)
          have f10_21 : u_21 10 = u_20 10 := hq_21.1 10 (by decide)
          have f4_21 : u_21 4 ≤ u_20 4 + 1 := hq_21.2.2
          have g4_21 : u_20 4 ≤ u_21 4 := hq_21.2.1
          have hP : va_P G.1 vwCl (playW G q d u_21 ++ textW G b t L) H := hP
          have hD : va_D A (playW G q d u_21 ++ textW G b t L) := hD
          exact z_vretE u_21 hx hb hr hlk hP hD hS dX0_readOrder_187 (ro_no (q := (P 4) + 3) (by rw [prs, if_neg (by omega), if_pos hk, if_pos hd_10, if_pos hd_11, if_neg (by rw [hd_12]; decide)]) ⟨show u_21 0 = P 0 by omega, show u_21 3 = P 3 by omega, show u_21 5 = sgT (t 0) tl (P 4) by omega, show u_21 4 ≤ P 4 + 100 by omega, show u_21 6 ≤ 9 by omega, show u_21 7 ≤ 9 by omega, show u_21 8 ≤ 9 by omega, show u_21 9 ≤ 60 by omega⟩ (show u_21 1 = 1 by omega) (show u_21 2 = (P 4) + 3 - P 4 by omega))
      · skip
        refine z_callVV (As := [.ref (b 0), .int (nI 44)]) (rest := []) (wr := []) (C := RX0) F (c_X0_readSign_f l G q d (nup (nup (nup (nup (nup (nup (nup P 4 ((P 4) + 2)) 5 (sgT (t 0) tl (P 4))) 6 (sgT (t 0) tl ((P 4) + 1) - 48)) 7 0) 8 0) 9 0) 10 0) b t L (44) (by omega) (show (P 4) + 2 ≤ 400 by omega) tl hL hL6 hT hd_11 (by exact h1) (show P 3 ≤ (P 4) + 2 by omega)) (cwV 2 hts gX0_readOrder_X0_readSign rfl rfl rfl (by decide +kernel) ⟨Nat.le_of_ble_eq_true rfl, Nat.le_of_ble_eq_true rfl⟩) hKK (z_recv hKK hP (q0 := 0) (ci := 0) rfl rfl) hP hD hS hA rfl hl.1 rfl (Nat.le_of_ble_eq_true rfl) ⟨Nat.zero_le _, Nat.zero_le _⟩ dX0_readOrder_125 (fun H locs hP hD hS => ?_)
        have hP : va_P G.1 vwCl (playW G q d (nup (nup (nup (nup (nup (nup (nup (nup (nup P 1 1) 2 ((P 4) + 2 - P 3)) 4 ((P 4) + 2)) 5 (sgT (t 0) tl (P 4))) 6 (sgT (t 0) tl ((P 4) + 1) - 48)) 7 0) 8 0) 9 0) 10 0) ++ textW G b t L) H := hP
        have hD : va_D A (playW G q d (nup (nup (nup (nup (nup (nup (nup (nup (nup P 1 1) 2 ((P 4) + 2 - P 3)) 4 ((P 4) + 2)) 5 (sgT (t 0) tl (P 4))) 6 (sgT (t 0) tl ((P 4) + 1) - 48)) 7 0) 8 0) 9 0) 10 0) ++ textW G b t L) := hD
        refine lv_aload_n hx hb dX0_readOrder_128 rfl (lv_at hl 0 rfl) ?_
        refine lv_aload_n hx hb dX0_readOrder_129 rfl (lv_at hl 0 rfl) ?_
        refine lv_aload_n hx hb dX0_readOrder_130 rfl (lv_at hl 1 rfl) ?_
        refine z_callVIE (As := [.ref (b 0)]) (rest := [.ref q]) (wr := []) (C := RX0) F (c_X0_readDigit_x l G q d (nup (nup (nup (nup (nup (nup (nup (nup (nup P 1 1) 2 ((P 4) + 2 - P 3)) 4 ((P 4) + 2)) 5 (sgT (t 0) tl (P 4))) 6 (sgT (t 0) tl ((P 4) + 1) - 48)) 7 0) 8 0) 9 0) 10 0) b t L (show (P 4) + 2 ≤ 400 by omega) tl hL hL6 hT (show ¬ 1 = 0 by omega) (show 1 ≤ 3 by omega) (show P 3 ≤ (P 4) + 2 by omega)) (cwV 1 hts gX0_readOrder_X0_readDigit rfl rfl rfl (by decide +kernel) ⟨Nat.le_of_ble_eq_true rfl, Nat.le_of_ble_eq_true rfl⟩) hKK (z_recv hKK hP (q0 := 0) (ci := 0) rfl rfl) hP hD hS hA rfl hl.1 rfl (Nat.le_of_ble_eq_true rfl) ⟨Nat.zero_le _, Nat.zero_le _⟩ dX0_readOrder_131 (fun r_22 u_22 H locs hq_22 hP hD hS => ?_)
        have hd9_22 : u_22.1 ≤ 9 := hq_22.2.1
        have f0_22 : u_22.2 0 = P 0 := hq_22.2.2.1 0 (by decide)
        have f1_22 : u_22.2 1 = 1 := hq_22.2.2.1 1 (by decide)
        have f2_22 : u_22.2 2 = (P 4) + 2 - P 3 := hq_22.2.2.1 2 (by decide)
        have f3_22 : u_22.2 3 = P 3 := hq_22.2.2.1 3 (by decide)
        have f5_22 : u_22.2 5 = sgT (t 0) tl (P 4) := hq_22.2.2.1 5 (by decide)
        have f6_22 : u_22.2 6 = sgT (t 0) tl ((P 4) + 1) - 48 := hq_22.2.2.1 6 (by decide)
        have f7_22 : u_22.2 7 = 0 := hq_22.2.2.1 7 (by decide)
        have f8_22 : u_22.2 8 = 0 := hq_22.2.2.1 8 (by decide)
        have f9_22 : u_22.2 9 = 0 := hq_22.2.2.1 9 (by decide)
        have f10_22 : u_22.2 10 = 0 := hq_22.2.2.1 10 (by decide)
        have f4_22 : u_22.2 4 ≤ (P 4) + 2 + 1 := hq_22.2.2.2.2
        have g4_22 : (P 4) + 2 ≤ u_22.2 4 := hq_22.2.2.2.1
        have hr_22 := hq_22.1
        subst hr_22
        have hP : va_P G.1 vwCl (playW G q d u_22.2 ++ textW G b t L) H := hP
        have hD : va_D A (playW G q d u_22.2 ++ textW G b t L) := hD
        refine z_put (w2 := playW G q d (nup u_22.2 7 u_22.1) ++ textW G b t L) hx hb hts hinX0 tyX0 tyX0_ok nmX0 hown hKK hP hD hS 0 (ci := 0) (C := RX0) (T := TX0) (N := 12) rfl rfl 8 (by decide) fl_61 rfl rfl rfl (Nat.le_of_ble_eq_true rfl) rfl dX0_readOrder_134 (fun H locs hP hD hS => ?_)
        refine lv_aload_n hx hb dX0_readOrder_137 rfl (lv_at hl 0 rfl) ?_
        refine lv_aload_n hx hb dX0_readOrder_138 rfl (lv_at hl 1 rfl) ?_
        refine lv_bipush (v := nI 44) hx hb dX0_readOrder_139 (by decide) ?_
        refine z_callVVE (As := [.ref (b 0), .int (nI 44)]) (rest := []) (wr := []) (C := RX0) F (c_X0_readSign_x l G q d (nup u_22.2 7 u_22.1) b t L (44) (by omega) (show u_22.2 4 ≤ 400 by omega) tl hL hL6 hT (show ¬ u_22.2 1 = 0 by omega) (show u_22.2 1 ≤ 3 by omega) (show u_22.2 3 ≤ u_22.2 4 by omega)) (cwV 2 hts gX0_readOrder_X0_readSign rfl rfl rfl (by decide +kernel) ⟨Nat.le_of_ble_eq_true rfl, Nat.le_of_ble_eq_true rfl⟩) hKK (z_recv hKK hP (q0 := 0) (ci := 0) rfl rfl) hP hD hS hA rfl hl.1 rfl (Nat.le_of_ble_eq_true rfl) ⟨Nat.zero_le _, Nat.zero_le _⟩ dX0_readOrder_141 (fun u_23 H locs hq_23 hP hD hS => ?_)
        have f0_23 : u_23 0 = u_22.2 0 := hq_23.1 0 (by decide)
        have f1_23 : u_23 1 = u_22.2 1 := hq_23.1 1 (by decide)
        have f2_23 : u_23 2 = u_22.2 2 := hq_23.1 2 (by decide)
        have f3_23 : u_23 3 = u_22.2 3 := hq_23.1 3 (by decide)
        have f5_23 : u_23 5 = u_22.2 5 := hq_23.1 5 (by decide)
        have f6_23 : u_23 6 = u_22.2 6 := hq_23.1 6 (by decide)
        have f7_23 : u_23 7 = u_22.1 := hq_23.1 7 (by decide)
        have f8_23 : u_23 8 = u_22.2 8 := hq_23.1 8 (by decide)
        have f9_23 : u_23 9 = u_22.2 9 := hq_23.1 9 (by decide)
        have f10_23 : u_23 10 = u_22.2 10 := hq_23.1 10 (by decide)
        have f4_23 : u_23 4 ≤ u_22.2 4 + 1 := hq_23.2.2
        have g4_23 : u_22.2 4 ≤ u_23 4 := hq_23.2.1
        have hP : va_P G.1 vwCl (playW G q d u_23 ++ textW G b t L) H := hP
        have hD : va_D A (playW G q d u_23 ++ textW G b t L) := hD
        refine lv_aload_n hx hb dX0_readOrder_144 rfl (lv_at hl 0 rfl) ?_
        refine lv_aload_n hx hb dX0_readOrder_145 rfl (lv_at hl 1 rfl) ?_
        refine z_callVVE (As := [.ref (b 0)]) (rest := []) (wr := []) (C := RX0) F (c_X0_readLetters_x l G q d u_23 b t L (show u_23 4 ≤ 400 by omega) tl hL hL6 hT (show u_23 9 = 0 by omega) (show u_23 10 = 0 by omega) (show ¬ u_23 1 = 0 by omega) (show u_23 1 ≤ 3 by omega) (show u_23 3 ≤ u_23 4 by omega)) (cwV 1 hts gX0_readOrder_X0_readLetters rfl rfl rfl (by decide +kernel) ⟨Nat.le_of_ble_eq_true rfl, Nat.le_of_ble_eq_true rfl⟩) hKK (z_recv hKK hP (q0 := 0) (ci := 0) rfl rfl) hP hD hS hA rfl hl.1 rfl (Nat.le_of_ble_eq_true rfl) ⟨Nat.zero_le _, Nat.zero_le _⟩ dX0_readOrder_146 (fun u_24 H locs hq_24 hP hD hS => ?_)
        have f0_24 : u_24 0 = u_23 0 := hq_24.1 0 (by decide) (by decide) (by decide)
        have f1_24 : u_24 1 = u_23 1 := hq_24.1 1 (by decide) (by decide) (by decide)
        have f2_24 : u_24 2 = u_23 2 := hq_24.1 2 (by decide) (by decide) (by decide)
        have f3_24 : u_24 3 = u_23 3 := hq_24.1 3 (by decide) (by decide) (by decide)
        have f5_24 : u_24 5 = u_23 5 := hq_24.1 5 (by decide) (by decide) (by decide)
        have f6_24 : u_24 6 = u_23 6 := hq_24.1 6 (by decide) (by decide) (by decide)
        have f7_24 : u_24 7 = u_23 7 := hq_24.1 7 (by decide) (by decide) (by decide)
        have f8_24 : u_24 8 = u_23 8 := hq_24.1 8 (by decide) (by decide) (by decide)
        have f4_24 : u_24 4 ≤ u_23 4 + 60 := hq_24.2.2.1
        have f9_24 : u_24 9 ≤ 60 := hq_24.2.2.2
        have g4_24 : u_23 4 ≤ u_24 4 := hq_24.2.1
        have hP : va_P G.1 vwCl (playW G q d u_24 ++ textW G b t L) H := hP
        have hD : va_D A (playW G q d u_24 ++ textW G b t L) := hD
        refine lv_goto (tgt := 180) hx hb dX0_readOrder_149 (by decide) ?_
        refine lv_aload_n hx hb dX0_readOrder_180 rfl (lv_at hl 0 rfl) ?_
        refine lv_aload_n hx hb dX0_readOrder_181 rfl (lv_at hl 1 rfl) ?_
        refine lv_bipush (v := nI 59) hx hb dX0_readOrder_182 (by decide) ?_
        refine z_callVVE (As := [.ref (b 0), .int (nI 59)]) (rest := []) (wr := []) (C := RX0) F (c_X0_readSign_x l G q d u_24 b t L (59) (by omega) (show u_24 4 ≤ 400 by omega) tl hL hL6 hT (show ¬ u_24 1 = 0 by omega) (show u_24 1 ≤ 3 by omega) (show u_24 3 ≤ u_24 4 by omega)) (cwV 2 hts gX0_readOrder_X0_readSign rfl rfl rfl (by decide +kernel) ⟨Nat.le_of_ble_eq_true rfl, Nat.le_of_ble_eq_true rfl⟩) hKK (z_recv hKK hP (q0 := 0) (ci := 0) rfl rfl) hP hD hS hA rfl hl.1 rfl (Nat.le_of_ble_eq_true rfl) ⟨Nat.zero_le _, Nat.zero_le _⟩ dX0_readOrder_184 (fun u_25 H locs hq_25 hP hD hS => ?_)
        have f0_25 : u_25 0 = u_24 0 := hq_25.1 0 (by decide)
        have f1_25 : u_25 1 = u_24 1 := hq_25.1 1 (by decide)
        have f2_25 : u_25 2 = u_24 2 := hq_25.1 2 (by decide)
        have f3_25 : u_25 3 = u_24 3 := hq_25.1 3 (by decide)
        have f5_25 : u_25 5 = u_24 5 := hq_25.1 5 (by decide)
        have f6_25 : u_25 6 = u_24 6 := hq_25.1 6 (by decide)
        have f7_25 : u_25 7 = u_24 7 := hq_25.1 7 (by decide)
        have f8_25 : u_25 8 = u_24 8 := hq_25.1 8 (by decide)
        have f9_25 : u_25 9 = u_24 9 := hq_25.1 9 (by decide)
        have f10_25 : u_25 10 = u_24 10 := hq_25.1 10 (by decide)
        have f4_25 : u_25 4 ≤ u_24 4 + 1 := hq_25.2.2
        have g4_25 : u_24 4 ≤ u_25 4 := hq_25.2.1
        have hP : va_P G.1 vwCl (playW G q d u_25 ++ textW G b t L) H := hP
        have hD : va_D A (playW G q d u_25 ++ textW G b t L) := hD
        exact z_vretE u_25 hx hb hr hlk hP hD hS dX0_readOrder_187 (ro_no (q := (P 4) + 2) (by rw [prs, if_neg (by omega), if_pos hk, if_pos hd_10, if_neg hd_11]) ⟨show u_25 0 = P 0 by omega, show u_25 3 = P 3 by omega, show u_25 5 = sgT (t 0) tl (P 4) by omega, show u_25 4 ≤ P 4 + 100 by omega, show u_25 6 ≤ 9 by omega, show u_25 7 ≤ 9 by omega, show u_25 8 ≤ 9 by omega, show u_25 9 ≤ 60 by omega⟩ (show u_25 1 = 1 by omega) (show u_25 2 = (P 4) + 2 - P 4 by omega))
    · skip
      refine z_callVI (As := [.ref (b 0)]) (rest := [.ref q]) (wr := []) (C := RX0) F (c_X0_readDigit_f l G q d (nup (nup (nup (nup (nup (nup (nup P 4 ((P 4) + 1)) 5 (sgT (t 0) tl (P 4))) 6 0) 7 0) 8 0) 9 0) 10 0) b t L (show (P 4) + 1 ≤ 400 by omega) tl hL hL6 hT hd_10 (by exact h1) (show P 3 ≤ (P 4) + 1 by omega)) (cwV 1 hts gX0_readOrder_X0_readDigit rfl rfl rfl (by decide +kernel) ⟨Nat.le_of_ble_eq_true rfl, Nat.le_of_ble_eq_true rfl⟩) hKK (z_recv hKK hP (q0 := 0) (ci := 0) rfl rfl) hP hD hS hA rfl hl.1 rfl (Nat.le_of_ble_eq_true rfl) ⟨Nat.zero_le _, Nat.zero_le _⟩ dX0_readOrder_115 (fun H locs hP hD hS => ?_)
      have hP : va_P G.1 vwCl (playW G q d (nup (nup (nup (nup (nup (nup (nup (nup (nup P 1 1) 2 ((P 4) + 1 - P 3)) 4 ((P 4) + 1)) 5 (sgT (t 0) tl (P 4))) 6 0) 7 0) 8 0) 9 0) 10 0) ++ textW G b t L) H := hP
      have hD : va_D A (playW G q d (nup (nup (nup (nup (nup (nup (nup (nup (nup P 1 1) 2 ((P 4) + 1 - P 3)) 4 ((P 4) + 1)) 5 (sgT (t 0) tl (P 4))) 6 0) 7 0) 8 0) 9 0) 10 0) ++ textW G b t L) := hD
      refine z_put (w2 := playW G q d (nup (nup (nup (nup (nup (nup (nup (nup (nup P 1 1) 2 ((P 4) + 1 - P 3)) 4 ((P 4) + 1)) 5 (sgT (t 0) tl (P 4))) 6 0) 7 0) 8 0) 9 0) 10 0) ++ textW G b t L) hx hb hts hinX0 tyX0 tyX0_ok nmX0 hown hKK hP hD hS 0 (ci := 0) (C := RX0) (T := TX0) (N := 12) rfl rfl 7 (by decide) fl_58 rfl rfl rfl (Nat.le_of_ble_eq_true rfl) rfl dX0_readOrder_118 (fun H locs hP hD hS => ?_)
      refine lv_aload_n hx hb dX0_readOrder_121 rfl (lv_at hl 0 rfl) ?_
      refine lv_aload_n hx hb dX0_readOrder_122 rfl (lv_at hl 1 rfl) ?_
      refine lv_bipush (v := nI 44) hx hb dX0_readOrder_123 (by decide) ?_
      refine z_callVVE (As := [.ref (b 0), .int (nI 44)]) (rest := []) (wr := []) (C := RX0) F (c_X0_readSign_x l G q d (nup (nup (nup (nup (nup (nup (nup (nup (nup P 1 1) 2 ((P 4) + 1 - P 3)) 4 ((P 4) + 1)) 5 (sgT (t 0) tl (P 4))) 6 0) 7 0) 8 0) 9 0) 10 0) b t L (44) (by omega) (show (P 4) + 1 ≤ 400 by omega) tl hL hL6 hT (show ¬ 1 = 0 by omega) (show 1 ≤ 3 by omega) (show P 3 ≤ (P 4) + 1 by omega)) (cwV 2 hts gX0_readOrder_X0_readSign rfl rfl rfl (by decide +kernel) ⟨Nat.le_of_ble_eq_true rfl, Nat.le_of_ble_eq_true rfl⟩) hKK (z_recv hKK hP (q0 := 0) (ci := 0) rfl rfl) hP hD hS hA rfl hl.1 rfl (Nat.le_of_ble_eq_true rfl) ⟨Nat.zero_le _, Nat.zero_le _⟩ dX0_readOrder_125 (fun u_26 H locs hq_26 hP hD hS => ?_)
      have f0_26 : u_26 0 = P 0 := hq_26.1 0 (by decide)
      have f1_26 : u_26 1 = 1 := hq_26.1 1 (by decide)
      have f2_26 : u_26 2 = (P 4) + 1 - P 3 := hq_26.1 2 (by decide)
      have f3_26 : u_26 3 = P 3 := hq_26.1 3 (by decide)
      have f5_26 : u_26 5 = sgT (t 0) tl (P 4) := hq_26.1 5 (by decide)
      have f6_26 : u_26 6 = 0 := hq_26.1 6 (by decide)
      have f7_26 : u_26 7 = 0 := hq_26.1 7 (by decide)
      have f8_26 : u_26 8 = 0 := hq_26.1 8 (by decide)
      have f9_26 : u_26 9 = 0 := hq_26.1 9 (by decide)
      have f10_26 : u_26 10 = 0 := hq_26.1 10 (by decide)
      have f4_26 : u_26 4 ≤ (P 4) + 1 + 1 := hq_26.2.2
      have g4_26 : (P 4) + 1 ≤ u_26 4 := hq_26.2.1
      have hP : va_P G.1 vwCl (playW G q d u_26 ++ textW G b t L) H := hP
      have hD : va_D A (playW G q d u_26 ++ textW G b t L) := hD
      refine lv_aload_n hx hb dX0_readOrder_128 rfl (lv_at hl 0 rfl) ?_
      refine lv_aload_n hx hb dX0_readOrder_129 rfl (lv_at hl 0 rfl) ?_
      refine lv_aload_n hx hb dX0_readOrder_130 rfl (lv_at hl 1 rfl) ?_
      refine z_callVIE (As := [.ref (b 0)]) (rest := [.ref q]) (wr := []) (C := RX0) F (c_X0_readDigit_x l G q d u_26 b t L (show u_26 4 ≤ 400 by omega) tl hL hL6 hT (show ¬ u_26 1 = 0 by omega) (show u_26 1 ≤ 3 by omega) (show u_26 3 ≤ u_26 4 by omega)) (cwV 1 hts gX0_readOrder_X0_readDigit rfl rfl rfl (by decide +kernel) ⟨Nat.le_of_ble_eq_true rfl, Nat.le_of_ble_eq_true rfl⟩) hKK (z_recv hKK hP (q0 := 0) (ci := 0) rfl rfl) hP hD hS hA rfl hl.1 rfl (Nat.le_of_ble_eq_true rfl) ⟨Nat.zero_le _, Nat.zero_le _⟩ dX0_readOrder_131 (fun r_27 u_27 H locs hq_27 hP hD hS => ?_)
      have hd9_27 : u_27.1 ≤ 9 := hq_27.2.1
      have f0_27 : u_27.2 0 = u_26 0 := hq_27.2.2.1 0 (by decide)
      have f1_27 : u_27.2 1 = u_26 1 := hq_27.2.2.1 1 (by decide)
      have f2_27 : u_27.2 2 = u_26 2 := hq_27.2.2.1 2 (by decide)
      have f3_27 : u_27.2 3 = u_26 3 := hq_27.2.2.1 3 (by decide)
      have f5_27 : u_27.2 5 = u_26 5 := hq_27.2.2.1 5 (by decide)
      have f6_27 : u_27.2 6 = u_26 6 := hq_27.2.2.1 6 (by decide)
      have f7_27 : u_27.2 7 = u_26 7 := hq_27.2.2.1 7 (by decide)
      have f8_27 : u_27.2 8 = u_26 8 := hq_27.2.2.1 8 (by decide)
      have f9_27 : u_27.2 9 = u_26 9 := hq_27.2.2.1 9 (by decide)
      have f10_27 : u_27.2 10 = u_26 10 := hq_27.2.2.1 10 (by decide)
      have f4_27 : u_27.2 4 ≤ u_26 4 + 1 := hq_27.2.2.2.2
      have g4_27 : u_26 4 ≤ u_27.2 4 := hq_27.2.2.2.1
      have hr_27 := hq_27.1
      subst hr_27
      have hP : va_P G.1 vwCl (playW G q d u_27.2 ++ textW G b t L) H := hP
      have hD : va_D A (playW G q d u_27.2 ++ textW G b t L) := hD
      refine z_put (w2 := playW G q d (nup u_27.2 7 u_27.1) ++ textW G b t L) hx hb hts hinX0 tyX0 tyX0_ok nmX0 hown hKK hP hD hS 0 (ci := 0) (C := RX0) (T := TX0) (N := 12) rfl rfl 8 (by decide) fl_61 rfl rfl rfl (Nat.le_of_ble_eq_true rfl) rfl dX0_readOrder_134 (fun H locs hP hD hS => ?_)
      refine lv_aload_n hx hb dX0_readOrder_137 rfl (lv_at hl 0 rfl) ?_
      refine lv_aload_n hx hb dX0_readOrder_138 rfl (lv_at hl 1 rfl) ?_
      refine lv_bipush (v := nI 44) hx hb dX0_readOrder_139 (by decide) ?_
      refine z_callVVE (As := [.ref (b 0), .int (nI 44)]) (rest := []) (wr := []) (C := RX0) F (c_X0_readSign_x l G q d (nup u_27.2 7 u_27.1) b t L (44) (by omega) (show u_27.2 4 ≤ 400 by omega) tl hL hL6 hT (show ¬ u_27.2 1 = 0 by omega) (show u_27.2 1 ≤ 3 by omega) (show u_27.2 3 ≤ u_27.2 4 by omega)) (cwV 2 hts gX0_readOrder_X0_readSign rfl rfl rfl (by decide +kernel) ⟨Nat.le_of_ble_eq_true rfl, Nat.le_of_ble_eq_true rfl⟩) hKK (z_recv hKK hP (q0 := 0) (ci := 0) rfl rfl) hP hD hS hA rfl hl.1 rfl (Nat.le_of_ble_eq_true rfl) ⟨Nat.zero_le _, Nat.zero_le _⟩ dX0_readOrder_141 (fun u_28 H locs hq_28 hP hD hS => ?_)
      have f0_28 : u_28 0 = u_27.2 0 := hq_28.1 0 (by decide)
      have f1_28 : u_28 1 = u_27.2 1 := hq_28.1 1 (by decide)
      have f2_28 : u_28 2 = u_27.2 2 := hq_28.1 2 (by decide)
      have f3_28 : u_28 3 = u_27.2 3 := hq_28.1 3 (by decide)
      have f5_28 : u_28 5 = u_27.2 5 := hq_28.1 5 (by decide)
      have f6_28 : u_28 6 = u_27.2 6 := hq_28.1 6 (by decide)
      have f7_28 : u_28 7 = u_27.1 := hq_28.1 7 (by decide)
      have f8_28 : u_28 8 = u_27.2 8 := hq_28.1 8 (by decide)
      have f9_28 : u_28 9 = u_27.2 9 := hq_28.1 9 (by decide)
      have f10_28 : u_28 10 = u_27.2 10 := hq_28.1 10 (by decide)
      have f4_28 : u_28 4 ≤ u_27.2 4 + 1 := hq_28.2.2
      have g4_28 : u_27.2 4 ≤ u_28 4 := hq_28.2.1
      have hP : va_P G.1 vwCl (playW G q d u_28 ++ textW G b t L) H := hP
      have hD : va_D A (playW G q d u_28 ++ textW G b t L) := hD
      refine lv_aload_n hx hb dX0_readOrder_144 rfl (lv_at hl 0 rfl) ?_
      refine lv_aload_n hx hb dX0_readOrder_145 rfl (lv_at hl 1 rfl) ?_
      refine z_callVVE (As := [.ref (b 0)]) (rest := []) (wr := []) (C := RX0) F (c_X0_readLetters_x l G q d u_28 b t L (show u_28 4 ≤ 400 by omega) tl hL hL6 hT (show u_28 9 = 0 by omega) (show u_28 10 = 0 by omega) (show ¬ u_28 1 = 0 by omega) (show u_28 1 ≤ 3 by omega) (show u_28 3 ≤ u_28 4 by omega)) (cwV 1 hts gX0_readOrder_X0_readLetters rfl rfl rfl (by decide +kernel) ⟨Nat.le_of_ble_eq_true rfl, Nat.le_of_ble_eq_true rfl⟩) hKK (z_recv hKK hP (q0 := 0) (ci := 0) rfl rfl) hP hD hS hA rfl hl.1 rfl (Nat.le_of_ble_eq_true rfl) ⟨Nat.zero_le _, Nat.zero_le _⟩ dX0_readOrder_146 (fun u_29 H locs hq_29 hP hD hS => ?_)
      have f0_29 : u_29 0 = u_28 0 := hq_29.1 0 (by decide) (by decide) (by decide)
      have f1_29 : u_29 1 = u_28 1 := hq_29.1 1 (by decide) (by decide) (by decide)
      have f2_29 : u_29 2 = u_28 2 := hq_29.1 2 (by decide) (by decide) (by decide)
      have f3_29 : u_29 3 = u_28 3 := hq_29.1 3 (by decide) (by decide) (by decide)
      have f5_29 : u_29 5 = u_28 5 := hq_29.1 5 (by decide) (by decide) (by decide)
      have f6_29 : u_29 6 = u_28 6 := hq_29.1 6 (by decide) (by decide) (by decide)
      have f7_29 : u_29 7 = u_28 7 := hq_29.1 7 (by decide) (by decide) (by decide)
      have f8_29 : u_29 8 = u_28 8 := hq_29.1 8 (by decide) (by decide) (by decide)
      have f4_29 : u_29 4 ≤ u_28 4 + 60 := hq_29.2.2.1
      have f9_29 : u_29 9 ≤ 60 := hq_29.2.2.2
      have g4_29 : u_28 4 ≤ u_29 4 := hq_29.2.1
      have hP : va_P G.1 vwCl (playW G q d u_29 ++ textW G b t L) H := hP
      have hD : va_D A (playW G q d u_29 ++ textW G b t L) := hD
      refine lv_goto (tgt := 180) hx hb dX0_readOrder_149 (by decide) ?_
      refine lv_aload_n hx hb dX0_readOrder_180 rfl (lv_at hl 0 rfl) ?_
      refine lv_aload_n hx hb dX0_readOrder_181 rfl (lv_at hl 1 rfl) ?_
      refine lv_bipush (v := nI 59) hx hb dX0_readOrder_182 (by decide) ?_
      refine z_callVVE (As := [.ref (b 0), .int (nI 59)]) (rest := []) (wr := []) (C := RX0) F (c_X0_readSign_x l G q d u_29 b t L (59) (by omega) (show u_29 4 ≤ 400 by omega) tl hL hL6 hT (show ¬ u_29 1 = 0 by omega) (show u_29 1 ≤ 3 by omega) (show u_29 3 ≤ u_29 4 by omega)) (cwV 2 hts gX0_readOrder_X0_readSign rfl rfl rfl (by decide +kernel) ⟨Nat.le_of_ble_eq_true rfl, Nat.le_of_ble_eq_true rfl⟩) hKK (z_recv hKK hP (q0 := 0) (ci := 0) rfl rfl) hP hD hS hA rfl hl.1 rfl (Nat.le_of_ble_eq_true rfl) ⟨Nat.zero_le _, Nat.zero_le _⟩ dX0_readOrder_184 (fun u_30 H locs hq_30 hP hD hS => ?_)
      have f0_30 : u_30 0 = u_29 0 := hq_30.1 0 (by decide)
      have f1_30 : u_30 1 = u_29 1 := hq_30.1 1 (by decide)
      have f2_30 : u_30 2 = u_29 2 := hq_30.1 2 (by decide)
      have f3_30 : u_30 3 = u_29 3 := hq_30.1 3 (by decide)
      have f5_30 : u_30 5 = u_29 5 := hq_30.1 5 (by decide)
      have f6_30 : u_30 6 = u_29 6 := hq_30.1 6 (by decide)
      have f7_30 : u_30 7 = u_29 7 := hq_30.1 7 (by decide)
      have f8_30 : u_30 8 = u_29 8 := hq_30.1 8 (by decide)
      have f9_30 : u_30 9 = u_29 9 := hq_30.1 9 (by decide)
      have f10_30 : u_30 10 = u_29 10 := hq_30.1 10 (by decide)
      have f4_30 : u_30 4 ≤ u_29 4 + 1 := hq_30.2.2
      have g4_30 : u_29 4 ≤ u_30 4 := hq_30.2.1
      have hP : va_P G.1 vwCl (playW G q d u_30 ++ textW G b t L) H := hP
      have hD : va_D A (playW G q d u_30 ++ textW G b t L) := hD
      exact z_vretE u_30 hx hb hr hlk hP hD hS dX0_readOrder_187 (ro_no (q := (P 4) + 1) (by rw [prs, if_neg (by omega), if_pos hk, if_neg (by rw [hd_10]; decide)]) ⟨show u_30 0 = P 0 by omega, show u_30 3 = P 3 by omega, show u_30 5 = sgT (t 0) tl (P 4) by omega, show u_30 4 ≤ P 4 + 100 by omega, show u_30 6 ≤ 9 by omega, show u_30 7 ≤ 9 by omega, show u_30 8 ≤ 9 by omega, show u_30 9 ≤ 60 by omega⟩ (show u_30 1 = 1 by omega) (show u_30 2 = (P 4) + 1 - P 4 by omega))
  · have hsl := sgT_lt hT hL6 (P 4)
    refine lv_lookup (off := 133) (tgt := 174) hx hb dX0_readOrder_41 (by decide) (lk_out4 (by omega) (by omega) (by omega) (by omega) (by omega)) (by decide) ?_
    refine lv_aload_n hx hb dX0_readOrder_174 rfl (lv_at hl 0 rfl) ?_
    refine lv_iconst (v := nI 1) hx hb dX0_readOrder_175 (by decide) ?_
    refine lv_iconst (v := nI 0) hx hb dX0_readOrder_176 (by decide) ?_
    refine z_callVV (As := [.int (nI 1), .int (nI 0)]) (rest := []) (wr := (textW G b t L)) (C := RX0) F (c_X0_fail_z l G q d (nup (nup (nup (nup (nup (nup P 5 (sgT (t 0) tl (P 4))) 6 0) 7 0) 8 0) 9 0) 10 0) (1) (0) (by exact h1)) (cwV 2 hts gX0_readOrder_X0_fail rfl rfl rfl (by decide +kernel) ⟨Nat.le_of_ble_eq_true rfl, Nat.le_of_ble_eq_true rfl⟩) hKK (z_recv hKK hP (q0 := 0) (ci := 0) rfl rfl) (z_perm List.perm_append_comm hP) (z_permD List.perm_append_comm hD) hS hA rfl hl.1 rfl (Nat.le_of_ble_eq_true rfl) ⟨Nat.zero_le _, Nat.zero_le _⟩ dX0_readOrder_177 (fun H locs hP hD hS => ?_)
    have hP : va_P G.1 vwCl (playW G q d (nup (nup (nup (nup (nup (nup (nup (nup P 1 1) 2 0) 5 (sgT (t 0) tl (P 4))) 6 0) 7 0) 8 0) 9 0) 10 0) ++ textW G b t L) H := (z_perm List.perm_append_comm hP)
    have hD : va_D A (playW G q d (nup (nup (nup (nup (nup (nup (nup (nup P 1 1) 2 0) 5 (sgT (t 0) tl (P 4))) 6 0) 7 0) 8 0) 9 0) 10 0) ++ textW G b t L) := (z_permD List.perm_append_comm hD)
    refine lv_aload_n hx hb dX0_readOrder_180 rfl (lv_at hl 0 rfl) ?_
    refine lv_aload_n hx hb dX0_readOrder_181 rfl (lv_at hl 1 rfl) ?_
    refine lv_bipush (v := nI 59) hx hb dX0_readOrder_182 (by decide) ?_
    refine z_callVVE (As := [.ref (b 0), .int (nI 59)]) (rest := []) (wr := []) (C := RX0) F (c_X0_readSign_x l G q d (nup (nup (nup (nup (nup (nup (nup (nup P 1 1) 2 0) 5 (sgT (t 0) tl (P 4))) 6 0) 7 0) 8 0) 9 0) 10 0) b t L (59) (by omega) (show P 4 ≤ 400 by omega) tl hL hL6 hT (show ¬ 1 = 0 by omega) (show 1 ≤ 3 by omega) (show P 3 ≤ P 4 by omega)) (cwV 2 hts gX0_readOrder_X0_readSign rfl rfl rfl (by decide +kernel) ⟨Nat.le_of_ble_eq_true rfl, Nat.le_of_ble_eq_true rfl⟩) hKK (z_recv hKK hP (q0 := 0) (ci := 0) rfl rfl) hP hD hS hA rfl hl.1 rfl (Nat.le_of_ble_eq_true rfl) ⟨Nat.zero_le _, Nat.zero_le _⟩ dX0_readOrder_184 (fun u_31 H locs hq_31 hP hD hS => ?_)
    have f0_31 : u_31 0 = P 0 := hq_31.1 0 (by decide)
    have f1_31 : u_31 1 = 1 := hq_31.1 1 (by decide)
    have f2_31 : u_31 2 = 0 := hq_31.1 2 (by decide)
    have f3_31 : u_31 3 = P 3 := hq_31.1 3 (by decide)
    have f5_31 : u_31 5 = sgT (t 0) tl (P 4) := hq_31.1 5 (by decide)
    have f6_31 : u_31 6 = 0 := hq_31.1 6 (by decide)
    have f7_31 : u_31 7 = 0 := hq_31.1 7 (by decide)
    have f8_31 : u_31 8 = 0 := hq_31.1 8 (by decide)
    have f9_31 : u_31 9 = 0 := hq_31.1 9 (by decide)
    have f10_31 : u_31 10 = 0 := hq_31.1 10 (by decide)
    have f4_31 : u_31 4 ≤ P 4 + 1 := hq_31.2.2
    have g4_31 : P 4 ≤ u_31 4 := hq_31.2.1
    have hP : va_P G.1 vwCl (playW G q d u_31 ++ textW G b t L) H := hP
    have hD : va_D A (playW G q d u_31 ++ textW G b t L) := hD
    exact z_vretE u_31 hx hb hr hlk hP hD hS dX0_readOrder_187 (ro_no (q := P 4) (by rw [prs, if_neg (by omega), if_neg (by omega), if_neg (by omega)]) ⟨show u_31 0 = P 0 by omega, show u_31 3 = P 3 by omega, show u_31 5 = sgT (t 0) tl (P 4) by omega, show u_31 4 ≤ P 4 + 100 by omega, show u_31 6 ≤ 9 by omega, show u_31 7 ≤ 9 by omega, show u_31 8 ≤ 9 by omega, show u_31 9 ≤ 60 by omega⟩ (show u_31 1 = 1 by omega) (show u_31 2 = P 4 - P 4 by omega))
