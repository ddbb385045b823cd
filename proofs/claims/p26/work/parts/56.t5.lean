set_option maxHeartbeats 4000000 in
set_option maxRecDepth 100000 in
theorem c_X0_carryOut_sk (l : Launch) (G : ZG) (q : Nat) (a : Nat → Nat) (P : Nat → Nat) (v : Mem) (h1 : ¬ P 1 = 0) (h2 : P 1 ≤ 3) : CV l G yX0_carryOut wsX0_carryOut (zRm 4 95) [.ref q] (playW G q (a 0) P ++ rollW G a v) (playW G q (a 0) P ++ rollW G a v) := by
  refine CV.ent (cc := cX0_carryOut) (maxL := 2) (own := RX0) (by decide) rfl rfl (Nat.le_of_ble_eq_true rfl) ?_
  intro p ee s m args below meth c A ls F hr hlk hKK hP hD hA hS hl
  obtain ⟨hx, hb, hml, hown, hts⟩ := id F
  have hl : lv_has ls 2 [(0, .ref q)] := hl
  have fl_26 := hts (.fieldLink RX0 26 "NameRolls$Player" "reason" "I") (by decide +kernel)
  have hinX0 : ∀ w ∈ wsX00, w ∈ wsX0_carryOut := by decide +kernel
  refine lv_aload_n hx hb dX0_carryOut_0 rfl (lv_at hl 0 rfl) ?_
  refine va_get (D := G.1) (ci := 0) (v := .int (nI (P 1))) (C := RX0) (T := TX0) (N := 12) hx hb hts hinX0 hown hKK.1 hP 0 rfl rfl 2 (by decide) fl_26 (fun _ h9 => h9) rfl dX0_carryOut_1 ?_
  refine z_ifNeq (tgt := 8) hx hb dX0_carryOut_4 (by decide) (by omega) (fun c_1 => absurd c_1 h1) (fun c_1 => ?_)
  exact z_vret hx hb hr hlk hP hD hS dX0_carryOut_7 rfl

set_option maxHeartbeats 4000000 in
set_option maxRecDepth 100000 in
theorem c_X0_carryOut_no (l : Launch) (G : ZG) (q : Nat) (a : Nat → Nat) (P : Nat → Nat) (v : Mem) (h1 : P 1 = 0) (hcan : CI l G yX0_canCarryOut wsX0_canCarryOut (zRm 3 64) [.ref q, .int (zNum (v 0) (nI (P 10)))] (playW G q (a 0) P ++ rollW G a v) (bI false) (playW G q (a 0) P ++ rollW G a v)) : CV l G yX0_carryOut wsX0_carryOut (zRm 4 95) [.ref q] (playW G q (a 0) P ++ rollW G a v) (playW G q (a 0) (nup (nup P 1 3) 2 0) ++ rollW G a v) := by
  refine CV.ent (cc := cX0_carryOut) (maxL := 2) (own := RX0) (by decide) rfl rfl (Nat.le_of_ble_eq_true rfl) ?_
  intro p ee s m args below meth c A ls F hr hlk hKK hP hD hA hS hl
  obtain ⟨hx, hb, hml, hown, hts⟩ := id F
  have hl : lv_has ls 2 [(0, .ref q)] := hl
  have fl_12 := hts (.fieldLink RX0 12 "NameRolls$Player" "trial" "LNameRolls$Roll;") (by decide +kernel)
  have fl_26 := hts (.fieldLink RX0 26 "NameRolls$Player" "reason" "I") (by decide +kernel)
  have fl_70 := hts (.fieldLink RX0 70 "NameRolls$Player" "name" "I") (by decide +kernel)
  have hinX0 : ∀ w ∈ wsX00, w ∈ wsX0_carryOut := by decide +kernel
  refine lv_aload_n hx hb dX0_carryOut_0 rfl (lv_at hl 0 rfl) ?_
  refine va_get (D := G.1) (ci := 0) (v := .int (nI (P 1))) (C := RX0) (T := TX0) (N := 12) hx hb hts hinX0 hown hKK.1 hP 0 rfl rfl 2 (by decide) fl_26 (fun _ h9 => h9) rfl dX0_carryOut_1 ?_
  refine z_ifNeq (tgt := 8) hx hb dX0_carryOut_4 (by decide) (by omega) (fun c_1 => ?_) (fun c_1 => absurd h1 c_1)
  refine lv_aload_n hx hb dX0_carryOut_8 rfl (lv_at hl 0 rfl) ?_
  refine va_get (D := G.1) (ci := 0) (v := .ref (a 0)) (C := RX0) (T := TX0) (N := 12) hx hb hts hinX0 hown hKK.1 hP 0 rfl rfl 0 (by decide) fl_12 (fun _ h9 => h9) rfl dX0_carryOut_9 ?_
  refine lv_aload_n hx hb dX0_carryOut_12 rfl (lv_at hl 0 rfl) ?_
  refine va_get (D := G.1) (ci := 0) (v := .int (nI (P 10))) (C := RX0) (T := TX0) (N := 12) hx hb hts hinX0 hown hKK.1 hP 0 rfl rfl 11 (by decide) fl_70 (fun _ h9 => h9) rfl dX0_carryOut_13 ?_
  refine z_callVI (As := [.int (nI (P 10))]) (rest := []) (wr := (playW G q (a 0) P)) (C := RX1) F (c_X1_numberWith l G a v (nI (P 10))) (cwV 1 hts gX0_carryOut_X1_numberWith rfl rfl rfl (by decide +kernel) ⟨Nat.le_of_ble_eq_true rfl, Nat.le_of_ble_eq_true rfl⟩) hKK (z_recv hKK hP (q0 := 1) (ci := 1) rfl rfl) hP hD hS hA rfl hl.1 rfl (Nat.le_of_ble_eq_true rfl) ⟨Nat.zero_le _, Nat.zero_le _⟩ dX0_carryOut_16 (fun H locs hP hD hS => ?_)
  have hP : va_P G.1 vwCl (playW G q (a 0) P ++ rollW G a v) H := hP
  have hD : va_D A (playW G q (a 0) P ++ rollW G a v) := hD
  refine lv_istore_n (lv' := [(1, .int (zNum (v 0) (nI (P 10)))), (0, .ref q)]) hx hb dX0_carryOut_19 rfl hl (by decide) rfl (fun ls hl => ?_)
  refine lv_aload_n hx hb dX0_carryOut_20 rfl (lv_at hl 1 rfl) ?_
  refine lv_iload_n hx hb dX0_carryOut_21 rfl (lv_at hl 0 rfl) ?_
  refine z_callVI (As := [.int (zNum (v 0) (nI (P 10)))]) (rest := []) (wr := []) (C := RX0) F (hcan) (cwV 1 hts gX0_carryOut_X0_canCarryOut rfl rfl rfl (by decide +kernel) ⟨Nat.le_of_ble_eq_true rfl, Nat.le_of_ble_eq_true rfl⟩) hKK (z_recv hKK hP (q0 := 0) (ci := 0) rfl rfl) hP hD hS hA rfl hl.1 rfl (Nat.le_of_ble_eq_true rfl) ⟨Nat.zero_le _, Nat.zero_le _⟩ dX0_carryOut_22 (fun H locs hP hD hS => ?_)
  have hP : va_P G.1 vwCl (playW G q (a 0) P ++ rollW G a v) H := hP
  have hD : va_D A (playW G q (a 0) P ++ rollW G a v) := hD
  refine z_ifBne (tgt := 35) hx hb dX0_carryOut_25 (by decide) (fun c_2 => absurd c_2 (by decide)) (fun c_2 => ?_)
  refine lv_aload_n hx hb dX0_carryOut_28 rfl (lv_at hl 1 rfl) ?_
  refine lv_iconst (v := nI 3) hx hb dX0_carryOut_29 (by decide) ?_
  refine lv_iconst (v := nI 0) hx hb dX0_carryOut_30 (by decide) ?_
  refine z_callVV (As := [.int (nI 3), .int (nI 0)]) (rest := []) (wr := (rollW G a v)) (C := RX0) F (c_X0_fail_z l G q (a 0) P (3) (0) h1) (cwV 2 hts gX0_carryOut_X0_fail rfl rfl rfl (by decide +kernel) ⟨Nat.le_of_ble_eq_true rfl, Nat.le_of_ble_eq_true rfl⟩) hKK (z_recv hKK hP (q0 := 0) (ci := 0) rfl rfl) (z_perm List.perm_append_comm hP) (z_permD List.perm_append_comm hD) hS hA rfl hl.1 rfl (Nat.le_of_ble_eq_true rfl) ⟨Nat.zero_le _, Nat.zero_le _⟩ dX0_carryOut_31 (fun H locs hP hD hS => ?_)
  have hP : va_P G.1 vwCl (playW G q (a 0) (nup (nup P 1 3) 2 0) ++ rollW G a v) H := (z_perm List.perm_append_comm hP)
  have hD : va_D A (playW G q (a 0) (nup (nup P 1 3) 2 0) ++ rollW G a v) := (z_permD List.perm_append_comm hD)
  exact z_vret hx hb hr hlk hP hD hS dX0_carryOut_34 rfl

set_option maxHeartbeats 4000000 in
set_option maxRecDepth 100000 in
theorem c_X0_carryOut_p (l : Launch) (G : ZG) (q : Nat) (a : Nat → Nat) (P : Nat → Nat) (v : Mem) (h1 : P 1 = 0) (hk : P 5 = 43) (hcan : CI l G yX0_canCarryOut wsX0_canCarryOut (zRm 3 64) [.ref q, .int (zNum (v 0) (nI (P 10)))] (playW G q (a 0) P ++ rollW G a v) (bI true) (playW G q (a 0) P ++ rollW G a v)) (w : Mem) (r0 : Int32) (hdo : CI l G yX1_enter wsX1_enter (zRm 2 42) [.ref (a 0), .int (nI (P 10))] (rollW G a v) r0 (rollW G a w)) : CV l G yX0_carryOut wsX0_carryOut (zRm 4 95) [.ref q] (playW G q (a 0) P ++ rollW G a v) (playW G q (a 0) P ++ rollW G a w) := by
  refine CV.ent (cc := cX0_carryOut) (maxL := 2) (own := RX0) (by decide) rfl rfl (Nat.le_of_ble_eq_true rfl) ?_
  intro p ee s m args below meth c A ls F hr hlk hKK hP hD hA hS hl
  obtain ⟨hx, hb, hml, hown, hts⟩ := id F
  have hl : lv_has ls 2 [(0, .ref q)] := hl
  have fl_12 := hts (.fieldLink RX0 12 "NameRolls$Player" "trial" "LNameRolls$Roll;") (by decide +kernel)
  have fl_26 := hts (.fieldLink RX0 26 "NameRolls$Player" "reason" "I") (by decide +kernel)
  have fl_54 := hts (.fieldLink RX0 54 "NameRolls$Player" "kind" "C") (by decide +kernel)
  have fl_70 := hts (.fieldLink RX0 70 "NameRolls$Player" "name" "I") (by decide +kernel)
  have hinX0 : ∀ w ∈ wsX00, w ∈ wsX0_carryOut := by decide +kernel
  refine lv_aload_n hx hb dX0_carryOut_0 rfl (lv_at hl 0 rfl) ?_
  refine va_get (D := G.1) (ci := 0) (v := .int (nI (P 1))) (C := RX0) (T := TX0) (N := 12) hx hb hts hinX0 hown hKK.1 hP 0 rfl rfl 2 (by decide) fl_26 (fun _ h9 => h9) rfl dX0_carryOut_1 ?_
  refine z_ifNeq (tgt := 8) hx hb dX0_carryOut_4 (by decide) (by omega) (fun c_1 => ?_) (fun c_1 => absurd h1 c_1)
  refine lv_aload_n hx hb dX0_carryOut_8 rfl (lv_at hl 0 rfl) ?_
  refine va_get (D := G.1) (ci := 0) (v := .ref (a 0)) (C := RX0) (T := TX0) (N := 12) hx hb hts hinX0 hown hKK.1 hP 0 rfl rfl 0 (by decide) fl_12 (fun _ h9 => h9) rfl dX0_carryOut_9 ?_
  refine lv_aload_n hx hb dX0_carryOut_12 rfl (lv_at hl 0 rfl) ?_
  refine va_get (D := G.1) (ci := 0) (v := .int (nI (P 10))) (C := RX0) (T := TX0) (N := 12) hx hb hts hinX0 hown hKK.1 hP 0 rfl rfl 11 (by decide) fl_70 (fun _ h9 => h9) rfl dX0_carryOut_13 ?_
  refine z_callVI (As := [.int (nI (P 10))]) (rest := []) (wr := (playW G q (a 0) P)) (C := RX1) F (c_X1_numberWith l G a v (nI (P 10))) (cwV 1 hts gX0_carryOut_X1_numberWith rfl rfl rfl (by decide +kernel) ⟨Nat.le_of_ble_eq_true rfl, Nat.le_of_ble_eq_true rfl⟩) hKK (z_recv hKK hP (q0 := 1) (ci := 1) rfl rfl) hP hD hS hA rfl hl.1 rfl (Nat.le_of_ble_eq_true rfl) ⟨Nat.zero_le _, Nat.zero_le _⟩ dX0_carryOut_16 (fun H locs hP hD hS => ?_)
  have hP : va_P G.1 vwCl (playW G q (a 0) P ++ rollW G a v) H := hP
  have hD : va_D A (playW G q (a 0) P ++ rollW G a v) := hD
  refine lv_istore_n (lv' := [(1, .int (zNum (v 0) (nI (P 10)))), (0, .ref q)]) hx hb dX0_carryOut_19 rfl hl (by decide) rfl (fun ls hl => ?_)
  refine lv_aload_n hx hb dX0_carryOut_20 rfl (lv_at hl 1 rfl) ?_
  refine lv_iload_n hx hb dX0_carryOut_21 rfl (lv_at hl 0 rfl) ?_
  refine z_callVI (As := [.int (zNum (v 0) (nI (P 10)))]) (rest := []) (wr := []) (C := RX0) F (hcan) (cwV 1 hts gX0_carryOut_X0_canCarryOut rfl rfl rfl (by decide +kernel) ⟨Nat.le_of_ble_eq_true rfl, Nat.le_of_ble_eq_true rfl⟩) hKK (z_recv hKK hP (q0 := 0) (ci := 0) rfl rfl) hP hD hS hA rfl hl.1 rfl (Nat.le_of_ble_eq_true rfl) ⟨Nat.zero_le _, Nat.zero_le _⟩ dX0_carryOut_22 (fun H locs hP hD hS => ?_)
  have hP : va_P G.1 vwCl (playW G q (a 0) P ++ rollW G a v) H := hP
  have hD : va_D A (playW G q (a 0) P ++ rollW G a v) := hD
  refine z_ifBne (tgt := 35) hx hb dX0_carryOut_25 (by decide) (fun c_2 => ?_) (fun c_2 => absurd c_2 (by decide))
  refine lv_aload_n hx hb dX0_carryOut_35 rfl (lv_at hl 1 rfl) ?_
  refine va_get (D := G.1) (ci := 0) (v := .int (nI (P 5))) (C := RX0) (T := TX0) (N := 12) hx hb hts hinX0 hown hKK.1 hP 0 rfl rfl 6 (by decide) fl_54 (fun _ h9 => h9) rfl dX0_carryOut_36 ?_
  refine z_top (v := nI 43) (by rw [hk]) ?_
  refine lv_lookup (off := 33) (tgt := 72) hx hb dX0_carryOut_39 (by decide) (by decide) (by decide) ?_
  refine lv_aload_n hx hb dX0_carryOut_72 rfl (lv_at hl 1 rfl) ?_
  refine va_get (D := G.1) (ci := 0) (v := .ref (a 0)) (C := RX0) (T := TX0) (N := 12) hx hb hts hinX0 hown hKK.1 hP 0 rfl rfl 0 (by decide) fl_12 (fun _ h9 => h9) rfl dX0_carryOut_73 ?_
  refine lv_aload_n hx hb dX0_carryOut_76 rfl (lv_at hl 1 rfl) ?_
  refine va_get (D := G.1) (ci := 0) (v := .int (nI (P 10))) (C := RX0) (T := TX0) (N := 12) hx hb hts hinX0 hown hKK.1 hP 0 rfl rfl 11 (by decide) fl_70 (fun _ h9 => h9) rfl dX0_carryOut_77 ?_
  refine z_callVI (As := [.int (nI (P 10))]) (rest := []) (wr := (playW G q (a 0) P)) (C := RX1) F (hdo) (cwV 1 hts gX0_carryOut_X1_enter rfl rfl rfl (by decide +kernel) ⟨Nat.le_of_ble_eq_true rfl, Nat.le_of_ble_eq_true rfl⟩) hKK (z_recv hKK hP (q0 := 1) (ci := 1) rfl rfl) hP hD hS hA rfl hl.1 rfl (Nat.le_of_ble_eq_true rfl) ⟨Nat.zero_le _, Nat.zero_le _⟩ dX0_carryOut_80 (fun H locs hP hD hS => ?_)
  have hP : va_P G.1 vwCl (playW G q (a 0) P ++ rollW G a w) H := hP
  have hD : va_D A (playW G q (a 0) P ++ rollW G a w) := hD
  refine lv_pop hx hb dX0_carryOut_83 rfl ?_
  refine lv_goto (tgt := 134) hx hb dX0_carryOut_84 (by decide) ?_
  exact z_vret hx hb hr hlk hP hD hS dX0_carryOut_134 rfl

set_option maxHeartbeats 4000000 in
set_option maxRecDepth 100000 in
theorem c_X0_carryOut_m (l : Launch) (G : ZG) (q : Nat) (a : Nat → Nat) (P : Nat → Nat) (v : Mem) (h1 : P 1 = 0) (hk : P 5 = 45) (hcan : CI l G yX0_canCarryOut wsX0_canCarryOut (zRm 3 64) [.ref q, .int (zNum (v 0) (nI (P 10)))] (playW G q (a 0) P ++ rollW G a v) (bI true) (playW G q (a 0) P ++ rollW G a v)) (w : Mem) (r0 : Int32) (hdo : CI l G yX1_giveBack wsX1_giveBack (zRm 1 21) [.ref (a 0), .int (zNum (v 0) (nI (P 10)))] (rollW G a v) r0 (rollW G a w)) : CV l G yX0_carryOut wsX0_carryOut (zRm 4 95) [.ref q] (playW G q (a 0) P ++ rollW G a v) (playW G q (a 0) P ++ rollW G a w) := by
  refine CV.ent (cc := cX0_carryOut) (maxL := 2) (own := RX0) (by decide) rfl rfl (Nat.le_of_ble_eq_true rfl) ?_
  intro p ee s m args below meth c A ls F hr hlk hKK hP hD hA hS hl
  obtain ⟨hx, hb, hml, hown, hts⟩ := id F
  have hl : lv_has ls 2 [(0, .ref q)] := hl
  have fl_12 := hts (.fieldLink RX0 12 "NameRolls$Player" "trial" "LNameRolls$Roll;") (by decide +kernel)
  have fl_26 := hts (.fieldLink RX0 26 "NameRolls$Player" "reason" "I") (by decide +kernel)
  have fl_54 := hts (.fieldLink RX0 54 "NameRolls$Player" "kind" "C") (by decide +kernel)
  have fl_70 := hts (.fieldLink RX0 70 "NameRolls$Player" "name" "I") (by decide +kernel)
  have hinX0 : ∀ w ∈ wsX00, w ∈ wsX0_carryOut := by decide +kernel
  refine lv_aload_n hx hb dX0_carryOut_0 rfl (lv_at hl 0 rfl) ?_
  refine va_get (D := G.1) (ci := 0) (v := .int (nI (P 1))) (C := RX0) (T := TX0) (N := 12) hx hb hts hinX0 hown hKK.1 hP 0 rfl rfl 2 (by decide) fl_26 (fun _ h9 => h9) rfl dX0_carryOut_1 ?_
  refine z_ifNeq (tgt := 8) hx hb dX0_carryOut_4 (by decide) (by omega) (fun c_1 => ?_) (fun c_1 => absurd h1 c_1)
  refine lv_aload_n hx hb dX0_carryOut_8 rfl (lv_at hl 0 rfl) ?_
  refine va_get (D := G.1) (ci := 0) (v := .ref (a 0)) (C := RX0) (T := TX0) (N := 12) hx hb hts hinX0 hown hKK.1 hP 0 rfl rfl 0 (by decide) fl_12 (fun _ h9 => h9) rfl dX0_carryOut_9 ?_
  refine lv_aload_n hx hb dX0_carryOut_12 rfl (lv_at hl 0 rfl) ?_
  refine va_get (D := G.1) (ci := 0) (v := .int (nI (P 10))) (C := RX0) (T := TX0) (N := 12) hx hb hts hinX0 hown hKK.1 hP 0 rfl rfl 11 (by decide) fl_70 (fun _ h9 => h9) rfl dX0_carryOut_13 ?_
  refine z_callVI (As := [.int (nI (P 10))]) (rest := []) (wr := (playW G q (a 0) P)) (C := RX1) F (c_X1_numberWith l G a v (nI (P 10))) (cwV 1 hts gX0_carryOut_X1_numberWith rfl rfl rfl (by decide +kernel) ⟨Nat.le_of_ble_eq_true rfl, Nat.le_of_ble_eq_true rfl⟩) hKK (z_recv hKK hP (q0 := 1) (ci := 1) rfl rfl) hP hD hS hA rfl hl.1 rfl (Nat.le_of_ble_eq_true rfl) ⟨Nat.zero_le _, Nat.zero_le _⟩ dX0_carryOut_16 (fun H locs hP hD hS => ?_)
  have hP : va_P G.1 vwCl (playW G q (a 0) P ++ rollW G a v) H := hP
  have hD : va_D A (playW G q (a 0) P ++ rollW G a v) := hD
  refine lv_istore_n (lv' := [(1, .int (zNum (v 0) (nI (P 10)))), (0, .ref q)]) hx hb dX0_carryOut_19 rfl hl (by decide) rfl (fun ls hl => ?_)
  refine lv_aload_n hx hb dX0_carryOut_20 rfl (lv_at hl 1 rfl) ?_
  refine lv_iload_n hx hb dX0_carryOut_21 rfl (lv_at hl 0 rfl) ?_
  refine z_callVI (As := [.int (zNum (v 0) (nI (P 10)))]) (rest := []) (wr := []) (C := RX0) F (hcan) (cwV 1 hts gX0_carryOut_X0_canCarryOut rfl rfl rfl (by decide +kernel) ⟨Nat.le_of_ble_eq_true rfl, Nat.le_of_ble_eq_true rfl⟩) hKK (z_recv hKK hP (q0 := 0) (ci := 0) rfl rfl) hP hD hS hA rfl hl.1 rfl (Nat.le_of_ble_eq_true rfl) ⟨Nat.zero_le _, Nat.zero_le _⟩ dX0_carryOut_22 (fun H locs hP hD hS => ?_)
  have hP : va_P G.1 vwCl (playW G q (a 0) P ++ rollW G a v) H := hP
  have hD : va_D A (playW G q (a 0) P ++ rollW G a v) := hD
  refine z_ifBne (tgt := 35) hx hb dX0_carryOut_25 (by decide) (fun c_2 => ?_) (fun c_2 => absurd c_2 (by decide))
  refine lv_aload_n hx hb dX0_carryOut_35 rfl (lv_at hl 1 rfl) ?_
  refine va_get (D := G.1) (ci := 0) (v := .int (nI (P 5))) (C := RX0) (T := TX0) (N := 12) hx hb hts hinX0 hown hKK.1 hP 0 rfl rfl 6 (by decide) fl_54 (fun _ h9 => h9) rfl dX0_carryOut_36 ?_
  refine z_top (v := nI 45) (by rw [hk]) ?_
  refine lv_lookup (off := 48) (tgt := 87) hx hb dX0_carryOut_39 (by decide) (by decide) (by decide) ?_
  refine lv_aload_n hx hb dX0_carryOut_87 rfl (lv_at hl 1 rfl) ?_
  refine va_get (D := G.1) (ci := 0) (v := .ref (a 0)) (C := RX0) (T := TX0) (N := 12) hx hb hts hinX0 hown hKK.1 hP 0 rfl rfl 0 (by decide) fl_12 (fun _ h9 => h9) rfl dX0_carryOut_88 ?_
  refine lv_iload_n hx hb dX0_carryOut_91 rfl (lv_at hl 0 rfl) ?_
  refine z_callVI (As := [.int (zNum (v 0) (nI (P 10)))]) (rest := []) (wr := (playW G q (a 0) P)) (C := RX1) F (hdo) (cwV 1 hts gX0_carryOut_X1_giveBack rfl rfl rfl (by decide +kernel) ⟨Nat.le_of_ble_eq_true rfl, Nat.le_of_ble_eq_true rfl⟩) hKK (z_recv hKK hP (q0 := 1) (ci := 1) rfl rfl) hP hD hS hA rfl hl.1 rfl (Nat.le_of_ble_eq_true rfl) ⟨Nat.zero_le _, Nat.zero_le _⟩ dX0_carryOut_92 (fun H locs hP hD hS => ?_)
  have hP : va_P G.1 vwCl (playW G q (a 0) P ++ rollW G a w) H := hP
  have hD : va_D A (playW G q (a 0) P ++ rollW G a w) := hD
  refine lv_pop hx hb dX0_carryOut_95 rfl ?_
  refine lv_goto (tgt := 134) hx hb dX0_carryOut_96 (by decide) ?_
  exact z_vret hx hb hr hlk hP hD hS dX0_carryOut_134 rfl

set_option maxHeartbeats 4000000 in
set_option maxRecDepth 100000 in
theorem c_X0_carryOut_e (l : Launch) (G : ZG) (q : Nat) (a : Nat → Nat) (P : Nat → Nat) (v : Mem) (h1 : P 1 = 0) (hk : P 5 = 61) (hcan : CI l G yX0_canCarryOut wsX0_canCarryOut (zRm 3 64) [.ref q, .int (zNum (v 0) (nI (P 10)))] (playW G q (a 0) P ++ rollW G a v) (bI true) (playW G q (a 0) P ++ rollW G a v)) (w : Mem) (r0 : Int32) (hdo : CI l G yX1_fillCell wsX1_fillCell (zRm 2 42) [.ref (a 0), .int (nI (P 6 * 6 + P 7)), .int (zNum (v 0) (nI (P 10)))] (rollW G a v) r0 (rollW G a w)) : CV l G yX0_carryOut wsX0_carryOut (zRm 4 95) [.ref q] (playW G q (a 0) P ++ rollW G a v) (playW G q (a 0) P ++ rollW G a w) := by
  refine CV.ent (cc := cX0_carryOut) (maxL := 2) (own := RX0) (by decide) rfl rfl (Nat.le_of_ble_eq_true rfl) ?_
  intro p ee s m args below meth c A ls F hr hlk hKK hP hD hA hS hl
  obtain ⟨hx, hb, hml, hown, hts⟩ := id F
  have hl : lv_has ls 2 [(0, .ref q)] := hl
  have fl_12 := hts (.fieldLink RX0 12 "NameRolls$Player" "trial" "LNameRolls$Roll;") (by decide +kernel)
  have fl_26 := hts (.fieldLink RX0 26 "NameRolls$Player" "reason" "I") (by decide +kernel)
  have fl_54 := hts (.fieldLink RX0 54 "NameRolls$Player" "kind" "C") (by decide +kernel)
  have fl_58 := hts (.fieldLink RX0 58 "NameRolls$Player" "table" "I") (by decide +kernel)
  have fl_61 := hts (.fieldLink RX0 61 "NameRolls$Player" "cell" "I") (by decide +kernel)
  have fl_70 := hts (.fieldLink RX0 70 "NameRolls$Player" "name" "I") (by decide +kernel)
  have hinX0 : ∀ w ∈ wsX00, w ∈ wsX0_carryOut := by decide +kernel
  have st_X3_cellIndex := hts (.static yX3_cellIndex) (by decide +kernel)
  have ini_X3 := hts (.initialized RX3) (by decide +kernel)
  refine lv_aload_n hx hb dX0_carryOut_0 rfl (lv_at hl 0 rfl) ?_
  refine va_get (D := G.1) (ci := 0) (v := .int (nI (P 1))) (C := RX0) (T := TX0) (N := 12) hx hb hts hinX0 hown hKK.1 hP 0 rfl rfl 2 (by decide) fl_26 (fun _ h9 => h9) rfl dX0_carryOut_1 ?_
  refine z_ifNeq (tgt := 8) hx hb dX0_carryOut_4 (by decide) (by omega) (fun c_1 => ?_) (fun c_1 => absurd h1 c_1)
  refine lv_aload_n hx hb dX0_carryOut_8 rfl (lv_at hl 0 rfl) ?_
  refine va_get (D := G.1) (ci := 0) (v := .ref (a 0)) (C := RX0) (T := TX0) (N := 12) hx hb hts hinX0 hown hKK.1 hP 0 rfl rfl 0 (by decide) fl_12 (fun _ h9 => h9) rfl dX0_carryOut_9 ?_
  refine lv_aload_n hx hb dX0_carryOut_12 rfl (lv_at hl 0 rfl) ?_
  refine va_get (D := G.1) (ci := 0) (v := .int (nI (P 10))) (C := RX0) (T := TX0) (N := 12) hx hb hts hinX0 hown hKK.1 hP 0 rfl rfl 11 (by decide) fl_70 (fun _ h9 => h9) rfl dX0_carryOut_13 ?_
  refine z_callVI (As := [.int (nI (P 10))]) (rest := []) (wr := (playW G q (a 0) P)) (C := RX1) F (c_X1_numberWith l G a v (nI (P 10))) (cwV 1 hts gX0_carryOut_X1_numberWith rfl rfl rfl (by decide +kernel) ⟨Nat.le_of_ble_eq_true rfl, Nat.le_of_ble_eq_true rfl⟩) hKK (z_recv hKK hP (q0 := 1) (ci := 1) rfl rfl) hP hD hS hA rfl hl.1 rfl (Nat.le_of_ble_eq_true rfl) ⟨Nat.zero_le _, Nat.zero_le _⟩ dX0_carryOut_16 (fun H locs hP hD hS => ?_)
  have hP : va_P G.1 vwCl (playW G q (a 0) P ++ rollW G a v) H := hP
  have hD : va_D A (playW G q (a 0) P ++ rollW G a v) := hD
  refine lv_istore_n (lv' := [(1, .int (zNum (v 0) (nI (P 10)))), (0, .ref q)]) hx hb dX0_carryOut_19 rfl hl (by decide) rfl (fun ls hl => ?_)
  refine lv_aload_n hx hb dX0_carryOut_20 rfl (lv_at hl 1 rfl) ?_
  refine lv_iload_n hx hb dX0_carryOut_21 rfl (lv_at hl 0 rfl) ?_
  refine z_callVI (As := [.int (zNum (v 0) (nI (P 10)))]) (rest := []) (wr := []) (C := RX0) F (hcan) (cwV 1 hts gX0_carryOut_X0_canCarryOut rfl rfl rfl (by decide +kernel) ⟨Nat.le_of_ble_eq_true rfl, Nat.le_of_ble_eq_true rfl⟩) hKK (z_recv hKK hP (q0 := 0) (ci := 0) rfl rfl) hP hD hS hA rfl hl.1 rfl (Nat.le_of_ble_eq_true rfl) ⟨Nat.zero_le _, Nat.zero_le _⟩ dX0_carryOut_22 (fun H locs hP hD hS => ?_)
  have hP : va_P G.1 vwCl (playW G q (a 0) P ++ rollW G a v) H := hP
  have hD : va_D A (playW G q (a 0) P ++ rollW G a v) := hD
  refine z_ifBne (tgt := 35) hx hb dX0_carryOut_25 (by decide) (fun c_2 => ?_) (fun c_2 => absurd c_2 (by decide))
  refine lv_aload_n hx hb dX0_carryOut_35 rfl (lv_at hl 1 rfl) ?_
  refine va_get (D := G.1) (ci := 0) (v := .int (nI (P 5))) (C := RX0) (T := TX0) (N := 12) hx hb hts hinX0 hown hKK.1 hP 0 rfl rfl 6 (by decide) fl_54 (fun _ h9 => h9) rfl dX0_carryOut_36 ?_
  refine z_top (v := nI 61) (by rw [hk]) ?_
  refine lv_lookup (off := 60) (tgt := 99) hx hb dX0_carryOut_39 (by decide) (by decide) (by decide) ?_
  refine lv_aload_n hx hb dX0_carryOut_99 rfl (lv_at hl 1 rfl) ?_
  refine va_get (D := G.1) (ci := 0) (v := .ref (a 0)) (C := RX0) (T := TX0) (N := 12) hx hb hts hinX0 hown hKK.1 hP 0 rfl rfl 0 (by decide) fl_12 (fun _ h9 => h9) rfl dX0_carryOut_100 ?_
  refine lv_aload_n hx hb dX0_carryOut_103 rfl (lv_at hl 1 rfl) ?_
  refine va_get (D := G.1) (ci := 0) (v := .int (nI (P 6))) (C := RX0) (T := TX0) (N := 12) hx hb hts hinX0 hown hKK.1 hP 0 rfl rfl 7 (by decide) fl_58 (fun _ h9 => h9) rfl dX0_carryOut_104 ?_
  refine lv_aload_n hx hb dX0_carryOut_107 rfl (lv_at hl 1 rfl) ?_
  refine va_get (D := G.1) (ci := 0) (v := .int (nI (P 7))) (C := RX0) (T := TX0) (N := 12) hx hb hts hinX0 hown hKK.1 hP 0 rfl rfl 8 (by decide) fl_61 (fun _ h9 => h9) rfl dX0_carryOut_108 ?_
  refine z_callNI (As := [.int (nI (P 6)), .int (nI (P 7))]) (rest := [.ref (a 0)]) F (c_X3_cellIndex l G (P 6) (P 7)) ⟨va_cnB 2 hts gX0_carryOut_X3_cellIndex_n102 rfl rfl rfl hKK.2.2.2.2.1 ini_X3 (by decide +kernel) ⟨Nat.le_of_ble_eq_true rfl, Nat.le_of_ble_eq_true rfl⟩, st_X3_cellIndex, trivial⟩ hKK hP hD hS hA rfl hl.1 rfl (Nat.le_of_ble_eq_true rfl) ⟨Nat.zero_le _, Nat.zero_le _⟩ dX0_carryOut_111 (fun H locs hP hD hS => ?_)
  refine lv_iload_n hx hb dX0_carryOut_114 rfl (lv_at hl 0 rfl) ?_
  refine z_callVI (As := [.int (nI ((P 6) * 6 + (P 7))), .int (zNum (v 0) (nI (P 10)))]) (rest := []) (wr := (playW G q (a 0) P)) (C := RX1) F (hdo) (cwV 2 hts gX0_carryOut_X1_fillCell rfl rfl rfl (by decide +kernel) ⟨Nat.le_of_ble_eq_true rfl, Nat.le_of_ble_eq_true rfl⟩) hKK (z_recv hKK hP (q0 := 1) (ci := 1) rfl rfl) hP hD hS hA rfl hl.1 rfl (Nat.le_of_ble_eq_true rfl) ⟨Nat.zero_le _, Nat.zero_le _⟩ dX0_carryOut_115 (fun H locs hP hD hS => ?_)
  have hP : va_P G.1 vwCl (playW G q (a 0) P ++ rollW G a w) H := hP
  have hD : va_D A (playW G q (a 0) P ++ rollW G a w) := hD
  refine lv_pop hx hb dX0_carryOut_118 rfl ?_
  refine lv_goto (tgt := 134) hx hb dX0_carryOut_119 (by decide) ?_
  exact z_vret hx hb hr hlk hP hD hS dX0_carryOut_134 rfl

set_option maxHeartbeats 4000000 in
set_option maxRecDepth 100000 in
theorem c_X0_carryOut_x (l : Launch) (G : ZG) (q : Nat) (a : Nat → Nat) (P : Nat → Nat) (v : Mem) (h1 : P 1 = 0) (hk : P 5 = 33) (hcan : CI l G yX0_canCarryOut wsX0_canCarryOut (zRm 3 64) [.ref q, .int (zNum (v 0) (nI (P 10)))] (playW G q (a 0) P ++ rollW G a v) (bI true) (playW G q (a 0) P ++ rollW G a v)) (w : Mem) (r0 : Int32) (hdo : CI l G yX1_giveAnew wsX1_giveAnew (zRm 3 69) [.ref (a 0), .int (nI (P 8))] (rollW G a v) r0 (rollW G a w)) : CV l G yX0_carryOut wsX0_carryOut (zRm 4 95) [.ref q] (playW G q (a 0) P ++ rollW G a v) (playW G q (a 0) P ++ rollW G a w) := by
  refine CV.ent (cc := cX0_carryOut) (maxL := 2) (own := RX0) (by decide) rfl rfl (Nat.le_of_ble_eq_true rfl) ?_
  intro p ee s m args below meth c A ls F hr hlk hKK hP hD hA hS hl
  obtain ⟨hx, hb, hml, hown, hts⟩ := id F
  have hl : lv_has ls 2 [(0, .ref q)] := hl
  have fl_12 := hts (.fieldLink RX0 12 "NameRolls$Player" "trial" "LNameRolls$Roll;") (by decide +kernel)
  have fl_26 := hts (.fieldLink RX0 26 "NameRolls$Player" "reason" "I") (by decide +kernel)
  have fl_54 := hts (.fieldLink RX0 54 "NameRolls$Player" "kind" "C") (by decide +kernel)
  have fl_64 := hts (.fieldLink RX0 64 "NameRolls$Player" "rule" "I") (by decide +kernel)
  have fl_70 := hts (.fieldLink RX0 70 "NameRolls$Player" "name" "I") (by decide +kernel)
  have hinX0 : ∀ w ∈ wsX00, w ∈ wsX0_carryOut := by decide +kernel
  refine lv_aload_n hx hb dX0_carryOut_0 rfl (lv_at hl 0 rfl) ?_
  refine va_get (D := G.1) (ci := 0) (v := .int (nI (P 1))) (C := RX0) (T := TX0) (N := 12) hx hb hts hinX0 hown hKK.1 hP 0 rfl rfl 2 (by decide) fl_26 (fun _ h9 => h9) rfl dX0_carryOut_1 ?_
  refine z_ifNeq (tgt := 8) hx hb dX0_carryOut_4 (by decide) (by omega) (fun c_1 => ?_) (fun c_1 => absurd h1 c_1)
  refine lv_aload_n hx hb dX0_carryOut_8 rfl (lv_at hl 0 rfl) ?_
  refine va_get (D := G.1) (ci := 0) (v := .ref (a 0)) (C := RX0) (T := TX0) (N := 12) hx hb hts hinX0 hown hKK.1 hP 0 rfl rfl 0 (by decide) fl_12 (fun _ h9 => h9) rfl dX0_carryOut_9 ?_
  refine lv_aload_n hx hb dX0_carryOut_12 rfl (lv_at hl 0 rfl) ?_
  refine va_get (D := G.1) (ci := 0) (v := .int (nI (P 10))) (C := RX0) (T := TX0) (N := 12) hx hb hts hinX0 hown hKK.1 hP 0 rfl rfl 11 (by decide) fl_70 (fun _ h9 => h9) rfl dX0_carryOut_13 ?_
  refine z_callVI (As := [.int (nI (P 10))]) (rest := []) (wr := (playW G q (a 0) P)) (C := RX1) F (c_X1_numberWith l G a v (nI (P 10))) (cwV 1 hts gX0_carryOut_X1_numberWith rfl rfl rfl (by decide +kernel) ⟨Nat.le_of_ble_eq_true rfl, Nat.le_of_ble_eq_true rfl⟩) hKK (z_recv hKK hP (q0 := 1) (ci := 1) rfl rfl) hP hD hS hA rfl hl.1 rfl (Nat.le_of_ble_eq_true rfl) ⟨Nat.zero_le _, Nat.zero_le _⟩ dX0_carryOut_16 (fun H locs hP hD hS => ?_)
  have hP : va_P G.1 vwCl (playW G q (a 0) P ++ rollW G a v) H := hP
  have hD : va_D A (playW G q (a 0) P ++ rollW G a v) := hD
  refine lv_istore_n (lv' := [(1, .int (zNum (v 0) (nI (P 10)))), (0, .ref q)]) hx hb dX0_carryOut_19 rfl hl (by decide) rfl (fun ls hl => ?_)
  refine lv_aload_n hx hb dX0_carryOut_20 rfl (lv_at hl 1 rfl) ?_
  refine lv_iload_n hx hb dX0_carryOut_21 rfl (lv_at hl 0 rfl) ?_
  refine z_callVI (As := [.int (zNum (v 0) (nI (P 10)))]) (rest := []) (wr := []) (C := RX0) F (hcan) (cwV 1 hts gX0_carryOut_X0_canCarryOut rfl rfl rfl (by decide +kernel) ⟨Nat.le_of_ble_eq_true rfl, Nat.le_of_ble_eq_true rfl⟩) hKK (z_recv hKK hP (q0 := 0) (ci := 0) rfl rfl) hP hD hS hA rfl hl.1 rfl (Nat.le_of_ble_eq_true rfl) ⟨Nat.zero_le _, Nat.zero_le _⟩ dX0_carryOut_22 (fun H locs hP hD hS => ?_)
  have hP : va_P G.1 vwCl (playW G q (a 0) P ++ rollW G a v) H := hP
  have hD : va_D A (playW G q (a 0) P ++ rollW G a v) := hD
  refine z_ifBne (tgt := 35) hx hb dX0_carryOut_25 (by decide) (fun c_2 => ?_) (fun c_2 => absurd c_2 (by decide))
  refine lv_aload_n hx hb dX0_carryOut_35 rfl (lv_at hl 1 rfl) ?_
  refine va_get (D := G.1) (ci := 0) (v := .int (nI (P 5))) (C := RX0) (T := TX0) (N := 12) hx hb hts hinX0 hown hKK.1 hP 0 rfl rfl 6 (by decide) fl_54 (fun _ h9 => h9) rfl dX0_carryOut_36 ?_
  refine z_top (v := nI 33) (by rw [hk]) ?_
  refine lv_lookup (off := 83) (tgt := 122) hx hb dX0_carryOut_39 (by decide) (by decide) (by decide) ?_
  refine lv_aload_n hx hb dX0_carryOut_122 rfl (lv_at hl 1 rfl) ?_
  refine va_get (D := G.1) (ci := 0) (v := .ref (a 0)) (C := RX0) (T := TX0) (N := 12) hx hb hts hinX0 hown hKK.1 hP 0 rfl rfl 0 (by decide) fl_12 (fun _ h9 => h9) rfl dX0_carryOut_123 ?_
  refine lv_aload_n hx hb dX0_carryOut_126 rfl (lv_at hl 1 rfl) ?_
  refine va_get (D := G.1) (ci := 0) (v := .int (nI (P 8))) (C := RX0) (T := TX0) (N := 12) hx hb hts hinX0 hown hKK.1 hP 0 rfl rfl 9 (by decide) fl_64 (fun _ h9 => h9) rfl dX0_carryOut_127 ?_
  refine z_callVI (As := [.int (nI (P 8))]) (rest := []) (wr := (playW G q (a 0) P)) (C := RX1) F (hdo) (cwV 1 hts gX0_carryOut_X1_giveAnew rfl rfl rfl (by decide +kernel) ⟨Nat.le_of_ble_eq_true rfl, Nat.le_of_ble_eq_true rfl⟩) hKK (z_recv hKK hP (q0 := 1) (ci := 1) rfl rfl) hP hD hS hA rfl hl.1 rfl (Nat.le_of_ble_eq_true rfl) ⟨Nat.zero_le _, Nat.zero_le _⟩ dX0_carryOut_130 (fun H locs hP hD hS => ?_)
  have hP : va_P G.1 vwCl (playW G q (a 0) P ++ rollW G a w) H := hP
  have hD : va_D A (playW G q (a 0) P ++ rollW G a w) := hD
  refine lv_pop hx hb dX0_carryOut_133 rfl ?_
  exact z_vret hx hb hr hlk hP hD hS dX0_carryOut_134 rfl
