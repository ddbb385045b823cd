set_option maxHeartbeats 4000000 in
set_option maxRecDepth 100000 in
theorem c_X0_canCarryOut_p (l : Launch) (G : ZG) (q : Nat) (a : Nat → Nat) (P : Nat → Nat) (v : Mem) (z : Int32) (x : Bool) (hk : P 5 = 43) (hcal : CI l G yX1_hasRoomFor wsX1_hasRoomFor (zRm 2 42) [.ref (a 0), .int (nI (P 10))] (rollW G a v) (bI x) (rollW G a v)) : CI l G yX0_canCarryOut wsX0_canCarryOut (zRm 3 64) [.ref q, .int z] (playW G q (a 0) P ++ rollW G a v) (bI (x)) (playW G q (a 0) P ++ rollW G a v) := by
  refine CI.ent (cc := cX0_canCarryOut) (maxL := 2) (ty := .boolean) (own := RX0) (by decide) rfl rfl (Nat.le_of_ble_eq_true rfl) ?_
  intro p ee s m args below meth c A ls F hr hlk hKK hP hD hA hS hl
  obtain ⟨hx, hb, hml, hown, hts⟩ := id F
  have hl : lv_has ls 2 [(0, .ref q), (1, .int z)] := hl
  have fl_12 := hts (.fieldLink RX0 12 "NameRolls$Player" "trial" "LNameRolls$Roll;") (by decide +kernel)
  have fl_54 := hts (.fieldLink RX0 54 "NameRolls$Player" "kind" "C") (by decide +kernel)
  have fl_70 := hts (.fieldLink RX0 70 "NameRolls$Player" "name" "I") (by decide +kernel)
  have hinX0 : ∀ w ∈ wsX00, w ∈ wsX0_canCarryOut := by decide +kernel
  refine lv_aload_n hx hb dX0_canCarryOut_0 rfl (lv_at hl 0 rfl) ?_
  refine va_get (D := G.1) (ci := 0) (v := .int (nI (P 5))) (C := RX0) (T := TX0) (N := 12) hx hb hts hinX0 hown hKK.1 hP 0 rfl rfl 6 (by decide) fl_54 (fun _ h9 => h9) rfl dX0_canCarryOut_1 ?_
  refine z_top (v := nI 43) (by rw [hk]) ?_
  refine lv_lookup (off := 36) (tgt := 40) hx hb dX0_canCarryOut_4 (by decide) (by decide) (by decide) ?_
  refine lv_aload_n hx hb dX0_canCarryOut_40 rfl (lv_at hl 0 rfl) ?_
  refine va_get (D := G.1) (ci := 0) (v := .ref (a 0)) (C := RX0) (T := TX0) (N := 12) hx hb hts hinX0 hown hKK.1 hP 0 rfl rfl 0 (by decide) fl_12 (fun _ h9 => h9) rfl dX0_canCarryOut_41 ?_
  refine lv_aload_n hx hb dX0_canCarryOut_44 rfl (lv_at hl 0 rfl) ?_
  refine va_get (D := G.1) (ci := 0) (v := .int (nI (P 10))) (C := RX0) (T := TX0) (N := 12) hx hb hts hinX0 hown hKK.1 hP 0 rfl rfl 11 (by decide) fl_70 (fun _ h9 => h9) rfl dX0_canCarryOut_45 ?_
  refine z_callVI (As := [.int (nI (P 10))]) (rest := []) (wr := (playW G q (a 0) P)) (C := RX1) F (hcal) (cwV 1 hts gX0_canCarryOut_X1_hasRoomFor rfl rfl rfl (by decide +kernel) ⟨Nat.le_of_ble_eq_true rfl, Nat.le_of_ble_eq_true rfl⟩) hKK (z_recv hKK hP (q0 := 1) (ci := 1) rfl rfl) hP hD hS hA rfl hl.1 rfl (Nat.le_of_ble_eq_true rfl) ⟨Nat.zero_le _, Nat.zero_le _⟩ dX0_canCarryOut_48 (fun H locs hP hD hS => ?_)
  have hP : va_P G.1 vwCl (playW G q (a 0) P ++ rollW G a v) H := hP
  have hD : va_D A (playW G q (a 0) P ++ rollW G a v) := hD
  exact z_zret hx hb hr hlk hP hD hS dX0_canCarryOut_51 (bI_nar _) rfl rfl

set_option maxHeartbeats 4000000 in
set_option maxRecDepth 100000 in
theorem c_X0_canCarryOut_m (l : Launch) (G : ZG) (q : Nat) (a : Nat → Nat) (P : Nat → Nat) (v : Mem) (z : Int32) (x : Bool) (hk : P 5 = 45) (hcal : CI l G yX1_hasFreeUser wsX1_hasFreeUser (zRm 1 23) [.ref (a 0), .int z] (rollW G a v) (bI x) (rollW G a v)) : CI l G yX0_canCarryOut wsX0_canCarryOut (zRm 3 64) [.ref q, .int z] (playW G q (a 0) P ++ rollW G a v) (bI (x)) (playW G q (a 0) P ++ rollW G a v) := by
  refine CI.ent (cc := cX0_canCarryOut) (maxL := 2) (ty := .boolean) (own := RX0) (by decide) rfl rfl (Nat.le_of_ble_eq_true rfl) ?_
  intro p ee s m args below meth c A ls F hr hlk hKK hP hD hA hS hl
  obtain ⟨hx, hb, hml, hown, hts⟩ := id F
  have hl : lv_has ls 2 [(0, .ref q), (1, .int z)] := hl
  have fl_12 := hts (.fieldLink RX0 12 "NameRolls$Player" "trial" "LNameRolls$Roll;") (by decide +kernel)
  have fl_54 := hts (.fieldLink RX0 54 "NameRolls$Player" "kind" "C") (by decide +kernel)
  have hinX0 : ∀ w ∈ wsX00, w ∈ wsX0_canCarryOut := by decide +kernel
  refine lv_aload_n hx hb dX0_canCarryOut_0 rfl (lv_at hl 0 rfl) ?_
  refine va_get (D := G.1) (ci := 0) (v := .int (nI (P 5))) (C := RX0) (T := TX0) (N := 12) hx hb hts hinX0 hown hKK.1 hP 0 rfl rfl 6 (by decide) fl_54 (fun _ h9 => h9) rfl dX0_canCarryOut_1 ?_
  refine z_top (v := nI 45) (by rw [hk]) ?_
  refine lv_lookup (off := 48) (tgt := 52) hx hb dX0_canCarryOut_4 (by decide) (by decide) (by decide) ?_
  refine lv_aload_n hx hb dX0_canCarryOut_52 rfl (lv_at hl 0 rfl) ?_
  refine va_get (D := G.1) (ci := 0) (v := .ref (a 0)) (C := RX0) (T := TX0) (N := 12) hx hb hts hinX0 hown hKK.1 hP 0 rfl rfl 0 (by decide) fl_12 (fun _ h9 => h9) rfl dX0_canCarryOut_53 ?_
  refine lv_iload_n hx hb dX0_canCarryOut_56 rfl (lv_at hl 1 rfl) ?_
  refine z_callVI (As := [.int z]) (rest := []) (wr := (playW G q (a 0) P)) (C := RX1) F (hcal) (cwV 1 hts gX0_canCarryOut_X1_hasFreeUser rfl rfl rfl (by decide +kernel) ⟨Nat.le_of_ble_eq_true rfl, Nat.le_of_ble_eq_true rfl⟩) hKK (z_recv hKK hP (q0 := 1) (ci := 1) rfl rfl) hP hD hS hA rfl hl.1 rfl (Nat.le_of_ble_eq_true rfl) ⟨Nat.zero_le _, Nat.zero_le _⟩ dX0_canCarryOut_57 (fun H locs hP hD hS => ?_)
  have hP : va_P G.1 vwCl (playW G q (a 0) P ++ rollW G a v) H := hP
  have hD : va_D A (playW G q (a 0) P ++ rollW G a v) := hD
  exact z_zret hx hb hr hlk hP hD hS dX0_canCarryOut_60 (bI_nar _) rfl rfl

set_option maxHeartbeats 4000000 in
set_option maxRecDepth 100000 in
theorem c_X0_canCarryOut_e (l : Launch) (G : ZG) (q : Nat) (a : Nat → Nat) (P : Nat → Nat) (v : Mem) (z : Int32) (x : Bool) (hk : P 5 = 61) (hcal : CI l G yX1_hasRoomForUser wsX1_hasRoomForUser (zRm 1 21) [.ref (a 0), .int z] (rollW G a v) (bI x) (rollW G a v)) : CI l G yX0_canCarryOut wsX0_canCarryOut (zRm 3 64) [.ref q, .int z] (playW G q (a 0) P ++ rollW G a v) (bI (x)) (playW G q (a 0) P ++ rollW G a v) := by
  refine CI.ent (cc := cX0_canCarryOut) (maxL := 2) (ty := .boolean) (own := RX0) (by decide) rfl rfl (Nat.le_of_ble_eq_true rfl) ?_
  intro p ee s m args below meth c A ls F hr hlk hKK hP hD hA hS hl
  obtain ⟨hx, hb, hml, hown, hts⟩ := id F
  have hl : lv_has ls 2 [(0, .ref q), (1, .int z)] := hl
  have fl_12 := hts (.fieldLink RX0 12 "NameRolls$Player" "trial" "LNameRolls$Roll;") (by decide +kernel)
  have fl_54 := hts (.fieldLink RX0 54 "NameRolls$Player" "kind" "C") (by decide +kernel)
  have hinX0 : ∀ w ∈ wsX00, w ∈ wsX0_canCarryOut := by decide +kernel
  refine lv_aload_n hx hb dX0_canCarryOut_0 rfl (lv_at hl 0 rfl) ?_
  refine va_get (D := G.1) (ci := 0) (v := .int (nI (P 5))) (C := RX0) (T := TX0) (N := 12) hx hb hts hinX0 hown hKK.1 hP 0 rfl rfl 6 (by decide) fl_54 (fun _ h9 => h9) rfl dX0_canCarryOut_1 ?_
  refine z_top (v := nI 61) (by rw [hk]) ?_
  refine lv_lookup (off := 57) (tgt := 61) hx hb dX0_canCarryOut_4 (by decide) (by decide) (by decide) ?_
  refine lv_aload_n hx hb dX0_canCarryOut_61 rfl (lv_at hl 0 rfl) ?_
  refine va_get (D := G.1) (ci := 0) (v := .ref (a 0)) (C := RX0) (T := TX0) (N := 12) hx hb hts hinX0 hown hKK.1 hP 0 rfl rfl 0 (by decide) fl_12 (fun _ h9 => h9) rfl dX0_canCarryOut_62 ?_
  refine lv_iload_n hx hb dX0_canCarryOut_65 rfl (lv_at hl 1 rfl) ?_
  refine z_callVI (As := [.int z]) (rest := []) (wr := (playW G q (a 0) P)) (C := RX1) F (hcal) (cwV 1 hts gX0_canCarryOut_X1_hasRoomForUser rfl rfl rfl (by decide +kernel) ⟨Nat.le_of_ble_eq_true rfl, Nat.le_of_ble_eq_true rfl⟩) hKK (z_recv hKK hP (q0 := 1) (ci := 1) rfl rfl) hP hD hS hA rfl hl.1 rfl (Nat.le_of_ble_eq_true rfl) ⟨Nat.zero_le _, Nat.zero_le _⟩ dX0_canCarryOut_66 (fun H locs hP hD hS => ?_)
  have hP : va_P G.1 vwCl (playW G q (a 0) P ++ rollW G a v) H := hP
  have hD : va_D A (playW G q (a 0) P ++ rollW G a v) := hD
  exact z_zret hx hb hr hlk hP hD hS dX0_canCarryOut_69 (bI_nar _) rfl rfl

set_option maxHeartbeats 4000000 in
set_option maxRecDepth 100000 in
theorem c_X0_canCarryOut_x (l : Launch) (G : ZG) (q : Nat) (a : Nat → Nat) (P : Nat → Nat) (v : Mem) (z : Int32) (x : Bool) (hk : P 5 = 33) (hcal : CI l G yX1_hasNextEpoch wsX1_hasNextEpoch (zRm 0 0) [.ref (a 0)] (rollW G a v) (bI x) (rollW G a v)) : CI l G yX0_canCarryOut wsX0_canCarryOut (zRm 3 64) [.ref q, .int z] (playW G q (a 0) P ++ rollW G a v) (bI (x)) (playW G q (a 0) P ++ rollW G a v) := by
  refine CI.ent (cc := cX0_canCarryOut) (maxL := 2) (ty := .boolean) (own := RX0) (by decide) rfl rfl (Nat.le_of_ble_eq_true rfl) ?_
  intro p ee s m args below meth c A ls F hr hlk hKK hP hD hA hS hl
  obtain ⟨hx, hb, hml, hown, hts⟩ := id F
  have hl : lv_has ls 2 [(0, .ref q), (1, .int z)] := hl
  have fl_12 := hts (.fieldLink RX0 12 "NameRolls$Player" "trial" "LNameRolls$Roll;") (by decide +kernel)
  have fl_54 := hts (.fieldLink RX0 54 "NameRolls$Player" "kind" "C") (by decide +kernel)
  have hinX0 : ∀ w ∈ wsX00, w ∈ wsX0_canCarryOut := by decide +kernel
  refine lv_aload_n hx hb dX0_canCarryOut_0 rfl (lv_at hl 0 rfl) ?_
  refine va_get (D := G.1) (ci := 0) (v := .int (nI (P 5))) (C := RX0) (T := TX0) (N := 12) hx hb hts hinX0 hown hKK.1 hP 0 rfl rfl 6 (by decide) fl_54 (fun _ h9 => h9) rfl dX0_canCarryOut_1 ?_
  refine z_top (v := nI 33) (by rw [hk]) ?_
  refine lv_lookup (off := 66) (tgt := 70) hx hb dX0_canCarryOut_4 (by decide) (by decide) (by decide) ?_
  refine lv_aload_n hx hb dX0_canCarryOut_70 rfl (lv_at hl 0 rfl) ?_
  refine va_get (D := G.1) (ci := 0) (v := .ref (a 0)) (C := RX0) (T := TX0) (N := 12) hx hb hts hinX0 hown hKK.1 hP 0 rfl rfl 0 (by decide) fl_12 (fun _ h9 => h9) rfl dX0_canCarryOut_71 ?_
  refine z_callVI (As := []) (rest := []) (wr := (playW G q (a 0) P)) (C := RX1) F (hcal) (cwV 0 hts gX0_canCarryOut_X1_hasNextEpoch rfl rfl rfl (by decide +kernel) ⟨Nat.le_of_ble_eq_true rfl, Nat.le_of_ble_eq_true rfl⟩) hKK (z_recv hKK hP (q0 := 1) (ci := 1) rfl rfl) hP hD hS hA rfl hl.1 rfl (Nat.le_of_ble_eq_true rfl) ⟨Nat.zero_le _, Nat.zero_le _⟩ dX0_canCarryOut_74 (fun H locs hP hD hS => ?_)
  have hP : va_P G.1 vwCl (playW G q (a 0) P ++ rollW G a v) H := hP
  have hD : va_D A (playW G q (a 0) P ++ rollW G a v) := hD
  exact z_zret hx hb hr hlk hP hD hS dX0_canCarryOut_77 (bI_nar _) rfl rfl
