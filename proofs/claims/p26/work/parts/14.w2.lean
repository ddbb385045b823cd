set_option maxHeartbeats 4000000 in
set_option maxRecDepth 100000 in
theorem c_X1_hasRoomForUser (l : Launch) (G : ZG) (a : Nat → Nat) (v : Mem) (n : Nat) (hn : n < 40) : CI l G yX1_hasRoomForUser wsX1_hasRoomForUser (zRm 1 21) [.ref (a 0), .int (nI n)] (rollW G a v) (bI (decide (¬ nI 999 ≤ v 1 n))) (rollW G a v) := by
  refine CI.ent (cc := cX1_hasRoomForUser) (maxL := 2) (ty := .boolean) (own := RX1) (by decide) rfl rfl (Nat.le_of_ble_eq_true rfl) ?_
  intro p ee s m args below meth c A ls F hr hlk hKK hP hD hA hS hl
  obtain ⟨hx, hb, hml, hown, hts⟩ := id F
  have hl : lv_has ls 2 [(0, .ref (a 0)), (1, .int (nI n))] := hl
  have fl_15 := hts (.fieldLink RX1 15 "NameRolls$Roll" "users" "[I") (by decide +kernel)
  have hinX1 : ∀ w ∈ wsX10, w ∈ wsX1_hasRoomForUser := by decide +kernel
  have st_X3_isBelow := hts (.static yX3_isBelow) (by decide +kernel)
  have ini_X3 := hts (.initialized RX3) (by decide +kernel)
  refine lv_iload_n hx hb dX1_hasRoomForUser_0 rfl (lv_at hl 1 rfl) ?_
  refine lv_bipush (v := nI 40) hx hb dX1_hasRoomForUser_1 (by decide) ?_
  refine z_callNI (As := [.int (nI n), .int (nI 40)]) (rest := []) F (c_X3_isBelow_N l G (n) (40) (by omega) (by omega)) ⟨va_cnB 2 hts gX1_hasRoomForUser_X3_isBelow_n70 rfl rfl rfl hKK.2.1 ini_X3 (by decide +kernel) ⟨Nat.le_of_ble_eq_true rfl, Nat.le_of_ble_eq_true rfl⟩, st_X3_isBelow, trivial⟩ hKK hP hD hS hA rfl hl.1 rfl (Nat.le_of_ble_eq_true rfl) ⟨Nat.zero_le _, Nat.zero_le _⟩ dX1_hasRoomForUser_3 (fun H locs hP hD hS => ?_)
  refine z_ifBeq (tgt := 25) hx hb dX1_hasRoomForUser_6 (by decide) (fun c_1 => absurd c_1 (by simp; omega)) (fun c_1 => ?_)
  refine lv_aload_n hx hb dX1_hasRoomForUser_9 rfl (lv_at hl 0 rfl) ?_
  refine va_get (D := G.1) (ci := 1) (v := .ref (a 2)) (C := RX1) (T := TX1) (N := 15) hx hb hts hinX1 hown hKK.1 hP 0 rfl rfl 1 (by decide) fl_15 (fun _ h9 => h9) rfl dX1_hasRoomForUser_10 ?_
  refine lv_iload_n hx hb dX1_hasRoomForUser_13 rfl (lv_at hl 1 rfl) ?_
  refine z_iald (n := 40) (f := v 1) (v := v 1 n) hx hb hKK hP 2 rfl (by omega) (by decide) rfl dX1_hasRoomForUser_14 ?_
  refine lv_sipush (v := nI 999) hx hb dX1_hasRoomForUser_15 (by decide) ?_
  refine lv_icmp_ge (tgt := 25) hx hb dX1_hasRoomForUser_18 (by decide) (fun c_2 => ?_) (fun c_2 => ?_)
  · skip
    refine lv_iconst (v := nI 0) hx hb dX1_hasRoomForUser_25 (by decide) ?_
    exact z_zret hx hb hr hlk hP hD hS dX1_hasRoomForUser_26 (by decide) (bI_df (fun q => q c_2)) rfl
  · skip
    refine lv_iconst (v := nI 1) hx hb dX1_hasRoomForUser_21 (by decide) ?_
    refine lv_goto (tgt := 26) hx hb dX1_hasRoomForUser_22 (by decide) ?_
    exact z_zret hx hb hr hlk hP hD hS dX1_hasRoomForUser_26 (by decide) (bI_dt c_2) rfl

set_option maxHeartbeats 4000000 in
set_option maxRecDepth 100000 in
theorem c_X1_hasRoomForUser_m1 (l : Launch) (G : ZG) (a : Nat → Nat) (v : Mem)  : CI l G yX1_hasRoomForUser wsX1_hasRoomForUser (zRm 1 21) [.ref (a 0), .int ((-1))] (rollW G a v) (bI (false)) (rollW G a v) := by
  refine CI.ent (cc := cX1_hasRoomForUser) (maxL := 2) (ty := .boolean) (own := RX1) (by decide) rfl rfl (Nat.le_of_ble_eq_true rfl) ?_
  intro p ee s m args below meth c A ls F hr hlk hKK hP hD hA hS hl
  obtain ⟨hx, hb, hml, hown, hts⟩ := id F
  have hl : lv_has ls 2 [(0, .ref (a 0)), (1, .int ((-1)))] := hl
  have st_X3_isBelow := hts (.static yX3_isBelow) (by decide +kernel)
  have ini_X3 := hts (.initialized RX3) (by decide +kernel)
  refine lv_iload_n hx hb dX1_hasRoomForUser_0 rfl (lv_at hl 1 rfl) ?_
  refine lv_bipush (v := nI 40) hx hb dX1_hasRoomForUser_1 (by decide) ?_
  refine z_callNI (As := [.int ((-1)), .int (nI 40)]) (rest := []) F (c_X3_isBelow l G ((-1)) (40) (by omega)) ⟨va_cnB 2 hts gX1_hasRoomForUser_X3_isBelow_n70 rfl rfl rfl hKK.2.1 ini_X3 (by decide +kernel) ⟨Nat.le_of_ble_eq_true rfl, Nat.le_of_ble_eq_true rfl⟩, st_X3_isBelow, trivial⟩ hKK hP hD hS hA rfl hl.1 rfl (Nat.le_of_ble_eq_true rfl) ⟨Nat.zero_le _, Nat.zero_le _⟩ dX1_hasRoomForUser_3 (fun H locs hP hD hS => ?_)
  refine z_ifBeq (tgt := 25) hx hb dX1_hasRoomForUser_6 (by decide) (fun c_1 => ?_) (fun c_1 => absurd c_1 (by rw [zBel_m1]; decide))
  refine lv_iconst (v := nI 0) hx hb dX1_hasRoomForUser_25 (by decide) ?_
  exact z_zret hx hb hr hlk hP hD hS dX1_hasRoomForUser_26 (by decide) rfl rfl

set_option maxHeartbeats 4000000 in
set_option maxRecDepth 100000 in
theorem c_X1_addUser (l : Launch) (G : ZG) (a : Nat → Nat) (v : Mem) (n : Nat) (hn : n < 40) : CI l G yX1_addUser wsX1_addUser (zRm 1 21) [.ref (a 0), .int (nI n)] (rollW G a v) (v 1 n + nI 1) (rollW G a (mst v 1 n (v 1 n + nI 1))) := by
  refine CI.ent (cc := cX1_addUser) (maxL := 2) (ty := .int) (own := RX1) (by decide) rfl rfl (Nat.le_of_ble_eq_true rfl) ?_
  intro p ee s m args below meth c A ls F hr hlk hKK hP hD hA hS hl
  obtain ⟨hx, hb, hml, hown, hts⟩ := id F
  have hl : lv_has ls 2 [(0, .ref (a 0)), (1, .int (nI n))] := hl
  have fl_15 := hts (.fieldLink RX1 15 "NameRolls$Roll" "users" "[I") (by decide +kernel)
  have hinX1 : ∀ w ∈ wsX10, w ∈ wsX1_addUser := by decide +kernel
  have st_X3_isBelow := hts (.static yX3_isBelow) (by decide +kernel)
  have ini_X3 := hts (.initialized RX3) (by decide +kernel)
  refine lv_iload_n hx hb dX1_addUser_0 rfl (lv_at hl 1 rfl) ?_
  refine lv_bipush (v := nI 40) hx hb dX1_addUser_1 (by decide) ?_
  refine z_callNI (As := [.int (nI n), .int (nI 40)]) (rest := []) F (c_X3_isBelow_N l G (n) (40) (by omega) (by omega)) ⟨va_cnB 2 hts gX1_addUser_X3_isBelow_n70 rfl rfl rfl hKK.2.1 ini_X3 (by decide +kernel) ⟨Nat.le_of_ble_eq_true rfl, Nat.le_of_ble_eq_true rfl⟩, st_X3_isBelow, trivial⟩ hKK hP hD hS hA rfl hl.1 rfl (Nat.le_of_ble_eq_true rfl) ⟨Nat.zero_le _, Nat.zero_le _⟩ dX1_addUser_3 (fun H locs hP hD hS => ?_)
  refine z_ifBne (tgt := 11) hx hb dX1_addUser_6 (by decide) (fun c_1 => ?_) (fun c_1 => absurd c_1 (by simp; omega))
  refine lv_aload_n hx hb dX1_addUser_11 rfl (lv_at hl 0 rfl) ?_
  refine va_get (D := G.1) (ci := 1) (v := .ref (a 2)) (C := RX1) (T := TX1) (N := 15) hx hb hts hinX1 hown hKK.1 hP 0 rfl rfl 1 (by decide) fl_15 (fun _ h9 => h9) rfl dX1_addUser_12 ?_
  refine lv_iload_n hx hb dX1_addUser_15 rfl (lv_at hl 1 rfl) ?_
  refine lv_dup2_11 hx hb dX1_addUser_16 rfl rfl ?_
  refine z_iald (n := 40) (f := v 1) (v := v 1 n) hx hb hKK hP 2 rfl (by omega) (by decide) rfl dX1_addUser_17 ?_
  refine lv_iconst (v := nI 1) hx hb dX1_addUser_18 (by decide) ?_
  refine z_add (v := (v 1 n) + (nI 1)) hx hb dX1_addUser_19 rfl ?_
  refine z_iast (n := 40) (f := v 1) (w2 := rollW G a (mst v 1 n ((v 1 n) + (nI 1)))) hx hb hKK hP hD hS 2 rfl (by omega) (by decide) rfl dX1_addUser_20 (fun H locs hP hD hS => ?_)
  refine lv_aload_n hx hb dX1_addUser_21 rfl (lv_at hl 0 rfl) ?_
  refine va_get (D := G.1) (ci := 1) (v := .ref (a 2)) (C := RX1) (T := TX1) (N := 15) hx hb hts hinX1 hown hKK.1 hP 0 rfl rfl 1 (by decide) fl_15 (fun _ h9 => h9) rfl dX1_addUser_22 ?_
  refine lv_iload_n hx hb dX1_addUser_25 rfl (lv_at hl 1 rfl) ?_
  refine z_iald (n := 40) (f := upd (v 1) n ((v 1 n) + (nI 1))) (v := (v 1 n) + (nI 1)) hx hb hKK hP 2 rfl (by omega) (by decide) pk_us dX1_addUser_26 ?_
  exact z_iret hx hb hr hlk hP hD hS dX1_addUser_27 rfl rfl

set_option maxHeartbeats 4000000 in
set_option maxRecDepth 100000 in
theorem c_X1_hasFreeUser (l : Launch) (G : ZG) (a : Nat → Nat) (v : Mem) (n : Nat) (hn : n < 40) : CI l G yX1_hasFreeUser wsX1_hasFreeUser (zRm 1 23) [.ref (a 0), .int (nI n)] (rollW G a v) (bI (decide (¬ v 1 n ≤ nI (zCells (v 3) (nI n))))) (rollW G a v) := by
  refine CI.ent (cc := cX1_hasFreeUser) (maxL := 2) (ty := .boolean) (own := RX1) (by decide) rfl rfl (Nat.le_of_ble_eq_true rfl) ?_
  intro p ee s m args below meth c A ls F hr hlk hKK hP hD hA hS hl
  obtain ⟨hx, hb, hml, hown, hts⟩ := id F
  have hl : lv_has ls 2 [(0, .ref (a 0)), (1, .int (nI n))] := hl
  have fl_15 := hts (.fieldLink RX1 15 "NameRolls$Roll" "users" "[I") (by decide +kernel)
  have hinX1 : ∀ w ∈ wsX10, w ∈ wsX1_hasFreeUser := by decide +kernel
  have st_X3_isBelow := hts (.static yX3_isBelow) (by decide +kernel)
  have ini_X3 := hts (.initialized RX3) (by decide +kernel)
  refine lv_iload_n hx hb dX1_hasFreeUser_0 rfl (lv_at hl 1 rfl) ?_
  refine lv_bipush (v := nI 40) hx hb dX1_hasFreeUser_1 (by decide) ?_
  refine z_callNI (As := [.int (nI n), .int (nI 40)]) (rest := []) F (c_X3_isBelow_N l G (n) (40) (by omega) (by omega)) ⟨va_cnB 2 hts gX1_hasFreeUser_X3_isBelow_n70 rfl rfl rfl hKK.2.1 ini_X3 (by decide +kernel) ⟨Nat.le_of_ble_eq_true rfl, Nat.le_of_ble_eq_true rfl⟩, st_X3_isBelow, trivial⟩ hKK hP hD hS hA rfl hl.1 rfl (Nat.le_of_ble_eq_true rfl) ⟨Nat.zero_le _, Nat.zero_le _⟩ dX1_hasFreeUser_3 (fun H locs hP hD hS => ?_)
  refine z_ifBeq (tgt := 27) hx hb dX1_hasFreeUser_6 (by decide) (fun c_1 => absurd c_1 (by simp; omega)) (fun c_1 => ?_)
  refine lv_aload_n hx hb dX1_hasFreeUser_9 rfl (lv_at hl 0 rfl) ?_
  refine va_get (D := G.1) (ci := 1) (v := .ref (a 2)) (C := RX1) (T := TX1) (N := 15) hx hb hts hinX1 hown hKK.1 hP 0 rfl rfl 1 (by decide) fl_15 (fun _ h9 => h9) rfl dX1_hasFreeUser_10 ?_
  refine lv_iload_n hx hb dX1_hasFreeUser_13 rfl (lv_at hl 1 rfl) ?_
  refine z_iald (n := 40) (f := v 1) (v := v 1 n) hx hb hKK hP 2 rfl (by omega) (by decide) rfl dX1_hasFreeUser_14 ?_
  refine lv_aload_n hx hb dX1_hasFreeUser_15 rfl (lv_at hl 0 rfl) ?_
  refine lv_iload_n hx hb dX1_hasFreeUser_16 rfl (lv_at hl 1 rfl) ?_
  refine z_callVI (As := [.int (nI n)]) (rest := [.int (v 1 n)]) (wr := []) (C := RX1) F (c_X1_cellsWith l G a v (nI n)) (cwV 1 hts gX1_hasFreeUser_X1_cellsWith rfl rfl rfl (by decide +kernel) ⟨Nat.le_of_ble_eq_true rfl, Nat.le_of_ble_eq_true rfl⟩) hKK (z_recv hKK hP (q0 := 0) (ci := 1) rfl rfl) hP hD hS hA rfl hl.1 rfl (Nat.le_of_ble_eq_true rfl) ⟨Nat.zero_le _, Nat.zero_le _⟩ dX1_hasFreeUser_17 (fun H locs hP hD hS => ?_)
  have hP : va_P G.1 vwCl (rollW G a v) H := hP
  have hD : va_D A (rollW G a v) := hD
  refine lv_icmp_le (tgt := 27) hx hb dX1_hasFreeUser_20 (by decide) (fun c_2 => ?_) (fun c_2 => ?_)
  · skip
    refine lv_iconst (v := nI 0) hx hb dX1_hasFreeUser_27 (by decide) ?_
    exact z_zret hx hb hr hlk hP hD hS dX1_hasFreeUser_28 (by decide) (bI_df (fun q => q c_2)) rfl
  · skip
    refine lv_iconst (v := nI 1) hx hb dX1_hasFreeUser_23 (by decide) ?_
    refine lv_goto (tgt := 28) hx hb dX1_hasFreeUser_24 (by decide) ?_
    exact z_zret hx hb hr hlk hP hD hS dX1_hasFreeUser_28 (by decide) (bI_dt c_2) rfl

set_option maxHeartbeats 4000000 in
set_option maxRecDepth 100000 in
theorem c_X1_hasFreeUser_m1 (l : Launch) (G : ZG) (a : Nat → Nat) (v : Mem)  : CI l G yX1_hasFreeUser wsX1_hasFreeUser (zRm 1 23) [.ref (a 0), .int ((-1))] (rollW G a v) (bI (false)) (rollW G a v) := by
  refine CI.ent (cc := cX1_hasFreeUser) (maxL := 2) (ty := .boolean) (own := RX1) (by decide) rfl rfl (Nat.le_of_ble_eq_true rfl) ?_
  intro p ee s m args below meth c A ls F hr hlk hKK hP hD hA hS hl
  obtain ⟨hx, hb, hml, hown, hts⟩ := id F
  have hl : lv_has ls 2 [(0, .ref (a 0)), (1, .int ((-1)))] := hl
  have st_X3_isBelow := hts (.static yX3_isBelow) (by decide +kernel)
  have ini_X3 := hts (.initialized RX3) (by decide +kernel)
  refine lv_iload_n hx hb dX1_hasFreeUser_0 rfl (lv_at hl 1 rfl) ?_
  refine lv_bipush (v := nI 40) hx hb dX1_hasFreeUser_1 (by decide) ?_
  refine z_callNI (As := [.int ((-1)), .int (nI 40)]) (rest := []) F (c_X3_isBelow l G ((-1)) (40) (by omega)) ⟨va_cnB 2 hts gX1_hasFreeUser_X3_isBelow_n70 rfl rfl rfl hKK.2.1 ini_X3 (by decide +kernel) ⟨Nat.le_of_ble_eq_true rfl, Nat.le_of_ble_eq_true rfl⟩, st_X3_isBelow, trivial⟩ hKK hP hD hS hA rfl hl.1 rfl (Nat.le_of_ble_eq_true rfl) ⟨Nat.zero_le _, Nat.zero_le _⟩ dX1_hasFreeUser_3 (fun H locs hP hD hS => ?_)
  refine z_ifBeq (tgt := 27) hx hb dX1_hasFreeUser_6 (by decide) (fun c_1 => ?_) (fun c_1 => absurd c_1 (by rw [zBel_m1]; decide))
  refine lv_iconst (v := nI 0) hx hb dX1_hasFreeUser_27 (by decide) ?_
  exact z_zret hx hb hr hlk hP hD hS dX1_hasFreeUser_28 (by decide) rfl rfl

set_option maxHeartbeats 4000000 in
set_option maxRecDepth 100000 in
theorem c_X1_giveBack (l : Launch) (G : ZG) (a : Nat → Nat) (v : Mem) (n : Nat) (hn : n < 40) (hpos : 0 < v 1 n) : CI l G yX1_giveBack wsX1_giveBack (zRm 1 21) [.ref (a 0), .int (nI n)] (rollW G a v) (v 1 n - nI 1) (rollW G a (zGive v n)) := by
  refine CI.ent (cc := cX1_giveBack) (maxL := 2) (ty := .int) (own := RX1) (by decide) rfl rfl (Nat.le_of_ble_eq_true rfl) ?_
  intro p ee s m args below meth c A ls F hr hlk hKK hP hD hA hS hl
  obtain ⟨hx, hb, hml, hown, hts⟩ := id F
  have hl : lv_has ls 2 [(0, .ref (a 0)), (1, .int (nI n))] := hl
  have fl_9 := hts (.fieldLink RX1 9 "NameRolls$Roll" "names" "[I") (by decide +kernel)
  have fl_15 := hts (.fieldLink RX1 15 "NameRolls$Roll" "users" "[I") (by decide +kernel)
  have fl_18 := hts (.fieldLink RX1 18 "NameRolls$Roll" "years" "[I") (by decide +kernel)
  have fl_67 := hts (.fieldLink RX1 67 "NameRolls$Roll" "lost" "I") (by decide +kernel)
  have hinX1 : ∀ w ∈ wsX10, w ∈ wsX1_giveBack := by decide +kernel
  have st_X3_isBelow := hts (.static yX3_isBelow) (by decide +kernel)
  have ini_X3 := hts (.initialized RX3) (by decide +kernel)
  refine lv_iload_n hx hb dX1_giveBack_0 rfl (lv_at hl 1 rfl) ?_
  refine lv_bipush (v := nI 40) hx hb dX1_giveBack_1 (by decide) ?_
  refine z_callNI (As := [.int (nI n), .int (nI 40)]) (rest := []) F (c_X3_isBelow_N l G (n) (40) (by omega) (by omega)) ⟨va_cnB 2 hts gX1_giveBack_X3_isBelow_n70 rfl rfl rfl hKK.2.1 ini_X3 (by decide +kernel) ⟨Nat.le_of_ble_eq_true rfl, Nat.le_of_ble_eq_true rfl⟩, st_X3_isBelow, trivial⟩ hKK hP hD hS hA rfl hl.1 rfl (Nat.le_of_ble_eq_true rfl) ⟨Nat.zero_le _, Nat.zero_le _⟩ dX1_giveBack_3 (fun H locs hP hD hS => ?_)
  refine z_ifBeq (tgt := 18) hx hb dX1_giveBack_6 (by decide) (fun c_1 => absurd c_1 (by simp; omega)) (fun c_1 => ?_)
  refine lv_aload_n hx hb dX1_giveBack_9 rfl (lv_at hl 0 rfl) ?_
  refine va_get (D := G.1) (ci := 1) (v := .ref (a 2)) (C := RX1) (T := TX1) (N := 15) hx hb hts hinX1 hown hKK.1 hP 0 rfl rfl 1 (by decide) fl_15 (fun _ h9 => h9) rfl dX1_giveBack_10 ?_
  refine lv_iload_n hx hb dX1_giveBack_13 rfl (lv_at hl 1 rfl) ?_
  refine z_iald (n := 40) (f := v 1) (v := v 1 n) hx hb hKK hP 2 rfl (by omega) (by decide) rfl dX1_giveBack_14 ?_
  refine lv_if_gt (tgt := 20) hx hb dX1_giveBack_15 (by decide) (fun c_2 => ?_) (fun c_2 => absurd hpos c_2)
  refine lv_aload_n hx hb dX1_giveBack_20 rfl (lv_at hl 0 rfl) ?_
  refine va_get (D := G.1) (ci := 1) (v := .ref (a 2)) (C := RX1) (T := TX1) (N := 15) hx hb hts hinX1 hown hKK.1 hP 0 rfl rfl 1 (by decide) fl_15 (fun _ h9 => h9) rfl dX1_giveBack_21 ?_
  refine lv_iload_n hx hb dX1_giveBack_24 rfl (lv_at hl 1 rfl) ?_
  refine lv_dup2_11 hx hb dX1_giveBack_25 rfl rfl ?_
  refine z_iald (n := 40) (f := v 1) (v := v 1 n) hx hb hKK hP 2 rfl (by omega) (by decide) rfl dX1_giveBack_26 ?_
  refine lv_iconst (v := nI 1) hx hb dX1_giveBack_27 (by decide) ?_
  refine z_sub (v := (v 1 n) - (nI 1)) hx hb dX1_giveBack_28 rfl ?_
  refine z_iast (n := 40) (f := v 1) (w2 := rollW G a (mst v 1 n ((v 1 n) - (nI 1)))) hx hb hKK hP hD hS 2 rfl (by omega) (by decide) rfl dX1_giveBack_29 (fun H locs hP hD hS => ?_)
  refine lv_aload_n hx hb dX1_giveBack_30 rfl (lv_at hl 0 rfl) ?_
  refine va_get (D := G.1) (ci := 1) (v := .ref (a 2)) (C := RX1) (T := TX1) (N := 15) hx hb hts hinX1 hown hKK.1 hP 0 rfl rfl 1 (by decide) fl_15 (fun _ h9 => h9) rfl dX1_giveBack_31 ?_
  refine lv_iload_n hx hb dX1_giveBack_34 rfl (lv_at hl 1 rfl) ?_
  refine z_iald (n := 40) (f := upd (v 1) n ((v 1 n) - (nI 1))) (v := (v 1 n) - (nI 1)) hx hb hKK hP 2 rfl (by omega) (by decide) pk_us dX1_giveBack_35 ?_
  refine lv_if_ne (tgt := 66) hx hb dX1_giveBack_36 (by decide) (fun c_3 => ?_) (fun c_3 => ?_)
  · skip
    refine lv_aload_n hx hb dX1_giveBack_66 rfl (lv_at hl 0 rfl) ?_
    refine va_get (D := G.1) (ci := 1) (v := .ref (a 2)) (C := RX1) (T := TX1) (N := 15) hx hb hts hinX1 hown hKK.1 hP 0 rfl rfl 1 (by decide) fl_15 (fun _ h9 => h9) rfl dX1_giveBack_67 ?_
    refine lv_iload_n hx hb dX1_giveBack_70 rfl (lv_at hl 1 rfl) ?_
    refine z_iald (n := 40) (f := upd (v 1) n ((v 1 n) - (nI 1))) (v := (v 1 n) - (nI 1)) hx hb hKK hP 2 rfl (by omega) (by decide) pk_us dX1_giveBack_71 ?_
    exact z_iret hx hb hr hlk hP hD hS dX1_giveBack_72 rfl (congrArg (rollW G a) (by rw [zGive, if_neg c_3]))
  · skip
    refine lv_aload_n hx hb dX1_giveBack_39 rfl (lv_at hl 0 rfl) ?_
    refine va_get (D := G.1) (ci := 1) (v := .ref (a 1)) (C := RX1) (T := TX1) (N := 15) hx hb hts hinX1 hown hKK.1 hP 0 rfl rfl 0 (by decide) fl_9 (fun _ h9 => h9) rfl dX1_giveBack_40 ?_
    refine lv_iload_n hx hb dX1_giveBack_43 rfl (lv_at hl 1 rfl) ?_
    refine lv_iconst (v := nI 0) hx hb dX1_giveBack_44 (by decide) ?_
    refine z_iast (n := 40) (f := v 0) (w2 := rollW G a (mst (mst v 1 n ((v 1 n) - (nI 1))) 0 n (nI 0))) hx hb hKK hP hD hS 1 rfl (by omega) (by decide) rfl dX1_giveBack_45 (fun H locs hP hD hS => ?_)
    refine lv_aload_n hx hb dX1_giveBack_46 rfl (lv_at hl 0 rfl) ?_
    refine va_get (D := G.1) (ci := 1) (v := .ref (a 3)) (C := RX1) (T := TX1) (N := 15) hx hb hts hinX1 hown hKK.1 hP 0 rfl rfl 2 (by decide) fl_18 (fun _ h9 => h9) rfl dX1_giveBack_47 ?_
    refine lv_iload_n hx hb dX1_giveBack_50 rfl (lv_at hl 1 rfl) ?_
    refine lv_dup2_11 hx hb dX1_giveBack_51 rfl rfl ?_
    refine z_iald (n := 40) (f := v 2) (v := v 2 n) hx hb hKK hP 3 rfl (by omega) (by decide) rfl dX1_giveBack_52 ?_
    refine lv_iconst (v := nI 1) hx hb dX1_giveBack_53 (by decide) ?_
    refine z_add (v := (v 2 n) + (nI 1)) hx hb dX1_giveBack_54 rfl ?_
    refine z_iast (n := 40) (f := v 2) (w2 := rollW G a (mst (mst (mst v 1 n ((v 1 n) - (nI 1))) 0 n (nI 0)) 2 n ((v 2 n) + (nI 1)))) hx hb hKK hP hD hS 3 rfl (by omega) (by decide) rfl dX1_giveBack_55 (fun H locs hP hD hS => ?_)
    refine lv_aload_n hx hb dX1_giveBack_56 rfl (lv_at hl 0 rfl) ?_
    refine lv_dup hx hb dX1_giveBack_57 rfl ?_
    refine va_get (D := G.1) (ci := 1) (v := .int (v 12 2)) (C := RX1) (T := TX1) (N := 15) hx hb hts hinX1 hown hKK.1 hP 0 rfl rfl 6 (by decide) fl_67 (fun _ h9 => h9) rfl dX1_giveBack_58 ?_
    refine lv_iconst (v := nI 1) hx hb dX1_giveBack_61 (by decide) ?_
    refine z_add (v := (v 12 2) + (nI 1)) hx hb dX1_giveBack_62 rfl ?_
    refine z_put (w2 := rollW G a (mst (mst (mst (mst v 1 n ((v 1 n) - (nI 1))) 0 n (nI 0)) 2 n ((v 2 n) + (nI 1))) 12 2 ((v 12 2) + (nI 1)))) hx hb hts hinX1 tyX1 tyX1_ok nmX1 hown hKK hP hD hS 0 (ci := 1) (C := RX1) (T := TX1) (N := 15) rfl rfl 6 (by decide) fl_67 rfl rfl rfl (Nat.le_of_ble_eq_true rfl) rfl dX1_giveBack_63 (fun H locs hP hD hS => ?_)
    refine lv_aload_n hx hb dX1_giveBack_66 rfl (lv_at hl 0 rfl) ?_
    refine va_get (D := G.1) (ci := 1) (v := .ref (a 2)) (C := RX1) (T := TX1) (N := 15) hx hb hts hinX1 hown hKK.1 hP 0 rfl rfl 1 (by decide) fl_15 (fun _ h9 => h9) rfl dX1_giveBack_67 ?_
    refine lv_iload_n hx hb dX1_giveBack_70 rfl (lv_at hl 1 rfl) ?_
    refine z_iald (n := 40) (f := upd (v 1) n ((v 1 n) - (nI 1))) (v := (v 1 n) - (nI 1)) hx hb hKK hP 2 rfl (by omega) (by decide) pk_us dX1_giveBack_71 ?_
    exact z_iret hx hb hr hlk hP hD hS dX1_giveBack_72 rfl (congrArg (rollW G a) (by rw [zGive, if_pos c_3]))

set_option maxHeartbeats 4000000 in
set_option maxRecDepth 100000 in
theorem c_X1_giveBack_m1 (l : Launch) (G : ZG) (a : Nat → Nat) (v : Mem)  : CI l G yX1_giveBack wsX1_giveBack (zRm 1 21) [.ref (a 0), .int ((-1))] (rollW G a v) (nI 0) (rollW G a v) := by
  refine CI.ent (cc := cX1_giveBack) (maxL := 2) (ty := .int) (own := RX1) (by decide) rfl rfl (Nat.le_of_ble_eq_true rfl) ?_
  intro p ee s m args below meth c A ls F hr hlk hKK hP hD hA hS hl
  obtain ⟨hx, hb, hml, hown, hts⟩ := id F
  have hl : lv_has ls 2 [(0, .ref (a 0)), (1, .int ((-1)))] := hl
  have st_X3_isBelow := hts (.static yX3_isBelow) (by decide +kernel)
  have ini_X3 := hts (.initialized RX3) (by decide +kernel)
  refine lv_iload_n hx hb dX1_giveBack_0 rfl (lv_at hl 1 rfl) ?_
  refine lv_bipush (v := nI 40) hx hb dX1_giveBack_1 (by decide) ?_
  refine z_callNI (As := [.int ((-1)), .int (nI 40)]) (rest := []) F (c_X3_isBelow l G ((-1)) (40) (by omega)) ⟨va_cnB 2 hts gX1_giveBack_X3_isBelow_n70 rfl rfl rfl hKK.2.1 ini_X3 (by decide +kernel) ⟨Nat.le_of_ble_eq_true rfl, Nat.le_of_ble_eq_true rfl⟩, st_X3_isBelow, trivial⟩ hKK hP hD hS hA rfl hl.1 rfl (Nat.le_of_ble_eq_true rfl) ⟨Nat.zero_le _, Nat.zero_le _⟩ dX1_giveBack_3 (fun H locs hP hD hS => ?_)
  refine z_ifBeq (tgt := 18) hx hb dX1_giveBack_6 (by decide) (fun c_1 => ?_) (fun c_1 => absurd c_1 (by rw [zBel_m1]; decide))
  refine lv_iconst (v := nI 0) hx hb dX1_giveBack_18 (by decide) ?_
  exact z_iret hx hb hr hlk hP hD hS dX1_giveBack_19 rfl rfl

set_option maxHeartbeats 4000000 in
set_option maxRecDepth 100000 in
theorem c_X1_enter_old (l : Launch) (G : ZG) (a : Nat → Nat) (v : Mem) (x : Int32) (n : Nat) (hn : n < 40) (h : zNum (v 0) x = nI n) : CI l G yX1_enter wsX1_enter (zRm 2 42) [.ref (a 0), .int x] (rollW G a v) (nI n) (rollW G a (mst v 1 n (v 1 n + nI 1))) := by
  refine CI.ent (cc := cX1_enter) (maxL := 3) (ty := .int) (own := RX1) (by decide) rfl rfl (Nat.le_of_ble_eq_true rfl) ?_
  intro p ee s m args below meth c A ls F hr hlk hKK hP hD hA hS hl
  obtain ⟨hx, hb, hml, hown, hts⟩ := id F
  have hl : lv_has ls 3 [(0, .ref (a 0)), (1, .int x)] := hl
  refine lv_aload_n hx hb dX1_enter_0 rfl (lv_at hl 0 rfl) ?_
  refine lv_iload_n hx hb dX1_enter_1 rfl (lv_at hl 1 rfl) ?_
  refine z_callVI (As := [.int x]) (rest := []) (wr := []) (C := RX1) F (c_X1_numberWith l G a v x) (cwV 1 hts gX1_enter_X1_numberWith rfl rfl rfl (by decide +kernel) ⟨Nat.le_of_ble_eq_true rfl, Nat.le_of_ble_eq_true rfl⟩) hKK (z_recv hKK hP (q0 := 0) (ci := 1) rfl rfl) hP hD hS hA rfl hl.1 rfl (Nat.le_of_ble_eq_true rfl) ⟨Nat.zero_le _, Nat.zero_le _⟩ dX1_enter_2 (fun H locs hP hD hS => ?_)
  have hP : va_P G.1 vwCl (rollW G a v) H := hP
  have hD : va_D A (rollW G a v) := hD
  refine z_top (v := nI n) h ?_
  refine lv_istore_n (lv' := [(2, .int (nI n)), (0, .ref (a 0)), (1, .int x)]) hx hb dX1_enter_5 rfl hl (by decide) rfl (fun ls hl => ?_)
  refine lv_iload_n hx hb dX1_enter_6 rfl (lv_at hl 0 rfl) ?_
  refine lv_iconst (v := (-1)) hx hb dX1_enter_7 (by decide) ?_
  refine lv_icmp_ne (tgt := 41) hx hb dX1_enter_8 (by decide) (fun c_1 => ?_) (fun c_1 => absurd c_1 (nI_nm1 (by omega)))
  refine lv_aload_n hx hb dX1_enter_41 rfl (lv_at hl 1 rfl) ?_
  refine lv_iload_n hx hb dX1_enter_42 rfl (lv_at hl 0 rfl) ?_
  refine z_callVI (As := [.int (nI n)]) (rest := []) (wr := []) (C := RX1) F (c_X1_addUser l G a v (n) (by omega)) (cwV 1 hts gX1_enter_X1_addUser rfl rfl rfl (by decide +kernel) ⟨Nat.le_of_ble_eq_true rfl, Nat.le_of_ble_eq_true rfl⟩) hKK (z_recv hKK hP (q0 := 0) (ci := 1) rfl rfl) hP hD hS hA rfl hl.1 rfl (Nat.le_of_ble_eq_true rfl) ⟨Nat.zero_le _, Nat.zero_le _⟩ dX1_enter_43 (fun H locs hP hD hS => ?_)
  have hP : va_P G.1 vwCl (rollW G a (mst v 1 n (v 1 n + nI 1))) H := hP
  have hD : va_D A (rollW G a (mst v 1 n (v 1 n + nI 1))) := hD
  refine lv_pop hx hb dX1_enter_46 rfl ?_
  refine lv_iload_n hx hb dX1_enter_47 rfl (lv_at hl 0 rfl) ?_
  exact z_iret hx hb hr hlk hP hD hS dX1_enter_48 rfl rfl

set_option maxHeartbeats 4000000 in
set_option maxRecDepth 100000 in
theorem c_X1_enter_new (l : Launch) (G : ZG) (a : Nat → Nat) (v : Mem) (x : Int32) (n : Nat) (h : zNum (v 0) x = -1) (hn : n < 40) (h2 : zNum (v 0) (nI 0) = nI n) : CI l G yX1_enter wsX1_enter (zRm 2 42) [.ref (a 0), .int x] (rollW G a v) (nI n) (rollW G a (mst (mst (mst v 0 n x) 12 1 (v 12 1 + nI 1)) 1 n (v 1 n + nI 1))) := by
  refine CI.ent (cc := cX1_enter) (maxL := 3) (ty := .int) (own := RX1) (by decide) rfl rfl (Nat.le_of_ble_eq_true rfl) ?_
  intro p ee s m args below meth c A ls F hr hlk hKK hP hD hA hS hl
  obtain ⟨hx, hb, hml, hown, hts⟩ := id F
  have hl : lv_has ls 3 [(0, .ref (a 0)), (1, .int x)] := hl
  have fl_9 := hts (.fieldLink RX1 9 "NameRolls$Roll" "names" "[I") (by decide +kernel)
  have fl_64 := hts (.fieldLink RX1 64 "NameRolls$Roll" "gained" "I") (by decide +kernel)
  have hinX1 : ∀ w ∈ wsX10, w ∈ wsX1_enter := by decide +kernel
  refine lv_aload_n hx hb dX1_enter_0 rfl (lv_at hl 0 rfl) ?_
  refine lv_iload_n hx hb dX1_enter_1 rfl (lv_at hl 1 rfl) ?_
  refine z_callVI (As := [.int x]) (rest := []) (wr := []) (C := RX1) F (c_X1_numberWith l G a v x) (cwV 1 hts gX1_enter_X1_numberWith rfl rfl rfl (by decide +kernel) ⟨Nat.le_of_ble_eq_true rfl, Nat.le_of_ble_eq_true rfl⟩) hKK (z_recv hKK hP (q0 := 0) (ci := 1) rfl rfl) hP hD hS hA rfl hl.1 rfl (Nat.le_of_ble_eq_true rfl) ⟨Nat.zero_le _, Nat.zero_le _⟩ dX1_enter_2 (fun H locs hP hD hS => ?_)
  have hP : va_P G.1 vwCl (rollW G a v) H := hP
  have hD : va_D A (rollW G a v) := hD
  refine z_top (v := (-1)) h ?_
  refine lv_istore_n (lv' := [(2, .int ((-1))), (0, .ref (a 0)), (1, .int x)]) hx hb dX1_enter_5 rfl hl (by decide) rfl (fun ls hl => ?_)
  refine lv_iload_n hx hb dX1_enter_6 rfl (lv_at hl 0 rfl) ?_
  refine lv_iconst (v := (-1)) hx hb dX1_enter_7 (by decide) ?_
  refine lv_icmp_ne (tgt := 41) hx hb dX1_enter_8 (by decide) (fun c_1 => absurd rfl c_1) (fun c_1 => ?_)
  refine lv_aload_n hx hb dX1_enter_11 rfl (lv_at hl 1 rfl) ?_
  refine lv_iconst (v := nI 0) hx hb dX1_enter_12 (by decide) ?_
  refine z_callVI (As := [.int (nI 0)]) (rest := []) (wr := []) (C := RX1) F (c_X1_numberWith l G a v (nI 0)) (cwV 1 hts gX1_enter_X1_numberWith rfl rfl rfl (by decide +kernel) ⟨Nat.le_of_ble_eq_true rfl, Nat.le_of_ble_eq_true rfl⟩) hKK (z_recv hKK hP (q0 := 0) (ci := 1) rfl rfl) hP hD hS hA rfl hl.1 rfl (Nat.le_of_ble_eq_true rfl) ⟨Nat.zero_le _, Nat.zero_le _⟩ dX1_enter_13 (fun H locs hP hD hS => ?_)
  have hP : va_P G.1 vwCl (rollW G a v) H := hP
  have hD : va_D A (rollW G a v) := hD
  refine z_top (v := nI n) h2 ?_
  refine lv_istore_n (lv' := [(2, .int (nI n)), (0, .ref (a 0)), (1, .int x)]) hx hb dX1_enter_16 rfl hl (by decide) rfl (fun ls hl => ?_)
  refine lv_iload_n hx hb dX1_enter_17 rfl (lv_at hl 0 rfl) ?_
  refine lv_iconst (v := (-1)) hx hb dX1_enter_18 (by decide) ?_
  refine lv_icmp_ne (tgt := 24) hx hb dX1_enter_19 (by decide) (fun c_2 => ?_) (fun c_2 => absurd c_2 (nI_nm1 (by omega)))
  refine lv_aload_n hx hb dX1_enter_24 rfl (lv_at hl 1 rfl) ?_
  refine va_get (D := G.1) (ci := 1) (v := .ref (a 1)) (C := RX1) (T := TX1) (N := 15) hx hb hts hinX1 hown hKK.1 hP 0 rfl rfl 0 (by decide) fl_9 (fun _ h9 => h9) rfl dX1_enter_25 ?_
  refine lv_iload_n hx hb dX1_enter_28 rfl (lv_at hl 0 rfl) ?_
  refine lv_iload_n hx hb dX1_enter_29 rfl (lv_at hl 2 rfl) ?_
  refine z_iast (n := 40) (f := v 0) (w2 := rollW G a (mst v 0 n x)) hx hb hKK hP hD hS 1 rfl (by omega) (by decide) rfl dX1_enter_30 (fun H locs hP hD hS => ?_)
  refine lv_aload_n hx hb dX1_enter_31 rfl (lv_at hl 1 rfl) ?_
  refine lv_dup hx hb dX1_enter_32 rfl ?_
  refine va_get (D := G.1) (ci := 1) (v := .int (v 12 1)) (C := RX1) (T := TX1) (N := 15) hx hb hts hinX1 hown hKK.1 hP 0 rfl rfl 5 (by decide) fl_64 (fun _ h9 => h9) rfl dX1_enter_33 ?_
  refine lv_iconst (v := nI 1) hx hb dX1_enter_36 (by decide) ?_
  refine z_add (v := (v 12 1) + (nI 1)) hx hb dX1_enter_37 rfl ?_
  refine z_put (w2 := rollW G a (mst (mst v 0 n x) 12 1 ((v 12 1) + (nI 1)))) hx hb hts hinX1 tyX1 tyX1_ok nmX1 hown hKK hP hD hS 0 (ci := 1) (C := RX1) (T := TX1) (N := 15) rfl rfl 5 (by decide) fl_64 rfl rfl rfl (Nat.le_of_ble_eq_true rfl) rfl dX1_enter_38 (fun H locs hP hD hS => ?_)
  refine lv_aload_n hx hb dX1_enter_41 rfl (lv_at hl 1 rfl) ?_
  refine lv_iload_n hx hb dX1_enter_42 rfl (lv_at hl 0 rfl) ?_
  refine z_callVI (As := [.int (nI n)]) (rest := []) (wr := []) (C := RX1) F (c_X1_addUser l G a (mst (mst v 0 n x) 12 1 ((v 12 1) + (nI 1))) (n) (by omega)) (cwV 1 hts gX1_enter_X1_addUser rfl rfl rfl (by decide +kernel) ⟨Nat.le_of_ble_eq_true rfl, Nat.le_of_ble_eq_true rfl⟩) hKK (z_recv hKK hP (q0 := 0) (ci := 1) rfl rfl) hP hD hS hA rfl hl.1 rfl (Nat.le_of_ble_eq_true rfl) ⟨Nat.zero_le _, Nat.zero_le _⟩ dX1_enter_43 (fun H locs hP hD hS => ?_)
  have hP : va_P G.1 vwCl (rollW G a (mst (mst (mst v 0 n x) 12 1 ((v 12 1) + (nI 1))) 1 n (v 1 n + nI 1))) H := hP
  have hD : va_D A (rollW G a (mst (mst (mst v 0 n x) 12 1 ((v 12 1) + (nI 1))) 1 n (v 1 n + nI 1))) := hD
  refine lv_pop hx hb dX1_enter_46 rfl ?_
  refine lv_iload_n hx hb dX1_enter_47 rfl (lv_at hl 0 rfl) ?_
  exact z_iret hx hb hr hlk hP hD hS dX1_enter_48 rfl rfl

set_option maxHeartbeats 4000000 in
set_option maxRecDepth 100000 in
theorem c_X1_hasRoomFor_old (l : Launch) (G : ZG) (a : Nat → Nat) (v : Mem) (x : Int32) (n : Nat) (hn : n < 40) (h : zNum (v 0) x = nI n) : CI l G yX1_hasRoomFor wsX1_hasRoomFor (zRm 2 42) [.ref (a 0), .int x] (rollW G a v) (bI (decide (¬ nI 999 ≤ v 1 n))) (rollW G a v) := by
  refine CI.ent (cc := cX1_hasRoomFor) (maxL := 3) (ty := .boolean) (own := RX1) (by decide) rfl rfl (Nat.le_of_ble_eq_true rfl) ?_
  intro p ee s m args below meth c A ls F hr hlk hKK hP hD hA hS hl
  obtain ⟨hx, hb, hml, hown, hts⟩ := id F
  have hl : lv_has ls 3 [(0, .ref (a 0)), (1, .int x)] := hl
  refine lv_aload_n hx hb dX1_hasRoomFor_0 rfl (lv_at hl 0 rfl) ?_
  refine lv_iload_n hx hb dX1_hasRoomFor_1 rfl (lv_at hl 1 rfl) ?_
  refine z_callVI (As := [.int x]) (rest := []) (wr := []) (C := RX1) F (c_X1_numberWith l G a v x) (cwV 1 hts gX1_hasRoomFor_X1_numberWith rfl rfl rfl (by decide +kernel) ⟨Nat.le_of_ble_eq_true rfl, Nat.le_of_ble_eq_true rfl⟩) hKK (z_recv hKK hP (q0 := 0) (ci := 1) rfl rfl) hP hD hS hA rfl hl.1 rfl (Nat.le_of_ble_eq_true rfl) ⟨Nat.zero_le _, Nat.zero_le _⟩ dX1_hasRoomFor_2 (fun H locs hP hD hS => ?_)
  have hP : va_P G.1 vwCl (rollW G a v) H := hP
  have hD : va_D A (rollW G a v) := hD
  refine z_top (v := nI n) h ?_
  refine lv_istore_n (lv' := [(2, .int (nI n)), (0, .ref (a 0)), (1, .int x)]) hx hb dX1_hasRoomFor_5 rfl hl (by decide) rfl (fun ls hl => ?_)
  refine lv_iload_n hx hb dX1_hasRoomFor_6 rfl (lv_at hl 0 rfl) ?_
  refine lv_iconst (v := (-1)) hx hb dX1_hasRoomFor_7 (by decide) ?_
  refine lv_icmp_ne (tgt := 28) hx hb dX1_hasRoomFor_8 (by decide) (fun c_1 => ?_) (fun c_1 => absurd c_1 (nI_nm1 (by omega)))
  refine lv_aload_n hx hb dX1_hasRoomFor_28 rfl (lv_at hl 1 rfl) ?_
  refine lv_iload_n hx hb dX1_hasRoomFor_29 rfl (lv_at hl 0 rfl) ?_
  refine z_callVI (As := [.int (nI n)]) (rest := []) (wr := []) (C := RX1) F (c_X1_hasRoomForUser l G a v (n) (by omega)) (cwV 1 hts gX1_hasRoomFor_X1_hasRoomForUser rfl rfl rfl (by decide +kernel) ⟨Nat.le_of_ble_eq_true rfl, Nat.le_of_ble_eq_true rfl⟩) hKK (z_recv hKK hP (q0 := 0) (ci := 1) rfl rfl) hP hD hS hA rfl hl.1 rfl (Nat.le_of_ble_eq_true rfl) ⟨Nat.zero_le _, Nat.zero_le _⟩ dX1_hasRoomFor_30 (fun H locs hP hD hS => ?_)
  have hP : va_P G.1 vwCl (rollW G a v) H := hP
  have hD : va_D A (rollW G a v) := hD
  exact z_zret hx hb hr hlk hP hD hS dX1_hasRoomFor_33 (bI_nar _) rfl rfl

set_option maxHeartbeats 4000000 in
set_option maxRecDepth 100000 in
theorem c_X1_hasRoomFor_new (l : Launch) (G : ZG) (a : Nat → Nat) (v : Mem) (x : Int32) (n : Nat) (h : zNum (v 0) x = -1) (hn : n < 40) (h2 : zNum (v 0) (nI 0) = nI n) : CI l G yX1_hasRoomFor wsX1_hasRoomFor (zRm 2 42) [.ref (a 0), .int x] (rollW G a v) (bI (true)) (rollW G a v) := by
  refine CI.ent (cc := cX1_hasRoomFor) (maxL := 3) (ty := .boolean) (own := RX1) (by decide) rfl rfl (Nat.le_of_ble_eq_true rfl) ?_
  intro p ee s m args below meth c A ls F hr hlk hKK hP hD hA hS hl
  obtain ⟨hx, hb, hml, hown, hts⟩ := id F
  have hl : lv_has ls 3 [(0, .ref (a 0)), (1, .int x)] := hl
  refine lv_aload_n hx hb dX1_hasRoomFor_0 rfl (lv_at hl 0 rfl) ?_
  refine lv_iload_n hx hb dX1_hasRoomFor_1 rfl (lv_at hl 1 rfl) ?_
  refine z_callVI (As := [.int x]) (rest := []) (wr := []) (C := RX1) F (c_X1_numberWith l G a v x) (cwV 1 hts gX1_hasRoomFor_X1_numberWith rfl rfl rfl (by decide +kernel) ⟨Nat.le_of_ble_eq_true rfl, Nat.le_of_ble_eq_true rfl⟩) hKK (z_recv hKK hP (q0 := 0) (ci := 1) rfl rfl) hP hD hS hA rfl hl.1 rfl (Nat.le_of_ble_eq_true rfl) ⟨Nat.zero_le _, Nat.zero_le _⟩ dX1_hasRoomFor_2 (fun H locs hP hD hS => ?_)
  have hP : va_P G.1 vwCl (rollW G a v) H := hP
  have hD : va_D A (rollW G a v) := hD
  refine z_top (v := (-1)) h ?_
  refine lv_istore_n (lv' := [(2, .int ((-1))), (0, .ref (a 0)), (1, .int x)]) hx hb dX1_hasRoomFor_5 rfl hl (by decide) rfl (fun ls hl => ?_)
  refine lv_iload_n hx hb dX1_hasRoomFor_6 rfl (lv_at hl 0 rfl) ?_
  refine lv_iconst (v := (-1)) hx hb dX1_hasRoomFor_7 (by decide) ?_
  refine lv_icmp_ne (tgt := 28) hx hb dX1_hasRoomFor_8 (by decide) (fun c_1 => absurd rfl c_1) (fun c_1 => ?_)
  refine lv_aload_n hx hb dX1_hasRoomFor_11 rfl (lv_at hl 1 rfl) ?_
  refine lv_iconst (v := nI 0) hx hb dX1_hasRoomFor_12 (by decide) ?_
  refine z_callVI (As := [.int (nI 0)]) (rest := []) (wr := []) (C := RX1) F (c_X1_numberWith l G a v (nI 0)) (cwV 1 hts gX1_hasRoomFor_X1_numberWith rfl rfl rfl (by decide +kernel) ⟨Nat.le_of_ble_eq_true rfl, Nat.le_of_ble_eq_true rfl⟩) hKK (z_recv hKK hP (q0 := 0) (ci := 1) rfl rfl) hP hD hS hA rfl hl.1 rfl (Nat.le_of_ble_eq_true rfl) ⟨Nat.zero_le _, Nat.zero_le _⟩ dX1_hasRoomFor_13 (fun H locs hP hD hS => ?_)
  have hP : va_P G.1 vwCl (rollW G a v) H := hP
  have hD : va_D A (rollW G a v) := hD
  refine z_top (v := nI n) h2 ?_
  refine lv_iconst (v := (-1)) hx hb dX1_hasRoomFor_16 (by decide) ?_
  refine lv_icmp_eq (tgt := 24) hx hb dX1_hasRoomFor_17 (by decide) (fun c_2 => absurd c_2 (nI_nm1 (by omega))) (fun c_2 => ?_)
  refine lv_iconst (v := nI 1) hx hb dX1_hasRoomFor_20 (by decide) ?_
  refine lv_goto (tgt := 33) hx hb dX1_hasRoomFor_21 (by decide) ?_
  exact z_zret hx hb hr hlk hP hD hS dX1_hasRoomFor_33 (by decide) rfl rfl

set_option maxHeartbeats 4000000 in
set_option maxRecDepth 100000 in
theorem c_X1_hasRoomFor_no (l : Launch) (G : ZG) (a : Nat → Nat) (v : Mem) (x : Int32) (h : zNum (v 0) x = -1) (h2 : zNum (v 0) (nI 0) = -1) : CI l G yX1_hasRoomFor wsX1_hasRoomFor (zRm 2 42) [.ref (a 0), .int x] (rollW G a v) (bI (false)) (rollW G a v) := by
  refine CI.ent (cc := cX1_hasRoomFor) (maxL := 3) (ty := .boolean) (own := RX1) (by decide) rfl rfl (Nat.le_of_ble_eq_true rfl) ?_
  intro p ee s m args below meth c A ls F hr hlk hKK hP hD hA hS hl
  obtain ⟨hx, hb, hml, hown, hts⟩ := id F
  have hl : lv_has ls 3 [(0, .ref (a 0)), (1, .int x)] := hl
  refine lv_aload_n hx hb dX1_hasRoomFor_0 rfl (lv_at hl 0 rfl) ?_
  refine lv_iload_n hx hb dX1_hasRoomFor_1 rfl (lv_at hl 1 rfl) ?_
  refine z_callVI (As := [.int x]) (rest := []) (wr := []) (C := RX1) F (c_X1_numberWith l G a v x) (cwV 1 hts gX1_hasRoomFor_X1_numberWith rfl rfl rfl (by decide +kernel) ⟨Nat.le_of_ble_eq_true rfl, Nat.le_of_ble_eq_true rfl⟩) hKK (z_recv hKK hP (q0 := 0) (ci := 1) rfl rfl) hP hD hS hA rfl hl.1 rfl (Nat.le_of_ble_eq_true rfl) ⟨Nat.zero_le _, Nat.zero_le _⟩ dX1_hasRoomFor_2 (fun H locs hP hD hS => ?_)
  have hP : va_P G.1 vwCl (rollW G a v) H := hP
  have hD : va_D A (rollW G a v) := hD
  refine z_top (v := (-1)) h ?_
  refine lv_istore_n (lv' := [(2, .int ((-1))), (0, .ref (a 0)), (1, .int x)]) hx hb dX1_hasRoomFor_5 rfl hl (by decide) rfl (fun ls hl => ?_)
  refine lv_iload_n hx hb dX1_hasRoomFor_6 rfl (lv_at hl 0 rfl) ?_
  refine lv_iconst (v := (-1)) hx hb dX1_hasRoomFor_7 (by decide) ?_
  refine lv_icmp_ne (tgt := 28) hx hb dX1_hasRoomFor_8 (by decide) (fun c_1 => absurd rfl c_1) (fun c_1 => ?_)
  refine lv_aload_n hx hb dX1_hasRoomFor_11 rfl (lv_at hl 1 rfl) ?_
  refine lv_iconst (v := nI 0) hx hb dX1_hasRoomFor_12 (by decide) ?_
  refine z_callVI (As := [.int (nI 0)]) (rest := []) (wr := []) (C := RX1) F (c_X1_numberWith l G a v (nI 0)) (cwV 1 hts gX1_hasRoomFor_X1_numberWith rfl rfl rfl (by decide +kernel) ⟨Nat.le_of_ble_eq_true rfl, Nat.le_of_ble_eq_true rfl⟩) hKK (z_recv hKK hP (q0 := 0) (ci := 1) rfl rfl) hP hD hS hA rfl hl.1 rfl (Nat.le_of_ble_eq_true rfl) ⟨Nat.zero_le _, Nat.zero_le _⟩ dX1_hasRoomFor_13 (fun H locs hP hD hS => ?_)
  have hP : va_P G.1 vwCl (rollW G a v) H := hP
  have hD : va_D A (rollW G a v) := hD
  refine z_top (v := (-1)) h2 ?_
  refine lv_iconst (v := (-1)) hx hb dX1_hasRoomFor_16 (by decide) ?_
  refine lv_icmp_eq (tgt := 24) hx hb dX1_hasRoomFor_17 (by decide) (fun c_2 => ?_) (fun c_2 => absurd rfl c_2)
  refine lv_iconst (v := nI 0) hx hb dX1_hasRoomFor_24 (by decide) ?_
  refine lv_goto (tgt := 33) hx hb dX1_hasRoomFor_25 (by decide) ?_
  exact z_zret hx hb hr hlk hP hD hS dX1_hasRoomFor_33 (by decide) rfl rfl

set_option maxHeartbeats 4000000 in
set_option maxRecDepth 100000 in
theorem c_X1_fillCell_e (l : Launch) (G : ZG) (a : Nat → Nat) (v : Mem) (i n : Nat) (hi : i < 18) (hn : n < 40) (he : v 3 i = -1) : CI l G yX1_fillCell wsX1_fillCell (zRm 2 42) [.ref (a 0), .int (nI i), .int (nI n)] (rollW G a v) (v 1 n + nI 1) (rollW G a (mst (mst v 1 n (v 1 n + nI 1)) 3 i (nI n))) := by
  refine CI.ent (cc := cX1_fillCell) (maxL := 3) (ty := .int) (own := RX1) (by decide) rfl rfl (Nat.le_of_ble_eq_true rfl) ?_
  intro p ee s m args below meth c A ls F hr hlk hKK hP hD hA hS hl
  obtain ⟨hx, hb, hml, hown, hts⟩ := id F
  have hl : lv_has ls 3 [(0, .ref (a 0)), (1, .int (nI i)), (2, .int (nI n))] := hl
  have fl_15 := hts (.fieldLink RX1 15 "NameRolls$Roll" "users" "[I") (by decide +kernel)
  have fl_21 := hts (.fieldLink RX1 21 "NameRolls$Roll" "cells" "[I") (by decide +kernel)
  have hinX1 : ∀ w ∈ wsX10, w ∈ wsX1_fillCell := by decide +kernel
  have st_X3_isBelow := hts (.static yX3_isBelow) (by decide +kernel)
  have ini_X3 := hts (.initialized RX3) (by decide +kernel)
  refine lv_iload_n hx hb dX1_fillCell_0 rfl (lv_at hl 1 rfl) ?_
  refine lv_aload_n hx hb dX1_fillCell_1 rfl (lv_at hl 0 rfl) ?_
  refine va_get (D := G.1) (ci := 1) (v := .ref (a 4)) (C := RX1) (T := TX1) (N := 15) hx hb hts hinX1 hown hKK.1 hP 0 rfl rfl 3 (by decide) fl_21 (fun _ h9 => h9) rfl dX1_fillCell_2 ?_
  refine z_alen (n := 18) hx hb hKK hP 4 rfl dX1_fillCell_5 ?_
  refine z_callNI (As := [.int (nI i), .int (nI 18)]) (rest := []) F (c_X3_isBelow_N l G (i) (18) (by omega) (by omega)) ⟨va_cnB 2 hts gX1_fillCell_X3_isBelow_n70 rfl rfl rfl hKK.2.1 ini_X3 (by decide +kernel) ⟨Nat.le_of_ble_eq_true rfl, Nat.le_of_ble_eq_true rfl⟩, st_X3_isBelow, trivial⟩ hKK hP hD hS hA rfl hl.1 rfl (Nat.le_of_ble_eq_true rfl) ⟨Nat.zero_le _, Nat.zero_le _⟩ dX1_fillCell_6 (fun H locs hP hD hS => ?_)
  refine z_ifBeq (tgt := 21) hx hb dX1_fillCell_9 (by decide) (fun c_1 => absurd c_1 (by simp; omega)) (fun c_1 => ?_)
  refine lv_iload_n hx hb dX1_fillCell_12 rfl (lv_at hl 2 rfl) ?_
  refine lv_bipush (v := nI 40) hx hb dX1_fillCell_13 (by decide) ?_
  refine z_callNI (As := [.int (nI n), .int (nI 40)]) (rest := []) F (c_X3_isBelow_N l G (n) (40) (by omega) (by omega)) ⟨va_cnB 2 hts gX1_fillCell_X3_isBelow_n70 rfl rfl rfl hKK.2.1 ini_X3 (by decide +kernel) ⟨Nat.le_of_ble_eq_true rfl, Nat.le_of_ble_eq_true rfl⟩, st_X3_isBelow, trivial⟩ hKK hP hD hS hA rfl hl.1 rfl (Nat.le_of_ble_eq_true rfl) ⟨Nat.zero_le _, Nat.zero_le _⟩ dX1_fillCell_15 (fun H locs hP hD hS => ?_)
  refine z_ifBne (tgt := 23) hx hb dX1_fillCell_18 (by decide) (fun c_2 => ?_) (fun c_2 => absurd c_2 (by simp; omega))
  refine lv_aload_n hx hb dX1_fillCell_23 rfl (lv_at hl 0 rfl) ?_
  refine lv_iload_n hx hb dX1_fillCell_24 rfl (lv_at hl 2 rfl) ?_
  refine z_callVI (As := [.int (nI n)]) (rest := []) (wr := []) (C := RX1) F (c_X1_addUser l G a v (n) (by omega)) (cwV 1 hts gX1_fillCell_X1_addUser rfl rfl rfl (by decide +kernel) ⟨Nat.le_of_ble_eq_true rfl, Nat.le_of_ble_eq_true rfl⟩) hKK (z_recv hKK hP (q0 := 0) (ci := 1) rfl rfl) hP hD hS hA rfl hl.1 rfl (Nat.le_of_ble_eq_true rfl) ⟨Nat.zero_le _, Nat.zero_le _⟩ dX1_fillCell_25 (fun H locs hP hD hS => ?_)
  have hP : va_P G.1 vwCl (rollW G a (mst v 1 n (v 1 n + nI 1))) H := hP
  have hD : va_D A (rollW G a (mst v 1 n (v 1 n + nI 1))) := hD
  refine lv_pop hx hb dX1_fillCell_28 rfl ?_
  refine lv_aload_n hx hb dX1_fillCell_29 rfl (lv_at hl 0 rfl) ?_
  refine lv_aload_n hx hb dX1_fillCell_30 rfl (lv_at hl 0 rfl) ?_
  refine va_get (D := G.1) (ci := 1) (v := .ref (a 4)) (C := RX1) (T := TX1) (N := 15) hx hb hts hinX1 hown hKK.1 hP 0 rfl rfl 3 (by decide) fl_21 (fun _ h9 => h9) rfl dX1_fillCell_31 ?_
  refine lv_iload_n hx hb dX1_fillCell_34 rfl (lv_at hl 1 rfl) ?_
  refine z_iald (n := 18) (f := v 3) (v := v 3 i) hx hb hKK hP 4 rfl (by omega) (by decide) rfl dX1_fillCell_35 ?_
  refine z_top (v := (-1)) he ?_
  refine z_callVI (As := [.int ((-1))]) (rest := []) (wr := []) (C := RX1) F (c_X1_giveBack_m1 l G a (mst v 1 n (v 1 n + nI 1))) (cwV 1 hts gX1_fillCell_X1_giveBack rfl rfl rfl (by decide +kernel) ⟨Nat.le_of_ble_eq_true rfl, Nat.le_of_ble_eq_true rfl⟩) hKK (z_recv hKK hP (q0 := 0) (ci := 1) rfl rfl) hP hD hS hA rfl hl.1 rfl (Nat.le_of_ble_eq_true rfl) ⟨Nat.zero_le _, Nat.zero_le _⟩ dX1_fillCell_36 (fun H locs hP hD hS => ?_)
  have hP : va_P G.1 vwCl (rollW G a (mst v 1 n (v 1 n + nI 1))) H := hP
  have hD : va_D A (rollW G a (mst v 1 n (v 1 n + nI 1))) := hD
  refine lv_pop hx hb dX1_fillCell_39 rfl ?_
  refine lv_aload_n hx hb dX1_fillCell_40 rfl (lv_at hl 0 rfl) ?_
  refine va_get (D := G.1) (ci := 1) (v := .ref (a 4)) (C := RX1) (T := TX1) (N := 15) hx hb hts hinX1 hown hKK.1 hP 0 rfl rfl 3 (by decide) fl_21 (fun _ h9 => h9) rfl dX1_fillCell_41 ?_
  refine lv_iload_n hx hb dX1_fillCell_44 rfl (lv_at hl 1 rfl) ?_
  refine lv_iload_n hx hb dX1_fillCell_45 rfl (lv_at hl 2 rfl) ?_
  refine z_iast (n := 18) (f := v 3) (w2 := rollW G a (mst (mst v 1 n (v 1 n + nI 1)) 3 i (nI n))) hx hb hKK hP hD hS 4 rfl (by omega) (by decide) rfl dX1_fillCell_46 (fun H locs hP hD hS => ?_)
  refine lv_aload_n hx hb dX1_fillCell_47 rfl (lv_at hl 0 rfl) ?_
  refine va_get (D := G.1) (ci := 1) (v := .ref (a 2)) (C := RX1) (T := TX1) (N := 15) hx hb hts hinX1 hown hKK.1 hP 0 rfl rfl 1 (by decide) fl_15 (fun _ h9 => h9) rfl dX1_fillCell_48 ?_
  refine lv_iload_n hx hb dX1_fillCell_51 rfl (lv_at hl 2 rfl) ?_
  refine z_iald (n := 40) (f := upd (v 1) n (v 1 n + nI 1)) (v := v 1 n + nI 1) hx hb hKK hP 2 rfl (by omega) (by decide) pk_us dX1_fillCell_52 ?_
  exact z_iret hx hb hr hlk hP hD hS dX1_fillCell_53 rfl rfl

set_option maxHeartbeats 4000000 in
set_option maxRecDepth 100000 in
theorem c_X1_fillCell_o (l : Launch) (G : ZG) (a : Nat → Nat) (v : Mem) (i n o : Nat) (hi : i < 18) (hn : n < 40) (ho : o < 40) (he : v 3 i = nI o) (hpos : 0 < (mst v 1 n (v 1 n + nI 1)) 1 o) : CI l G yX1_fillCell wsX1_fillCell (zRm 2 42) [.ref (a 0), .int (nI i), .int (nI n)] (rollW G a v) (zGive (mst v 1 n (v 1 n + nI 1)) o 1 n) (rollW G a (mst (zGive (mst v 1 n (v 1 n + nI 1)) o) 3 i (nI n))) := by
  refine CI.ent (cc := cX1_fillCell) (maxL := 3) (ty := .int) (own := RX1) (by decide) rfl rfl (Nat.le_of_ble_eq_true rfl) ?_
  intro p ee s m args below meth c A ls F hr hlk hKK hP hD hA hS hl
  obtain ⟨hx, hb, hml, hown, hts⟩ := id F
  have hl : lv_has ls 3 [(0, .ref (a 0)), (1, .int (nI i)), (2, .int (nI n))] := hl
  have fl_15 := hts (.fieldLink RX1 15 "NameRolls$Roll" "users" "[I") (by decide +kernel)
  have fl_21 := hts (.fieldLink RX1 21 "NameRolls$Roll" "cells" "[I") (by decide +kernel)
  have hinX1 : ∀ w ∈ wsX10, w ∈ wsX1_fillCell := by decide +kernel
  have st_X3_isBelow := hts (.static yX3_isBelow) (by decide +kernel)
  have ini_X3 := hts (.initialized RX3) (by decide +kernel)
  refine lv_iload_n hx hb dX1_fillCell_0 rfl (lv_at hl 1 rfl) ?_
  refine lv_aload_n hx hb dX1_fillCell_1 rfl (lv_at hl 0 rfl) ?_
  refine va_get (D := G.1) (ci := 1) (v := .ref (a 4)) (C := RX1) (T := TX1) (N := 15) hx hb hts hinX1 hown hKK.1 hP 0 rfl rfl 3 (by decide) fl_21 (fun _ h9 => h9) rfl dX1_fillCell_2 ?_
  refine z_alen (n := 18) hx hb hKK hP 4 rfl dX1_fillCell_5 ?_
  refine z_callNI (As := [.int (nI i), .int (nI 18)]) (rest := []) F (c_X3_isBelow_N l G (i) (18) (by omega) (by omega)) ⟨va_cnB 2 hts gX1_fillCell_X3_isBelow_n70 rfl rfl rfl hKK.2.1 ini_X3 (by decide +kernel) ⟨Nat.le_of_ble_eq_true rfl, Nat.le_of_ble_eq_true rfl⟩, st_X3_isBelow, trivial⟩ hKK hP hD hS hA rfl hl.1 rfl (Nat.le_of_ble_eq_true rfl) ⟨Nat.zero_le _, Nat.zero_le _⟩ dX1_fillCell_6 (fun H locs hP hD hS => ?_)
  refine z_ifBeq (tgt := 21) hx hb dX1_fillCell_9 (by decide) (fun c_1 => absurd c_1 (by simp; omega)) (fun c_1 => ?_)
  refine lv_iload_n hx hb dX1_fillCell_12 rfl (lv_at hl 2 rfl) ?_
  refine lv_bipush (v := nI 40) hx hb dX1_fillCell_13 (by decide) ?_
  refine z_callNI (As := [.int (nI n), .int (nI 40)]) (rest := []) F (c_X3_isBelow_N l G (n) (40) (by omega) (by omega)) ⟨va_cnB 2 hts gX1_fillCell_X3_isBelow_n70 rfl rfl rfl hKK.2.1 ini_X3 (by decide +kernel) ⟨Nat.le_of_ble_eq_true rfl, Nat.le_of_ble_eq_true rfl⟩, st_X3_isBelow, trivial⟩ hKK hP hD hS hA rfl hl.1 rfl (Nat.le_of_ble_eq_true rfl) ⟨Nat.zero_le _, Nat.zero_le _⟩ dX1_fillCell_15 (fun H locs hP hD hS => ?_)
  refine z_ifBne (tgt := 23) hx hb dX1_fillCell_18 (by decide) (fun c_2 => ?_) (fun c_2 => absurd c_2 (by simp; omega))
  refine lv_aload_n hx hb dX1_fillCell_23 rfl (lv_at hl 0 rfl) ?_
  refine lv_iload_n hx hb dX1_fillCell_24 rfl (lv_at hl 2 rfl) ?_
  refine z_callVI (As := [.int (nI n)]) (rest := []) (wr := []) (C := RX1) F (c_X1_addUser l G a v (n) (by omega)) (cwV 1 hts gX1_fillCell_X1_addUser rfl rfl rfl (by decide +kernel) ⟨Nat.le_of_ble_eq_true rfl, Nat.le_of_ble_eq_true rfl⟩) hKK (z_recv hKK hP (q0 := 0) (ci := 1) rfl rfl) hP hD hS hA rfl hl.1 rfl (Nat.le_of_ble_eq_true rfl) ⟨Nat.zero_le _, Nat.zero_le _⟩ dX1_fillCell_25 (fun H locs hP hD hS => ?_)
  have hP : va_P G.1 vwCl (rollW G a (mst v 1 n (v 1 n + nI 1))) H := hP
  have hD : va_D A (rollW G a (mst v 1 n (v 1 n + nI 1))) := hD
  refine lv_pop hx hb dX1_fillCell_28 rfl ?_
  refine lv_aload_n hx hb dX1_fillCell_29 rfl (lv_at hl 0 rfl) ?_
  refine lv_aload_n hx hb dX1_fillCell_30 rfl (lv_at hl 0 rfl) ?_
  refine va_get (D := G.1) (ci := 1) (v := .ref (a 4)) (C := RX1) (T := TX1) (N := 15) hx hb hts hinX1 hown hKK.1 hP 0 rfl rfl 3 (by decide) fl_21 (fun _ h9 => h9) rfl dX1_fillCell_31 ?_
  refine lv_iload_n hx hb dX1_fillCell_34 rfl (lv_at hl 1 rfl) ?_
  refine z_iald (n := 18) (f := v 3) (v := v 3 i) hx hb hKK hP 4 rfl (by omega) (by decide) rfl dX1_fillCell_35 ?_
  refine z_top (v := nI o) he ?_
  refine z_callVI (As := [.int (nI o)]) (rest := []) (wr := []) (C := RX1) F (c_X1_giveBack l G a (mst v 1 n (v 1 n + nI 1)) (o) (by omega) hpos) (cwV 1 hts gX1_fillCell_X1_giveBack rfl rfl rfl (by decide +kernel) ⟨Nat.le_of_ble_eq_true rfl, Nat.le_of_ble_eq_true rfl⟩) hKK (z_recv hKK hP (q0 := 0) (ci := 1) rfl rfl) hP hD hS hA rfl hl.1 rfl (Nat.le_of_ble_eq_true rfl) ⟨Nat.zero_le _, Nat.zero_le _⟩ dX1_fillCell_36 (fun H locs hP hD hS => ?_)
  have hP : va_P G.1 vwCl (rollW G a (zGive (mst v 1 n (v 1 n + nI 1)) o)) H := hP
  have hD : va_D A (rollW G a (zGive (mst v 1 n (v 1 n + nI 1)) o)) := hD
  refine lv_pop hx hb dX1_fillCell_39 rfl ?_
  refine lv_aload_n hx hb dX1_fillCell_40 rfl (lv_at hl 0 rfl) ?_
  refine va_get (D := G.1) (ci := 1) (v := .ref (a 4)) (C := RX1) (T := TX1) (N := 15) hx hb hts hinX1 hown hKK.1 hP 0 rfl rfl 3 (by decide) fl_21 (fun _ h9 => h9) rfl dX1_fillCell_41 ?_
  refine lv_iload_n hx hb dX1_fillCell_44 rfl (lv_at hl 1 rfl) ?_
  refine lv_iload_n hx hb dX1_fillCell_45 rfl (lv_at hl 2 rfl) ?_
  refine z_iast (n := 18) (f := (zGive (mst v 1 n (v 1 n + nI 1)) o) 3) (w2 := rollW G a (mst (zGive (mst v 1 n (v 1 n + nI 1)) o) 3 i (nI n))) hx hb hKK hP hD hS 4 rfl (by omega) (by decide) rfl dX1_fillCell_46 (fun H locs hP hD hS => ?_)
  refine lv_aload_n hx hb dX1_fillCell_47 rfl (lv_at hl 0 rfl) ?_
  refine va_get (D := G.1) (ci := 1) (v := .ref (a 2)) (C := RX1) (T := TX1) (N := 15) hx hb hts hinX1 hown hKK.1 hP 0 rfl rfl 1 (by decide) fl_15 (fun _ h9 => h9) rfl dX1_fillCell_48 ?_
  refine lv_iload_n hx hb dX1_fillCell_51 rfl (lv_at hl 2 rfl) ?_
  refine z_iald (n := 40) (f := (zGive (mst v 1 n (v 1 n + nI 1)) o) 1) (v := (zGive (mst v 1 n (v 1 n + nI 1)) o) 1 n) hx hb hKK hP 2 rfl (by omega) (by decide) rfl dX1_fillCell_52 ?_
  exact z_iret hx hb hr hlk hP hD hS dX1_fillCell_53 rfl rfl

set_option maxHeartbeats 4000000 in
set_option maxRecDepth 100000 in
theorem c_X1_emptyCell (l : Launch) (G : ZG) (a : Nat → Nat) (v : Mem) (i o : Nat) (hi : i < 18) (ho : o < 40) (he : v 3 i = nI o) (hpos : 0 < v 1 o) : CI l G yX1_emptyCell wsX1_emptyCell (zRm 2 42) [.ref (a 0), .int (nI i)] (rollW G a v) (v 1 o - nI 1) (rollW G a (zGive (mst v 3 i (-1)) o)) := by
  refine CI.ent (cc := cX1_emptyCell) (maxL := 3) (ty := .int) (own := RX1) (by decide) rfl rfl (Nat.le_of_ble_eq_true rfl) ?_
  intro p ee s m args below meth c A ls F hr hlk hKK hP hD hA hS hl
  obtain ⟨hx, hb, hml, hown, hts⟩ := id F
  have hl : lv_has ls 3 [(0, .ref (a 0)), (1, .int (nI i))] := hl
  have fl_21 := hts (.fieldLink RX1 21 "NameRolls$Roll" "cells" "[I") (by decide +kernel)
  have hinX1 : ∀ w ∈ wsX10, w ∈ wsX1_emptyCell := by decide +kernel
  have st_X3_isBelow := hts (.static yX3_isBelow) (by decide +kernel)
  have ini_X3 := hts (.initialized RX3) (by decide +kernel)
  refine lv_iload_n hx hb dX1_emptyCell_0 rfl (lv_at hl 1 rfl) ?_
  refine lv_aload_n hx hb dX1_emptyCell_1 rfl (lv_at hl 0 rfl) ?_
  refine va_get (D := G.1) (ci := 1) (v := .ref (a 4)) (C := RX1) (T := TX1) (N := 15) hx hb hts hinX1 hown hKK.1 hP 0 rfl rfl 3 (by decide) fl_21 (fun _ h9 => h9) rfl dX1_emptyCell_2 ?_
  refine z_alen (n := 18) hx hb hKK hP 4 rfl dX1_emptyCell_5 ?_
  refine z_callNI (As := [.int (nI i), .int (nI 18)]) (rest := []) F (c_X3_isBelow_N l G (i) (18) (by omega) (by omega)) ⟨va_cnB 2 hts gX1_emptyCell_X3_isBelow_n70 rfl rfl rfl hKK.2.1 ini_X3 (by decide +kernel) ⟨Nat.le_of_ble_eq_true rfl, Nat.le_of_ble_eq_true rfl⟩, st_X3_isBelow, trivial⟩ hKK hP hD hS hA rfl hl.1 rfl (Nat.le_of_ble_eq_true rfl) ⟨Nat.zero_le _, Nat.zero_le _⟩ dX1_emptyCell_6 (fun H locs hP hD hS => ?_)
  refine z_ifBne (tgt := 14) hx hb dX1_emptyCell_9 (by decide) (fun c_1 => ?_) (fun c_1 => absurd c_1 (by simp; omega))
  refine lv_aload_n hx hb dX1_emptyCell_14 rfl (lv_at hl 0 rfl) ?_
  refine va_get (D := G.1) (ci := 1) (v := .ref (a 4)) (C := RX1) (T := TX1) (N := 15) hx hb hts hinX1 hown hKK.1 hP 0 rfl rfl 3 (by decide) fl_21 (fun _ h9 => h9) rfl dX1_emptyCell_15 ?_
  refine lv_iload_n hx hb dX1_emptyCell_18 rfl (lv_at hl 1 rfl) ?_
  refine z_iald (n := 18) (f := v 3) (v := v 3 i) hx hb hKK hP 4 rfl (by omega) (by decide) rfl dX1_emptyCell_19 ?_
  refine z_top (v := nI o) he ?_
  refine lv_istore_n (lv' := [(2, .int (nI o)), (0, .ref (a 0)), (1, .int (nI i))]) hx hb dX1_emptyCell_20 rfl hl (by decide) rfl (fun ls hl => ?_)
  refine lv_aload_n hx hb dX1_emptyCell_21 rfl (lv_at hl 1 rfl) ?_
  refine va_get (D := G.1) (ci := 1) (v := .ref (a 4)) (C := RX1) (T := TX1) (N := 15) hx hb hts hinX1 hown hKK.1 hP 0 rfl rfl 3 (by decide) fl_21 (fun _ h9 => h9) rfl dX1_emptyCell_22 ?_
  refine lv_iload_n hx hb dX1_emptyCell_25 rfl (lv_at hl 2 rfl) ?_
  refine lv_iconst (v := (-1)) hx hb dX1_emptyCell_26 (by decide) ?_
  refine z_iast (n := 18) (f := v 3) (w2 := rollW G a (mst v 3 i ((-1)))) hx hb hKK hP hD hS 4 rfl (by omega) (by decide) rfl dX1_emptyCell_27 (fun H locs hP hD hS => ?_)
  refine lv_aload_n hx hb dX1_emptyCell_28 rfl (lv_at hl 1 rfl) ?_
  refine lv_iload_n hx hb dX1_emptyCell_29 rfl (lv_at hl 0 rfl) ?_
  refine z_callVI (As := [.int (nI o)]) (rest := []) (wr := []) (C := RX1) F (c_X1_giveBack l G a (mst v 3 i ((-1))) (o) (by omega) hpos) (cwV 1 hts gX1_emptyCell_X1_giveBack rfl rfl rfl (by decide +kernel) ⟨Nat.le_of_ble_eq_true rfl, Nat.le_of_ble_eq_true rfl⟩) hKK (z_recv hKK hP (q0 := 0) (ci := 1) rfl rfl) hP hD hS hA rfl hl.1 rfl (Nat.le_of_ble_eq_true rfl) ⟨Nat.zero_le _, Nat.zero_le _⟩ dX1_emptyCell_30 (fun H locs hP hD hS => ?_)
  have hP : va_P G.1 vwCl (rollW G a (zGive (mst v 3 i ((-1))) o)) H := hP
  have hD : va_D A (rollW G a (zGive (mst v 3 i ((-1))) o)) := hD
  exact z_iret hx hb hr hlk hP hD hS dX1_emptyCell_33 rfl rfl

set_option maxHeartbeats 4000000 in
set_option maxRecDepth 100000 in
theorem c_X1_isAhead (l : Launch) (G : ZG) (a : Nat → Nat) (v : Mem) (i j ρ : Nat) (hi : i < 40) (hj : j < 40) (hρ : ρ ≤ 2) (hN : okN v) : CI l G yX1_isAhead wsX1_isAhead (zRm 1 22) [.ref (a 0), .int (nI i), .int (nI j), .int (nI ρ)] (rollW G a v) (bI (zAhead v ρ i j)) (rollW G a v) := by
  refine CI.ent (cc := cX1_isAhead) (maxL := 4) (ty := .boolean) (own := RX1) (by decide) rfl rfl (Nat.le_of_ble_eq_true rfl) ?_
  intro p ee s m args below meth c A ls F hr hlk hKK hP hD hA hS hl
  obtain ⟨hx, hb, hml, hown, hts⟩ := id F
  have hl : lv_has ls 4 [(0, .ref (a 0)), (1, .int (nI i)), (2, .int (nI j)), (3, .int (nI ρ))] := hl
  have fl_9 := hts (.fieldLink RX1 9 "NameRolls$Roll" "names" "[I") (by decide +kernel)
  have fl_15 := hts (.fieldLink RX1 15 "NameRolls$Roll" "users" "[I") (by decide +kernel)
  have hinX1 : ∀ w ∈ wsX10, w ∈ wsX1_isAhead := by decide +kernel
  have st_X3_isBelow := hts (.static yX3_isBelow) (by decide +kernel)
  have st_X3_orderKey := hts (.static yX3_orderKey) (by decide +kernel)
  have ini_X3 := hts (.initialized RX3) (by decide +kernel)
  refine lv_iload_n hx hb dX1_isAhead_0 rfl (lv_at hl 1 rfl) ?_
  refine lv_bipush (v := nI 40) hx hb dX1_isAhead_1 (by decide) ?_
  refine z_callNI (As := [.int (nI i), .int (nI 40)]) (rest := []) F (c_X3_isBelow_N l G (i) (40) (by omega) (by omega)) ⟨va_cnB 2 hts gX1_isAhead_X3_isBelow_n70 rfl rfl rfl hKK.2.1 ini_X3 (by decide +kernel) ⟨Nat.le_of_ble_eq_true rfl, Nat.le_of_ble_eq_true rfl⟩, st_X3_isBelow, trivial⟩ hKK hP hD hS hA rfl hl.1 rfl (Nat.le_of_ble_eq_true rfl) ⟨Nat.zero_le _, Nat.zero_le _⟩ dX1_isAhead_3 (fun H locs hP hD hS => ?_)
  refine z_ifBeq (tgt := 18) hx hb dX1_isAhead_6 (by decide) (fun c_1 => absurd c_1 (by simp; omega)) (fun c_1 => ?_)
  refine lv_iload_n hx hb dX1_isAhead_9 rfl (lv_at hl 2 rfl) ?_
  refine lv_bipush (v := nI 40) hx hb dX1_isAhead_10 (by decide) ?_
  refine z_callNI (As := [.int (nI j), .int (nI 40)]) (rest := []) F (c_X3_isBelow_N l G (j) (40) (by omega) (by omega)) ⟨va_cnB 2 hts gX1_isAhead_X3_isBelow_n70 rfl rfl rfl hKK.2.1 ini_X3 (by decide +kernel) ⟨Nat.le_of_ble_eq_true rfl, Nat.le_of_ble_eq_true rfl⟩, st_X3_isBelow, trivial⟩ hKK hP hD hS hA rfl hl.1 rfl (Nat.le_of_ble_eq_true rfl) ⟨Nat.zero_le _, Nat.zero_le _⟩ dX1_isAhead_12 (fun H locs hP hD hS => ?_)
  refine z_ifBne (tgt := 20) hx hb dX1_isAhead_15 (by decide) (fun c_2 => ?_) (fun c_2 => absurd c_2 (by simp; omega))
  refine lv_iload_n hx hb dX1_isAhead_20 rfl (lv_at hl 3 rfl) ?_
  refine lv_iconst (v := nI 1) hx hb dX1_isAhead_21 (by decide) ?_
  refine z_ne (tgt := 52) hx hb dX1_isAhead_22 (by decide) (by omega) (by omega) (fun c_3 => ?_) (fun c_3 => ?_)
  · skip
    refine lv_iload_n hx hb dX1_isAhead_52 rfl (lv_at hl 3 rfl) ?_
    refine lv_iconst (v := nI 2) hx hb dX1_isAhead_53 (by decide) ?_
    refine z_ne (tgt := 93) hx hb dX1_isAhead_54 (by decide) (by omega) (by omega) (fun c_4 => ?_) (fun c_4 => ?_)
    · skip
      refine lv_iload_n hx hb dX1_isAhead_93 rfl (lv_at hl 1 rfl) ?_
      refine lv_iload_n hx hb dX1_isAhead_94 rfl (lv_at hl 2 rfl) ?_
      refine z_ge (tgt := 102) hx hb dX1_isAhead_95 (by decide) (by omega) (by omega) (fun c_5 => ?_) (fun c_5 => ?_)
      · skip
        refine lv_iconst (v := nI 0) hx hb dX1_isAhead_102 (by decide) ?_
        exact z_zret hx hb hr hlk hP hD hS dX1_isAhead_103 (by decide) (by rw [zAhead, if_neg c_3, if_neg (fun q => c_4 q.1)]; exact bI_df (Nat.not_lt.mpr c_5)) rfl
      · skip
        refine lv_iconst (v := nI 1) hx hb dX1_isAhead_98 (by decide) ?_
        refine lv_goto (tgt := 103) hx hb dX1_isAhead_99 (by decide) ?_
        exact z_zret hx hb hr hlk hP hD hS dX1_isAhead_103 (by decide) (by rw [zAhead, if_neg c_3, if_neg (fun q => c_4 q.1)]; exact bI_dt c_5) rfl
    · skip
      refine lv_aload_n hx hb dX1_isAhead_57 rfl (lv_at hl 0 rfl) ?_
      refine va_get (D := G.1) (ci := 1) (v := .ref (a 2)) (C := RX1) (T := TX1) (N := 15) hx hb hts hinX1 hown hKK.1 hP 0 rfl rfl 1 (by decide) fl_15 (fun _ h9 => h9) rfl dX1_isAhead_58 ?_
      refine lv_iload_n hx hb dX1_isAhead_61 rfl (lv_at hl 1 rfl) ?_
      refine z_iald (n := 40) (f := v 1) (v := v 1 i) hx hb hKK hP 2 rfl (by omega) (by decide) rfl dX1_isAhead_62 ?_
      refine lv_aload_n hx hb dX1_isAhead_63 rfl (lv_at hl 0 rfl) ?_
      refine va_get (D := G.1) (ci := 1) (v := .ref (a 2)) (C := RX1) (T := TX1) (N := 15) hx hb hts hinX1 hown hKK.1 hP 0 rfl rfl 1 (by decide) fl_15 (fun _ h9 => h9) rfl dX1_isAhead_64 ?_
      refine lv_iload_n hx hb dX1_isAhead_67 rfl (lv_at hl 2 rfl) ?_
      refine z_iald (n := 40) (f := v 1) (v := v 1 j) hx hb hKK hP 2 rfl (by omega) (by decide) rfl dX1_isAhead_68 ?_
      refine lv_icmp_eq (tgt := 93) hx hb dX1_isAhead_69 (by decide) (fun c_6 => ?_) (fun c_6 => ?_)
      · skip
        refine lv_iload_n hx hb dX1_isAhead_93 rfl (lv_at hl 1 rfl) ?_
        refine lv_iload_n hx hb dX1_isAhead_94 rfl (lv_at hl 2 rfl) ?_
        refine z_ge (tgt := 102) hx hb dX1_isAhead_95 (by decide) (by omega) (by omega) (fun c_7 => ?_) (fun c_7 => ?_)
        · skip
          refine lv_iconst (v := nI 0) hx hb dX1_isAhead_102 (by decide) ?_
          exact z_zret hx hb hr hlk hP hD hS dX1_isAhead_103 (by decide) (by rw [zAhead, if_neg c_3, if_neg (fun q => q.2 c_6)]; exact bI_df (Nat.not_lt.mpr c_7)) rfl
        · skip
          refine lv_iconst (v := nI 1) hx hb dX1_isAhead_98 (by decide) ?_
          refine lv_goto (tgt := 103) hx hb dX1_isAhead_99 (by decide) ?_
          exact z_zret hx hb hr hlk hP hD hS dX1_isAhead_103 (by decide) (by rw [zAhead, if_neg c_3, if_neg (fun q => q.2 c_6)]; exact bI_dt c_7) rfl
      · skip
        refine lv_aload_n hx hb dX1_isAhead_72 rfl (lv_at hl 0 rfl) ?_
        refine va_get (D := G.1) (ci := 1) (v := .ref (a 2)) (C := RX1) (T := TX1) (N := 15) hx hb hts hinX1 hown hKK.1 hP 0 rfl rfl 1 (by decide) fl_15 (fun _ h9 => h9) rfl dX1_isAhead_73 ?_
        refine lv_iload_n hx hb dX1_isAhead_76 rfl (lv_at hl 1 rfl) ?_
        refine z_iald (n := 40) (f := v 1) (v := v 1 i) hx hb hKK hP 2 rfl (by omega) (by decide) rfl dX1_isAhead_77 ?_
        refine lv_aload_n hx hb dX1_isAhead_78 rfl (lv_at hl 0 rfl) ?_
        refine va_get (D := G.1) (ci := 1) (v := .ref (a 2)) (C := RX1) (T := TX1) (N := 15) hx hb hts hinX1 hown hKK.1 hP 0 rfl rfl 1 (by decide) fl_15 (fun _ h9 => h9) rfl dX1_isAhead_79 ?_
        refine lv_iload_n hx hb dX1_isAhead_82 rfl (lv_at hl 2 rfl) ?_
        refine z_iald (n := 40) (f := v 1) (v := v 1 j) hx hb hKK hP 2 rfl (by omega) (by decide) rfl dX1_isAhead_83 ?_
        refine lv_icmp_le (tgt := 91) hx hb dX1_isAhead_84 (by decide) (fun c_8 => ?_) (fun c_8 => ?_)
        · skip
          refine lv_iconst (v := nI 0) hx hb dX1_isAhead_91 (by decide) ?_
          exact z_zret hx hb hr hlk hP hD hS dX1_isAhead_92 (by decide) (by rw [zAhead, if_neg c_3, if_pos ⟨c_4, c_6⟩]; exact bI_df (fun q => q c_8)) rfl
        · skip
          refine lv_iconst (v := nI 1) hx hb dX1_isAhead_87 (by decide) ?_
          refine lv_goto (tgt := 92) hx hb dX1_isAhead_88 (by decide) ?_
          exact z_zret hx hb hr hlk hP hD hS dX1_isAhead_92 (by decide) (by rw [zAhead, if_neg c_3, if_pos ⟨c_4, c_6⟩]; exact bI_dt c_8) rfl
  · skip
    refine lv_aload_n hx hb dX1_isAhead_25 rfl (lv_at hl 0 rfl) ?_
    refine va_get (D := G.1) (ci := 1) (v := .ref (a 1)) (C := RX1) (T := TX1) (N := 15) hx hb hts hinX1 hown hKK.1 hP 0 rfl rfl 0 (by decide) fl_9 (fun _ h9 => h9) rfl dX1_isAhead_26 ?_
    refine lv_iload_n hx hb dX1_isAhead_29 rfl (lv_at hl 1 rfl) ?_
    refine z_iald (n := 40) (f := v 0) (v := v 0 i) hx hb hKK hP 1 rfl (by omega) (by decide) rfl dX1_isAhead_30 ?_
    refine z_top (v := nI (nmK v i)) (hN _ hi).1 ?_
    refine z_callNI (As := [.int (nI (nmK v i))]) (rest := []) F (c_X3_orderKey l G (nmK v i) (hN _ hi).2) ⟨va_cnB 1 hts gX1_isAhead_X3_orderKey_n101 rfl rfl rfl hKK.2.2.2.1 ini_X3 (by decide +kernel) ⟨Nat.le_of_ble_eq_true rfl, Nat.le_of_ble_eq_true rfl⟩, st_X3_orderKey, trivial⟩ hKK hP hD hS hA rfl hl.1 rfl (Nat.le_of_ble_eq_true rfl) ⟨Nat.zero_le _, Nat.zero_le _⟩ dX1_isAhead_31 (fun H locs hP hD hS => ?_)
    refine lv_aload_n hx hb dX1_isAhead_34 rfl (lv_at hl 0 rfl) ?_
    refine va_get (D := G.1) (ci := 1) (v := .ref (a 1)) (C := RX1) (T := TX1) (N := 15) hx hb hts hinX1 hown hKK.1 hP 0 rfl rfl 0 (by decide) fl_9 (fun _ h9 => h9) rfl dX1_isAhead_35 ?_
    refine lv_iload_n hx hb dX1_isAhead_38 rfl (lv_at hl 2 rfl) ?_
    refine z_iald (n := 40) (f := v 0) (v := v 0 j) hx hb hKK hP 1 rfl (by omega) (by decide) rfl dX1_isAhead_39 ?_
    refine z_top (v := nI (nmK v j)) (hN _ hj).1 ?_
    refine z_callNI (As := [.int (nI (nmK v j))]) (rest := [.int (nI (padK 5 (nmK v i)))]) F (c_X3_orderKey l G (nmK v j) (hN _ hj).2) ⟨va_cnB 1 hts gX1_isAhead_X3_orderKey_n101 rfl rfl rfl hKK.2.2.2.1 ini_X3 (by decide +kernel) ⟨Nat.le_of_ble_eq_true rfl, Nat.le_of_ble_eq_true rfl⟩, st_X3_orderKey, trivial⟩ hKK hP hD hS hA rfl hl.1 rfl (Nat.le_of_ble_eq_true rfl) ⟨Nat.zero_le _, Nat.zero_le _⟩ dX1_isAhead_40 (fun H locs hP hD hS => ?_)
    refine z_ge (tgt := 50) hx hb dX1_isAhead_43 (by decide) (Nat.lt_trans (padK_lt 5 _ (hN _ hi).2) (by decide)) (Nat.lt_trans (padK_lt 5 _ (hN _ hj).2) (by decide)) (fun c_9 => ?_) (fun c_9 => ?_)
    · skip
      refine lv_iconst (v := nI 0) hx hb dX1_isAhead_50 (by decide) ?_
      exact z_zret hx hb hr hlk hP hD hS dX1_isAhead_51 (by decide) (by rw [zAhead, if_pos c_3]; exact bI_df (Nat.not_lt.mpr c_9)) rfl
    · skip
      refine lv_iconst (v := nI 1) hx hb dX1_isAhead_46 (by decide) ?_
      refine lv_goto (tgt := 51) hx hb dX1_isAhead_47 (by decide) ?_
      exact z_zret hx hb hr hlk hP hD hS dX1_isAhead_51 (by decide) (by rw [zAhead, if_pos c_3]; exact bI_dt c_9) rfl

set_option maxHeartbeats 4000000 in
set_option maxRecDepth 100000 in
theorem c_X1_placeOf (l : Launch) (G : ZG) (a : Nat → Nat) (v : Mem) (n ρ : Nat) (hn : n < 40) (hρ : ρ ≤ 2) (hN : okN v) : CI l G yX1_placeOf wsX1_placeOf (zRm 2 45) [.ref (a 0), .int (nI n), .int (nI ρ)] (rollW G a v) (nI (zPl v ρ n)) (rollW G a v) := by
  refine CI.ent (cc := cX1_placeOf) (maxL := 5) (ty := .int) (own := RX1) (by decide) rfl rfl (Nat.le_of_ble_eq_true rfl) ?_
  intro p ee s m args below meth c A ls F hr hlk hKK hP hD hA hS hl
  obtain ⟨hx, hb, hml, hown, hts⟩ := id F
  have hl : lv_has ls 5 [(0, .ref (a 0)), (1, .int (nI n)), (2, .int (nI ρ))] := hl
  have fl_9 := hts (.fieldLink RX1 9 "NameRolls$Roll" "names" "[I") (by decide +kernel)
  have hinX1 : ∀ w ∈ wsX10, w ∈ wsX1_placeOf := by decide +kernel
  refine lv_iconst (v := nI 0) hx hb dX1_placeOf_0 (by decide) ?_
  refine lv_istore_n (lv' := [(3, .int (nI 0)), (0, .ref (a 0)), (1, .int (nI n)), (2, .int (nI ρ))]) hx hb dX1_placeOf_1 rfl hl (by decide) rfl (fun ls hl => ?_)
  refine lv_iconst (v := nI 0) hx hb dX1_placeOf_2 (by decide) ?_
  refine lv_istore (lv' := [(4, .int (nI 0)), (3, .int (nI 0)), (0, .ref (a 0)), (1, .int (nI n)), (2, .int (nI ρ))]) hx hb dX1_placeOf_3 hl (by decide) rfl (fun ls hl => ?_)
  have key_1 : ∀ (nn : Nat) (i : Nat), i ≤ 40 → 40 - i < nn → ∀ (H : Heap) (locs : List Loc) (ls : Array Slot), va_P G.1 vwCl (rollW G a v) H → va_D A (rollW G a v) → va_S A s.heap H locs → lv_has ls 5 [(0, .ref (a 0)), (1, .int (nI n)), (2, .int (nI ρ)), (3, .int (nI (fb_ct (pPl v ρ n) i))), (4, .int (nI i))] → W p l ee (zRm 2 45) s m args below meth c H locs 0 0 (MQ below (ZQi G A (rollW G a v) (nI (zPl v ρ n))) args s 0 0 A) (F0 m 5 ls []) := by
    intro nn
    induction nn with
    | zero => intro i _ hm; exact absurd hm (Nat.not_lt_zero _)
    | succ nn ih_1 =>
      intro i hi hm H locs ls hP hD hS hl
      refine lv_iload hx hb dX1_placeOf_5 (lv_at hl 4 rfl) ?_
      refine lv_bipush (v := nI 40) hx hb dX1_placeOf_7 (by decide) ?_
      refine z_ge (tgt := 42) hx hb dX1_placeOf_9 (by decide) (by omega) (by omega) (fun c_2 => ?_) (fun c_2 => ?_)
      · skip
        refine lv_iload_n hx hb dX1_placeOf_42 rfl (lv_at hl 3 rfl) ?_
        exact z_iret hx hb hr hlk hP hD hS dX1_placeOf_43 (by rw [show i = 40 by omega]; rfl) rfl
      · skip
        refine lv_aload_n hx hb dX1_placeOf_12 rfl (lv_at hl 0 rfl) ?_
        refine va_get (D := G.1) (ci := 1) (v := .ref (a 1)) (C := RX1) (T := TX1) (N := 15) hx hb hts hinX1 hown hKK.1 hP 0 rfl rfl 0 (by decide) fl_9 (fun _ h9 => h9) rfl dX1_placeOf_13 ?_
        refine lv_iload hx hb dX1_placeOf_16 (lv_at hl 4 rfl) ?_
        refine z_iald (n := 40) (f := v 0) (v := v 0 i) hx hb hKK hP 1 rfl (by omega) (by decide) rfl dX1_placeOf_18 ?_
        refine lv_if_eq (tgt := 36) hx hb dX1_placeOf_19 (by decide) (fun c_3 => ?_) (fun c_3 => ?_)
        · skip
          rw [← fb_ct_f (p := pPl v ρ n) (n := i) (by simp [pPl, c_3])] at hl
          refine lv_iinc (v := nI (i + 1)) (lv' := [(4, .int (nI (i + 1))), (0, .ref (a 0)), (1, .int (nI n)), (2, .int (nI ρ)), (3, .int (nI (fb_ct (pPl v ρ n) (i + 1))))]) hx hb dX1_placeOf_36 hl (k := 4) rfl (nI_1 _) (by decide) rfl (fun ls hl => ?_)
          refine lv_goto (tgt := 5) hx hb dX1_placeOf_39 (by decide) ?_
          exact ih_1 (i + 1) (by omega) (by omega) _ _ _ hP hD hS (lv_sub hl [1, 2, 3, 4, 0] rfl)
        · skip
          refine lv_aload_n hx hb dX1_placeOf_22 rfl (lv_at hl 0 rfl) ?_
          refine lv_iload hx hb dX1_placeOf_23 (lv_at hl 4 rfl) ?_
          refine lv_iload_n hx hb dX1_placeOf_25 rfl (lv_at hl 1 rfl) ?_
          refine lv_iload_n hx hb dX1_placeOf_26 rfl (lv_at hl 2 rfl) ?_
          refine z_callVI (As := [.int (nI i), .int (nI n), .int (nI ρ)]) (rest := []) (wr := []) (C := RX1) F (c_X1_isAhead l G a v (i) (n) (ρ) (by omega) (by omega) (by omega) hN) (cwV 3 hts gX1_placeOf_X1_isAhead rfl rfl rfl (by decide +kernel) ⟨Nat.le_of_ble_eq_true rfl, Nat.le_of_ble_eq_true rfl⟩) hKK (z_recv hKK hP (q0 := 0) (ci := 1) rfl rfl) hP hD hS hA rfl hl.1 rfl (Nat.le_of_ble_eq_true rfl) ⟨Nat.zero_le _, Nat.zero_le _⟩ dX1_placeOf_27 (fun H locs hP hD hS => ?_)
          have hP : va_P G.1 vwCl (rollW G a v) H := hP
          have hD : va_D A (rollW G a v) := hD
          refine z_ifBeq (tgt := 36) hx hb dX1_placeOf_30 (by decide) (fun c_4 => ?_) (fun c_4 => ?_)
          · skip
            rw [← fb_ct_f (p := pPl v ρ n) (n := i) (by simp [pPl, c_4])] at hl
            refine lv_iinc (v := nI (i + 1)) (lv' := [(4, .int (nI (i + 1))), (0, .ref (a 0)), (1, .int (nI n)), (2, .int (nI ρ)), (3, .int (nI (fb_ct (pPl v ρ n) (i + 1))))]) hx hb dX1_placeOf_36 hl (k := 4) rfl (nI_1 _) (by decide) rfl (fun ls hl => ?_)
            refine lv_goto (tgt := 5) hx hb dX1_placeOf_39 (by decide) ?_
            exact ih_1 (i + 1) (by omega) (by omega) _ _ _ hP hD hS (lv_sub hl [1, 2, 3, 4, 0] rfl)
          · skip
            refine lv_iinc (v := nI (fb_ct (pPl v ρ n) (i + 1))) (lv' := [(3, .int (nI (fb_ct (pPl v ρ n) (i + 1)))), (0, .ref (a 0)), (1, .int (nI n)), (2, .int (nI ρ)), (4, .int (nI i))]) hx hb dX1_placeOf_33 hl (k := 3) rfl (by rw [fb_ct_t (p := pPl v ρ n) (n := i) (by simp [pPl, c_4, c_3])]; exact nI_1 _) (by decide) rfl (fun ls hl => ?_)
            refine lv_iinc (v := nI (i + 1)) (lv' := [(4, .int (nI (i + 1))), (3, .int (nI (fb_ct (pPl v ρ n) (i + 1)))), (0, .ref (a 0)), (1, .int (nI n)), (2, .int (nI ρ))]) hx hb dX1_placeOf_36 hl (k := 4) rfl (nI_1 _) (by decide) rfl (fun ls hl => ?_)
            refine lv_goto (tgt := 5) hx hb dX1_placeOf_39 (by decide) ?_
            exact ih_1 (i + 1) (by omega) (by omega) _ _ _ hP hD hS (lv_sub hl [2, 3, 4, 1, 0] rfl)
  exact key_1 _ 0 (by omega) (Nat.lt_succ_self _) _ _ _ hP hD hS (lv_sub hl [2, 3, 4, 1, 0] rfl)

set_option maxHeartbeats 4000000 in
set_option maxRecDepth 100000 in
theorem c_X1_hasNextEpoch (l : Launch) (G : ZG) (a : Nat → Nat) (v : Mem) (e : Nat) (he : v 12 0 = nI e) (he2 : e ≤ 999) : CI l G yX1_hasNextEpoch wsX1_hasNextEpoch (zRm 0 0) [.ref (a 0)] (rollW G a v) (bI (decide (e < 999))) (rollW G a v) := by
  refine CI.ent (cc := cX1_hasNextEpoch) (maxL := 1) (ty := .boolean) (own := RX1) (by decide) rfl rfl (Nat.le_of_ble_eq_true rfl) ?_
  intro p ee s m args below meth c A ls F hr hlk hKK hP hD hA hS hl
  obtain ⟨hx, hb, hml, hown, hts⟩ := id F
  have hl : lv_has ls 1 [(0, .ref (a 0))] := hl
  have fl_60 := hts (.fieldLink RX1 60 "NameRolls$Roll" "epoch" "I") (by decide +kernel)
  have hinX1 : ∀ w ∈ wsX10, w ∈ wsX1_hasNextEpoch := by decide +kernel
  refine lv_aload_n hx hb dX1_hasNextEpoch_0 rfl (lv_at hl 0 rfl) ?_
  refine va_get (D := G.1) (ci := 1) (v := .int (v 12 0)) (C := RX1) (T := TX1) (N := 15) hx hb hts hinX1 hown hKK.1 hP 0 rfl rfl 4 (by decide) fl_60 (fun _ h9 => h9) rfl dX1_hasNextEpoch_1 ?_
  refine z_top (v := nI e) he ?_
  refine lv_sipush (v := nI 999) hx hb dX1_hasNextEpoch_4 (by decide) ?_
  refine z_ge (tgt := 14) hx hb dX1_hasNextEpoch_7 (by decide) (by omega) (by omega) (fun c_1 => ?_) (fun c_1 => ?_)
  · skip
    refine lv_iconst (v := nI 0) hx hb dX1_hasNextEpoch_14 (by decide) ?_
    exact z_zret hx hb hr hlk hP hD hS dX1_hasNextEpoch_15 (by decide) (bI_df (Nat.not_lt.mpr c_1)) rfl
  · skip
    refine lv_iconst (v := nI 1) hx hb dX1_hasNextEpoch_10 (by decide) ?_
    refine lv_goto (tgt := 15) hx hb dX1_hasNextEpoch_11 (by decide) ?_
    exact z_zret hx hb hr hlk hP hD hS dX1_hasNextEpoch_15 (by decide) (bI_dt c_1) rfl

set_option maxHeartbeats 4000000 in
set_option maxRecDepth 100000 in
theorem c_X1_namesBelow (l : Launch) (G : ZG) (a : Nat → Nat) (v : Mem) (b : Nat) (hb9 : b ≤ 40) : CI l G yX1_namesBelow wsX1_namesBelow (zRm 0 0) [.ref (a 0), .int (nI b)] (rollW G a v) (nI (fb_ct (pNm v) b)) (rollW G a v) := by
  refine CI.ent (cc := cX1_namesBelow) (maxL := 4) (ty := .int) (own := RX1) (by decide) rfl rfl (Nat.le_of_ble_eq_true rfl) ?_
  intro p ee s m args below meth c A ls F hr hlk hKK hP hD hA hS hl
  obtain ⟨hx, hb, hml, hown, hts⟩ := id F
  have hl : lv_has ls 4 [(0, .ref (a 0)), (1, .int (nI b))] := hl
  have fl_9 := hts (.fieldLink RX1 9 "NameRolls$Roll" "names" "[I") (by decide +kernel)
  have hinX1 : ∀ w ∈ wsX10, w ∈ wsX1_namesBelow := by decide +kernel
  refine lv_iconst (v := nI 0) hx hb dX1_namesBelow_0 (by decide) ?_
  refine lv_istore_n (lv' := [(2, .int (nI 0)), (0, .ref (a 0)), (1, .int (nI b))]) hx hb dX1_namesBelow_1 rfl hl (by decide) rfl (fun ls hl => ?_)
  refine lv_iconst (v := nI 0) hx hb dX1_namesBelow_2 (by decide) ?_
  refine lv_istore_n (lv' := [(3, .int (nI 0)), (2, .int (nI 0)), (0, .ref (a 0)), (1, .int (nI b))]) hx hb dX1_namesBelow_3 rfl hl (by decide) rfl (fun ls hl => ?_)
  have key_1 : ∀ (nn : Nat) (i : Nat), i ≤ b → 40 - i < nn → ∀ (H : Heap) (locs : List Loc) (ls : Array Slot), va_P G.1 vwCl (rollW G a v) H → va_D A (rollW G a v) → va_S A s.heap H locs → lv_has ls 4 [(0, .ref (a 0)), (1, .int (nI b)), (2, .int (nI (fb_ct (pNm v) i))), (3, .int (nI i))] → W p l ee (zRm 0 0) s m args below meth c H locs 0 0 (MQ below (ZQi G A (rollW G a v) (nI (fb_ct (pNm v) b))) args s 0 0 A) (F0 m 4 ls []) := by
    intro nn
    induction nn with
    | zero => intro i _ hm; exact absurd hm (Nat.not_lt_zero _)
    | succ nn ih_1 =>
      intro i hi hm H locs ls hP hD hS hl
      refine lv_iload_n hx hb dX1_namesBelow_4 rfl (lv_at hl 3 rfl) ?_
      refine lv_bipush (v := nI 40) hx hb dX1_namesBelow_5 (by decide) ?_
      refine z_ge (tgt := 33) hx hb dX1_namesBelow_7 (by decide) (by omega) (by omega) (fun c_2 => ?_) (fun c_2 => ?_)
      · skip
        refine lv_iload_n hx hb dX1_namesBelow_33 rfl (lv_at hl 2 rfl) ?_
        exact z_iret hx hb hr hlk hP hD hS dX1_namesBelow_34 (by rw [show i = b by omega]) rfl
      · skip
        refine lv_iload_n hx hb dX1_namesBelow_10 rfl (lv_at hl 3 rfl) ?_
        refine lv_iload_n hx hb dX1_namesBelow_11 rfl (lv_at hl 1 rfl) ?_
        refine z_ge (tgt := 33) hx hb dX1_namesBelow_12 (by decide) (by omega) (by omega) (fun c_3 => ?_) (fun c_3 => ?_)
        · skip
          refine lv_iload_n hx hb dX1_namesBelow_33 rfl (lv_at hl 2 rfl) ?_
          exact z_iret hx hb hr hlk hP hD hS dX1_namesBelow_34 (by rw [show i = b by omega]) rfl
        · skip
          refine lv_aload_n hx hb dX1_namesBelow_15 rfl (lv_at hl 0 rfl) ?_
          refine va_get (D := G.1) (ci := 1) (v := .ref (a 1)) (C := RX1) (T := TX1) (N := 15) hx hb hts hinX1 hown hKK.1 hP 0 rfl rfl 0 (by decide) fl_9 (fun _ h9 => h9) rfl dX1_namesBelow_16 ?_
          refine lv_iload_n hx hb dX1_namesBelow_19 rfl (lv_at hl 3 rfl) ?_
          refine z_iald (n := 40) (f := v 0) (v := v 0 i) hx hb hKK hP 1 rfl (by omega) (by decide) rfl dX1_namesBelow_20 ?_
          refine lv_if_eq (tgt := 27) hx hb dX1_namesBelow_21 (by decide) (fun c_4 => ?_) (fun c_4 => ?_)
          · skip
            rw [← fb_ct_f (p := pNm v) (n := i) (by simp [pNm, c_4])] at hl
            refine lv_iinc (v := nI (i + 1)) (lv' := [(3, .int (nI (i + 1))), (0, .ref (a 0)), (1, .int (nI b)), (2, .int (nI (fb_ct (pNm v) (i + 1))))]) hx hb dX1_namesBelow_27 hl (k := 3) rfl (nI_1 _) (by decide) rfl (fun ls hl => ?_)
            refine lv_goto (tgt := 4) hx hb dX1_namesBelow_30 (by decide) ?_
            exact ih_1 (i + 1) (by omega) (by omega) _ _ _ hP hD hS (lv_sub hl [1, 2, 3, 0] rfl)
          · skip
            refine lv_iinc (v := nI (fb_ct (pNm v) (i + 1))) (lv' := [(2, .int (nI (fb_ct (pNm v) (i + 1)))), (0, .ref (a 0)), (1, .int (nI b)), (3, .int (nI i))]) hx hb dX1_namesBelow_24 hl (k := 2) rfl (by rw [fb_ct_t (p := pNm v) (n := i) (by simp [pNm, c_4])]; exact nI_1 _) (by decide) rfl (fun ls hl => ?_)
            refine lv_iinc (v := nI (i + 1)) (lv' := [(3, .int (nI (i + 1))), (2, .int (nI (fb_ct (pNm v) (i + 1)))), (0, .ref (a 0)), (1, .int (nI b))]) hx hb dX1_namesBelow_27 hl (k := 3) rfl (nI_1 _) (by decide) rfl (fun ls hl => ?_)
            refine lv_goto (tgt := 4) hx hb dX1_namesBelow_30 (by decide) ?_
            exact ih_1 (i + 1) (by omega) (by omega) _ _ _ hP hD hS (lv_sub hl [2, 3, 1, 0] rfl)
  exact key_1 _ 0 (by omega) (Nat.lt_succ_self _) _ _ _ hP hD hS (lv_sub hl [2, 3, 1, 0] rfl)

set_option maxHeartbeats 4000000 in
set_option maxRecDepth 100000 in
theorem c_X1_usersOfAll (l : Launch) (G : ZG) (a : Nat → Nat) (v : Mem)  : CI l G yX1_usersOfAll wsX1_usersOfAll (zRm 0 0) [.ref (a 0)] (rollW G a v) (zSm (v 1) 40) (rollW G a v) := by
  refine CI.ent (cc := cX1_usersOfAll) (maxL := 3) (ty := .int) (own := RX1) (by decide) rfl rfl (Nat.le_of_ble_eq_true rfl) ?_
  intro p ee s m args below meth c A ls F hr hlk hKK hP hD hA hS hl
  obtain ⟨hx, hb, hml, hown, hts⟩ := id F
  have hl : lv_has ls 3 [(0, .ref (a 0))] := hl
  have fl_15 := hts (.fieldLink RX1 15 "NameRolls$Roll" "users" "[I") (by decide +kernel)
  have hinX1 : ∀ w ∈ wsX10, w ∈ wsX1_usersOfAll := by decide +kernel
  refine lv_iconst (v := nI 0) hx hb dX1_usersOfAll_0 (by decide) ?_
  refine lv_istore_n (lv' := [(1, .int (nI 0)), (0, .ref (a 0))]) hx hb dX1_usersOfAll_1 rfl hl (by decide) rfl (fun ls hl => ?_)
  refine lv_iconst (v := nI 0) hx hb dX1_usersOfAll_2 (by decide) ?_
  refine lv_istore_n (lv' := [(2, .int (nI 0)), (1, .int (nI 0)), (0, .ref (a 0))]) hx hb dX1_usersOfAll_3 rfl hl (by decide) rfl (fun ls hl => ?_)
  have key_1 : ∀ (nn : Nat) (i : Nat), i ≤ 40 → 40 - i < nn → ∀ (H : Heap) (locs : List Loc) (ls : Array Slot), va_P G.1 vwCl (rollW G a v) H → va_D A (rollW G a v) → va_S A s.heap H locs → lv_has ls 3 [(0, .ref (a 0)), (1, .int (zSm (v 1) i)), (2, .int (nI i))] → W p l ee (zRm 0 0) s m args below meth c H locs 0 0 (MQ below (ZQi G A (rollW G a v) (zSm (v 1) 40)) args s 0 0 A) (F0 m 4 ls []) := by
    intro nn
    induction nn with
    | zero => intro i _ hm; exact absurd hm (Nat.not_lt_zero _)
    | succ nn ih_1 =>
      intro i hi hm H locs ls hP hD hS hl
      refine lv_iload_n hx hb dX1_usersOfAll_4 rfl (lv_at hl 2 rfl) ?_
      refine lv_bipush (v := nI 40) hx hb dX1_usersOfAll_5 (by decide) ?_
      refine z_ge (tgt := 25) hx hb dX1_usersOfAll_7 (by decide) (by omega) (by omega) (fun c_2 => ?_) (fun c_2 => ?_)
      · skip
        refine lv_iload_n hx hb dX1_usersOfAll_25 rfl (lv_at hl 1 rfl) ?_
        exact z_iret hx hb hr hlk hP hD hS dX1_usersOfAll_26 (by rw [show i = 40 by omega]) rfl
      · skip
        refine lv_iload_n hx hb dX1_usersOfAll_10 rfl (lv_at hl 1 rfl) ?_
        refine lv_aload_n hx hb dX1_usersOfAll_11 rfl (lv_at hl 0 rfl) ?_
        refine va_get (D := G.1) (ci := 1) (v := .ref (a 2)) (C := RX1) (T := TX1) (N := 15) hx hb hts hinX1 hown hKK.1 hP 0 rfl rfl 1 (by decide) fl_15 (fun _ h9 => h9) rfl dX1_usersOfAll_12 ?_
        refine lv_iload_n hx hb dX1_usersOfAll_15 rfl (lv_at hl 2 rfl) ?_
        refine z_iald (n := 40) (f := v 1) (v := v 1 i) hx hb hKK hP 2 rfl (by omega) (by decide) rfl dX1_usersOfAll_16 ?_
        refine z_add (v := zSm (v 1) (i + 1)) hx hb dX1_usersOfAll_17 rfl ?_
        refine lv_istore_n (lv' := [(1, .int (zSm (v 1) (i + 1))), (0, .ref (a 0)), (2, .int (nI i))]) hx hb dX1_usersOfAll_18 rfl hl (by decide) rfl (fun ls hl => ?_)
        refine lv_iinc (v := nI (i + 1)) (lv' := [(2, .int (nI (i + 1))), (1, .int (zSm (v 1) (i + 1))), (0, .ref (a 0))]) hx hb dX1_usersOfAll_19 hl (k := 2) rfl (nI_1 _) (by decide) rfl (fun ls hl => ?_)
        refine lv_goto (tgt := 4) hx hb dX1_usersOfAll_22 (by decide) ?_
        exact ih_1 (i + 1) (by omega) (by omega) _ _ _ hP hD hS (lv_sub hl [2, 1, 0] rfl)
  exact key_1 _ 0 (by omega) (Nat.lt_succ_self _) _ _ _ hP hD hS (lv_sub hl [2, 1, 0] rfl)

set_option maxHeartbeats 4000000 in
set_option maxRecDepth 100000 in
theorem c_X1_top (l : Launch) (G : ZG) (a : Nat → Nat) (v : Mem)  : CI l G yX1_top wsX1_top (zRm 0 0) [.ref (a 0)] (rollW G a v) (nI (zTp v 40)) (rollW G a v) := by
  refine CI.ent (cc := cX1_top) (maxL := 2) (ty := .int) (own := RX1) (by decide) rfl rfl (Nat.le_of_ble_eq_true rfl) ?_
  intro p ee s m args below meth c A ls F hr hlk hKK hP hD hA hS hl
  obtain ⟨hx, hb, hml, hown, hts⟩ := id F
  have hl : lv_has ls 2 [(0, .ref (a 0))] := hl
  have fl_9 := hts (.fieldLink RX1 9 "NameRolls$Roll" "names" "[I") (by decide +kernel)
  have hinX1 : ∀ w ∈ wsX10, w ∈ wsX1_top := by decide +kernel
  refine lv_bipush (v := nI 40) hx hb dX1_top_0 (by decide) ?_
  refine lv_istore_n (lv' := [(1, .int (nI 40)), (0, .ref (a 0))]) hx hb dX1_top_2 rfl hl (by decide) rfl (fun ls hl => ?_)
  have key_1 : ∀ (nn : Nat) (i : Nat), i ≤ 40 → zTp v 40 = zTp v i → i < nn → ∀ (H : Heap) (locs : List Loc) (ls : Array Slot), va_P G.1 vwCl (rollW G a v) H → va_D A (rollW G a v) → va_S A s.heap H locs → lv_has ls 2 [(0, .ref (a 0)), (1, .int (nI i))] → W p l ee (zRm 0 0) s m args below meth c H locs 0 0 (MQ below (ZQi G A (rollW G a v) (nI (zTp v 40))) args s 0 0 A) (F0 m 3 ls []) := by
    intro nn
    induction nn with
    | zero => intro i _ _ hm; exact absurd hm (Nat.not_lt_zero _)
    | succ nn ih_1 =>
      intro i hi hd hm H locs ls hP hD hS hl
      refine lv_iload_n hx hb dX1_top_3 rfl (lv_at hl 1 rfl) ?_
      refine z_ifNle (tgt := 26) hx hb dX1_top_4 (by decide) (by omega) (fun c_2 => ?_) (fun c_2 => ?_)
      · skip
        refine lv_iconst (v := nI 0) hx hb dX1_top_26 (by decide) ?_
        exact z_iret hx hb hr hlk hP hD hS dX1_top_27 (by rw [hd, show i = 0 by omega]; rfl) rfl
      · skip
        refine lv_aload_n hx hb dX1_top_7 rfl (lv_at hl 0 rfl) ?_
        refine va_get (D := G.1) (ci := 1) (v := .ref (a 1)) (C := RX1) (T := TX1) (N := 15) hx hb hts hinX1 hown hKK.1 hP 0 rfl rfl 0 (by decide) fl_9 (fun _ h9 => h9) rfl dX1_top_8 ?_
        refine lv_iload_n hx hb dX1_top_11 rfl (lv_at hl 1 rfl) ?_
        refine lv_iconst (v := nI 1) hx hb dX1_top_12 (by decide) ?_
        refine z_sub (v := nI (i - 1)) hx hb dX1_top_13 (pk_sub (by omega)) ?_
        refine z_iald (n := 40) (f := v 0) (v := v 0 (i - 1)) hx hb hKK hP 1 rfl (by omega) (by decide) rfl dX1_top_14 ?_
        refine lv_if_eq (tgt := 20) hx hb dX1_top_15 (by decide) (fun c_3 => ?_) (fun c_3 => ?_)
        · skip
          refine lv_iinc (v := nI (i - 1)) (lv' := [(1, .int (nI (i - 1))), (0, .ref (a 0))]) hx hb dX1_top_20 hl (k := 1) rfl (sb_m1 (by omega)) (by decide) rfl (fun ls hl => ?_)
          refine lv_goto (tgt := 3) hx hb dX1_top_23 (by decide) ?_
          exact ih_1 (i - 1) (by omega) (hd.trans (zTp_go (by omega) c_3)) (by omega) _ _ _ hP hD hS (lv_sub hl [1, 0] rfl)
        · skip
          refine lv_iload_n hx hb dX1_top_18 rfl (lv_at hl 1 rfl) ?_
          exact z_iret hx hb hr hlk hP hD hS dX1_top_19 (by rw [hd, zTp_at (by omega) c_3]) rfl
  exact key_1 _ 40 (by omega) rfl (Nat.lt_succ_self _) _ _ _ hP hD hS (lv_sub hl [1, 0] rfl)

set_option maxHeartbeats 4000000 in
set_option maxRecDepth 100000 in
theorem c_X1_standing_neg (l : Launch) (G : ZG) (a : Nat → Nat) (v : Mem) (x : Int32) (e : Nat) (hx0 : x < 0) : CI l G yX1_standing wsX1_standing (zRm 1 21) [.ref (a 0), .int x] (rollW G a v) ((-1)) (rollW G a v) := by
  refine CI.ent (cc := cX1_standing) (maxL := 8) (ty := .int) (own := RX1) (by decide) rfl rfl (Nat.le_of_ble_eq_true rfl) ?_
  intro p ee s m args below meth c A ls F hr hlk hKK hP hD hA hS hl
  obtain ⟨hx, hb, hml, hown, hts⟩ := id F
  have hl : lv_has ls 8 [(0, .ref (a 0)), (1, .int x)] := hl
  have ct_79 := hts (.constant RX1 79 (1000000)) (by decide +kernel)
  refine lv_iload_n hx hb dX1_standing_0 rfl (lv_at hl 1 rfl) ?_
  refine z_ldc (v' := nI 1000000) hx hb hown ct_79 dX1_standing_1 rfl ?_
  refine z_div (v := x / (nI 1000000)) hx hb dX1_standing_3 (by decide) rfl ?_
  refine lv_istore_n (lv' := [(2, .int (x / (nI 1000000))), (0, .ref (a 0)), (1, .int x)]) hx hb dX1_standing_4 rfl hl (by decide) rfl (fun ls hl => ?_)
  refine lv_iload_n hx hb dX1_standing_5 rfl (lv_at hl 2 rfl) ?_
  refine lv_bipush (v := nI 100) hx hb dX1_standing_6 (by decide) ?_
  refine z_div (v := x / (nI 100)) hx hb dX1_standing_8 (by decide) rfl ?_
  refine lv_sipush (v := nI 10000) hx hb dX1_standing_9 (by decide) ?_
  refine z_rem (v := (x / (nI 100)) - (x / (nI 100)) / (nI 10000) * (nI 10000)) hx hb dX1_standing_12 (by decide) rfl ?_
  refine lv_istore_n (lv' := [(3, .int ((x / (nI 100)) - (x / (nI 100)) / (nI 10000) * (nI 10000))), (2, .int (x / (nI 1000000))), (0, .ref (a 0)), (1, .int x)]) hx hb dX1_standing_13 rfl hl (by decide) rfl (fun ls hl => ?_)
  refine lv_iload_n hx hb dX1_standing_14 rfl (lv_at hl 3 rfl) ?_
  refine lv_bipush (v := nI 100) hx hb dX1_standing_15 (by decide) ?_
  refine z_rem (v := x - x / (nI 100) * (nI 100)) hx hb dX1_standing_17 (by decide) rfl ?_
  refine lv_istore (lv' := [(4, .int (x - x / (nI 100) * (nI 100))), (3, .int ((x / (nI 100)) - (x / (nI 100)) / (nI 10000) * (nI 10000))), (2, .int (x / (nI 1000000))), (0, .ref (a 0)), (1, .int x)]) hx hb dX1_standing_18 hl (by decide) rfl (fun ls hl => ?_)
  refine lv_iload_n hx hb dX1_standing_20 rfl (lv_at hl 4 rfl) ?_
  refine lv_if_lt (tgt := 39) hx hb dX1_standing_21 (by decide) (fun c_1 => ?_) (fun c_1 => absurd hx0 c_1)
  refine lv_iconst (v := (-1)) hx hb dX1_standing_39 (by decide) ?_
  exact z_iret hx hb hr hlk hP hD hS dX1_standing_40 rfl rfl

set_option maxHeartbeats 4000000 in
set_option maxRecDepth 100000 in
theorem c_X1_standing_N (l : Launch) (G : ZG) (a : Nat → Nat) (v : Mem) (t e : Nat) (ht : t < 2 ^ 31) (he : v 12 0 = nI e) (he2 : e ≤ 999) : CI l G yX1_standing wsX1_standing (zRm 1 21) [.ref (a 0), .int (nI t)] (rollW G a v) (zStaN v e t) (rollW G a v) := by
  refine CI.ent (cc := cX1_standing) (maxL := 8) (ty := .int) (own := RX1) (by decide) rfl rfl (Nat.le_of_ble_eq_true rfl) ?_
  intro p ee s m args below meth c A ls F hr hlk hKK hP hD hA hS hl
  obtain ⟨hx, hb, hml, hown, hts⟩ := id F
  have hl : lv_has ls 8 [(0, .ref (a 0)), (1, .int (nI t))] := hl
  have ct_79 := hts (.constant RX1 79 (1000000)) (by decide +kernel)
  have fl_9 := hts (.fieldLink RX1 9 "NameRolls$Roll" "names" "[I") (by decide +kernel)
  have fl_18 := hts (.fieldLink RX1 18 "NameRolls$Roll" "years" "[I") (by decide +kernel)
  have fl_33 := hts (.fieldLink RX1 33 "NameRolls$Roll" "yearsThen" "[I") (by decide +kernel)
  have fl_36 := hts (.fieldLink RX1 36 "NameRolls$Roll" "numbersBehind" "[I") (by decide +kernel)
  have fl_39 := hts (.fieldLink RX1 39 "NameRolls$Roll" "yearsBehind" "[I") (by decide +kernel)
  have fl_60 := hts (.fieldLink RX1 60 "NameRolls$Roll" "epoch" "I") (by decide +kernel)
  have hinX1 : ∀ w ∈ wsX10, w ∈ wsX1_standing := by decide +kernel
  have st_X3_isBelow := hts (.static yX3_isBelow) (by decide +kernel)
  have ini_X3 := hts (.initialized RX3) (by decide +kernel)
  refine lv_iload_n hx hb dX1_standing_0 rfl (lv_at hl 1 rfl) ?_
  refine z_ldc (v' := nI 1000000) hx hb hown ct_79 dX1_standing_1 rfl ?_
  refine z_div (v := nI (t / 1000000)) hx hb dX1_standing_3 (by decide) (pk_div (by omega) (by decide) (by decide)) ?_
  refine lv_istore_n (lv' := [(2, .int (nI (t / 1000000))), (0, .ref (a 0)), (1, .int (nI t))]) hx hb dX1_standing_4 rfl hl (by decide) rfl (fun ls hl => ?_)
  refine lv_iload_n hx hb dX1_standing_5 rfl (lv_at hl 2 rfl) ?_
  refine lv_bipush (v := nI 100) hx hb dX1_standing_6 (by decide) ?_
  refine z_div (v := nI (t / 100)) hx hb dX1_standing_8 (by decide) (pk_div (by omega) (by decide) (by decide)) ?_
  refine lv_sipush (v := nI 10000) hx hb dX1_standing_9 (by decide) ?_
  refine z_rem (v := nI ((t / 100) % 10000)) hx hb dX1_standing_12 (by decide) (pk_rem (by omega) (by decide) (by decide)) ?_
  refine lv_istore_n (lv' := [(3, .int (nI ((t / 100) % 10000))), (2, .int (nI (t / 1000000))), (0, .ref (a 0)), (1, .int (nI t))]) hx hb dX1_standing_13 rfl hl (by decide) rfl (fun ls hl => ?_)
  refine lv_iload_n hx hb dX1_standing_14 rfl (lv_at hl 3 rfl) ?_
  refine lv_bipush (v := nI 100) hx hb dX1_standing_15 (by decide) ?_
  refine z_rem (v := nI (t % 100)) hx hb dX1_standing_17 (by decide) (pk_rem (by omega) (by decide) (by decide)) ?_
  refine lv_istore (lv' := [(4, .int (nI (t % 100))), (3, .int (nI ((t / 100) % 10000))), (2, .int (nI (t / 1000000))), (0, .ref (a 0)), (1, .int (nI t))]) hx hb dX1_standing_18 hl (by decide) rfl (fun ls hl => ?_)
  refine lv_iload_n hx hb dX1_standing_20 rfl (lv_at hl 4 rfl) ?_
  refine z_ifNlt (tgt := 39) hx hb dX1_standing_21 (by decide) (by omega) (fun c_1 => absurd c_1 (Nat.not_lt_zero _)) (fun c_1 => ?_)
  refine lv_iload hx hb dX1_standing_24 (lv_at hl 0 rfl) ?_
  refine lv_bipush (v := nI 40) hx hb dX1_standing_26 (by decide) ?_
  refine z_ge (tgt := 39) hx hb dX1_standing_28 (by decide) (by omega) (by omega) (fun c_2 => ?_) (fun c_2 => ?_)
  · skip
    refine lv_iconst (v := (-1)) hx hb dX1_standing_39 (by decide) ?_
    exact z_iret hx hb hr hlk hP hD hS dX1_standing_40 (by rw [zStaN, if_pos c_2]) rfl
  · skip
    refine lv_iload_n hx hb dX1_standing_31 rfl (lv_at hl 2 rfl) ?_
    refine lv_aload_n hx hb dX1_standing_32 rfl (lv_at hl 3 rfl) ?_
    refine va_get (D := G.1) (ci := 1) (v := .int (v 12 0)) (C := RX1) (T := TX1) (N := 15) hx hb hts hinX1 hown hKK.1 hP 0 rfl rfl 4 (by decide) fl_60 (fun _ h9 => h9) rfl dX1_standing_33 ?_
    refine z_top (v := nI e) he ?_
    refine z_le (tgt := 41) hx hb dX1_standing_36 (by decide) (by omega) (by omega) (fun c_3 => ?_) (fun c_3 => ?_)
    · skip
      refine lv_iload_n hx hb dX1_standing_41 rfl (lv_at hl 2 rfl) ?_
      refine lv_aload_n hx hb dX1_standing_42 rfl (lv_at hl 3 rfl) ?_
      refine va_get (D := G.1) (ci := 1) (v := .int (v 12 0)) (C := RX1) (T := TX1) (N := 15) hx hb hts hinX1 hown hKK.1 hP 0 rfl rfl 4 (by decide) fl_60 (fun _ h9 => h9) rfl dX1_standing_43 ?_
      refine z_top (v := nI e) he ?_
      refine lv_iconst (v := nI 3) hx hb dX1_standing_46 (by decide) ?_
      refine z_sub (v := nI e - nI 3) hx hb dX1_standing_47 rfl ?_
      refine lv_icmp_ge (tgt := 54) hx hb dX1_standing_48 (by decide) (fun c_4 => ?_) (fun c_4 => ?_)
      · skip
        have h3 : e ≤ t / 1000000 + 3 := Nat.not_lt.mp (fun q => absurd ((z_m3 (by omega) (by omega)).mpr q) (by rw [Int32.lt_iff_toInt_lt]; rw [Int32.le_iff_toInt_le] at c_4; omega))
        refine lv_iload_n hx hb dX1_standing_54 rfl (lv_at hl 2 rfl) ?_
        refine lv_istore (lv' := [(5, .int (nI (t / 1000000))), (4, .int (nI (t % 100))), (3, .int (nI ((t / 100) % 10000))), (2, .int (nI (t / 1000000))), (0, .ref (a 0)), (1, .int (nI t))]) hx hb dX1_standing_55 hl (by decide) rfl (fun ls hl => ?_)
        have key_5 : ∀ (nn : Nat) (d n : Nat) (y : Int32), d ≤ e → n < 40 → zFol v (e - t / 1000000) (t / 1000000) (t % 100) (nI (t / 100 % 10000)) = zFol v (e - d) d n y → e - d < nn → ∀ (H : Heap) (locs : List Loc) (ls : Array Slot), va_P G.1 vwCl (rollW G a v) H → va_D A (rollW G a v) → va_S A s.heap H locs → lv_has ls 8 [(0, .ref (a 0)), (3, .int y), (4, .int (nI n)), (5, .int (nI d))] → W p l ee (zRm 1 21) s m args below meth c H locs 0 0 (MQ below (ZQi G A (rollW G a v) (zStaN v e t)) args s 0 0 A) (F0 m 57 ls []) := by
          intro nn
          induction nn with
          | zero => intro d n y _ _ _ hm; exact absurd hm (Nat.not_lt_zero _)
          | succ nn ih_5 =>
            intro d n y hd hn hf hm H locs ls hP hD hS hl
            refine lv_iload hx hb dX1_standing_57 (lv_at hl 3 rfl) ?_
            refine lv_aload_n hx hb dX1_standing_59 rfl (lv_at hl 0 rfl) ?_
            refine va_get (D := G.1) (ci := 1) (v := .int (v 12 0)) (C := RX1) (T := TX1) (N := 15) hx hb hts hinX1 hown hKK.1 hP 0 rfl rfl 4 (by decide) fl_60 (fun _ h9 => h9) rfl dX1_standing_60 ?_
            refine z_top (v := nI e) he ?_
            refine z_ge (tgt := 135) hx hb dX1_standing_63 (by decide) (by omega) (by omega) (fun c_6 => ?_) (fun c_6 => ?_)
            · skip
              refine lv_aload_n hx hb dX1_standing_135 rfl (lv_at hl 0 rfl) ?_
              refine va_get (D := G.1) (ci := 1) (v := .ref (a 1)) (C := RX1) (T := TX1) (N := 15) hx hb hts hinX1 hown hKK.1 hP 0 rfl rfl 0 (by decide) fl_9 (fun _ h9 => h9) rfl dX1_standing_136 ?_
              refine lv_iload hx hb dX1_standing_139 (lv_at hl 2 rfl) ?_
              refine z_iald (n := 40) (f := v 0) (v := v 0 n) hx hb hKK hP 1 rfl (by omega) (by decide) rfl dX1_standing_141 ?_
              refine lv_if_eq (tgt := 156) hx hb dX1_standing_142 (by decide) (fun c_7 => ?_) (fun c_7 => ?_)
              · skip
                refine lv_bipush (v := (-4)) hx hb dX1_standing_156 (by decide) ?_
                refine lv_goto (tgt := 163) hx hb dX1_standing_158 (by decide) ?_
                exact z_iret hx hb hr hlk hP hD hS dX1_standing_163 (by rw [zStaN, if_neg (by omega), if_neg (by omega), if_neg (by omega), hf, show e - d = 0 by omega, zFol]; rw [if_pos c_7]) rfl
              · skip
                refine lv_aload_n hx hb dX1_standing_145 rfl (lv_at hl 0 rfl) ?_
                refine va_get (D := G.1) (ci := 1) (v := .ref (a 3)) (C := RX1) (T := TX1) (N := 15) hx hb hts hinX1 hown hKK.1 hP 0 rfl rfl 2 (by decide) fl_18 (fun _ h9 => h9) rfl dX1_standing_146 ?_
                refine lv_iload hx hb dX1_standing_149 (lv_at hl 2 rfl) ?_
                refine z_iald (n := 40) (f := v 2) (v := v 2 n) hx hb hKK hP 3 rfl (by omega) (by decide) rfl dX1_standing_151 ?_
                refine lv_iload_n hx hb dX1_standing_152 rfl (lv_at hl 1 rfl) ?_
                refine lv_icmp_eq (tgt := 161) hx hb dX1_standing_153 (by decide) (fun c_8 => ?_) (fun c_8 => ?_)
                · skip
                  refine lv_iload hx hb dX1_standing_161 (lv_at hl 2 rfl) ?_
                  exact z_iret hx hb hr hlk hP hD hS dX1_standing_163 (by rw [zStaN, if_neg (by omega), if_neg (by omega), if_neg (by omega), hf, show e - d = 0 by omega, zFol]; rw [if_neg c_7, if_pos c_8]) rfl
                · skip
                  refine lv_bipush (v := (-4)) hx hb dX1_standing_156 (by decide) ?_
                  refine lv_goto (tgt := 163) hx hb dX1_standing_158 (by decide) ?_
                  exact z_iret hx hb hr hlk hP hD hS dX1_standing_163 (by rw [zStaN, if_neg (by omega), if_neg (by omega), if_neg (by omega), hf, show e - d = 0 by omega, zFol]; rw [if_neg c_7, if_neg c_8]) rfl
            · skip
              refine lv_iload hx hb dX1_standing_66 (lv_at hl 3 rfl) ?_
              refine lv_iconst (v := nI 3) hx hb dX1_standing_68 (by decide) ?_
              refine z_rem (v := nI (d % 3)) hx hb dX1_standing_69 (by decide) (pk_rem (by omega) (by decide) (by decide)) ?_
              refine lv_bipush (v := nI 40) hx hb dX1_standing_70 (by decide) ?_
              refine z_mul (v := nI ((d % 3) * 40)) hx hb dX1_standing_72 (pk_mul _ _) ?_
              refine lv_istore (lv' := [(6, .int (nI ((d % 3) * 40))), (0, .ref (a 0)), (3, .int y), (4, .int (nI n)), (5, .int (nI d))]) hx hb dX1_standing_73 hl (by decide) rfl (fun ls hl => ?_)
              refine lv_aload_n hx hb dX1_standing_75 rfl (lv_at hl 1 rfl) ?_
              refine va_get (D := G.1) (ci := 1) (v := .ref (a 9)) (C := RX1) (T := TX1) (N := 15) hx hb hts hinX1 hown hKK.1 hP 0 rfl rfl 11 (by decide) fl_36 (fun _ h9 => h9) rfl dX1_standing_76 ?_
              refine lv_iload hx hb dX1_standing_79 (lv_at hl 0 rfl) ?_
              refine lv_iload hx hb dX1_standing_81 (lv_at hl 3 rfl) ?_
              refine z_add (v := nI (((d % 3) * 40) + n)) hx hb dX1_standing_83 (nI_add _ _) ?_
              refine z_iald (n := 120) (f := v 8) (v := v 8 (((d % 3) * 40) + n)) hx hb hKK hP 9 rfl (by omega) (by decide) rfl dX1_standing_84 ?_
              refine lv_istore (lv' := [(7, .int (v 8 (((d % 3) * 40) + n))), (6, .int (nI ((d % 3) * 40))), (0, .ref (a 0)), (3, .int y), (4, .int (nI n)), (5, .int (nI d))]) hx hb dX1_standing_85 hl (by decide) rfl (fun ls hl => ?_)
              refine lv_iload hx hb dX1_standing_87 (lv_at hl 0 rfl) ?_
              refine lv_bipush (v := nI 40) hx hb dX1_standing_89 (by decide) ?_
              refine z_callNI (As := [.int (v 8 (((d % 3) * 40) + n)), .int (nI 40)]) (rest := []) F (c_X3_isBelow l G (v 8 (((d % 3) * 40) + n)) (40) (by omega)) ⟨va_cnB 2 hts gX1_standing_X3_isBelow_n70 rfl rfl rfl hKK.2.1 ini_X3 (by decide +kernel) ⟨Nat.le_of_ble_eq_true rfl, Nat.le_of_ble_eq_true rfl⟩, st_X3_isBelow, trivial⟩ hKK hP hD hS hA rfl hl.1 rfl (Nat.le_of_ble_eq_true rfl) ⟨Nat.zero_le _, Nat.zero_le _⟩ dX1_standing_91 (fun H locs hP hD hS => ?_)
              refine z_ifBeq (tgt := 111) hx hb dX1_standing_94 (by decide) (fun c_9 => ?_) (fun c_9 => ?_)
              · skip
                refine lv_bipush (v := (-3)) hx hb dX1_standing_111 (by decide) ?_
                exact z_iret hx hb hr hlk hP hD hS dX1_standing_113 (by rw [zStaN, if_neg (by omega), if_neg (by omega), if_neg (by omega), hf, zFol_bad (by omega) (Or.inl c_9)]) rfl
              · skip
                obtain ⟨q, hq, hqe⟩ := zBel_of (by decide) c_9
                rw [hqe] at hl
                refine lv_aload_n hx hb dX1_standing_97 rfl (lv_at hl 2 rfl) ?_
                refine va_get (D := G.1) (ci := 1) (v := .ref (a 8)) (C := RX1) (T := TX1) (N := 15) hx hb hts hinX1 hown hKK.1 hP 0 rfl rfl 10 (by decide) fl_33 (fun _ h9 => h9) rfl dX1_standing_98 ?_
                refine lv_iload hx hb dX1_standing_101 (lv_at hl 1 rfl) ?_
                refine lv_iload hx hb dX1_standing_103 (lv_at hl 4 rfl) ?_
                refine z_add (v := nI (((d % 3) * 40) + n)) hx hb dX1_standing_105 (nI_add _ _) ?_
                refine z_iald (n := 120) (f := v 7) (v := v 7 (((d % 3) * 40) + n)) hx hb hKK hP 8 rfl (by omega) (by decide) rfl dX1_standing_106 ?_
                refine lv_iload_n hx hb dX1_standing_107 rfl (lv_at hl 3 rfl) ?_
                refine lv_icmp_eq (tgt := 114) hx hb dX1_standing_108 (by decide) (fun c_10 => ?_) (fun c_10 => ?_)
                · skip
                  refine lv_iload hx hb dX1_standing_114 (lv_at hl 0 rfl) ?_
                  refine lv_istore (lv' := [(4, .int (nI q)), (7, .int (nI q)), (6, .int (nI ((d % 3) * 40))), (0, .ref (a 0)), (3, .int y), (5, .int (nI d))]) hx hb dX1_standing_116 hl (by decide) rfl (fun ls hl => ?_)
                  refine lv_aload_n hx hb dX1_standing_118 rfl (lv_at hl 3 rfl) ?_
                  refine va_get (D := G.1) (ci := 1) (v := .ref (a 10)) (C := RX1) (T := TX1) (N := 15) hx hb hts hinX1 hown hKK.1 hP 0 rfl rfl 12 (by decide) fl_39 (fun _ h9 => h9) rfl dX1_standing_119 ?_
                  refine lv_iload hx hb dX1_standing_122 (lv_at hl 2 rfl) ?_
                  refine lv_iload hx hb dX1_standing_124 (lv_at hl 1 rfl) ?_
                  refine z_add (v := nI (((d % 3) * 40) + q)) hx hb dX1_standing_126 (nI_add _ _) ?_
                  refine z_iald (n := 120) (f := v 9) (v := v 9 (((d % 3) * 40) + q)) hx hb hKK hP 10 rfl (by omega) (by decide) rfl dX1_standing_127 ?_
                  refine lv_istore_n (lv' := [(3, .int (v 9 (((d % 3) * 40) + q))), (4, .int (nI q)), (7, .int (nI q)), (6, .int (nI ((d % 3) * 40))), (0, .ref (a 0)), (5, .int (nI d))]) hx hb dX1_standing_128 rfl hl (by decide) rfl (fun ls hl => ?_)
                  refine lv_iinc (v := nI (d + 1)) (lv' := [(5, .int (nI (d + 1))), (3, .int (v 9 (((d % 3) * 40) + q))), (4, .int (nI q)), (7, .int (nI q)), (6, .int (nI ((d % 3) * 40))), (0, .ref (a 0))]) hx hb dX1_standing_129 hl (k := 5) rfl (nI_1 _) (by decide) rfl (fun ls hl => ?_)
                  refine lv_goto (tgt := 57) hx hb dX1_standing_132 (by decide) ?_
                  exact ih_5 (d + 1) q (v 9 (d % 3 * 40 + q)) (by omega) hq (hf.trans (zFol_go (by omega) hqe hq c_10)) (by omega) _ _ _ hP hD hS (lv_sub hl [5, 1, 2, 0] rfl)
                · skip
                  refine lv_bipush (v := (-3)) hx hb dX1_standing_111 (by decide) ?_
                  exact z_iret hx hb hr hlk hP hD hS dX1_standing_113 (by rw [zStaN, if_neg (by omega), if_neg (by omega), if_neg (by omega), hf, zFol_bad (by omega) (Or.inr c_10)]) rfl
        exact key_5 _ (t / 1000000) (t % 100) (nI (t / 100 % 10000)) (by omega) (by omega) rfl (Nat.lt_succ_self _) _ _ _ hP hD hS (lv_sub hl [4, 2, 1, 0] rfl)
      · skip
        have h3 : t / 1000000 + 3 < e := (z_m3 (by omega) (by omega)).mp (by rw [Int32.lt_iff_toInt_lt]; rw [Int32.le_iff_toInt_le] at c_4; omega)
        refine lv_bipush (v := (-2)) hx hb dX1_standing_51 (by decide) ?_
        exact z_iret hx hb hr hlk hP hD hS dX1_standing_53 (by rw [zStaN, if_neg (Nat.not_le.mpr c_2), if_neg (Nat.not_lt.mpr c_3), if_pos h3]) rfl
    · skip
      refine lv_iconst (v := (-1)) hx hb dX1_standing_39 (by decide) ?_
      exact z_iret hx hb hr hlk hP hD hS dX1_standing_40 (by rw [zStaN, if_neg (Nat.not_le.mpr c_2), if_pos c_3]) rfl

theorem c_X1_standing (l : Launch) (G : ZG) (a : Nat → Nat) (v : Mem) (x : Int32) (e : Nat) (he : v 12 0 = nI e) (he2 : e ≤ 999) : CI l G yX1_standing wsX1_standing (zRm 1 21) [.ref (a 0), .int x] (rollW G a v) (zSta v e x) (rollW G a v) := by
  rw [zSta]
  by_cases h : x < 0
  · rw [if_pos h]
    exact c_X1_standing_neg l G a v x e h
  · rw [if_neg h]
    obtain ⟨t, ht, rfl⟩ := nI_of h
    rw [nI_clamp ht]
    exact c_X1_standing_N l G a v t e ht he he2

set_option maxHeartbeats 4000000 in
set_option maxRecDepth 100000 in
theorem c_X1_stillStanding (l : Launch) (G : ZG) (a : Nat → Nat) (v : Mem) (d e : Nat) (hd : d < 2 ^ 20) (he : v 12 0 = nI e) (he2 : e ≤ 999) : CI l G yX1_stillStanding wsX1_stillStanding (zRm 2 48) [.ref (a 0), .int (nI d)] (rollW G a v) (nI (fb_ct (pSt v e d) 40)) (rollW G a v) := by
  refine CI.ent (cc := cX1_stillStanding) (maxL := 6) (ty := .int) (own := RX1) (by decide) rfl rfl (Nat.le_of_ble_eq_true rfl) ?_
  intro p ee s m args below meth c A ls F hr hlk hKK hP hD hA hS hl
  obtain ⟨hx, hb, hml, hown, hts⟩ := id F
  have hl : lv_has ls 6 [(0, .ref (a 0)), (1, .int (nI d))] := hl
  have fl_33 := hts (.fieldLink RX1 33 "NameRolls$Roll" "yearsThen" "[I") (by decide +kernel)
  have fl_36 := hts (.fieldLink RX1 36 "NameRolls$Roll" "numbersBehind" "[I") (by decide +kernel)
  have hinX1 : ∀ w ∈ wsX10, w ∈ wsX1_stillStanding := by decide +kernel
  refine lv_iload_n hx hb dX1_stillStanding_0 rfl (lv_at hl 1 rfl) ?_
  refine z_ifNge (tgt := 6) hx hb dX1_stillStanding_1 (by decide) (by omega) (fun c_1 => ?_) (fun c_1 => absurd c_1 (Nat.not_lt_zero _))
  refine lv_iload_n hx hb dX1_stillStanding_6 rfl (lv_at hl 1 rfl) ?_
  refine lv_iconst (v := nI 3) hx hb dX1_stillStanding_7 (by decide) ?_
  refine z_rem (v := nI (d % 3)) hx hb dX1_stillStanding_8 (by decide) (pk_rem (by omega) (by decide) (by decide)) ?_
  refine lv_bipush (v := nI 40) hx hb dX1_stillStanding_9 (by decide) ?_
  refine z_mul (v := nI ((d % 3) * 40)) hx hb dX1_stillStanding_11 (pk_mul _ _) ?_
  refine lv_istore_n (lv' := [(2, .int (nI ((d % 3) * 40))), (0, .ref (a 0)), (1, .int (nI d))]) hx hb dX1_stillStanding_12 rfl hl (by decide) rfl (fun ls hl => ?_)
  refine lv_iconst (v := nI 0) hx hb dX1_stillStanding_13 (by decide) ?_
  refine lv_istore_n (lv' := [(3, .int (nI 0)), (2, .int (nI ((d % 3) * 40))), (0, .ref (a 0)), (1, .int (nI d))]) hx hb dX1_stillStanding_14 rfl hl (by decide) rfl (fun ls hl => ?_)
  refine lv_iconst (v := nI 0) hx hb dX1_stillStanding_15 (by decide) ?_
  refine lv_istore (lv' := [(4, .int (nI 0)), (3, .int (nI 0)), (2, .int (nI ((d % 3) * 40))), (0, .ref (a 0)), (1, .int (nI d))]) hx hb dX1_stillStanding_16 hl (by decide) rfl (fun ls hl => ?_)
  have key_2 : ∀ (nn : Nat) (i : Nat), i ≤ 40 → 40 - i < nn → ∀ (H : Heap) (locs : List Loc) (ls : Array Slot), va_P G.1 vwCl (rollW G a v) H → va_D A (rollW G a v) → va_S A s.heap H locs → lv_has ls 6 [(0, .ref (a 0)), (1, .int (nI d)), (2, .int (nI (d % 3 * 40))), (3, .int (nI (fb_ct (pSt v e d) i))), (4, .int (nI i))] → W p l ee (zRm 2 48) s m args below meth c H locs 0 0 (MQ below (ZQi G A (rollW G a v) (nI (fb_ct (pSt v e d) 40))) args s 0 0 A) (F0 m 18 ls []) := by
    intro nn
    induction nn with
    | zero => intro i _ hm; exact absurd hm (Nat.not_lt_zero _)
    | succ nn ih_2 =>
      intro i hi hm H locs ls hP hD hS hl
      refine lv_iload hx hb dX1_stillStanding_18 (lv_at hl 4 rfl) ?_
      refine lv_bipush (v := nI 40) hx hb dX1_stillStanding_20 (by decide) ?_
      refine z_ge (tgt := 81) hx hb dX1_stillStanding_22 (by decide) (by omega) (by omega) (fun c_3 => ?_) (fun c_3 => ?_)
      · skip
        refine lv_iload_n hx hb dX1_stillStanding_81 rfl (lv_at hl 3 rfl) ?_
        exact z_iret hx hb hr hlk hP hD hS dX1_stillStanding_82 (by rw [show i = 40 by omega]) rfl
      · skip
        refine lv_aload_n hx hb dX1_stillStanding_25 rfl (lv_at hl 0 rfl) ?_
        refine va_get (D := G.1) (ci := 1) (v := .ref (a 9)) (C := RX1) (T := TX1) (N := 15) hx hb hts hinX1 hown hKK.1 hP 0 rfl rfl 11 (by decide) fl_36 (fun _ h9 => h9) rfl dX1_stillStanding_26 ?_
        refine lv_iload_n hx hb dX1_stillStanding_29 rfl (lv_at hl 2 rfl) ?_
        refine lv_iload hx hb dX1_stillStanding_30 (lv_at hl 4 rfl) ?_
        refine z_add (v := nI ((d % 3 * 40) + i)) hx hb dX1_stillStanding_32 (nI_add _ _) ?_
        refine z_iald (n := 120) (f := v 8) (v := v 8 ((d % 3 * 40) + i)) hx hb hKK hP 9 rfl (by omega) (by decide) rfl dX1_stillStanding_33 ?_
        refine lv_iconst (v := (-1)) hx hb dX1_stillStanding_34 (by decide) ?_
        refine lv_icmp_eq (tgt := 42) hx hb dX1_stillStanding_35 (by decide) (fun c_4 => ?_) (fun c_4 => ?_)
        · skip
          refine lv_iconst (v := nI 0) hx hb dX1_stillStanding_42 (by decide) ?_
          refine lv_istore (lv' := [(5, .int (nI 0)), (0, .ref (a 0)), (1, .int (nI d)), (2, .int (nI (d % 3 * 40))), (3, .int (nI (fb_ct (pSt v e d) i))), (4, .int (nI i))]) hx hb dX1_stillStanding_43 hl (by decide) rfl (fun ls hl => ?_)
          refine lv_iload hx hb dX1_stillStanding_45 (lv_at hl 0 rfl) ?_
          refine z_ifNeq (tgt := 75) hx hb dX1_stillStanding_47 (by decide) (by omega) (fun c_5 => ?_) (fun c_5 => absurd c_5 (by decide))
          rw [← fb_ct_f (p := pSt v e d) (n := i) (by simp [pSt, c_4])] at hl
          refine lv_iinc (v := nI (i + 1)) (lv' := [(4, .int (nI (i + 1))), (5, .int (nI 0)), (0, .ref (a 0)), (1, .int (nI d)), (2, .int (nI (d % 3 * 40))), (3, .int (nI (fb_ct (pSt v e d) (i + 1))))]) hx hb dX1_stillStanding_75 hl (k := 5) rfl (nI_1 _) (by decide) rfl (fun ls hl => ?_)
          refine lv_goto (tgt := 18) hx hb dX1_stillStanding_78 (by decide) ?_
          exact ih_2 (i + 1) (by omega) (by omega) _ _ _ hP hD hS (lv_sub hl [2, 3, 4, 5, 0] rfl)
        · skip
          refine lv_iconst (v := nI 1) hx hb dX1_stillStanding_38 (by decide) ?_
          refine lv_goto (tgt := 43) hx hb dX1_stillStanding_39 (by decide) ?_
          refine lv_istore (lv' := [(5, .int (nI 1)), (0, .ref (a 0)), (1, .int (nI d)), (2, .int (nI (d % 3 * 40))), (3, .int (nI (fb_ct (pSt v e d) i))), (4, .int (nI i))]) hx hb dX1_stillStanding_43 hl (by decide) rfl (fun ls hl => ?_)
          refine lv_iload hx hb dX1_stillStanding_45 (lv_at hl 0 rfl) ?_
          refine z_ifNeq (tgt := 75) hx hb dX1_stillStanding_47 (by decide) (by omega) (fun c_6 => absurd c_6 (by decide)) (fun c_6 => ?_)
          refine lv_aload_n hx hb dX1_stillStanding_50 rfl (lv_at hl 1 rfl) ?_
          refine lv_iload_n hx hb dX1_stillStanding_51 rfl (lv_at hl 2 rfl) ?_
          refine lv_aload_n hx hb dX1_stillStanding_52 rfl (lv_at hl 1 rfl) ?_
          refine va_get (D := G.1) (ci := 1) (v := .ref (a 8)) (C := RX1) (T := TX1) (N := 15) hx hb hts hinX1 hown hKK.1 hP 0 rfl rfl 10 (by decide) fl_33 (fun _ h9 => h9) rfl dX1_stillStanding_53 ?_
          refine lv_iload_n hx hb dX1_stillStanding_56 rfl (lv_at hl 3 rfl) ?_
          refine lv_iload hx hb dX1_stillStanding_57 (lv_at hl 5 rfl) ?_
          refine z_add (v := nI ((d % 3 * 40) + i)) hx hb dX1_stillStanding_59 (nI_add _ _) ?_
          refine z_iald (n := 120) (f := v 7) (v := v 7 ((d % 3 * 40) + i)) hx hb hKK hP 8 rfl (by omega) (by decide) rfl dX1_stillStanding_60 ?_
          refine lv_iload hx hb dX1_stillStanding_61 (lv_at hl 5 rfl) ?_
          refine z_callSI (As := [.int (nI d), .int (v 7 ((d % 3 * 40) + i)), .int (nI i)]) (rest := [.ref (a 0)]) F (c_X1_tagIn l G (nI d) (v 7 ((d % 3 * 40) + i)) (nI i)) (va_cwS 3 hts gX1_stillStanding_X1_tagIn rfl rfl rfl (by decide +kernel) ⟨Nat.le_of_ble_eq_true rfl, Nat.le_of_ble_eq_true rfl⟩) hKK hP hD hS hA rfl hl.1 rfl (Nat.le_of_ble_eq_true rfl) ⟨Nat.zero_le _, Nat.zero_le _⟩ dX1_stillStanding_63 (fun H locs hP hD hS => ?_)
          refine z_callVI (As := [.int (nI 1000000 * (nI d) + nI 100 * (v 7 ((d % 3 * 40) + i)) + (nI i))]) (rest := []) (wr := []) (C := RX1) F (c_X1_standing l G a v (nI 1000000 * (nI d) + nI 100 * (v 7 ((d % 3 * 40) + i)) + (nI i)) e he he2) (cwV 1 hts gX1_stillStanding_X1_standing rfl rfl rfl (by decide +kernel) ⟨Nat.le_of_ble_eq_true rfl, Nat.le_of_ble_eq_true rfl⟩) hKK (z_recv hKK hP (q0 := 0) (ci := 1) rfl rfl) hP hD hS hA rfl hl.1 rfl (Nat.le_of_ble_eq_true rfl) ⟨Nat.zero_le _, Nat.zero_le _⟩ dX1_stillStanding_66 (fun H locs hP hD hS => ?_)
          have hP : va_P G.1 vwCl (rollW G a v) H := hP
          have hD : va_D A (rollW G a v) := hD
          refine lv_if_lt (tgt := 75) hx hb dX1_stillStanding_69 (by decide) (fun c_7 => ?_) (fun c_7 => ?_)
          · skip
            rw [← fb_ct_f (p := pSt v e d) (n := i) (by simp [pSt, c_7])] at hl
            refine lv_iinc (v := nI (i + 1)) (lv' := [(4, .int (nI (i + 1))), (5, .int (nI 1)), (0, .ref (a 0)), (1, .int (nI d)), (2, .int (nI (d % 3 * 40))), (3, .int (nI (fb_ct (pSt v e d) (i + 1))))]) hx hb dX1_stillStanding_75 hl (k := 5) rfl (nI_1 _) (by decide) rfl (fun ls hl => ?_)
            refine lv_goto (tgt := 18) hx hb dX1_stillStanding_78 (by decide) ?_
            exact ih_2 (i + 1) (by omega) (by omega) _ _ _ hP hD hS (lv_sub hl [2, 3, 4, 5, 0] rfl)
          · skip
            refine lv_iinc (v := nI (fb_ct (pSt v e d) (i + 1))) (lv' := [(3, .int (nI (fb_ct (pSt v e d) (i + 1)))), (5, .int (nI 1)), (0, .ref (a 0)), (1, .int (nI d)), (2, .int (nI (d % 3 * 40))), (4, .int (nI i))]) hx hb dX1_stillStanding_72 hl (k := 4) rfl (by rw [fb_ct_t (p := pSt v e d) (n := i) (by simp [pSt, c_7, c_4])]; exact nI_1 _) (by decide) rfl (fun ls hl => ?_)
            refine lv_iinc (v := nI (i + 1)) (lv' := [(4, .int (nI (i + 1))), (3, .int (nI (fb_ct (pSt v e d) (i + 1)))), (5, .int (nI 1)), (0, .ref (a 0)), (1, .int (nI d)), (2, .int (nI (d % 3 * 40)))]) hx hb dX1_stillStanding_75 hl (k := 5) rfl (nI_1 _) (by decide) rfl (fun ls hl => ?_)
            refine lv_goto (tgt := 18) hx hb dX1_stillStanding_78 (by decide) ?_
            exact ih_2 (i + 1) (by omega) (by omega) _ _ _ hP hD hS (lv_sub hl [3, 4, 5, 1, 0] rfl)
  exact key_2 _ 0 (by omega) (Nat.lt_succ_self _) _ _ _ hP hD hS (lv_sub hl [3, 4, 2, 1, 0] rfl)
