set_option maxHeartbeats 4000000 in
set_option maxRecDepth 100000 in
theorem c_X4_fault_bad (l : Launch) (G : ZG) (a : Nat → Nat) (v : Mem) (y : Nat → Nat) (x : Int32) (h9 : zWi x 0 2 = false) : CI l G yX4_fault wsX4_fault (zRm 6 137) [.ref (a 0), .int x] (modW G a v y) ((-1000001)) (modW G a v y) := by
  refine CI.ent (cc := cX4_fault) (maxL := 2) (ty := .int) (own := RX4) (by decide) rfl rfl (Nat.le_of_ble_eq_true rfl) ?_
  intro p ee s m args below meth c A ls F hr hlk hKK hP hD hA hS hl
  obtain ⟨hx, hb, hml, hown, hts⟩ := id F
  have hl : lv_has ls 2 [(0, .ref (a 0)), (1, .int x)] := hl
  have ct_61 := hts (.constant RX4 61 (-1000001)) (by decide +kernel)
  refine lv_iload_n hx hb dX4_fault_0 rfl (lv_at hl 1 rfl) ?_
  refine lv_iconst (v := nI 0) hx hb dX4_fault_1 (by decide) ?_
  refine lv_iconst (v := nI 2) hx hb dX4_fault_2 (by decide) ?_
  refine z_callSI (As := [.int x, .int (nI 0), .int (nI 2)]) (rest := []) F (c_X4_within l G x (0) (2)) (va_cwS 3 hts gX4_fault_X4_within rfl rfl rfl (by decide +kernel) ⟨Nat.le_of_ble_eq_true rfl, Nat.le_of_ble_eq_true rfl⟩) hKK hP hD hS hA rfl hl.1 rfl (Nat.le_of_ble_eq_true rfl) ⟨Nat.zero_le _, Nat.zero_le _⟩ dX4_fault_3 (fun H locs hP hD hS => ?_)
  refine z_top (v := bI (false)) (by rw [h9]) ?_
  refine z_ifBne (tgt := 12) hx hb dX4_fault_6 (by decide) (fun c_1 => absurd c_1 (by decide)) (fun c_1 => ?_)
  refine z_ldc (v' := (-1000001)) hx hb hown ct_61 dX4_fault_9 rfl ?_
  exact z_iret hx hb hr hlk hP hD hS dX4_fault_11 rfl rfl

set_option maxHeartbeats 4000000 in
set_option maxRecDepth 100000 in
theorem c_X4_fault_ok (l : Launch) (G : ZG) (a : Nat → Nat) (v : Mem) (y : Nat → Nat) (q : Nat) (hwt : q ≤ 2) (w : Mem) (e B : Nat) (hR : RR w (v 0) e B) (hdg : okDg v) (tl : Nat) (hL : y 1 = tl) (hL6 : tl ≤ 60) (hT : okTx (v 3)) : CIE l G yX4_fault wsX4_fault (zRm 6 137) [.ref (a 0), .int (nI q)] (modW G a v y) (S := Mem × (Nat → Nat)) (fun r u => r = fltR (daRes v w tl) q ∧ kpt v y u) (fun u => modW G a u.1 u.2) := by
  refine CIE.ent (cc := cX4_fault) (maxL := 2) (ty := .int) (own := RX4) (by decide) rfl rfl (Nat.le_of_ble_eq_true rfl) ?_
  intro p ee s m args below meth c A ls F hr hlk hKK hP hD hA hS hl
  obtain ⟨hx, hb, hml, hown, hts⟩ := id F
  have hl : lv_has ls 2 [(0, .ref (a 0)), (1, .int (nI q))] := hl
  have ct_99 := hts (.constant RX4 99 (-1000004)) (by decide +kernel)
  have fl_156 := hts (.fieldLink RX4 156 "NameRollsModel" "reason" "I") (by decide +kernel)
  have fl_159 := hts (.fieldLink RX4 159 "NameRollsModel" "place" "I") (by decide +kernel)
  have fl_165 := hts (.fieldLink RX4 165 "NameRollsModel" "cause" "I") (by decide +kernel)
  have hinX4 : ∀ w ∈ wsX40, w ∈ wsX4_fault := by decide +kernel
  refine lv_iload_n hx hb dX4_fault_0 rfl (lv_at hl 1 rfl) ?_
  refine lv_iconst (v := nI 0) hx hb dX4_fault_1 (by decide) ?_
  refine lv_iconst (v := nI 2) hx hb dX4_fault_2 (by decide) ?_
  refine z_callSI (As := [.int (nI q), .int (nI 0), .int (nI 2)]) (rest := []) F (c_X4_within_t l G (q) (0) (2) (by omega) (by omega) (by decide)) (va_cwS 3 hts gX4_fault_X4_within rfl rfl rfl (by decide +kernel) ⟨Nat.le_of_ble_eq_true rfl, Nat.le_of_ble_eq_true rfl⟩) hKK hP hD hS hA rfl hl.1 rfl (Nat.le_of_ble_eq_true rfl) ⟨Nat.zero_le _, Nat.zero_le _⟩ dX4_fault_3 (fun H locs hP hD hS => ?_)
  refine z_ifBne (tgt := 12) hx hb dX4_fault_6 (by decide) (fun c_1 => ?_) (fun c_1 => absurd c_1 (by decide))
  refine lv_aload_n hx hb dX4_fault_12 rfl (lv_at hl 0 rfl) ?_
  refine z_callVV (As := []) (rest := []) (wr := []) (C := RX4) F (c_X4_lays l G a v y) (cwV 0 hts gX4_fault_X4_lays rfl rfl rfl (by decide +kernel) ⟨Nat.le_of_ble_eq_true rfl, Nat.le_of_ble_eq_true rfl⟩) hKK (z_recv hKK hP (q0 := 0) (ci := 4) rfl rfl) hP hD hS hA rfl hl.1 rfl (Nat.le_of_ble_eq_true rfl) ⟨Nat.zero_le _, Nat.zero_le _⟩ dX4_fault_13 (fun H locs hP hD hS => ?_)
  have hP : va_P G.1 vwCl (modW G a (laid v) y) H := hP
  have hD : va_D A (modW G a (laid v) y) := hD
  refine lv_aload_n hx hb dX4_fault_16 rfl (lv_at hl 0 rfl) ?_
  refine z_callVIE (As := []) (rest := []) (wr := []) (C := RX4) F (c_X4_doesAll l G a (laid v) y w e B (by exact hR) (by exact hdg) tl hL hL6 (by exact hT)) (cwV 0 hts gX4_fault_X4_doesAll rfl rfl rfl (by decide +kernel) ⟨Nat.le_of_ble_eq_true rfl, Nat.le_of_ble_eq_true rfl⟩) hKK (z_recv hKK hP (q0 := 0) (ci := 4) rfl rfl) hP hD hS hA rfl hl.1 rfl (Nat.le_of_ble_eq_true rfl) ⟨Nat.zero_le _, Nat.zero_le _⟩ dX4_fault_17 (fun r_2 u_2 H locs hq_2 hP hD hS => ?_)
  have hd1 := hq_2
  have hk1 := fp_kpt hd1
  have h73 := hd1.2.2.2.1
  have hP : va_P G.1 vwCl (modW G a u_2.1 u_2.2) H := hP
  have hD : va_D A (modW G a u_2.1 u_2.2) := hD
  refine lv_pop hx hb dX4_fault_20 rfl ?_
  refine lv_aload_n hx hb dX4_fault_21 rfl (lv_at hl 0 rfl) ?_
  refine z_callVV (As := []) (rest := []) (wr := []) (C := RX4) F (c_X4_back l G a u_2.1 u_2.2) (cwV 0 hts gX4_fault_X4_back rfl rfl rfl (by decide +kernel) ⟨Nat.le_of_ble_eq_true rfl, Nat.le_of_ble_eq_true rfl⟩) hKK (z_recv hKK hP (q0 := 0) (ci := 4) rfl rfl) hP hD hS hA rfl hl.1 rfl (Nat.le_of_ble_eq_true rfl) ⟨Nat.zero_le _, Nat.zero_le _⟩ dX4_fault_22 (fun H locs hP hD hS => ?_)
  have hP : va_P G.1 vwCl (modW G a (mrow u_2.1 0 (zMap (u_2.1 0) (u_2.1 2) 511)) u_2.2) H := hP
  have hD : va_D A (modW G a (mrow u_2.1 0 (zMap (u_2.1 0) (u_2.1 2) 511)) u_2.2) := hD
  refine lv_aload_n hx hb dX4_fault_25 rfl (lv_at hl 0 rfl) ?_
  refine va_get (D := G.1) (ci := 4) (v := .int (nI (u_2.2 7))) (C := RX4) (T := TX4) (N := 17) hx hb hts hinX4 hown hKK.1 hP 0 rfl rfl 14 (by decide) fl_156 (fun _ h9 => h9) rfl dX4_fault_26 ?_
  refine z_ifNeq (tgt := 45) hx hb dX4_fault_29 (by decide) (by omega) (fun c_3 => ?_) (fun c_3 => ?_)
  · skip
    refine z_ldc (v' := (-1000004)) hx hb hown ct_99 dX4_fault_45 rfl ?_
    exact z_iretE (mrow u_2.1 0 (zMap (u_2.1 0) (u_2.1 2) 511), u_2.2) hx hb hr hlk hP hD hS dX4_fault_47 rfl ⟨by rw [fl_r hwt hd1]; rw [if_pos (by omega)], hk1⟩
  · skip
    refine lv_iload_n hx hb dX4_fault_32 rfl (lv_at hl 1 rfl) ?_
    refine lv_iconst (v := nI 2) hx hb dX4_fault_33 (by decide) ?_
    refine z_ne (tgt := 48) hx hb dX4_fault_34 (by decide) (by omega) (by omega) (fun c_4 => ?_) (fun c_4 => ?_)
    · skip
      refine lv_iload_n hx hb dX4_fault_48 rfl (lv_at hl 1 rfl) ?_
      refine z_ifNne (tgt := 59) hx hb dX4_fault_49 (by decide) (by omega) (fun c_5 => ?_) (fun c_5 => ?_)
      · skip
        refine lv_iload_n hx hb dX4_fault_59 rfl (lv_at hl 1 rfl) ?_
        refine lv_iconst (v := nI 1) hx hb dX4_fault_60 (by decide) ?_
        refine z_ne (tgt := 71) hx hb dX4_fault_61 (by decide) (by omega) (by omega) (fun c_6 => ?_) (fun c_6 => ?_)
        · skip
          refine lv_aload_n hx hb dX4_fault_71 rfl (lv_at hl 0 rfl) ?_
          refine va_get (D := G.1) (ci := 4) (v := .int (nI (u_2.2 8))) (C := RX4) (T := TX4) (N := 17) hx hb hts hinX4 hown hKK.1 hP 0 rfl rfl 15 (by decide) fl_165 (fun _ h9 => h9) rfl dX4_fault_72 ?_
          exact z_iretE (mrow u_2.1 0 (zMap (u_2.1 0) (u_2.1 2) 511), u_2.2) hx hb hr hlk hP hD hS dX4_fault_75 rfl ⟨by rw [fl_r hwt hd1]; rw [if_neg (by omega), if_neg (by omega), if_neg (by omega)], hk1⟩
        · skip
          refine lv_aload_n hx hb dX4_fault_64 rfl (lv_at hl 0 rfl) ?_
          refine va_get (D := G.1) (ci := 4) (v := .int (nI (u_2.2 7))) (C := RX4) (T := TX4) (N := 17) hx hb hts hinX4 hown hKK.1 hP 0 rfl rfl 14 (by decide) fl_156 (fun _ h9 => h9) rfl dX4_fault_65 ?_
          refine lv_goto (tgt := 75) hx hb dX4_fault_68 (by decide) ?_
          exact z_iretE (mrow u_2.1 0 (zMap (u_2.1 0) (u_2.1 2) 511), u_2.2) hx hb hr hlk hP hD hS dX4_fault_75 rfl ⟨by rw [fl_r hwt hd1]; rw [if_neg (by omega), if_neg (by omega), if_pos (by omega)], hk1⟩
      · skip
        refine lv_aload_n hx hb dX4_fault_52 rfl (lv_at hl 0 rfl) ?_
        refine va_get (D := G.1) (ci := 4) (v := .int (nI (u_2.2 9))) (C := RX4) (T := TX4) (N := 17) hx hb hts hinX4 hown hKK.1 hP 0 rfl rfl 16 (by decide) fl_159 (fun _ h9 => h9) rfl dX4_fault_53 ?_
        refine lv_goto (tgt := 75) hx hb dX4_fault_56 (by decide) ?_
        exact z_iretE (mrow u_2.1 0 (zMap (u_2.1 0) (u_2.1 2) 511), u_2.2) hx hb hr hlk hP hD hS dX4_fault_75 rfl ⟨by rw [fl_r hwt hd1]; rw [if_neg (by omega), if_pos (by omega)], hk1⟩
    · skip
      refine lv_aload_n hx hb dX4_fault_37 rfl (lv_at hl 0 rfl) ?_
      refine va_get (D := G.1) (ci := 4) (v := .int (nI (u_2.2 7))) (C := RX4) (T := TX4) (N := 17) hx hb hts hinX4 hown hKK.1 hP 0 rfl rfl 14 (by decide) fl_156 (fun _ h9 => h9) rfl dX4_fault_38 ?_
      refine lv_iconst (v := nI 3) hx hb dX4_fault_41 (by decide) ?_
      refine z_ne (tgt := 48) hx hb dX4_fault_42 (by decide) (by omega) (by omega) (fun c_7 => ?_) (fun c_7 => ?_)
      · skip
        refine lv_iload_n hx hb dX4_fault_48 rfl (lv_at hl 1 rfl) ?_
        refine z_ifNne (tgt := 59) hx hb dX4_fault_49 (by decide) (by omega) (fun c_8 => ?_) (fun c_8 => ?_)
        · skip
          refine lv_iload_n hx hb dX4_fault_59 rfl (lv_at hl 1 rfl) ?_
          refine lv_iconst (v := nI 1) hx hb dX4_fault_60 (by decide) ?_
          refine z_ne (tgt := 71) hx hb dX4_fault_61 (by decide) (by omega) (by omega) (fun c_9 => ?_) (fun c_9 => ?_)
          · skip
            refine lv_aload_n hx hb dX4_fault_71 rfl (lv_at hl 0 rfl) ?_
            refine va_get (D := G.1) (ci := 4) (v := .int (nI (u_2.2 8))) (C := RX4) (T := TX4) (N := 17) hx hb hts hinX4 hown hKK.1 hP 0 rfl rfl 15 (by decide) fl_165 (fun _ h9 => h9) rfl dX4_fault_72 ?_
            exact z_iretE (mrow u_2.1 0 (zMap (u_2.1 0) (u_2.1 2) 511), u_2.2) hx hb hr hlk hP hD hS dX4_fault_75 rfl ⟨by rw [fl_r hwt hd1]; rw [if_neg (by omega), if_neg (by omega), if_neg (by omega)], hk1⟩
          · skip
            refine lv_aload_n hx hb dX4_fault_64 rfl (lv_at hl 0 rfl) ?_
            refine va_get (D := G.1) (ci := 4) (v := .int (nI (u_2.2 7))) (C := RX4) (T := TX4) (N := 17) hx hb hts hinX4 hown hKK.1 hP 0 rfl rfl 14 (by decide) fl_156 (fun _ h9 => h9) rfl dX4_fault_65 ?_
            refine lv_goto (tgt := 75) hx hb dX4_fault_68 (by decide) ?_
            exact z_iretE (mrow u_2.1 0 (zMap (u_2.1 0) (u_2.1 2) 511), u_2.2) hx hb hr hlk hP hD hS dX4_fault_75 rfl ⟨by rw [fl_r hwt hd1]; rw [if_neg (by omega), if_neg (by omega), if_pos (by omega)], hk1⟩
        · skip
          refine lv_aload_n hx hb dX4_fault_52 rfl (lv_at hl 0 rfl) ?_
          refine va_get (D := G.1) (ci := 4) (v := .int (nI (u_2.2 9))) (C := RX4) (T := TX4) (N := 17) hx hb hts hinX4 hown hKK.1 hP 0 rfl rfl 16 (by decide) fl_159 (fun _ h9 => h9) rfl dX4_fault_53 ?_
          refine lv_goto (tgt := 75) hx hb dX4_fault_56 (by decide) ?_
          exact z_iretE (mrow u_2.1 0 (zMap (u_2.1 0) (u_2.1 2) 511), u_2.2) hx hb hr hlk hP hD hS dX4_fault_75 rfl ⟨by rw [fl_r hwt hd1]; rw [if_neg (by omega), if_pos (by omega)], hk1⟩
      · skip
        refine z_ldc (v' := (-1000004)) hx hb hown ct_99 dX4_fault_45 rfl ?_
        exact z_iretE (mrow u_2.1 0 (zMap (u_2.1 0) (u_2.1 2) 511), u_2.2) hx hb hr hlk hP hD hS dX4_fault_47 rfl ⟨by rw [fl_r hwt hd1]; rw [if_pos (by omega)], hk1⟩

set_option maxHeartbeats 4000000 in
set_option maxRecDepth 100000 in
theorem c_X4_play_no (l : Launch) (G : ZG) (a : Nat → Nat) (v : Mem) (y : Nat → Nat) (w : Mem) (e B : Nat) (hR : RR w (v 0) e B) (hdg : okDg v) (tl : Nat) (hL : y 1 = tl) (hL6 : tl ≤ 60) (hT : okTx (v 3)) (hno : ¬ (daRes v w tl).2.1 = 0) : CIE l G yX4_play wsX4_play (zRm 6 137) [.ref (a 0)] (modW G a v y) (S := Mem × (Nat → Nat)) (fun r u => r = -1000002 ∧ kpt v y u) (fun u => modW G a u.1 u.2) := by
  refine CIE.ent (cc := cX4_play) (maxL := 1) (ty := .int) (own := RX4) (by decide) rfl rfl (Nat.le_of_ble_eq_true rfl) ?_
  intro p ee s m args below meth c A ls F hr hlk hKK hP hD hA hS hl
  obtain ⟨hx, hb, hml, hown, hts⟩ := id F
  have hl : lv_has ls 1 [(0, .ref (a 0))] := hl
  have ct_35 := hts (.constant RX4 35 (-1000002)) (by decide +kernel)
  have fl_156 := hts (.fieldLink RX4 156 "NameRollsModel" "reason" "I") (by decide +kernel)
  have hinX4 : ∀ w ∈ wsX40, w ∈ wsX4_play := by decide +kernel
  refine lv_aload_n hx hb dX4_play_0 rfl (lv_at hl 0 rfl) ?_
  refine z_callVV (As := []) (rest := []) (wr := []) (C := RX4) F (c_X4_lays l G a v y) (cwV 0 hts gX4_play_X4_lays rfl rfl rfl (by decide +kernel) ⟨Nat.le_of_ble_eq_true rfl, Nat.le_of_ble_eq_true rfl⟩) hKK (z_recv hKK hP (q0 := 0) (ci := 4) rfl rfl) hP hD hS hA rfl hl.1 rfl (Nat.le_of_ble_eq_true rfl) ⟨Nat.zero_le _, Nat.zero_le _⟩ dX4_play_1 (fun H locs hP hD hS => ?_)
  have hP : va_P G.1 vwCl (modW G a (laid v) y) H := hP
  have hD : va_D A (modW G a (laid v) y) := hD
  refine lv_aload_n hx hb dX4_play_4 rfl (lv_at hl 0 rfl) ?_
  refine z_callVIE (As := []) (rest := []) (wr := []) (C := RX4) F (c_X4_doesAll l G a (laid v) y w e B (by exact hR) (by exact hdg) tl hL hL6 (by exact hT)) (cwV 0 hts gX4_play_X4_doesAll rfl rfl rfl (by decide +kernel) ⟨Nat.le_of_ble_eq_true rfl, Nat.le_of_ble_eq_true rfl⟩) hKK (z_recv hKK hP (q0 := 0) (ci := 4) rfl rfl) hP hD hS hA rfl hl.1 rfl (Nat.le_of_ble_eq_true rfl) ⟨Nat.zero_le _, Nat.zero_le _⟩ dX4_play_5 (fun r_1 u_1 H locs hq_1 hP hD hS => ?_)
  have hd1 := hq_1
  have hk1 := fp_kpt hd1
  have h73 := hd1.2.2.2.1
  have hP : va_P G.1 vwCl (modW G a u_1.1 u_1.2) H := hP
  have hD : va_D A (modW G a u_1.1 u_1.2) := hD
  refine lv_pop hx hb dX4_play_8 rfl ?_
  refine lv_aload_n hx hb dX4_play_9 rfl (lv_at hl 0 rfl) ?_
  refine z_callVV (As := []) (rest := []) (wr := []) (C := RX4) F (c_X4_back l G a u_1.1 u_1.2) (cwV 0 hts gX4_play_X4_back rfl rfl rfl (by decide +kernel) ⟨Nat.le_of_ble_eq_true rfl, Nat.le_of_ble_eq_true rfl⟩) hKK (z_recv hKK hP (q0 := 0) (ci := 4) rfl rfl) hP hD hS hA rfl hl.1 rfl (Nat.le_of_ble_eq_true rfl) ⟨Nat.zero_le _, Nat.zero_le _⟩ dX4_play_10 (fun H locs hP hD hS => ?_)
  have hP : va_P G.1 vwCl (modW G a (mrow u_1.1 0 (zMap (u_1.1 0) (u_1.1 2) 511)) u_1.2) H := hP
  have hD : va_D A (modW G a (mrow u_1.1 0 (zMap (u_1.1 0) (u_1.1 2) 511)) u_1.2) := hD
  refine lv_aload_n hx hb dX4_play_13 rfl (lv_at hl 0 rfl) ?_
  refine va_get (D := G.1) (ci := 4) (v := .int (nI (u_1.2 7))) (C := RX4) (T := TX4) (N := 17) hx hb hts hinX4 hown hKK.1 hP 0 rfl rfl 14 (by decide) fl_156 (fun _ h9 => h9) rfl dX4_play_14 ?_
  refine z_ifNeq (tgt := 23) hx hb dX4_play_17 (by decide) (by omega) (fun c_2 => absurd (hd1.2.2.1.symm.trans c_2) hno) (fun c_2 => ?_)
  refine z_ldc (v' := (-1000002)) hx hb hown ct_35 dX4_play_20 rfl ?_
  exact z_iretE (mrow u_1.1 0 (zMap (u_1.1 0) (u_1.1 2) 511), u_1.2) hx hb hr hlk hP hD hS dX4_play_22 rfl ⟨rfl, hk1⟩

set_option maxHeartbeats 4000000 in
set_option maxRecDepth 100000 in
theorem c_X4_play_ok (l : Launch) (G : ZG) (a : Nat → Nat) (v : Mem) (y : Nat → Nat) (w : Mem) (e B : Nat) (hR : RR w (v 0) e B) (hdg : okDg v) (tl : Nat) (hL : y 1 = tl) (hL6 : tl ≤ 60) (hT : okTx (v 3)) (hno : (daRes v w tl).2.1 = 0) (s1 : Nat) (hs : y 0 = s1) (hs4 : s1 ≤ 4) : CIE l G yX4_play wsX4_play (zRm 6 137) [.ref (a 0)] (modW G a v y) (S := Mem × (Nat → Nat)) (plPost w v y B tl s1) (fun u => modW G a u.1 u.2) := by
  refine CIE.ent (cc := cX4_play) (maxL := 1) (ty := .int) (own := RX4) (by decide) rfl rfl (Nat.le_of_ble_eq_true rfl) ?_
  intro p ee s m args below meth c A ls F hr hlk hKK hP hD hA hS hl
  obtain ⟨hx, hb, hml, hown, hts⟩ := id F
  have hl : lv_has ls 1 [(0, .ref (a 0))] := hl
  have fl_156 := hts (.fieldLink RX4 156 "NameRollsModel" "reason" "I") (by decide +kernel)
  have hinX4 : ∀ w ∈ wsX40, w ∈ wsX4_play := by decide +kernel
  refine lv_aload_n hx hb dX4_play_0 rfl (lv_at hl 0 rfl) ?_
  refine z_callVV (As := []) (rest := []) (wr := []) (C := RX4) F (c_X4_lays l G a v y) (cwV 0 hts gX4_play_X4_lays rfl rfl rfl (by decide +kernel) ⟨Nat.le_of_ble_eq_true rfl, Nat.le_of_ble_eq_true rfl⟩) hKK (z_recv hKK hP (q0 := 0) (ci := 4) rfl rfl) hP hD hS hA rfl hl.1 rfl (Nat.le_of_ble_eq_true rfl) ⟨Nat.zero_le _, Nat.zero_le _⟩ dX4_play_1 (fun H locs hP hD hS => ?_)
  have hP : va_P G.1 vwCl (modW G a (laid v) y) H := hP
  have hD : va_D A (modW G a (laid v) y) := hD
  refine lv_aload_n hx hb dX4_play_4 rfl (lv_at hl 0 rfl) ?_
  refine z_callVIE (As := []) (rest := []) (wr := []) (C := RX4) F (c_X4_doesAll l G a (laid v) y w e B (by exact hR) (by exact hdg) tl hL hL6 (by exact hT)) (cwV 0 hts gX4_play_X4_doesAll rfl rfl rfl (by decide +kernel) ⟨Nat.le_of_ble_eq_true rfl, Nat.le_of_ble_eq_true rfl⟩) hKK (z_recv hKK hP (q0 := 0) (ci := 4) rfl rfl) hP hD hS hA rfl hl.1 rfl (Nat.le_of_ble_eq_true rfl) ⟨Nat.zero_le _, Nat.zero_le _⟩ dX4_play_5 (fun r_1 u_1 H locs hq_1 hP hD hS => ?_)
  have hd1 := hq_1
  have hk1 := fp_kpt hd1
  have h73 := hd1.2.2.2.1
  have hP : va_P G.1 vwCl (modW G a u_1.1 u_1.2) H := hP
  have hD : va_D A (modW G a u_1.1 u_1.2) := hD
  refine lv_pop hx hb dX4_play_8 rfl ?_
  refine lv_aload_n hx hb dX4_play_9 rfl (lv_at hl 0 rfl) ?_
  refine z_callVV (As := []) (rest := []) (wr := []) (C := RX4) F (c_X4_back l G a u_1.1 u_1.2) (cwV 0 hts gX4_play_X4_back rfl rfl rfl (by decide +kernel) ⟨Nat.le_of_ble_eq_true rfl, Nat.le_of_ble_eq_true rfl⟩) hKK (z_recv hKK hP (q0 := 0) (ci := 4) rfl rfl) hP hD hS hA rfl hl.1 rfl (Nat.le_of_ble_eq_true rfl) ⟨Nat.zero_le _, Nat.zero_le _⟩ dX4_play_10 (fun H locs hP hD hS => ?_)
  have hP : va_P G.1 vwCl (modW G a (mrow u_1.1 0 (zMap (u_1.1 0) (u_1.1 2) 511)) u_1.2) H := hP
  have hD : va_D A (modW G a (mrow u_1.1 0 (zMap (u_1.1 0) (u_1.1 2) 511)) u_1.2) := hD
  refine lv_aload_n hx hb dX4_play_13 rfl (lv_at hl 0 rfl) ?_
  refine va_get (D := G.1) (ci := 4) (v := .int (nI (u_1.2 7))) (C := RX4) (T := TX4) (N := 17) hx hb hts hinX4 hown hKK.1 hP 0 rfl rfl 14 (by decide) fl_156 (fun _ h9 => h9) rfl dX4_play_14 ?_
  refine z_ifNeq (tgt := 23) hx hb dX4_play_17 (by decide) (by omega) (fun c_2 => ?_) (fun c_2 => absurd (hd1.2.2.1.trans hno) c_2)
  refine lv_aload_n hx hb dX4_play_23 rfl (lv_at hl 0 rfl) ?_
  refine z_callVV (As := []) (rest := []) (wr := []) (C := RX4) F (c_X4_saves l G a (mrow u_1.1 0 (zMap (u_1.1 0) (u_1.1 2) 511)) u_1.2 s1 (hk1.2.2.2.2.1.trans hs) hs4) (cwV 0 hts gX4_play_X4_saves rfl rfl rfl (by decide +kernel) ⟨Nat.le_of_ble_eq_true rfl, Nat.le_of_ble_eq_true rfl⟩) hKK (z_recv hKK hP (q0 := 0) (ci := 4) rfl rfl) hP hD hS hA rfl hl.1 rfl (Nat.le_of_ble_eq_true rfl) ⟨Nat.zero_le _, Nat.zero_le _⟩ dX4_play_24 (fun H locs hP hD hS => ?_)
  have hP : va_P G.1 vwCl (modW G a (mrow (mrow u_1.1 0 (zMap (u_1.1 0) (u_1.1 2) 511)) 1 (svR (u_1.1 1) (zMap (u_1.1 0) (u_1.1 2) 511) s1)) (nup u_1.2 0 (svN s1))) H := hP
  have hD : va_D A (modW G a (mrow (mrow u_1.1 0 (zMap (u_1.1 0) (u_1.1 2) 511)) 1 (svR (u_1.1 1) (zMap (u_1.1 0) (u_1.1 2) 511) s1)) (nup u_1.2 0 (svN s1))) := hD
  refine lv_aload_n hx hb dX4_play_27 rfl (lv_at hl 0 rfl) ?_
  have hF : ∀ x, x < 511 → zMap (u_1.1 0) (u_1.1 2) 511 x = v 0 x := hk1.1
  have hR3 : RR w (zMap (u_1.1 0) (u_1.1 2) 511) e B := ⟨hR.1, hR.2.1, RE_cong hR.2.2 hF⟩
  have hdg3 : okDg (mrow (mrow u_1.1 0 (zMap (u_1.1 0) (u_1.1 2) 511)) 1 (svR (u_1.1 1) (zMap (u_1.1 0) (u_1.1 2) 511) s1)) := hk1.2.2.2.1
  have hL3 : (nup u_1.2 0 (svN s1)) 1 = tl := hk1.2.2.2.2.2.trans hL
  have h33 : (mrow (mrow u_1.1 0 (zMap (u_1.1 0) (u_1.1 2) 511)) 1 (svR (u_1.1 1) (zMap (u_1.1 0) (u_1.1 2) 511) s1)) 3 = v 3 := hk1.2.2.1
  have hT3 : okTx ((mrow (mrow u_1.1 0 (zMap (u_1.1 0) (u_1.1 2) 511)) 1 (svR (u_1.1 1) (zMap (u_1.1 0) (u_1.1 2) 511) s1)) 3) := by rw [h33]; exact hT
  refine z_callVIE (As := []) (rest := []) (wr := []) (C := RX4) F (c_X4_doesAll l G a (mrow (mrow u_1.1 0 (zMap (u_1.1 0) (u_1.1 2) 511)) 1 (svR (u_1.1 1) (zMap (u_1.1 0) (u_1.1 2) 511) s1)) (nup u_1.2 0 (svN s1)) w e B hR3 hdg3 tl hL3 hL6 hT3) (cwV 0 hts gX4_play_X4_doesAll rfl rfl rfl (by decide +kernel) ⟨Nat.le_of_ble_eq_true rfl, Nat.le_of_ble_eq_true rfl⟩) hKK (z_recv hKK hP (q0 := 0) (ci := 4) rfl rfl) hP hD hS hA rfl hl.1 rfl (Nat.le_of_ble_eq_true rfl) ⟨Nat.zero_le _, Nat.zero_le _⟩ dX4_play_28 (fun r_3 u_3 H locs hq_3 hP hD hS => ?_)
  have hd2 := hq_3
  have hP : va_P G.1 vwCl (modW G a u_3.1 u_3.2) H := hP
  have hD : va_D A (modW G a u_3.1 u_3.2) := hD
  exact z_iretE u_3 hx hb hr hlk hP hD hS dX4_play_31 rfl (pl_mk hk1 h33 hd2)
