set_option maxHeartbeats 4000000 in
set_option maxRecDepth 100000 in
theorem c_X4_wrong_x (l : Launch) (G : ZG) (a : Nat → Nat) (v : Mem) (y : Nat → Nat) (d0 : Nat) (hd0 : d0 < 10) (h0 : v 6 0 = nI d0) : CI l G yX4_wrong wsX4_wrong (zRm 0 0) [.ref (a 0), .int (nI 33)] (modW G a v y) (rngI (rngF 33 d0 0 0)) (modW G a v y) := by
  refine CI.ent (cc := cX4_wrong) (maxL := 2) (ty := .int) (own := RX4) (by decide) rfl rfl (Nat.le_of_ble_eq_true rfl) ?_
  intro p ee s m args below meth c A ls F hr hlk hKK hP hD hA hS hl
  obtain ⟨hx, hb, hml, hown, hts⟩ := id F
  have hl : lv_has ls 2 [(0, .ref (a 0)), (1, .int (nI 33))] := hl
  have fl_28 := hts (.fieldLink RX4 28 "NameRollsModel" "digits" "[I") (by decide +kernel)
  have hinX4 : ∀ w ∈ wsX40, w ∈ wsX4_wrong := by decide +kernel
  refine lv_iload_n hx hb dX4_wrong_0 rfl (lv_at hl 1 rfl) ?_
  refine lv_bipush (v := nI 33) hx hb dX4_wrong_1 (by decide) ?_
  refine z_ne (tgt := 22) hx hb dX4_wrong_3 (by decide) (by omega) (by omega) (fun c_1 => absurd rfl c_1) (fun c_1 => ?_)
  refine lv_aload_n hx hb dX4_wrong_6 rfl (lv_at hl 0 rfl) ?_
  refine va_get (D := G.1) (ci := 4) (v := .ref (a 7)) (C := RX4) (T := TX4) (N := 17) hx hb hts hinX4 hown hKK.1 hP 0 rfl rfl 13 (by decide) fl_28 (fun _ h9 => h9) rfl dX4_wrong_7 ?_
  refine lv_iconst (v := nI 0) hx hb dX4_wrong_10 (by decide) ?_
  refine z_iald (n := 2) (f := v 6) (v := v 6 0) hx hb hKK hP 7 rfl (by omega) (by decide) rfl dX4_wrong_11 ?_
  refine z_top (v := nI d0) h0 ?_
  refine lv_iconst (v := nI 2) hx hb dX4_wrong_12 (by decide) ?_
  refine z_le (tgt := 20) hx hb dX4_wrong_13 (by decide) (by omega) (by omega) (fun c_2 => ?_) (fun c_2 => ?_)
  · skip
    refine lv_iconst (v := (-1)) hx hb dX4_wrong_20 (by decide) ?_
    exact z_iret hx hb hr hlk hP hD hS dX4_wrong_21 (by rw [rngF, if_pos rfl, if_neg (by omega)]; rfl) rfl
  · skip
    refine lv_iconst (v := nI 2) hx hb dX4_wrong_16 (by decide) ?_
    refine lv_goto (tgt := 21) hx hb dX4_wrong_17 (by decide) ?_
    exact z_iret hx hb hr hlk hP hD hS dX4_wrong_21 (by rw [rngF, if_pos rfl, if_pos c_2]; rfl) rfl

set_option maxHeartbeats 4000000 in
set_option maxRecDepth 100000 in
theorem c_X4_does_xok (l : Launch) (G : ZG) (a : Nat → Nat) (v : Mem) (y : Nat → Nat) (ρ : Nat) (hρ : ρ ≤ 2) (hN : okNm (rN (v 0))) (hI : injN (rN (v 0))) (hcl : okCl (v 0)) (h6 : v 6 0 = nI ρ) (h0 : ¬ nI 999 ≤ v 0 0) : CIE l G yX4_does wsX4_does (zRm 4 92) [.ref (a 0), .int (nI 33)] (modW G a v y) (S := (Nat → Int32) × (Nat → Int32) × (Nat → Int32)) (fun r u => cmpPost (v 0) ρ u.1 ∧ r = nI 1) (fun u => modW G a (mrow (mrow (mrow v 0 u.1) 4 u.2.1) 5 u.2.2) (nup y 2 (cntA (v 0)))) := by
  refine CIE.ent (cc := cX4_does) (maxL := 4) (ty := .boolean) (own := RX4) (by decide) rfl rfl (Nat.le_of_ble_eq_true rfl) ?_
  intro p ee s m args below meth c A ls F hr hlk hKK hP hD hA hS hl
  obtain ⟨hx, hb, hml, hown, hts⟩ := id F
  have hl : lv_has ls 4 [(0, .ref (a 0)), (1, .int (nI 33))] := hl
  have fl_7 := hts (.fieldLink RX4 7 "NameRollsModel" "now" "[I") (by decide +kernel)
  have fl_28 := hts (.fieldLink RX4 28 "NameRollsModel" "digits" "[I") (by decide +kernel)
  have fl_143 := hts (.fieldLink RX4 143 "NameRollsModel" "word" "I") (by decide +kernel)
  have hinX4 : ∀ w ∈ wsX40, w ∈ wsX4_does := by decide +kernel
  refine lv_aload_n hx hb dX4_does_0 rfl (lv_at hl 0 rfl) ?_
  refine lv_aload_n hx hb dX4_does_1 rfl (lv_at hl 0 rfl) ?_
  refine va_get (D := G.1) (ci := 4) (v := .int (nI (y 6))) (C := RX4) (T := TX4) (N := 17) hx hb hts hinX4 hown hKK.1 hP 0 rfl rfl 12 (by decide) fl_143 (fun _ h9 => h9) rfl dX4_does_2 ?_
  refine z_callVI (As := [.int (nI (y 6))]) (rest := []) (wr := []) (C := RX4) F (c_X4_numberWith l G a v y (nI (y 6))) (cwV 1 hts gX4_does_X4_numberWith rfl rfl rfl (by decide +kernel) ⟨Nat.le_of_ble_eq_true rfl, Nat.le_of_ble_eq_true rfl⟩) hKK (z_recv hKK hP (q0 := 0) (ci := 4) rfl rfl) hP hD hS hA rfl hl.1 rfl (Nat.le_of_ble_eq_true rfl) ⟨Nat.zero_le _, Nat.zero_le _⟩ dX4_does_5 (fun H locs hP hD hS => ?_)
  have hP : va_P G.1 vwCl (modW G a v y) H := hP
  have hD : va_D A (modW G a v y) := hD
  refine lv_istore_n (lv' := [(2, .int (zNum (rN (v 0)) (nI (y 6)))), (0, .ref (a 0)), (1, .int (nI 33))]) hx hb dX4_does_8 rfl hl (by decide) rfl (fun ls hl => ?_)
  refine lv_iload_n hx hb dX4_does_9 rfl (lv_at hl 2 rfl) ?_
  refine lv_bipush (v := nI 33) hx hb dX4_does_10 (by decide) ?_
  refine z_ne (tgt := 50) hx hb dX4_does_12 (by decide) (by omega) (by omega) (fun c_1 => absurd rfl c_1) (fun c_1 => ?_)
  refine lv_aload_n hx hb dX4_does_15 rfl (lv_at hl 1 rfl) ?_
  refine va_get (D := G.1) (ci := 4) (v := .ref (a 1)) (C := RX4) (T := TX4) (N := 17) hx hb hts hinX4 hown hKK.1 hP 0 rfl rfl 0 (by decide) fl_7 (fun _ h9 => h9) rfl dX4_does_16 ?_
  refine lv_iconst (v := nI 0) hx hb dX4_does_19 (by decide) ?_
  refine z_iald (n := 511) (f := v 0) (v := v 0 0) hx hb hKK hP 1 rfl (by omega) (by decide) rfl dX4_does_20 ?_
  refine lv_sipush (v := nI 999) hx hb dX4_does_21 (by decide) ?_
  refine lv_icmp_ge (tgt := 31) hx hb dX4_does_24 (by decide) (fun c_2 => absurd c_2 h0) (fun c_2 => ?_)
  refine lv_iconst (v := nI 1) hx hb dX4_does_27 (by decide) ?_
  refine lv_goto (tgt := 32) hx hb dX4_does_28 (by decide) ?_
  refine lv_istore_n (lv' := [(3, .int (nI 1)), (2, .int (zNum (rN (v 0)) (nI (y 6)))), (0, .ref (a 0)), (1, .int (nI 33))]) hx hb dX4_does_32 rfl hl (by decide) rfl (fun ls hl => ?_)
  refine lv_iload_n hx hb dX4_does_33 rfl (lv_at hl 0 rfl) ?_
  refine z_ifNeq (tgt := 48) hx hb dX4_does_34 (by decide) (by omega) (fun c_3 => absurd c_3 (by decide)) (fun c_3 => ?_)
  refine lv_aload_n hx hb dX4_does_37 rfl (lv_at hl 2 rfl) ?_
  refine lv_aload_n hx hb dX4_does_38 rfl (lv_at hl 2 rfl) ?_
  refine va_get (D := G.1) (ci := 4) (v := .ref (a 7)) (C := RX4) (T := TX4) (N := 17) hx hb hts hinX4 hown hKK.1 hP 0 rfl rfl 13 (by decide) fl_28 (fun _ h9 => h9) rfl dX4_does_39 ?_
  refine lv_iconst (v := nI 0) hx hb dX4_does_42 (by decide) ?_
  refine z_iald (n := 2) (f := v 6) (v := v 6 0) hx hb hKK hP 7 rfl (by omega) (by decide) rfl dX4_does_43 ?_
  refine z_top (v := nI ρ) h6 ?_
  refine z_callVIE (As := [.int (nI ρ)]) (rest := []) (wr := []) (C := RX4) F (c_X4_compacts l G a v y ρ hρ hN hI hcl) (cwV 1 hts gX4_does_X4_compacts rfl rfl rfl (by decide +kernel) ⟨Nat.le_of_ble_eq_true rfl, Nat.le_of_ble_eq_true rfl⟩) hKK (z_recv hKK hP (q0 := 0) (ci := 4) rfl rfl) hP hD hS hA rfl hl.1 rfl (Nat.le_of_ble_eq_true rfl) ⟨Nat.zero_le _, Nat.zero_le _⟩ dX4_does_44 (fun r_4 u_4 H locs hq_4 hP hD hS => ?_)
  obtain ⟨hq1_4, hq2_4⟩ := hq_4
  have hP : va_P G.1 vwCl (modW G a (mrow (mrow (mrow v 0 u_4.1) 4 u_4.2.1) 5 u_4.2.2) (nup y 2 (cntA (v 0)))) H := hP
  have hD : va_D A (modW G a (mrow (mrow (mrow v 0 u_4.1) 4 u_4.2.1) 5 u_4.2.2) (nup y 2 (cntA (v 0)))) := hD
  refine lv_pop hx hb dX4_does_47 rfl ?_
  refine lv_iload_n hx hb dX4_does_48 rfl (lv_at hl 0 rfl) ?_
  exact z_iretE u_4 hx hb hr hlk hP hD hS dX4_does_49 (by decide) ⟨hq1_4, rfl⟩

set_option maxHeartbeats 4000000 in
set_option maxRecDepth 100000 in
theorem c_X4_does_xno (l : Launch) (G : ZG) (a : Nat → Nat) (v : Mem) (y : Nat → Nat) (h0 : nI 999 ≤ v 0 0) : CI l G yX4_does wsX4_does (zRm 4 92) [.ref (a 0), .int (nI 33)] (modW G a v y) (bI (false)) (modW G a v y) := by
  refine CI.ent (cc := cX4_does) (maxL := 4) (ty := .boolean) (own := RX4) (by decide) rfl rfl (Nat.le_of_ble_eq_true rfl) ?_
  intro p ee s m args below meth c A ls F hr hlk hKK hP hD hA hS hl
  obtain ⟨hx, hb, hml, hown, hts⟩ := id F
  have hl : lv_has ls 4 [(0, .ref (a 0)), (1, .int (nI 33))] := hl
  have fl_7 := hts (.fieldLink RX4 7 "NameRollsModel" "now" "[I") (by decide +kernel)
  have fl_143 := hts (.fieldLink RX4 143 "NameRollsModel" "word" "I") (by decide +kernel)
  have hinX4 : ∀ w ∈ wsX40, w ∈ wsX4_does := by decide +kernel
  refine lv_aload_n hx hb dX4_does_0 rfl (lv_at hl 0 rfl) ?_
  refine lv_aload_n hx hb dX4_does_1 rfl (lv_at hl 0 rfl) ?_
  refine va_get (D := G.1) (ci := 4) (v := .int (nI (y 6))) (C := RX4) (T := TX4) (N := 17) hx hb hts hinX4 hown hKK.1 hP 0 rfl rfl 12 (by decide) fl_143 (fun _ h9 => h9) rfl dX4_does_2 ?_
  refine z_callVI (As := [.int (nI (y 6))]) (rest := []) (wr := []) (C := RX4) F (c_X4_numberWith l G a v y (nI (y 6))) (cwV 1 hts gX4_does_X4_numberWith rfl rfl rfl (by decide +kernel) ⟨Nat.le_of_ble_eq_true rfl, Nat.le_of_ble_eq_true rfl⟩) hKK (z_recv hKK hP (q0 := 0) (ci := 4) rfl rfl) hP hD hS hA rfl hl.1 rfl (Nat.le_of_ble_eq_true rfl) ⟨Nat.zero_le _, Nat.zero_le _⟩ dX4_does_5 (fun H locs hP hD hS => ?_)
  have hP : va_P G.1 vwCl (modW G a v y) H := hP
  have hD : va_D A (modW G a v y) := hD
  refine lv_istore_n (lv' := [(2, .int (zNum (rN (v 0)) (nI (y 6)))), (0, .ref (a 0)), (1, .int (nI 33))]) hx hb dX4_does_8 rfl hl (by decide) rfl (fun ls hl => ?_)
  refine lv_iload_n hx hb dX4_does_9 rfl (lv_at hl 2 rfl) ?_
  refine lv_bipush (v := nI 33) hx hb dX4_does_10 (by decide) ?_
  refine z_ne (tgt := 50) hx hb dX4_does_12 (by decide) (by omega) (by omega) (fun c_1 => absurd rfl c_1) (fun c_1 => ?_)
  refine lv_aload_n hx hb dX4_does_15 rfl (lv_at hl 1 rfl) ?_
  refine va_get (D := G.1) (ci := 4) (v := .ref (a 1)) (C := RX4) (T := TX4) (N := 17) hx hb hts hinX4 hown hKK.1 hP 0 rfl rfl 0 (by decide) fl_7 (fun _ h9 => h9) rfl dX4_does_16 ?_
  refine lv_iconst (v := nI 0) hx hb dX4_does_19 (by decide) ?_
  refine z_iald (n := 511) (f := v 0) (v := v 0 0) hx hb hKK hP 1 rfl (by omega) (by decide) rfl dX4_does_20 ?_
  refine lv_sipush (v := nI 999) hx hb dX4_does_21 (by decide) ?_
  refine lv_icmp_ge (tgt := 31) hx hb dX4_does_24 (by decide) (fun c_2 => ?_) (fun c_2 => absurd h0 c_2)
  refine lv_iconst (v := nI 0) hx hb dX4_does_31 (by decide) ?_
  refine lv_istore_n (lv' := [(3, .int (nI 0)), (2, .int (zNum (rN (v 0)) (nI (y 6)))), (0, .ref (a 0)), (1, .int (nI 33))]) hx hb dX4_does_32 rfl hl (by decide) rfl (fun ls hl => ?_)
  refine lv_iload_n hx hb dX4_does_33 rfl (lv_at hl 0 rfl) ?_
  refine z_ifNeq (tgt := 48) hx hb dX4_does_34 (by decide) (by omega) (fun c_3 => ?_) (fun c_3 => absurd c_3 (by decide))
  refine lv_iload_n hx hb dX4_does_48 rfl (lv_at hl 0 rfl) ?_
  exact z_zret hx hb hr hlk hP hD hS dX4_does_49 (by decide) rfl rfl

set_option maxHeartbeats 4000000 in
set_option maxRecDepth 100000 in
theorem c_X4_does_pfull (l : Launch) (G : ZG) (a : Nat → Nat) (v : Mem) (y : Nat → Nat) (n : Nat) (hn : n < 40) (h : zNum (rN (v 0)) (nI (y 6)) = nI n) (hu : nI 999 ≤ v 0 (44 + n)) : CI l G yX4_does wsX4_does (zRm 4 92) [.ref (a 0), .int (nI 43)] (modW G a v y) (bI (false)) (modW G a v y) := by
  refine CI.ent (cc := cX4_does) (maxL := 4) (ty := .boolean) (own := RX4) (by decide) rfl rfl (Nat.le_of_ble_eq_true rfl) ?_
  intro p ee s m args below meth c A ls F hr hlk hKK hP hD hA hS hl
  obtain ⟨hx, hb, hml, hown, hts⟩ := id F
  have hl : lv_has ls 4 [(0, .ref (a 0)), (1, .int (nI 43))] := hl
  have fl_143 := hts (.fieldLink RX4 143 "NameRollsModel" "word" "I") (by decide +kernel)
  have hinX4 : ∀ w ∈ wsX40, w ∈ wsX4_does := by decide +kernel
  refine lv_aload_n hx hb dX4_does_0 rfl (lv_at hl 0 rfl) ?_
  refine lv_aload_n hx hb dX4_does_1 rfl (lv_at hl 0 rfl) ?_
  refine va_get (D := G.1) (ci := 4) (v := .int (nI (y 6))) (C := RX4) (T := TX4) (N := 17) hx hb hts hinX4 hown hKK.1 hP 0 rfl rfl 12 (by decide) fl_143 (fun _ h9 => h9) rfl dX4_does_2 ?_
  refine z_callVI (As := [.int (nI (y 6))]) (rest := []) (wr := []) (C := RX4) F (c_X4_numberWith l G a v y (nI (y 6))) (cwV 1 hts gX4_does_X4_numberWith rfl rfl rfl (by decide +kernel) ⟨Nat.le_of_ble_eq_true rfl, Nat.le_of_ble_eq_true rfl⟩) hKK (z_recv hKK hP (q0 := 0) (ci := 4) rfl rfl) hP hD hS hA rfl hl.1 rfl (Nat.le_of_ble_eq_true rfl) ⟨Nat.zero_le _, Nat.zero_le _⟩ dX4_does_5 (fun H locs hP hD hS => ?_)
  have hP : va_P G.1 vwCl (modW G a v y) H := hP
  have hD : va_D A (modW G a v y) := hD
  refine lv_istore_n (lv' := [(2, .int (zNum (rN (v 0)) (nI (y 6)))), (0, .ref (a 0)), (1, .int (nI 43))]) hx hb dX4_does_8 rfl hl (by decide) rfl (fun ls hl => ?_)
  refine lv_iload_n hx hb dX4_does_9 rfl (lv_at hl 2 rfl) ?_
  refine lv_bipush (v := nI 33) hx hb dX4_does_10 (by decide) ?_
  refine z_ne (tgt := 50) hx hb dX4_does_12 (by decide) (by omega) (by omega) (fun c_1 => ?_) (fun c_1 => absurd c_1 (by decide))
  refine lv_iload_n hx hb dX4_does_50 rfl (lv_at hl 2 rfl) ?_
  refine lv_bipush (v := nI 43) hx hb dX4_does_51 (by decide) ?_
  refine z_ne (tgt := 80) hx hb dX4_does_53 (by decide) (by omega) (by omega) (fun c_2 => absurd rfl c_2) (fun c_2 => ?_)
  refine lv_aload_n hx hb dX4_does_56 rfl (lv_at hl 1 rfl) ?_
  refine lv_aload_n hx hb dX4_does_57 rfl (lv_at hl 1 rfl) ?_
  refine va_get (D := G.1) (ci := 4) (v := .int (nI (y 6))) (C := RX4) (T := TX4) (N := 17) hx hb hts hinX4 hown hKK.1 hP 0 rfl rfl 12 (by decide) fl_143 (fun _ h9 => h9) rfl dX4_does_58 ?_
  refine z_callVI (As := [.int (nI (y 6))]) (rest := []) (wr := []) (C := RX4) F (c_X4_canAcquire_old l G a v y (nI (y 6)) n hn h) (cwV 1 hts gX4_does_X4_canAcquire rfl rfl rfl (by decide +kernel) ⟨Nat.le_of_ble_eq_true rfl, Nat.le_of_ble_eq_true rfl⟩) hKK (z_recv hKK hP (q0 := 0) (ci := 4) rfl rfl) hP hD hS hA rfl hl.1 rfl (Nat.le_of_ble_eq_true rfl) ⟨Nat.zero_le _, Nat.zero_le _⟩ dX4_does_61 (fun H locs hP hD hS => ?_)
  have hP : va_P G.1 vwCl (modW G a v y) H := hP
  have hD : va_D A (modW G a v y) := hD
  refine z_top (v := bI (false)) (by rw [decide_eq_false (fun q => q hu)]) ?_
  refine lv_istore_n (lv' := [(3, .int (bI (false))), (2, .int (zNum (rN (v 0)) (nI (y 6)))), (0, .ref (a 0)), (1, .int (nI 43))]) hx hb dX4_does_64 rfl hl (by decide) rfl (fun ls hl => ?_)
  refine lv_iload_n hx hb dX4_does_65 rfl (lv_at hl 0 rfl) ?_
  refine z_ifBeq (tgt := 78) hx hb dX4_does_66 (by decide) (fun c_3 => ?_) (fun c_3 => absurd c_3 (by decide))
  refine lv_iload_n hx hb dX4_does_78 rfl (lv_at hl 0 rfl) ?_
  exact z_zret hx hb hr hlk hP hD hS dX4_does_79 (bI_nar _) rfl rfl

set_option maxHeartbeats 4000000 in
set_option maxRecDepth 100000 in
theorem c_X4_does_pno (l : Launch) (G : ZG) (a : Nat → Nat) (v : Mem) (y : Nat → Nat) (h : zNum (rN (v 0)) (nI (y 6)) = -1) (h2 : zNum (rN (v 0)) (nI 0) = -1) : CI l G yX4_does wsX4_does (zRm 4 92) [.ref (a 0), .int (nI 43)] (modW G a v y) (bI (false)) (modW G a v y) := by
  refine CI.ent (cc := cX4_does) (maxL := 4) (ty := .boolean) (own := RX4) (by decide) rfl rfl (Nat.le_of_ble_eq_true rfl) ?_
  intro p ee s m args below meth c A ls F hr hlk hKK hP hD hA hS hl
  obtain ⟨hx, hb, hml, hown, hts⟩ := id F
  have hl : lv_has ls 4 [(0, .ref (a 0)), (1, .int (nI 43))] := hl
  have fl_143 := hts (.fieldLink RX4 143 "NameRollsModel" "word" "I") (by decide +kernel)
  have hinX4 : ∀ w ∈ wsX40, w ∈ wsX4_does := by decide +kernel
  refine lv_aload_n hx hb dX4_does_0 rfl (lv_at hl 0 rfl) ?_
  refine lv_aload_n hx hb dX4_does_1 rfl (lv_at hl 0 rfl) ?_
  refine va_get (D := G.1) (ci := 4) (v := .int (nI (y 6))) (C := RX4) (T := TX4) (N := 17) hx hb hts hinX4 hown hKK.1 hP 0 rfl rfl 12 (by decide) fl_143 (fun _ h9 => h9) rfl dX4_does_2 ?_
  refine z_callVI (As := [.int (nI (y 6))]) (rest := []) (wr := []) (C := RX4) F (c_X4_numberWith l G a v y (nI (y 6))) (cwV 1 hts gX4_does_X4_numberWith rfl rfl rfl (by decide +kernel) ⟨Nat.le_of_ble_eq_true rfl, Nat.le_of_ble_eq_true rfl⟩) hKK (z_recv hKK hP (q0 := 0) (ci := 4) rfl rfl) hP hD hS hA rfl hl.1 rfl (Nat.le_of_ble_eq_true rfl) ⟨Nat.zero_le _, Nat.zero_le _⟩ dX4_does_5 (fun H locs hP hD hS => ?_)
  have hP : va_P G.1 vwCl (modW G a v y) H := hP
  have hD : va_D A (modW G a v y) := hD
  refine lv_istore_n (lv' := [(2, .int (zNum (rN (v 0)) (nI (y 6)))), (0, .ref (a 0)), (1, .int (nI 43))]) hx hb dX4_does_8 rfl hl (by decide) rfl (fun ls hl => ?_)
  refine lv_iload_n hx hb dX4_does_9 rfl (lv_at hl 2 rfl) ?_
  refine lv_bipush (v := nI 33) hx hb dX4_does_10 (by decide) ?_
  refine z_ne (tgt := 50) hx hb dX4_does_12 (by decide) (by omega) (by omega) (fun c_1 => ?_) (fun c_1 => absurd c_1 (by decide))
  refine lv_iload_n hx hb dX4_does_50 rfl (lv_at hl 2 rfl) ?_
  refine lv_bipush (v := nI 43) hx hb dX4_does_51 (by decide) ?_
  refine z_ne (tgt := 80) hx hb dX4_does_53 (by decide) (by omega) (by omega) (fun c_2 => absurd rfl c_2) (fun c_2 => ?_)
  refine lv_aload_n hx hb dX4_does_56 rfl (lv_at hl 1 rfl) ?_
  refine lv_aload_n hx hb dX4_does_57 rfl (lv_at hl 1 rfl) ?_
  refine va_get (D := G.1) (ci := 4) (v := .int (nI (y 6))) (C := RX4) (T := TX4) (N := 17) hx hb hts hinX4 hown hKK.1 hP 0 rfl rfl 12 (by decide) fl_143 (fun _ h9 => h9) rfl dX4_does_58 ?_
  refine z_callVI (As := [.int (nI (y 6))]) (rest := []) (wr := []) (C := RX4) F (c_X4_canAcquire_no l G a v y (nI (y 6)) h h2) (cwV 1 hts gX4_does_X4_canAcquire rfl rfl rfl (by decide +kernel) ⟨Nat.le_of_ble_eq_true rfl, Nat.le_of_ble_eq_true rfl⟩) hKK (z_recv hKK hP (q0 := 0) (ci := 4) rfl rfl) hP hD hS hA rfl hl.1 rfl (Nat.le_of_ble_eq_true rfl) ⟨Nat.zero_le _, Nat.zero_le _⟩ dX4_does_61 (fun H locs hP hD hS => ?_)
  have hP : va_P G.1 vwCl (modW G a v y) H := hP
  have hD : va_D A (modW G a v y) := hD
  refine lv_istore_n (lv' := [(3, .int (bI (false))), (2, .int (zNum (rN (v 0)) (nI (y 6)))), (0, .ref (a 0)), (1, .int (nI 43))]) hx hb dX4_does_64 rfl hl (by decide) rfl (fun ls hl => ?_)
  refine lv_iload_n hx hb dX4_does_65 rfl (lv_at hl 0 rfl) ?_
  refine z_ifBeq (tgt := 78) hx hb dX4_does_66 (by decide) (fun c_3 => ?_) (fun c_3 => absurd c_3 (by decide))
  refine lv_iload_n hx hb dX4_does_78 rfl (lv_at hl 0 rfl) ?_
  exact z_zret hx hb hr hlk hP hD hS dX4_does_79 (bI_nar _) rfl rfl

set_option maxHeartbeats 4000000 in
set_option maxRecDepth 100000 in
theorem c_X4_does_pold (l : Launch) (G : ZG) (a : Nat → Nat) (v : Mem) (y : Nat → Nat) (n : Nat) (hn : n < 40) (h : zNum (rN (v 0)) (nI (y 6)) = nI n) (hu : ¬ nI 999 ≤ v 0 (44 + n)) : CI l G yX4_does wsX4_does (zRm 4 92) [.ref (a 0), .int (nI 43)] (modW G a v y) (bI (true)) (modW G a (mrow v 0 (mEntO (v 0) n)) y) := by
  refine CI.ent (cc := cX4_does) (maxL := 4) (ty := .boolean) (own := RX4) (by decide) rfl rfl (Nat.le_of_ble_eq_true rfl) ?_
  intro p ee s m args below meth c A ls F hr hlk hKK hP hD hA hS hl
  obtain ⟨hx, hb, hml, hown, hts⟩ := id F
  have hl : lv_has ls 4 [(0, .ref (a 0)), (1, .int (nI 43))] := hl
  have fl_143 := hts (.fieldLink RX4 143 "NameRollsModel" "word" "I") (by decide +kernel)
  have hinX4 : ∀ w ∈ wsX40, w ∈ wsX4_does := by decide +kernel
  refine lv_aload_n hx hb dX4_does_0 rfl (lv_at hl 0 rfl) ?_
  refine lv_aload_n hx hb dX4_does_1 rfl (lv_at hl 0 rfl) ?_
  refine va_get (D := G.1) (ci := 4) (v := .int (nI (y 6))) (C := RX4) (T := TX4) (N := 17) hx hb hts hinX4 hown hKK.1 hP 0 rfl rfl 12 (by decide) fl_143 (fun _ h9 => h9) rfl dX4_does_2 ?_
  refine z_callVI (As := [.int (nI (y 6))]) (rest := []) (wr := []) (C := RX4) F (c_X4_numberWith l G a v y (nI (y 6))) (cwV 1 hts gX4_does_X4_numberWith rfl rfl rfl (by decide +kernel) ⟨Nat.le_of_ble_eq_true rfl, Nat.le_of_ble_eq_true rfl⟩) hKK (z_recv hKK hP (q0 := 0) (ci := 4) rfl rfl) hP hD hS hA rfl hl.1 rfl (Nat.le_of_ble_eq_true rfl) ⟨Nat.zero_le _, Nat.zero_le _⟩ dX4_does_5 (fun H locs hP hD hS => ?_)
  have hP : va_P G.1 vwCl (modW G a v y) H := hP
  have hD : va_D A (modW G a v y) := hD
  refine lv_istore_n (lv' := [(2, .int (zNum (rN (v 0)) (nI (y 6)))), (0, .ref (a 0)), (1, .int (nI 43))]) hx hb dX4_does_8 rfl hl (by decide) rfl (fun ls hl => ?_)
  refine lv_iload_n hx hb dX4_does_9 rfl (lv_at hl 2 rfl) ?_
  refine lv_bipush (v := nI 33) hx hb dX4_does_10 (by decide) ?_
  refine z_ne (tgt := 50) hx hb dX4_does_12 (by decide) (by omega) (by omega) (fun c_1 => ?_) (fun c_1 => absurd c_1 (by decide))
  refine lv_iload_n hx hb dX4_does_50 rfl (lv_at hl 2 rfl) ?_
  refine lv_bipush (v := nI 43) hx hb dX4_does_51 (by decide) ?_
  refine z_ne (tgt := 80) hx hb dX4_does_53 (by decide) (by omega) (by omega) (fun c_2 => absurd rfl c_2) (fun c_2 => ?_)
  refine lv_aload_n hx hb dX4_does_56 rfl (lv_at hl 1 rfl) ?_
  refine lv_aload_n hx hb dX4_does_57 rfl (lv_at hl 1 rfl) ?_
  refine va_get (D := G.1) (ci := 4) (v := .int (nI (y 6))) (C := RX4) (T := TX4) (N := 17) hx hb hts hinX4 hown hKK.1 hP 0 rfl rfl 12 (by decide) fl_143 (fun _ h9 => h9) rfl dX4_does_58 ?_
  refine z_callVI (As := [.int (nI (y 6))]) (rest := []) (wr := []) (C := RX4) F (c_X4_canAcquire_old l G a v y (nI (y 6)) n hn h) (cwV 1 hts gX4_does_X4_canAcquire rfl rfl rfl (by decide +kernel) ⟨Nat.le_of_ble_eq_true rfl, Nat.le_of_ble_eq_true rfl⟩) hKK (z_recv hKK hP (q0 := 0) (ci := 4) rfl rfl) hP hD hS hA rfl hl.1 rfl (Nat.le_of_ble_eq_true rfl) ⟨Nat.zero_le _, Nat.zero_le _⟩ dX4_does_61 (fun H locs hP hD hS => ?_)
  have hP : va_P G.1 vwCl (modW G a v y) H := hP
  have hD : va_D A (modW G a v y) := hD
  refine z_top (v := bI (true)) (by rw [decide_eq_true hu]) ?_
  refine lv_istore_n (lv' := [(3, .int (bI (true))), (2, .int (zNum (rN (v 0)) (nI (y 6)))), (0, .ref (a 0)), (1, .int (nI 43))]) hx hb dX4_does_64 rfl hl (by decide) rfl (fun ls hl => ?_)
  refine lv_iload_n hx hb dX4_does_65 rfl (lv_at hl 0 rfl) ?_
  refine z_ifBeq (tgt := 78) hx hb dX4_does_66 (by decide) (fun c_3 => absurd c_3 (by decide)) (fun c_3 => ?_)
  refine lv_aload_n hx hb dX4_does_69 rfl (lv_at hl 2 rfl) ?_
  refine lv_aload_n hx hb dX4_does_70 rfl (lv_at hl 2 rfl) ?_
  refine va_get (D := G.1) (ci := 4) (v := .int (nI (y 6))) (C := RX4) (T := TX4) (N := 17) hx hb hts hinX4 hown hKK.1 hP 0 rfl rfl 12 (by decide) fl_143 (fun _ h9 => h9) rfl dX4_does_71 ?_
  refine z_callVI (As := [.int (nI (y 6))]) (rest := []) (wr := []) (C := RX4) F (c_X4_acquires_old l G a v y (nI (y 6)) n hn h) (cwV 1 hts gX4_does_X4_acquires rfl rfl rfl (by decide +kernel) ⟨Nat.le_of_ble_eq_true rfl, Nat.le_of_ble_eq_true rfl⟩) hKK (z_recv hKK hP (q0 := 0) (ci := 4) rfl rfl) hP hD hS hA rfl hl.1 rfl (Nat.le_of_ble_eq_true rfl) ⟨Nat.zero_le _, Nat.zero_le _⟩ dX4_does_74 (fun H locs hP hD hS => ?_)
  have hP : va_P G.1 vwCl (modW G a (mrow v 0 (mEntO (v 0) n)) y) H := hP
  have hD : va_D A (modW G a (mrow v 0 (mEntO (v 0) n)) y) := hD
  refine lv_pop hx hb dX4_does_77 rfl ?_
  refine lv_iload_n hx hb dX4_does_78 rfl (lv_at hl 0 rfl) ?_
  exact z_zret hx hb hr hlk hP hD hS dX4_does_79 (bI_nar _) rfl rfl

set_option maxHeartbeats 4000000 in
set_option maxRecDepth 100000 in
theorem c_X4_does_pnew (l : Launch) (G : ZG) (a : Nat → Nat) (v : Mem) (y : Nat → Nat) (n : Nat) (h : zNum (rN (v 0)) (nI (y 6)) = -1) (hn : n < 40) (h2 : zNum (rN (v 0)) (nI 0) = nI n) : CI l G yX4_does wsX4_does (zRm 4 92) [.ref (a 0), .int (nI 43)] (modW G a v y) (bI (true)) (modW G a (mrow v 0 (mEntN (v 0) n (nI (y 6)))) y) := by
  refine CI.ent (cc := cX4_does) (maxL := 4) (ty := .boolean) (own := RX4) (by decide) rfl rfl (Nat.le_of_ble_eq_true rfl) ?_
  intro p ee s m args below meth c A ls F hr hlk hKK hP hD hA hS hl
  obtain ⟨hx, hb, hml, hown, hts⟩ := id F
  have hl : lv_has ls 4 [(0, .ref (a 0)), (1, .int (nI 43))] := hl
  have fl_143 := hts (.fieldLink RX4 143 "NameRollsModel" "word" "I") (by decide +kernel)
  have hinX4 : ∀ w ∈ wsX40, w ∈ wsX4_does := by decide +kernel
  refine lv_aload_n hx hb dX4_does_0 rfl (lv_at hl 0 rfl) ?_
  refine lv_aload_n hx hb dX4_does_1 rfl (lv_at hl 0 rfl) ?_
  refine va_get (D := G.1) (ci := 4) (v := .int (nI (y 6))) (C := RX4) (T := TX4) (N := 17) hx hb hts hinX4 hown hKK.1 hP 0 rfl rfl 12 (by decide) fl_143 (fun _ h9 => h9) rfl dX4_does_2 ?_
  refine z_callVI (As := [.int (nI (y 6))]) (rest := []) (wr := []) (C := RX4) F (c_X4_numberWith l G a v y (nI (y 6))) (cwV 1 hts gX4_does_X4_numberWith rfl rfl rfl (by decide +kernel) ⟨Nat.le_of_ble_eq_true rfl, Nat.le_of_ble_eq_true rfl⟩) hKK (z_recv hKK hP (q0 := 0) (ci := 4) rfl rfl) hP hD hS hA rfl hl.1 rfl (Nat.le_of_ble_eq_true rfl) ⟨Nat.zero_le _, Nat.zero_le _⟩ dX4_does_5 (fun H locs hP hD hS => ?_)
  have hP : va_P G.1 vwCl (modW G a v y) H := hP
  have hD : va_D A (modW G a v y) := hD
  refine lv_istore_n (lv' := [(2, .int (zNum (rN (v 0)) (nI (y 6)))), (0, .ref (a 0)), (1, .int (nI 43))]) hx hb dX4_does_8 rfl hl (by decide) rfl (fun ls hl => ?_)
  refine lv_iload_n hx hb dX4_does_9 rfl (lv_at hl 2 rfl) ?_
  refine lv_bipush (v := nI 33) hx hb dX4_does_10 (by decide) ?_
  refine z_ne (tgt := 50) hx hb dX4_does_12 (by decide) (by omega) (by omega) (fun c_1 => ?_) (fun c_1 => absurd c_1 (by decide))
  refine lv_iload_n hx hb dX4_does_50 rfl (lv_at hl 2 rfl) ?_
  refine lv_bipush (v := nI 43) hx hb dX4_does_51 (by decide) ?_
  refine z_ne (tgt := 80) hx hb dX4_does_53 (by decide) (by omega) (by omega) (fun c_2 => absurd rfl c_2) (fun c_2 => ?_)
  refine lv_aload_n hx hb dX4_does_56 rfl (lv_at hl 1 rfl) ?_
  refine lv_aload_n hx hb dX4_does_57 rfl (lv_at hl 1 rfl) ?_
  refine va_get (D := G.1) (ci := 4) (v := .int (nI (y 6))) (C := RX4) (T := TX4) (N := 17) hx hb hts hinX4 hown hKK.1 hP 0 rfl rfl 12 (by decide) fl_143 (fun _ h9 => h9) rfl dX4_does_58 ?_
  refine z_callVI (As := [.int (nI (y 6))]) (rest := []) (wr := []) (C := RX4) F (c_X4_canAcquire_new l G a v y (nI (y 6)) n h hn h2) (cwV 1 hts gX4_does_X4_canAcquire rfl rfl rfl (by decide +kernel) ⟨Nat.le_of_ble_eq_true rfl, Nat.le_of_ble_eq_true rfl⟩) hKK (z_recv hKK hP (q0 := 0) (ci := 4) rfl rfl) hP hD hS hA rfl hl.1 rfl (Nat.le_of_ble_eq_true rfl) ⟨Nat.zero_le _, Nat.zero_le _⟩ dX4_does_61 (fun H locs hP hD hS => ?_)
  have hP : va_P G.1 vwCl (modW G a v y) H := hP
  have hD : va_D A (modW G a v y) := hD
  refine lv_istore_n (lv' := [(3, .int (bI (true))), (2, .int (zNum (rN (v 0)) (nI (y 6)))), (0, .ref (a 0)), (1, .int (nI 43))]) hx hb dX4_does_64 rfl hl (by decide) rfl (fun ls hl => ?_)
  refine lv_iload_n hx hb dX4_does_65 rfl (lv_at hl 0 rfl) ?_
  refine z_ifBeq (tgt := 78) hx hb dX4_does_66 (by decide) (fun c_3 => absurd c_3 (by decide)) (fun c_3 => ?_)
  refine lv_aload_n hx hb dX4_does_69 rfl (lv_at hl 2 rfl) ?_
  refine lv_aload_n hx hb dX4_does_70 rfl (lv_at hl 2 rfl) ?_
  refine va_get (D := G.1) (ci := 4) (v := .int (nI (y 6))) (C := RX4) (T := TX4) (N := 17) hx hb hts hinX4 hown hKK.1 hP 0 rfl rfl 12 (by decide) fl_143 (fun _ h9 => h9) rfl dX4_does_71 ?_
  refine z_callVI (As := [.int (nI (y 6))]) (rest := []) (wr := []) (C := RX4) F (c_X4_acquires_new l G a v y (nI (y 6)) n h hn h2) (cwV 1 hts gX4_does_X4_acquires rfl rfl rfl (by decide +kernel) ⟨Nat.le_of_ble_eq_true rfl, Nat.le_of_ble_eq_true rfl⟩) hKK (z_recv hKK hP (q0 := 0) (ci := 4) rfl rfl) hP hD hS hA rfl hl.1 rfl (Nat.le_of_ble_eq_true rfl) ⟨Nat.zero_le _, Nat.zero_le _⟩ dX4_does_74 (fun H locs hP hD hS => ?_)
  have hP : va_P G.1 vwCl (modW G a (mrow v 0 (mEntN (v 0) n (nI (y 6)))) y) H := hP
  have hD : va_D A (modW G a (mrow v 0 (mEntN (v 0) n (nI (y 6)))) y) := hD
  refine lv_pop hx hb dX4_does_77 rfl ?_
  refine lv_iload_n hx hb dX4_does_78 rfl (lv_at hl 0 rfl) ?_
  exact z_zret hx hb hr hlk hP hD hS dX4_does_79 (bI_nar _) rfl rfl

set_option maxHeartbeats 4000000 in
set_option maxRecDepth 100000 in
theorem c_X4_does_mnone (l : Launch) (G : ZG) (a : Nat → Nat) (v : Mem) (y : Nat → Nat) (h : zNum (rN (v 0)) (nI (y 6)) = -1) : CI l G yX4_does wsX4_does (zRm 4 92) [.ref (a 0), .int (nI 45)] (modW G a v y) (bI (false)) (modW G a v y) := by
  refine CI.ent (cc := cX4_does) (maxL := 4) (ty := .boolean) (own := RX4) (by decide) rfl rfl (Nat.le_of_ble_eq_true rfl) ?_
  intro p ee s m args below meth c A ls F hr hlk hKK hP hD hA hS hl
  obtain ⟨hx, hb, hml, hown, hts⟩ := id F
  have hl : lv_has ls 4 [(0, .ref (a 0)), (1, .int (nI 45))] := hl
  have fl_143 := hts (.fieldLink RX4 143 "NameRollsModel" "word" "I") (by decide +kernel)
  have hinX4 : ∀ w ∈ wsX40, w ∈ wsX4_does := by decide +kernel
  refine lv_aload_n hx hb dX4_does_0 rfl (lv_at hl 0 rfl) ?_
  refine lv_aload_n hx hb dX4_does_1 rfl (lv_at hl 0 rfl) ?_
  refine va_get (D := G.1) (ci := 4) (v := .int (nI (y 6))) (C := RX4) (T := TX4) (N := 17) hx hb hts hinX4 hown hKK.1 hP 0 rfl rfl 12 (by decide) fl_143 (fun _ h9 => h9) rfl dX4_does_2 ?_
  refine z_callVI (As := [.int (nI (y 6))]) (rest := []) (wr := []) (C := RX4) F (c_X4_numberWith l G a v y (nI (y 6))) (cwV 1 hts gX4_does_X4_numberWith rfl rfl rfl (by decide +kernel) ⟨Nat.le_of_ble_eq_true rfl, Nat.le_of_ble_eq_true rfl⟩) hKK (z_recv hKK hP (q0 := 0) (ci := 4) rfl rfl) hP hD hS hA rfl hl.1 rfl (Nat.le_of_ble_eq_true rfl) ⟨Nat.zero_le _, Nat.zero_le _⟩ dX4_does_5 (fun H locs hP hD hS => ?_)
  have hP : va_P G.1 vwCl (modW G a v y) H := hP
  have hD : va_D A (modW G a v y) := hD
  refine z_top (v := (-1)) h ?_
  refine lv_istore_n (lv' := [(2, .int ((-1))), (0, .ref (a 0)), (1, .int (nI 45))]) hx hb dX4_does_8 rfl hl (by decide) rfl (fun ls hl => ?_)
  refine lv_iload_n hx hb dX4_does_9 rfl (lv_at hl 2 rfl) ?_
  refine lv_bipush (v := nI 33) hx hb dX4_does_10 (by decide) ?_
  refine z_ne (tgt := 50) hx hb dX4_does_12 (by decide) (by omega) (by omega) (fun c_1 => ?_) (fun c_1 => absurd c_1 (by decide))
  refine lv_iload_n hx hb dX4_does_50 rfl (lv_at hl 2 rfl) ?_
  refine lv_bipush (v := nI 43) hx hb dX4_does_51 (by decide) ?_
  refine z_ne (tgt := 80) hx hb dX4_does_53 (by decide) (by omega) (by omega) (fun c_2 => ?_) (fun c_2 => absurd c_2 (by decide))
  refine lv_iload_n hx hb dX4_does_80 rfl (lv_at hl 0 rfl) ?_
  refine lv_if_ge (tgt := 86) hx hb dX4_does_81 (by decide) (fun c_3 => absurd c_3 (by decide)) (fun c_3 => ?_)
  refine lv_iconst (v := nI 0) hx hb dX4_does_84 (by decide) ?_
  exact z_zret hx hb hr hlk hP hD hS dX4_does_85 (by decide) rfl rfl

set_option maxHeartbeats 4000000 in
set_option maxRecDepth 100000 in
theorem c_X4_does_mno (l : Launch) (G : ZG) (a : Nat → Nat) (v : Mem) (y : Nat → Nat) (n : Nat) (hn : n < 40) (h : zNum (rN (v 0)) (nI (y 6)) = nI n) (hu : v 0 (44 + n) ≤ nI (zCells (rC (v 0)) (nI n))) : CI l G yX4_does wsX4_does (zRm 4 92) [.ref (a 0), .int (nI 45)] (modW G a v y) (bI (false)) (modW G a v y) := by
  refine CI.ent (cc := cX4_does) (maxL := 4) (ty := .boolean) (own := RX4) (by decide) rfl rfl (Nat.le_of_ble_eq_true rfl) ?_
  intro p ee s m args below meth c A ls F hr hlk hKK hP hD hA hS hl
  obtain ⟨hx, hb, hml, hown, hts⟩ := id F
  have hl : lv_has ls 4 [(0, .ref (a 0)), (1, .int (nI 45))] := hl
  have fl_7 := hts (.fieldLink RX4 7 "NameRollsModel" "now" "[I") (by decide +kernel)
  have fl_143 := hts (.fieldLink RX4 143 "NameRollsModel" "word" "I") (by decide +kernel)
  have hinX4 : ∀ w ∈ wsX40, w ∈ wsX4_does := by decide +kernel
  refine lv_aload_n hx hb dX4_does_0 rfl (lv_at hl 0 rfl) ?_
  refine lv_aload_n hx hb dX4_does_1 rfl (lv_at hl 0 rfl) ?_
  refine va_get (D := G.1) (ci := 4) (v := .int (nI (y 6))) (C := RX4) (T := TX4) (N := 17) hx hb hts hinX4 hown hKK.1 hP 0 rfl rfl 12 (by decide) fl_143 (fun _ h9 => h9) rfl dX4_does_2 ?_
  refine z_callVI (As := [.int (nI (y 6))]) (rest := []) (wr := []) (C := RX4) F (c_X4_numberWith l G a v y (nI (y 6))) (cwV 1 hts gX4_does_X4_numberWith rfl rfl rfl (by decide +kernel) ⟨Nat.le_of_ble_eq_true rfl, Nat.le_of_ble_eq_true rfl⟩) hKK (z_recv hKK hP (q0 := 0) (ci := 4) rfl rfl) hP hD hS hA rfl hl.1 rfl (Nat.le_of_ble_eq_true rfl) ⟨Nat.zero_le _, Nat.zero_le _⟩ dX4_does_5 (fun H locs hP hD hS => ?_)
  have hP : va_P G.1 vwCl (modW G a v y) H := hP
  have hD : va_D A (modW G a v y) := hD
  refine z_top (v := nI n) h ?_
  refine lv_istore_n (lv' := [(2, .int (nI n)), (0, .ref (a 0)), (1, .int (nI 45))]) hx hb dX4_does_8 rfl hl (by decide) rfl (fun ls hl => ?_)
  refine lv_iload_n hx hb dX4_does_9 rfl (lv_at hl 2 rfl) ?_
  refine lv_bipush (v := nI 33) hx hb dX4_does_10 (by decide) ?_
  refine z_ne (tgt := 50) hx hb dX4_does_12 (by decide) (by omega) (by omega) (fun c_1 => ?_) (fun c_1 => absurd c_1 (by decide))
  refine lv_iload_n hx hb dX4_does_50 rfl (lv_at hl 2 rfl) ?_
  refine lv_bipush (v := nI 43) hx hb dX4_does_51 (by decide) ?_
  refine z_ne (tgt := 80) hx hb dX4_does_53 (by decide) (by omega) (by omega) (fun c_2 => ?_) (fun c_2 => absurd c_2 (by decide))
  refine lv_iload_n hx hb dX4_does_80 rfl (lv_at hl 0 rfl) ?_
  refine z_ifNge (tgt := 86) hx hb dX4_does_81 (by decide) (by omega) (fun c_3 => ?_) (fun c_3 => absurd c_3 (Nat.not_lt_zero _))
  refine lv_iload_n hx hb dX4_does_86 rfl (lv_at hl 2 rfl) ?_
  refine lv_bipush (v := nI 45) hx hb dX4_does_87 (by decide) ?_
  refine z_ne (tgt := 117) hx hb dX4_does_89 (by decide) (by omega) (by omega) (fun c_4 => absurd rfl c_4) (fun c_4 => ?_)
  refine lv_aload_n hx hb dX4_does_92 rfl (lv_at hl 1 rfl) ?_
  refine va_get (D := G.1) (ci := 4) (v := .ref (a 1)) (C := RX4) (T := TX4) (N := 17) hx hb hts hinX4 hown hKK.1 hP 0 rfl rfl 0 (by decide) fl_7 (fun _ h9 => h9) rfl dX4_does_93 ?_
  refine lv_bipush (v := nI 44) hx hb dX4_does_96 (by decide) ?_
  refine lv_iload_n hx hb dX4_does_98 rfl (lv_at hl 0 rfl) ?_
  refine z_add (v := nI (44 + n)) hx hb dX4_does_99 (nI_add _ _) ?_
  refine z_iald (n := 511) (f := v 0) (v := v 0 (44 + n)) hx hb hKK hP 1 rfl (by omega) (by decide) rfl dX4_does_100 ?_
  refine lv_aload_n hx hb dX4_does_101 rfl (lv_at hl 1 rfl) ?_
  refine lv_iload_n hx hb dX4_does_102 rfl (lv_at hl 0 rfl) ?_
  refine z_callVI (As := [.int (nI n)]) (rest := [.int (v 0 (44 + n))]) (wr := []) (C := RX4) F (c_X4_cellsWith l G a v y (nI n)) (cwV 1 hts gX4_does_X4_cellsWith rfl rfl rfl (by decide +kernel) ⟨Nat.le_of_ble_eq_true rfl, Nat.le_of_ble_eq_true rfl⟩) hKK (z_recv hKK hP (q0 := 0) (ci := 4) rfl rfl) hP hD hS hA rfl hl.1 rfl (Nat.le_of_ble_eq_true rfl) ⟨Nat.zero_le _, Nat.zero_le _⟩ dX4_does_103 (fun H locs hP hD hS => ?_)
  have hP : va_P G.1 vwCl (modW G a v y) H := hP
  have hD : va_D A (modW G a v y) := hD
  refine lv_icmp_le (tgt := 113) hx hb dX4_does_106 (by decide) (fun c_5 => ?_) (fun c_5 => absurd hu c_5)
  refine lv_iconst (v := nI 0) hx hb dX4_does_113 (by decide) ?_
  refine lv_goto (tgt := 137) hx hb dX4_does_114 (by decide) ?_
  refine lv_istore_n (lv' := [(3, .int (nI 0)), (2, .int (nI n)), (0, .ref (a 0)), (1, .int (nI 45))]) hx hb dX4_does_137 rfl hl (by decide) rfl (fun ls hl => ?_)
  refine lv_iload_n hx hb dX4_does_138 rfl (lv_at hl 0 rfl) ?_
  refine z_ifNeq (tgt := 157) hx hb dX4_does_139 (by decide) (by omega) (fun c_6 => ?_) (fun c_6 => absurd c_6 (by decide))
  refine lv_iload_n hx hb dX4_does_157 rfl (lv_at hl 0 rfl) ?_
  refine z_ifNeq (tgt := 183) hx hb dX4_does_158 (by decide) (by omega) (fun c_7 => ?_) (fun c_7 => absurd c_7 (by decide))
  refine lv_iload_n hx hb dX4_does_183 rfl (lv_at hl 0 rfl) ?_
  exact z_zret hx hb hr hlk hP hD hS dX4_does_184 (by decide) rfl rfl

set_option maxHeartbeats 4000000 in
set_option maxRecDepth 100000 in
theorem c_X4_does_mok (l : Launch) (G : ZG) (a : Nat → Nat) (v : Mem) (y : Nat → Nat) (n : Nat) (hn : n < 40) (h : zNum (rN (v 0)) (nI (y 6)) = nI n) (hu : ¬ v 0 (44 + n) ≤ nI (zCells (rC (v 0)) (nI n))) : CI l G yX4_does wsX4_does (zRm 4 92) [.ref (a 0), .int (nI 45)] (modW G a v y) (bI (true)) (modW G a (mrow v 0 (mGive (v 0) n)) y) := by
  refine CI.ent (cc := cX4_does) (maxL := 4) (ty := .boolean) (own := RX4) (by decide) rfl rfl (Nat.le_of_ble_eq_true rfl) ?_
  intro p ee s m args below meth c A ls F hr hlk hKK hP hD hA hS hl
  obtain ⟨hx, hb, hml, hown, hts⟩ := id F
  have hl : lv_has ls 4 [(0, .ref (a 0)), (1, .int (nI 45))] := hl
  have fl_7 := hts (.fieldLink RX4 7 "NameRollsModel" "now" "[I") (by decide +kernel)
  have fl_143 := hts (.fieldLink RX4 143 "NameRollsModel" "word" "I") (by decide +kernel)
  have hinX4 : ∀ w ∈ wsX40, w ∈ wsX4_does := by decide +kernel
  refine lv_aload_n hx hb dX4_does_0 rfl (lv_at hl 0 rfl) ?_
  refine lv_aload_n hx hb dX4_does_1 rfl (lv_at hl 0 rfl) ?_
  refine va_get (D := G.1) (ci := 4) (v := .int (nI (y 6))) (C := RX4) (T := TX4) (N := 17) hx hb hts hinX4 hown hKK.1 hP 0 rfl rfl 12 (by decide) fl_143 (fun _ h9 => h9) rfl dX4_does_2 ?_
  refine z_callVI (As := [.int (nI (y 6))]) (rest := []) (wr := []) (C := RX4) F (c_X4_numberWith l G a v y (nI (y 6))) (cwV 1 hts gX4_does_X4_numberWith rfl rfl rfl (by decide +kernel) ⟨Nat.le_of_ble_eq_true rfl, Nat.le_of_ble_eq_true rfl⟩) hKK (z_recv hKK hP (q0 := 0) (ci := 4) rfl rfl) hP hD hS hA rfl hl.1 rfl (Nat.le_of_ble_eq_true rfl) ⟨Nat.zero_le _, Nat.zero_le _⟩ dX4_does_5 (fun H locs hP hD hS => ?_)
  have hP : va_P G.1 vwCl (modW G a v y) H := hP
  have hD : va_D A (modW G a v y) := hD
  refine z_top (v := nI n) h ?_
  refine lv_istore_n (lv' := [(2, .int (nI n)), (0, .ref (a 0)), (1, .int (nI 45))]) hx hb dX4_does_8 rfl hl (by decide) rfl (fun ls hl => ?_)
  refine lv_iload_n hx hb dX4_does_9 rfl (lv_at hl 2 rfl) ?_
  refine lv_bipush (v := nI 33) hx hb dX4_does_10 (by decide) ?_
  refine z_ne (tgt := 50) hx hb dX4_does_12 (by decide) (by omega) (by omega) (fun c_1 => ?_) (fun c_1 => absurd c_1 (by decide))
  refine lv_iload_n hx hb dX4_does_50 rfl (lv_at hl 2 rfl) ?_
  refine lv_bipush (v := nI 43) hx hb dX4_does_51 (by decide) ?_
  refine z_ne (tgt := 80) hx hb dX4_does_53 (by decide) (by omega) (by omega) (fun c_2 => ?_) (fun c_2 => absurd c_2 (by decide))
  refine lv_iload_n hx hb dX4_does_80 rfl (lv_at hl 0 rfl) ?_
  refine z_ifNge (tgt := 86) hx hb dX4_does_81 (by decide) (by omega) (fun c_3 => ?_) (fun c_3 => absurd c_3 (Nat.not_lt_zero _))
  refine lv_iload_n hx hb dX4_does_86 rfl (lv_at hl 2 rfl) ?_
  refine lv_bipush (v := nI 45) hx hb dX4_does_87 (by decide) ?_
  refine z_ne (tgt := 117) hx hb dX4_does_89 (by decide) (by omega) (by omega) (fun c_4 => absurd rfl c_4) (fun c_4 => ?_)
  refine lv_aload_n hx hb dX4_does_92 rfl (lv_at hl 1 rfl) ?_
  refine va_get (D := G.1) (ci := 4) (v := .ref (a 1)) (C := RX4) (T := TX4) (N := 17) hx hb hts hinX4 hown hKK.1 hP 0 rfl rfl 0 (by decide) fl_7 (fun _ h9 => h9) rfl dX4_does_93 ?_
  refine lv_bipush (v := nI 44) hx hb dX4_does_96 (by decide) ?_
  refine lv_iload_n hx hb dX4_does_98 rfl (lv_at hl 0 rfl) ?_
  refine z_add (v := nI (44 + n)) hx hb dX4_does_99 (nI_add _ _) ?_
  refine z_iald (n := 511) (f := v 0) (v := v 0 (44 + n)) hx hb hKK hP 1 rfl (by omega) (by decide) rfl dX4_does_100 ?_
  refine lv_aload_n hx hb dX4_does_101 rfl (lv_at hl 1 rfl) ?_
  refine lv_iload_n hx hb dX4_does_102 rfl (lv_at hl 0 rfl) ?_
  refine z_callVI (As := [.int (nI n)]) (rest := [.int (v 0 (44 + n))]) (wr := []) (C := RX4) F (c_X4_cellsWith l G a v y (nI n)) (cwV 1 hts gX4_does_X4_cellsWith rfl rfl rfl (by decide +kernel) ⟨Nat.le_of_ble_eq_true rfl, Nat.le_of_ble_eq_true rfl⟩) hKK (z_recv hKK hP (q0 := 0) (ci := 4) rfl rfl) hP hD hS hA rfl hl.1 rfl (Nat.le_of_ble_eq_true rfl) ⟨Nat.zero_le _, Nat.zero_le _⟩ dX4_does_103 (fun H locs hP hD hS => ?_)
  have hP : va_P G.1 vwCl (modW G a v y) H := hP
  have hD : va_D A (modW G a v y) := hD
  refine lv_icmp_le (tgt := 113) hx hb dX4_does_106 (by decide) (fun c_5 => absurd c_5 hu) (fun c_5 => ?_)
  refine lv_iconst (v := nI 1) hx hb dX4_does_109 (by decide) ?_
  refine lv_goto (tgt := 137) hx hb dX4_does_110 (by decide) ?_
  refine lv_istore_n (lv' := [(3, .int (nI 1)), (2, .int (nI n)), (0, .ref (a 0)), (1, .int (nI 45))]) hx hb dX4_does_137 rfl hl (by decide) rfl (fun ls hl => ?_)
  refine lv_iload_n hx hb dX4_does_138 rfl (lv_at hl 0 rfl) ?_
  refine z_ifNeq (tgt := 157) hx hb dX4_does_139 (by decide) (by omega) (fun c_6 => absurd c_6 (by decide)) (fun c_6 => ?_)
  refine lv_iload_n hx hb dX4_does_142 rfl (lv_at hl 3 rfl) ?_
  refine lv_bipush (v := nI 45) hx hb dX4_does_143 (by decide) ?_
  refine z_ne (tgt := 157) hx hb dX4_does_145 (by decide) (by omega) (by omega) (fun c_7 => absurd rfl c_7) (fun c_7 => ?_)
  refine lv_aload_n hx hb dX4_does_148 rfl (lv_at hl 2 rfl) ?_
  refine lv_iload_n hx hb dX4_does_149 rfl (lv_at hl 1 rfl) ?_
  refine z_callVI (As := [.int (nI n)]) (rest := []) (wr := []) (C := RX4) F (c_X4_givesBack l G a v y (n) (by omega)) (cwV 1 hts gX4_does_X4_givesBack rfl rfl rfl (by decide +kernel) ⟨Nat.le_of_ble_eq_true rfl, Nat.le_of_ble_eq_true rfl⟩) hKK (z_recv hKK hP (q0 := 0) (ci := 4) rfl rfl) hP hD hS hA rfl hl.1 rfl (Nat.le_of_ble_eq_true rfl) ⟨Nat.zero_le _, Nat.zero_le _⟩ dX4_does_150 (fun H locs hP hD hS => ?_)
  have hP : va_P G.1 vwCl (modW G a (mrow v 0 (mGive (v 0) n)) y) H := hP
  have hD : va_D A (modW G a (mrow v 0 (mGive (v 0) n)) y) := hD
  refine lv_pop hx hb dX4_does_153 rfl ?_
  refine lv_goto (tgt := 183) hx hb dX4_does_154 (by decide) ?_
  refine lv_iload_n hx hb dX4_does_183 rfl (lv_at hl 0 rfl) ?_
  exact z_zret hx hb hr hlk hP hD hS dX4_does_184 (by decide) rfl rfl

set_option maxHeartbeats 4000000 in
set_option maxRecDepth 100000 in
theorem c_X4_does_enone (l : Launch) (G : ZG) (a : Nat → Nat) (v : Mem) (y : Nat → Nat) (h : zNum (rN (v 0)) (nI (y 6)) = -1) : CI l G yX4_does wsX4_does (zRm 4 92) [.ref (a 0), .int (nI 61)] (modW G a v y) (bI (false)) (modW G a v y) := by
  refine CI.ent (cc := cX4_does) (maxL := 4) (ty := .boolean) (own := RX4) (by decide) rfl rfl (Nat.le_of_ble_eq_true rfl) ?_
  intro p ee s m args below meth c A ls F hr hlk hKK hP hD hA hS hl
  obtain ⟨hx, hb, hml, hown, hts⟩ := id F
  have hl : lv_has ls 4 [(0, .ref (a 0)), (1, .int (nI 61))] := hl
  have fl_143 := hts (.fieldLink RX4 143 "NameRollsModel" "word" "I") (by decide +kernel)
  have hinX4 : ∀ w ∈ wsX40, w ∈ wsX4_does := by decide +kernel
  refine lv_aload_n hx hb dX4_does_0 rfl (lv_at hl 0 rfl) ?_
  refine lv_aload_n hx hb dX4_does_1 rfl (lv_at hl 0 rfl) ?_
  refine va_get (D := G.1) (ci := 4) (v := .int (nI (y 6))) (C := RX4) (T := TX4) (N := 17) hx hb hts hinX4 hown hKK.1 hP 0 rfl rfl 12 (by decide) fl_143 (fun _ h9 => h9) rfl dX4_does_2 ?_
  refine z_callVI (As := [.int (nI (y 6))]) (rest := []) (wr := []) (C := RX4) F (c_X4_numberWith l G a v y (nI (y 6))) (cwV 1 hts gX4_does_X4_numberWith rfl rfl rfl (by decide +kernel) ⟨Nat.le_of_ble_eq_true rfl, Nat.le_of_ble_eq_true rfl⟩) hKK (z_recv hKK hP (q0 := 0) (ci := 4) rfl rfl) hP hD hS hA rfl hl.1 rfl (Nat.le_of_ble_eq_true rfl) ⟨Nat.zero_le _, Nat.zero_le _⟩ dX4_does_5 (fun H locs hP hD hS => ?_)
  have hP : va_P G.1 vwCl (modW G a v y) H := hP
  have hD : va_D A (modW G a v y) := hD
  refine z_top (v := (-1)) h ?_
  refine lv_istore_n (lv' := [(2, .int ((-1))), (0, .ref (a 0)), (1, .int (nI 61))]) hx hb dX4_does_8 rfl hl (by decide) rfl (fun ls hl => ?_)
  refine lv_iload_n hx hb dX4_does_9 rfl (lv_at hl 2 rfl) ?_
  refine lv_bipush (v := nI 33) hx hb dX4_does_10 (by decide) ?_
  refine z_ne (tgt := 50) hx hb dX4_does_12 (by decide) (by omega) (by omega) (fun c_1 => ?_) (fun c_1 => absurd c_1 (by decide))
  refine lv_iload_n hx hb dX4_does_50 rfl (lv_at hl 2 rfl) ?_
  refine lv_bipush (v := nI 43) hx hb dX4_does_51 (by decide) ?_
  refine z_ne (tgt := 80) hx hb dX4_does_53 (by decide) (by omega) (by omega) (fun c_2 => ?_) (fun c_2 => absurd c_2 (by decide))
  refine lv_iload_n hx hb dX4_does_80 rfl (lv_at hl 0 rfl) ?_
  refine lv_if_ge (tgt := 86) hx hb dX4_does_81 (by decide) (fun c_3 => absurd c_3 (by decide)) (fun c_3 => ?_)
  refine lv_iconst (v := nI 0) hx hb dX4_does_84 (by decide) ?_
  exact z_zret hx hb hr hlk hP hD hS dX4_does_85 (by decide) rfl rfl

set_option maxHeartbeats 4000000 in
set_option maxRecDepth 100000 in
theorem c_X4_does_eno (l : Launch) (G : ZG) (a : Nat → Nat) (v : Mem) (y : Nat → Nat) (n : Nat) (hn : n < 40) (h : zNum (rN (v 0)) (nI (y 6)) = nI n) (hu : nI 999 ≤ v 0 (44 + n)) : CI l G yX4_does wsX4_does (zRm 4 92) [.ref (a 0), .int (nI 61)] (modW G a v y) (bI (false)) (modW G a v y) := by
  refine CI.ent (cc := cX4_does) (maxL := 4) (ty := .boolean) (own := RX4) (by decide) rfl rfl (Nat.le_of_ble_eq_true rfl) ?_
  intro p ee s m args below meth c A ls F hr hlk hKK hP hD hA hS hl
  obtain ⟨hx, hb, hml, hown, hts⟩ := id F
  have hl : lv_has ls 4 [(0, .ref (a 0)), (1, .int (nI 61))] := hl
  have fl_7 := hts (.fieldLink RX4 7 "NameRollsModel" "now" "[I") (by decide +kernel)
  have fl_143 := hts (.fieldLink RX4 143 "NameRollsModel" "word" "I") (by decide +kernel)
  have hinX4 : ∀ w ∈ wsX40, w ∈ wsX4_does := by decide +kernel
  refine lv_aload_n hx hb dX4_does_0 rfl (lv_at hl 0 rfl) ?_
  refine lv_aload_n hx hb dX4_does_1 rfl (lv_at hl 0 rfl) ?_
  refine va_get (D := G.1) (ci := 4) (v := .int (nI (y 6))) (C := RX4) (T := TX4) (N := 17) hx hb hts hinX4 hown hKK.1 hP 0 rfl rfl 12 (by decide) fl_143 (fun _ h9 => h9) rfl dX4_does_2 ?_
  refine z_callVI (As := [.int (nI (y 6))]) (rest := []) (wr := []) (C := RX4) F (c_X4_numberWith l G a v y (nI (y 6))) (cwV 1 hts gX4_does_X4_numberWith rfl rfl rfl (by decide +kernel) ⟨Nat.le_of_ble_eq_true rfl, Nat.le_of_ble_eq_true rfl⟩) hKK (z_recv hKK hP (q0 := 0) (ci := 4) rfl rfl) hP hD hS hA rfl hl.1 rfl (Nat.le_of_ble_eq_true rfl) ⟨Nat.zero_le _, Nat.zero_le _⟩ dX4_does_5 (fun H locs hP hD hS => ?_)
  have hP : va_P G.1 vwCl (modW G a v y) H := hP
  have hD : va_D A (modW G a v y) := hD
  refine z_top (v := nI n) h ?_
  refine lv_istore_n (lv' := [(2, .int (nI n)), (0, .ref (a 0)), (1, .int (nI 61))]) hx hb dX4_does_8 rfl hl (by decide) rfl (fun ls hl => ?_)
  refine lv_iload_n hx hb dX4_does_9 rfl (lv_at hl 2 rfl) ?_
  refine lv_bipush (v := nI 33) hx hb dX4_does_10 (by decide) ?_
  refine z_ne (tgt := 50) hx hb dX4_does_12 (by decide) (by omega) (by omega) (fun c_1 => ?_) (fun c_1 => absurd c_1 (by decide))
  refine lv_iload_n hx hb dX4_does_50 rfl (lv_at hl 2 rfl) ?_
  refine lv_bipush (v := nI 43) hx hb dX4_does_51 (by decide) ?_
  refine z_ne (tgt := 80) hx hb dX4_does_53 (by decide) (by omega) (by omega) (fun c_2 => ?_) (fun c_2 => absurd c_2 (by decide))
  refine lv_iload_n hx hb dX4_does_80 rfl (lv_at hl 0 rfl) ?_
  refine z_ifNge (tgt := 86) hx hb dX4_does_81 (by decide) (by omega) (fun c_3 => ?_) (fun c_3 => absurd c_3 (Nat.not_lt_zero _))
  refine lv_iload_n hx hb dX4_does_86 rfl (lv_at hl 2 rfl) ?_
  refine lv_bipush (v := nI 45) hx hb dX4_does_87 (by decide) ?_
  refine z_ne (tgt := 117) hx hb dX4_does_89 (by decide) (by omega) (by omega) (fun c_4 => ?_) (fun c_4 => absurd c_4 (by decide))
  refine lv_aload_n hx hb dX4_does_117 rfl (lv_at hl 1 rfl) ?_
  refine va_get (D := G.1) (ci := 4) (v := .ref (a 1)) (C := RX4) (T := TX4) (N := 17) hx hb hts hinX4 hown hKK.1 hP 0 rfl rfl 0 (by decide) fl_7 (fun _ h9 => h9) rfl dX4_does_118 ?_
  refine lv_bipush (v := nI 44) hx hb dX4_does_121 (by decide) ?_
  refine lv_iload_n hx hb dX4_does_123 rfl (lv_at hl 0 rfl) ?_
  refine z_add (v := nI (44 + n)) hx hb dX4_does_124 (nI_add _ _) ?_
  refine z_iald (n := 511) (f := v 0) (v := v 0 (44 + n)) hx hb hKK hP 1 rfl (by omega) (by decide) rfl dX4_does_125 ?_
  refine lv_sipush (v := nI 999) hx hb dX4_does_126 (by decide) ?_
  refine lv_icmp_ge (tgt := 136) hx hb dX4_does_129 (by decide) (fun c_5 => ?_) (fun c_5 => absurd hu c_5)
  refine lv_iconst (v := nI 0) hx hb dX4_does_136 (by decide) ?_
  refine lv_istore_n (lv' := [(3, .int (nI 0)), (2, .int (nI n)), (0, .ref (a 0)), (1, .int (nI 61))]) hx hb dX4_does_137 rfl hl (by decide) rfl (fun ls hl => ?_)
  refine lv_iload_n hx hb dX4_does_138 rfl (lv_at hl 0 rfl) ?_
  refine z_ifNeq (tgt := 157) hx hb dX4_does_139 (by decide) (by omega) (fun c_6 => ?_) (fun c_6 => absurd c_6 (by decide))
  refine lv_iload_n hx hb dX4_does_157 rfl (lv_at hl 0 rfl) ?_
  refine z_ifNeq (tgt := 183) hx hb dX4_does_158 (by decide) (by omega) (fun c_7 => ?_) (fun c_7 => absurd c_7 (by decide))
  refine lv_iload_n hx hb dX4_does_183 rfl (lv_at hl 0 rfl) ?_
  exact z_zret hx hb hr hlk hP hD hS dX4_does_184 (by decide) rfl rfl

set_option maxHeartbeats 4000000 in
set_option maxRecDepth 100000 in
theorem c_X4_does_ee (l : Launch) (G : ZG) (a : Nat → Nat) (v : Mem) (y : Nat → Nat) (n : Nat) (hn : n < 40) (h : zNum (rN (v 0)) (nI (y 6)) = nI n) (hu : ¬ nI 999 ≤ v 0 (44 + n)) (t c0 : Nat) (ht : t ≤ 2) (hc0 : c0 ≤ 5) (h60 : v 6 0 = nI t) (h61 : v 6 1 = nI c0) (he9 : v 0 (124 + (6 * t + c0)) = -1) : CI l G yX4_does wsX4_does (zRm 4 92) [.ref (a 0), .int (nI 61)] (modW G a v y) (bI (true)) (modW G a (mrow v 0 (mPut1 (v 0) (6 * t + c0) n)) y) := by
  refine CI.ent (cc := cX4_does) (maxL := 4) (ty := .boolean) (own := RX4) (by decide) rfl rfl (Nat.le_of_ble_eq_true rfl) ?_
  intro p ee s m args below meth c A ls F hr hlk hKK hP hD hA hS hl
  obtain ⟨hx, hb, hml, hown, hts⟩ := id F
  have hl : lv_has ls 4 [(0, .ref (a 0)), (1, .int (nI 61))] := hl
  have fl_7 := hts (.fieldLink RX4 7 "NameRollsModel" "now" "[I") (by decide +kernel)
  have fl_28 := hts (.fieldLink RX4 28 "NameRollsModel" "digits" "[I") (by decide +kernel)
  have fl_143 := hts (.fieldLink RX4 143 "NameRollsModel" "word" "I") (by decide +kernel)
  have hinX4 : ∀ w ∈ wsX40, w ∈ wsX4_does := by decide +kernel
  refine lv_aload_n hx hb dX4_does_0 rfl (lv_at hl 0 rfl) ?_
  refine lv_aload_n hx hb dX4_does_1 rfl (lv_at hl 0 rfl) ?_
  refine va_get (D := G.1) (ci := 4) (v := .int (nI (y 6))) (C := RX4) (T := TX4) (N := 17) hx hb hts hinX4 hown hKK.1 hP 0 rfl rfl 12 (by decide) fl_143 (fun _ h9 => h9) rfl dX4_does_2 ?_
  refine z_callVI (As := [.int (nI (y 6))]) (rest := []) (wr := []) (C := RX4) F (c_X4_numberWith l G a v y (nI (y 6))) (cwV 1 hts gX4_does_X4_numberWith rfl rfl rfl (by decide +kernel) ⟨Nat.le_of_ble_eq_true rfl, Nat.le_of_ble_eq_true rfl⟩) hKK (z_recv hKK hP (q0 := 0) (ci := 4) rfl rfl) hP hD hS hA rfl hl.1 rfl (Nat.le_of_ble_eq_true rfl) ⟨Nat.zero_le _, Nat.zero_le _⟩ dX4_does_5 (fun H locs hP hD hS => ?_)
  have hP : va_P G.1 vwCl (modW G a v y) H := hP
  have hD : va_D A (modW G a v y) := hD
  refine z_top (v := nI n) h ?_
  refine lv_istore_n (lv' := [(2, .int (nI n)), (0, .ref (a 0)), (1, .int (nI 61))]) hx hb dX4_does_8 rfl hl (by decide) rfl (fun ls hl => ?_)
  refine lv_iload_n hx hb dX4_does_9 rfl (lv_at hl 2 rfl) ?_
  refine lv_bipush (v := nI 33) hx hb dX4_does_10 (by decide) ?_
  refine z_ne (tgt := 50) hx hb dX4_does_12 (by decide) (by omega) (by omega) (fun c_1 => ?_) (fun c_1 => absurd c_1 (by decide))
  refine lv_iload_n hx hb dX4_does_50 rfl (lv_at hl 2 rfl) ?_
  refine lv_bipush (v := nI 43) hx hb dX4_does_51 (by decide) ?_
  refine z_ne (tgt := 80) hx hb dX4_does_53 (by decide) (by omega) (by omega) (fun c_2 => ?_) (fun c_2 => absurd c_2 (by decide))
  refine lv_iload_n hx hb dX4_does_80 rfl (lv_at hl 0 rfl) ?_
  refine z_ifNge (tgt := 86) hx hb dX4_does_81 (by decide) (by omega) (fun c_3 => ?_) (fun c_3 => absurd c_3 (Nat.not_lt_zero _))
  refine lv_iload_n hx hb dX4_does_86 rfl (lv_at hl 2 rfl) ?_
  refine lv_bipush (v := nI 45) hx hb dX4_does_87 (by decide) ?_
  refine z_ne (tgt := 117) hx hb dX4_does_89 (by decide) (by omega) (by omega) (fun c_4 => ?_) (fun c_4 => absurd c_4 (by decide))
  refine lv_aload_n hx hb dX4_does_117 rfl (lv_at hl 1 rfl) ?_
  refine va_get (D := G.1) (ci := 4) (v := .ref (a 1)) (C := RX4) (T := TX4) (N := 17) hx hb hts hinX4 hown hKK.1 hP 0 rfl rfl 0 (by decide) fl_7 (fun _ h9 => h9) rfl dX4_does_118 ?_
  refine lv_bipush (v := nI 44) hx hb dX4_does_121 (by decide) ?_
  refine lv_iload_n hx hb dX4_does_123 rfl (lv_at hl 0 rfl) ?_
  refine z_add (v := nI (44 + n)) hx hb dX4_does_124 (nI_add _ _) ?_
  refine z_iald (n := 511) (f := v 0) (v := v 0 (44 + n)) hx hb hKK hP 1 rfl (by omega) (by decide) rfl dX4_does_125 ?_
  refine lv_sipush (v := nI 999) hx hb dX4_does_126 (by decide) ?_
  refine lv_icmp_ge (tgt := 136) hx hb dX4_does_129 (by decide) (fun c_5 => absurd c_5 hu) (fun c_5 => ?_)
  refine lv_iconst (v := nI 1) hx hb dX4_does_132 (by decide) ?_
  refine lv_goto (tgt := 137) hx hb dX4_does_133 (by decide) ?_
  refine lv_istore_n (lv' := [(3, .int (nI 1)), (2, .int (nI n)), (0, .ref (a 0)), (1, .int (nI 61))]) hx hb dX4_does_137 rfl hl (by decide) rfl (fun ls hl => ?_)
  refine lv_iload_n hx hb dX4_does_138 rfl (lv_at hl 0 rfl) ?_
  refine z_ifNeq (tgt := 157) hx hb dX4_does_139 (by decide) (by omega) (fun c_6 => absurd c_6 (by decide)) (fun c_6 => ?_)
  refine lv_iload_n hx hb dX4_does_142 rfl (lv_at hl 3 rfl) ?_
  refine lv_bipush (v := nI 45) hx hb dX4_does_143 (by decide) ?_
  refine z_ne (tgt := 157) hx hb dX4_does_145 (by decide) (by omega) (by omega) (fun c_7 => ?_) (fun c_7 => absurd c_7 (by decide))
  refine lv_iload_n hx hb dX4_does_157 rfl (lv_at hl 0 rfl) ?_
  refine z_ifNeq (tgt := 183) hx hb dX4_does_158 (by decide) (by omega) (fun c_8 => absurd c_8 (by decide)) (fun c_8 => ?_)
  refine lv_aload_n hx hb dX4_does_161 rfl (lv_at hl 2 rfl) ?_
  refine lv_bipush (v := nI 6) hx hb dX4_does_162 (by decide) ?_
  refine lv_aload_n hx hb dX4_does_164 rfl (lv_at hl 2 rfl) ?_
  refine va_get (D := G.1) (ci := 4) (v := .ref (a 7)) (C := RX4) (T := TX4) (N := 17) hx hb hts hinX4 hown hKK.1 hP 0 rfl rfl 13 (by decide) fl_28 (fun _ h9 => h9) rfl dX4_does_165 ?_
  refine lv_iconst (v := nI 0) hx hb dX4_does_168 (by decide) ?_
  refine z_iald (n := 2) (f := v 6) (v := v 6 0) hx hb hKK hP 7 rfl (by omega) (by decide) rfl dX4_does_169 ?_
  refine z_top (v := nI t) h60 ?_
  refine z_mul (v := nI (6 * t)) hx hb dX4_does_170 (pk_mul _ _) ?_
  refine lv_aload_n hx hb dX4_does_171 rfl (lv_at hl 2 rfl) ?_
  refine va_get (D := G.1) (ci := 4) (v := .ref (a 7)) (C := RX4) (T := TX4) (N := 17) hx hb hts hinX4 hown hKK.1 hP 0 rfl rfl 13 (by decide) fl_28 (fun _ h9 => h9) rfl dX4_does_172 ?_
  refine lv_iconst (v := nI 1) hx hb dX4_does_175 (by decide) ?_
  refine z_iald (n := 2) (f := v 6) (v := v 6 1) hx hb hKK hP 7 rfl (by omega) (by decide) rfl dX4_does_176 ?_
  refine z_top (v := nI c0) h61 ?_
  refine z_add (v := nI ((6 * t) + c0)) hx hb dX4_does_177 (nI_add _ _) ?_
  refine lv_iload_n hx hb dX4_does_178 rfl (lv_at hl 1 rfl) ?_
  refine z_callVI (As := [.int (nI ((6 * t) + c0)), .int (nI n)]) (rest := []) (wr := []) (C := RX4) F (c_X4_puts_e l G a v y ((6 * t) + c0) n (by omega) hn he9) (cwV 2 hts gX4_does_X4_puts rfl rfl rfl (by decide +kernel) ⟨Nat.le_of_ble_eq_true rfl, Nat.le_of_ble_eq_true rfl⟩) hKK (z_recv hKK hP (q0 := 0) (ci := 4) rfl rfl) hP hD hS hA rfl hl.1 rfl (Nat.le_of_ble_eq_true rfl) ⟨Nat.zero_le _, Nat.zero_le _⟩ dX4_does_179 (fun H locs hP hD hS => ?_)
  have hP : va_P G.1 vwCl (modW G a (mrow v 0 (mPut1 (v 0) ((6 * t) + c0) n)) y) H := hP
  have hD : va_D A (modW G a (mrow v 0 (mPut1 (v 0) ((6 * t) + c0) n)) y) := hD
  refine lv_pop hx hb dX4_does_182 rfl ?_
  refine lv_iload_n hx hb dX4_does_183 rfl (lv_at hl 0 rfl) ?_
  exact z_zret hx hb hr hlk hP hD hS dX4_does_184 (by decide) rfl rfl

set_option maxHeartbeats 4000000 in
set_option maxRecDepth 100000 in
theorem c_X4_does_eo (l : Launch) (G : ZG) (a : Nat → Nat) (v : Mem) (y : Nat → Nat) (n : Nat) (hn : n < 40) (h : zNum (rN (v 0)) (nI (y 6)) = nI n) (hu : ¬ nI 999 ≤ v 0 (44 + n)) (t c0 : Nat) (ht : t ≤ 2) (hc0 : c0 ≤ 5) (h60 : v 6 0 = nI t) (h61 : v 6 1 = nI c0) (q0 : Nat) (hq0 : q0 < 40) (he9 : v 0 (124 + (6 * t + c0)) = nI q0) : CI l G yX4_does wsX4_does (zRm 4 92) [.ref (a 0), .int (nI 61)] (modW G a v y) (bI (true)) (modW G a (mrow v 0 (mGive (mPut1 (v 0) (6 * t + c0) n) q0)) y) := by
  refine CI.ent (cc := cX4_does) (maxL := 4) (ty := .boolean) (own := RX4) (by decide) rfl rfl (Nat.le_of_ble_eq_true rfl) ?_
  intro p ee s m args below meth c A ls F hr hlk hKK hP hD hA hS hl
  obtain ⟨hx, hb, hml, hown, hts⟩ := id F
  have hl : lv_has ls 4 [(0, .ref (a 0)), (1, .int (nI 61))] := hl
  have fl_7 := hts (.fieldLink RX4 7 "NameRollsModel" "now" "[I") (by decide +kernel)
  have fl_28 := hts (.fieldLink RX4 28 "NameRollsModel" "digits" "[I") (by decide +kernel)
  have fl_143 := hts (.fieldLink RX4 143 "NameRollsModel" "word" "I") (by decide +kernel)
  have hinX4 : ∀ w ∈ wsX40, w ∈ wsX4_does := by decide +kernel
  refine lv_aload_n hx hb dX4_does_0 rfl (lv_at hl 0 rfl) ?_
  refine lv_aload_n hx hb dX4_does_1 rfl (lv_at hl 0 rfl) ?_
  refine va_get (D := G.1) (ci := 4) (v := .int (nI (y 6))) (C := RX4) (T := TX4) (N := 17) hx hb hts hinX4 hown hKK.1 hP 0 rfl rfl 12 (by decide) fl_143 (fun _ h9 => h9) rfl dX4_does_2 ?_
  refine z_callVI (As := [.int (nI (y 6))]) (rest := []) (wr := []) (C := RX4) F (c_X4_numberWith l G a v y (nI (y 6))) (cwV 1 hts gX4_does_X4_numberWith rfl rfl rfl (by decide +kernel) ⟨Nat.le_of_ble_eq_true rfl, Nat.le_of_ble_eq_true rfl⟩) hKK (z_recv hKK hP (q0 := 0) (ci := 4) rfl rfl) hP hD hS hA rfl hl.1 rfl (Nat.le_of_ble_eq_true rfl) ⟨Nat.zero_le _, Nat.zero_le _⟩ dX4_does_5 (fun H locs hP hD hS => ?_)
  have hP : va_P G.1 vwCl (modW G a v y) H := hP
  have hD : va_D A (modW G a v y) := hD
  refine z_top (v := nI n) h ?_
  refine lv_istore_n (lv' := [(2, .int (nI n)), (0, .ref (a 0)), (1, .int (nI 61))]) hx hb dX4_does_8 rfl hl (by decide) rfl (fun ls hl => ?_)
  refine lv_iload_n hx hb dX4_does_9 rfl (lv_at hl 2 rfl) ?_
  refine lv_bipush (v := nI 33) hx hb dX4_does_10 (by decide) ?_
  refine z_ne (tgt := 50) hx hb dX4_does_12 (by decide) (by omega) (by omega) (fun c_1 => ?_) (fun c_1 => absurd c_1 (by decide))
  refine lv_iload_n hx hb dX4_does_50 rfl (lv_at hl 2 rfl) ?_
  refine lv_bipush (v := nI 43) hx hb dX4_does_51 (by decide) ?_
  refine z_ne (tgt := 80) hx hb dX4_does_53 (by decide) (by omega) (by omega) (fun c_2 => ?_) (fun c_2 => absurd c_2 (by decide))
  refine lv_iload_n hx hb dX4_does_80 rfl (lv_at hl 0 rfl) ?_
  refine z_ifNge (tgt := 86) hx hb dX4_does_81 (by decide) (by omega) (fun c_3 => ?_) (fun c_3 => absurd c_3 (Nat.not_lt_zero _))
  refine lv_iload_n hx hb dX4_does_86 rfl (lv_at hl 2 rfl) ?_
  refine lv_bipush (v := nI 45) hx hb dX4_does_87 (by decide) ?_
  refine z_ne (tgt := 117) hx hb dX4_does_89 (by decide) (by omega) (by omega) (fun c_4 => ?_) (fun c_4 => absurd c_4 (by decide))
  refine lv_aload_n hx hb dX4_does_117 rfl (lv_at hl 1 rfl) ?_
  refine va_get (D := G.1) (ci := 4) (v := .ref (a 1)) (C := RX4) (T := TX4) (N := 17) hx hb hts hinX4 hown hKK.1 hP 0 rfl rfl 0 (by decide) fl_7 (fun _ h9 => h9) rfl dX4_does_118 ?_
  refine lv_bipush (v := nI 44) hx hb dX4_does_121 (by decide) ?_
  refine lv_iload_n hx hb dX4_does_123 rfl (lv_at hl 0 rfl) ?_
  refine z_add (v := nI (44 + n)) hx hb dX4_does_124 (nI_add _ _) ?_
  refine z_iald (n := 511) (f := v 0) (v := v 0 (44 + n)) hx hb hKK hP 1 rfl (by omega) (by decide) rfl dX4_does_125 ?_
  refine lv_sipush (v := nI 999) hx hb dX4_does_126 (by decide) ?_
  refine lv_icmp_ge (tgt := 136) hx hb dX4_does_129 (by decide) (fun c_5 => absurd c_5 hu) (fun c_5 => ?_)
  refine lv_iconst (v := nI 1) hx hb dX4_does_132 (by decide) ?_
  refine lv_goto (tgt := 137) hx hb dX4_does_133 (by decide) ?_
  refine lv_istore_n (lv' := [(3, .int (nI 1)), (2, .int (nI n)), (0, .ref (a 0)), (1, .int (nI 61))]) hx hb dX4_does_137 rfl hl (by decide) rfl (fun ls hl => ?_)
  refine lv_iload_n hx hb dX4_does_138 rfl (lv_at hl 0 rfl) ?_
  refine z_ifNeq (tgt := 157) hx hb dX4_does_139 (by decide) (by omega) (fun c_6 => absurd c_6 (by decide)) (fun c_6 => ?_)
  refine lv_iload_n hx hb dX4_does_142 rfl (lv_at hl 3 rfl) ?_
  refine lv_bipush (v := nI 45) hx hb dX4_does_143 (by decide) ?_
  refine z_ne (tgt := 157) hx hb dX4_does_145 (by decide) (by omega) (by omega) (fun c_7 => ?_) (fun c_7 => absurd c_7 (by decide))
  refine lv_iload_n hx hb dX4_does_157 rfl (lv_at hl 0 rfl) ?_
  refine z_ifNeq (tgt := 183) hx hb dX4_does_158 (by decide) (by omega) (fun c_8 => absurd c_8 (by decide)) (fun c_8 => ?_)
  refine lv_aload_n hx hb dX4_does_161 rfl (lv_at hl 2 rfl) ?_
  refine lv_bipush (v := nI 6) hx hb dX4_does_162 (by decide) ?_
  refine lv_aload_n hx hb dX4_does_164 rfl (lv_at hl 2 rfl) ?_
  refine va_get (D := G.1) (ci := 4) (v := .ref (a 7)) (C := RX4) (T := TX4) (N := 17) hx hb hts hinX4 hown hKK.1 hP 0 rfl rfl 13 (by decide) fl_28 (fun _ h9 => h9) rfl dX4_does_165 ?_
  refine lv_iconst (v := nI 0) hx hb dX4_does_168 (by decide) ?_
  refine z_iald (n := 2) (f := v 6) (v := v 6 0) hx hb hKK hP 7 rfl (by omega) (by decide) rfl dX4_does_169 ?_
  refine z_top (v := nI t) h60 ?_
  refine z_mul (v := nI (6 * t)) hx hb dX4_does_170 (pk_mul _ _) ?_
  refine lv_aload_n hx hb dX4_does_171 rfl (lv_at hl 2 rfl) ?_
  refine va_get (D := G.1) (ci := 4) (v := .ref (a 7)) (C := RX4) (T := TX4) (N := 17) hx hb hts hinX4 hown hKK.1 hP 0 rfl rfl 13 (by decide) fl_28 (fun _ h9 => h9) rfl dX4_does_172 ?_
  refine lv_iconst (v := nI 1) hx hb dX4_does_175 (by decide) ?_
  refine z_iald (n := 2) (f := v 6) (v := v 6 1) hx hb hKK hP 7 rfl (by omega) (by decide) rfl dX4_does_176 ?_
  refine z_top (v := nI c0) h61 ?_
  refine z_add (v := nI ((6 * t) + c0)) hx hb dX4_does_177 (nI_add _ _) ?_
  refine lv_iload_n hx hb dX4_does_178 rfl (lv_at hl 1 rfl) ?_
  refine z_callVI (As := [.int (nI ((6 * t) + c0)), .int (nI n)]) (rest := []) (wr := []) (C := RX4) F (c_X4_puts_o l G a v y ((6 * t) + c0) n q0 (by omega) hn hq0 he9) (cwV 2 hts gX4_does_X4_puts rfl rfl rfl (by decide +kernel) ⟨Nat.le_of_ble_eq_true rfl, Nat.le_of_ble_eq_true rfl⟩) hKK (z_recv hKK hP (q0 := 0) (ci := 4) rfl rfl) hP hD hS hA rfl hl.1 rfl (Nat.le_of_ble_eq_true rfl) ⟨Nat.zero_le _, Nat.zero_le _⟩ dX4_does_179 (fun H locs hP hD hS => ?_)
  have hP : va_P G.1 vwCl (modW G a (mrow v 0 (mGive (mPut1 (v 0) ((6 * t) + c0) n) q0)) y) H := hP
  have hD : va_D A (modW G a (mrow v 0 (mGive (mPut1 (v 0) ((6 * t) + c0) n) q0)) y) := hD
  refine lv_pop hx hb dX4_does_182 rfl ?_
  refine lv_iload_n hx hb dX4_does_183 rfl (lv_at hl 0 rfl) ?_
  exact z_zret hx hb hr hlk hP hD hS dX4_does_184 (by decide) rfl rfl
