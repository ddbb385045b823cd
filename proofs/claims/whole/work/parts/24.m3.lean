theorem c_X4_within_N (l : Launch) (G : ZG) (x lo hi : Nat) (ha : x < 2 ^ 31) (hl : lo < 2 ^ 31) (hh : hi < 2 ^ 31) : CI l G yX4_within wsX4_within (zRm 0 0) [.int (nI x), .int (nI lo), .int (nI hi)] ([]) (bI (decide (lo ≤ x) && decide (x ≤ hi))) ([]) := by
  have h := c_X4_within l G (nI x) lo hi
  rw [zWi_N ha hl hh] at h
  exact h

set_option maxHeartbeats 4000000 in
set_option maxRecDepth 100000 in
theorem c_X4_letter (l : Launch) (G : ZG) (a : Nat → Nat) (v : Mem) (y : Nat → Nat) (k : Nat) (hk : k < 2 ^ 31) (tl : Nat) (hL : y 1 = tl) (hL6 : tl ≤ 60) (hT : okTx (v 3)) : CI l G yX4_letter wsX4_letter (zRm 0 0) [.ref (a 0), .int (nI k)] (modW G a v y) (nI (sgT (v 3) tl k)) (modW G a v y) := by
  refine CI.ent (cc := cX4_letter) (maxL := 2) (ty := .int) (own := RX4) (by decide) rfl rfl (Nat.le_of_ble_eq_true rfl) ?_
  intro p ee s m args below meth c A ls F hr hlk hKK hP hD hA hS hl
  obtain ⟨hx, hb, hml, hown, hts⟩ := id F
  have hl : lv_has ls 2 [(0, .ref (a 0)), (1, .int (nI k))] := hl
  have fl_19 := hts (.fieldLink RX4 19 "NameRollsModel" "text" "[I") (by decide +kernel)
  have fl_131 := hts (.fieldLink RX4 131 "NameRollsModel" "length" "I") (by decide +kernel)
  have hinX4 : ∀ w ∈ wsX40, w ∈ wsX4_letter := by decide +kernel
  refine lv_iload_n hx hb dX4_letter_0 rfl (lv_at hl 1 rfl) ?_
  refine lv_aload_n hx hb dX4_letter_1 rfl (lv_at hl 0 rfl) ?_
  refine va_get (D := G.1) (ci := 4) (v := .int (nI (y 1))) (C := RX4) (T := TX4) (N := 17) hx hb hts hinX4 hown hKK.1 hP 0 rfl rfl 5 (by decide) fl_131 (fun _ h9 => h9) rfl dX4_letter_2 ?_
  refine z_top (v := nI tl) (by rw [hL]) ?_
  refine z_ge (tgt := 17) hx hb dX4_letter_5 (by decide) (by omega) (by omega) (fun c_1 => ?_) (fun c_1 => ?_)
  · skip
    refine lv_iconst (v := nI 0) hx hb dX4_letter_17 (by decide) ?_
    exact z_iret hx hb hr hlk hP hD hS dX4_letter_18 (by rw [sgT, if_neg (by omega)]) rfl
  · skip
    refine lv_aload_n hx hb dX4_letter_8 rfl (lv_at hl 0 rfl) ?_
    refine va_get (D := G.1) (ci := 4) (v := .ref (a 4)) (C := RX4) (T := TX4) (N := 17) hx hb hts hinX4 hown hKK.1 hP 0 rfl rfl 4 (by decide) fl_19 (fun _ h9 => h9) rfl dX4_letter_9 ?_
    refine lv_iload_n hx hb dX4_letter_12 rfl (lv_at hl 1 rfl) ?_
    refine z_iald (n := 60) (f := v 3) (v := v 3 k) hx hb hKK hP 4 rfl (by omega) (by decide) rfl dX4_letter_13 ?_
    refine z_top (v := nI ((v 3 k).toNatClampNeg)) (hT _ (by omega)).1 ?_
    refine lv_goto (tgt := 18) hx hb dX4_letter_14 (by decide) ?_
    exact z_iret hx hb hr hlk hP hD hS dX4_letter_18 (by rw [sgT, if_pos c_1]) rfl

set_option maxHeartbeats 4000000 in
set_option maxRecDepth 100000 in
theorem c_X4_passes_t (l : Launch) (G : ZG) (a : Nat → Nat) (v : Mem) (y : Nat → Nat) (ch : Nat) (hch : ch < 65536) (he4 : y 4 < 2 ^ 20) (tl : Nat) (hL : y 1 = tl) (hL6 : tl ≤ 60) (hT : okTx (v 3)) (h : sgT (v 3) tl (y 4) = ch) : CI l G yX4_passes wsX4_passes (zRm 1 21) [.ref (a 0), .int (nI ch)] (modW G a v y) (bI (true)) (modW G a v (nup y 4 (y 4 + 1))) := by
  refine CI.ent (cc := cX4_passes) (maxL := 3) (ty := .boolean) (own := RX4) (by decide) rfl rfl (Nat.le_of_ble_eq_true rfl) ?_
  intro p ee s m args below meth c A ls F hr hlk hKK hP hD hA hS hl
  obtain ⟨hx, hb, hml, hown, hts⟩ := id F
  have hl : lv_has ls 3 [(0, .ref (a 0)), (1, .int (nI ch))] := hl
  have fl_134 := hts (.fieldLink RX4 134 "NameRollsModel" "end" "I") (by decide +kernel)
  have hinX4 : ∀ w ∈ wsX40, w ∈ wsX4_passes := by decide +kernel
  refine lv_aload_n hx hb dX4_passes_0 rfl (lv_at hl 0 rfl) ?_
  refine lv_aload_n hx hb dX4_passes_1 rfl (lv_at hl 0 rfl) ?_
  refine va_get (D := G.1) (ci := 4) (v := .int (nI (y 4))) (C := RX4) (T := TX4) (N := 17) hx hb hts hinX4 hown hKK.1 hP 0 rfl rfl 10 (by decide) fl_134 (fun _ h9 => h9) rfl dX4_passes_2 ?_
  refine z_callVI (As := [.int (nI (y 4))]) (rest := []) (wr := []) (C := RX4) F (c_X4_letter l G a v y (y 4) (by omega) tl (by exact hL) hL6 (by exact hT)) (cwV 1 hts gX4_passes_X4_letter rfl rfl rfl (by decide +kernel) ⟨Nat.le_of_ble_eq_true rfl, Nat.le_of_ble_eq_true rfl⟩) hKK (z_recv hKK hP (q0 := 0) (ci := 4) rfl rfl) hP hD hS hA rfl hl.1 rfl (Nat.le_of_ble_eq_true rfl) ⟨Nat.zero_le _, Nat.zero_le _⟩ dX4_passes_5 (fun H locs hP hD hS => ?_)
  have hP : va_P G.1 vwCl (modW G a v y) H := hP
  have hD : va_D A (modW G a v y) := hD
  refine lv_iload_n hx hb dX4_passes_8 rfl (lv_at hl 1 rfl) ?_
  refine z_ne (tgt := 16) hx hb dX4_passes_9 (by decide) (Nat.lt_trans (sgT_lt hT hL6 _) (by decide)) (by omega) (fun c_1 => absurd h c_1) (fun c_1 => ?_)
  refine lv_iconst (v := nI 1) hx hb dX4_passes_12 (by decide) ?_
  refine lv_goto (tgt := 17) hx hb dX4_passes_13 (by decide) ?_
  refine lv_istore_n (lv' := [(2, .int (nI 1)), (0, .ref (a 0)), (1, .int (nI ch))]) hx hb dX4_passes_17 rfl hl (by decide) rfl (fun ls hl => ?_)
  refine lv_aload_n hx hb dX4_passes_18 rfl (lv_at hl 1 rfl) ?_
  refine lv_dup hx hb dX4_passes_19 rfl ?_
  refine va_get (D := G.1) (ci := 4) (v := .int (nI (y 4))) (C := RX4) (T := TX4) (N := 17) hx hb hts hinX4 hown hKK.1 hP 0 rfl rfl 10 (by decide) fl_134 (fun _ h9 => h9) rfl dX4_passes_20 ?_
  refine lv_iload_n hx hb dX4_passes_23 rfl (lv_at hl 0 rfl) ?_
  refine z_ifNeq (tgt := 31) hx hb dX4_passes_24 (by decide) (by omega) (fun c_2 => absurd c_2 (by decide)) (fun c_2 => ?_)
  refine lv_iconst (v := nI 1) hx hb dX4_passes_27 (by decide) ?_
  refine lv_goto (tgt := 32) hx hb dX4_passes_28 (by decide) ?_
  refine z_add (v := nI ((y 4) + 1)) hx hb dX4_passes_32 (nI_add _ _) ?_
  refine z_put (w2 := modW G a v (nup y 4 ((y 4) + 1))) hx hb hts hinX4 tyX4 tyX4_ok nmX4 hown hKK hP hD hS 0 (ci := 4) (C := RX4) (T := TX4) (N := 17) rfl rfl 10 (by decide) fl_134 rfl rfl rfl (Nat.le_of_ble_eq_true rfl) rfl dX4_passes_33 (fun H locs hP hD hS => ?_)
  refine lv_iload_n hx hb dX4_passes_36 rfl (lv_at hl 0 rfl) ?_
  exact z_zret hx hb hr hlk hP hD hS dX4_passes_37 (by decide) rfl rfl

set_option maxHeartbeats 4000000 in
set_option maxRecDepth 100000 in
theorem c_X4_passes_f (l : Launch) (G : ZG) (a : Nat → Nat) (v : Mem) (y : Nat → Nat) (ch : Nat) (hch : ch < 65536) (he4 : y 4 < 2 ^ 20) (tl : Nat) (hL : y 1 = tl) (hL6 : tl ≤ 60) (hT : okTx (v 3)) (h : ¬ sgT (v 3) tl (y 4) = ch) : CI l G yX4_passes wsX4_passes (zRm 1 21) [.ref (a 0), .int (nI ch)] (modW G a v y) (bI (false)) (modW G a v y) := by
  refine CI.ent (cc := cX4_passes) (maxL := 3) (ty := .boolean) (own := RX4) (by decide) rfl rfl (Nat.le_of_ble_eq_true rfl) ?_
  intro p ee s m args below meth c A ls F hr hlk hKK hP hD hA hS hl
  obtain ⟨hx, hb, hml, hown, hts⟩ := id F
  have hl : lv_has ls 3 [(0, .ref (a 0)), (1, .int (nI ch))] := hl
  have fl_134 := hts (.fieldLink RX4 134 "NameRollsModel" "end" "I") (by decide +kernel)
  have hinX4 : ∀ w ∈ wsX40, w ∈ wsX4_passes := by decide +kernel
  refine lv_aload_n hx hb dX4_passes_0 rfl (lv_at hl 0 rfl) ?_
  refine lv_aload_n hx hb dX4_passes_1 rfl (lv_at hl 0 rfl) ?_
  refine va_get (D := G.1) (ci := 4) (v := .int (nI (y 4))) (C := RX4) (T := TX4) (N := 17) hx hb hts hinX4 hown hKK.1 hP 0 rfl rfl 10 (by decide) fl_134 (fun _ h9 => h9) rfl dX4_passes_2 ?_
  refine z_callVI (As := [.int (nI (y 4))]) (rest := []) (wr := []) (C := RX4) F (c_X4_letter l G a v y (y 4) (by omega) tl (by exact hL) hL6 (by exact hT)) (cwV 1 hts gX4_passes_X4_letter rfl rfl rfl (by decide +kernel) ⟨Nat.le_of_ble_eq_true rfl, Nat.le_of_ble_eq_true rfl⟩) hKK (z_recv hKK hP (q0 := 0) (ci := 4) rfl rfl) hP hD hS hA rfl hl.1 rfl (Nat.le_of_ble_eq_true rfl) ⟨Nat.zero_le _, Nat.zero_le _⟩ dX4_passes_5 (fun H locs hP hD hS => ?_)
  have hP : va_P G.1 vwCl (modW G a v y) H := hP
  have hD : va_D A (modW G a v y) := hD
  refine lv_iload_n hx hb dX4_passes_8 rfl (lv_at hl 1 rfl) ?_
  refine z_ne (tgt := 16) hx hb dX4_passes_9 (by decide) (Nat.lt_trans (sgT_lt hT hL6 _) (by decide)) (by omega) (fun c_1 => ?_) (fun c_1 => absurd c_1 h)
  refine lv_iconst (v := nI 0) hx hb dX4_passes_16 (by decide) ?_
  refine lv_istore_n (lv' := [(2, .int (nI 0)), (0, .ref (a 0)), (1, .int (nI ch))]) hx hb dX4_passes_17 rfl hl (by decide) rfl (fun ls hl => ?_)
  refine lv_aload_n hx hb dX4_passes_18 rfl (lv_at hl 1 rfl) ?_
  refine lv_dup hx hb dX4_passes_19 rfl ?_
  refine va_get (D := G.1) (ci := 4) (v := .int (nI (y 4))) (C := RX4) (T := TX4) (N := 17) hx hb hts hinX4 hown hKK.1 hP 0 rfl rfl 10 (by decide) fl_134 (fun _ h9 => h9) rfl dX4_passes_20 ?_
  refine lv_iload_n hx hb dX4_passes_23 rfl (lv_at hl 0 rfl) ?_
  refine z_ifNeq (tgt := 31) hx hb dX4_passes_24 (by decide) (by omega) (fun c_2 => ?_) (fun c_2 => absurd c_2 (by decide))
  refine lv_iconst (v := nI 0) hx hb dX4_passes_31 (by decide) ?_
  refine z_add (v := nI (y 4)) hx hb dX4_passes_32 (nI_add _ 0) ?_
  refine z_put (w2 := modW G a v y) hx hb hts hinX4 tyX4 tyX4_ok nmX4 hown hKK hP hD hS 0 (ci := 4) (C := RX4) (T := TX4) (N := 17) rfl rfl 10 (by decide) fl_134 rfl rfl rfl (Nat.le_of_ble_eq_true rfl) rfl dX4_passes_33 (fun H locs hP hD hS => ?_)
  refine lv_iload_n hx hb dX4_passes_36 rfl (lv_at hl 0 rfl) ?_
  exact z_zret hx hb hr hlk hP hD hS dX4_passes_37 (by decide) rfl rfl

set_option maxHeartbeats 4000000 in
set_option maxRecDepth 100000 in
theorem c_X4_digit_t (l : Launch) (G : ZG) (a : Nat → Nat) (v : Mem) (y : Nat → Nat) (k : Nat) (hk : k < 2) (he4 : y 4 < 2 ^ 20) (tl : Nat) (hL : y 1 = tl) (hL6 : tl ≤ 60) (hT : okTx (v 3)) (h : dgB (sgT (v 3) tl (y 4)) = true) : CI l G yX4_digit wsX4_digit (zRm 1 22) [.ref (a 0), .int (nI k)] (modW G a v y) (bI (true)) (modW G a (mrow v 6 (upd (v 6) k (nI (sgT (v 3) tl (y 4) - 48)))) (nup y 4 (y 4 + 1))) := by
  refine CI.ent (cc := cX4_digit) (maxL := 3) (ty := .boolean) (own := RX4) (by decide) rfl rfl (Nat.le_of_ble_eq_true rfl) ?_
  intro p ee s m args below meth c A ls F hr hlk hKK hP hD hA hS hl
  obtain ⟨hx, hb, hml, hown, hts⟩ := id F
  have hl : lv_has ls 3 [(0, .ref (a 0)), (1, .int (nI k))] := hl
  have fl_28 := hts (.fieldLink RX4 28 "NameRollsModel" "digits" "[I") (by decide +kernel)
  have fl_134 := hts (.fieldLink RX4 134 "NameRollsModel" "end" "I") (by decide +kernel)
  have hinX4 : ∀ w ∈ wsX40, w ∈ wsX4_digit := by decide +kernel
  refine lv_aload_n hx hb dX4_digit_0 rfl (lv_at hl 0 rfl) ?_
  refine lv_aload_n hx hb dX4_digit_1 rfl (lv_at hl 0 rfl) ?_
  refine va_get (D := G.1) (ci := 4) (v := .int (nI (y 4))) (C := RX4) (T := TX4) (N := 17) hx hb hts hinX4 hown hKK.1 hP 0 rfl rfl 10 (by decide) fl_134 (fun _ h9 => h9) rfl dX4_digit_2 ?_
  refine z_callVI (As := [.int (nI (y 4))]) (rest := []) (wr := []) (C := RX4) F (c_X4_letter l G a v y (y 4) (by omega) tl (by exact hL) hL6 (by exact hT)) (cwV 1 hts gX4_digit_X4_letter rfl rfl rfl (by decide +kernel) ⟨Nat.le_of_ble_eq_true rfl, Nat.le_of_ble_eq_true rfl⟩) hKK (z_recv hKK hP (q0 := 0) (ci := 4) rfl rfl) hP hD hS hA rfl hl.1 rfl (Nat.le_of_ble_eq_true rfl) ⟨Nat.zero_le _, Nat.zero_le _⟩ dX4_digit_5 (fun H locs hP hD hS => ?_)
  have hP : va_P G.1 vwCl (modW G a v y) H := hP
  have hD : va_D A (modW G a v y) := hD
  refine lv_bipush (v := nI 48) hx hb dX4_digit_8 (by decide) ?_
  refine lv_bipush (v := nI 57) hx hb dX4_digit_10 (by decide) ?_
  refine z_callSI (As := [.int (nI (sgT (v 3) tl (y 4))), .int (nI 48), .int (nI 57)]) (rest := []) F (c_X4_within_N l G (sgT (v 3) tl (y 4)) (48) (57) (Nat.lt_trans (sgT_lt hT hL6 _) (by decide)) (by decide) (by decide)) (va_cwS 3 hts gX4_digit_X4_within rfl rfl rfl (by decide +kernel) ⟨Nat.le_of_ble_eq_true rfl, Nat.le_of_ble_eq_true rfl⟩) hKK hP hD hS hA rfl hl.1 rfl (Nat.le_of_ble_eq_true rfl) ⟨Nat.zero_le _, Nat.zero_le _⟩ dX4_digit_12 (fun H locs hP hD hS => ?_)
  refine z_top (v := bI (dgB (sgT (v 3) tl (y 4)))) rfl ?_
  refine lv_istore_n (lv' := [(2, .int (bI (dgB (sgT (v 3) tl (y 4))))), (0, .ref (a 0)), (1, .int (nI k))]) hx hb dX4_digit_15 rfl hl (by decide) rfl (fun ls hl => ?_)
  refine lv_aload_n hx hb dX4_digit_16 rfl (lv_at hl 1 rfl) ?_
  refine va_get (D := G.1) (ci := 4) (v := .ref (a 7)) (C := RX4) (T := TX4) (N := 17) hx hb hts hinX4 hown hKK.1 hP 0 rfl rfl 13 (by decide) fl_28 (fun _ h9 => h9) rfl dX4_digit_17 ?_
  refine lv_iload_n hx hb dX4_digit_20 rfl (lv_at hl 2 rfl) ?_
  refine lv_iload_n hx hb dX4_digit_21 rfl (lv_at hl 0 rfl) ?_
  refine z_ifBeq (tgt := 39) hx hb dX4_digit_22 (by decide) (fun c_1 => absurd (h.symm.trans c_1) (by decide)) (fun c_1 => ?_)
  have h48 := dgB_t c_1
  refine lv_aload_n hx hb dX4_digit_25 rfl (lv_at hl 1 rfl) ?_
  refine lv_aload_n hx hb dX4_digit_26 rfl (lv_at hl 1 rfl) ?_
  refine va_get (D := G.1) (ci := 4) (v := .int (nI (y 4))) (C := RX4) (T := TX4) (N := 17) hx hb hts hinX4 hown hKK.1 hP 0 rfl rfl 10 (by decide) fl_134 (fun _ h9 => h9) rfl dX4_digit_27 ?_
  refine z_callVI (As := [.int (nI (y 4))]) (rest := [.int (nI k), .ref (a 7)]) (wr := []) (C := RX4) F (c_X4_letter l G a v y (y 4) (by omega) tl (by exact hL) hL6 (by exact hT)) (cwV 1 hts gX4_digit_X4_letter rfl rfl rfl (by decide +kernel) ⟨Nat.le_of_ble_eq_true rfl, Nat.le_of_ble_eq_true rfl⟩) hKK (z_recv hKK hP (q0 := 0) (ci := 4) rfl rfl) hP hD hS hA rfl hl.1 rfl (Nat.le_of_ble_eq_true rfl) ⟨Nat.zero_le _, Nat.zero_le _⟩ dX4_digit_30 (fun H locs hP hD hS => ?_)
  have hP : va_P G.1 vwCl (modW G a v y) H := hP
  have hD : va_D A (modW G a v y) := hD
  refine lv_bipush (v := nI 48) hx hb dX4_digit_33 (by decide) ?_
  refine z_sub (v := nI ((sgT (v 3) tl (y 4)) - 48)) hx hb dX4_digit_35 (pk_sub (by omega)) ?_
  refine lv_goto (tgt := 40) hx hb dX4_digit_36 (by decide) ?_
  refine z_iast (n := 2) (f := v 6) (w2 := modW G a (mrow v 6 (upd (v 6) k (nI ((sgT (v 3) tl (y 4)) - 48)))) y) hx hb hKK hP hD hS 7 rfl (by omega) (by decide) rfl dX4_digit_40 (fun H locs hP hD hS => ?_)
  refine lv_aload_n hx hb dX4_digit_41 rfl (lv_at hl 1 rfl) ?_
  refine lv_dup hx hb dX4_digit_42 rfl ?_
  refine va_get (D := G.1) (ci := 4) (v := .int (nI (y 4))) (C := RX4) (T := TX4) (N := 17) hx hb hts hinX4 hown hKK.1 hP 0 rfl rfl 10 (by decide) fl_134 (fun _ h9 => h9) rfl dX4_digit_43 ?_
  refine lv_iload_n hx hb dX4_digit_46 rfl (lv_at hl 0 rfl) ?_
  refine z_ifBeq (tgt := 54) hx hb dX4_digit_47 (by decide) (fun c_2 => absurd (h.symm.trans c_2) (by decide)) (fun c_2 => ?_)
  refine lv_iconst (v := nI 1) hx hb dX4_digit_50 (by decide) ?_
  refine lv_goto (tgt := 55) hx hb dX4_digit_51 (by decide) ?_
  refine z_add (v := nI ((y 4) + 1)) hx hb dX4_digit_55 (nI_add _ _) ?_
  refine z_put (w2 := modW G a (mrow v 6 (upd (v 6) k (nI ((sgT (v 3) tl (y 4)) - 48)))) (nup y 4 ((y 4) + 1))) hx hb hts hinX4 tyX4 tyX4_ok nmX4 hown hKK hP hD hS 0 (ci := 4) (C := RX4) (T := TX4) (N := 17) rfl rfl 10 (by decide) fl_134 rfl rfl rfl (Nat.le_of_ble_eq_true rfl) rfl dX4_digit_56 (fun H locs hP hD hS => ?_)
  refine lv_iload_n hx hb dX4_digit_59 rfl (lv_at hl 0 rfl) ?_
  exact z_zret hx hb hr hlk hP hD hS dX4_digit_60 (bI_nar _) (by rw [h]) rfl

set_option maxHeartbeats 4000000 in
set_option maxRecDepth 100000 in
theorem c_X4_digit_f (l : Launch) (G : ZG) (a : Nat → Nat) (v : Mem) (y : Nat → Nat) (k : Nat) (hk : k < 2) (he4 : y 4 < 2 ^ 20) (tl : Nat) (hL : y 1 = tl) (hL6 : tl ≤ 60) (hT : okTx (v 3)) (h : dgB (sgT (v 3) tl (y 4)) = false) : CI l G yX4_digit wsX4_digit (zRm 1 22) [.ref (a 0), .int (nI k)] (modW G a v y) (bI (false)) (modW G a (mrow v 6 (upd (v 6) k (nI 0))) y) := by
  refine CI.ent (cc := cX4_digit) (maxL := 3) (ty := .boolean) (own := RX4) (by decide) rfl rfl (Nat.le_of_ble_eq_true rfl) ?_
  intro p ee s m args below meth c A ls F hr hlk hKK hP hD hA hS hl
  obtain ⟨hx, hb, hml, hown, hts⟩ := id F
  have hl : lv_has ls 3 [(0, .ref (a 0)), (1, .int (nI k))] := hl
  have fl_28 := hts (.fieldLink RX4 28 "NameRollsModel" "digits" "[I") (by decide +kernel)
  have fl_134 := hts (.fieldLink RX4 134 "NameRollsModel" "end" "I") (by decide +kernel)
  have hinX4 : ∀ w ∈ wsX40, w ∈ wsX4_digit := by decide +kernel
  refine lv_aload_n hx hb dX4_digit_0 rfl (lv_at hl 0 rfl) ?_
  refine lv_aload_n hx hb dX4_digit_1 rfl (lv_at hl 0 rfl) ?_
  refine va_get (D := G.1) (ci := 4) (v := .int (nI (y 4))) (C := RX4) (T := TX4) (N := 17) hx hb hts hinX4 hown hKK.1 hP 0 rfl rfl 10 (by decide) fl_134 (fun _ h9 => h9) rfl dX4_digit_2 ?_
  refine z_callVI (As := [.int (nI (y 4))]) (rest := []) (wr := []) (C := RX4) F (c_X4_letter l G a v y (y 4) (by omega) tl (by exact hL) hL6 (by exact hT)) (cwV 1 hts gX4_digit_X4_letter rfl rfl rfl (by decide +kernel) ⟨Nat.le_of_ble_eq_true rfl, Nat.le_of_ble_eq_true rfl⟩) hKK (z_recv hKK hP (q0 := 0) (ci := 4) rfl rfl) hP hD hS hA rfl hl.1 rfl (Nat.le_of_ble_eq_true rfl) ⟨Nat.zero_le _, Nat.zero_le _⟩ dX4_digit_5 (fun H locs hP hD hS => ?_)
  have hP : va_P G.1 vwCl (modW G a v y) H := hP
  have hD : va_D A (modW G a v y) := hD
  refine lv_bipush (v := nI 48) hx hb dX4_digit_8 (by decide) ?_
  refine lv_bipush (v := nI 57) hx hb dX4_digit_10 (by decide) ?_
  refine z_callSI (As := [.int (nI (sgT (v 3) tl (y 4))), .int (nI 48), .int (nI 57)]) (rest := []) F (c_X4_within_N l G (sgT (v 3) tl (y 4)) (48) (57) (Nat.lt_trans (sgT_lt hT hL6 _) (by decide)) (by decide) (by decide)) (va_cwS 3 hts gX4_digit_X4_within rfl rfl rfl (by decide +kernel) ⟨Nat.le_of_ble_eq_true rfl, Nat.le_of_ble_eq_true rfl⟩) hKK hP hD hS hA rfl hl.1 rfl (Nat.le_of_ble_eq_true rfl) ⟨Nat.zero_le _, Nat.zero_le _⟩ dX4_digit_12 (fun H locs hP hD hS => ?_)
  refine z_top (v := bI (dgB (sgT (v 3) tl (y 4)))) rfl ?_
  refine lv_istore_n (lv' := [(2, .int (bI (dgB (sgT (v 3) tl (y 4))))), (0, .ref (a 0)), (1, .int (nI k))]) hx hb dX4_digit_15 rfl hl (by decide) rfl (fun ls hl => ?_)
  refine lv_aload_n hx hb dX4_digit_16 rfl (lv_at hl 1 rfl) ?_
  refine va_get (D := G.1) (ci := 4) (v := .ref (a 7)) (C := RX4) (T := TX4) (N := 17) hx hb hts hinX4 hown hKK.1 hP 0 rfl rfl 13 (by decide) fl_28 (fun _ h9 => h9) rfl dX4_digit_17 ?_
  refine lv_iload_n hx hb dX4_digit_20 rfl (lv_at hl 2 rfl) ?_
  refine lv_iload_n hx hb dX4_digit_21 rfl (lv_at hl 0 rfl) ?_
  refine z_ifBeq (tgt := 39) hx hb dX4_digit_22 (by decide) (fun c_1 => ?_) (fun c_1 => absurd (h.symm.trans c_1) (by decide))
  refine lv_iconst (v := nI 0) hx hb dX4_digit_39 (by decide) ?_
  refine z_iast (n := 2) (f := v 6) (w2 := modW G a (mrow v 6 (upd (v 6) k (nI 0))) y) hx hb hKK hP hD hS 7 rfl (by omega) (by decide) rfl dX4_digit_40 (fun H locs hP hD hS => ?_)
  refine lv_aload_n hx hb dX4_digit_41 rfl (lv_at hl 1 rfl) ?_
  refine lv_dup hx hb dX4_digit_42 rfl ?_
  refine va_get (D := G.1) (ci := 4) (v := .int (nI (y 4))) (C := RX4) (T := TX4) (N := 17) hx hb hts hinX4 hown hKK.1 hP 0 rfl rfl 10 (by decide) fl_134 (fun _ h9 => h9) rfl dX4_digit_43 ?_
  refine lv_iload_n hx hb dX4_digit_46 rfl (lv_at hl 0 rfl) ?_
  refine z_ifBeq (tgt := 54) hx hb dX4_digit_47 (by decide) (fun c_2 => ?_) (fun c_2 => absurd (h.symm.trans c_2) (by decide))
  refine lv_iconst (v := nI 0) hx hb dX4_digit_54 (by decide) ?_
  refine z_add (v := nI (y 4)) hx hb dX4_digit_55 (nI_add _ 0) ?_
  refine z_put (w2 := modW G a (mrow v 6 (upd (v 6) k (nI 0))) y) hx hb hts hinX4 tyX4 tyX4_ok nmX4 hown hKK hP hD hS 0 (ci := 4) (C := RX4) (T := TX4) (N := 17) rfl rfl 10 (by decide) fl_134 rfl rfl rfl (Nat.le_of_ble_eq_true rfl) rfl dX4_digit_56 (fun H locs hP hD hS => ?_)
  refine lv_iload_n hx hb dX4_digit_59 rfl (lv_at hl 0 rfl) ?_
  exact z_zret hx hb hr hlk hP hD hS dX4_digit_60 (bI_nar _) (by rw [h]) rfl

set_option maxHeartbeats 4000000 in
set_option maxRecDepth 100000 in
theorem c_X4_name (l : Launch) (G : ZG) (a : Nat → Nat) (v : Mem) (y : Nat → Nat) (he4 : y 4 < 2 ^ 20) (tl : Nat) (hL : y 1 = tl) (hL6 : tl ≤ 60) (hT : okTx (v 3)) : CI l G yX4_name wsX4_name (zRm 1 22) [.ref (a 0)] (modW G a v y) (bI (decide (0 < lc (sgT (v 3) tl) (y 4)))) (modW G a v (nup (nup (nup y 4 (y 4 + lc (sgT (v 3) tl) (y 4))) 5 (lc (sgT (v 3) tl) (y 4))) 6 (wv (sgT (v 3) tl) (y 4) (lc (sgT (v 3) tl) (y 4))))) := by
  refine CI.ent (cc := cX4_name) (maxL := 1) (ty := .boolean) (own := RX4) (by decide) rfl rfl (Nat.le_of_ble_eq_true rfl) ?_
  intro p ee s m args below meth c A ls F hr hlk hKK hP hD hA hS hl
  obtain ⟨hx, hb, hml, hown, hts⟩ := id F
  have hl : lv_has ls 1 [(0, .ref (a 0))] := hl
  have fl_134 := hts (.fieldLink RX4 134 "NameRollsModel" "end" "I") (by decide +kernel)
  have fl_140 := hts (.fieldLink RX4 140 "NameRollsModel" "letters" "I") (by decide +kernel)
  have fl_143 := hts (.fieldLink RX4 143 "NameRollsModel" "word" "I") (by decide +kernel)
  have hinX4 : ∀ w ∈ wsX40, w ∈ wsX4_name := by decide +kernel
  refine lv_aload_n hx hb dX4_name_0 rfl (lv_at hl 0 rfl) ?_
  refine lv_iconst (v := nI 0) hx hb dX4_name_1 (by decide) ?_
  refine z_put (w2 := modW G a v (nup y 5 0)) hx hb hts hinX4 tyX4 tyX4_ok nmX4 hown hKK hP hD hS 0 (ci := 4) (C := RX4) (T := TX4) (N := 17) rfl rfl 11 (by decide) fl_140 rfl rfl rfl (Nat.le_of_ble_eq_true rfl) rfl dX4_name_2 (fun H locs hP hD hS => ?_)
  refine lv_aload_n hx hb dX4_name_5 rfl (lv_at hl 0 rfl) ?_
  refine lv_iconst (v := nI 0) hx hb dX4_name_6 (by decide) ?_
  refine z_put (w2 := modW G a v (nup (nup y 5 0) 6 0)) hx hb hts hinX4 tyX4 tyX4_ok nmX4 hown hKK hP hD hS 0 (ci := 4) (C := RX4) (T := TX4) (N := 17) rfl rfl 12 (by decide) fl_143 rfl rfl rfl (Nat.le_of_ble_eq_true rfl) rfl dX4_name_7 (fun H locs hP hD hS => ?_)
  have key_1 : ∀ (nn : Nat) (j : Nat), allL (sgT (v 3) tl) (y 4) j → 61 - j < nn → ∀ (H : Heap) (locs : List Loc) (ls : Array Slot), va_P G.1 vwCl (modW G a v (nup (nup (nup y 4 (y 4 + j)) 5 j) 6 (wv (sgT (v 3) tl) (y 4) j))) H → va_D A (modW G a v (nup (nup (nup y 4 (y 4 + j)) 5 j) 6 (wv (sgT (v 3) tl) (y 4) j))) → va_S A s.heap H locs → lv_has ls 1 [(0, .ref (a 0))] → W p l ee (zRm 1 22) s m args below meth c H locs 0 0 (MQ below (ZQi G A (modW G a v (nup (nup (nup y 4 (y 4 + lc (sgT (v 3) tl) (y 4))) 5 (lc (sgT (v 3) tl) (y 4))) 6 (wv (sgT (v 3) tl) (y 4) (lc (sgT (v 3) tl) (y 4))))) (bI (decide (0 < lc (sgT (v 3) tl) (y 4))))) args s 0 0 A) (F0 m 10 ls []) := by
    intro nn
    induction nn with
    | zero => intro j _ hm; exact absurd hm (Nat.not_lt_zero _)
    | succ nn ih_1 =>
      intro j hall hm H locs ls hP hD hS hl
      have hjl := allL_len hall
      have hwb := wv_lt6 hall
      refine lv_aload_n hx hb dX4_name_10 rfl (lv_at hl 0 rfl) ?_
      refine lv_aload_n hx hb dX4_name_11 rfl (lv_at hl 0 rfl) ?_
      refine va_get (D := G.1) (ci := 4) (v := .int (nI (y 4 + j))) (C := RX4) (T := TX4) (N := 17) hx hb hts hinX4 hown hKK.1 hP 0 rfl rfl 10 (by decide) fl_134 (fun _ h9 => h9) rfl dX4_name_12 ?_
      refine z_callVI (As := [.int (nI (y 4 + j))]) (rest := []) (wr := []) (C := RX4) F (c_X4_letter l G a v (nup (nup (nup y 4 (y 4 + j)) 5 j) 6 (wv (sgT (v 3) tl) (y 4) j)) (y 4 + j) (by omega) tl (by exact hL) hL6 (by exact hT)) (cwV 1 hts gX4_name_X4_letter rfl rfl rfl (by decide +kernel) ⟨Nat.le_of_ble_eq_true rfl, Nat.le_of_ble_eq_true rfl⟩) hKK (z_recv hKK hP (q0 := 0) (ci := 4) rfl rfl) hP hD hS hA rfl hl.1 rfl (Nat.le_of_ble_eq_true rfl) ⟨Nat.zero_le _, Nat.zero_le _⟩ dX4_name_15 (fun H locs hP hD hS => ?_)
      have hP : va_P G.1 vwCl (modW G a v (nup (nup (nup y 4 (y 4 + j)) 5 j) 6 (wv (sgT (v 3) tl) (y 4) j))) H := hP
      have hD : va_D A (modW G a v (nup (nup (nup y 4 (y 4 + j)) 5 j) 6 (wv (sgT (v 3) tl) (y 4) j))) := hD
      refine lv_bipush (v := nI 97) hx hb dX4_name_18 (by decide) ?_
      refine lv_bipush (v := nI 122) hx hb dX4_name_20 (by decide) ?_
      refine z_callSI (As := [.int (nI (sgT (v 3) tl (y 4 + j))), .int (nI 97), .int (nI 122)]) (rest := []) F (c_X4_within_N l G (sgT (v 3) tl (y 4 + j)) (97) (122) (Nat.lt_trans (sgT_lt hT hL6 _) (by decide)) (by decide) (by decide)) (va_cwS 3 hts gX4_name_X4_within rfl rfl rfl (by decide +kernel) ⟨Nat.le_of_ble_eq_true rfl, Nat.le_of_ble_eq_true rfl⟩) hKK hP hD hS hA rfl hl.1 rfl (Nat.le_of_ble_eq_true rfl) ⟨Nat.zero_le _, Nat.zero_le _⟩ dX4_name_22 (fun H locs hP hD hS => ?_)
      refine z_ifBeq (tgt := 92) hx hb dX4_name_25 (by decide) (fun c_2 => ?_) (fun c_2 => ?_)
      · skip
        have hlc := lc_is hL6 hall (fun z => by rw [decide_eq_true z.1, decide_eq_true z.2] at c_2; cases c_2)
        refine lv_aload_n hx hb dX4_name_92 rfl (lv_at hl 0 rfl) ?_
        refine va_get (D := G.1) (ci := 4) (v := .int (nI j)) (C := RX4) (T := TX4) (N := 17) hx hb hts hinX4 hown hKK.1 hP 0 rfl rfl 11 (by decide) fl_140 (fun _ h9 => h9) rfl dX4_name_93 ?_
        refine z_ifNle (tgt := 103) hx hb dX4_name_96 (by decide) (by omega) (fun c_3 => ?_) (fun c_3 => ?_)
        · skip
          refine lv_iconst (v := nI 0) hx hb dX4_name_103 (by decide) ?_
          exact z_zret hx hb hr hlk hP hD hS dX4_name_104 (by decide) (by rw [← hlc]; exact bI_df (by omega)) (by rw [← hlc])
        · skip
          refine lv_iconst (v := nI 1) hx hb dX4_name_99 (by decide) ?_
          refine lv_goto (tgt := 104) hx hb dX4_name_100 (by decide) ?_
          exact z_zret hx hb hr hlk hP hD hS dX4_name_104 (by decide) (by rw [← hlc]; exact bI_dt c_3) (by rw [← hlc])
      · skip
        have hlt : 97 ≤ sgT (v 3) tl (y 4 + j) ∧ sgT (v 3) tl (y 4 + j) ≤ 122 := by rw [Bool.and_eq_true, decide_eq_true_eq, decide_eq_true_eq] at c_2; exact c_2
        refine lv_aload_n hx hb dX4_name_28 rfl (lv_at hl 0 rfl) ?_
        refine lv_aload_n hx hb dX4_name_29 rfl (lv_at hl 0 rfl) ?_
        refine va_get (D := G.1) (ci := 4) (v := .int (nI j)) (C := RX4) (T := TX4) (N := 17) hx hb hts hinX4 hown hKK.1 hP 0 rfl rfl 11 (by decide) fl_140 (fun _ h9 => h9) rfl dX4_name_30 ?_
        refine lv_bipush (v := nI 6) hx hb dX4_name_33 (by decide) ?_
        refine z_ge (tgt := 62) hx hb dX4_name_35 (by decide) (by omega) (by omega) (fun c_4 => ?_) (fun c_4 => ?_)
        · skip
          refine lv_aload_n hx hb dX4_name_62 rfl (lv_at hl 0 rfl) ?_
          refine va_get (D := G.1) (ci := 4) (v := .int (nI (wv (sgT (v 3) tl) (y 4) j))) (C := RX4) (T := TX4) (N := 17) hx hb hts hinX4 hown hKK.1 hP 0 rfl rfl 12 (by decide) fl_143 (fun _ h9 => h9) rfl dX4_name_63 ?_
          refine z_put (w2 := modW G a v (nup (nup (nup y 4 (y 4 + j)) 5 j) 6 (wv (sgT (v 3) tl) (y 4) j))) hx hb hts hinX4 tyX4 tyX4_ok nmX4 hown hKK hP hD hS 0 (ci := 4) (C := RX4) (T := TX4) (N := 17) rfl rfl 12 (by decide) fl_143 rfl rfl rfl (Nat.le_of_ble_eq_true rfl) rfl dX4_name_66 (fun H locs hP hD hS => ?_)
          refine lv_aload_n hx hb dX4_name_69 rfl (lv_at hl 0 rfl) ?_
          refine lv_dup hx hb dX4_name_70 rfl ?_
          refine va_get (D := G.1) (ci := 4) (v := .int (nI j)) (C := RX4) (T := TX4) (N := 17) hx hb hts hinX4 hown hKK.1 hP 0 rfl rfl 11 (by decide) fl_140 (fun _ h9 => h9) rfl dX4_name_71 ?_
          refine lv_iconst (v := nI 1) hx hb dX4_name_74 (by decide) ?_
          refine z_add (v := nI (j + 1)) hx hb dX4_name_75 (nI_add _ _) ?_
          refine z_put (w2 := modW G a v (nup (nup (nup y 4 (y 4 + j)) 5 (j + 1)) 6 (wv (sgT (v 3) tl) (y 4) j))) hx hb hts hinX4 tyX4 tyX4_ok nmX4 hown hKK hP hD hS 0 (ci := 4) (C := RX4) (T := TX4) (N := 17) rfl rfl 11 (by decide) fl_140 rfl rfl rfl (Nat.le_of_ble_eq_true rfl) rfl dX4_name_76 (fun H locs hP hD hS => ?_)
          refine lv_aload_n hx hb dX4_name_79 rfl (lv_at hl 0 rfl) ?_
          refine lv_dup hx hb dX4_name_80 rfl ?_
          refine va_get (D := G.1) (ci := 4) (v := .int (nI (y 4 + j))) (C := RX4) (T := TX4) (N := 17) hx hb hts hinX4 hown hKK.1 hP 0 rfl rfl 10 (by decide) fl_134 (fun _ h9 => h9) rfl dX4_name_81 ?_
          refine lv_iconst (v := nI 1) hx hb dX4_name_84 (by decide) ?_
          refine z_add (v := nI ((y 4 + j) + 1)) hx hb dX4_name_85 (nI_add _ _) ?_
          refine z_put (w2 := modW G a v (nup (nup (nup y 4 ((y 4 + j) + 1)) 5 (j + 1)) 6 (wv (sgT (v 3) tl) (y 4) j))) hx hb hts hinX4 tyX4 tyX4_ok nmX4 hown hKK hP hD hS 0 (ci := 4) (C := RX4) (T := TX4) (N := 17) rfl rfl 10 (by decide) fl_134 rfl rfl rfl (Nat.le_of_ble_eq_true rfl) rfl dX4_name_86 (fun H locs hP hD hS => ?_)
          refine lv_goto (tgt := 10) hx hb dX4_name_89 (by decide) ?_
          have hj60 := allL_len (allL_s hall hlt)
          have es : nup (nup (nup y 4 ((y 4 + j) + 1)) 5 (j + 1)) 6 (wv (sgT (v 3) tl) (y 4) j) = nup (nup (nup y 4 (y 4 + (j + 1))) 5 ((j + 1))) 6 (wv (sgT (v 3) tl) (y 4) ((j + 1))) := by rw [wvk c_4, show y 4 + (j + 1) = y 4 + j + 1 by omega]
          rw [es] at hP hD
          exact ih_1 (j + 1) (allL_s hall hlt) (by omega) _ _ _ hP hD hS (lv_sub hl [0] rfl)
        · skip
          refine lv_bipush (v := nI 27) hx hb dX4_name_38 (by decide) ?_
          refine lv_aload_n hx hb dX4_name_40 rfl (lv_at hl 0 rfl) ?_
          refine va_get (D := G.1) (ci := 4) (v := .int (nI (wv (sgT (v 3) tl) (y 4) j))) (C := RX4) (T := TX4) (N := 17) hx hb hts hinX4 hown hKK.1 hP 0 rfl rfl 12 (by decide) fl_143 (fun _ h9 => h9) rfl dX4_name_41 ?_
          refine z_mul (v := nI (27 * (wv (sgT (v 3) tl) (y 4) j))) hx hb dX4_name_44 (pk_mul _ _) ?_
          refine lv_aload_n hx hb dX4_name_45 rfl (lv_at hl 0 rfl) ?_
          refine lv_aload_n hx hb dX4_name_46 rfl (lv_at hl 0 rfl) ?_
          refine va_get (D := G.1) (ci := 4) (v := .int (nI (y 4 + j))) (C := RX4) (T := TX4) (N := 17) hx hb hts hinX4 hown hKK.1 hP 0 rfl rfl 10 (by decide) fl_134 (fun _ h9 => h9) rfl dX4_name_47 ?_
          refine z_callVI (As := [.int (nI (y 4 + j))]) (rest := [.int (nI (27 * (wv (sgT (v 3) tl) (y 4) j))), .ref (a 0)]) (wr := []) (C := RX4) F (c_X4_letter l G a v (nup (nup (nup y 4 (y 4 + j)) 5 j) 6 (wv (sgT (v 3) tl) (y 4) j)) (y 4 + j) (by omega) tl (by exact hL) hL6 (by exact hT)) (cwV 1 hts gX4_name_X4_letter rfl rfl rfl (by decide +kernel) ⟨Nat.le_of_ble_eq_true rfl, Nat.le_of_ble_eq_true rfl⟩) hKK (z_recv hKK hP (q0 := 0) (ci := 4) rfl rfl) hP hD hS hA rfl hl.1 rfl (Nat.le_of_ble_eq_true rfl) ⟨Nat.zero_le _, Nat.zero_le _⟩ dX4_name_50 (fun H locs hP hD hS => ?_)
          have hP : va_P G.1 vwCl (modW G a v (nup (nup (nup y 4 (y 4 + j)) 5 j) 6 (wv (sgT (v 3) tl) (y 4) j))) H := hP
          have hD : va_D A (modW G a v (nup (nup (nup y 4 (y 4 + j)) 5 j) 6 (wv (sgT (v 3) tl) (y 4) j))) := hD
          refine z_add (v := nI ((27 * (wv (sgT (v 3) tl) (y 4) j)) + (sgT (v 3) tl (y 4 + j)))) hx hb dX4_name_53 (nI_add _ _) ?_
          refine lv_bipush (v := nI 97) hx hb dX4_name_54 (by decide) ?_
          refine z_sub (v := nI (((27 * (wv (sgT (v 3) tl) (y 4) j)) + (sgT (v 3) tl (y 4 + j))) - 97)) hx hb dX4_name_56 (pk_sub (by omega)) ?_
          refine lv_iconst (v := nI 1) hx hb dX4_name_57 (by decide) ?_
          refine z_add (v := nI ((((27 * (wv (sgT (v 3) tl) (y 4) j)) + (sgT (v 3) tl (y 4 + j))) - 97) + 1)) hx hb dX4_name_58 (nI_add _ _) ?_
          refine lv_goto (tgt := 66) hx hb dX4_name_59 (by decide) ?_
          refine z_put (w2 := modW G a v (nup (nup (nup y 4 (y 4 + j)) 5 j) 6 ((((27 * (wv (sgT (v 3) tl) (y 4) j)) + (sgT (v 3) tl (y 4 + j))) - 97) + 1))) hx hb hts hinX4 tyX4 tyX4_ok nmX4 hown hKK hP hD hS 0 (ci := 4) (C := RX4) (T := TX4) (N := 17) rfl rfl 12 (by decide) fl_143 rfl rfl rfl (Nat.le_of_ble_eq_true rfl) rfl dX4_name_66 (fun H locs hP hD hS => ?_)
          refine lv_aload_n hx hb dX4_name_69 rfl (lv_at hl 0 rfl) ?_
          refine lv_dup hx hb dX4_name_70 rfl ?_
          refine va_get (D := G.1) (ci := 4) (v := .int (nI j)) (C := RX4) (T := TX4) (N := 17) hx hb hts hinX4 hown hKK.1 hP 0 rfl rfl 11 (by decide) fl_140 (fun _ h9 => h9) rfl dX4_name_71 ?_
          refine lv_iconst (v := nI 1) hx hb dX4_name_74 (by decide) ?_
          refine z_add (v := nI (j + 1)) hx hb dX4_name_75 (nI_add _ _) ?_
          refine z_put (w2 := modW G a v (nup (nup (nup y 4 (y 4 + j)) 5 (j + 1)) 6 ((((27 * (wv (sgT (v 3) tl) (y 4) j)) + (sgT (v 3) tl (y 4 + j))) - 97) + 1))) hx hb hts hinX4 tyX4 tyX4_ok nmX4 hown hKK hP hD hS 0 (ci := 4) (C := RX4) (T := TX4) (N := 17) rfl rfl 11 (by decide) fl_140 rfl rfl rfl (Nat.le_of_ble_eq_true rfl) rfl dX4_name_76 (fun H locs hP hD hS => ?_)
          refine lv_aload_n hx hb dX4_name_79 rfl (lv_at hl 0 rfl) ?_
          refine lv_dup hx hb dX4_name_80 rfl ?_
          refine va_get (D := G.1) (ci := 4) (v := .int (nI (y 4 + j))) (C := RX4) (T := TX4) (N := 17) hx hb hts hinX4 hown hKK.1 hP 0 rfl rfl 10 (by decide) fl_134 (fun _ h9 => h9) rfl dX4_name_81 ?_
          refine lv_iconst (v := nI 1) hx hb dX4_name_84 (by decide) ?_
          refine z_add (v := nI ((y 4 + j) + 1)) hx hb dX4_name_85 (nI_add _ _) ?_
          refine z_put (w2 := modW G a v (nup (nup (nup y 4 ((y 4 + j) + 1)) 5 (j + 1)) 6 ((((27 * (wv (sgT (v 3) tl) (y 4) j)) + (sgT (v 3) tl (y 4 + j))) - 97) + 1))) hx hb hts hinX4 tyX4 tyX4_ok nmX4 hown hKK hP hD hS 0 (ci := 4) (C := RX4) (T := TX4) (N := 17) rfl rfl 10 (by decide) fl_134 rfl rfl rfl (Nat.le_of_ble_eq_true rfl) rfl dX4_name_86 (fun H locs hP hD hS => ?_)
          refine lv_goto (tgt := 10) hx hb dX4_name_89 (by decide) ?_
          have hj60 := allL_len (allL_s hall hlt)
          have es : nup (nup (nup y 4 ((y 4 + j) + 1)) 5 (j + 1)) 6 ((((27 * (wv (sgT (v 3) tl) (y 4) j)) + (sgT (v 3) tl (y 4 + j))) - 97) + 1) = nup (nup (nup y 4 (y 4 + (j + 1))) 5 ((j + 1))) 6 (wv (sgT (v 3) tl) (y 4) ((j + 1))) := by rw [wvs c_4, show y 4 + (j + 1) = y 4 + j + 1 by omega]; congr 1; omega
          rw [es] at hP hD
          exact ih_1 (j + 1) (allL_s hall hlt) (by omega) _ _ _ hP hD hS (lv_sub hl [0] rfl)
  have es : nup (nup y 5 0) 6 0 = nup (nup (nup y 4 (y 4 + 0)) 5 0) 6 (wv (sgT (v 3) tl) (y 4) 0) := nm_0 y _
  rw [es] at hP hD
  exact key_1 _ 0 (allL_0 _ _) (Nat.lt_succ_self _) _ _ _ hP hD hS (lv_sub hl [0] rfl)

set_option maxHeartbeats 4000000 in
set_option maxRecDepth 100000 in
theorem c_X4_wrong (l : Launch) (G : ZG) (a : Nat → Nat) (v : Mem) (y : Nat → Nat) (ch d0 d1 k : Nat) (hch : ch < 65536) (hd0 : d0 < 10) (hd1 : d1 < 10) (h0 : v 6 0 = nI d0) (h1 : v 6 1 = nI d1) (hk : y 5 = k) (hk2 : k < 2 ^ 20) : CI l G yX4_wrong wsX4_wrong (zRm 0 0) [.ref (a 0), .int (nI ch)] (modW G a v y) (rngI (rngF ch d0 d1 k)) (modW G a v y) := by
  refine CI.ent (cc := cX4_wrong) (maxL := 2) (ty := .int) (own := RX4) (by decide) rfl rfl (Nat.le_of_ble_eq_true rfl) ?_
  intro p ee s m args below meth c A ls F hr hlk hKK hP hD hA hS hl
  obtain ⟨hx, hb, hml, hown, hts⟩ := id F
  have hl : lv_has ls 2 [(0, .ref (a 0)), (1, .int (nI ch))] := hl
  have fl_28 := hts (.fieldLink RX4 28 "NameRollsModel" "digits" "[I") (by decide +kernel)
  have fl_140 := hts (.fieldLink RX4 140 "NameRollsModel" "letters" "I") (by decide +kernel)
  have hinX4 : ∀ w ∈ wsX40, w ∈ wsX4_wrong := by decide +kernel
  refine lv_iload_n hx hb dX4_wrong_0 rfl (lv_at hl 1 rfl) ?_
  refine lv_bipush (v := nI 33) hx hb dX4_wrong_1 (by decide) ?_
  refine z_ne (tgt := 22) hx hb dX4_wrong_3 (by decide) (by omega) (by omega) (fun c_1 => ?_) (fun c_1 => ?_)
  · skip
    refine lv_iload_n hx hb dX4_wrong_22 rfl (lv_at hl 1 rfl) ?_
    refine lv_bipush (v := nI 61) hx hb dX4_wrong_23 (by decide) ?_
    refine z_ne (tgt := 40) hx hb dX4_wrong_25 (by decide) (by omega) (by omega) (fun c_2 => ?_) (fun c_2 => ?_)
    · skip
      refine lv_iload_n hx hb dX4_wrong_40 rfl (lv_at hl 1 rfl) ?_
      refine lv_bipush (v := nI 61) hx hb dX4_wrong_41 (by decide) ?_
      refine z_ne (tgt := 58) hx hb dX4_wrong_43 (by decide) (by omega) (by omega) (fun c_3 => ?_) (fun c_3 => ?_)
      · skip
        refine lv_aload_n hx hb dX4_wrong_58 rfl (lv_at hl 0 rfl) ?_
        refine va_get (D := G.1) (ci := 4) (v := .int (nI (y 5))) (C := RX4) (T := TX4) (N := 17) hx hb hts hinX4 hown hKK.1 hP 0 rfl rfl 11 (by decide) fl_140 (fun _ h9 => h9) rfl dX4_wrong_59 ?_
        refine z_top (v := nI k) (by rw [hk]) ?_
        refine lv_bipush (v := nI 6) hx hb dX4_wrong_62 (by decide) ?_
        refine z_le (tgt := 71) hx hb dX4_wrong_64 (by decide) (by omega) (by omega) (fun c_4 => ?_) (fun c_4 => ?_)
        · skip
          refine lv_iconst (v := (-1)) hx hb dX4_wrong_71 (by decide) ?_
          exact z_iret hx hb hr hlk hP hD hS dX4_wrong_72 (by rw [rngF, if_neg (by omega), if_neg (by omega), if_neg (by omega), if_neg (by omega)]; rfl) rfl
        · skip
          refine lv_iconst (v := nI 3) hx hb dX4_wrong_67 (by decide) ?_
          refine lv_goto (tgt := 72) hx hb dX4_wrong_68 (by decide) ?_
          exact z_iret hx hb hr hlk hP hD hS dX4_wrong_72 (by rw [rngF, if_neg (by omega), if_neg (by omega), if_neg (by omega), if_pos c_4]; rfl) rfl
      · skip
        refine lv_aload_n hx hb dX4_wrong_46 rfl (lv_at hl 0 rfl) ?_
        refine va_get (D := G.1) (ci := 4) (v := .ref (a 7)) (C := RX4) (T := TX4) (N := 17) hx hb hts hinX4 hown hKK.1 hP 0 rfl rfl 13 (by decide) fl_28 (fun _ h9 => h9) rfl dX4_wrong_47 ?_
        refine lv_iconst (v := nI 1) hx hb dX4_wrong_50 (by decide) ?_
        refine z_iald (n := 2) (f := v 6) (v := v 6 1) hx hb hKK hP 7 rfl (by omega) (by decide) rfl dX4_wrong_51 ?_
        refine z_top (v := nI d1) h1 ?_
        refine lv_iconst (v := nI 5) hx hb dX4_wrong_52 (by decide) ?_
        refine z_le (tgt := 58) hx hb dX4_wrong_53 (by decide) (by omega) (by omega) (fun c_5 => ?_) (fun c_5 => ?_)
        · skip
          refine lv_aload_n hx hb dX4_wrong_58 rfl (lv_at hl 0 rfl) ?_
          refine va_get (D := G.1) (ci := 4) (v := .int (nI (y 5))) (C := RX4) (T := TX4) (N := 17) hx hb hts hinX4 hown hKK.1 hP 0 rfl rfl 11 (by decide) fl_140 (fun _ h9 => h9) rfl dX4_wrong_59 ?_
          refine z_top (v := nI k) (by rw [hk]) ?_
          refine lv_bipush (v := nI 6) hx hb dX4_wrong_62 (by decide) ?_
          refine z_le (tgt := 71) hx hb dX4_wrong_64 (by decide) (by omega) (by omega) (fun c_6 => ?_) (fun c_6 => ?_)
          · skip
            refine lv_iconst (v := (-1)) hx hb dX4_wrong_71 (by decide) ?_
            exact z_iret hx hb hr hlk hP hD hS dX4_wrong_72 (by rw [rngF, if_neg (by omega), if_neg (by omega), if_neg (by omega), if_neg (by omega)]; rfl) rfl
          · skip
            refine lv_iconst (v := nI 3) hx hb dX4_wrong_67 (by decide) ?_
            refine lv_goto (tgt := 72) hx hb dX4_wrong_68 (by decide) ?_
            exact z_iret hx hb hr hlk hP hD hS dX4_wrong_72 (by rw [rngF, if_neg (by omega), if_neg (by omega), if_neg (by omega), if_pos c_6]; rfl) rfl
        · skip
          refine lv_iconst (v := nI 1) hx hb dX4_wrong_56 (by decide) ?_
          exact z_iret hx hb hr hlk hP hD hS dX4_wrong_57 (by rw [rngF, if_neg (by omega), if_neg (by omega), if_pos ⟨by omega, by omega⟩]; rfl) rfl
    · skip
      refine lv_aload_n hx hb dX4_wrong_28 rfl (lv_at hl 0 rfl) ?_
      refine va_get (D := G.1) (ci := 4) (v := .ref (a 7)) (C := RX4) (T := TX4) (N := 17) hx hb hts hinX4 hown hKK.1 hP 0 rfl rfl 13 (by decide) fl_28 (fun _ h9 => h9) rfl dX4_wrong_29 ?_
      refine lv_iconst (v := nI 0) hx hb dX4_wrong_32 (by decide) ?_
      refine z_iald (n := 2) (f := v 6) (v := v 6 0) hx hb hKK hP 7 rfl (by omega) (by decide) rfl dX4_wrong_33 ?_
      refine z_top (v := nI d0) h0 ?_
      refine lv_iconst (v := nI 2) hx hb dX4_wrong_34 (by decide) ?_
      refine z_le (tgt := 40) hx hb dX4_wrong_35 (by decide) (by omega) (by omega) (fun c_7 => ?_) (fun c_7 => ?_)
      · skip
        refine lv_iload_n hx hb dX4_wrong_40 rfl (lv_at hl 1 rfl) ?_
        refine lv_bipush (v := nI 61) hx hb dX4_wrong_41 (by decide) ?_
        refine z_ne (tgt := 58) hx hb dX4_wrong_43 (by decide) (by omega) (by omega) (fun c_8 => ?_) (fun c_8 => ?_)
        · skip
          refine lv_aload_n hx hb dX4_wrong_58 rfl (lv_at hl 0 rfl) ?_
          refine va_get (D := G.1) (ci := 4) (v := .int (nI (y 5))) (C := RX4) (T := TX4) (N := 17) hx hb hts hinX4 hown hKK.1 hP 0 rfl rfl 11 (by decide) fl_140 (fun _ h9 => h9) rfl dX4_wrong_59 ?_
          refine z_top (v := nI k) (by rw [hk]) ?_
          refine lv_bipush (v := nI 6) hx hb dX4_wrong_62 (by decide) ?_
          refine z_le (tgt := 71) hx hb dX4_wrong_64 (by decide) (by omega) (by omega) (fun c_9 => ?_) (fun c_9 => ?_)
          · skip
            refine lv_iconst (v := (-1)) hx hb dX4_wrong_71 (by decide) ?_
            exact z_iret hx hb hr hlk hP hD hS dX4_wrong_72 (by rw [rngF, if_neg (by omega), if_neg (by omega), if_neg (by omega), if_neg (by omega)]; rfl) rfl
          · skip
            refine lv_iconst (v := nI 3) hx hb dX4_wrong_67 (by decide) ?_
            refine lv_goto (tgt := 72) hx hb dX4_wrong_68 (by decide) ?_
            exact z_iret hx hb hr hlk hP hD hS dX4_wrong_72 (by rw [rngF, if_neg (by omega), if_neg (by omega), if_neg (by omega), if_pos c_9]; rfl) rfl
        · skip
          refine lv_aload_n hx hb dX4_wrong_46 rfl (lv_at hl 0 rfl) ?_
          refine va_get (D := G.1) (ci := 4) (v := .ref (a 7)) (C := RX4) (T := TX4) (N := 17) hx hb hts hinX4 hown hKK.1 hP 0 rfl rfl 13 (by decide) fl_28 (fun _ h9 => h9) rfl dX4_wrong_47 ?_
          refine lv_iconst (v := nI 1) hx hb dX4_wrong_50 (by decide) ?_
          refine z_iald (n := 2) (f := v 6) (v := v 6 1) hx hb hKK hP 7 rfl (by omega) (by decide) rfl dX4_wrong_51 ?_
          refine z_top (v := nI d1) h1 ?_
          refine lv_iconst (v := nI 5) hx hb dX4_wrong_52 (by decide) ?_
          refine z_le (tgt := 58) hx hb dX4_wrong_53 (by decide) (by omega) (by omega) (fun c_10 => ?_) (fun c_10 => ?_)
          · skip
            refine lv_aload_n hx hb dX4_wrong_58 rfl (lv_at hl 0 rfl) ?_
            refine va_get (D := G.1) (ci := 4) (v := .int (nI (y 5))) (C := RX4) (T := TX4) (N := 17) hx hb hts hinX4 hown hKK.1 hP 0 rfl rfl 11 (by decide) fl_140 (fun _ h9 => h9) rfl dX4_wrong_59 ?_
            refine z_top (v := nI k) (by rw [hk]) ?_
            refine lv_bipush (v := nI 6) hx hb dX4_wrong_62 (by decide) ?_
            refine z_le (tgt := 71) hx hb dX4_wrong_64 (by decide) (by omega) (by omega) (fun c_11 => ?_) (fun c_11 => ?_)
            · skip
              refine lv_iconst (v := (-1)) hx hb dX4_wrong_71 (by decide) ?_
              exact z_iret hx hb hr hlk hP hD hS dX4_wrong_72 (by rw [rngF, if_neg (by omega), if_neg (by omega), if_neg (by omega), if_neg (by omega)]; rfl) rfl
            · skip
              refine lv_iconst (v := nI 3) hx hb dX4_wrong_67 (by decide) ?_
              refine lv_goto (tgt := 72) hx hb dX4_wrong_68 (by decide) ?_
              exact z_iret hx hb hr hlk hP hD hS dX4_wrong_72 (by rw [rngF, if_neg (by omega), if_neg (by omega), if_neg (by omega), if_pos c_11]; rfl) rfl
          · skip
            refine lv_iconst (v := nI 1) hx hb dX4_wrong_56 (by decide) ?_
            exact z_iret hx hb hr hlk hP hD hS dX4_wrong_57 (by rw [rngF, if_neg (by omega), if_neg (by omega), if_pos ⟨by omega, by omega⟩]; rfl) rfl
      · skip
        refine lv_iconst (v := nI 0) hx hb dX4_wrong_38 (by decide) ?_
        exact z_iret hx hb hr hlk hP hD hS dX4_wrong_39 (by rw [rngF, if_neg c_1, if_pos ⟨c_2, c_7⟩]; rfl) rfl
  · skip
    refine lv_aload_n hx hb dX4_wrong_6 rfl (lv_at hl 0 rfl) ?_
    refine va_get (D := G.1) (ci := 4) (v := .ref (a 7)) (C := RX4) (T := TX4) (N := 17) hx hb hts hinX4 hown hKK.1 hP 0 rfl rfl 13 (by decide) fl_28 (fun _ h9 => h9) rfl dX4_wrong_7 ?_
    refine lv_iconst (v := nI 0) hx hb dX4_wrong_10 (by decide) ?_
    refine z_iald (n := 2) (f := v 6) (v := v 6 0) hx hb hKK hP 7 rfl (by omega) (by decide) rfl dX4_wrong_11 ?_
    refine z_top (v := nI d0) h0 ?_
    refine lv_iconst (v := nI 2) hx hb dX4_wrong_12 (by decide) ?_
    refine z_le (tgt := 20) hx hb dX4_wrong_13 (by decide) (by omega) (by omega) (fun c_12 => ?_) (fun c_12 => ?_)
    · skip
      refine lv_iconst (v := (-1)) hx hb dX4_wrong_20 (by decide) ?_
      exact z_iret hx hb hr hlk hP hD hS dX4_wrong_21 (by rw [rngF, if_pos c_1, if_neg (by omega)]; rfl) rfl
    · skip
      refine lv_iconst (v := nI 2) hx hb dX4_wrong_16 (by decide) ?_
      refine lv_goto (tgt := 21) hx hb dX4_wrong_17 (by decide) ?_
      exact z_iret hx hb hr hlk hP hD hS dX4_wrong_21 (by rw [rngF, if_pos c_1, if_pos c_12]; rfl) rfl

set_option maxHeartbeats 4000000 in
set_option maxRecDepth 100000 in
theorem c_X4_reads (l : Launch) (G : ZG) (a : Nat → Nat) (v : Mem) (y : Nat → Nat) (hdg : okDg v) (he4 : y 4 ≤ 60) (tl : Nat) (hL : y 1 = tl) (hL6 : tl ≤ 60) (hT : okTx (v 3)) : CIE l G yX4_reads wsX4_reads (zRm 2 44) [.ref (a 0)] (modW G a v y) (S := Mem × (Nat → Nat)) (rdPost v y tl) (fun u => modW G a u.1 u.2) := by
  refine CIE.ent (cc := cX4_reads) (maxL := 2) (ty := .boolean) (own := RX4) (by decide) rfl rfl (Nat.le_of_ble_eq_true rfl) ?_
  intro p ee s m args below meth c A ls F hr hlk hKK hP hD hA hS hl
  obtain ⟨hx, hb, hml, hown, hts⟩ := id F
  have hl : lv_has ls 2 [(0, .ref (a 0))] := hl
  have fl_134 := hts (.fieldLink RX4 134 "NameRollsModel" "end" "I") (by decide +kernel)
  have hinX4 : ∀ w ∈ wsX40, w ∈ wsX4_reads := by decide +kernel
  refine lv_aload_n hx hb dX4_reads_0 rfl (lv_at hl 0 rfl) ?_
  refine lv_aload_n hx hb dX4_reads_1 rfl (lv_at hl 0 rfl) ?_
  refine va_get (D := G.1) (ci := 4) (v := .int (nI (y 4))) (C := RX4) (T := TX4) (N := 17) hx hb hts hinX4 hown hKK.1 hP 0 rfl rfl 10 (by decide) fl_134 (fun _ h9 => h9) rfl dX4_reads_2 ?_
  refine z_callVI (As := [.int (nI (y 4))]) (rest := []) (wr := []) (C := RX4) F (c_X4_letter l G a v y (y 4) (by omega) tl (by exact hL) hL6 (by exact hT)) (cwV 1 hts gX4_reads_X4_letter rfl rfl rfl (by decide +kernel) ⟨Nat.le_of_ble_eq_true rfl, Nat.le_of_ble_eq_true rfl⟩) hKK (z_recv hKK hP (q0 := 0) (ci := 4) rfl rfl) hP hD hS hA rfl hl.1 rfl (Nat.le_of_ble_eq_true rfl) ⟨Nat.zero_le _, Nat.zero_le _⟩ dX4_reads_5 (fun H locs hP hD hS => ?_)
  have hP : va_P G.1 vwCl (modW G a v y) H := hP
  have hD : va_D A (modW G a v y) := hD
  refine lv_istore_n (lv' := [(1, .int (nI (sgT (v 3) tl (y 4)))), (0, .ref (a 0))]) hx hb dX4_reads_8 rfl hl (by decide) rfl (fun ls hl => ?_)
  refine lv_iload_n hx hb dX4_reads_9 rfl (lv_at hl 0 rfl) ?_
  refine lv_bipush (v := nI 43) hx hb dX4_reads_10 (by decide) ?_
  refine z_eq (tgt := 35) hx hb dX4_reads_12 (by decide) (Nat.lt_trans (sgT_lt hT hL6 _) (by decide)) (by omega) (fun c_1 => ?_) (fun c_1 => ?_)
  · skip
    refine lv_aload_n hx hb dX4_reads_35 rfl (lv_at hl 1 rfl) ?_
    refine lv_dup hx hb dX4_reads_36 rfl ?_
    refine va_get (D := G.1) (ci := 4) (v := .int (nI (y 4))) (C := RX4) (T := TX4) (N := 17) hx hb hts hinX4 hown hKK.1 hP 0 rfl rfl 10 (by decide) fl_134 (fun _ h9 => h9) rfl dX4_reads_37 ?_
    refine lv_iconst (v := nI 1) hx hb dX4_reads_40 (by decide) ?_
    refine z_add (v := nI ((y 4) + 1)) hx hb dX4_reads_41 (nI_add _ _) ?_
    refine z_put (w2 := modW G a v (nup y 4 ((y 4) + 1))) hx hb hts hinX4 tyX4 tyX4_ok nmX4 hown hKK hP hD hS 0 (ci := 4) (C := RX4) (T := TX4) (N := 17) rfl rfl 10 (by decide) fl_134 rfl rfl rfl (Nat.le_of_ble_eq_true rfl) rfl dX4_reads_42 (fun H locs hP hD hS => ?_)
    refine lv_iload_n hx hb dX4_reads_45 rfl (lv_at hl 0 rfl) ?_
    refine lv_bipush (v := nI 33) hx hb dX4_reads_46 (by decide) ?_
    refine z_ne (tgt := 74) hx hb dX4_reads_48 (by decide) (Nat.lt_trans (sgT_lt hT hL6 _) (by decide)) (by omega) (fun c_2 => ?_) (fun c_2 => ?_)
    · skip
      refine lv_iload_n hx hb dX4_reads_74 rfl (lv_at hl 0 rfl) ?_
      refine lv_bipush (v := nI 61) hx hb dX4_reads_75 (by decide) ?_
      refine z_ne (tgt := 116) hx hb dX4_reads_77 (by decide) (Nat.lt_trans (sgT_lt hT hL6 _) (by decide)) (by omega) (fun c_3 => ?_) (fun c_3 => ?_)
      · skip
        refine lv_aload_n hx hb dX4_reads_116 rfl (lv_at hl 1 rfl) ?_
        refine z_callVI (As := []) (rest := []) (wr := []) (C := RX4) F (c_X4_name l G a v (nup y 4 ((y 4) + 1)) (show (y 4) + 1 < 2 ^ 20 by omega) tl (by exact hL) hL6 (by exact hT)) (cwV 0 hts gX4_reads_X4_name rfl rfl rfl (by decide +kernel) ⟨Nat.le_of_ble_eq_true rfl, Nat.le_of_ble_eq_true rfl⟩) hKK (z_recv hKK hP (q0 := 0) (ci := 4) rfl rfl) hP hD hS hA rfl hl.1 rfl (Nat.le_of_ble_eq_true rfl) ⟨Nat.zero_le _, Nat.zero_le _⟩ dX4_reads_117 (fun H locs hP hD hS => ?_)
        have hlc6 := lc_le60 (sgT (v 3) tl) ((y 4) + 1)
        have hP : va_P G.1 vwCl (modW G a v (nup (nup (nup y 4 ((y 4) + 1 + lc (sgT (v 3) tl) ((y 4) + 1))) 5 (lc (sgT (v 3) tl) ((y 4) + 1))) 6 (wv (sgT (v 3) tl) ((y 4) + 1) (lc (sgT (v 3) tl) ((y 4) + 1))))) H := hP
        have hD : va_D A (modW G a v (nup (nup (nup y 4 ((y 4) + 1 + lc (sgT (v 3) tl) ((y 4) + 1))) 5 (lc (sgT (v 3) tl) ((y 4) + 1))) 6 (wv (sgT (v 3) tl) ((y 4) + 1) (lc (sgT (v 3) tl) ((y 4) + 1))))) := hD
        refine z_top (v := bI (decide (0 < lc (sgT (v 3) tl) ((y 4) + 1)))) rfl ?_
        refine z_ifBeq (tgt := 136) hx hb dX4_reads_120 (by decide) (fun c_4 => ?_) (fun c_4 => ?_)
        · skip
          have hlk0 := of_decide_eq_false c_4
          refine lv_iconst (v := nI 0) hx hb dX4_reads_136 (by decide) ?_
          exact z_iretE (v, nup (nup (nup y 4 ((y 4) + 1 + lc (sgT (v 3) tl) ((y 4) + 1))) 5 (lc (sgT (v 3) tl) ((y 4) + 1))) 6 (wv (sgT (v 3) tl) ((y 4) + 1) (lc (sgT (v 3) tl) ((y 4) + 1)))) hx hb hr hlk hP hD hS dX4_reads_137 (by decide) (rdPost_mk ((y 4) + 1 + lc (sgT (v 3) tl) ((y 4) + 1), none) (fun k hk => rfl) hdg (fun k h4 h5 h6 => by simp [nup, h4, h5, h6]) (by rw [prs, if_neg (by omega), if_neg (by omega), if_pos (by omega), prL, if_neg hlk0]) rfl rfl (fun d0 d1 k w hz => by cases hz))
        · skip
          have hlk0 := of_decide_eq_true c_4
          refine lv_aload_n hx hb dX4_reads_123 rfl (lv_at hl 1 rfl) ?_
          refine lv_bipush (v := nI 59) hx hb dX4_reads_124 (by decide) ?_
          rcases Classical.em (sgT (v 3) tl ((y 4) + 1 + lc (sgT (v 3) tl) ((y 4) + 1)) = 59) with hd_5 | hd_5
          · skip
            refine z_callVI (As := [.int (nI 59)]) (rest := []) (wr := []) (C := RX4) F (c_X4_passes_t l G a v (nup (nup (nup y 4 ((y 4) + 1 + lc (sgT (v 3) tl) ((y 4) + 1))) 5 (lc (sgT (v 3) tl) ((y 4) + 1))) 6 (wv (sgT (v 3) tl) ((y 4) + 1) (lc (sgT (v 3) tl) ((y 4) + 1)))) (59) (by omega) (show (y 4) + 1 + lc (sgT (v 3) tl) ((y 4) + 1) < 2 ^ 20 by omega) tl (by exact hL) hL6 (by exact hT) hd_5) (cwV 1 hts gX4_reads_X4_passes rfl rfl rfl (by decide +kernel) ⟨Nat.le_of_ble_eq_true rfl, Nat.le_of_ble_eq_true rfl⟩) hKK (z_recv hKK hP (q0 := 0) (ci := 4) rfl rfl) hP hD hS hA rfl hl.1 rfl (Nat.le_of_ble_eq_true rfl) ⟨Nat.zero_le _, Nat.zero_le _⟩ dX4_reads_126 (fun H locs hP hD hS => ?_)
            have hP : va_P G.1 vwCl (modW G a v (nup (nup (nup y 4 ((y 4) + 1 + lc (sgT (v 3) tl) ((y 4) + 1) + 1)) 5 (lc (sgT (v 3) tl) ((y 4) + 1))) 6 (wv (sgT (v 3) tl) ((y 4) + 1) (lc (sgT (v 3) tl) ((y 4) + 1))))) H := hP
            have hD : va_D A (modW G a v (nup (nup (nup y 4 ((y 4) + 1 + lc (sgT (v 3) tl) ((y 4) + 1) + 1)) 5 (lc (sgT (v 3) tl) ((y 4) + 1))) 6 (wv (sgT (v 3) tl) ((y 4) + 1) (lc (sgT (v 3) tl) ((y 4) + 1))))) := hD
            refine z_ifBeq (tgt := 136) hx hb dX4_reads_129 (by decide) (fun c_6 => absurd c_6 (by decide)) (fun c_6 => ?_)
            refine lv_iconst (v := nI 1) hx hb dX4_reads_132 (by decide) ?_
            refine lv_goto (tgt := 137) hx hb dX4_reads_133 (by decide) ?_
            exact z_iretE (v, nup (nup (nup y 4 ((y 4) + 1 + lc (sgT (v 3) tl) ((y 4) + 1) + 1)) 5 (lc (sgT (v 3) tl) ((y 4) + 1))) 6 (wv (sgT (v 3) tl) ((y 4) + 1) (lc (sgT (v 3) tl) ((y 4) + 1)))) hx hb hr hlk hP hD hS dX4_reads_137 (by decide) (rdPost_mk ((y 4) + 1 + lc (sgT (v 3) tl) ((y 4) + 1) + 1, some (0, 0, lc (sgT (v 3) tl) ((y 4) + 1), wv (sgT (v 3) tl) ((y 4) + 1) (lc (sgT (v 3) tl) ((y 4) + 1)))) (fun k hk => rfl) hdg (fun k h4 h5 h6 => by simp [nup, h4, h5, h6]) (by rw [prs, if_neg (by omega), if_neg (by omega), if_pos (by omega), prL, if_pos hlk0, if_pos hd_5]) rfl rfl (fun d0 d1 k w hz => by cases hz; exact ⟨fun z => absurd z (by omega), fun z => absurd z (by omega), fun _ => ⟨rfl, rfl⟩⟩))
          · skip
            refine z_callVI (As := [.int (nI 59)]) (rest := []) (wr := []) (C := RX4) F (c_X4_passes_f l G a v (nup (nup (nup y 4 ((y 4) + 1 + lc (sgT (v 3) tl) ((y 4) + 1))) 5 (lc (sgT (v 3) tl) ((y 4) + 1))) 6 (wv (sgT (v 3) tl) ((y 4) + 1) (lc (sgT (v 3) tl) ((y 4) + 1)))) (59) (by omega) (show (y 4) + 1 + lc (sgT (v 3) tl) ((y 4) + 1) < 2 ^ 20 by omega) tl (by exact hL) hL6 (by exact hT) hd_5) (cwV 1 hts gX4_reads_X4_passes rfl rfl rfl (by decide +kernel) ⟨Nat.le_of_ble_eq_true rfl, Nat.le_of_ble_eq_true rfl⟩) hKK (z_recv hKK hP (q0 := 0) (ci := 4) rfl rfl) hP hD hS hA rfl hl.1 rfl (Nat.le_of_ble_eq_true rfl) ⟨Nat.zero_le _, Nat.zero_le _⟩ dX4_reads_126 (fun H locs hP hD hS => ?_)
            have hP : va_P G.1 vwCl (modW G a v (nup (nup (nup y 4 ((y 4) + 1 + lc (sgT (v 3) tl) ((y 4) + 1))) 5 (lc (sgT (v 3) tl) ((y 4) + 1))) 6 (wv (sgT (v 3) tl) ((y 4) + 1) (lc (sgT (v 3) tl) ((y 4) + 1))))) H := hP
            have hD : va_D A (modW G a v (nup (nup (nup y 4 ((y 4) + 1 + lc (sgT (v 3) tl) ((y 4) + 1))) 5 (lc (sgT (v 3) tl) ((y 4) + 1))) 6 (wv (sgT (v 3) tl) ((y 4) + 1) (lc (sgT (v 3) tl) ((y 4) + 1))))) := hD
            refine z_ifBeq (tgt := 136) hx hb dX4_reads_129 (by decide) (fun c_7 => ?_) (fun c_7 => absurd c_7 (by decide))
            refine lv_iconst (v := nI 0) hx hb dX4_reads_136 (by decide) ?_
            exact z_iretE (v, nup (nup (nup y 4 ((y 4) + 1 + lc (sgT (v 3) tl) ((y 4) + 1))) 5 (lc (sgT (v 3) tl) ((y 4) + 1))) 6 (wv (sgT (v 3) tl) ((y 4) + 1) (lc (sgT (v 3) tl) ((y 4) + 1)))) hx hb hr hlk hP hD hS dX4_reads_137 (by decide) (rdPost_mk ((y 4) + 1 + lc (sgT (v 3) tl) ((y 4) + 1), none) (fun k hk => rfl) hdg (fun k h4 h5 h6 => by simp [nup, h4, h5, h6]) (by rw [prs, if_neg (by omega), if_neg (by omega), if_pos (by omega), prL, if_pos hlk0, if_neg hd_5]) rfl rfl (fun d0 d1 k w hz => by cases hz))
      · skip
        have hk61 := c_3
        refine lv_aload_n hx hb dX4_reads_80 rfl (lv_at hl 1 rfl) ?_
        refine lv_iconst (v := nI 0) hx hb dX4_reads_81 (by decide) ?_
        rcases z_b (dgB (sgT (v 3) tl ((y 4) + 1))) with hd_8 | hd_8
        · have hg_8 := dgB_t hd_8
          refine z_callVI (As := [.int (nI 0)]) (rest := []) (wr := []) (C := RX4) F (c_X4_digit_t l G a v (nup y 4 ((y 4) + 1)) (0) (by omega) (show (y 4) + 1 < 2 ^ 20 by omega) tl (by exact hL) hL6 (by exact hT) hd_8) (cwV 1 hts gX4_reads_X4_digit rfl rfl rfl (by decide +kernel) ⟨Nat.le_of_ble_eq_true rfl, Nat.le_of_ble_eq_true rfl⟩) hKK (z_recv hKK hP (q0 := 0) (ci := 4) rfl rfl) hP hD hS hA rfl hl.1 rfl (Nat.le_of_ble_eq_true rfl) ⟨Nat.zero_le _, Nat.zero_le _⟩ dX4_reads_82 (fun H locs hP hD hS => ?_)
          have hP : va_P G.1 vwCl (modW G a (mrow v 6 (upd (v 6) 0 (nI (sgT (v 3) tl ((y 4) + 1) - 48)))) (nup y 4 ((y 4) + 2))) H := hP
          have hD : va_D A (modW G a (mrow v 6 (upd (v 6) 0 (nI (sgT (v 3) tl ((y 4) + 1) - 48)))) (nup y 4 ((y 4) + 2))) := hD
          refine z_ifBeq (tgt := 114) hx hb dX4_reads_85 (by decide) (fun c_9 => absurd c_9 (by decide)) (fun c_9 => ?_)
          refine lv_aload_n hx hb dX4_reads_88 rfl (lv_at hl 1 rfl) ?_
          refine lv_bipush (v := nI 44) hx hb dX4_reads_89 (by decide) ?_
          rcases Classical.em (sgT (v 3) tl ((y 4) + 2) = 44) with hd_10 | hd_10
          · skip
            refine z_callVI (As := [.int (nI 44)]) (rest := []) (wr := []) (C := RX4) F (c_X4_passes_t l G a (mrow v 6 (upd (v 6) 0 (nI (sgT (v 3) tl ((y 4) + 1) - 48)))) (nup y 4 ((y 4) + 2)) (44) (by omega) (show (y 4) + 2 < 2 ^ 20 by omega) tl (by exact hL) hL6 (by exact hT) hd_10) (cwV 1 hts gX4_reads_X4_passes rfl rfl rfl (by decide +kernel) ⟨Nat.le_of_ble_eq_true rfl, Nat.le_of_ble_eq_true rfl⟩) hKK (z_recv hKK hP (q0 := 0) (ci := 4) rfl rfl) hP hD hS hA rfl hl.1 rfl (Nat.le_of_ble_eq_true rfl) ⟨Nat.zero_le _, Nat.zero_le _⟩ dX4_reads_91 (fun H locs hP hD hS => ?_)
            have hP : va_P G.1 vwCl (modW G a (mrow v 6 (upd (v 6) 0 (nI (sgT (v 3) tl ((y 4) + 1) - 48)))) (nup y 4 ((y 4) + 3))) H := hP
            have hD : va_D A (modW G a (mrow v 6 (upd (v 6) 0 (nI (sgT (v 3) tl ((y 4) + 1) - 48)))) (nup y 4 ((y 4) + 3))) := hD
            refine z_ifBeq (tgt := 114) hx hb dX4_reads_94 (by decide) (fun c_11 => absurd c_11 (by decide)) (fun c_11 => ?_)
            refine lv_aload_n hx hb dX4_reads_97 rfl (lv_at hl 1 rfl) ?_
            refine lv_iconst (v := nI 1) hx hb dX4_reads_98 (by decide) ?_
            rcases z_b (dgB (sgT (v 3) tl ((y 4) + 3))) with hd_12 | hd_12
            · have hg_12 := dgB_t hd_12
              refine z_callVI (As := [.int (nI 1)]) (rest := []) (wr := []) (C := RX4) F (c_X4_digit_t l G a (mrow v 6 (upd (v 6) 0 (nI (sgT (v 3) tl ((y 4) + 1) - 48)))) (nup y 4 ((y 4) + 3)) (1) (by omega) (show (y 4) + 3 < 2 ^ 20 by omega) tl (by exact hL) hL6 (by exact hT) hd_12) (cwV 1 hts gX4_reads_X4_digit rfl rfl rfl (by decide +kernel) ⟨Nat.le_of_ble_eq_true rfl, Nat.le_of_ble_eq_true rfl⟩) hKK (z_recv hKK hP (q0 := 0) (ci := 4) rfl rfl) hP hD hS hA rfl hl.1 rfl (Nat.le_of_ble_eq_true rfl) ⟨Nat.zero_le _, Nat.zero_le _⟩ dX4_reads_99 (fun H locs hP hD hS => ?_)
              have hP : va_P G.1 vwCl (modW G a (mrow v 6 (upd (upd (v 6) 0 (nI (sgT (v 3) tl ((y 4) + 1) - 48))) 1 (nI (sgT (v 3) tl ((y 4) + 3) - 48)))) (nup y 4 ((y 4) + 4))) H := hP
              have hD : va_D A (modW G a (mrow v 6 (upd (upd (v 6) 0 (nI (sgT (v 3) tl ((y 4) + 1) - 48))) 1 (nI (sgT (v 3) tl ((y 4) + 3) - 48)))) (nup y 4 ((y 4) + 4))) := hD
              refine z_ifBeq (tgt := 114) hx hb dX4_reads_102 (by decide) (fun c_13 => absurd c_13 (by decide)) (fun c_13 => ?_)
              refine lv_aload_n hx hb dX4_reads_105 rfl (lv_at hl 1 rfl) ?_
              refine lv_bipush (v := nI 44) hx hb dX4_reads_106 (by decide) ?_
              rcases Classical.em (sgT (v 3) tl ((y 4) + 4) = 44) with hd_14 | hd_14
              · skip
                refine z_callVI (As := [.int (nI 44)]) (rest := []) (wr := []) (C := RX4) F (c_X4_passes_t l G a (mrow v 6 (upd (upd (v 6) 0 (nI (sgT (v 3) tl ((y 4) + 1) - 48))) 1 (nI (sgT (v 3) tl ((y 4) + 3) - 48)))) (nup y 4 ((y 4) + 4)) (44) (by omega) (show (y 4) + 4 < 2 ^ 20 by omega) tl (by exact hL) hL6 (by exact hT) hd_14) (cwV 1 hts gX4_reads_X4_passes rfl rfl rfl (by decide +kernel) ⟨Nat.le_of_ble_eq_true rfl, Nat.le_of_ble_eq_true rfl⟩) hKK (z_recv hKK hP (q0 := 0) (ci := 4) rfl rfl) hP hD hS hA rfl hl.1 rfl (Nat.le_of_ble_eq_true rfl) ⟨Nat.zero_le _, Nat.zero_le _⟩ dX4_reads_108 (fun H locs hP hD hS => ?_)
                have hP : va_P G.1 vwCl (modW G a (mrow v 6 (upd (upd (v 6) 0 (nI (sgT (v 3) tl ((y 4) + 1) - 48))) 1 (nI (sgT (v 3) tl ((y 4) + 3) - 48)))) (nup y 4 ((y 4) + 5))) H := hP
                have hD : va_D A (modW G a (mrow v 6 (upd (upd (v 6) 0 (nI (sgT (v 3) tl ((y 4) + 1) - 48))) 1 (nI (sgT (v 3) tl ((y 4) + 3) - 48)))) (nup y 4 ((y 4) + 5))) := hD
                refine z_ifBne (tgt := 116) hx hb dX4_reads_111 (by decide) (fun c_15 => ?_) (fun c_15 => absurd c_15 (by decide))
                refine lv_aload_n hx hb dX4_reads_116 rfl (lv_at hl 1 rfl) ?_
                refine z_callVI (As := []) (rest := []) (wr := []) (C := RX4) F (c_X4_name l G a (mrow v 6 (upd (upd (v 6) 0 (nI (sgT (v 3) tl ((y 4) + 1) - 48))) 1 (nI (sgT (v 3) tl ((y 4) + 3) - 48)))) (nup y 4 ((y 4) + 5)) (show (y 4) + 5 < 2 ^ 20 by omega) tl (by exact hL) hL6 (by exact hT)) (cwV 0 hts gX4_reads_X4_name rfl rfl rfl (by decide +kernel) ⟨Nat.le_of_ble_eq_true rfl, Nat.le_of_ble_eq_true rfl⟩) hKK (z_recv hKK hP (q0 := 0) (ci := 4) rfl rfl) hP hD hS hA rfl hl.1 rfl (Nat.le_of_ble_eq_true rfl) ⟨Nat.zero_le _, Nat.zero_le _⟩ dX4_reads_117 (fun H locs hP hD hS => ?_)
                have hlc6 := lc_le60 (sgT (v 3) tl) ((y 4) + 5)
                have hP : va_P G.1 vwCl (modW G a (mrow v 6 (upd (upd (v 6) 0 (nI (sgT (v 3) tl ((y 4) + 1) - 48))) 1 (nI (sgT (v 3) tl ((y 4) + 3) - 48)))) (nup (nup (nup y 4 ((y 4) + 5 + lc (sgT (v 3) tl) ((y 4) + 5))) 5 (lc (sgT (v 3) tl) ((y 4) + 5))) 6 (wv (sgT (v 3) tl) ((y 4) + 5) (lc (sgT (v 3) tl) ((y 4) + 5))))) H := hP
                have hD : va_D A (modW G a (mrow v 6 (upd (upd (v 6) 0 (nI (sgT (v 3) tl ((y 4) + 1) - 48))) 1 (nI (sgT (v 3) tl ((y 4) + 3) - 48)))) (nup (nup (nup y 4 ((y 4) + 5 + lc (sgT (v 3) tl) ((y 4) + 5))) 5 (lc (sgT (v 3) tl) ((y 4) + 5))) 6 (wv (sgT (v 3) tl) ((y 4) + 5) (lc (sgT (v 3) tl) ((y 4) + 5))))) := hD
                refine z_top (v := bI (decide (0 < lc (sgT (v 3) tl) ((y 4) + 5)))) rfl ?_
                refine z_ifBeq (tgt := 136) hx hb dX4_reads_120 (by decide) (fun c_16 => ?_) (fun c_16 => ?_)
                · skip
                  have hlk0 := of_decide_eq_false c_16
                  refine lv_iconst (v := nI 0) hx hb dX4_reads_136 (by decide) ?_
                  exact z_iretE (mrow v 6 (upd (upd (v 6) 0 (nI (sgT (v 3) tl ((y 4) + 1) - 48))) 1 (nI (sgT (v 3) tl ((y 4) + 3) - 48))), nup (nup (nup y 4 ((y 4) + 5 + lc (sgT (v 3) tl) ((y 4) + 5))) 5 (lc (sgT (v 3) tl) ((y 4) + 5))) 6 (wv (sgT (v 3) tl) ((y 4) + 5) (lc (sgT (v 3) tl) ((y 4) + 5)))) hx hb hr hlk hP hD hS dX4_reads_137 (by decide) (rdPost_mk ((y 4) + 5 + lc (sgT (v 3) tl) ((y 4) + 5), none) (fun k hk => if_neg hk) (okDg_01 (by omega) (by omega)) (fun k h4 h5 h6 => by simp [nup, h4, h5, h6]) (by rw [prs, if_neg (by omega), if_pos hk61, if_pos hd_8, if_pos hd_10, if_pos hd_12, if_pos hd_14, prL, if_neg hlk0]) rfl rfl (fun d0 d1 k w hz => by cases hz))
                · skip
                  have hlk0 := of_decide_eq_true c_16
                  refine lv_aload_n hx hb dX4_reads_123 rfl (lv_at hl 1 rfl) ?_
                  refine lv_bipush (v := nI 59) hx hb dX4_reads_124 (by decide) ?_
                  rcases Classical.em (sgT (v 3) tl ((y 4) + 5 + lc (sgT (v 3) tl) ((y 4) + 5)) = 59) with hd_17 | hd_17
                  · skip
                    refine z_callVI (As := [.int (nI 59)]) (rest := []) (wr := []) (C := RX4) F (c_X4_passes_t l G a (mrow v 6 (upd (upd (v 6) 0 (nI (sgT (v 3) tl ((y 4) + 1) - 48))) 1 (nI (sgT (v 3) tl ((y 4) + 3) - 48)))) (nup (nup (nup y 4 ((y 4) + 5 + lc (sgT (v 3) tl) ((y 4) + 5))) 5 (lc (sgT (v 3) tl) ((y 4) + 5))) 6 (wv (sgT (v 3) tl) ((y 4) + 5) (lc (sgT (v 3) tl) ((y 4) + 5)))) (59) (by omega) (show (y 4) + 5 + lc (sgT (v 3) tl) ((y 4) + 5) < 2 ^ 20 by omega) tl (by exact hL) hL6 (by exact hT) hd_17) (cwV 1 hts gX4_reads_X4_passes rfl rfl rfl (by decide +kernel) ⟨Nat.le_of_ble_eq_true rfl, Nat.le_of_ble_eq_true rfl⟩) hKK (z_recv hKK hP (q0 := 0) (ci := 4) rfl rfl) hP hD hS hA rfl hl.1 rfl (Nat.le_of_ble_eq_true rfl) ⟨Nat.zero_le _, Nat.zero_le _⟩ dX4_reads_126 (fun H locs hP hD hS => ?_)
                    have hP : va_P G.1 vwCl (modW G a (mrow v 6 (upd (upd (v 6) 0 (nI (sgT (v 3) tl ((y 4) + 1) - 48))) 1 (nI (sgT (v 3) tl ((y 4) + 3) - 48)))) (nup (nup (nup y 4 ((y 4) + 5 + lc (sgT (v 3) tl) ((y 4) + 5) + 1)) 5 (lc (sgT (v 3) tl) ((y 4) + 5))) 6 (wv (sgT (v 3) tl) ((y 4) + 5) (lc (sgT (v 3) tl) ((y 4) + 5))))) H := hP
                    have hD : va_D A (modW G a (mrow v 6 (upd (upd (v 6) 0 (nI (sgT (v 3) tl ((y 4) + 1) - 48))) 1 (nI (sgT (v 3) tl ((y 4) + 3) - 48)))) (nup (nup (nup y 4 ((y 4) + 5 + lc (sgT (v 3) tl) ((y 4) + 5) + 1)) 5 (lc (sgT (v 3) tl) ((y 4) + 5))) 6 (wv (sgT (v 3) tl) ((y 4) + 5) (lc (sgT (v 3) tl) ((y 4) + 5))))) := hD
                    refine z_ifBeq (tgt := 136) hx hb dX4_reads_129 (by decide) (fun c_18 => absurd c_18 (by decide)) (fun c_18 => ?_)
                    refine lv_iconst (v := nI 1) hx hb dX4_reads_132 (by decide) ?_
                    refine lv_goto (tgt := 137) hx hb dX4_reads_133 (by decide) ?_
                    exact z_iretE (mrow v 6 (upd (upd (v 6) 0 (nI (sgT (v 3) tl ((y 4) + 1) - 48))) 1 (nI (sgT (v 3) tl ((y 4) + 3) - 48))), nup (nup (nup y 4 ((y 4) + 5 + lc (sgT (v 3) tl) ((y 4) + 5) + 1)) 5 (lc (sgT (v 3) tl) ((y 4) + 5))) 6 (wv (sgT (v 3) tl) ((y 4) + 5) (lc (sgT (v 3) tl) ((y 4) + 5)))) hx hb hr hlk hP hD hS dX4_reads_137 (by decide) (rdPost_mk ((y 4) + 5 + lc (sgT (v 3) tl) ((y 4) + 5) + 1, some (sgT (v 3) tl ((y 4) + 1) - 48, sgT (v 3) tl ((y 4) + 3) - 48, lc (sgT (v 3) tl) ((y 4) + 5), wv (sgT (v 3) tl) ((y 4) + 5) (lc (sgT (v 3) tl) ((y 4) + 5)))) (fun k hk => if_neg hk) (okDg_01 (by omega) (by omega)) (fun k h4 h5 h6 => by simp [nup, h4, h5, h6]) (by rw [prs, if_neg (by omega), if_pos hk61, if_pos hd_8, if_pos hd_10, if_pos hd_12, if_pos hd_14, prL, if_pos hlk0, if_pos hd_17]) rfl rfl (fun d0 d1 k w hz => by cases hz; exact ⟨fun z => absurd z (by omega), fun _ => ⟨rfl, rfl⟩, fun _ => ⟨rfl, rfl⟩⟩))
                  · skip
                    refine z_callVI (As := [.int (nI 59)]) (rest := []) (wr := []) (C := RX4) F (c_X4_passes_f l G a (mrow v 6 (upd (upd (v 6) 0 (nI (sgT (v 3) tl ((y 4) + 1) - 48))) 1 (nI (sgT (v 3) tl ((y 4) + 3) - 48)))) (nup (nup (nup y 4 ((y 4) + 5 + lc (sgT (v 3) tl) ((y 4) + 5))) 5 (lc (sgT (v 3) tl) ((y 4) + 5))) 6 (wv (sgT (v 3) tl) ((y 4) + 5) (lc (sgT (v 3) tl) ((y 4) + 5)))) (59) (by omega) (show (y 4) + 5 + lc (sgT (v 3) tl) ((y 4) + 5) < 2 ^ 20 by omega) tl (by exact hL) hL6 (by exact hT) hd_17) (cwV 1 hts gX4_reads_X4_passes rfl rfl rfl (by decide +kernel) ⟨Nat.le_of_ble_eq_true rfl, Nat.le_of_ble_eq_true rfl⟩) hKK (z_recv hKK hP (q0 := 0) (ci := 4) rfl rfl) hP hD hS hA rfl hl.1 rfl (Nat.le_of_ble_eq_true rfl) ⟨Nat.zero_le _, Nat.zero_le _⟩ dX4_reads_126 (fun H locs hP hD hS => ?_)
                    have hP : va_P G.1 vwCl (modW G a (mrow v 6 (upd (upd (v 6) 0 (nI (sgT (v 3) tl ((y 4) + 1) - 48))) 1 (nI (sgT (v 3) tl ((y 4) + 3) - 48)))) (nup (nup (nup y 4 ((y 4) + 5 + lc (sgT (v 3) tl) ((y 4) + 5))) 5 (lc (sgT (v 3) tl) ((y 4) + 5))) 6 (wv (sgT (v 3) tl) ((y 4) + 5) (lc (sgT (v 3) tl) ((y 4) + 5))))) H := hP
                    have hD : va_D A (modW G a (mrow v 6 (upd (upd (v 6) 0 (nI (sgT (v 3) tl ((y 4) + 1) - 48))) 1 (nI (sgT (v 3) tl ((y 4) + 3) - 48)))) (nup (nup (nup y 4 ((y 4) + 5 + lc (sgT (v 3) tl) ((y 4) + 5))) 5 (lc (sgT (v 3) tl) ((y 4) + 5))) 6 (wv (sgT (v 3) tl) ((y 4) + 5) (lc (sgT (v 3) tl) ((y 4) + 5))))) := hD
                    refine z_ifBeq (tgt := 136) hx hb dX4_reads_129 (by decide) (fun c_19 => ?_) (fun c_19 => absurd c_19 (by decide))
                    refine lv_iconst (v := nI 0) hx hb dX4_reads_136 (by decide) ?_
                    exact z_iretE (mrow v 6 (upd (upd (v 6) 0 (nI (sgT (v 3) tl ((y 4) + 1) - 48))) 1 (nI (sgT (v 3) tl ((y 4) + 3) - 48))), nup (nup (nup y 4 ((y 4) + 5 + lc (sgT (v 3) tl) ((y 4) + 5))) 5 (lc (sgT (v 3) tl) ((y 4) + 5))) 6 (wv (sgT (v 3) tl) ((y 4) + 5) (lc (sgT (v 3) tl) ((y 4) + 5)))) hx hb hr hlk hP hD hS dX4_reads_137 (by decide) (rdPost_mk ((y 4) + 5 + lc (sgT (v 3) tl) ((y 4) + 5), none) (fun k hk => if_neg hk) (okDg_01 (by omega) (by omega)) (fun k h4 h5 h6 => by simp [nup, h4, h5, h6]) (by rw [prs, if_neg (by omega), if_pos hk61, if_pos hd_8, if_pos hd_10, if_pos hd_12, if_pos hd_14, prL, if_pos hlk0, if_neg hd_17]) rfl rfl (fun d0 d1 k w hz => by cases hz))
              · skip
                refine z_callVI (As := [.int (nI 44)]) (rest := []) (wr := []) (C := RX4) F (c_X4_passes_f l G a (mrow v 6 (upd (upd (v 6) 0 (nI (sgT (v 3) tl ((y 4) + 1) - 48))) 1 (nI (sgT (v 3) tl ((y 4) + 3) - 48)))) (nup y 4 ((y 4) + 4)) (44) (by omega) (show (y 4) + 4 < 2 ^ 20 by omega) tl (by exact hL) hL6 (by exact hT) hd_14) (cwV 1 hts gX4_reads_X4_passes rfl rfl rfl (by decide +kernel) ⟨Nat.le_of_ble_eq_true rfl, Nat.le_of_ble_eq_true rfl⟩) hKK (z_recv hKK hP (q0 := 0) (ci := 4) rfl rfl) hP hD hS hA rfl hl.1 rfl (Nat.le_of_ble_eq_true rfl) ⟨Nat.zero_le _, Nat.zero_le _⟩ dX4_reads_108 (fun H locs hP hD hS => ?_)
                have hP : va_P G.1 vwCl (modW G a (mrow v 6 (upd (upd (v 6) 0 (nI (sgT (v 3) tl ((y 4) + 1) - 48))) 1 (nI (sgT (v 3) tl ((y 4) + 3) - 48)))) (nup y 4 ((y 4) + 4))) H := hP
                have hD : va_D A (modW G a (mrow v 6 (upd (upd (v 6) 0 (nI (sgT (v 3) tl ((y 4) + 1) - 48))) 1 (nI (sgT (v 3) tl ((y 4) + 3) - 48)))) (nup y 4 ((y 4) + 4))) := hD
                refine z_ifBne (tgt := 116) hx hb dX4_reads_111 (by decide) (fun c_20 => absurd c_20 (by decide)) (fun c_20 => ?_)
                refine lv_iconst (v := nI 0) hx hb dX4_reads_114 (by decide) ?_
                exact z_iretE (mrow v 6 (upd (upd (v 6) 0 (nI (sgT (v 3) tl ((y 4) + 1) - 48))) 1 (nI (sgT (v 3) tl ((y 4) + 3) - 48))), nup y 4 ((y 4) + 4)) hx hb hr hlk hP hD hS dX4_reads_115 (by decide) (rdPost_mk ((y 4) + 4, none) (fun k hk => if_neg hk) (okDg_01 (by omega) (by omega)) (fun k h4 h5 h6 => by simp [nup, h4, h5, h6]) (by rw [prs, if_neg (by omega), if_pos hk61, if_pos hd_8, if_pos hd_10, if_pos hd_12, if_neg hd_14]) rfl rfl (fun d0 d1 k w hz => by cases hz))
            · skip
              refine z_callVI (As := [.int (nI 1)]) (rest := []) (wr := []) (C := RX4) F (c_X4_digit_f l G a (mrow v 6 (upd (v 6) 0 (nI (sgT (v 3) tl ((y 4) + 1) - 48)))) (nup y 4 ((y 4) + 3)) (1) (by omega) (show (y 4) + 3 < 2 ^ 20 by omega) tl (by exact hL) hL6 (by exact hT) hd_12) (cwV 1 hts gX4_reads_X4_digit rfl rfl rfl (by decide +kernel) ⟨Nat.le_of_ble_eq_true rfl, Nat.le_of_ble_eq_true rfl⟩) hKK (z_recv hKK hP (q0 := 0) (ci := 4) rfl rfl) hP hD hS hA rfl hl.1 rfl (Nat.le_of_ble_eq_true rfl) ⟨Nat.zero_le _, Nat.zero_le _⟩ dX4_reads_99 (fun H locs hP hD hS => ?_)
              have hP : va_P G.1 vwCl (modW G a (mrow v 6 (upd (upd (v 6) 0 (nI (sgT (v 3) tl ((y 4) + 1) - 48))) 1 (nI 0))) (nup y 4 ((y 4) + 3))) H := hP
              have hD : va_D A (modW G a (mrow v 6 (upd (upd (v 6) 0 (nI (sgT (v 3) tl ((y 4) + 1) - 48))) 1 (nI 0))) (nup y 4 ((y 4) + 3))) := hD
              refine z_ifBeq (tgt := 114) hx hb dX4_reads_102 (by decide) (fun c_21 => ?_) (fun c_21 => absurd c_21 (by decide))
              refine lv_iconst (v := nI 0) hx hb dX4_reads_114 (by decide) ?_
              exact z_iretE (mrow v 6 (upd (upd (v 6) 0 (nI (sgT (v 3) tl ((y 4) + 1) - 48))) 1 (nI 0)), nup y 4 ((y 4) + 3)) hx hb hr hlk hP hD hS dX4_reads_115 (by decide) (rdPost_mk ((y 4) + 3, none) (fun k hk => if_neg hk) (okDg_01 (by omega) (by omega)) (fun k h4 h5 h6 => by simp [nup, h4, h5, h6]) (by rw [prs, if_neg (by omega), if_pos hk61, if_pos hd_8, if_pos hd_10, if_neg (by rw [hd_12]; decide)]) rfl rfl (fun d0 d1 k w hz => by cases hz))
          · skip
            refine z_callVI (As := [.int (nI 44)]) (rest := []) (wr := []) (C := RX4) F (c_X4_passes_f l G a (mrow v 6 (upd (v 6) 0 (nI (sgT (v 3) tl ((y 4) + 1) - 48)))) (nup y 4 ((y 4) + 2)) (44) (by omega) (show (y 4) + 2 < 2 ^ 20 by omega) tl (by exact hL) hL6 (by exact hT) hd_10) (cwV 1 hts gX4_reads_X4_passes rfl rfl rfl (by decide +kernel) ⟨Nat.le_of_ble_eq_true rfl, Nat.le_of_ble_eq_true rfl⟩) hKK (z_recv hKK hP (q0 := 0) (ci := 4) rfl rfl) hP hD hS hA rfl hl.1 rfl (Nat.le_of_ble_eq_true rfl) ⟨Nat.zero_le _, Nat.zero_le _⟩ dX4_reads_91 (fun H locs hP hD hS => ?_)
            have hP : va_P G.1 vwCl (modW G a (mrow v 6 (upd (v 6) 0 (nI (sgT (v 3) tl ((y 4) + 1) - 48)))) (nup y 4 ((y 4) + 2))) H := hP
            have hD : va_D A (modW G a (mrow v 6 (upd (v 6) 0 (nI (sgT (v 3) tl ((y 4) + 1) - 48)))) (nup y 4 ((y 4) + 2))) := hD
            refine z_ifBeq (tgt := 114) hx hb dX4_reads_94 (by decide) (fun c_22 => ?_) (fun c_22 => absurd c_22 (by decide))
            refine lv_iconst (v := nI 0) hx hb dX4_reads_114 (by decide) ?_
            exact z_iretE (mrow v 6 (upd (v 6) 0 (nI (sgT (v 3) tl ((y 4) + 1) - 48))), nup y 4 ((y 4) + 2)) hx hb hr hlk hP hD hS dX4_reads_115 (by decide) (rdPost_mk ((y 4) + 2, none) (fun k hk => if_neg hk) (okDg_0 hdg (by omega)) (fun k h4 h5 h6 => by simp [nup, h4, h5, h6]) (by rw [prs, if_neg (by omega), if_pos hk61, if_pos hd_8, if_neg hd_10]) rfl rfl (fun d0 d1 k w hz => by cases hz))
        · skip
          refine z_callVI (As := [.int (nI 0)]) (rest := []) (wr := []) (C := RX4) F (c_X4_digit_f l G a v (nup y 4 ((y 4) + 1)) (0) (by omega) (show (y 4) + 1 < 2 ^ 20 by omega) tl (by exact hL) hL6 (by exact hT) hd_8) (cwV 1 hts gX4_reads_X4_digit rfl rfl rfl (by decide +kernel) ⟨Nat.le_of_ble_eq_true rfl, Nat.le_of_ble_eq_true rfl⟩) hKK (z_recv hKK hP (q0 := 0) (ci := 4) rfl rfl) hP hD hS hA rfl hl.1 rfl (Nat.le_of_ble_eq_true rfl) ⟨Nat.zero_le _, Nat.zero_le _⟩ dX4_reads_82 (fun H locs hP hD hS => ?_)
          have hP : va_P G.1 vwCl (modW G a (mrow v 6 (upd (v 6) 0 (nI 0))) (nup y 4 ((y 4) + 1))) H := hP
          have hD : va_D A (modW G a (mrow v 6 (upd (v 6) 0 (nI 0))) (nup y 4 ((y 4) + 1))) := hD
          refine z_ifBeq (tgt := 114) hx hb dX4_reads_85 (by decide) (fun c_23 => ?_) (fun c_23 => absurd c_23 (by decide))
          refine lv_iconst (v := nI 0) hx hb dX4_reads_114 (by decide) ?_
          exact z_iretE (mrow v 6 (upd (v 6) 0 (nI 0)), nup y 4 ((y 4) + 1)) hx hb hr hlk hP hD hS dX4_reads_115 (by decide) (rdPost_mk ((y 4) + 1, none) (fun k hk => if_neg hk) (okDg_0 hdg (by omega)) (fun k h4 h5 h6 => by simp [nup, h4, h5, h6]) (by rw [prs, if_neg (by omega), if_pos hk61, if_neg (by rw [hd_8]; decide)]) rfl rfl (fun d0 d1 k w hz => by cases hz))
    · skip
      have hk33 := c_2
      refine lv_aload_n hx hb dX4_reads_51 rfl (lv_at hl 1 rfl) ?_
      refine lv_iconst (v := nI 0) hx hb dX4_reads_52 (by decide) ?_
      rcases z_b (dgB (sgT (v 3) tl ((y 4) + 1))) with hd_24 | hd_24
      · have hg_24 := dgB_t hd_24
        refine z_callVI (As := [.int (nI 0)]) (rest := []) (wr := []) (C := RX4) F (c_X4_digit_t l G a v (nup y 4 ((y 4) + 1)) (0) (by omega) (show (y 4) + 1 < 2 ^ 20 by omega) tl (by exact hL) hL6 (by exact hT) hd_24) (cwV 1 hts gX4_reads_X4_digit rfl rfl rfl (by decide +kernel) ⟨Nat.le_of_ble_eq_true rfl, Nat.le_of_ble_eq_true rfl⟩) hKK (z_recv hKK hP (q0 := 0) (ci := 4) rfl rfl) hP hD hS hA rfl hl.1 rfl (Nat.le_of_ble_eq_true rfl) ⟨Nat.zero_le _, Nat.zero_le _⟩ dX4_reads_53 (fun H locs hP hD hS => ?_)
        have hP : va_P G.1 vwCl (modW G a (mrow v 6 (upd (v 6) 0 (nI (sgT (v 3) tl ((y 4) + 1) - 48)))) (nup y 4 ((y 4) + 2))) H := hP
        have hD : va_D A (modW G a (mrow v 6 (upd (v 6) 0 (nI (sgT (v 3) tl ((y 4) + 1) - 48)))) (nup y 4 ((y 4) + 2))) := hD
        refine z_ifBeq (tgt := 72) hx hb dX4_reads_56 (by decide) (fun c_25 => absurd c_25 (by decide)) (fun c_25 => ?_)
        refine lv_aload_n hx hb dX4_reads_59 rfl (lv_at hl 1 rfl) ?_
        refine lv_bipush (v := nI 59) hx hb dX4_reads_60 (by decide) ?_
        rcases Classical.em (sgT (v 3) tl ((y 4) + 2) = 59) with hd_26 | hd_26
        · skip
          refine z_callVI (As := [.int (nI 59)]) (rest := []) (wr := []) (C := RX4) F (c_X4_passes_t l G a (mrow v 6 (upd (v 6) 0 (nI (sgT (v 3) tl ((y 4) + 1) - 48)))) (nup y 4 ((y 4) + 2)) (59) (by omega) (show (y 4) + 2 < 2 ^ 20 by omega) tl (by exact hL) hL6 (by exact hT) hd_26) (cwV 1 hts gX4_reads_X4_passes rfl rfl rfl (by decide +kernel) ⟨Nat.le_of_ble_eq_true rfl, Nat.le_of_ble_eq_true rfl⟩) hKK (z_recv hKK hP (q0 := 0) (ci := 4) rfl rfl) hP hD hS hA rfl hl.1 rfl (Nat.le_of_ble_eq_true rfl) ⟨Nat.zero_le _, Nat.zero_le _⟩ dX4_reads_62 (fun H locs hP hD hS => ?_)
          have hP : va_P G.1 vwCl (modW G a (mrow v 6 (upd (v 6) 0 (nI (sgT (v 3) tl ((y 4) + 1) - 48)))) (nup y 4 ((y 4) + 3))) H := hP
          have hD : va_D A (modW G a (mrow v 6 (upd (v 6) 0 (nI (sgT (v 3) tl ((y 4) + 1) - 48)))) (nup y 4 ((y 4) + 3))) := hD
          refine z_ifBeq (tgt := 72) hx hb dX4_reads_65 (by decide) (fun c_27 => absurd c_27 (by decide)) (fun c_27 => ?_)
          refine lv_iconst (v := nI 1) hx hb dX4_reads_68 (by decide) ?_
          refine lv_goto (tgt := 73) hx hb dX4_reads_69 (by decide) ?_
          exact z_iretE (mrow v 6 (upd (v 6) 0 (nI (sgT (v 3) tl ((y 4) + 1) - 48))), nup y 4 ((y 4) + 3)) hx hb hr hlk hP hD hS dX4_reads_73 (by decide) (rdPost_mk ((y 4) + 3, some (sgT (v 3) tl ((y 4) + 1) - 48, 0, 0, 0)) (fun k hk => if_neg hk) (okDg_0 hdg (by omega)) (fun k h4 h5 h6 => by simp [nup, h4, h5, h6]) (by rw [prs, if_pos hk33, if_pos hd_24, if_pos hd_26]) rfl rfl (fun d0 d1 k w hz => by cases hz; exact ⟨fun _ => rfl, fun z => absurd z (by omega), fun z => absurd hk33 z⟩))
        · skip
          refine z_callVI (As := [.int (nI 59)]) (rest := []) (wr := []) (C := RX4) F (c_X4_passes_f l G a (mrow v 6 (upd (v 6) 0 (nI (sgT (v 3) tl ((y 4) + 1) - 48)))) (nup y 4 ((y 4) + 2)) (59) (by omega) (show (y 4) + 2 < 2 ^ 20 by omega) tl (by exact hL) hL6 (by exact hT) hd_26) (cwV 1 hts gX4_reads_X4_passes rfl rfl rfl (by decide +kernel) ⟨Nat.le_of_ble_eq_true rfl, Nat.le_of_ble_eq_true rfl⟩) hKK (z_recv hKK hP (q0 := 0) (ci := 4) rfl rfl) hP hD hS hA rfl hl.1 rfl (Nat.le_of_ble_eq_true rfl) ⟨Nat.zero_le _, Nat.zero_le _⟩ dX4_reads_62 (fun H locs hP hD hS => ?_)
          have hP : va_P G.1 vwCl (modW G a (mrow v 6 (upd (v 6) 0 (nI (sgT (v 3) tl ((y 4) + 1) - 48)))) (nup y 4 ((y 4) + 2))) H := hP
          have hD : va_D A (modW G a (mrow v 6 (upd (v 6) 0 (nI (sgT (v 3) tl ((y 4) + 1) - 48)))) (nup y 4 ((y 4) + 2))) := hD
          refine z_ifBeq (tgt := 72) hx hb dX4_reads_65 (by decide) (fun c_28 => ?_) (fun c_28 => absurd c_28 (by decide))
          refine lv_iconst (v := nI 0) hx hb dX4_reads_72 (by decide) ?_
          exact z_iretE (mrow v 6 (upd (v 6) 0 (nI (sgT (v 3) tl ((y 4) + 1) - 48))), nup y 4 ((y 4) + 2)) hx hb hr hlk hP hD hS dX4_reads_73 (by decide) (rdPost_mk ((y 4) + 2, none) (fun k hk => if_neg hk) (okDg_0 hdg (by omega)) (fun k h4 h5 h6 => by simp [nup, h4, h5, h6]) (by rw [prs, if_pos hk33, if_pos hd_24, if_neg hd_26]) rfl rfl (fun d0 d1 k w hz => by cases hz))
      · skip
        refine z_callVI (As := [.int (nI 0)]) (rest := []) (wr := []) (C := RX4) F (c_X4_digit_f l G a v (nup y 4 ((y 4) + 1)) (0) (by omega) (show (y 4) + 1 < 2 ^ 20 by omega) tl (by exact hL) hL6 (by exact hT) hd_24) (cwV 1 hts gX4_reads_X4_digit rfl rfl rfl (by decide +kernel) ⟨Nat.le_of_ble_eq_true rfl, Nat.le_of_ble_eq_true rfl⟩) hKK (z_recv hKK hP (q0 := 0) (ci := 4) rfl rfl) hP hD hS hA rfl hl.1 rfl (Nat.le_of_ble_eq_true rfl) ⟨Nat.zero_le _, Nat.zero_le _⟩ dX4_reads_53 (fun H locs hP hD hS => ?_)
        have hP : va_P G.1 vwCl (modW G a (mrow v 6 (upd (v 6) 0 (nI 0))) (nup y 4 ((y 4) + 1))) H := hP
        have hD : va_D A (modW G a (mrow v 6 (upd (v 6) 0 (nI 0))) (nup y 4 ((y 4) + 1))) := hD
        refine z_ifBeq (tgt := 72) hx hb dX4_reads_56 (by decide) (fun c_29 => ?_) (fun c_29 => absurd c_29 (by decide))
        refine lv_iconst (v := nI 0) hx hb dX4_reads_72 (by decide) ?_
        exact z_iretE (mrow v 6 (upd (v 6) 0 (nI 0)), nup y 4 ((y 4) + 1)) hx hb hr hlk hP hD hS dX4_reads_73 (by decide) (rdPost_mk ((y 4) + 1, none) (fun k hk => if_neg hk) (okDg_0 hdg (by omega)) (fun k h4 h5 h6 => by simp [nup, h4, h5, h6]) (by rw [prs, if_pos hk33, if_neg (by rw [hd_24]; decide)]) rfl rfl (fun d0 d1 k w hz => by cases hz))
  · skip
    refine lv_iload_n hx hb dX4_reads_15 rfl (lv_at hl 0 rfl) ?_
    refine lv_bipush (v := nI 45) hx hb dX4_reads_16 (by decide) ?_
    refine z_eq (tgt := 35) hx hb dX4_reads_18 (by decide) (Nat.lt_trans (sgT_lt hT hL6 _) (by decide)) (by omega) (fun c_30 => ?_) (fun c_30 => ?_)
    · skip
      refine lv_aload_n hx hb dX4_reads_35 rfl (lv_at hl 1 rfl) ?_
      refine lv_dup hx hb dX4_reads_36 rfl ?_
      refine va_get (D := G.1) (ci := 4) (v := .int (nI (y 4))) (C := RX4) (T := TX4) (N := 17) hx hb hts hinX4 hown hKK.1 hP 0 rfl rfl 10 (by decide) fl_134 (fun _ h9 => h9) rfl dX4_reads_37 ?_
      refine lv_iconst (v := nI 1) hx hb dX4_reads_40 (by decide) ?_
      refine z_add (v := nI ((y 4) + 1)) hx hb dX4_reads_41 (nI_add _ _) ?_
      refine z_put (w2 := modW G a v (nup y 4 ((y 4) + 1))) hx hb hts hinX4 tyX4 tyX4_ok nmX4 hown hKK hP hD hS 0 (ci := 4) (C := RX4) (T := TX4) (N := 17) rfl rfl 10 (by decide) fl_134 rfl rfl rfl (Nat.le_of_ble_eq_true rfl) rfl dX4_reads_42 (fun H locs hP hD hS => ?_)
      refine lv_iload_n hx hb dX4_reads_45 rfl (lv_at hl 0 rfl) ?_
      refine lv_bipush (v := nI 33) hx hb dX4_reads_46 (by decide) ?_
      refine z_ne (tgt := 74) hx hb dX4_reads_48 (by decide) (Nat.lt_trans (sgT_lt hT hL6 _) (by decide)) (by omega) (fun c_31 => ?_) (fun c_31 => ?_)
      · skip
        refine lv_iload_n hx hb dX4_reads_74 rfl (lv_at hl 0 rfl) ?_
        refine lv_bipush (v := nI 61) hx hb dX4_reads_75 (by decide) ?_
        refine z_ne (tgt := 116) hx hb dX4_reads_77 (by decide) (Nat.lt_trans (sgT_lt hT hL6 _) (by decide)) (by omega) (fun c_32 => ?_) (fun c_32 => ?_)
        · skip
          refine lv_aload_n hx hb dX4_reads_116 rfl (lv_at hl 1 rfl) ?_
          refine z_callVI (As := []) (rest := []) (wr := []) (C := RX4) F (c_X4_name l G a v (nup y 4 ((y 4) + 1)) (show (y 4) + 1 < 2 ^ 20 by omega) tl (by exact hL) hL6 (by exact hT)) (cwV 0 hts gX4_reads_X4_name rfl rfl rfl (by decide +kernel) ⟨Nat.le_of_ble_eq_true rfl, Nat.le_of_ble_eq_true rfl⟩) hKK (z_recv hKK hP (q0 := 0) (ci := 4) rfl rfl) hP hD hS hA rfl hl.1 rfl (Nat.le_of_ble_eq_true rfl) ⟨Nat.zero_le _, Nat.zero_le _⟩ dX4_reads_117 (fun H locs hP hD hS => ?_)
          have hlc6 := lc_le60 (sgT (v 3) tl) ((y 4) + 1)
          have hP : va_P G.1 vwCl (modW G a v (nup (nup (nup y 4 ((y 4) + 1 + lc (sgT (v 3) tl) ((y 4) + 1))) 5 (lc (sgT (v 3) tl) ((y 4) + 1))) 6 (wv (sgT (v 3) tl) ((y 4) + 1) (lc (sgT (v 3) tl) ((y 4) + 1))))) H := hP
          have hD : va_D A (modW G a v (nup (nup (nup y 4 ((y 4) + 1 + lc (sgT (v 3) tl) ((y 4) + 1))) 5 (lc (sgT (v 3) tl) ((y 4) + 1))) 6 (wv (sgT (v 3) tl) ((y 4) + 1) (lc (sgT (v 3) tl) ((y 4) + 1))))) := hD
          refine z_top (v := bI (decide (0 < lc (sgT (v 3) tl) ((y 4) + 1)))) rfl ?_
          refine z_ifBeq (tgt := 136) hx hb dX4_reads_120 (by decide) (fun c_33 => ?_) (fun c_33 => ?_)
          · skip
            have hlk0 := of_decide_eq_false c_33
            refine lv_iconst (v := nI 0) hx hb dX4_reads_136 (by decide) ?_
            exact z_iretE (v, nup (nup (nup y 4 ((y 4) + 1 + lc (sgT (v 3) tl) ((y 4) + 1))) 5 (lc (sgT (v 3) tl) ((y 4) + 1))) 6 (wv (sgT (v 3) tl) ((y 4) + 1) (lc (sgT (v 3) tl) ((y 4) + 1)))) hx hb hr hlk hP hD hS dX4_reads_137 (by decide) (rdPost_mk ((y 4) + 1 + lc (sgT (v 3) tl) ((y 4) + 1), none) (fun k hk => rfl) hdg (fun k h4 h5 h6 => by simp [nup, h4, h5, h6]) (by rw [prs, if_neg (by omega), if_neg (by omega), if_pos (by omega), prL, if_neg hlk0]) rfl rfl (fun d0 d1 k w hz => by cases hz))
          · skip
            have hlk0 := of_decide_eq_true c_33
            refine lv_aload_n hx hb dX4_reads_123 rfl (lv_at hl 1 rfl) ?_
            refine lv_bipush (v := nI 59) hx hb dX4_reads_124 (by decide) ?_
            rcases Classical.em (sgT (v 3) tl ((y 4) + 1 + lc (sgT (v 3) tl) ((y 4) + 1)) = 59) with hd_34 | hd_34
            · skip
              refine z_callVI (As := [.int (nI 59)]) (rest := []) (wr := []) (C := RX4) F (c_X4_passes_t l G a v (nup (nup (nup y 4 ((y 4) + 1 + lc (sgT (v 3) tl) ((y 4) + 1))) 5 (lc (sgT (v 3) tl) ((y 4) + 1))) 6 (wv (sgT (v 3) tl) ((y 4) + 1) (lc (sgT (v 3) tl) ((y 4) + 1)))) (59) (by omega) (show (y 4) + 1 + lc (sgT (v 3) tl) ((y 4) + 1) < 2 ^ 20 by omega) tl (by exact hL) hL6 (by exact hT) hd_34) (cwV 1 hts gX4_reads_X4_passes rfl rfl rfl (by decide +kernel) ⟨Nat.le_of_ble_eq_true rfl, Nat.le_of_ble_eq_true rfl⟩) hKK (z_recv hKK hP (q0 := 0) (ci := 4) rfl rfl) hP hD hS hA rfl hl.1 rfl (Nat.le_of_ble_eq_true rfl) ⟨Nat.zero_le _, Nat.zero_le _⟩ dX4_reads_126 (fun H locs hP hD hS => ?_)
              have hP : va_P G.1 vwCl (modW G a v (nup (nup (nup y 4 ((y 4) + 1 + lc (sgT (v 3) tl) ((y 4) + 1) + 1)) 5 (lc (sgT (v 3) tl) ((y 4) + 1))) 6 (wv (sgT (v 3) tl) ((y 4) + 1) (lc (sgT (v 3) tl) ((y 4) + 1))))) H := hP
              have hD : va_D A (modW G a v (nup (nup (nup y 4 ((y 4) + 1 + lc (sgT (v 3) tl) ((y 4) + 1) + 1)) 5 (lc (sgT (v 3) tl) ((y 4) + 1))) 6 (wv (sgT (v 3) tl) ((y 4) + 1) (lc (sgT (v 3) tl) ((y 4) + 1))))) := hD
              refine z_ifBeq (tgt := 136) hx hb dX4_reads_129 (by decide) (fun c_35 => absurd c_35 (by decide)) (fun c_35 => ?_)
              refine lv_iconst (v := nI 1) hx hb dX4_reads_132 (by decide) ?_
              refine lv_goto (tgt := 137) hx hb dX4_reads_133 (by decide) ?_
              exact z_iretE (v, nup (nup (nup y 4 ((y 4) + 1 + lc (sgT (v 3) tl) ((y 4) + 1) + 1)) 5 (lc (sgT (v 3) tl) ((y 4) + 1))) 6 (wv (sgT (v 3) tl) ((y 4) + 1) (lc (sgT (v 3) tl) ((y 4) + 1)))) hx hb hr hlk hP hD hS dX4_reads_137 (by decide) (rdPost_mk ((y 4) + 1 + lc (sgT (v 3) tl) ((y 4) + 1) + 1, some (0, 0, lc (sgT (v 3) tl) ((y 4) + 1), wv (sgT (v 3) tl) ((y 4) + 1) (lc (sgT (v 3) tl) ((y 4) + 1)))) (fun k hk => rfl) hdg (fun k h4 h5 h6 => by simp [nup, h4, h5, h6]) (by rw [prs, if_neg (by omega), if_neg (by omega), if_pos (by omega), prL, if_pos hlk0, if_pos hd_34]) rfl rfl (fun d0 d1 k w hz => by cases hz; exact ⟨fun z => absurd z (by omega), fun z => absurd z (by omega), fun _ => ⟨rfl, rfl⟩⟩))
            · skip
              refine z_callVI (As := [.int (nI 59)]) (rest := []) (wr := []) (C := RX4) F (c_X4_passes_f l G a v (nup (nup (nup y 4 ((y 4) + 1 + lc (sgT (v 3) tl) ((y 4) + 1))) 5 (lc (sgT (v 3) tl) ((y 4) + 1))) 6 (wv (sgT (v 3) tl) ((y 4) + 1) (lc (sgT (v 3) tl) ((y 4) + 1)))) (59) (by omega) (show (y 4) + 1 + lc (sgT (v 3) tl) ((y 4) + 1) < 2 ^ 20 by omega) tl (by exact hL) hL6 (by exact hT) hd_34) (cwV 1 hts gX4_reads_X4_passes rfl rfl rfl (by decide +kernel) ⟨Nat.le_of_ble_eq_true rfl, Nat.le_of_ble_eq_true rfl⟩) hKK (z_recv hKK hP (q0 := 0) (ci := 4) rfl rfl) hP hD hS hA rfl hl.1 rfl (Nat.le_of_ble_eq_true rfl) ⟨Nat.zero_le _, Nat.zero_le _⟩ dX4_reads_126 (fun H locs hP hD hS => ?_)
              have hP : va_P G.1 vwCl (modW G a v (nup (nup (nup y 4 ((y 4) + 1 + lc (sgT (v 3) tl) ((y 4) + 1))) 5 (lc (sgT (v 3) tl) ((y 4) + 1))) 6 (wv (sgT (v 3) tl) ((y 4) + 1) (lc (sgT (v 3) tl) ((y 4) + 1))))) H := hP
              have hD : va_D A (modW G a v (nup (nup (nup y 4 ((y 4) + 1 + lc (sgT (v 3) tl) ((y 4) + 1))) 5 (lc (sgT (v 3) tl) ((y 4) + 1))) 6 (wv (sgT (v 3) tl) ((y 4) + 1) (lc (sgT (v 3) tl) ((y 4) + 1))))) := hD
              refine z_ifBeq (tgt := 136) hx hb dX4_reads_129 (by decide) (fun c_36 => ?_) (fun c_36 => absurd c_36 (by decide))
              refine lv_iconst (v := nI 0) hx hb dX4_reads_136 (by decide) ?_
              exact z_iretE (v, nup (nup (nup y 4 ((y 4) + 1 + lc (sgT (v 3) tl) ((y 4) + 1))) 5 (lc (sgT (v 3) tl) ((y 4) + 1))) 6 (wv (sgT (v 3) tl) ((y 4) + 1) (lc (sgT (v 3) tl) ((y 4) + 1)))) hx hb hr hlk hP hD hS dX4_reads_137 (by decide) (rdPost_mk ((y 4) + 1 + lc (sgT (v 3) tl) ((y 4) + 1), none) (fun k hk => rfl) hdg (fun k h4 h5 h6 => by simp [nup, h4, h5, h6]) (by rw [prs, if_neg (by omega), if_neg (by omega), if_pos (by omega), prL, if_pos hlk0, if_neg hd_34]) rfl rfl (fun d0 d1 k w hz => by cases hz))
        · skip
          have hk61 := c_32
          refine lv_aload_n hx hb dX4_reads_80 rfl (lv_at hl 1 rfl) ?_
          refine lv_iconst (v := nI 0) hx hb dX4_reads_81 (by decide) ?_
          rcases z_b (dgB (sgT (v 3) tl ((y 4) + 1))) with hd_37 | hd_37
          · have hg_37 := dgB_t hd_37
            refine z_callVI (As := [.int (nI 0)]) (rest := []) (wr := []) (C := RX4) F (c_X4_digit_t l G a v (nup y 4 ((y 4) + 1)) (0) (by omega) (show (y 4) + 1 < 2 ^ 20 by omega) tl (by exact hL) hL6 (by exact hT) hd_37) (cwV 1 hts gX4_reads_X4_digit rfl rfl rfl (by decide +kernel) ⟨Nat.le_of_ble_eq_true rfl, Nat.le_of_ble_eq_true rfl⟩) hKK (z_recv hKK hP (q0 := 0) (ci := 4) rfl rfl) hP hD hS hA rfl hl.1 rfl (Nat.le_of_ble_eq_true rfl) ⟨Nat.zero_le _, Nat.zero_le _⟩ dX4_reads_82 (fun H locs hP hD hS => ?_)
            have hP : va_P G.1 vwCl (modW G a (mrow v 6 (upd (v 6) 0 (nI (sgT (v 3) tl ((y 4) + 1) - 48)))) (nup y 4 ((y 4) + 2))) H := hP
            have hD : va_D A (modW G a (mrow v 6 (upd (v 6) 0 (nI (sgT (v 3) tl ((y 4) + 1) - 48)))) (nup y 4 ((y 4) + 2))) := hD
            refine z_ifBeq (tgt := 114) hx hb dX4_reads_85 (by decide) (fun c_38 => absurd c_38 (by decide)) (fun c_38 => ?_)
            refine lv_aload_n hx hb dX4_reads_88 rfl (lv_at hl 1 rfl) ?_
            refine lv_bipush (v := nI 44) hx hb dX4_reads_89 (by decide) ?_
            rcases Classical.em (sgT (v 3) tl ((y 4) + 2) = 44) with hd_39 | hd_39
            · skip
              refine z_callVI (As := [.int (nI 44)]) (rest := []) (wr := []) (C := RX4) F (c_X4_passes_t l G a (mrow v 6 (upd (v 6) 0 (nI (sgT (v 3) tl ((y 4) + 1) - 48)))) (nup y 4 ((y 4) + 2)) (44) (by omega) (show (y 4) + 2 < 2 ^ 20 by omega) tl (by exact hL) hL6 (by exact hT) hd_39) (cwV 1 hts gX4_reads_X4_passes rfl rfl rfl (by decide +kernel) ⟨Nat.le_of_ble_eq_true rfl, Nat.le_of_ble_eq_true rfl⟩) hKK (z_recv hKK hP (q0 := 0) (ci := 4) rfl rfl) hP hD hS hA rfl hl.1 rfl (Nat.le_of_ble_eq_true rfl) ⟨Nat.zero_le _, Nat.zero_le _⟩ dX4_reads_91 (fun H locs hP hD hS => ?_)
              have hP : va_P G.1 vwCl (modW G a (mrow v 6 (upd (v 6) 0 (nI (sgT (v 3) tl ((y 4) + 1) - 48)))) (nup y 4 ((y 4) + 3))) H := hP
              have hD : va_D A (modW G a (mrow v 6 (upd (v 6) 0 (nI (sgT (v 3) tl ((y 4) + 1) - 48)))) (nup y 4 ((y 4) + 3))) := hD
              refine z_ifBeq (tgt := 114) hx hb dX4_reads_94 (by decide) (fun c_40 => absurd c_40 (by decide)) (fun c_40 => ?_)
              refine lv_aload_n hx hb dX4_reads_97 rfl (lv_at hl 1 rfl) ?_
              refine lv_iconst (v := nI 1) hx hb dX4_reads_98 (by decide) ?_
              rcases z_b (dgB (sgT (v 3) tl ((y 4) + 3))) with hd_41 | hd_41
              · have hg_41 := dgB_t hd_41
                refine z_callVI (As := [.int (nI 1)]) (rest := []) (wr := []) (C := RX4) F (c_X4_digit_t l G a (mrow v 6 (upd (v 6) 0 (nI (sgT (v 3) tl ((y 4) + 1) - 48)))) (nup y 4 ((y 4) + 3)) (1) (by omega) (show (y 4) + 3 < 2 ^ 20 by omega) tl (by exact hL) hL6 (by exact hT) hd_41) (cwV 1 hts gX4_reads_X4_digit rfl rfl rfl (by decide +kernel) ⟨Nat.le_of_ble_eq_true rfl, Nat.le_of_ble_eq_true rfl⟩) hKK (z_recv hKK hP (q0 := 0) (ci := 4) rfl rfl) hP hD hS hA rfl hl.1 rfl (Nat.le_of_ble_eq_true rfl) ⟨Nat.zero_le _, Nat.zero_le _⟩ dX4_reads_99 (fun H locs hP hD hS => ?_)
                have hP : va_P G.1 vwCl (modW G a (mrow v 6 (upd (upd (v 6) 0 (nI (sgT (v 3) tl ((y 4) + 1) - 48))) 1 (nI (sgT (v 3) tl ((y 4) + 3) - 48)))) (nup y 4 ((y 4) + 4))) H := hP
                have hD : va_D A (modW G a (mrow v 6 (upd (upd (v 6) 0 (nI (sgT (v 3) tl ((y 4) + 1) - 48))) 1 (nI (sgT (v 3) tl ((y 4) + 3) - 48)))) (nup y 4 ((y 4) + 4))) := hD
                refine z_ifBeq (tgt := 114) hx hb dX4_reads_102 (by decide) (fun c_42 => absurd c_42 (by decide)) (fun c_42 => ?_)
                refine lv_aload_n hx hb dX4_reads_105 rfl (lv_at hl 1 rfl) ?_
                refine lv_bipush (v := nI 44) hx hb dX4_reads_106 (by decide) ?_
                rcases Classical.em (sgT (v 3) tl ((y 4) + 4) = 44) with hd_43 | hd_43
                · skip
                  refine z_callVI (As := [.int (nI 44)]) (rest := []) (wr := []) (C := RX4) F (c_X4_passes_t l G a (mrow v 6 (upd (upd (v 6) 0 (nI (sgT (v 3) tl ((y 4) + 1) - 48))) 1 (nI (sgT (v 3) tl ((y 4) + 3) - 48)))) (nup y 4 ((y 4) + 4)) (44) (by omega) (show (y 4) + 4 < 2 ^ 20 by omega) tl (by exact hL) hL6 (by exact hT) hd_43) (cwV 1 hts gX4_reads_X4_passes rfl rfl rfl (by decide +kernel) ⟨Nat.le_of_ble_eq_true rfl, Nat.le_of_ble_eq_true rfl⟩) hKK (z_recv hKK hP (q0 := 0) (ci := 4) rfl rfl) hP hD hS hA rfl hl.1 rfl (Nat.le_of_ble_eq_true rfl) ⟨Nat.zero_le _, Nat.zero_le _⟩ dX4_reads_108 (fun H locs hP hD hS => ?_)
                  have hP : va_P G.1 vwCl (modW G a (mrow v 6 (upd (upd (v 6) 0 (nI (sgT (v 3) tl ((y 4) + 1) - 48))) 1 (nI (sgT (v 3) tl ((y 4) + 3) - 48)))) (nup y 4 ((y 4) + 5))) H := hP
                  have hD : va_D A (modW G a (mrow v 6 (upd (upd (v 6) 0 (nI (sgT (v 3) tl ((y 4) + 1) - 48))) 1 (nI (sgT (v 3) tl ((y 4) + 3) - 48)))) (nup y 4 ((y 4) + 5))) := hD
                  refine z_ifBne (tgt := 116) hx hb dX4_reads_111 (by decide) (fun c_44 => ?_) (fun c_44 => absurd c_44 (by decide))
                  refine lv_aload_n hx hb dX4_reads_116 rfl (lv_at hl 1 rfl) ?_
                  refine z_callVI (As := []) (rest := []) (wr := []) (C := RX4) F (c_X4_name l G a (mrow v 6 (upd (upd (v 6) 0 (nI (sgT (v 3) tl ((y 4) + 1) - 48))) 1 (nI (sgT (v 3) tl ((y 4) + 3) - 48)))) (nup y 4 ((y 4) + 5)) (show (y 4) + 5 < 2 ^ 20 by omega) tl (by exact hL) hL6 (by exact hT)) (cwV 0 hts gX4_reads_X4_name rfl rfl rfl (by decide +kernel) ⟨Nat.le_of_ble_eq_true rfl, Nat.le_of_ble_eq_true rfl⟩) hKK (z_recv hKK hP (q0 := 0) (ci := 4) rfl rfl) hP hD hS hA rfl hl.1 rfl (Nat.le_of_ble_eq_true rfl) ⟨Nat.zero_le _, Nat.zero_le _⟩ dX4_reads_117 (fun H locs hP hD hS => ?_)
                  have hlc6 := lc_le60 (sgT (v 3) tl) ((y 4) + 5)
                  have hP : va_P G.1 vwCl (modW G a (mrow v 6 (upd (upd (v 6) 0 (nI (sgT (v 3) tl ((y 4) + 1) - 48))) 1 (nI (sgT (v 3) tl ((y 4) + 3) - 48)))) (nup (nup (nup y 4 ((y 4) + 5 + lc (sgT (v 3) tl) ((y 4) + 5))) 5 (lc (sgT (v 3) tl) ((y 4) + 5))) 6 (wv (sgT (v 3) tl) ((y 4) + 5) (lc (sgT (v 3) tl) ((y 4) + 5))))) H := hP
                  have hD : va_D A (modW G a (mrow v 6 (upd (upd (v 6) 0 (nI (sgT (v 3) tl ((y 4) + 1) - 48))) 1 (nI (sgT (v 3) tl ((y 4) + 3) - 48)))) (nup (nup (nup y 4 ((y 4) + 5 + lc (sgT (v 3) tl) ((y 4) + 5))) 5 (lc (sgT (v 3) tl) ((y 4) + 5))) 6 (wv (sgT (v 3) tl) ((y 4) + 5) (lc (sgT (v 3) tl) ((y 4) + 5))))) := hD
                  refine z_top (v := bI (decide (0 < lc (sgT (v 3) tl) ((y 4) + 5)))) rfl ?_
                  refine z_ifBeq (tgt := 136) hx hb dX4_reads_120 (by decide) (fun c_45 => ?_) (fun c_45 => ?_)
                  · skip
                    have hlk0 := of_decide_eq_false c_45
                    refine lv_iconst (v := nI 0) hx hb dX4_reads_136 (by decide) ?_
                    exact z_iretE (mrow v 6 (upd (upd (v 6) 0 (nI (sgT (v 3) tl ((y 4) + 1) - 48))) 1 (nI (sgT (v 3) tl ((y 4) + 3) - 48))), nup (nup (nup y 4 ((y 4) + 5 + lc (sgT (v 3) tl) ((y 4) + 5))) 5 (lc (sgT (v 3) tl) ((y 4) + 5))) 6 (wv (sgT (v 3) tl) ((y 4) + 5) (lc (sgT (v 3) tl) ((y 4) + 5)))) hx hb hr hlk hP hD hS dX4_reads_137 (by decide) (rdPost_mk ((y 4) + 5 + lc (sgT (v 3) tl) ((y 4) + 5), none) (fun k hk => if_neg hk) (okDg_01 (by omega) (by omega)) (fun k h4 h5 h6 => by simp [nup, h4, h5, h6]) (by rw [prs, if_neg (by omega), if_pos hk61, if_pos hd_37, if_pos hd_39, if_pos hd_41, if_pos hd_43, prL, if_neg hlk0]) rfl rfl (fun d0 d1 k w hz => by cases hz))
                  · skip
                    have hlk0 := of_decide_eq_true c_45
                    refine lv_aload_n hx hb dX4_reads_123 rfl (lv_at hl 1 rfl) ?_
                    refine lv_bipush (v := nI 59) hx hb dX4_reads_124 (by decide) ?_
                    rcases Classical.em (sgT (v 3) tl ((y 4) + 5 + lc (sgT (v 3) tl) ((y 4) + 5)) = 59) with hd_46 | hd_46
                    · skip
                      refine z_callVI (As := [.int (nI 59)]) (rest := []) (wr := []) (C := RX4) F (c_X4_passes_t l G a (mrow v 6 (upd (upd (v 6) 0 (nI (sgT (v 3) tl ((y 4) + 1) - 48))) 1 (nI (sgT (v 3) tl ((y 4) + 3) - 48)))) (nup (nup (nup y 4 ((y 4) + 5 + lc (sgT (v 3) tl) ((y 4) + 5))) 5 (lc (sgT (v 3) tl) ((y 4) + 5))) 6 (wv (sgT (v 3) tl) ((y 4) + 5) (lc (sgT (v 3) tl) ((y 4) + 5)))) (59) (by omega) (show (y 4) + 5 + lc (sgT (v 3) tl) ((y 4) + 5) < 2 ^ 20 by omega) tl (by exact hL) hL6 (by exact hT) hd_46) (cwV 1 hts gX4_reads_X4_passes rfl rfl rfl (by decide +kernel) ⟨Nat.le_of_ble_eq_true rfl, Nat.le_of_ble_eq_true rfl⟩) hKK (z_recv hKK hP (q0 := 0) (ci := 4) rfl rfl) hP hD hS hA rfl hl.1 rfl (Nat.le_of_ble_eq_true rfl) ⟨Nat.zero_le _, Nat.zero_le _⟩ dX4_reads_126 (fun H locs hP hD hS => ?_)
                      have hP : va_P G.1 vwCl (modW G a (mrow v 6 (upd (upd (v 6) 0 (nI (sgT (v 3) tl ((y 4) + 1) - 48))) 1 (nI (sgT (v 3) tl ((y 4) + 3) - 48)))) (nup (nup (nup y 4 ((y 4) + 5 + lc (sgT (v 3) tl) ((y 4) + 5) + 1)) 5 (lc (sgT (v 3) tl) ((y 4) + 5))) 6 (wv (sgT (v 3) tl) ((y 4) + 5) (lc (sgT (v 3) tl) ((y 4) + 5))))) H := hP
                      have hD : va_D A (modW G a (mrow v 6 (upd (upd (v 6) 0 (nI (sgT (v 3) tl ((y 4) + 1) - 48))) 1 (nI (sgT (v 3) tl ((y 4) + 3) - 48)))) (nup (nup (nup y 4 ((y 4) + 5 + lc (sgT (v 3) tl) ((y 4) + 5) + 1)) 5 (lc (sgT (v 3) tl) ((y 4) + 5))) 6 (wv (sgT (v 3) tl) ((y 4) + 5) (lc (sgT (v 3) tl) ((y 4) + 5))))) := hD
                      refine z_ifBeq (tgt := 136) hx hb dX4_reads_129 (by decide) (fun c_47 => absurd c_47 (by decide)) (fun c_47 => ?_)
                      refine lv_iconst (v := nI 1) hx hb dX4_reads_132 (by decide) ?_
                      refine lv_goto (tgt := 137) hx hb dX4_reads_133 (by decide) ?_
                      exact z_iretE (mrow v 6 (upd (upd (v 6) 0 (nI (sgT (v 3) tl ((y 4) + 1) - 48))) 1 (nI (sgT (v 3) tl ((y 4) + 3) - 48))), nup (nup (nup y 4 ((y 4) + 5 + lc (sgT (v 3) tl) ((y 4) + 5) + 1)) 5 (lc (sgT (v 3) tl) ((y 4) + 5))) 6 (wv (sgT (v 3) tl) ((y 4) + 5) (lc (sgT (v 3) tl) ((y 4) + 5)))) hx hb hr hlk hP hD hS dX4_reads_137 (by decide) (rdPost_mk ((y 4) + 5 + lc (sgT (v 3) tl) ((y 4) + 5) + 1, some (sgT (v 3) tl ((y 4) + 1) - 48, sgT (v 3) tl ((y 4) + 3) - 48, lc (sgT (v 3) tl) ((y 4) + 5), wv (sgT (v 3) tl) ((y 4) + 5) (lc (sgT (v 3) tl) ((y 4) + 5)))) (fun k hk => if_neg hk) (okDg_01 (by omega) (by omega)) (fun k h4 h5 h6 => by simp [nup, h4, h5, h6]) (by rw [prs, if_neg (by omega), if_pos hk61, if_pos hd_37, if_pos hd_39, if_pos hd_41, if_pos hd_43, prL, if_pos hlk0, if_pos hd_46]) rfl rfl (fun d0 d1 k w hz => by cases hz; exact ⟨fun z => absurd z (by omega), fun _ => ⟨rfl, rfl⟩, fun _ => ⟨rfl, rfl⟩⟩))
                    · skip
                      refine z_callVI (As := [.int (nI 59)]) (rest := []) (wr := []) (C := RX4) F (c_X4_passes_f l G a (mrow v 6 (upd (upd (v 6) 0 (nI (sgT (v 3) tl ((y 4) + 1) - 48))) 1 (nI (sgT (v 3) tl ((y 4) + 3) - 48)))) (nup (nup (nup y 4 ((y 4) + 5 + lc (sgT (v 3) tl) ((y 4) + 5))) 5 (lc (sgT (v 3) tl) ((y 4) + 5))) 6 (wv (sgT (v 3) tl) ((y 4) + 5) (lc (sgT (v 3) tl) ((y 4) + 5)))) (59) (by omega) (show (y 4) + 5 + lc (sgT (v 3) tl) ((y 4) + 5) < 2 ^ 20 by omega) tl (by exact hL) hL6 (by exact hT) hd_46) (cwV 1 hts gX4_reads_X4_passes rfl rfl rfl (by decide +kernel) ⟨Nat.le_of_ble_eq_true rfl, Nat.le_of_ble_eq_true rfl⟩) hKK (z_recv hKK hP (q0 := 0) (ci := 4) rfl rfl) hP hD hS hA rfl hl.1 rfl (Nat.le_of_ble_eq_true rfl) ⟨Nat.zero_le _, Nat.zero_le _⟩ dX4_reads_126 (fun H locs hP hD hS => ?_)
                      have hP : va_P G.1 vwCl (modW G a (mrow v 6 (upd (upd (v 6) 0 (nI (sgT (v 3) tl ((y 4) + 1) - 48))) 1 (nI (sgT (v 3) tl ((y 4) + 3) - 48)))) (nup (nup (nup y 4 ((y 4) + 5 + lc (sgT (v 3) tl) ((y 4) + 5))) 5 (lc (sgT (v 3) tl) ((y 4) + 5))) 6 (wv (sgT (v 3) tl) ((y 4) + 5) (lc (sgT (v 3) tl) ((y 4) + 5))))) H := hP
                      have hD : va_D A (modW G a (mrow v 6 (upd (upd (v 6) 0 (nI (sgT (v 3) tl ((y 4) + 1) - 48))) 1 (nI (sgT (v 3) tl ((y 4) + 3) - 48)))) (nup (nup (nup y 4 ((y 4) + 5 + lc (sgT (v 3) tl) ((y 4) + 5))) 5 (lc (sgT (v 3) tl) ((y 4) + 5))) 6 (wv (sgT (v 3) tl) ((y 4) + 5) (lc (sgT (v 3) tl) ((y 4) + 5))))) := hD
                      refine z_ifBeq (tgt := 136) hx hb dX4_reads_129 (by decide) (fun c_48 => ?_) (fun c_48 => absurd c_48 (by decide))
                      refine lv_iconst (v := nI 0) hx hb dX4_reads_136 (by decide) ?_
                      exact z_iretE (mrow v 6 (upd (upd (v 6) 0 (nI (sgT (v 3) tl ((y 4) + 1) - 48))) 1 (nI (sgT (v 3) tl ((y 4) + 3) - 48))), nup (nup (nup y 4 ((y 4) + 5 + lc (sgT (v 3) tl) ((y 4) + 5))) 5 (lc (sgT (v 3) tl) ((y 4) + 5))) 6 (wv (sgT (v 3) tl) ((y 4) + 5) (lc (sgT (v 3) tl) ((y 4) + 5)))) hx hb hr hlk hP hD hS dX4_reads_137 (by decide) (rdPost_mk ((y 4) + 5 + lc (sgT (v 3) tl) ((y 4) + 5), none) (fun k hk => if_neg hk) (okDg_01 (by omega) (by omega)) (fun k h4 h5 h6 => by simp [nup, h4, h5, h6]) (by rw [prs, if_neg (by omega), if_pos hk61, if_pos hd_37, if_pos hd_39, if_pos hd_41, if_pos hd_43, prL, if_pos hlk0, if_neg hd_46]) rfl rfl (fun d0 d1 k w hz => by cases hz))
                · skip
                  refine z_callVI (As := [.int (nI 44)]) (rest := []) (wr := []) (C := RX4) F (c_X4_passes_f l G a (mrow v 6 (upd (upd (v 6) 0 (nI (sgT (v 3) tl ((y 4) + 1) - 48))) 1 (nI (sgT (v 3) tl ((y 4) + 3) - 48)))) (nup y 4 ((y 4) + 4)) (44) (by omega) (show (y 4) + 4 < 2 ^ 20 by omega) tl (by exact hL) hL6 (by exact hT) hd_43) (cwV 1 hts gX4_reads_X4_passes rfl rfl rfl (by decide +kernel) ⟨Nat.le_of_ble_eq_true rfl, Nat.le_of_ble_eq_true rfl⟩) hKK (z_recv hKK hP (q0 := 0) (ci := 4) rfl rfl) hP hD hS hA rfl hl.1 rfl (Nat.le_of_ble_eq_true rfl) ⟨Nat.zero_le _, Nat.zero_le _⟩ dX4_reads_108 (fun H locs hP hD hS => ?_)
                  have hP : va_P G.1 vwCl (modW G a (mrow v 6 (upd (upd (v 6) 0 (nI (sgT (v 3) tl ((y 4) + 1) - 48))) 1 (nI (sgT (v 3) tl ((y 4) + 3) - 48)))) (nup y 4 ((y 4) + 4))) H := hP
                  have hD : va_D A (modW G a (mrow v 6 (upd (upd (v 6) 0 (nI (sgT (v 3) tl ((y 4) + 1) - 48))) 1 (nI (sgT (v 3) tl ((y 4) + 3) - 48)))) (nup y 4 ((y 4) + 4))) := hD
                  refine z_ifBne (tgt := 116) hx hb dX4_reads_111 (by decide) (fun c_49 => absurd c_49 (by decide)) (fun c_49 => ?_)
                  refine lv_iconst (v := nI 0) hx hb dX4_reads_114 (by decide) ?_
                  exact z_iretE (mrow v 6 (upd (upd (v 6) 0 (nI (sgT (v 3) tl ((y 4) + 1) - 48))) 1 (nI (sgT (v 3) tl ((y 4) + 3) - 48))), nup y 4 ((y 4) + 4)) hx hb hr hlk hP hD hS dX4_reads_115 (by decide) (rdPost_mk ((y 4) + 4, none) (fun k hk => if_neg hk) (okDg_01 (by omega) (by omega)) (fun k h4 h5 h6 => by simp [nup, h4, h5, h6]) (by rw [prs, if_neg (by omega), if_pos hk61, if_pos hd_37, if_pos hd_39, if_pos hd_41, if_neg hd_43]) rfl rfl (fun d0 d1 k w hz => by cases hz))
              · skip
                refine z_callVI (As := [.int (nI 1)]) (rest := []) (wr := []) (C := RX4) F (c_X4_digit_f l G a (mrow v 6 (upd (v 6) 0 (nI (sgT (v 3) tl ((y 4) + 1) - 48)))) (nup y 4 ((y 4) + 3)) (1) (by omega) (show (y 4) + 3 < 2 ^ 20 by omega) tl (by exact hL) hL6 (by exact hT) hd_41) (cwV 1 hts gX4_reads_X4_digit rfl rfl rfl (by decide +kernel) ⟨Nat.le_of_ble_eq_true rfl, Nat.le_of_ble_eq_true rfl⟩) hKK (z_recv hKK hP (q0 := 0) (ci := 4) rfl rfl) hP hD hS hA rfl hl.1 rfl (Nat.le_of_ble_eq_true rfl) ⟨Nat.zero_le _, Nat.zero_le _⟩ dX4_reads_99 (fun H locs hP hD hS => ?_)
                have hP : va_P G.1 vwCl (modW G a (mrow v 6 (upd (upd (v 6) 0 (nI (sgT (v 3) tl ((y 4) + 1) - 48))) 1 (nI 0))) (nup y 4 ((y 4) + 3))) H := hP
                have hD : va_D A (modW G a (mrow v 6 (upd (upd (v 6) 0 (nI (sgT (v 3) tl ((y 4) + 1) - 48))) 1 (nI 0))) (nup y 4 ((y 4) + 3))) := hD
                refine z_ifBeq (tgt := 114) hx hb dX4_reads_102 (by decide) (fun c_50 => ?_) (fun c_50 => absurd c_50 (by decide))
                refine lv_iconst (v := nI 0) hx hb dX4_reads_114 (by decide) ?_
                exact z_iretE (mrow v 6 (upd (upd (v 6) 0 (nI (sgT (v 3) tl ((y 4) + 1) - 48))) 1 (nI 0)), nup y 4 ((y 4) + 3)) hx hb hr hlk hP hD hS dX4_reads_115 (by decide) (rdPost_mk ((y 4) + 3, none) (fun k hk => if_neg hk) (okDg_01 (by omega) (by omega)) (fun k h4 h5 h6 => by simp [nup, h4, h5, h6]) (by rw [prs, if_neg (by omega), if_pos hk61, if_pos hd_37, if_pos hd_39, if_neg (by rw [hd_41]; decide)]) rfl rfl (fun d0 d1 k w hz => by cases hz))
            · skip
              refine z_callVI (As := [.int (nI 44)]) (rest := []) (wr := []) (C := RX4) F (c_X4_passes_f l G a (mrow v 6 (upd (v 6) 0 (nI (sgT (v 3) tl ((y 4) + 1) - 48)))) (nup y 4 ((y 4) + 2)) (44) (by omega) (show (y 4) + 2 < 2 ^ 20 by omega) tl (by exact hL) hL6 (by exact hT) hd_39) (cwV 1 hts gX4_reads_X4_passes rfl rfl rfl (by decide +kernel) ⟨Nat.le_of_ble_eq_true rfl, Nat.le_of_ble_eq_true rfl⟩) hKK (z_recv hKK hP (q0 := 0) (ci := 4) rfl rfl) hP hD hS hA rfl hl.1 rfl (Nat.le_of_ble_eq_true rfl) ⟨Nat.zero_le _, Nat.zero_le _⟩ dX4_reads_91 (fun H locs hP hD hS => ?_)
              have hP : va_P G.1 vwCl (modW G a (mrow v 6 (upd (v 6) 0 (nI (sgT (v 3) tl ((y 4) + 1) - 48)))) (nup y 4 ((y 4) + 2))) H := hP
              have hD : va_D A (modW G a (mrow v 6 (upd (v 6) 0 (nI (sgT (v 3) tl ((y 4) + 1) - 48)))) (nup y 4 ((y 4) + 2))) := hD
              refine z_ifBeq (tgt := 114) hx hb dX4_reads_94 (by decide) (fun c_51 => ?_) (fun c_51 => absurd c_51 (by decide))
              refine lv_iconst (v := nI 0) hx hb dX4_reads_114 (by decide) ?_
              exact z_iretE (mrow v 6 (upd (v 6) 0 (nI (sgT (v 3) tl ((y 4) + 1) - 48))), nup y 4 ((y 4) + 2)) hx hb hr hlk hP hD hS dX4_reads_115 (by decide) (rdPost_mk ((y 4) + 2, none) (fun k hk => if_neg hk) (okDg_0 hdg (by omega)) (fun k h4 h5 h6 => by simp [nup, h4, h5, h6]) (by rw [prs, if_neg (by omega), if_pos hk61, if_pos hd_37, if_neg hd_39]) rfl rfl (fun d0 d1 k w hz => by cases hz))
          · skip
            refine z_callVI (As := [.int (nI 0)]) (rest := []) (wr := []) (C := RX4) F (c_X4_digit_f l G a v (nup y 4 ((y 4) + 1)) (0) (by omega) (show (y 4) + 1 < 2 ^ 20 by omega) tl (by exact hL) hL6 (by exact hT) hd_37) (cwV 1 hts gX4_reads_X4_digit rfl rfl rfl (by decide +kernel) ⟨Nat.le_of_ble_eq_true rfl, Nat.le_of_ble_eq_true rfl⟩) hKK (z_recv hKK hP (q0 := 0) (ci := 4) rfl rfl) hP hD hS hA rfl hl.1 rfl (Nat.le_of_ble_eq_true rfl) ⟨Nat.zero_le _, Nat.zero_le _⟩ dX4_reads_82 (fun H locs hP hD hS => ?_)
            have hP : va_P G.1 vwCl (modW G a (mrow v 6 (upd (v 6) 0 (nI 0))) (nup y 4 ((y 4) + 1))) H := hP
            have hD : va_D A (modW G a (mrow v 6 (upd (v 6) 0 (nI 0))) (nup y 4 ((y 4) + 1))) := hD
            refine z_ifBeq (tgt := 114) hx hb dX4_reads_85 (by decide) (fun c_52 => ?_) (fun c_52 => absurd c_52 (by decide))
            refine lv_iconst (v := nI 0) hx hb dX4_reads_114 (by decide) ?_
            exact z_iretE (mrow v 6 (upd (v 6) 0 (nI 0)), nup y 4 ((y 4) + 1)) hx hb hr hlk hP hD hS dX4_reads_115 (by decide) (rdPost_mk ((y 4) + 1, none) (fun k hk => if_neg hk) (okDg_0 hdg (by omega)) (fun k h4 h5 h6 => by simp [nup, h4, h5, h6]) (by rw [prs, if_neg (by omega), if_pos hk61, if_neg (by rw [hd_37]; decide)]) rfl rfl (fun d0 d1 k w hz => by cases hz))
      · skip
        have hk33 := c_31
        refine lv_aload_n hx hb dX4_reads_51 rfl (lv_at hl 1 rfl) ?_
        refine lv_iconst (v := nI 0) hx hb dX4_reads_52 (by decide) ?_
        rcases z_b (dgB (sgT (v 3) tl ((y 4) + 1))) with hd_53 | hd_53
        · have hg_53 := dgB_t hd_53
          refine z_callVI (As := [.int (nI 0)]) (rest := []) (wr := []) (C := RX4) F (c_X4_digit_t l G a v (nup y 4 ((y 4) + 1)) (0) (by omega) (show (y 4) + 1 < 2 ^ 20 by omega) tl (by exact hL) hL6 (by exact hT) hd_53) (cwV 1 hts gX4_reads_X4_digit rfl rfl rfl (by decide +kernel) ⟨Nat.le_of_ble_eq_true rfl, Nat.le_of_ble_eq_true rfl⟩) hKK (z_recv hKK hP (q0 := 0) (ci := 4) rfl rfl) hP hD hS hA rfl hl.1 rfl (Nat.le_of_ble_eq_true rfl) ⟨Nat.zero_le _, Nat.zero_le _⟩ dX4_reads_53 (fun H locs hP hD hS => ?_)
          have hP : va_P G.1 vwCl (modW G a (mrow v 6 (upd (v 6) 0 (nI (sgT (v 3) tl ((y 4) + 1) - 48)))) (nup y 4 ((y 4) + 2))) H := hP
          have hD : va_D A (modW G a (mrow v 6 (upd (v 6) 0 (nI (sgT (v 3) tl ((y 4) + 1) - 48)))) (nup y 4 ((y 4) + 2))) := hD
          refine z_ifBeq (tgt := 72) hx hb dX4_reads_56 (by decide) (fun c_54 => absurd c_54 (by decide)) (fun c_54 => ?_)
          refine lv_aload_n hx hb dX4_reads_59 rfl (lv_at hl 1 rfl) ?_
          refine lv_bipush (v := nI 59) hx hb dX4_reads_60 (by decide) ?_
          rcases Classical.em (sgT (v 3) tl ((y 4) + 2) = 59) with hd_55 | hd_55
          · skip
            refine z_callVI (As := [.int (nI 59)]) (rest := []) (wr := []) (C := RX4) F (c_X4_passes_t l G a (mrow v 6 (upd (v 6) 0 (nI (sgT (v 3) tl ((y 4) + 1) - 48)))) (nup y 4 ((y 4) + 2)) (59) (by omega) (show (y 4) + 2 < 2 ^ 20 by omega) tl (by exact hL) hL6 (by exact hT) hd_55) (cwV 1 hts gX4_reads_X4_passes rfl rfl rfl (by decide +kernel) ⟨Nat.le_of_ble_eq_true rfl, Nat.le_of_ble_eq_true rfl⟩) hKK (z_recv hKK hP (q0 := 0) (ci := 4) rfl rfl) hP hD hS hA rfl hl.1 rfl (Nat.le_of_ble_eq_true rfl) ⟨Nat.zero_le _, Nat.zero_le _⟩ dX4_reads_62 (fun H locs hP hD hS => ?_)
            have hP : va_P G.1 vwCl (modW G a (mrow v 6 (upd (v 6) 0 (nI (sgT (v 3) tl ((y 4) + 1) - 48)))) (nup y 4 ((y 4) + 3))) H := hP
            have hD : va_D A (modW G a (mrow v 6 (upd (v 6) 0 (nI (sgT (v 3) tl ((y 4) + 1) - 48)))) (nup y 4 ((y 4) + 3))) := hD
            refine z_ifBeq (tgt := 72) hx hb dX4_reads_65 (by decide) (fun c_56 => absurd c_56 (by decide)) (fun c_56 => ?_)
            refine lv_iconst (v := nI 1) hx hb dX4_reads_68 (by decide) ?_
            refine lv_goto (tgt := 73) hx hb dX4_reads_69 (by decide) ?_
            exact z_iretE (mrow v 6 (upd (v 6) 0 (nI (sgT (v 3) tl ((y 4) + 1) - 48))), nup y 4 ((y 4) + 3)) hx hb hr hlk hP hD hS dX4_reads_73 (by decide) (rdPost_mk ((y 4) + 3, some (sgT (v 3) tl ((y 4) + 1) - 48, 0, 0, 0)) (fun k hk => if_neg hk) (okDg_0 hdg (by omega)) (fun k h4 h5 h6 => by simp [nup, h4, h5, h6]) (by rw [prs, if_pos hk33, if_pos hd_53, if_pos hd_55]) rfl rfl (fun d0 d1 k w hz => by cases hz; exact ⟨fun _ => rfl, fun z => absurd z (by omega), fun z => absurd hk33 z⟩))
          · skip
            refine z_callVI (As := [.int (nI 59)]) (rest := []) (wr := []) (C := RX4) F (c_X4_passes_f l G a (mrow v 6 (upd (v 6) 0 (nI (sgT (v 3) tl ((y 4) + 1) - 48)))) (nup y 4 ((y 4) + 2)) (59) (by omega) (show (y 4) + 2 < 2 ^ 20 by omega) tl (by exact hL) hL6 (by exact hT) hd_55) (cwV 1 hts gX4_reads_X4_passes rfl rfl rfl (by decide +kernel) ⟨Nat.le_of_ble_eq_true rfl, Nat.le_of_ble_eq_true rfl⟩) hKK (z_recv hKK hP (q0 := 0) (ci := 4) rfl rfl) hP hD hS hA rfl hl.1 rfl (Nat.le_of_ble_eq_true rfl) ⟨Nat.zero_le _, Nat.zero_le _⟩ dX4_reads_62 (fun H locs hP hD hS => ?_)
            have hP : va_P G.1 vwCl (modW G a (mrow v 6 (upd (v 6) 0 (nI (sgT (v 3) tl ((y 4) + 1) - 48)))) (nup y 4 ((y 4) + 2))) H := hP
            have hD : va_D A (modW G a (mrow v 6 (upd (v 6) 0 (nI (sgT (v 3) tl ((y 4) + 1) - 48)))) (nup y 4 ((y 4) + 2))) := hD
            refine z_ifBeq (tgt := 72) hx hb dX4_reads_65 (by decide) (fun c_57 => ?_) (fun c_57 => absurd c_57 (by decide))
            refine lv_iconst (v := nI 0) hx hb dX4_reads_72 (by decide) ?_
            exact z_iretE (mrow v 6 (upd (v 6) 0 (nI (sgT (v 3) tl ((y 4) + 1) - 48))), nup y 4 ((y 4) + 2)) hx hb hr hlk hP hD hS dX4_reads_73 (by decide) (rdPost_mk ((y 4) + 2, none) (fun k hk => if_neg hk) (okDg_0 hdg (by omega)) (fun k h4 h5 h6 => by simp [nup, h4, h5, h6]) (by rw [prs, if_pos hk33, if_pos hd_53, if_neg hd_55]) rfl rfl (fun d0 d1 k w hz => by cases hz))
        · skip
          refine z_callVI (As := [.int (nI 0)]) (rest := []) (wr := []) (C := RX4) F (c_X4_digit_f l G a v (nup y 4 ((y 4) + 1)) (0) (by omega) (show (y 4) + 1 < 2 ^ 20 by omega) tl (by exact hL) hL6 (by exact hT) hd_53) (cwV 1 hts gX4_reads_X4_digit rfl rfl rfl (by decide +kernel) ⟨Nat.le_of_ble_eq_true rfl, Nat.le_of_ble_eq_true rfl⟩) hKK (z_recv hKK hP (q0 := 0) (ci := 4) rfl rfl) hP hD hS hA rfl hl.1 rfl (Nat.le_of_ble_eq_true rfl) ⟨Nat.zero_le _, Nat.zero_le _⟩ dX4_reads_53 (fun H locs hP hD hS => ?_)
          have hP : va_P G.1 vwCl (modW G a (mrow v 6 (upd (v 6) 0 (nI 0))) (nup y 4 ((y 4) + 1))) H := hP
          have hD : va_D A (modW G a (mrow v 6 (upd (v 6) 0 (nI 0))) (nup y 4 ((y 4) + 1))) := hD
          refine z_ifBeq (tgt := 72) hx hb dX4_reads_56 (by decide) (fun c_58 => ?_) (fun c_58 => absurd c_58 (by decide))
          refine lv_iconst (v := nI 0) hx hb dX4_reads_72 (by decide) ?_
          exact z_iretE (mrow v 6 (upd (v 6) 0 (nI 0)), nup y 4 ((y 4) + 1)) hx hb hr hlk hP hD hS dX4_reads_73 (by decide) (rdPost_mk ((y 4) + 1, none) (fun k hk => if_neg hk) (okDg_0 hdg (by omega)) (fun k h4 h5 h6 => by simp [nup, h4, h5, h6]) (by rw [prs, if_pos hk33, if_neg (by rw [hd_53]; decide)]) rfl rfl (fun d0 d1 k w hz => by cases hz))
    · skip
      refine lv_iload_n hx hb dX4_reads_21 rfl (lv_at hl 0 rfl) ?_
      refine lv_bipush (v := nI 61) hx hb dX4_reads_22 (by decide) ?_
      refine z_eq (tgt := 35) hx hb dX4_reads_24 (by decide) (Nat.lt_trans (sgT_lt hT hL6 _) (by decide)) (by omega) (fun c_59 => ?_) (fun c_59 => ?_)
      · skip
        refine lv_aload_n hx hb dX4_reads_35 rfl (lv_at hl 1 rfl) ?_
        refine lv_dup hx hb dX4_reads_36 rfl ?_
        refine va_get (D := G.1) (ci := 4) (v := .int (nI (y 4))) (C := RX4) (T := TX4) (N := 17) hx hb hts hinX4 hown hKK.1 hP 0 rfl rfl 10 (by decide) fl_134 (fun _ h9 => h9) rfl dX4_reads_37 ?_
        refine lv_iconst (v := nI 1) hx hb dX4_reads_40 (by decide) ?_
        refine z_add (v := nI ((y 4) + 1)) hx hb dX4_reads_41 (nI_add _ _) ?_
        refine z_put (w2 := modW G a v (nup y 4 ((y 4) + 1))) hx hb hts hinX4 tyX4 tyX4_ok nmX4 hown hKK hP hD hS 0 (ci := 4) (C := RX4) (T := TX4) (N := 17) rfl rfl 10 (by decide) fl_134 rfl rfl rfl (Nat.le_of_ble_eq_true rfl) rfl dX4_reads_42 (fun H locs hP hD hS => ?_)
        refine lv_iload_n hx hb dX4_reads_45 rfl (lv_at hl 0 rfl) ?_
        refine lv_bipush (v := nI 33) hx hb dX4_reads_46 (by decide) ?_
        refine z_ne (tgt := 74) hx hb dX4_reads_48 (by decide) (Nat.lt_trans (sgT_lt hT hL6 _) (by decide)) (by omega) (fun c_60 => ?_) (fun c_60 => ?_)
        · skip
          refine lv_iload_n hx hb dX4_reads_74 rfl (lv_at hl 0 rfl) ?_
          refine lv_bipush (v := nI 61) hx hb dX4_reads_75 (by decide) ?_
          refine z_ne (tgt := 116) hx hb dX4_reads_77 (by decide) (Nat.lt_trans (sgT_lt hT hL6 _) (by decide)) (by omega) (fun c_61 => ?_) (fun c_61 => ?_)
          · skip
            refine lv_aload_n hx hb dX4_reads_116 rfl (lv_at hl 1 rfl) ?_
            refine z_callVI (As := []) (rest := []) (wr := []) (C := RX4) F (c_X4_name l G a v (nup y 4 ((y 4) + 1)) (show (y 4) + 1 < 2 ^ 20 by omega) tl (by exact hL) hL6 (by exact hT)) (cwV 0 hts gX4_reads_X4_name rfl rfl rfl (by decide +kernel) ⟨Nat.le_of_ble_eq_true rfl, Nat.le_of_ble_eq_true rfl⟩) hKK (z_recv hKK hP (q0 := 0) (ci := 4) rfl rfl) hP hD hS hA rfl hl.1 rfl (Nat.le_of_ble_eq_true rfl) ⟨Nat.zero_le _, Nat.zero_le _⟩ dX4_reads_117 (fun H locs hP hD hS => ?_)
            have hlc6 := lc_le60 (sgT (v 3) tl) ((y 4) + 1)
            have hP : va_P G.1 vwCl (modW G a v (nup (nup (nup y 4 ((y 4) + 1 + lc (sgT (v 3) tl) ((y 4) + 1))) 5 (lc (sgT (v 3) tl) ((y 4) + 1))) 6 (wv (sgT (v 3) tl) ((y 4) + 1) (lc (sgT (v 3) tl) ((y 4) + 1))))) H := hP
            have hD : va_D A (modW G a v (nup (nup (nup y 4 ((y 4) + 1 + lc (sgT (v 3) tl) ((y 4) + 1))) 5 (lc (sgT (v 3) tl) ((y 4) + 1))) 6 (wv (sgT (v 3) tl) ((y 4) + 1) (lc (sgT (v 3) tl) ((y 4) + 1))))) := hD
            refine z_top (v := bI (decide (0 < lc (sgT (v 3) tl) ((y 4) + 1)))) rfl ?_
            refine z_ifBeq (tgt := 136) hx hb dX4_reads_120 (by decide) (fun c_62 => ?_) (fun c_62 => ?_)
            · skip
              have hlk0 := of_decide_eq_false c_62
              refine lv_iconst (v := nI 0) hx hb dX4_reads_136 (by decide) ?_
              exact z_iretE (v, nup (nup (nup y 4 ((y 4) + 1 + lc (sgT (v 3) tl) ((y 4) + 1))) 5 (lc (sgT (v 3) tl) ((y 4) + 1))) 6 (wv (sgT (v 3) tl) ((y 4) + 1) (lc (sgT (v 3) tl) ((y 4) + 1)))) hx hb hr hlk hP hD hS dX4_reads_137 (by decide) (rdPost_mk ((y 4) + 1 + lc (sgT (v 3) tl) ((y 4) + 1), none) (fun k hk => rfl) hdg (fun k h4 h5 h6 => by simp [nup, h4, h5, h6]) (by rw [prs, if_neg (by omega), if_neg (by omega), if_pos (by omega), prL, if_neg hlk0]) rfl rfl (fun d0 d1 k w hz => by cases hz))
            · skip
              have hlk0 := of_decide_eq_true c_62
              refine lv_aload_n hx hb dX4_reads_123 rfl (lv_at hl 1 rfl) ?_
              refine lv_bipush (v := nI 59) hx hb dX4_reads_124 (by decide) ?_
              rcases Classical.em (sgT (v 3) tl ((y 4) + 1 + lc (sgT (v 3) tl) ((y 4) + 1)) = 59) with hd_63 | hd_63
              · skip
                refine z_callVI (As := [.int (nI 59)]) (rest := []) (wr := []) (C := RX4) F (c_X4_passes_t l G a v (nup (nup (nup y 4 ((y 4) + 1 + lc (sgT (v 3) tl) ((y 4) + 1))) 5 (lc (sgT (v 3) tl) ((y 4) + 1))) 6 (wv (sgT (v 3) tl) ((y 4) + 1) (lc (sgT (v 3) tl) ((y 4) + 1)))) (59) (by omega) (show (y 4) + 1 + lc (sgT (v 3) tl) ((y 4) + 1) < 2 ^ 20 by omega) tl (by exact hL) hL6 (by exact hT) hd_63) (cwV 1 hts gX4_reads_X4_passes rfl rfl rfl (by decide +kernel) ⟨Nat.le_of_ble_eq_true rfl, Nat.le_of_ble_eq_true rfl⟩) hKK (z_recv hKK hP (q0 := 0) (ci := 4) rfl rfl) hP hD hS hA rfl hl.1 rfl (Nat.le_of_ble_eq_true rfl) ⟨Nat.zero_le _, Nat.zero_le _⟩ dX4_reads_126 (fun H locs hP hD hS => ?_)
                have hP : va_P G.1 vwCl (modW G a v (nup (nup (nup y 4 ((y 4) + 1 + lc (sgT (v 3) tl) ((y 4) + 1) + 1)) 5 (lc (sgT (v 3) tl) ((y 4) + 1))) 6 (wv (sgT (v 3) tl) ((y 4) + 1) (lc (sgT (v 3) tl) ((y 4) + 1))))) H := hP
                have hD : va_D A (modW G a v (nup (nup (nup y 4 ((y 4) + 1 + lc (sgT (v 3) tl) ((y 4) + 1) + 1)) 5 (lc (sgT (v 3) tl) ((y 4) + 1))) 6 (wv (sgT (v 3) tl) ((y 4) + 1) (lc (sgT (v 3) tl) ((y 4) + 1))))) := hD
                refine z_ifBeq (tgt := 136) hx hb dX4_reads_129 (by decide) (fun c_64 => absurd c_64 (by decide)) (fun c_64 => ?_)
                refine lv_iconst (v := nI 1) hx hb dX4_reads_132 (by decide) ?_
                refine lv_goto (tgt := 137) hx hb dX4_reads_133 (by decide) ?_
                exact z_iretE (v, nup (nup (nup y 4 ((y 4) + 1 + lc (sgT (v 3) tl) ((y 4) + 1) + 1)) 5 (lc (sgT (v 3) tl) ((y 4) + 1))) 6 (wv (sgT (v 3) tl) ((y 4) + 1) (lc (sgT (v 3) tl) ((y 4) + 1)))) hx hb hr hlk hP hD hS dX4_reads_137 (by decide) (rdPost_mk ((y 4) + 1 + lc (sgT (v 3) tl) ((y 4) + 1) + 1, some (0, 0, lc (sgT (v 3) tl) ((y 4) + 1), wv (sgT (v 3) tl) ((y 4) + 1) (lc (sgT (v 3) tl) ((y 4) + 1)))) (fun k hk => rfl) hdg (fun k h4 h5 h6 => by simp [nup, h4, h5, h6]) (by rw [prs, if_neg (by omega), if_neg (by omega), if_pos (by omega), prL, if_pos hlk0, if_pos hd_63]) rfl rfl (fun d0 d1 k w hz => by cases hz; exact ⟨fun z => absurd z (by omega), fun z => absurd z (by omega), fun _ => ⟨rfl, rfl⟩⟩))
              · skip
                refine z_callVI (As := [.int (nI 59)]) (rest := []) (wr := []) (C := RX4) F (c_X4_passes_f l G a v (nup (nup (nup y 4 ((y 4) + 1 + lc (sgT (v 3) tl) ((y 4) + 1))) 5 (lc (sgT (v 3) tl) ((y 4) + 1))) 6 (wv (sgT (v 3) tl) ((y 4) + 1) (lc (sgT (v 3) tl) ((y 4) + 1)))) (59) (by omega) (show (y 4) + 1 + lc (sgT (v 3) tl) ((y 4) + 1) < 2 ^ 20 by omega) tl (by exact hL) hL6 (by exact hT) hd_63) (cwV 1 hts gX4_reads_X4_passes rfl rfl rfl (by decide +kernel) ⟨Nat.le_of_ble_eq_true rfl, Nat.le_of_ble_eq_true rfl⟩) hKK (z_recv hKK hP (q0 := 0) (ci := 4) rfl rfl) hP hD hS hA rfl hl.1 rfl (Nat.le_of_ble_eq_true rfl) ⟨Nat.zero_le _, Nat.zero_le _⟩ dX4_reads_126 (fun H locs hP hD hS => ?_)
                have hP : va_P G.1 vwCl (modW G a v (nup (nup (nup y 4 ((y 4) + 1 + lc (sgT (v 3) tl) ((y 4) + 1))) 5 (lc (sgT (v 3) tl) ((y 4) + 1))) 6 (wv (sgT (v 3) tl) ((y 4) + 1) (lc (sgT (v 3) tl) ((y 4) + 1))))) H := hP
                have hD : va_D A (modW G a v (nup (nup (nup y 4 ((y 4) + 1 + lc (sgT (v 3) tl) ((y 4) + 1))) 5 (lc (sgT (v 3) tl) ((y 4) + 1))) 6 (wv (sgT (v 3) tl) ((y 4) + 1) (lc (sgT (v 3) tl) ((y 4) + 1))))) := hD
                refine z_ifBeq (tgt := 136) hx hb dX4_reads_129 (by decide) (fun c_65 => ?_) (fun c_65 => absurd c_65 (by decide))
                refine lv_iconst (v := nI 0) hx hb dX4_reads_136 (by decide) ?_
                exact z_iretE (v, nup (nup (nup y 4 ((y 4) + 1 + lc (sgT (v 3) tl) ((y 4) + 1))) 5 (lc (sgT (v 3) tl) ((y 4) + 1))) 6 (wv (sgT (v 3) tl) ((y 4) + 1) (lc (sgT (v 3) tl) ((y 4) + 1)))) hx hb hr hlk hP hD hS dX4_reads_137 (by decide) (rdPost_mk ((y 4) + 1 + lc (sgT (v 3) tl) ((y 4) + 1), none) (fun k hk => rfl) hdg (fun k h4 h5 h6 => by simp [nup, h4, h5, h6]) (by rw [prs, if_neg (by omega), if_neg (by omega), if_pos (by omega), prL, if_pos hlk0, if_neg hd_63]) rfl rfl (fun d0 d1 k w hz => by cases hz))
          · skip
            have hk61 := c_61
            refine lv_aload_n hx hb dX4_reads_80 rfl (lv_at hl 1 rfl) ?_
            refine lv_iconst (v := nI 0) hx hb dX4_reads_81 (by decide) ?_
            rcases z_b (dgB (sgT (v 3) tl ((y 4) + 1))) with hd_66 | hd_66
            · have hg_66 := dgB_t hd_66
              refine z_callVI (As := [.int (nI 0)]) (rest := []) (wr := []) (C := RX4) F (c_X4_digit_t l G a v (nup y 4 ((y 4) + 1)) (0) (by omega) (show (y 4) + 1 < 2 ^ 20 by omega) tl (by exact hL) hL6 (by exact hT) hd_66) (cwV 1 hts gX4_reads_X4_digit rfl rfl rfl (by decide +kernel) ⟨Nat.le_of_ble_eq_true rfl, Nat.le_of_ble_eq_true rfl⟩) hKK (z_recv hKK hP (q0 := 0) (ci := 4) rfl rfl) hP hD hS hA rfl hl.1 rfl (Nat.le_of_ble_eq_true rfl) ⟨Nat.zero_le _, Nat.zero_le _⟩ dX4_reads_82 (fun H locs hP hD hS => ?_)
              have hP : va_P G.1 vwCl (modW G a (mrow v 6 (upd (v 6) 0 (nI (sgT (v 3) tl ((y 4) + 1) - 48)))) (nup y 4 ((y 4) + 2))) H := hP
              have hD : va_D A (modW G a (mrow v 6 (upd (v 6) 0 (nI (sgT (v 3) tl ((y 4) + 1) - 48)))) (nup y 4 ((y 4) + 2))) := hD
              refine z_ifBeq (tgt := 114) hx hb dX4_reads_85 (by decide) (fun c_67 => absurd c_67 (by decide)) (fun c_67 => ?_)
              refine lv_aload_n hx hb dX4_reads_88 rfl (lv_at hl 1 rfl) ?_
              refine lv_bipush (v := nI 44) hx hb dX4_reads_89 (by decide) ?_
              rcases Classical.em (sgT (v 3) tl ((y 4) + 2) = 44) with hd_68 | hd_68
              · skip
                refine z_callVI (As := [.int (nI 44)]) (rest := []) (wr := []) (C := RX4) F (c_X4_passes_t l G a (mrow v 6 (upd (v 6) 0 (nI (sgT (v 3) tl ((y 4) + 1) - 48)))) (nup y 4 ((y 4) + 2)) (44) (by omega) (show (y 4) + 2 < 2 ^ 20 by omega) tl (by exact hL) hL6 (by exact hT) hd_68) (cwV 1 hts gX4_reads_X4_passes rfl rfl rfl (by decide +kernel) ⟨Nat.le_of_ble_eq_true rfl, Nat.le_of_ble_eq_true rfl⟩) hKK (z_recv hKK hP (q0 := 0) (ci := 4) rfl rfl) hP hD hS hA rfl hl.1 rfl (Nat.le_of_ble_eq_true rfl) ⟨Nat.zero_le _, Nat.zero_le _⟩ dX4_reads_91 (fun H locs hP hD hS => ?_)
                have hP : va_P G.1 vwCl (modW G a (mrow v 6 (upd (v 6) 0 (nI (sgT (v 3) tl ((y 4) + 1) - 48)))) (nup y 4 ((y 4) + 3))) H := hP
                have hD : va_D A (modW G a (mrow v 6 (upd (v 6) 0 (nI (sgT (v 3) tl ((y 4) + 1) - 48)))) (nup y 4 ((y 4) + 3))) := hD
                refine z_ifBeq (tgt := 114) hx hb dX4_reads_94 (by decide) (fun c_69 => absurd c_69 (by decide)) (fun c_69 => ?_)
                refine lv_aload_n hx hb dX4_reads_97 rfl (lv_at hl 1 rfl) ?_
                refine lv_iconst (v := nI 1) hx hb dX4_reads_98 (by decide) ?_
                rcases z_b (dgB (sgT (v 3) tl ((y 4) + 3))) with hd_70 | hd_70
                · have hg_70 := dgB_t hd_70
                  refine z_callVI (As := [.int (nI 1)]) (rest := []) (wr := []) (C := RX4) F (c_X4_digit_t l G a (mrow v 6 (upd (v 6) 0 (nI (sgT (v 3) tl ((y 4) + 1) - 48)))) (nup y 4 ((y 4) + 3)) (1) (by omega) (show (y 4) + 3 < 2 ^ 20 by omega) tl (by exact hL) hL6 (by exact hT) hd_70) (cwV 1 hts gX4_reads_X4_digit rfl rfl rfl (by decide +kernel) ⟨Nat.le_of_ble_eq_true rfl, Nat.le_of_ble_eq_true rfl⟩) hKK (z_recv hKK hP (q0 := 0) (ci := 4) rfl rfl) hP hD hS hA rfl hl.1 rfl (Nat.le_of_ble_eq_true rfl) ⟨Nat.zero_le _, Nat.zero_le _⟩ dX4_reads_99 (fun H locs hP hD hS => ?_)
                  have hP : va_P G.1 vwCl (modW G a (mrow v 6 (upd (upd (v 6) 0 (nI (sgT (v 3) tl ((y 4) + 1) - 48))) 1 (nI (sgT (v 3) tl ((y 4) + 3) - 48)))) (nup y 4 ((y 4) + 4))) H := hP
                  have hD : va_D A (modW G a (mrow v 6 (upd (upd (v 6) 0 (nI (sgT (v 3) tl ((y 4) + 1) - 48))) 1 (nI (sgT (v 3) tl ((y 4) + 3) - 48)))) (nup y 4 ((y 4) + 4))) := hD
                  refine z_ifBeq (tgt := 114) hx hb dX4_reads_102 (by decide) (fun c_71 => absurd c_71 (by decide)) (fun c_71 => ?_)
                  refine lv_aload_n hx hb dX4_reads_105 rfl (lv_at hl 1 rfl) ?_
                  refine lv_bipush (v := nI 44) hx hb dX4_reads_106 (by decide) ?_
                  rcases Classical.em (sgT (v 3) tl ((y 4) + 4) = 44) with hd_72 | hd_72
                  · skip
                    refine z_callVI (As := [.int (nI 44)]) (rest := []) (wr := []) (C := RX4) F (c_X4_passes_t l G a (mrow v 6 (upd (upd (v 6) 0 (nI (sgT (v 3) tl ((y 4) + 1) - 48))) 1 (nI (sgT (v 3) tl ((y 4) + 3) - 48)))) (nup y 4 ((y 4) + 4)) (44) (by omega) (show (y 4) + 4 < 2 ^ 20 by omega) tl (by exact hL) hL6 (by exact hT) hd_72) (cwV 1 hts gX4_reads_X4_passes rfl rfl rfl (by decide +kernel) ⟨Nat.le_of_ble_eq_true rfl, Nat.le_of_ble_eq_true rfl⟩) hKK (z_recv hKK hP (q0 := 0) (ci := 4) rfl rfl) hP hD hS hA rfl hl.1 rfl (Nat.le_of_ble_eq_true rfl) ⟨Nat.zero_le _, Nat.zero_le _⟩ dX4_reads_108 (fun H locs hP hD hS => ?_)
                    have hP : va_P G.1 vwCl (modW G a (mrow v 6 (upd (upd (v 6) 0 (nI (sgT (v 3) tl ((y 4) + 1) - 48))) 1 (nI (sgT (v 3) tl ((y 4) + 3) - 48)))) (nup y 4 ((y 4) + 5))) H := hP
                    have hD : va_D A (modW G a (mrow v 6 (upd (upd (v 6) 0 (nI (sgT (v 3) tl ((y 4) + 1) - 48))) 1 (nI (sgT (v 3) tl ((y 4) + 3) - 48)))) (nup y 4 ((y 4) + 5))) := hD
                    refine z_ifBne (tgt := 116) hx hb dX4_reads_111 (by decide) (fun c_73 => ?_) (fun c_73 => absurd c_73 (by decide))
                    refine lv_aload_n hx hb dX4_reads_116 rfl (lv_at hl 1 rfl) ?_
                    refine z_callVI (As := []) (rest := []) (wr := []) (C := RX4) F (c_X4_name l G a (mrow v 6 (upd (upd (v 6) 0 (nI (sgT (v 3) tl ((y 4) + 1) - 48))) 1 (nI (sgT (v 3) tl ((y 4) + 3) - 48)))) (nup y 4 ((y 4) + 5)) (show (y 4) + 5 < 2 ^ 20 by omega) tl (by exact hL) hL6 (by exact hT)) (cwV 0 hts gX4_reads_X4_name rfl rfl rfl (by decide +kernel) ⟨Nat.le_of_ble_eq_true rfl, Nat.le_of_ble_eq_true rfl⟩) hKK (z_recv hKK hP (q0 := 0) (ci := 4) rfl rfl) hP hD hS hA rfl hl.1 rfl (Nat.le_of_ble_eq_true rfl) ⟨Nat.zero_le _, Nat.zero_le _⟩ dX4_reads_117 (fun H locs hP hD hS => ?_)
                    have hlc6 := lc_le60 (sgT (v 3) tl) ((y 4) + 5)
                    have hP : va_P G.1 vwCl (modW G a (mrow v 6 (upd (upd (v 6) 0 (nI (sgT (v 3) tl ((y 4) + 1) - 48))) 1 (nI (sgT (v 3) tl ((y 4) + 3) - 48)))) (nup (nup (nup y 4 ((y 4) + 5 + lc (sgT (v 3) tl) ((y 4) + 5))) 5 (lc (sgT (v 3) tl) ((y 4) + 5))) 6 (wv (sgT (v 3) tl) ((y 4) + 5) (lc (sgT (v 3) tl) ((y 4) + 5))))) H := hP
                    have hD : va_D A (modW G a (mrow v 6 (upd (upd (v 6) 0 (nI (sgT (v 3) tl ((y 4) + 1) - 48))) 1 (nI (sgT (v 3) tl ((y 4) + 3) - 48)))) (nup (nup (nup y 4 ((y 4) + 5 + lc (sgT (v 3) tl) ((y 4) + 5))) 5 (lc (sgT (v 3) tl) ((y 4) + 5))) 6 (wv (sgT (v 3) tl) ((y 4) + 5) (lc (sgT (v 3) tl) ((y 4) + 5))))) := hD
                    refine z_top (v := bI (decide (0 < lc (sgT (v 3) tl) ((y 4) + 5)))) rfl ?_
                    refine z_ifBeq (tgt := 136) hx hb dX4_reads_120 (by decide) (fun c_74 => ?_) (fun c_74 => ?_)
                    · skip
                      have hlk0 := of_decide_eq_false c_74
                      refine lv_iconst (v := nI 0) hx hb dX4_reads_136 (by decide) ?_
                      exact z_iretE (mrow v 6 (upd (upd (v 6) 0 (nI (sgT (v 3) tl ((y 4) + 1) - 48))) 1 (nI (sgT (v 3) tl ((y 4) + 3) - 48))), nup (nup (nup y 4 ((y 4) + 5 + lc (sgT (v 3) tl) ((y 4) + 5))) 5 (lc (sgT (v 3) tl) ((y 4) + 5))) 6 (wv (sgT (v 3) tl) ((y 4) + 5) (lc (sgT (v 3) tl) ((y 4) + 5)))) hx hb hr hlk hP hD hS dX4_reads_137 (by decide) (rdPost_mk ((y 4) + 5 + lc (sgT (v 3) tl) ((y 4) + 5), none) (fun k hk => if_neg hk) (okDg_01 (by omega) (by omega)) (fun k h4 h5 h6 => by simp [nup, h4, h5, h6]) (by rw [prs, if_neg (by omega), if_pos hk61, if_pos hd_66, if_pos hd_68, if_pos hd_70, if_pos hd_72, prL, if_neg hlk0]) rfl rfl (fun d0 d1 k w hz => by cases hz))
                    · skip
                      have hlk0 := of_decide_eq_true c_74
                      refine lv_aload_n hx hb dX4_reads_123 rfl (lv_at hl 1 rfl) ?_
                      refine lv_bipush (v := nI 59) hx hb dX4_reads_124 (by decide) ?_
                      rcases Classical.em (sgT (v 3) tl ((y 4) + 5 + lc (sgT (v 3) tl) ((y 4) + 5)) = 59) with hd_75 | hd_75
                      · skip
                        refine z_callVI (As := [.int (nI 59)]) (rest := []) (wr := []) (C := RX4) F (c_X4_passes_t l G a (mrow v 6 (upd (upd (v 6) 0 (nI (sgT (v 3) tl ((y 4) + 1) - 48))) 1 (nI (sgT (v 3) tl ((y 4) + 3) - 48)))) (nup (nup (nup y 4 ((y 4) + 5 + lc (sgT (v 3) tl) ((y 4) + 5))) 5 (lc (sgT (v 3) tl) ((y 4) + 5))) 6 (wv (sgT (v 3) tl) ((y 4) + 5) (lc (sgT (v 3) tl) ((y 4) + 5)))) (59) (by omega) (show (y 4) + 5 + lc (sgT (v 3) tl) ((y 4) + 5) < 2 ^ 20 by omega) tl (by exact hL) hL6 (by exact hT) hd_75) (cwV 1 hts gX4_reads_X4_passes rfl rfl rfl (by decide +kernel) ⟨Nat.le_of_ble_eq_true rfl, Nat.le_of_ble_eq_true rfl⟩) hKK (z_recv hKK hP (q0 := 0) (ci := 4) rfl rfl) hP hD hS hA rfl hl.1 rfl (Nat.le_of_ble_eq_true rfl) ⟨Nat.zero_le _, Nat.zero_le _⟩ dX4_reads_126 (fun H locs hP hD hS => ?_)
                        have hP : va_P G.1 vwCl (modW G a (mrow v 6 (upd (upd (v 6) 0 (nI (sgT (v 3) tl ((y 4) + 1) - 48))) 1 (nI (sgT (v 3) tl ((y 4) + 3) - 48)))) (nup (nup (nup y 4 ((y 4) + 5 + lc (sgT (v 3) tl) ((y 4) + 5) + 1)) 5 (lc (sgT (v 3) tl) ((y 4) + 5))) 6 (wv (sgT (v 3) tl) ((y 4) + 5) (lc (sgT (v 3) tl) ((y 4) + 5))))) H := hP
                        have hD : va_D A (modW G a (mrow v 6 (upd (upd (v 6) 0 (nI (sgT (v 3) tl ((y 4) + 1) - 48))) 1 (nI (sgT (v 3) tl ((y 4) + 3) - 48)))) (nup (nup (nup y 4 ((y 4) + 5 + lc (sgT (v 3) tl) ((y 4) + 5) + 1)) 5 (lc (sgT (v 3) tl) ((y 4) + 5))) 6 (wv (sgT (v 3) tl) ((y 4) + 5) (lc (sgT (v 3) tl) ((y 4) + 5))))) := hD
                        refine z_ifBeq (tgt := 136) hx hb dX4_reads_129 (by decide) (fun c_76 => absurd c_76 (by decide)) (fun c_76 => ?_)
                        refine lv_iconst (v := nI 1) hx hb dX4_reads_132 (by decide) ?_
                        refine lv_goto (tgt := 137) hx hb dX4_reads_133 (by decide) ?_
                        exact z_iretE (mrow v 6 (upd (upd (v 6) 0 (nI (sgT (v 3) tl ((y 4) + 1) - 48))) 1 (nI (sgT (v 3) tl ((y 4) + 3) - 48))), nup (nup (nup y 4 ((y 4) + 5 + lc (sgT (v 3) tl) ((y 4) + 5) + 1)) 5 (lc (sgT (v 3) tl) ((y 4) + 5))) 6 (wv (sgT (v 3) tl) ((y 4) + 5) (lc (sgT (v 3) tl) ((y 4) + 5)))) hx hb hr hlk hP hD hS dX4_reads_137 (by decide) (rdPost_mk ((y 4) + 5 + lc (sgT (v 3) tl) ((y 4) + 5) + 1, some (sgT (v 3) tl ((y 4) + 1) - 48, sgT (v 3) tl ((y 4) + 3) - 48, lc (sgT (v 3) tl) ((y 4) + 5), wv (sgT (v 3) tl) ((y 4) + 5) (lc (sgT (v 3) tl) ((y 4) + 5)))) (fun k hk => if_neg hk) (okDg_01 (by omega) (by omega)) (fun k h4 h5 h6 => by simp [nup, h4, h5, h6]) (by rw [prs, if_neg (by omega), if_pos hk61, if_pos hd_66, if_pos hd_68, if_pos hd_70, if_pos hd_72, prL, if_pos hlk0, if_pos hd_75]) rfl rfl (fun d0 d1 k w hz => by cases hz; exact ⟨fun z => absurd z (by omega), fun _ => ⟨rfl, rfl⟩, fun _ => ⟨rfl, rfl⟩⟩))
                      · skip
                        refine z_callVI (As := [.int (nI 59)]) (rest := []) (wr := []) (C := RX4) F (c_X4_passes_f l G a (mrow v 6 (upd (upd (v 6) 0 (nI (sgT (v 3) tl ((y 4) + 1) - 48))) 1 (nI (sgT (v 3) tl ((y 4) + 3) - 48)))) (nup (nup (nup y 4 ((y 4) + 5 + lc (sgT (v 3) tl) ((y 4) + 5))) 5 (lc (sgT (v 3) tl) ((y 4) + 5))) 6 (wv (sgT (v 3) tl) ((y 4) + 5) (lc (sgT (v 3) tl) ((y 4) + 5)))) (59) (by omega) (show (y 4) + 5 + lc (sgT (v 3) tl) ((y 4) + 5) < 2 ^ 20 by omega) tl (by exact hL) hL6 (by exact hT) hd_75) (cwV 1 hts gX4_reads_X4_passes rfl rfl rfl (by decide +kernel) ⟨Nat.le_of_ble_eq_true rfl, Nat.le_of_ble_eq_true rfl⟩) hKK (z_recv hKK hP (q0 := 0) (ci := 4) rfl rfl) hP hD hS hA rfl hl.1 rfl (Nat.le_of_ble_eq_true rfl) ⟨Nat.zero_le _, Nat.zero_le _⟩ dX4_reads_126 (fun H locs hP hD hS => ?_)
                        have hP : va_P G.1 vwCl (modW G a (mrow v 6 (upd (upd (v 6) 0 (nI (sgT (v 3) tl ((y 4) + 1) - 48))) 1 (nI (sgT (v 3) tl ((y 4) + 3) - 48)))) (nup (nup (nup y 4 ((y 4) + 5 + lc (sgT (v 3) tl) ((y 4) + 5))) 5 (lc (sgT (v 3) tl) ((y 4) + 5))) 6 (wv (sgT (v 3) tl) ((y 4) + 5) (lc (sgT (v 3) tl) ((y 4) + 5))))) H := hP
                        have hD : va_D A (modW G a (mrow v 6 (upd (upd (v 6) 0 (nI (sgT (v 3) tl ((y 4) + 1) - 48))) 1 (nI (sgT (v 3) tl ((y 4) + 3) - 48)))) (nup (nup (nup y 4 ((y 4) + 5 + lc (sgT (v 3) tl) ((y 4) + 5))) 5 (lc (sgT (v 3) tl) ((y 4) + 5))) 6 (wv (sgT (v 3) tl) ((y 4) + 5) (lc (sgT (v 3) tl) ((y 4) + 5))))) := hD
                        refine z_ifBeq (tgt := 136) hx hb dX4_reads_129 (by decide) (fun c_77 => ?_) (fun c_77 => absurd c_77 (by decide))
                        refine lv_iconst (v := nI 0) hx hb dX4_reads_136 (by decide) ?_
                        exact z_iretE (mrow v 6 (upd (upd (v 6) 0 (nI (sgT (v 3) tl ((y 4) + 1) - 48))) 1 (nI (sgT (v 3) tl ((y 4) + 3) - 48))), nup (nup (nup y 4 ((y 4) + 5 + lc (sgT (v 3) tl) ((y 4) + 5))) 5 (lc (sgT (v 3) tl) ((y 4) + 5))) 6 (wv (sgT (v 3) tl) ((y 4) + 5) (lc (sgT (v 3) tl) ((y 4) + 5)))) hx hb hr hlk hP hD hS dX4_reads_137 (by decide) (rdPost_mk ((y 4) + 5 + lc (sgT (v 3) tl) ((y 4) + 5), none) (fun k hk => if_neg hk) (okDg_01 (by omega) (by omega)) (fun k h4 h5 h6 => by simp [nup, h4, h5, h6]) (by rw [prs, if_neg (by omega), if_pos hk61, if_pos hd_66, if_pos hd_68, if_pos hd_70, if_pos hd_72, prL, if_pos hlk0, if_neg hd_75]) rfl rfl (fun d0 d1 k w hz => by cases hz))
                  · skip
                    refine z_callVI (As := [.int (nI 44)]) (rest := []) (wr := []) (C := RX4) F (c_X4_passes_f l G a (mrow v 6 (upd (upd (v 6) 0 (nI (sgT (v 3) tl ((y 4) + 1) - 48))) 1 (nI (sgT (v 3) tl ((y 4) + 3) - 48)))) (nup y 4 ((y 4) + 4)) (44) (by omega) (show (y 4) + 4 < 2 ^ 20 by omega) tl (by exact hL) hL6 (by exact hT) hd_72) (cwV 1 hts gX4_reads_X4_passes rfl rfl rfl (by decide +kernel) ⟨Nat.le_of_ble_eq_true rfl, Nat.le_of_ble_eq_true rfl⟩) hKK (z_recv hKK hP (q0 := 0) (ci := 4) rfl rfl) hP hD hS hA rfl hl.1 rfl (Nat.le_of_ble_eq_true rfl) ⟨Nat.zero_le _, Nat.zero_le _⟩ dX4_reads_108 (fun H locs hP hD hS => ?_)
                    have hP : va_P G.1 vwCl (modW G a (mrow v 6 (upd (upd (v 6) 0 (nI (sgT (v 3) tl ((y 4) + 1) - 48))) 1 (nI (sgT (v 3) tl ((y 4) + 3) - 48)))) (nup y 4 ((y 4) + 4))) H := hP
                    have hD : va_D A (modW G a (mrow v 6 (upd (upd (v 6) 0 (nI (sgT (v 3) tl ((y 4) + 1) - 48))) 1 (nI (sgT (v 3) tl ((y 4) + 3) - 48)))) (nup y 4 ((y 4) + 4))) := hD
                    refine z_ifBne (tgt := 116) hx hb dX4_reads_111 (by decide) (fun c_78 => absurd c_78 (by decide)) (fun c_78 => ?_)
                    refine lv_iconst (v := nI 0) hx hb dX4_reads_114 (by decide) ?_
                    exact z_iretE (mrow v 6 (upd (upd (v 6) 0 (nI (sgT (v 3) tl ((y 4) + 1) - 48))) 1 (nI (sgT (v 3) tl ((y 4) + 3) - 48))), nup y 4 ((y 4) + 4)) hx hb hr hlk hP hD hS dX4_reads_115 (by decide) (rdPost_mk ((y 4) + 4, none) (fun k hk => if_neg hk) (okDg_01 (by omega) (by omega)) (fun k h4 h5 h6 => by simp [nup, h4, h5, h6]) (by rw [prs, if_neg (by omega), if_pos hk61, if_pos hd_66, if_pos hd_68, if_pos hd_70, if_neg hd_72]) rfl rfl (fun d0 d1 k w hz => by cases hz))
                · skip
                  refine z_callVI (As := [.int (nI 1)]) (rest := []) (wr := []) (C := RX4) F (c_X4_digit_f l G a (mrow v 6 (upd (v 6) 0 (nI (sgT (v 3) tl ((y 4) + 1) - 48)))) (nup y 4 ((y 4) + 3)) (1) (by omega) (show (y 4) + 3 < 2 ^ 20 by omega) tl (by exact hL) hL6 (by exact hT) hd_70) (cwV 1 hts gX4_reads_X4_digit rfl rfl rfl (by decide +kernel) ⟨Nat.le_of_ble_eq_true rfl, Nat.le_of_ble_eq_true rfl⟩) hKK (z_recv hKK hP (q0 := 0) (ci := 4) rfl rfl) hP hD hS hA rfl hl.1 rfl (Nat.le_of_ble_eq_true rfl) ⟨Nat.zero_le _, Nat.zero_le _⟩ dX4_reads_99 (fun H locs hP hD hS => ?_)
                  have hP : va_P G.1 vwCl (modW G a (mrow v 6 (upd (upd (v 6) 0 (nI (sgT (v 3) tl ((y 4) + 1) - 48))) 1 (nI 0))) (nup y 4 ((y 4) + 3))) H := hP
                  have hD : va_D A (modW G a (mrow v 6 (upd (upd (v 6) 0 (nI (sgT (v 3) tl ((y 4) + 1) - 48))) 1 (nI 0))) (nup y 4 ((y 4) + 3))) := hD
                  refine z_ifBeq (tgt := 114) hx hb dX4_reads_102 (by decide) (fun c_79 => ?_) (fun c_79 => absurd c_79 (by decide))
                  refine lv_iconst (v := nI 0) hx hb dX4_reads_114 (by decide) ?_
                  exact z_iretE (mrow v 6 (upd (upd (v 6) 0 (nI (sgT (v 3) tl ((y 4) + 1) - 48))) 1 (nI 0)), nup y 4 ((y 4) + 3)) hx hb hr hlk hP hD hS dX4_reads_115 (by decide) (rdPost_mk ((y 4) + 3, none) (fun k hk => if_neg hk) (okDg_01 (by omega) (by omega)) (fun k h4 h5 h6 => by simp [nup, h4, h5, h6]) (by rw [prs, if_neg (by omega), if_pos hk61, if_pos hd_66, if_pos hd_68, if_neg (by rw [hd_70]; decide)]) rfl rfl (fun d0 d1 k w hz => by cases hz))
              · skip
                refine z_callVI (As := [.int (nI 44)]) (rest := []) (wr := []) (C := RX4) F (c_X4_passes_f l G a (mrow v 6 (upd (v 6) 0 (nI (sgT (v 3) tl ((y 4) + 1) - 48)))) (nup y 4 ((y 4) + 2)) (44) (by omega) (show (y 4) + 2 < 2 ^ 20 by omega) tl (by exact hL) hL6 (by exact hT) hd_68) (cwV 1 hts gX4_reads_X4_passes rfl rfl rfl (by decide +kernel) ⟨Nat.le_of_ble_eq_true rfl, Nat.le_of_ble_eq_true rfl⟩) hKK (z_recv hKK hP (q0 := 0) (ci := 4) rfl rfl) hP hD hS hA rfl hl.1 rfl (Nat.le_of_ble_eq_true rfl) ⟨Nat.zero_le _, Nat.zero_le _⟩ dX4_reads_91 (fun H locs hP hD hS => ?_)
                have hP : va_P G.1 vwCl (modW G a (mrow v 6 (upd (v 6) 0 (nI (sgT (v 3) tl ((y 4) + 1) - 48)))) (nup y 4 ((y 4) + 2))) H := hP
                have hD : va_D A (modW G a (mrow v 6 (upd (v 6) 0 (nI (sgT (v 3) tl ((y 4) + 1) - 48)))) (nup y 4 ((y 4) + 2))) := hD
                refine z_ifBeq (tgt := 114) hx hb dX4_reads_94 (by decide) (fun c_80 => ?_) (fun c_80 => absurd c_80 (by decide))
                refine lv_iconst (v := nI 0) hx hb dX4_reads_114 (by decide) ?_
                exact z_iretE (mrow v 6 (upd (v 6) 0 (nI (sgT (v 3) tl ((y 4) + 1) - 48))), nup y 4 ((y 4) + 2)) hx hb hr hlk hP hD hS dX4_reads_115 (by decide) (rdPost_mk ((y 4) + 2, none) (fun k hk => if_neg hk) (okDg_0 hdg (by omega)) (fun k h4 h5 h6 => by simp [nup, h4, h5, h6]) (by rw [prs, if_neg (by omega), if_pos hk61, if_pos hd_66, if_neg hd_68]) rfl rfl (fun d0 d1 k w hz => by cases hz))
            · skip
              refine z_callVI (As := [.int (nI 0)]) (rest := []) (wr := []) (C := RX4) F (c_X4_digit_f l G a v (nup y 4 ((y 4) + 1)) (0) (by omega) (show (y 4) + 1 < 2 ^ 20 by omega) tl (by exact hL) hL6 (by exact hT) hd_66) (cwV 1 hts gX4_reads_X4_digit rfl rfl rfl (by decide +kernel) ⟨Nat.le_of_ble_eq_true rfl, Nat.le_of_ble_eq_true rfl⟩) hKK (z_recv hKK hP (q0 := 0) (ci := 4) rfl rfl) hP hD hS hA rfl hl.1 rfl (Nat.le_of_ble_eq_true rfl) ⟨Nat.zero_le _, Nat.zero_le _⟩ dX4_reads_82 (fun H locs hP hD hS => ?_)
              have hP : va_P G.1 vwCl (modW G a (mrow v 6 (upd (v 6) 0 (nI 0))) (nup y 4 ((y 4) + 1))) H := hP
              have hD : va_D A (modW G a (mrow v 6 (upd (v 6) 0 (nI 0))) (nup y 4 ((y 4) + 1))) := hD
              refine z_ifBeq (tgt := 114) hx hb dX4_reads_85 (by decide) (fun c_81 => ?_) (fun c_81 => absurd c_81 (by decide))
              refine lv_iconst (v := nI 0) hx hb dX4_reads_114 (by decide) ?_
              exact z_iretE (mrow v 6 (upd (v 6) 0 (nI 0)), nup y 4 ((y 4) + 1)) hx hb hr hlk hP hD hS dX4_reads_115 (by decide) (rdPost_mk ((y 4) + 1, none) (fun k hk => if_neg hk) (okDg_0 hdg (by omega)) (fun k h4 h5 h6 => by simp [nup, h4, h5, h6]) (by rw [prs, if_neg (by omega), if_pos hk61, if_neg (by rw [hd_66]; decide)]) rfl rfl (fun d0 d1 k w hz => by cases hz))
        · skip
          have hk33 := c_60
          refine lv_aload_n hx hb dX4_reads_51 rfl (lv_at hl 1 rfl) ?_
          refine lv_iconst (v := nI 0) hx hb dX4_reads_52 (by decide) ?_
          rcases z_b (dgB (sgT (v 3) tl ((y 4) + 1))) with hd_82 | hd_82
          · have hg_82 := dgB_t hd_82
            refine z_callVI (As := [.int (nI 0)]) (rest := []) (wr := []) (C := RX4) F (c_X4_digit_t l G a v (nup y 4 ((y 4) + 1)) (0) (by omega) (show (y 4) + 1 < 2 ^ 20 by omega) tl (by exact hL) hL6 (by exact hT) hd_82) (cwV 1 hts gX4_reads_X4_digit rfl rfl rfl (by decide +kernel) ⟨Nat.le_of_ble_eq_true rfl, Nat.le_of_ble_eq_true rfl⟩) hKK (z_recv hKK hP (q0 := 0) (ci := 4) rfl rfl) hP hD hS hA rfl hl.1 rfl (Nat.le_of_ble_eq_true rfl) ⟨Nat.zero_le _, Nat.zero_le _⟩ dX4_reads_53 (fun H locs hP hD hS => ?_)
            have hP : va_P G.1 vwCl (modW G a (mrow v 6 (upd (v 6) 0 (nI (sgT (v 3) tl ((y 4) + 1) - 48)))) (nup y 4 ((y 4) + 2))) H := hP
            have hD : va_D A (modW G a (mrow v 6 (upd (v 6) 0 (nI (sgT (v 3) tl ((y 4) + 1) - 48)))) (nup y 4 ((y 4) + 2))) := hD
            refine z_ifBeq (tgt := 72) hx hb dX4_reads_56 (by decide) (fun c_83 => absurd c_83 (by decide)) (fun c_83 => ?_)
            refine lv_aload_n hx hb dX4_reads_59 rfl (lv_at hl 1 rfl) ?_
            refine lv_bipush (v := nI 59) hx hb dX4_reads_60 (by decide) ?_
            rcases Classical.em (sgT (v 3) tl ((y 4) + 2) = 59) with hd_84 | hd_84
            · skip
              refine z_callVI (As := [.int (nI 59)]) (rest := []) (wr := []) (C := RX4) F (c_X4_passes_t l G a (mrow v 6 (upd (v 6) 0 (nI (sgT (v 3) tl ((y 4) + 1) - 48)))) (nup y 4 ((y 4) + 2)) (59) (by omega) (show (y 4) + 2 < 2 ^ 20 by omega) tl (by exact hL) hL6 (by exact hT) hd_84) (cwV 1 hts gX4_reads_X4_passes rfl rfl rfl (by decide +kernel) ⟨Nat.le_of_ble_eq_true rfl, Nat.le_of_ble_eq_true rfl⟩) hKK (z_recv hKK hP (q0 := 0) (ci := 4) rfl rfl) hP hD hS hA rfl hl.1 rfl (Nat.le_of_ble_eq_true rfl) ⟨Nat.zero_le _, Nat.zero_le _⟩ dX4_reads_62 (fun H locs hP hD hS => ?_)
              have hP : va_P G.1 vwCl (modW G a (mrow v 6 (upd (v 6) 0 (nI (sgT (v 3) tl ((y 4) + 1) - 48)))) (nup y 4 ((y 4) + 3))) H := hP
              have hD : va_D A (modW G a (mrow v 6 (upd (v 6) 0 (nI (sgT (v 3) tl ((y 4) + 1) - 48)))) (nup y 4 ((y 4) + 3))) := hD
              refine z_ifBeq (tgt := 72) hx hb dX4_reads_65 (by decide) (fun c_85 => absurd c_85 (by decide)) (fun c_85 => ?_)
              refine lv_iconst (v := nI 1) hx hb dX4_reads_68 (by decide) ?_
              refine lv_goto (tgt := 73) hx hb dX4_reads_69 (by decide) ?_
              exact z_iretE (mrow v 6 (upd (v 6) 0 (nI (sgT (v 3) tl ((y 4) + 1) - 48))), nup y 4 ((y 4) + 3)) hx hb hr hlk hP hD hS dX4_reads_73 (by decide) (rdPost_mk ((y 4) + 3, some (sgT (v 3) tl ((y 4) + 1) - 48, 0, 0, 0)) (fun k hk => if_neg hk) (okDg_0 hdg (by omega)) (fun k h4 h5 h6 => by simp [nup, h4, h5, h6]) (by rw [prs, if_pos hk33, if_pos hd_82, if_pos hd_84]) rfl rfl (fun d0 d1 k w hz => by cases hz; exact ⟨fun _ => rfl, fun z => absurd z (by omega), fun z => absurd hk33 z⟩))
            · skip
              refine z_callVI (As := [.int (nI 59)]) (rest := []) (wr := []) (C := RX4) F (c_X4_passes_f l G a (mrow v 6 (upd (v 6) 0 (nI (sgT (v 3) tl ((y 4) + 1) - 48)))) (nup y 4 ((y 4) + 2)) (59) (by omega) (show (y 4) + 2 < 2 ^ 20 by omega) tl (by exact hL) hL6 (by exact hT) hd_84) (cwV 1 hts gX4_reads_X4_passes rfl rfl rfl (by decide +kernel) ⟨Nat.le_of_ble_eq_true rfl, Nat.le_of_ble_eq_true rfl⟩) hKK (z_recv hKK hP (q0 := 0) (ci := 4) rfl rfl) hP hD hS hA rfl hl.1 rfl (Nat.le_of_ble_eq_true rfl) ⟨Nat.zero_le _, Nat.zero_le _⟩ dX4_reads_62 (fun H locs hP hD hS => ?_)
              have hP : va_P G.1 vwCl (modW G a (mrow v 6 (upd (v 6) 0 (nI (sgT (v 3) tl ((y 4) + 1) - 48)))) (nup y 4 ((y 4) + 2))) H := hP
              have hD : va_D A (modW G a (mrow v 6 (upd (v 6) 0 (nI (sgT (v 3) tl ((y 4) + 1) - 48)))) (nup y 4 ((y 4) + 2))) := hD
              refine z_ifBeq (tgt := 72) hx hb dX4_reads_65 (by decide) (fun c_86 => ?_) (fun c_86 => absurd c_86 (by decide))
              refine lv_iconst (v := nI 0) hx hb dX4_reads_72 (by decide) ?_
              exact z_iretE (mrow v 6 (upd (v 6) 0 (nI (sgT (v 3) tl ((y 4) + 1) - 48))), nup y 4 ((y 4) + 2)) hx hb hr hlk hP hD hS dX4_reads_73 (by decide) (rdPost_mk ((y 4) + 2, none) (fun k hk => if_neg hk) (okDg_0 hdg (by omega)) (fun k h4 h5 h6 => by simp [nup, h4, h5, h6]) (by rw [prs, if_pos hk33, if_pos hd_82, if_neg hd_84]) rfl rfl (fun d0 d1 k w hz => by cases hz))
          · skip
            refine z_callVI (As := [.int (nI 0)]) (rest := []) (wr := []) (C := RX4) F (c_X4_digit_f l G a v (nup y 4 ((y 4) + 1)) (0) (by omega) (show (y 4) + 1 < 2 ^ 20 by omega) tl (by exact hL) hL6 (by exact hT) hd_82) (cwV 1 hts gX4_reads_X4_digit rfl rfl rfl (by decide +kernel) ⟨Nat.le_of_ble_eq_true rfl, Nat.le_of_ble_eq_true rfl⟩) hKK (z_recv hKK hP (q0 := 0) (ci := 4) rfl rfl) hP hD hS hA rfl hl.1 rfl (Nat.le_of_ble_eq_true rfl) ⟨Nat.zero_le _, Nat.zero_le _⟩ dX4_reads_53 (fun H locs hP hD hS => ?_)
            have hP : va_P G.1 vwCl (modW G a (mrow v 6 (upd (v 6) 0 (nI 0))) (nup y 4 ((y 4) + 1))) H := hP
            have hD : va_D A (modW G a (mrow v 6 (upd (v 6) 0 (nI 0))) (nup y 4 ((y 4) + 1))) := hD
            refine z_ifBeq (tgt := 72) hx hb dX4_reads_56 (by decide) (fun c_87 => ?_) (fun c_87 => absurd c_87 (by decide))
            refine lv_iconst (v := nI 0) hx hb dX4_reads_72 (by decide) ?_
            exact z_iretE (mrow v 6 (upd (v 6) 0 (nI 0)), nup y 4 ((y 4) + 1)) hx hb hr hlk hP hD hS dX4_reads_73 (by decide) (rdPost_mk ((y 4) + 1, none) (fun k hk => if_neg hk) (okDg_0 hdg (by omega)) (fun k h4 h5 h6 => by simp [nup, h4, h5, h6]) (by rw [prs, if_pos hk33, if_neg (by rw [hd_82]; decide)]) rfl rfl (fun d0 d1 k w hz => by cases hz))
      · skip
        refine lv_iload_n hx hb dX4_reads_27 rfl (lv_at hl 0 rfl) ?_
        refine lv_bipush (v := nI 33) hx hb dX4_reads_28 (by decide) ?_
        refine z_eq (tgt := 35) hx hb dX4_reads_30 (by decide) (Nat.lt_trans (sgT_lt hT hL6 _) (by decide)) (by omega) (fun c_88 => ?_) (fun c_88 => ?_)
        · skip
          refine lv_aload_n hx hb dX4_reads_35 rfl (lv_at hl 1 rfl) ?_
          refine lv_dup hx hb dX4_reads_36 rfl ?_
          refine va_get (D := G.1) (ci := 4) (v := .int (nI (y 4))) (C := RX4) (T := TX4) (N := 17) hx hb hts hinX4 hown hKK.1 hP 0 rfl rfl 10 (by decide) fl_134 (fun _ h9 => h9) rfl dX4_reads_37 ?_
          refine lv_iconst (v := nI 1) hx hb dX4_reads_40 (by decide) ?_
          refine z_add (v := nI ((y 4) + 1)) hx hb dX4_reads_41 (nI_add _ _) ?_
          refine z_put (w2 := modW G a v (nup y 4 ((y 4) + 1))) hx hb hts hinX4 tyX4 tyX4_ok nmX4 hown hKK hP hD hS 0 (ci := 4) (C := RX4) (T := TX4) (N := 17) rfl rfl 10 (by decide) fl_134 rfl rfl rfl (Nat.le_of_ble_eq_true rfl) rfl dX4_reads_42 (fun H locs hP hD hS => ?_)
          refine lv_iload_n hx hb dX4_reads_45 rfl (lv_at hl 0 rfl) ?_
          refine lv_bipush (v := nI 33) hx hb dX4_reads_46 (by decide) ?_
          refine z_ne (tgt := 74) hx hb dX4_reads_48 (by decide) (Nat.lt_trans (sgT_lt hT hL6 _) (by decide)) (by omega) (fun c_89 => ?_) (fun c_89 => ?_)
          · skip
            refine lv_iload_n hx hb dX4_reads_74 rfl (lv_at hl 0 rfl) ?_
            refine lv_bipush (v := nI 61) hx hb dX4_reads_75 (by decide) ?_
            refine z_ne (tgt := 116) hx hb dX4_reads_77 (by decide) (Nat.lt_trans (sgT_lt hT hL6 _) (by decide)) (by omega) (fun c_90 => ?_) (fun c_90 => ?_)
            · skip
              refine lv_aload_n hx hb dX4_reads_116 rfl (lv_at hl 1 rfl) ?_
              refine z_callVI (As := []) (rest := []) (wr := []) (C := RX4) F (c_X4_name l G a v (nup y 4 ((y 4) + 1)) (show (y 4) + 1 < 2 ^ 20 by omega) tl (by exact hL) hL6 (by exact hT)) (cwV 0 hts gX4_reads_X4_name rfl rfl rfl (by decide +kernel) ⟨Nat.le_of_ble_eq_true rfl, Nat.le_of_ble_eq_true rfl⟩) hKK (z_recv hKK hP (q0 := 0) (ci := 4) rfl rfl) hP hD hS hA rfl hl.1 rfl (Nat.le_of_ble_eq_true rfl) ⟨Nat.zero_le _, Nat.zero_le _⟩ dX4_reads_117 (fun H locs hP hD hS => ?_)
              have hlc6 := lc_le60 (sgT (v 3) tl) ((y 4) + 1)
              have hP : va_P G.1 vwCl (modW G a v (nup (nup (nup y 4 ((y 4) + 1 + lc (sgT (v 3) tl) ((y 4) + 1))) 5 (lc (sgT (v 3) tl) ((y 4) + 1))) 6 (wv (sgT (v 3) tl) ((y 4) + 1) (lc (sgT (v 3) tl) ((y 4) + 1))))) H := hP
              have hD : va_D A (modW G a v (nup (nup (nup y 4 ((y 4) + 1 + lc (sgT (v 3) tl) ((y 4) + 1))) 5 (lc (sgT (v 3) tl) ((y 4) + 1))) 6 (wv (sgT (v 3) tl) ((y 4) + 1) (lc (sgT (v 3) tl) ((y 4) + 1))))) := hD
              refine z_top (v := bI (decide (0 < lc (sgT (v 3) tl) ((y 4) + 1)))) rfl ?_
              refine z_ifBeq (tgt := 136) hx hb dX4_reads_120 (by decide) (fun c_91 => ?_) (fun c_91 => ?_)
              · skip
                have hlk0 := of_decide_eq_false c_91
                refine lv_iconst (v := nI 0) hx hb dX4_reads_136 (by decide) ?_
                exact z_iretE (v, nup (nup (nup y 4 ((y 4) + 1 + lc (sgT (v 3) tl) ((y 4) + 1))) 5 (lc (sgT (v 3) tl) ((y 4) + 1))) 6 (wv (sgT (v 3) tl) ((y 4) + 1) (lc (sgT (v 3) tl) ((y 4) + 1)))) hx hb hr hlk hP hD hS dX4_reads_137 (by decide) (rdPost_mk ((y 4) + 1 + lc (sgT (v 3) tl) ((y 4) + 1), none) (fun k hk => rfl) hdg (fun k h4 h5 h6 => by simp [nup, h4, h5, h6]) (by rw [prs, if_neg (by omega), if_neg (by omega), if_pos (by omega), prL, if_neg hlk0]) rfl rfl (fun d0 d1 k w hz => by cases hz))
              · skip
                have hlk0 := of_decide_eq_true c_91
                refine lv_aload_n hx hb dX4_reads_123 rfl (lv_at hl 1 rfl) ?_
                refine lv_bipush (v := nI 59) hx hb dX4_reads_124 (by decide) ?_
                rcases Classical.em (sgT (v 3) tl ((y 4) + 1 + lc (sgT (v 3) tl) ((y 4) + 1)) = 59) with hd_92 | hd_92
                · skip
                  refine z_callVI (As := [.int (nI 59)]) (rest := []) (wr := []) (C := RX4) F (c_X4_passes_t l G a v (nup (nup (nup y 4 ((y 4) + 1 + lc (sgT (v 3) tl) ((y 4) + 1))) 5 (lc (sgT (v 3) tl) ((y 4) + 1))) 6 (wv (sgT (v 3) tl) ((y 4) + 1) (lc (sgT (v 3) tl) ((y 4) + 1)))) (59) (by omega) (show (y 4) + 1 + lc (sgT (v 3) tl) ((y 4) + 1) < 2 ^ 20 by omega) tl (by exact hL) hL6 (by exact hT) hd_92) (cwV 1 hts gX4_reads_X4_passes rfl rfl rfl (by decide +kernel) ⟨Nat.le_of_ble_eq_true rfl, Nat.le_of_ble_eq_true rfl⟩) hKK (z_recv hKK hP (q0 := 0) (ci := 4) rfl rfl) hP hD hS hA rfl hl.1 rfl (Nat.le_of_ble_eq_true rfl) ⟨Nat.zero_le _, Nat.zero_le _⟩ dX4_reads_126 (fun H locs hP hD hS => ?_)
                  have hP : va_P G.1 vwCl (modW G a v (nup (nup (nup y 4 ((y 4) + 1 + lc (sgT (v 3) tl) ((y 4) + 1) + 1)) 5 (lc (sgT (v 3) tl) ((y 4) + 1))) 6 (wv (sgT (v 3) tl) ((y 4) + 1) (lc (sgT (v 3) tl) ((y 4) + 1))))) H := hP
                  have hD : va_D A (modW G a v (nup (nup (nup y 4 ((y 4) + 1 + lc (sgT (v 3) tl) ((y 4) + 1) + 1)) 5 (lc (sgT (v 3) tl) ((y 4) + 1))) 6 (wv (sgT (v 3) tl) ((y 4) + 1) (lc (sgT (v 3) tl) ((y 4) + 1))))) := hD
                  refine z_ifBeq (tgt := 136) hx hb dX4_reads_129 (by decide) (fun c_93 => absurd c_93 (by decide)) (fun c_93 => ?_)
                  refine lv_iconst (v := nI 1) hx hb dX4_reads_132 (by decide) ?_
                  refine lv_goto (tgt := 137) hx hb dX4_reads_133 (by decide) ?_
                  exact z_iretE (v, nup (nup (nup y 4 ((y 4) + 1 + lc (sgT (v 3) tl) ((y 4) + 1) + 1)) 5 (lc (sgT (v 3) tl) ((y 4) + 1))) 6 (wv (sgT (v 3) tl) ((y 4) + 1) (lc (sgT (v 3) tl) ((y 4) + 1)))) hx hb hr hlk hP hD hS dX4_reads_137 (by decide) (rdPost_mk ((y 4) + 1 + lc (sgT (v 3) tl) ((y 4) + 1) + 1, some (0, 0, lc (sgT (v 3) tl) ((y 4) + 1), wv (sgT (v 3) tl) ((y 4) + 1) (lc (sgT (v 3) tl) ((y 4) + 1)))) (fun k hk => rfl) hdg (fun k h4 h5 h6 => by simp [nup, h4, h5, h6]) (by rw [prs, if_neg (by omega), if_neg (by omega), if_pos (by omega), prL, if_pos hlk0, if_pos hd_92]) rfl rfl (fun d0 d1 k w hz => by cases hz; exact ⟨fun z => absurd z (by omega), fun z => absurd z (by omega), fun _ => ⟨rfl, rfl⟩⟩))
                · skip
                  refine z_callVI (As := [.int (nI 59)]) (rest := []) (wr := []) (C := RX4) F (c_X4_passes_f l G a v (nup (nup (nup y 4 ((y 4) + 1 + lc (sgT (v 3) tl) ((y 4) + 1))) 5 (lc (sgT (v 3) tl) ((y 4) + 1))) 6 (wv (sgT (v 3) tl) ((y 4) + 1) (lc (sgT (v 3) tl) ((y 4) + 1)))) (59) (by omega) (show (y 4) + 1 + lc (sgT (v 3) tl) ((y 4) + 1) < 2 ^ 20 by omega) tl (by exact hL) hL6 (by exact hT) hd_92) (cwV 1 hts gX4_reads_X4_passes rfl rfl rfl (by decide +kernel) ⟨Nat.le_of_ble_eq_true rfl, Nat.le_of_ble_eq_true rfl⟩) hKK (z_recv hKK hP (q0 := 0) (ci := 4) rfl rfl) hP hD hS hA rfl hl.1 rfl (Nat.le_of_ble_eq_true rfl) ⟨Nat.zero_le _, Nat.zero_le _⟩ dX4_reads_126 (fun H locs hP hD hS => ?_)
                  have hP : va_P G.1 vwCl (modW G a v (nup (nup (nup y 4 ((y 4) + 1 + lc (sgT (v 3) tl) ((y 4) + 1))) 5 (lc (sgT (v 3) tl) ((y 4) + 1))) 6 (wv (sgT (v 3) tl) ((y 4) + 1) (lc (sgT (v 3) tl) ((y 4) + 1))))) H := hP
                  have hD : va_D A (modW G a v (nup (nup (nup y 4 ((y 4) + 1 + lc (sgT (v 3) tl) ((y 4) + 1))) 5 (lc (sgT (v 3) tl) ((y 4) + 1))) 6 (wv (sgT (v 3) tl) ((y 4) + 1) (lc (sgT (v 3) tl) ((y 4) + 1))))) := hD
                  refine z_ifBeq (tgt := 136) hx hb dX4_reads_129 (by decide) (fun c_94 => ?_) (fun c_94 => absurd c_94 (by decide))
                  refine lv_iconst (v := nI 0) hx hb dX4_reads_136 (by decide) ?_
                  exact z_iretE (v, nup (nup (nup y 4 ((y 4) + 1 + lc (sgT (v 3) tl) ((y 4) + 1))) 5 (lc (sgT (v 3) tl) ((y 4) + 1))) 6 (wv (sgT (v 3) tl) ((y 4) + 1) (lc (sgT (v 3) tl) ((y 4) + 1)))) hx hb hr hlk hP hD hS dX4_reads_137 (by decide) (rdPost_mk ((y 4) + 1 + lc (sgT (v 3) tl) ((y 4) + 1), none) (fun k hk => rfl) hdg (fun k h4 h5 h6 => by simp [nup, h4, h5, h6]) (by rw [prs, if_neg (by omega), if_neg (by omega), if_pos (by omega), prL, if_pos hlk0, if_neg hd_92]) rfl rfl (fun d0 d1 k w hz => by cases hz))
            · skip
              have hk61 := c_90
              refine lv_aload_n hx hb dX4_reads_80 rfl (lv_at hl 1 rfl) ?_
              refine lv_iconst (v := nI 0) hx hb dX4_reads_81 (by decide) ?_
              rcases z_b (dgB (sgT (v 3) tl ((y 4) + 1))) with hd_95 | hd_95
              · have hg_95 := dgB_t hd_95
                refine z_callVI (As := [.int (nI 0)]) (rest := []) (wr := []) (C := RX4) F (c_X4_digit_t l G a v (nup y 4 ((y 4) + 1)) (0) (by omega) (show (y 4) + 1 < 2 ^ 20 by omega) tl (by exact hL) hL6 (by exact hT) hd_95) (cwV 1 hts gX4_reads_X4_digit rfl rfl rfl (by decide +kernel) ⟨Nat.le_of_ble_eq_true rfl, Nat.le_of_ble_eq_true rfl⟩) hKK (z_recv hKK hP (q0 := 0) (ci := 4) rfl rfl) hP hD hS hA rfl hl.1 rfl (Nat.le_of_ble_eq_true rfl) ⟨Nat.zero_le _, Nat.zero_le _⟩ dX4_reads_82 (fun H locs hP hD hS => ?_)
                have hP : va_P G.1 vwCl (modW G a (mrow v 6 (upd (v 6) 0 (nI (sgT (v 3) tl ((y 4) + 1) - 48)))) (nup y 4 ((y 4) + 2))) H := hP
                have hD : va_D A (modW G a (mrow v 6 (upd (v 6) 0 (nI (sgT (v 3) tl ((y 4) + 1) - 48)))) (nup y 4 ((y 4) + 2))) := hD
                refine z_ifBeq (tgt := 114) hx hb dX4_reads_85 (by decide) (fun c_96 => absurd c_96 (by decide)) (fun c_96 => ?_)
                refine lv_aload_n hx hb dX4_reads_88 rfl (lv_at hl 1 rfl) ?_
                refine lv_bipush (v := nI 44) hx hb dX4_reads_89 (by decide) ?_
                rcases Classical.em (sgT (v 3) tl ((y 4) + 2) = 44) with hd_97 | hd_97
                · skip
                  refine z_callVI (As := [.int (nI 44)]) (rest := []) (wr := []) (C := RX4) F (c_X4_passes_t l G a (mrow v 6 (upd (v 6) 0 (nI (sgT (v 3) tl ((y 4) + 1) - 48)))) (nup y 4 ((y 4) + 2)) (44) (by omega) (show (y 4) + 2 < 2 ^ 20 by omega) tl (by exact hL) hL6 (by exact hT) hd_97) (cwV 1 hts gX4_reads_X4_passes rfl rfl rfl (by decide +kernel) ⟨Nat.le_of_ble_eq_true rfl, Nat.le_of_ble_eq_true rfl⟩) hKK (z_recv hKK hP (q0 := 0) (ci := 4) rfl rfl) hP hD hS hA rfl hl.1 rfl (Nat.le_of_ble_eq_true rfl) ⟨Nat.zero_le _, Nat.zero_le _⟩ dX4_reads_91 (fun H locs hP hD hS => ?_)
                  have hP : va_P G.1 vwCl (modW G a (mrow v 6 (upd (v 6) 0 (nI (sgT (v 3) tl ((y 4) + 1) - 48)))) (nup y 4 ((y 4) + 3))) H := hP
                  have hD : va_D A (modW G a (mrow v 6 (upd (v 6) 0 (nI (sgT (v 3) tl ((y 4) + 1) - 48)))) (nup y 4 ((y 4) + 3))) := hD
                  refine z_ifBeq (tgt := 114) hx hb dX4_reads_94 (by decide) (fun c_98 => absurd c_98 (by decide)) (fun c_98 => ?_)
                  refine lv_aload_n hx hb dX4_reads_97 rfl (lv_at hl 1 rfl) ?_
                  refine lv_iconst (v := nI 1) hx hb dX4_reads_98 (by decide) ?_
                  rcases z_b (dgB (sgT (v 3) tl ((y 4) + 3))) with hd_99 | hd_99
                  · have hg_99 := dgB_t hd_99
                    refine z_callVI (As := [.int (nI 1)]) (rest := []) (wr := []) (C := RX4) F (c_X4_digit_t l G a (mrow v 6 (upd (v 6) 0 (nI (sgT (v 3) tl ((y 4) + 1) - 48)))) (nup y 4 ((y 4) + 3)) (1) (by omega) (show (y 4) + 3 < 2 ^ 20 by omega) tl (by exact hL) hL6 (by exact hT) hd_99) (cwV 1 hts gX4_reads_X4_digit rfl rfl rfl (by decide +kernel) ⟨Nat.le_of_ble_eq_true rfl, Nat.le_of_ble_eq_true rfl⟩) hKK (z_recv hKK hP (q0 := 0) (ci := 4) rfl rfl) hP hD hS hA rfl hl.1 rfl (Nat.le_of_ble_eq_true rfl) ⟨Nat.zero_le _, Nat.zero_le _⟩ dX4_reads_99 (fun H locs hP hD hS => ?_)
                    have hP : va_P G.1 vwCl (modW G a (mrow v 6 (upd (upd (v 6) 0 (nI (sgT (v 3) tl ((y 4) + 1) - 48))) 1 (nI (sgT (v 3) tl ((y 4) + 3) - 48)))) (nup y 4 ((y 4) + 4))) H := hP
                    have hD : va_D A (modW G a (mrow v 6 (upd (upd (v 6) 0 (nI (sgT (v 3) tl ((y 4) + 1) - 48))) 1 (nI (sgT (v 3) tl ((y 4) + 3) - 48)))) (nup y 4 ((y 4) + 4))) := hD
                    refine z_ifBeq (tgt := 114) hx hb dX4_reads_102 (by decide) (fun c_100 => absurd c_100 (by decide)) (fun c_100 => ?_)
                    refine lv_aload_n hx hb dX4_reads_105 rfl (lv_at hl 1 rfl) ?_
                    refine lv_bipush (v := nI 44) hx hb dX4_reads_106 (by decide) ?_
                    rcases Classical.em (sgT (v 3) tl ((y 4) + 4) = 44) with hd_101 | hd_101
                    · skip
                      refine z_callVI (As := [.int (nI 44)]) (rest := []) (wr := []) (C := RX4) F (c_X4_passes_t l G a (mrow v 6 (upd (upd (v 6) 0 (nI (sgT (v 3) tl ((y 4) + 1) - 48))) 1 (nI (sgT (v 3) tl ((y 4) + 3) - 48)))) (nup y 4 ((y 4) + 4)) (44) (by omega) (show (y 4) + 4 < 2 ^ 20 by omega) tl (by exact hL) hL6 (by exact hT) hd_101) (cwV 1 hts gX4_reads_X4_passes rfl rfl rfl (by decide +kernel) ⟨Nat.le_of_ble_eq_true rfl, Nat.le_of_ble_eq_true rfl⟩) hKK (z_recv hKK hP (q0 := 0) (ci := 4) rfl rfl) hP hD hS hA rfl hl.1 rfl (Nat.le_of_ble_eq_true rfl) ⟨Nat.zero_le _, Nat.zero_le _⟩ dX4_reads_108 (fun H locs hP hD hS => ?_)
                      have hP : va_P G.1 vwCl (modW G a (mrow v 6 (upd (upd (v 6) 0 (nI (sgT (v 3) tl ((y 4) + 1) - 48))) 1 (nI (sgT (v 3) tl ((y 4) + 3) - 48)))) (nup y 4 ((y 4) + 5))) H := hP
                      have hD : va_D A (modW G a (mrow v 6 (upd (upd (v 6) 0 (nI (sgT (v 3) tl ((y 4) + 1) - 48))) 1 (nI (sgT (v 3) tl ((y 4) + 3) - 48)))) (nup y 4 ((y 4) + 5))) := hD
                      refine z_ifBne (tgt := 116) hx hb dX4_reads_111 (by decide) (fun c_102 => ?_) (fun c_102 => absurd c_102 (by decide))
                      refine lv_aload_n hx hb dX4_reads_116 rfl (lv_at hl 1 rfl) ?_
                      refine z_callVI (As := []) (rest := []) (wr := []) (C := RX4) F (c_X4_name l G a (mrow v 6 (upd (upd (v 6) 0 (nI (sgT (v 3) tl ((y 4) + 1) - 48))) 1 (nI (sgT (v 3) tl ((y 4) + 3) - 48)))) (nup y 4 ((y 4) + 5)) (show (y 4) + 5 < 2 ^ 20 by omega) tl (by exact hL) hL6 (by exact hT)) (cwV 0 hts gX4_reads_X4_name rfl rfl rfl (by decide +kernel) ⟨Nat.le_of_ble_eq_true rfl, Nat.le_of_ble_eq_true rfl⟩) hKK (z_recv hKK hP (q0 := 0) (ci := 4) rfl rfl) hP hD hS hA rfl hl.1 rfl (Nat.le_of_ble_eq_true rfl) ⟨Nat.zero_le _, Nat.zero_le _⟩ dX4_reads_117 (fun H locs hP hD hS => ?_)
                      have hlc6 := lc_le60 (sgT (v 3) tl) ((y 4) + 5)
                      have hP : va_P G.1 vwCl (modW G a (mrow v 6 (upd (upd (v 6) 0 (nI (sgT (v 3) tl ((y 4) + 1) - 48))) 1 (nI (sgT (v 3) tl ((y 4) + 3) - 48)))) (nup (nup (nup y 4 ((y 4) + 5 + lc (sgT (v 3) tl) ((y 4) + 5))) 5 (lc (sgT (v 3) tl) ((y 4) + 5))) 6 (wv (sgT (v 3) tl) ((y 4) + 5) (lc (sgT (v 3) tl) ((y 4) + 5))))) H := hP
                      have hD : va_D A (modW G a (mrow v 6 (upd (upd (v 6) 0 (nI (sgT (v 3) tl ((y 4) + 1) - 48))) 1 (nI (sgT (v 3) tl ((y 4) + 3) - 48)))) (nup (nup (nup y 4 ((y 4) + 5 + lc (sgT (v 3) tl) ((y 4) + 5))) 5 (lc (sgT (v 3) tl) ((y 4) + 5))) 6 (wv (sgT (v 3) tl) ((y 4) + 5) (lc (sgT (v 3) tl) ((y 4) + 5))))) := hD
                      refine z_top (v := bI (decide (0 < lc (sgT (v 3) tl) ((y 4) + 5)))) rfl ?_
                      refine z_ifBeq (tgt := 136) hx hb dX4_reads_120 (by decide) (fun c_103 => ?_) (fun c_103 => ?_)
                      · skip
                        have hlk0 := of_decide_eq_false c_103
                        refine lv_iconst (v := nI 0) hx hb dX4_reads_136 (by decide) ?_
                        exact z_iretE (mrow v 6 (upd (upd (v 6) 0 (nI (sgT (v 3) tl ((y 4) + 1) - 48))) 1 (nI (sgT (v 3) tl ((y 4) + 3) - 48))), nup (nup (nup y 4 ((y 4) + 5 + lc (sgT (v 3) tl) ((y 4) + 5))) 5 (lc (sgT (v 3) tl) ((y 4) + 5))) 6 (wv (sgT (v 3) tl) ((y 4) + 5) (lc (sgT (v 3) tl) ((y 4) + 5)))) hx hb hr hlk hP hD hS dX4_reads_137 (by decide) (rdPost_mk ((y 4) + 5 + lc (sgT (v 3) tl) ((y 4) + 5), none) (fun k hk => if_neg hk) (okDg_01 (by omega) (by omega)) (fun k h4 h5 h6 => by simp [nup, h4, h5, h6]) (by rw [prs, if_neg (by omega), if_pos hk61, if_pos hd_95, if_pos hd_97, if_pos hd_99, if_pos hd_101, prL, if_neg hlk0]) rfl rfl (fun d0 d1 k w hz => by cases hz))
                      · skip
                        have hlk0 := of_decide_eq_true c_103
                        refine lv_aload_n hx hb dX4_reads_123 rfl (lv_at hl 1 rfl) ?_
                        refine lv_bipush (v := nI 59) hx hb dX4_reads_124 (by decide) ?_
                        rcases Classical.em (sgT (v 3) tl ((y 4) + 5 + lc (sgT (v 3) tl) ((y 4) + 5)) = 59) with hd_104 | hd_104
                        · skip
                          refine z_callVI (As := [.int (nI 59)]) (rest := []) (wr := []) (C := RX4) F (c_X4_passes_t l G a (mrow v 6 (upd (upd (v 6) 0 (nI (sgT (v 3) tl ((y 4) + 1) - 48))) 1 (nI (sgT (v 3) tl ((y 4) + 3) - 48)))) (nup (nup (nup y 4 ((y 4) + 5 + lc (sgT (v 3) tl) ((y 4) + 5))) 5 (lc (sgT (v 3) tl) ((y 4) + 5))) 6 (wv (sgT (v 3) tl) ((y 4) + 5) (lc (sgT (v 3) tl) ((y 4) + 5)))) (59) (by omega) (show (y 4) + 5 + lc (sgT (v 3) tl) ((y 4) + 5) < 2 ^ 20 by omega) tl (by exact hL) hL6 (by exact hT) hd_104) (cwV 1 hts gX4_reads_X4_passes rfl rfl rfl (by decide +kernel) ⟨Nat.le_of_ble_eq_true rfl, Nat.le_of_ble_eq_true rfl⟩) hKK (z_recv hKK hP (q0 := 0) (ci := 4) rfl rfl) hP hD hS hA rfl hl.1 rfl (Nat.le_of_ble_eq_true rfl) ⟨Nat.zero_le _, Nat.zero_le _⟩ dX4_reads_126 (fun H locs hP hD hS => ?_)
                          have hP : va_P G.1 vwCl (modW G a (mrow v 6 (upd (upd (v 6) 0 (nI (sgT (v 3) tl ((y 4) + 1) - 48))) 1 (nI (sgT (v 3) tl ((y 4) + 3) - 48)))) (nup (nup (nup y 4 ((y 4) + 5 + lc (sgT (v 3) tl) ((y 4) + 5) + 1)) 5 (lc (sgT (v 3) tl) ((y 4) + 5))) 6 (wv (sgT (v 3) tl) ((y 4) + 5) (lc (sgT (v 3) tl) ((y 4) + 5))))) H := hP
                          have hD : va_D A (modW G a (mrow v 6 (upd (upd (v 6) 0 (nI (sgT (v 3) tl ((y 4) + 1) - 48))) 1 (nI (sgT (v 3) tl ((y 4) + 3) - 48)))) (nup (nup (nup y 4 ((y 4) + 5 + lc (sgT (v 3) tl) ((y 4) + 5) + 1)) 5 (lc (sgT (v 3) tl) ((y 4) + 5))) 6 (wv (sgT (v 3) tl) ((y 4) + 5) (lc (sgT (v 3) tl) ((y 4) + 5))))) := hD
                          refine z_ifBeq (tgt := 136) hx hb dX4_reads_129 (by decide) (fun c_105 => absurd c_105 (by decide)) (fun c_105 => ?_)
                          refine lv_iconst (v := nI 1) hx hb dX4_reads_132 (by decide) ?_
                          refine lv_goto (tgt := 137) hx hb dX4_reads_133 (by decide) ?_
                          exact z_iretE (mrow v 6 (upd (upd (v 6) 0 (nI (sgT (v 3) tl ((y 4) + 1) - 48))) 1 (nI (sgT (v 3) tl ((y 4) + 3) - 48))), nup (nup (nup y 4 ((y 4) + 5 + lc (sgT (v 3) tl) ((y 4) + 5) + 1)) 5 (lc (sgT (v 3) tl) ((y 4) + 5))) 6 (wv (sgT (v 3) tl) ((y 4) + 5) (lc (sgT (v 3) tl) ((y 4) + 5)))) hx hb hr hlk hP hD hS dX4_reads_137 (by decide) (rdPost_mk ((y 4) + 5 + lc (sgT (v 3) tl) ((y 4) + 5) + 1, some (sgT (v 3) tl ((y 4) + 1) - 48, sgT (v 3) tl ((y 4) + 3) - 48, lc (sgT (v 3) tl) ((y 4) + 5), wv (sgT (v 3) tl) ((y 4) + 5) (lc (sgT (v 3) tl) ((y 4) + 5)))) (fun k hk => if_neg hk) (okDg_01 (by omega) (by omega)) (fun k h4 h5 h6 => by simp [nup, h4, h5, h6]) (by rw [prs, if_neg (by omega), if_pos hk61, if_pos hd_95, if_pos hd_97, if_pos hd_99, if_pos hd_101, prL, if_pos hlk0, if_pos hd_104]) rfl rfl (fun d0 d1 k w hz => by cases hz; exact ⟨fun z => absurd z (by omega), fun _ => ⟨rfl, rfl⟩, fun _ => ⟨rfl, rfl⟩⟩))
                        · skip
                          refine z_callVI (As := [.int (nI 59)]) (rest := []) (wr := []) (C := RX4) F (c_X4_passes_f l G a (mrow v 6 (upd (upd (v 6) 0 (nI (sgT (v 3) tl ((y 4) + 1) - 48))) 1 (nI (sgT (v 3) tl ((y 4) + 3) - 48)))) (nup (nup (nup y 4 ((y 4) + 5 + lc (sgT (v 3) tl) ((y 4) + 5))) 5 (lc (sgT (v 3) tl) ((y 4) + 5))) 6 (wv (sgT (v 3) tl) ((y 4) + 5) (lc (sgT (v 3) tl) ((y 4) + 5)))) (59) (by omega) (show (y 4) + 5 + lc (sgT (v 3) tl) ((y 4) + 5) < 2 ^ 20 by omega) tl (by exact hL) hL6 (by exact hT) hd_104) (cwV 1 hts gX4_reads_X4_passes rfl rfl rfl (by decide +kernel) ⟨Nat.le_of_ble_eq_true rfl, Nat.le_of_ble_eq_true rfl⟩) hKK (z_recv hKK hP (q0 := 0) (ci := 4) rfl rfl) hP hD hS hA rfl hl.1 rfl (Nat.le_of_ble_eq_true rfl) ⟨Nat.zero_le _, Nat.zero_le _⟩ dX4_reads_126 (fun H locs hP hD hS => ?_)
                          have hP : va_P G.1 vwCl (modW G a (mrow v 6 (upd (upd (v 6) 0 (nI (sgT (v 3) tl ((y 4) + 1) - 48))) 1 (nI (sgT (v 3) tl ((y 4) + 3) - 48)))) (nup (nup (nup y 4 ((y 4) + 5 + lc (sgT (v 3) tl) ((y 4) + 5))) 5 (lc (sgT (v 3) tl) ((y 4) + 5))) 6 (wv (sgT (v 3) tl) ((y 4) + 5) (lc (sgT (v 3) tl) ((y 4) + 5))))) H := hP
                          have hD : va_D A (modW G a (mrow v 6 (upd (upd (v 6) 0 (nI (sgT (v 3) tl ((y 4) + 1) - 48))) 1 (nI (sgT (v 3) tl ((y 4) + 3) - 48)))) (nup (nup (nup y 4 ((y 4) + 5 + lc (sgT (v 3) tl) ((y 4) + 5))) 5 (lc (sgT (v 3) tl) ((y 4) + 5))) 6 (wv (sgT (v 3) tl) ((y 4) + 5) (lc (sgT (v 3) tl) ((y 4) + 5))))) := hD
                          refine z_ifBeq (tgt := 136) hx hb dX4_reads_129 (by decide) (fun c_106 => ?_) (fun c_106 => absurd c_106 (by decide))
                          refine lv_iconst (v := nI 0) hx hb dX4_reads_136 (by decide) ?_
                          exact z_iretE (mrow v 6 (upd (upd (v 6) 0 (nI (sgT (v 3) tl ((y 4) + 1) - 48))) 1 (nI (sgT (v 3) tl ((y 4) + 3) - 48))), nup (nup (nup y 4 ((y 4) + 5 + lc (sgT (v 3) tl) ((y 4) + 5))) 5 (lc (sgT (v 3) tl) ((y 4) + 5))) 6 (wv (sgT (v 3) tl) ((y 4) + 5) (lc (sgT (v 3) tl) ((y 4) + 5)))) hx hb hr hlk hP hD hS dX4_reads_137 (by decide) (rdPost_mk ((y 4) + 5 + lc (sgT (v 3) tl) ((y 4) + 5), none) (fun k hk => if_neg hk) (okDg_01 (by omega) (by omega)) (fun k h4 h5 h6 => by simp [nup, h4, h5, h6]) (by rw [prs, if_neg (by omega), if_pos hk61, if_pos hd_95, if_pos hd_97, if_pos hd_99, if_pos hd_101, prL, if_pos hlk0, if_neg hd_104]) rfl rfl (fun d0 d1 k w hz => by cases hz))
                    · skip
                      refine z_callVI (As := [.int (nI 44)]) (rest := []) (wr := []) (C := RX4) F (c_X4_passes_f l G a (mrow v 6 (upd (upd (v 6) 0 (nI (sgT (v 3) tl ((y 4) + 1) - 48))) 1 (nI (sgT (v 3) tl ((y 4) + 3) - 48)))) (nup y 4 ((y 4) + 4)) (44) (by omega) (show (y 4) + 4 < 2 ^ 20 by omega) tl (by exact hL) hL6 (by exact hT) hd_101) (cwV 1 hts gX4_reads_X4_passes rfl rfl rfl (by decide +kernel) ⟨Nat.le_of_ble_eq_true rfl, Nat.le_of_ble_eq_true rfl⟩) hKK (z_recv hKK hP (q0 := 0) (ci := 4) rfl rfl) hP hD hS hA rfl hl.1 rfl (Nat.le_of_ble_eq_true rfl) ⟨Nat.zero_le _, Nat.zero_le _⟩ dX4_reads_108 (fun H locs hP hD hS => ?_)
                      have hP : va_P G.1 vwCl (modW G a (mrow v 6 (upd (upd (v 6) 0 (nI (sgT (v 3) tl ((y 4) + 1) - 48))) 1 (nI (sgT (v 3) tl ((y 4) + 3) - 48)))) (nup y 4 ((y 4) + 4))) H := hP
                      have hD : va_D A (modW G a (mrow v 6 (upd (upd (v 6) 0 (nI (sgT (v 3) tl ((y 4) + 1) - 48))) 1 (nI (sgT (v 3) tl ((y 4) + 3) - 48)))) (nup y 4 ((y 4) + 4))) := hD
                      refine z_ifBne (tgt := 116) hx hb dX4_reads_111 (by decide) (fun c_107 => absurd c_107 (by decide)) (fun c_107 => ?_)
                      refine lv_iconst (v := nI 0) hx hb dX4_reads_114 (by decide) ?_
                      exact z_iretE (mrow v 6 (upd (upd (v 6) 0 (nI (sgT (v 3) tl ((y 4) + 1) - 48))) 1 (nI (sgT (v 3) tl ((y 4) + 3) - 48))), nup y 4 ((y 4) + 4)) hx hb hr hlk hP hD hS dX4_reads_115 (by decide) (rdPost_mk ((y 4) + 4, none) (fun k hk => if_neg hk) (okDg_01 (by omega) (by omega)) (fun k h4 h5 h6 => by simp [nup, h4, h5, h6]) (by rw [prs, if_neg (by omega), if_pos hk61, if_pos hd_95, if_pos hd_97, if_pos hd_99, if_neg hd_101]) rfl rfl (fun d0 d1 k w hz => by cases hz))
                  · skip
                    refine z_callVI (As := [.int (nI 1)]) (rest := []) (wr := []) (C := RX4) F (c_X4_digit_f l G a (mrow v 6 (upd (v 6) 0 (nI (sgT (v 3) tl ((y 4) + 1) - 48)))) (nup y 4 ((y 4) + 3)) (1) (by omega) (show (y 4) + 3 < 2 ^ 20 by omega) tl (by exact hL) hL6 (by exact hT) hd_99) (cwV 1 hts gX4_reads_X4_digit rfl rfl rfl (by decide +kernel) ⟨Nat.le_of_ble_eq_true rfl, Nat.le_of_ble_eq_true rfl⟩) hKK (z_recv hKK hP (q0 := 0) (ci := 4) rfl rfl) hP hD hS hA rfl hl.1 rfl (Nat.le_of_ble_eq_true rfl) ⟨Nat.zero_le _, Nat.zero_le _⟩ dX4_reads_99 (fun H locs hP hD hS => ?_)
                    have hP : va_P G.1 vwCl (modW G a (mrow v 6 (upd (upd (v 6) 0 (nI (sgT (v 3) tl ((y 4) + 1) - 48))) 1 (nI 0))) (nup y 4 ((y 4) + 3))) H := hP
                    have hD : va_D A (modW G a (mrow v 6 (upd (upd (v 6) 0 (nI (sgT (v 3) tl ((y 4) + 1) - 48))) 1 (nI 0))) (nup y 4 ((y 4) + 3))) := hD
                    refine z_ifBeq (tgt := 114) hx hb dX4_reads_102 (by decide) (fun c_108 => ?_) (fun c_108 => absurd c_108 (by decide))
                    refine lv_iconst (v := nI 0) hx hb dX4_reads_114 (by decide) ?_
                    exact z_iretE (mrow v 6 (upd (upd (v 6) 0 (nI (sgT (v 3) tl ((y 4) + 1) - 48))) 1 (nI 0)), nup y 4 ((y 4) + 3)) hx hb hr hlk hP hD hS dX4_reads_115 (by decide) (rdPost_mk ((y 4) + 3, none) (fun k hk => if_neg hk) (okDg_01 (by omega) (by omega)) (fun k h4 h5 h6 => by simp [nup, h4, h5, h6]) (by rw [prs, if_neg (by omega), if_pos hk61, if_pos hd_95, if_pos hd_97, if_neg (by rw [hd_99]; decide)]) rfl rfl (fun d0 d1 k w hz => by cases hz))
                · skip
                  refine z_callVI (As := [.int (nI 44)]) (rest := []) (wr := []) (C := RX4) F (c_X4_passes_f l G a (mrow v 6 (upd (v 6) 0 (nI (sgT (v 3) tl ((y 4) + 1) - 48)))) (nup y 4 ((y 4) + 2)) (44) (by omega) (show (y 4) + 2 < 2 ^ 20 by omega) tl (by exact hL) hL6 (by exact hT) hd_97) (cwV 1 hts gX4_reads_X4_passes rfl rfl rfl (by decide +kernel) ⟨Nat.le_of_ble_eq_true rfl, Nat.le_of_ble_eq_true rfl⟩) hKK (z_recv hKK hP (q0 := 0) (ci := 4) rfl rfl) hP hD hS hA rfl hl.1 rfl (Nat.le_of_ble_eq_true rfl) ⟨Nat.zero_le _, Nat.zero_le _⟩ dX4_reads_91 (fun H locs hP hD hS => ?_)
                  have hP : va_P G.1 vwCl (modW G a (mrow v 6 (upd (v 6) 0 (nI (sgT (v 3) tl ((y 4) + 1) - 48)))) (nup y 4 ((y 4) + 2))) H := hP
                  have hD : va_D A (modW G a (mrow v 6 (upd (v 6) 0 (nI (sgT (v 3) tl ((y 4) + 1) - 48)))) (nup y 4 ((y 4) + 2))) := hD
                  refine z_ifBeq (tgt := 114) hx hb dX4_reads_94 (by decide) (fun c_109 => ?_) (fun c_109 => absurd c_109 (by decide))
                  refine lv_iconst (v := nI 0) hx hb dX4_reads_114 (by decide) ?_
                  exact z_iretE (mrow v 6 (upd (v 6) 0 (nI (sgT (v 3) tl ((y 4) + 1) - 48))), nup y 4 ((y 4) + 2)) hx hb hr hlk hP hD hS dX4_reads_115 (by decide) (rdPost_mk ((y 4) + 2, none) (fun k hk => if_neg hk) (okDg_0 hdg (by omega)) (fun k h4 h5 h6 => by simp [nup, h4, h5, h6]) (by rw [prs, if_neg (by omega), if_pos hk61, if_pos hd_95, if_neg hd_97]) rfl rfl (fun d0 d1 k w hz => by cases hz))
              · skip
                refine z_callVI (As := [.int (nI 0)]) (rest := []) (wr := []) (C := RX4) F (c_X4_digit_f l G a v (nup y 4 ((y 4) + 1)) (0) (by omega) (show (y 4) + 1 < 2 ^ 20 by omega) tl (by exact hL) hL6 (by exact hT) hd_95) (cwV 1 hts gX4_reads_X4_digit rfl rfl rfl (by decide +kernel) ⟨Nat.le_of_ble_eq_true rfl, Nat.le_of_ble_eq_true rfl⟩) hKK (z_recv hKK hP (q0 := 0) (ci := 4) rfl rfl) hP hD hS hA rfl hl.1 rfl (Nat.le_of_ble_eq_true rfl) ⟨Nat.zero_le _, Nat.zero_le _⟩ dX4_reads_82 (fun H locs hP hD hS => ?_)
                have hP : va_P G.1 vwCl (modW G a (mrow v 6 (upd (v 6) 0 (nI 0))) (nup y 4 ((y 4) + 1))) H := hP
                have hD : va_D A (modW G a (mrow v 6 (upd (v 6) 0 (nI 0))) (nup y 4 ((y 4) + 1))) := hD
                refine z_ifBeq (tgt := 114) hx hb dX4_reads_85 (by decide) (fun c_110 => ?_) (fun c_110 => absurd c_110 (by decide))
                refine lv_iconst (v := nI 0) hx hb dX4_reads_114 (by decide) ?_
                exact z_iretE (mrow v 6 (upd (v 6) 0 (nI 0)), nup y 4 ((y 4) + 1)) hx hb hr hlk hP hD hS dX4_reads_115 (by decide) (rdPost_mk ((y 4) + 1, none) (fun k hk => if_neg hk) (okDg_0 hdg (by omega)) (fun k h4 h5 h6 => by simp [nup, h4, h5, h6]) (by rw [prs, if_neg (by omega), if_pos hk61, if_neg (by rw [hd_95]; decide)]) rfl rfl (fun d0 d1 k w hz => by cases hz))
          · skip
            have hk33 := c_89
            refine lv_aload_n hx hb dX4_reads_51 rfl (lv_at hl 1 rfl) ?_
            refine lv_iconst (v := nI 0) hx hb dX4_reads_52 (by decide) ?_
            rcases z_b (dgB (sgT (v 3) tl ((y 4) + 1))) with hd_111 | hd_111
            · have hg_111 := dgB_t hd_111
              refine z_callVI (As := [.int (nI 0)]) (rest := []) (wr := []) (C := RX4) F (c_X4_digit_t l G a v (nup y 4 ((y 4) + 1)) (0) (by omega) (show (y 4) + 1 < 2 ^ 20 by omega) tl (by exact hL) hL6 (by exact hT) hd_111) (cwV 1 hts gX4_reads_X4_digit rfl rfl rfl (by decide +kernel) ⟨Nat.le_of_ble_eq_true rfl, Nat.le_of_ble_eq_true rfl⟩) hKK (z_recv hKK hP (q0 := 0) (ci := 4) rfl rfl) hP hD hS hA rfl hl.1 rfl (Nat.le_of_ble_eq_true rfl) ⟨Nat.zero_le _, Nat.zero_le _⟩ dX4_reads_53 (fun H locs hP hD hS => ?_)
              have hP : va_P G.1 vwCl (modW G a (mrow v 6 (upd (v 6) 0 (nI (sgT (v 3) tl ((y 4) + 1) - 48)))) (nup y 4 ((y 4) + 2))) H := hP
              have hD : va_D A (modW G a (mrow v 6 (upd (v 6) 0 (nI (sgT (v 3) tl ((y 4) + 1) - 48)))) (nup y 4 ((y 4) + 2))) := hD
              refine z_ifBeq (tgt := 72) hx hb dX4_reads_56 (by decide) (fun c_112 => absurd c_112 (by decide)) (fun c_112 => ?_)
              refine lv_aload_n hx hb dX4_reads_59 rfl (lv_at hl 1 rfl) ?_
              refine lv_bipush (v := nI 59) hx hb dX4_reads_60 (by decide) ?_
              rcases Classical.em (sgT (v 3) tl ((y 4) + 2) = 59) with hd_113 | hd_113
              · skip
                refine z_callVI (As := [.int (nI 59)]) (rest := []) (wr := []) (C := RX4) F (c_X4_passes_t l G a (mrow v 6 (upd (v 6) 0 (nI (sgT (v 3) tl ((y 4) + 1) - 48)))) (nup y 4 ((y 4) + 2)) (59) (by omega) (show (y 4) + 2 < 2 ^ 20 by omega) tl (by exact hL) hL6 (by exact hT) hd_113) (cwV 1 hts gX4_reads_X4_passes rfl rfl rfl (by decide +kernel) ⟨Nat.le_of_ble_eq_true rfl, Nat.le_of_ble_eq_true rfl⟩) hKK (z_recv hKK hP (q0 := 0) (ci := 4) rfl rfl) hP hD hS hA rfl hl.1 rfl (Nat.le_of_ble_eq_true rfl) ⟨Nat.zero_le _, Nat.zero_le _⟩ dX4_reads_62 (fun H locs hP hD hS => ?_)
                have hP : va_P G.1 vwCl (modW G a (mrow v 6 (upd (v 6) 0 (nI (sgT (v 3) tl ((y 4) + 1) - 48)))) (nup y 4 ((y 4) + 3))) H := hP
                have hD : va_D A (modW G a (mrow v 6 (upd (v 6) 0 (nI (sgT (v 3) tl ((y 4) + 1) - 48)))) (nup y 4 ((y 4) + 3))) := hD
                refine z_ifBeq (tgt := 72) hx hb dX4_reads_65 (by decide) (fun c_114 => absurd c_114 (by decide)) (fun c_114 => ?_)
                refine lv_iconst (v := nI 1) hx hb dX4_reads_68 (by decide) ?_
                refine lv_goto (tgt := 73) hx hb dX4_reads_69 (by decide) ?_
                exact z_iretE (mrow v 6 (upd (v 6) 0 (nI (sgT (v 3) tl ((y 4) + 1) - 48))), nup y 4 ((y 4) + 3)) hx hb hr hlk hP hD hS dX4_reads_73 (by decide) (rdPost_mk ((y 4) + 3, some (sgT (v 3) tl ((y 4) + 1) - 48, 0, 0, 0)) (fun k hk => if_neg hk) (okDg_0 hdg (by omega)) (fun k h4 h5 h6 => by simp [nup, h4, h5, h6]) (by rw [prs, if_pos hk33, if_pos hd_111, if_pos hd_113]) rfl rfl (fun d0 d1 k w hz => by cases hz; exact ⟨fun _ => rfl, fun z => absurd z (by omega), fun z => absurd hk33 z⟩))
              · skip
                refine z_callVI (As := [.int (nI 59)]) (rest := []) (wr := []) (C := RX4) F (c_X4_passes_f l G a (mrow v 6 (upd (v 6) 0 (nI (sgT (v 3) tl ((y 4) + 1) - 48)))) (nup y 4 ((y 4) + 2)) (59) (by omega) (show (y 4) + 2 < 2 ^ 20 by omega) tl (by exact hL) hL6 (by exact hT) hd_113) (cwV 1 hts gX4_reads_X4_passes rfl rfl rfl (by decide +kernel) ⟨Nat.le_of_ble_eq_true rfl, Nat.le_of_ble_eq_true rfl⟩) hKK (z_recv hKK hP (q0 := 0) (ci := 4) rfl rfl) hP hD hS hA rfl hl.1 rfl (Nat.le_of_ble_eq_true rfl) ⟨Nat.zero_le _, Nat.zero_le _⟩ dX4_reads_62 (fun H locs hP hD hS => ?_)
                have hP : va_P G.1 vwCl (modW G a (mrow v 6 (upd (v 6) 0 (nI (sgT (v 3) tl ((y 4) + 1) - 48)))) (nup y 4 ((y 4) + 2))) H := hP
                have hD : va_D A (modW G a (mrow v 6 (upd (v 6) 0 (nI (sgT (v 3) tl ((y 4) + 1) - 48)))) (nup y 4 ((y 4) + 2))) := hD
                refine z_ifBeq (tgt := 72) hx hb dX4_reads_65 (by decide) (fun c_115 => ?_) (fun c_115 => absurd c_115 (by decide))
                refine lv_iconst (v := nI 0) hx hb dX4_reads_72 (by decide) ?_
                exact z_iretE (mrow v 6 (upd (v 6) 0 (nI (sgT (v 3) tl ((y 4) + 1) - 48))), nup y 4 ((y 4) + 2)) hx hb hr hlk hP hD hS dX4_reads_73 (by decide) (rdPost_mk ((y 4) + 2, none) (fun k hk => if_neg hk) (okDg_0 hdg (by omega)) (fun k h4 h5 h6 => by simp [nup, h4, h5, h6]) (by rw [prs, if_pos hk33, if_pos hd_111, if_neg hd_113]) rfl rfl (fun d0 d1 k w hz => by cases hz))
            · skip
              refine z_callVI (As := [.int (nI 0)]) (rest := []) (wr := []) (C := RX4) F (c_X4_digit_f l G a v (nup y 4 ((y 4) + 1)) (0) (by omega) (show (y 4) + 1 < 2 ^ 20 by omega) tl (by exact hL) hL6 (by exact hT) hd_111) (cwV 1 hts gX4_reads_X4_digit rfl rfl rfl (by decide +kernel) ⟨Nat.le_of_ble_eq_true rfl, Nat.le_of_ble_eq_true rfl⟩) hKK (z_recv hKK hP (q0 := 0) (ci := 4) rfl rfl) hP hD hS hA rfl hl.1 rfl (Nat.le_of_ble_eq_true rfl) ⟨Nat.zero_le _, Nat.zero_le _⟩ dX4_reads_53 (fun H locs hP hD hS => ?_)
              have hP : va_P G.1 vwCl (modW G a (mrow v 6 (upd (v 6) 0 (nI 0))) (nup y 4 ((y 4) + 1))) H := hP
              have hD : va_D A (modW G a (mrow v 6 (upd (v 6) 0 (nI 0))) (nup y 4 ((y 4) + 1))) := hD
              refine z_ifBeq (tgt := 72) hx hb dX4_reads_56 (by decide) (fun c_116 => ?_) (fun c_116 => absurd c_116 (by decide))
              refine lv_iconst (v := nI 0) hx hb dX4_reads_72 (by decide) ?_
              exact z_iretE (mrow v 6 (upd (v 6) 0 (nI 0)), nup y 4 ((y 4) + 1)) hx hb hr hlk hP hD hS dX4_reads_73 (by decide) (rdPost_mk ((y 4) + 1, none) (fun k hk => if_neg hk) (okDg_0 hdg (by omega)) (fun k h4 h5 h6 => by simp [nup, h4, h5, h6]) (by rw [prs, if_pos hk33, if_neg (by rw [hd_111]; decide)]) rfl rfl (fun d0 d1 k w hz => by cases hz))
        · skip
          refine lv_iconst (v := nI 0) hx hb dX4_reads_33 (by decide) ?_
          exact z_iretE (v, y) hx hb hr hlk hP hD hS dX4_reads_34 (by decide) (rdPost_mk (y 4, none) (fun k hk => rfl) hdg (fun k h4 h5 h6 => by simp [nup, h4, h5, h6]) (by rw [prs, if_neg (by omega), if_neg (by omega), if_neg (by omega)]) rfl rfl (fun d0 d1 k w hz => by cases hz))
