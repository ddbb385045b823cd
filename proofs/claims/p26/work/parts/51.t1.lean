set_option maxHeartbeats 4000000 in
set_option maxRecDepth 100000 in
theorem c_X2_signAt (l : Launch) (G : ZG) (b : Nat → Nat) (t : Mem) (L : Nat → Nat) (k : Nat) (hk : k < 2 ^ 31) (tl : Nat) (hL : L 0 = tl) (hL6 : tl ≤ 60) (hT : okTx (t 0)) : CI l G yX2_signAt wsX2_signAt (zRm 1 21) [.ref (b 0), .int (nI k)] (textW G b t L) (nI (sgT (t 0) tl k)) (textW G b t L) := by
  refine CI.ent (cc := cX2_signAt) (maxL := 2) (ty := .char) (own := RX2) (by decide) rfl rfl (Nat.le_of_ble_eq_true rfl) ?_
  intro p ee s m args below meth c A ls F hr hlk hKK hP hD hA hS hl
  obtain ⟨hx, hb, hml, hown, hts⟩ := id F
  have hl : lv_has ls 2 [(0, .ref (b 0)), (1, .int (nI k))] := hl
  have fl_9 := hts (.fieldLink RX2 9 "NameRolls$Text" "signs" "[C") (by decide +kernel)
  have fl_15 := hts (.fieldLink RX2 15 "NameRolls$Text" "length" "I") (by decide +kernel)
  have hinX2 : ∀ w ∈ wsX20, w ∈ wsX2_signAt := by decide +kernel
  have st_X3_isBelow := hts (.static yX3_isBelow) (by decide +kernel)
  have ini_X3 := hts (.initialized RX3) (by decide +kernel)
  refine lv_iload_n hx hb dX2_signAt_0 rfl (lv_at hl 1 rfl) ?_
  refine lv_bipush (v := nI 60) hx hb dX2_signAt_1 (by decide) ?_
  refine z_callNI (As := [.int (nI k), .int (nI 60)]) (rest := []) F (c_X3_isBelow_N l G (k) (60) (by omega) (by omega)) ⟨va_cnB 2 hts gX2_signAt_X3_isBelow_n19 rfl rfl rfl hKK.2.2.1 ini_X3 (by decide +kernel) ⟨Nat.le_of_ble_eq_true rfl, Nat.le_of_ble_eq_true rfl⟩, st_X3_isBelow, trivial⟩ hKK hP hD hS hA rfl hl.1 rfl (Nat.le_of_ble_eq_true rfl) ⟨Nat.zero_le _, Nat.zero_le _⟩ dX2_signAt_3 (fun H locs hP hD hS => ?_)
  refine z_ifBeq (tgt := 26) hx hb dX2_signAt_6 (by decide) (fun c_1 => ?_) (fun c_1 => ?_)
  · skip
    have hk60 : ¬ k < 60 := of_decide_eq_false c_1
    refine lv_iconst (v := nI 0) hx hb dX2_signAt_26 (by decide) ?_
    exact z_zret hx hb hr hlk hP hD hS dX2_signAt_27 (pk_charN (by decide)).1 (by rw [sgT_hi (by omega)]) rfl
  · skip
    have hk60 : k < 60 := of_decide_eq_true c_1
    refine lv_iload_n hx hb dX2_signAt_9 rfl (lv_at hl 1 rfl) ?_
    refine lv_aload_n hx hb dX2_signAt_10 rfl (lv_at hl 0 rfl) ?_
    refine va_get (D := G.1) (ci := 2) (v := .int (nI (L 0))) (C := RX2) (T := TX2) (N := 2) hx hb hts hinX2 hown hKK.1 hP 0 rfl rfl 1 (by decide) fl_15 (fun _ h9 => h9) rfl dX2_signAt_11 ?_
    refine z_top (v := nI tl) (by rw [hL]) ?_
    refine z_ge (tgt := 26) hx hb dX2_signAt_14 (by decide) (by omega) (by omega) (fun c_2 => ?_) (fun c_2 => ?_)
    · skip
      refine lv_iconst (v := nI 0) hx hb dX2_signAt_26 (by decide) ?_
      exact z_zret hx hb hr hlk hP hD hS dX2_signAt_27 (pk_charN (by decide)).1 (by rw [sgT_hi (by omega)]) rfl
    · skip
      refine lv_aload_n hx hb dX2_signAt_17 rfl (lv_at hl 0 rfl) ?_
      refine va_get (D := G.1) (ci := 2) (v := .ref (b 1)) (C := RX2) (T := TX2) (N := 2) hx hb hts hinX2 hown hKK.1 hP 0 rfl rfl 0 (by decide) fl_9 (fun _ h9 => h9) rfl dX2_signAt_18 ?_
      refine lv_iload_n hx hb dX2_signAt_21 rfl (lv_at hl 1 rfl) ?_
      refine z_cald (n := 60) (f := t 0) (v := t 0 k) hx hb hKK hP 1 rfl (by omega) (by decide) rfl dX2_signAt_22 ?_
      refine z_top (v := nI ((t 0 k).toNatClampNeg)) (hT k (by omega)).1 ?_
      refine lv_goto (tgt := 27) hx hb dX2_signAt_23 (by decide) ?_
      exact z_zret hx hb hr hlk hP hD hS dX2_signAt_27 (pk_charN (hT k (by omega)).2).1 (by rw [sgT_lo (by omega)]) rfl

set_option maxHeartbeats 4000000 in
set_option maxRecDepth 100000 in
theorem c_X2_append (l : Launch) (G : ZG) (b : Nat → Nat) (t : Mem) (L : Nat → Nat) (ch tl : Nat) (hch : ch < 65536) (hL : L 0 = tl) (hL6 : tl < 60) : CI l G yX2_append wsX2_append (zRm 1 21) [.ref (b 0), .int (nI ch)] (textW G b t L) (nI (tl + 1)) (textW G b (mrow t 0 (upd (t 0) tl (nI ch))) (nup L 0 (tl + 1))) := by
  refine CI.ent (cc := cX2_append) (maxL := 2) (ty := .int) (own := RX2) (by decide) rfl rfl (Nat.le_of_ble_eq_true rfl) ?_
  intro p ee s m args below meth c A ls F hr hlk hKK hP hD hA hS hl
  obtain ⟨hx, hb, hml, hown, hts⟩ := id F
  have hl : lv_has ls 2 [(0, .ref (b 0)), (1, .int (nI ch))] := hl
  have fl_9 := hts (.fieldLink RX2 9 "NameRolls$Text" "signs" "[C") (by decide +kernel)
  have fl_15 := hts (.fieldLink RX2 15 "NameRolls$Text" "length" "I") (by decide +kernel)
  have hinX2 : ∀ w ∈ wsX20, w ∈ wsX2_append := by decide +kernel
  have st_X3_isBelow := hts (.static yX3_isBelow) (by decide +kernel)
  have ini_X3 := hts (.initialized RX3) (by decide +kernel)
  refine lv_aload_n hx hb dX2_append_0 rfl (lv_at hl 0 rfl) ?_
  refine va_get (D := G.1) (ci := 2) (v := .int (nI (L 0))) (C := RX2) (T := TX2) (N := 2) hx hb hts hinX2 hown hKK.1 hP 0 rfl rfl 1 (by decide) fl_15 (fun _ h9 => h9) rfl dX2_append_1 ?_
  refine z_top (v := nI tl) (by rw [hL]) ?_
  refine lv_bipush (v := nI 60) hx hb dX2_append_4 (by decide) ?_
  refine z_callNI (As := [.int (nI tl), .int (nI 60)]) (rest := []) F (c_X3_isBelow_N l G (tl) (60) (by omega) (by omega)) ⟨va_cnB 2 hts gX2_append_X3_isBelow_n19 rfl rfl rfl hKK.2.2.1 ini_X3 (by decide +kernel) ⟨Nat.le_of_ble_eq_true rfl, Nat.le_of_ble_eq_true rfl⟩, st_X3_isBelow, trivial⟩ hKK hP hD hS hA rfl hl.1 rfl (Nat.le_of_ble_eq_true rfl) ⟨Nat.zero_le _, Nat.zero_le _⟩ dX2_append_6 (fun H locs hP hD hS => ?_)
  refine z_ifBeq (tgt := 32) hx hb dX2_append_9 (by decide) (fun c_1 => absurd (of_decide_eq_false c_1) (fun z => z hL6)) (fun c_1 => ?_)
  refine lv_aload_n hx hb dX2_append_12 rfl (lv_at hl 0 rfl) ?_
  refine va_get (D := G.1) (ci := 2) (v := .ref (b 1)) (C := RX2) (T := TX2) (N := 2) hx hb hts hinX2 hown hKK.1 hP 0 rfl rfl 0 (by decide) fl_9 (fun _ h9 => h9) rfl dX2_append_13 ?_
  refine lv_aload_n hx hb dX2_append_16 rfl (lv_at hl 0 rfl) ?_
  refine va_get (D := G.1) (ci := 2) (v := .int (nI (L 0))) (C := RX2) (T := TX2) (N := 2) hx hb hts hinX2 hown hKK.1 hP 0 rfl rfl 1 (by decide) fl_15 (fun _ h9 => h9) rfl dX2_append_17 ?_
  refine z_top (v := nI tl) (by rw [hL]) ?_
  refine lv_iload_n hx hb dX2_append_20 rfl (lv_at hl 1 rfl) ?_
  refine z_cast (n := 60) (f := t 0) (w2 := textW G b (mrow t 0 (upd (t 0) tl (nI ch))) L) hx hb hKK hP hD hS 1 rfl (by omega) (by decide) (z_narc hch) rfl dX2_append_21 (fun H locs hP hD hS => ?_)
  refine lv_aload_n hx hb dX2_append_22 rfl (lv_at hl 0 rfl) ?_
  refine lv_dup hx hb dX2_append_23 rfl ?_
  refine va_get (D := G.1) (ci := 2) (v := .int (nI (L 0))) (C := RX2) (T := TX2) (N := 2) hx hb hts hinX2 hown hKK.1 hP 0 rfl rfl 1 (by decide) fl_15 (fun _ h9 => h9) rfl dX2_append_24 ?_
  refine z_top (v := nI tl) (by rw [hL]) ?_
  refine lv_iconst (v := nI 1) hx hb dX2_append_27 (by decide) ?_
  refine z_add (v := nI (tl + 1)) hx hb dX2_append_28 (nI_add _ _) ?_
  refine z_put (w2 := textW G b (mrow t 0 (upd (t 0) tl (nI ch))) (nup L 0 (tl + 1))) hx hb hts hinX2 tyX2 tyX2_ok nmX2 hown hKK hP hD hS 0 (ci := 2) (C := RX2) (T := TX2) (N := 2) rfl rfl 1 (by decide) fl_15 rfl rfl rfl (Nat.le_of_ble_eq_true rfl) rfl dX2_append_29 (fun H locs hP hD hS => ?_)
  refine lv_aload_n hx hb dX2_append_32 rfl (lv_at hl 0 rfl) ?_
  refine va_get (D := G.1) (ci := 2) (v := .int (nI (tl + 1))) (C := RX2) (T := TX2) (N := 2) hx hb hts hinX2 hown hKK.1 hP 0 rfl rfl 1 (by decide) fl_15 (fun _ h9 => h9) rfl dX2_append_33 ?_
  exact z_iret hx hb hr hlk hP hD hS dX2_append_36 rfl rfl

set_option maxHeartbeats 4000000 in
set_option maxRecDepth 100000 in
theorem c_X0_fail_z (l : Launch) (G : ZG) (q d : Nat) (P : Nat → Nat) (c1 c2 : Nat) (h1 : P 1 = 0) : CV l G yX0_fail wsX0_fail (zRm 0 0) [.ref q, .int (nI c1), .int (nI c2)] (playW G q d P) (playW G q d (nup (nup P 1 c1) 2 c2)) := by
  refine CV.ent (cc := cX0_fail) (maxL := 3) (own := RX0) (by decide) rfl rfl (Nat.le_of_ble_eq_true rfl) ?_
  intro p ee s m args below meth c A ls F hr hlk hKK hP hD hA hS hl
  obtain ⟨hx, hb, hml, hown, hts⟩ := id F
  have hl : lv_has ls 3 [(0, .ref q), (1, .int (nI c1)), (2, .int (nI c2))] := hl
  have fl_26 := hts (.fieldLink RX0 26 "NameRolls$Player" "reason" "I") (by decide +kernel)
  have fl_125 := hts (.fieldLink RX0 125 "NameRolls$Player" "cause" "I") (by decide +kernel)
  have hinX0 : ∀ w ∈ wsX00, w ∈ wsX0_fail := by decide +kernel
  refine lv_aload_n hx hb dX0_fail_0 rfl (lv_at hl 0 rfl) ?_
  refine va_get (D := G.1) (ci := 0) (v := .int (nI (P 1))) (C := RX0) (T := TX0) (N := 12) hx hb hts hinX0 hown hKK.1 hP 0 rfl rfl 2 (by decide) fl_26 (fun _ h9 => h9) rfl dX0_fail_1 ?_
  refine z_ifNne (tgt := 17) hx hb dX0_fail_4 (by decide) (by omega) (fun c_1 => absurd h1 c_1) (fun c_1 => ?_)
  refine lv_aload_n hx hb dX0_fail_7 rfl (lv_at hl 0 rfl) ?_
  refine lv_iload_n hx hb dX0_fail_8 rfl (lv_at hl 1 rfl) ?_
  refine z_put (w2 := playW G q d (nup P 1 c1)) hx hb hts hinX0 tyX0 tyX0_ok nmX0 hown hKK hP hD hS 0 (ci := 0) (C := RX0) (T := TX0) (N := 12) rfl rfl 2 (by decide) fl_26 rfl rfl rfl (Nat.le_of_ble_eq_true rfl) rfl dX0_fail_9 (fun H locs hP hD hS => ?_)
  refine lv_aload_n hx hb dX0_fail_12 rfl (lv_at hl 0 rfl) ?_
  refine lv_iload_n hx hb dX0_fail_13 rfl (lv_at hl 2 rfl) ?_
  refine z_put (w2 := playW G q d (nup (nup P 1 c1) 2 c2)) hx hb hts hinX0 tyX0 tyX0_ok nmX0 hown hKK hP hD hS 0 (ci := 0) (C := RX0) (T := TX0) (N := 12) rfl rfl 3 (by decide) fl_125 rfl rfl rfl (Nat.le_of_ble_eq_true rfl) rfl dX0_fail_14 (fun H locs hP hD hS => ?_)
  exact z_vret hx hb hr hlk hP hD hS dX0_fail_17 rfl

set_option maxHeartbeats 4000000 in
set_option maxRecDepth 100000 in
theorem c_X0_fail_nz (l : Launch) (G : ZG) (q d : Nat) (P : Nat → Nat) (c1 c2 : Nat) (h1 : ¬ P 1 = 0) (h2 : P 1 ≤ 3) : CV l G yX0_fail wsX0_fail (zRm 0 0) [.ref q, .int (nI c1), .int (nI c2)] (playW G q d P) (playW G q d P) := by
  refine CV.ent (cc := cX0_fail) (maxL := 3) (own := RX0) (by decide) rfl rfl (Nat.le_of_ble_eq_true rfl) ?_
  intro p ee s m args below meth c A ls F hr hlk hKK hP hD hA hS hl
  obtain ⟨hx, hb, hml, hown, hts⟩ := id F
  have hl : lv_has ls 3 [(0, .ref q), (1, .int (nI c1)), (2, .int (nI c2))] := hl
  have fl_26 := hts (.fieldLink RX0 26 "NameRolls$Player" "reason" "I") (by decide +kernel)
  have hinX0 : ∀ w ∈ wsX00, w ∈ wsX0_fail := by decide +kernel
  refine lv_aload_n hx hb dX0_fail_0 rfl (lv_at hl 0 rfl) ?_
  refine va_get (D := G.1) (ci := 0) (v := .int (nI (P 1))) (C := RX0) (T := TX0) (N := 12) hx hb hts hinX0 hown hKK.1 hP 0 rfl rfl 2 (by decide) fl_26 (fun _ h9 => h9) rfl dX0_fail_1 ?_
  refine z_ifNne (tgt := 17) hx hb dX0_fail_4 (by decide) (by omega) (fun c_1 => ?_) (fun c_1 => absurd c_1 h1)
  exact z_vret hx hb hr hlk hP hD hS dX0_fail_17 rfl

set_option maxHeartbeats 4000000 in
set_option maxRecDepth 100000 in
theorem c_X0_readDigit_t (l : Launch) (G : ZG) (q d : Nat) (P : Nat → Nat) (b : Nat → Nat) (t : Mem) (L : Nat → Nat) (hp4 : P 4 ≤ 400) (tl : Nat) (hL : L 0 = tl) (hL6 : tl ≤ 60) (hT : okTx (t 0)) (h : dgB (sgT (t 0) tl (P 4)) = true) : CI l G yX0_readDigit wsX0_readDigit (zRm 2 42) [.ref q, .ref (b 0)] (playW G q d P ++ textW G b t L) (nI (sgT (t 0) tl (P 4) - 48)) (playW G q d (nup P 4 (P 4 + 1)) ++ textW G b t L) := by
  refine CI.ent (cc := cX0_readDigit) (maxL := 3) (ty := .int) (own := RX0) (by decide) rfl rfl (Nat.le_of_ble_eq_true rfl) ?_
  intro p ee s m args below meth c A ls F hr hlk hKK hP hD hA hS hl
  obtain ⟨hx, hb, hml, hown, hts⟩ := id F
  have hl : lv_has ls 3 [(0, .ref q), (1, .ref (b 0))] := hl
  have fl_29 := hts (.fieldLink RX0 29 "NameRolls$Player" "at" "I") (by decide +kernel)
  have hinX0 : ∀ w ∈ wsX00, w ∈ wsX0_readDigit := by decide +kernel
  have h48 := dgB_t h
  refine lv_aload_n hx hb dX0_readDigit_0 rfl (lv_at hl 1 rfl) ?_
  refine lv_aload_n hx hb dX0_readDigit_1 rfl (lv_at hl 0 rfl) ?_
  refine va_get (D := G.1) (ci := 0) (v := .int (nI (P 4))) (C := RX0) (T := TX0) (N := 12) hx hb hts hinX0 hown hKK.1 hP 0 rfl rfl 5 (by decide) fl_29 (fun _ h9 => h9) rfl dX0_readDigit_2 ?_
  refine z_callVI (As := [.int (nI (P 4))]) (rest := []) (wr := (playW G q d P)) (C := RX2) F (c_X2_signAt l G b t L (P 4) (by omega) tl hL hL6 hT) (cwV 1 hts gX0_readDigit_X2_signAt rfl rfl rfl (by decide +kernel) ⟨Nat.le_of_ble_eq_true rfl, Nat.le_of_ble_eq_true rfl⟩) hKK (z_recv hKK hP (q0 := 1) (ci := 2) rfl rfl) hP hD hS hA rfl hl.1 rfl (Nat.le_of_ble_eq_true rfl) ⟨Nat.zero_le _, Nat.zero_le _⟩ dX0_readDigit_5 (fun H locs hP hD hS => ?_)
  have hP : va_P G.1 vwCl (playW G q d P ++ textW G b t L) H := hP
  have hD : va_D A (playW G q d P ++ textW G b t L) := hD
  refine lv_istore_n (lv' := [(2, .int (nI (sgT (t 0) tl (P 4)))), (0, .ref q), (1, .ref (b 0))]) hx hb dX0_readDigit_8 rfl hl (by decide) rfl (fun ls hl => ?_)
  refine lv_iload_n hx hb dX0_readDigit_9 rfl (lv_at hl 0 rfl) ?_
  refine lv_bipush (v := nI 48) hx hb dX0_readDigit_10 (by decide) ?_
  refine z_lt (tgt := 21) hx hb dX0_readDigit_12 (by decide) (Nat.lt_trans (sgT_lt hT hL6 _) (by decide)) (by omega) (fun c_1 => absurd c_1 (by omega)) (fun c_1 => ?_)
  refine lv_iload_n hx hb dX0_readDigit_15 rfl (lv_at hl 0 rfl) ?_
  refine lv_bipush (v := nI 57) hx hb dX0_readDigit_16 (by decide) ?_
  refine z_le (tgt := 37) hx hb dX0_readDigit_18 (by decide) (Nat.lt_trans (sgT_lt hT hL6 _) (by decide)) (by omega) (fun c_2 => ?_) (fun c_2 => absurd c_2 (by omega))
  refine lv_aload_n hx hb dX0_readDigit_37 rfl (lv_at hl 1 rfl) ?_
  refine lv_dup hx hb dX0_readDigit_38 rfl ?_
  refine va_get (D := G.1) (ci := 0) (v := .int (nI (P 4))) (C := RX0) (T := TX0) (N := 12) hx hb hts hinX0 hown hKK.1 hP 0 rfl rfl 5 (by decide) fl_29 (fun _ h9 => h9) rfl dX0_readDigit_39 ?_
  refine lv_iconst (v := nI 1) hx hb dX0_readDigit_42 (by decide) ?_
  refine z_add (v := nI ((P 4) + 1)) hx hb dX0_readDigit_43 (nI_add _ _) ?_
  refine z_put (w2 := playW G q d (nup P 4 ((P 4) + 1)) ++ textW G b t L) hx hb hts hinX0 tyX0 tyX0_ok nmX0 hown hKK hP hD hS 0 (ci := 0) (C := RX0) (T := TX0) (N := 12) rfl rfl 5 (by decide) fl_29 rfl rfl rfl (Nat.le_of_ble_eq_true rfl) rfl dX0_readDigit_44 (fun H locs hP hD hS => ?_)
  refine lv_iload_n hx hb dX0_readDigit_47 rfl (lv_at hl 0 rfl) ?_
  refine lv_bipush (v := nI 48) hx hb dX0_readDigit_48 (by decide) ?_
  refine z_sub (v := nI ((sgT (t 0) tl (P 4)) - 48)) hx hb dX0_readDigit_50 (pk_sub (by omega)) ?_
  exact z_iret hx hb hr hlk hP hD hS dX0_readDigit_51 rfl rfl

set_option maxHeartbeats 4000000 in
set_option maxRecDepth 100000 in
theorem c_X0_readDigit_f (l : Launch) (G : ZG) (q d : Nat) (P : Nat → Nat) (b : Nat → Nat) (t : Mem) (L : Nat → Nat) (hp4 : P 4 ≤ 400) (tl : Nat) (hL : L 0 = tl) (hL6 : tl ≤ 60) (hT : okTx (t 0)) (h : dgB (sgT (t 0) tl (P 4)) = false) (h1 : P 1 = 0) (h34 : P 3 ≤ P 4) : CI l G yX0_readDigit wsX0_readDigit (zRm 2 42) [.ref q, .ref (b 0)] (playW G q d P ++ textW G b t L) (nI 0) (playW G q d (nup (nup P 1 1) 2 (P 4 - P 3)) ++ textW G b t L) := by
  refine CI.ent (cc := cX0_readDigit) (maxL := 3) (ty := .int) (own := RX0) (by decide) rfl rfl (Nat.le_of_ble_eq_true rfl) ?_
  intro p ee s m args below meth c A ls F hr hlk hKK hP hD hA hS hl
  obtain ⟨hx, hb, hml, hown, hts⟩ := id F
  have hl : lv_has ls 3 [(0, .ref q), (1, .ref (b 0))] := hl
  have fl_29 := hts (.fieldLink RX0 29 "NameRolls$Player" "at" "I") (by decide +kernel)
  have fl_37 := hts (.fieldLink RX0 37 "NameRolls$Player" "start" "I") (by decide +kernel)
  have hinX0 : ∀ w ∈ wsX00, w ∈ wsX0_readDigit := by decide +kernel
  have h48 := dgB_f h
  refine lv_aload_n hx hb dX0_readDigit_0 rfl (lv_at hl 1 rfl) ?_
  refine lv_aload_n hx hb dX0_readDigit_1 rfl (lv_at hl 0 rfl) ?_
  refine va_get (D := G.1) (ci := 0) (v := .int (nI (P 4))) (C := RX0) (T := TX0) (N := 12) hx hb hts hinX0 hown hKK.1 hP 0 rfl rfl 5 (by decide) fl_29 (fun _ h9 => h9) rfl dX0_readDigit_2 ?_
  refine z_callVI (As := [.int (nI (P 4))]) (rest := []) (wr := (playW G q d P)) (C := RX2) F (c_X2_signAt l G b t L (P 4) (by omega) tl hL hL6 hT) (cwV 1 hts gX0_readDigit_X2_signAt rfl rfl rfl (by decide +kernel) ⟨Nat.le_of_ble_eq_true rfl, Nat.le_of_ble_eq_true rfl⟩) hKK (z_recv hKK hP (q0 := 1) (ci := 2) rfl rfl) hP hD hS hA rfl hl.1 rfl (Nat.le_of_ble_eq_true rfl) ⟨Nat.zero_le _, Nat.zero_le _⟩ dX0_readDigit_5 (fun H locs hP hD hS => ?_)
  have hP : va_P G.1 vwCl (playW G q d P ++ textW G b t L) H := hP
  have hD : va_D A (playW G q d P ++ textW G b t L) := hD
  refine lv_istore_n (lv' := [(2, .int (nI (sgT (t 0) tl (P 4)))), (0, .ref q), (1, .ref (b 0))]) hx hb dX0_readDigit_8 rfl hl (by decide) rfl (fun ls hl => ?_)
  refine lv_iload_n hx hb dX0_readDigit_9 rfl (lv_at hl 0 rfl) ?_
  refine lv_bipush (v := nI 48) hx hb dX0_readDigit_10 (by decide) ?_
  refine z_lt (tgt := 21) hx hb dX0_readDigit_12 (by decide) (Nat.lt_trans (sgT_lt hT hL6 _) (by decide)) (by omega) (fun c_1 => ?_) (fun c_1 => ?_)
  · skip
    refine lv_aload_n hx hb dX0_readDigit_21 rfl (lv_at hl 1 rfl) ?_
    refine lv_iconst (v := nI 1) hx hb dX0_readDigit_22 (by decide) ?_
    refine lv_aload_n hx hb dX0_readDigit_23 rfl (lv_at hl 1 rfl) ?_
    refine va_get (D := G.1) (ci := 0) (v := .int (nI (P 4))) (C := RX0) (T := TX0) (N := 12) hx hb hts hinX0 hown hKK.1 hP 0 rfl rfl 5 (by decide) fl_29 (fun _ h9 => h9) rfl dX0_readDigit_24 ?_
    refine lv_aload_n hx hb dX0_readDigit_27 rfl (lv_at hl 1 rfl) ?_
    refine va_get (D := G.1) (ci := 0) (v := .int (nI (P 3))) (C := RX0) (T := TX0) (N := 12) hx hb hts hinX0 hown hKK.1 hP 0 rfl rfl 4 (by decide) fl_37 (fun _ h9 => h9) rfl dX0_readDigit_28 ?_
    refine z_sub (v := nI ((P 4) - (P 3))) hx hb dX0_readDigit_31 (pk_sub (by omega)) ?_
    refine z_callVV (As := [.int (nI 1), .int (nI ((P 4) - (P 3)))]) (rest := []) (wr := (textW G b t L)) (C := RX0) F (c_X0_fail_z l G q d P (1) ((P 4) - (P 3)) (by exact h1)) (cwV 2 hts gX0_readDigit_X0_fail rfl rfl rfl (by decide +kernel) ⟨Nat.le_of_ble_eq_true rfl, Nat.le_of_ble_eq_true rfl⟩) hKK (z_recv hKK hP (q0 := 0) (ci := 0) rfl rfl) (z_perm List.perm_append_comm hP) (z_permD List.perm_append_comm hD) hS hA rfl hl.1 rfl (Nat.le_of_ble_eq_true rfl) ⟨Nat.zero_le _, Nat.zero_le _⟩ dX0_readDigit_32 (fun H locs hP hD hS => ?_)
    have hP : va_P G.1 vwCl (playW G q d (nup (nup P 1 1) 2 ((P 4) - (P 3))) ++ textW G b t L) H := (z_perm List.perm_append_comm hP)
    have hD : va_D A (playW G q d (nup (nup P 1 1) 2 ((P 4) - (P 3))) ++ textW G b t L) := (z_permD List.perm_append_comm hD)
    refine lv_iconst (v := nI 0) hx hb dX0_readDigit_35 (by decide) ?_
    exact z_iret hx hb hr hlk hP hD hS dX0_readDigit_36 rfl rfl
  · skip
    refine lv_iload_n hx hb dX0_readDigit_15 rfl (lv_at hl 0 rfl) ?_
    refine lv_bipush (v := nI 57) hx hb dX0_readDigit_16 (by decide) ?_
    refine z_le (tgt := 37) hx hb dX0_readDigit_18 (by decide) (Nat.lt_trans (sgT_lt hT hL6 _) (by decide)) (by omega) (fun c_2 => absurd c_2 (by omega)) (fun c_2 => ?_)
    refine lv_aload_n hx hb dX0_readDigit_21 rfl (lv_at hl 1 rfl) ?_
    refine lv_iconst (v := nI 1) hx hb dX0_readDigit_22 (by decide) ?_
    refine lv_aload_n hx hb dX0_readDigit_23 rfl (lv_at hl 1 rfl) ?_
    refine va_get (D := G.1) (ci := 0) (v := .int (nI (P 4))) (C := RX0) (T := TX0) (N := 12) hx hb hts hinX0 hown hKK.1 hP 0 rfl rfl 5 (by decide) fl_29 (fun _ h9 => h9) rfl dX0_readDigit_24 ?_
    refine lv_aload_n hx hb dX0_readDigit_27 rfl (lv_at hl 1 rfl) ?_
    refine va_get (D := G.1) (ci := 0) (v := .int (nI (P 3))) (C := RX0) (T := TX0) (N := 12) hx hb hts hinX0 hown hKK.1 hP 0 rfl rfl 4 (by decide) fl_37 (fun _ h9 => h9) rfl dX0_readDigit_28 ?_
    refine z_sub (v := nI ((P 4) - (P 3))) hx hb dX0_readDigit_31 (pk_sub (by omega)) ?_
    refine z_callVV (As := [.int (nI 1), .int (nI ((P 4) - (P 3)))]) (rest := []) (wr := (textW G b t L)) (C := RX0) F (c_X0_fail_z l G q d P (1) ((P 4) - (P 3)) (by exact h1)) (cwV 2 hts gX0_readDigit_X0_fail rfl rfl rfl (by decide +kernel) ⟨Nat.le_of_ble_eq_true rfl, Nat.le_of_ble_eq_true rfl⟩) hKK (z_recv hKK hP (q0 := 0) (ci := 0) rfl rfl) (z_perm List.perm_append_comm hP) (z_permD List.perm_append_comm hD) hS hA rfl hl.1 rfl (Nat.le_of_ble_eq_true rfl) ⟨Nat.zero_le _, Nat.zero_le _⟩ dX0_readDigit_32 (fun H locs hP hD hS => ?_)
    have hP : va_P G.1 vwCl (playW G q d (nup (nup P 1 1) 2 ((P 4) - (P 3))) ++ textW G b t L) H := (z_perm List.perm_append_comm hP)
    have hD : va_D A (playW G q d (nup (nup P 1 1) 2 ((P 4) - (P 3))) ++ textW G b t L) := (z_permD List.perm_append_comm hD)
    refine lv_iconst (v := nI 0) hx hb dX0_readDigit_35 (by decide) ?_
    exact z_iret hx hb hr hlk hP hD hS dX0_readDigit_36 rfl rfl

set_option maxHeartbeats 4000000 in
set_option maxRecDepth 100000 in
theorem c_X0_readDigit_nz (l : Launch) (G : ZG) (q d : Nat) (P : Nat → Nat) (b : Nat → Nat) (t : Mem) (L : Nat → Nat) (hp4 : P 4 ≤ 400) (tl : Nat) (hL : L 0 = tl) (hL6 : tl ≤ 60) (hT : okTx (t 0)) (h : dgB (sgT (t 0) tl (P 4)) = false) (h1 : ¬ P 1 = 0) (h2 : P 1 ≤ 3) (h34 : P 3 ≤ P 4) : CI l G yX0_readDigit wsX0_readDigit (zRm 2 42) [.ref q, .ref (b 0)] (playW G q d P ++ textW G b t L) (nI 0) (playW G q d P ++ textW G b t L) := by
  refine CI.ent (cc := cX0_readDigit) (maxL := 3) (ty := .int) (own := RX0) (by decide) rfl rfl (Nat.le_of_ble_eq_true rfl) ?_
  intro p ee s m args below meth c A ls F hr hlk hKK hP hD hA hS hl
  obtain ⟨hx, hb, hml, hown, hts⟩ := id F
  have hl : lv_has ls 3 [(0, .ref q), (1, .ref (b 0))] := hl
  have fl_29 := hts (.fieldLink RX0 29 "NameRolls$Player" "at" "I") (by decide +kernel)
  have fl_37 := hts (.fieldLink RX0 37 "NameRolls$Player" "start" "I") (by decide +kernel)
  have hinX0 : ∀ w ∈ wsX00, w ∈ wsX0_readDigit := by decide +kernel
  have h48 := dgB_f h
  refine lv_aload_n hx hb dX0_readDigit_0 rfl (lv_at hl 1 rfl) ?_
  refine lv_aload_n hx hb dX0_readDigit_1 rfl (lv_at hl 0 rfl) ?_
  refine va_get (D := G.1) (ci := 0) (v := .int (nI (P 4))) (C := RX0) (T := TX0) (N := 12) hx hb hts hinX0 hown hKK.1 hP 0 rfl rfl 5 (by decide) fl_29 (fun _ h9 => h9) rfl dX0_readDigit_2 ?_
  refine z_callVI (As := [.int (nI (P 4))]) (rest := []) (wr := (playW G q d P)) (C := RX2) F (c_X2_signAt l G b t L (P 4) (by omega) tl hL hL6 hT) (cwV 1 hts gX0_readDigit_X2_signAt rfl rfl rfl (by decide +kernel) ⟨Nat.le_of_ble_eq_true rfl, Nat.le_of_ble_eq_true rfl⟩) hKK (z_recv hKK hP (q0 := 1) (ci := 2) rfl rfl) hP hD hS hA rfl hl.1 rfl (Nat.le_of_ble_eq_true rfl) ⟨Nat.zero_le _, Nat.zero_le _⟩ dX0_readDigit_5 (fun H locs hP hD hS => ?_)
  have hP : va_P G.1 vwCl (playW G q d P ++ textW G b t L) H := hP
  have hD : va_D A (playW G q d P ++ textW G b t L) := hD
  refine lv_istore_n (lv' := [(2, .int (nI (sgT (t 0) tl (P 4)))), (0, .ref q), (1, .ref (b 0))]) hx hb dX0_readDigit_8 rfl hl (by decide) rfl (fun ls hl => ?_)
  refine lv_iload_n hx hb dX0_readDigit_9 rfl (lv_at hl 0 rfl) ?_
  refine lv_bipush (v := nI 48) hx hb dX0_readDigit_10 (by decide) ?_
  refine z_lt (tgt := 21) hx hb dX0_readDigit_12 (by decide) (Nat.lt_trans (sgT_lt hT hL6 _) (by decide)) (by omega) (fun c_1 => ?_) (fun c_1 => ?_)
  · skip
    refine lv_aload_n hx hb dX0_readDigit_21 rfl (lv_at hl 1 rfl) ?_
    refine lv_iconst (v := nI 1) hx hb dX0_readDigit_22 (by decide) ?_
    refine lv_aload_n hx hb dX0_readDigit_23 rfl (lv_at hl 1 rfl) ?_
    refine va_get (D := G.1) (ci := 0) (v := .int (nI (P 4))) (C := RX0) (T := TX0) (N := 12) hx hb hts hinX0 hown hKK.1 hP 0 rfl rfl 5 (by decide) fl_29 (fun _ h9 => h9) rfl dX0_readDigit_24 ?_
    refine lv_aload_n hx hb dX0_readDigit_27 rfl (lv_at hl 1 rfl) ?_
    refine va_get (D := G.1) (ci := 0) (v := .int (nI (P 3))) (C := RX0) (T := TX0) (N := 12) hx hb hts hinX0 hown hKK.1 hP 0 rfl rfl 4 (by decide) fl_37 (fun _ h9 => h9) rfl dX0_readDigit_28 ?_
    refine z_sub (v := nI ((P 4) - (P 3))) hx hb dX0_readDigit_31 (pk_sub (by omega)) ?_
    refine z_callVV (As := [.int (nI 1), .int (nI ((P 4) - (P 3)))]) (rest := []) (wr := (textW G b t L)) (C := RX0) F (c_X0_fail_nz l G q d P (1) ((P 4) - (P 3)) (by exact h1) (by exact h2)) (cwV 2 hts gX0_readDigit_X0_fail rfl rfl rfl (by decide +kernel) ⟨Nat.le_of_ble_eq_true rfl, Nat.le_of_ble_eq_true rfl⟩) hKK (z_recv hKK hP (q0 := 0) (ci := 0) rfl rfl) (z_perm List.perm_append_comm hP) (z_permD List.perm_append_comm hD) hS hA rfl hl.1 rfl (Nat.le_of_ble_eq_true rfl) ⟨Nat.zero_le _, Nat.zero_le _⟩ dX0_readDigit_32 (fun H locs hP hD hS => ?_)
    have hP : va_P G.1 vwCl (playW G q d P ++ textW G b t L) H := (z_perm List.perm_append_comm hP)
    have hD : va_D A (playW G q d P ++ textW G b t L) := (z_permD List.perm_append_comm hD)
    refine lv_iconst (v := nI 0) hx hb dX0_readDigit_35 (by decide) ?_
    exact z_iret hx hb hr hlk hP hD hS dX0_readDigit_36 rfl rfl
  · skip
    refine lv_iload_n hx hb dX0_readDigit_15 rfl (lv_at hl 0 rfl) ?_
    refine lv_bipush (v := nI 57) hx hb dX0_readDigit_16 (by decide) ?_
    refine z_le (tgt := 37) hx hb dX0_readDigit_18 (by decide) (Nat.lt_trans (sgT_lt hT hL6 _) (by decide)) (by omega) (fun c_2 => absurd c_2 (by omega)) (fun c_2 => ?_)
    refine lv_aload_n hx hb dX0_readDigit_21 rfl (lv_at hl 1 rfl) ?_
    refine lv_iconst (v := nI 1) hx hb dX0_readDigit_22 (by decide) ?_
    refine lv_aload_n hx hb dX0_readDigit_23 rfl (lv_at hl 1 rfl) ?_
    refine va_get (D := G.1) (ci := 0) (v := .int (nI (P 4))) (C := RX0) (T := TX0) (N := 12) hx hb hts hinX0 hown hKK.1 hP 0 rfl rfl 5 (by decide) fl_29 (fun _ h9 => h9) rfl dX0_readDigit_24 ?_
    refine lv_aload_n hx hb dX0_readDigit_27 rfl (lv_at hl 1 rfl) ?_
    refine va_get (D := G.1) (ci := 0) (v := .int (nI (P 3))) (C := RX0) (T := TX0) (N := 12) hx hb hts hinX0 hown hKK.1 hP 0 rfl rfl 4 (by decide) fl_37 (fun _ h9 => h9) rfl dX0_readDigit_28 ?_
    refine z_sub (v := nI ((P 4) - (P 3))) hx hb dX0_readDigit_31 (pk_sub (by omega)) ?_
    refine z_callVV (As := [.int (nI 1), .int (nI ((P 4) - (P 3)))]) (rest := []) (wr := (textW G b t L)) (C := RX0) F (c_X0_fail_nz l G q d P (1) ((P 4) - (P 3)) (by exact h1) (by exact h2)) (cwV 2 hts gX0_readDigit_X0_fail rfl rfl rfl (by decide +kernel) ⟨Nat.le_of_ble_eq_true rfl, Nat.le_of_ble_eq_true rfl⟩) hKK (z_recv hKK hP (q0 := 0) (ci := 0) rfl rfl) (z_perm List.perm_append_comm hP) (z_permD List.perm_append_comm hD) hS hA rfl hl.1 rfl (Nat.le_of_ble_eq_true rfl) ⟨Nat.zero_le _, Nat.zero_le _⟩ dX0_readDigit_32 (fun H locs hP hD hS => ?_)
    have hP : va_P G.1 vwCl (playW G q d P ++ textW G b t L) H := (z_perm List.perm_append_comm hP)
    have hD : va_D A (playW G q d P ++ textW G b t L) := (z_permD List.perm_append_comm hD)
    refine lv_iconst (v := nI 0) hx hb dX0_readDigit_35 (by decide) ?_
    exact z_iret hx hb hr hlk hP hD hS dX0_readDigit_36 rfl rfl

set_option maxHeartbeats 4000000 in
set_option maxRecDepth 100000 in
theorem c_X0_readSign_t (l : Launch) (G : ZG) (q d : Nat) (P : Nat → Nat) (b : Nat → Nat) (t : Mem) (L : Nat → Nat) (ch : Nat) (hch : ch < 65536) (hp4 : P 4 ≤ 400) (tl : Nat) (hL : L 0 = tl) (hL6 : tl ≤ 60) (hT : okTx (t 0)) (h : sgT (t 0) tl (P 4) = ch) : CV l G yX0_readSign wsX0_readSign (zRm 2 42) [.ref q, .ref (b 0), .int (nI ch)] (playW G q d P ++ textW G b t L) (playW G q d (nup P 4 (P 4 + 1)) ++ textW G b t L) := by
  refine CV.ent (cc := cX0_readSign) (maxL := 3) (own := RX0) (by decide) rfl rfl (Nat.le_of_ble_eq_true rfl) ?_
  intro p ee s m args below meth c A ls F hr hlk hKK hP hD hA hS hl
  obtain ⟨hx, hb, hml, hown, hts⟩ := id F
  have hl : lv_has ls 3 [(0, .ref q), (1, .ref (b 0)), (2, .int (nI ch))] := hl
  have fl_29 := hts (.fieldLink RX0 29 "NameRolls$Player" "at" "I") (by decide +kernel)
  have hinX0 : ∀ w ∈ wsX00, w ∈ wsX0_readSign := by decide +kernel
  refine lv_aload_n hx hb dX0_readSign_0 rfl (lv_at hl 1 rfl) ?_
  refine lv_aload_n hx hb dX0_readSign_1 rfl (lv_at hl 0 rfl) ?_
  refine va_get (D := G.1) (ci := 0) (v := .int (nI (P 4))) (C := RX0) (T := TX0) (N := 12) hx hb hts hinX0 hown hKK.1 hP 0 rfl rfl 5 (by decide) fl_29 (fun _ h9 => h9) rfl dX0_readSign_2 ?_
  refine z_callVI (As := [.int (nI (P 4))]) (rest := []) (wr := (playW G q d P)) (C := RX2) F (c_X2_signAt l G b t L (P 4) (by omega) tl hL hL6 hT) (cwV 1 hts gX0_readSign_X2_signAt rfl rfl rfl (by decide +kernel) ⟨Nat.le_of_ble_eq_true rfl, Nat.le_of_ble_eq_true rfl⟩) hKK (z_recv hKK hP (q0 := 1) (ci := 2) rfl rfl) hP hD hS hA rfl hl.1 rfl (Nat.le_of_ble_eq_true rfl) ⟨Nat.zero_le _, Nat.zero_le _⟩ dX0_readSign_5 (fun H locs hP hD hS => ?_)
  have hP : va_P G.1 vwCl (playW G q d P ++ textW G b t L) H := hP
  have hD : va_D A (playW G q d P ++ textW G b t L) := hD
  refine lv_iload_n hx hb dX0_readSign_8 rfl (lv_at hl 2 rfl) ?_
  refine z_eq (tgt := 27) hx hb dX0_readSign_9 (by decide) (Nat.lt_trans (sgT_lt hT hL6 _) (by decide)) (by omega) (fun c_1 => ?_) (fun c_1 => absurd h c_1)
  refine lv_aload_n hx hb dX0_readSign_27 rfl (lv_at hl 0 rfl) ?_
  refine lv_dup hx hb dX0_readSign_28 rfl ?_
  refine va_get (D := G.1) (ci := 0) (v := .int (nI (P 4))) (C := RX0) (T := TX0) (N := 12) hx hb hts hinX0 hown hKK.1 hP 0 rfl rfl 5 (by decide) fl_29 (fun _ h9 => h9) rfl dX0_readSign_29 ?_
  refine lv_iconst (v := nI 1) hx hb dX0_readSign_32 (by decide) ?_
  refine z_add (v := nI ((P 4) + 1)) hx hb dX0_readSign_33 (nI_add _ _) ?_
  refine z_put (w2 := playW G q d (nup P 4 ((P 4) + 1)) ++ textW G b t L) hx hb hts hinX0 tyX0 tyX0_ok nmX0 hown hKK hP hD hS 0 (ci := 0) (C := RX0) (T := TX0) (N := 12) rfl rfl 5 (by decide) fl_29 rfl rfl rfl (Nat.le_of_ble_eq_true rfl) rfl dX0_readSign_34 (fun H locs hP hD hS => ?_)
  exact z_vret hx hb hr hlk hP hD hS dX0_readSign_37 rfl

set_option maxHeartbeats 4000000 in
set_option maxRecDepth 100000 in
theorem c_X0_readSign_f (l : Launch) (G : ZG) (q d : Nat) (P : Nat → Nat) (b : Nat → Nat) (t : Mem) (L : Nat → Nat) (ch : Nat) (hch : ch < 65536) (hp4 : P 4 ≤ 400) (tl : Nat) (hL : L 0 = tl) (hL6 : tl ≤ 60) (hT : okTx (t 0)) (h : ¬ sgT (t 0) tl (P 4) = ch) (h1 : P 1 = 0) (h34 : P 3 ≤ P 4) : CV l G yX0_readSign wsX0_readSign (zRm 2 42) [.ref q, .ref (b 0), .int (nI ch)] (playW G q d P ++ textW G b t L) (playW G q d (nup (nup P 1 1) 2 (P 4 - P 3)) ++ textW G b t L) := by
  refine CV.ent (cc := cX0_readSign) (maxL := 3) (own := RX0) (by decide) rfl rfl (Nat.le_of_ble_eq_true rfl) ?_
  intro p ee s m args below meth c A ls F hr hlk hKK hP hD hA hS hl
  obtain ⟨hx, hb, hml, hown, hts⟩ := id F
  have hl : lv_has ls 3 [(0, .ref q), (1, .ref (b 0)), (2, .int (nI ch))] := hl
  have fl_29 := hts (.fieldLink RX0 29 "NameRolls$Player" "at" "I") (by decide +kernel)
  have fl_37 := hts (.fieldLink RX0 37 "NameRolls$Player" "start" "I") (by decide +kernel)
  have hinX0 : ∀ w ∈ wsX00, w ∈ wsX0_readSign := by decide +kernel
  refine lv_aload_n hx hb dX0_readSign_0 rfl (lv_at hl 1 rfl) ?_
  refine lv_aload_n hx hb dX0_readSign_1 rfl (lv_at hl 0 rfl) ?_
  refine va_get (D := G.1) (ci := 0) (v := .int (nI (P 4))) (C := RX0) (T := TX0) (N := 12) hx hb hts hinX0 hown hKK.1 hP 0 rfl rfl 5 (by decide) fl_29 (fun _ h9 => h9) rfl dX0_readSign_2 ?_
  refine z_callVI (As := [.int (nI (P 4))]) (rest := []) (wr := (playW G q d P)) (C := RX2) F (c_X2_signAt l G b t L (P 4) (by omega) tl hL hL6 hT) (cwV 1 hts gX0_readSign_X2_signAt rfl rfl rfl (by decide +kernel) ⟨Nat.le_of_ble_eq_true rfl, Nat.le_of_ble_eq_true rfl⟩) hKK (z_recv hKK hP (q0 := 1) (ci := 2) rfl rfl) hP hD hS hA rfl hl.1 rfl (Nat.le_of_ble_eq_true rfl) ⟨Nat.zero_le _, Nat.zero_le _⟩ dX0_readSign_5 (fun H locs hP hD hS => ?_)
  have hP : va_P G.1 vwCl (playW G q d P ++ textW G b t L) H := hP
  have hD : va_D A (playW G q d P ++ textW G b t L) := hD
  refine lv_iload_n hx hb dX0_readSign_8 rfl (lv_at hl 2 rfl) ?_
  refine z_eq (tgt := 27) hx hb dX0_readSign_9 (by decide) (Nat.lt_trans (sgT_lt hT hL6 _) (by decide)) (by omega) (fun c_1 => absurd c_1 h) (fun c_1 => ?_)
  refine lv_aload_n hx hb dX0_readSign_12 rfl (lv_at hl 0 rfl) ?_
  refine lv_iconst (v := nI 1) hx hb dX0_readSign_13 (by decide) ?_
  refine lv_aload_n hx hb dX0_readSign_14 rfl (lv_at hl 0 rfl) ?_
  refine va_get (D := G.1) (ci := 0) (v := .int (nI (P 4))) (C := RX0) (T := TX0) (N := 12) hx hb hts hinX0 hown hKK.1 hP 0 rfl rfl 5 (by decide) fl_29 (fun _ h9 => h9) rfl dX0_readSign_15 ?_
  refine lv_aload_n hx hb dX0_readSign_18 rfl (lv_at hl 0 rfl) ?_
  refine va_get (D := G.1) (ci := 0) (v := .int (nI (P 3))) (C := RX0) (T := TX0) (N := 12) hx hb hts hinX0 hown hKK.1 hP 0 rfl rfl 4 (by decide) fl_37 (fun _ h9 => h9) rfl dX0_readSign_19 ?_
  refine z_sub (v := nI ((P 4) - (P 3))) hx hb dX0_readSign_22 (pk_sub (by omega)) ?_
  refine z_callVV (As := [.int (nI 1), .int (nI ((P 4) - (P 3)))]) (rest := []) (wr := (textW G b t L)) (C := RX0) F (c_X0_fail_z l G q d P (1) ((P 4) - (P 3)) (by exact h1)) (cwV 2 hts gX0_readSign_X0_fail rfl rfl rfl (by decide +kernel) ⟨Nat.le_of_ble_eq_true rfl, Nat.le_of_ble_eq_true rfl⟩) hKK (z_recv hKK hP (q0 := 0) (ci := 0) rfl rfl) (z_perm List.perm_append_comm hP) (z_permD List.perm_append_comm hD) hS hA rfl hl.1 rfl (Nat.le_of_ble_eq_true rfl) ⟨Nat.zero_le _, Nat.zero_le _⟩ dX0_readSign_23 (fun H locs hP hD hS => ?_)
  have hP : va_P G.1 vwCl (playW G q d (nup (nup P 1 1) 2 ((P 4) - (P 3))) ++ textW G b t L) H := (z_perm List.perm_append_comm hP)
  have hD : va_D A (playW G q d (nup (nup P 1 1) 2 ((P 4) - (P 3))) ++ textW G b t L) := (z_permD List.perm_append_comm hD)
  exact z_vret hx hb hr hlk hP hD hS dX0_readSign_26 rfl

set_option maxHeartbeats 4000000 in
set_option maxRecDepth 100000 in
theorem c_X0_readSign_nz (l : Launch) (G : ZG) (q d : Nat) (P : Nat → Nat) (b : Nat → Nat) (t : Mem) (L : Nat → Nat) (ch : Nat) (hch : ch < 65536) (hp4 : P 4 ≤ 400) (tl : Nat) (hL : L 0 = tl) (hL6 : tl ≤ 60) (hT : okTx (t 0)) (h : ¬ sgT (t 0) tl (P 4) = ch) (h1 : ¬ P 1 = 0) (h2 : P 1 ≤ 3) (h34 : P 3 ≤ P 4) : CV l G yX0_readSign wsX0_readSign (zRm 2 42) [.ref q, .ref (b 0), .int (nI ch)] (playW G q d P ++ textW G b t L) (playW G q d P ++ textW G b t L) := by
  refine CV.ent (cc := cX0_readSign) (maxL := 3) (own := RX0) (by decide) rfl rfl (Nat.le_of_ble_eq_true rfl) ?_
  intro p ee s m args below meth c A ls F hr hlk hKK hP hD hA hS hl
  obtain ⟨hx, hb, hml, hown, hts⟩ := id F
  have hl : lv_has ls 3 [(0, .ref q), (1, .ref (b 0)), (2, .int (nI ch))] := hl
  have fl_29 := hts (.fieldLink RX0 29 "NameRolls$Player" "at" "I") (by decide +kernel)
  have fl_37 := hts (.fieldLink RX0 37 "NameRolls$Player" "start" "I") (by decide +kernel)
  have hinX0 : ∀ w ∈ wsX00, w ∈ wsX0_readSign := by decide +kernel
  refine lv_aload_n hx hb dX0_readSign_0 rfl (lv_at hl 1 rfl) ?_
  refine lv_aload_n hx hb dX0_readSign_1 rfl (lv_at hl 0 rfl) ?_
  refine va_get (D := G.1) (ci := 0) (v := .int (nI (P 4))) (C := RX0) (T := TX0) (N := 12) hx hb hts hinX0 hown hKK.1 hP 0 rfl rfl 5 (by decide) fl_29 (fun _ h9 => h9) rfl dX0_readSign_2 ?_
  refine z_callVI (As := [.int (nI (P 4))]) (rest := []) (wr := (playW G q d P)) (C := RX2) F (c_X2_signAt l G b t L (P 4) (by omega) tl hL hL6 hT) (cwV 1 hts gX0_readSign_X2_signAt rfl rfl rfl (by decide +kernel) ⟨Nat.le_of_ble_eq_true rfl, Nat.le_of_ble_eq_true rfl⟩) hKK (z_recv hKK hP (q0 := 1) (ci := 2) rfl rfl) hP hD hS hA rfl hl.1 rfl (Nat.le_of_ble_eq_true rfl) ⟨Nat.zero_le _, Nat.zero_le _⟩ dX0_readSign_5 (fun H locs hP hD hS => ?_)
  have hP : va_P G.1 vwCl (playW G q d P ++ textW G b t L) H := hP
  have hD : va_D A (playW G q d P ++ textW G b t L) := hD
  refine lv_iload_n hx hb dX0_readSign_8 rfl (lv_at hl 2 rfl) ?_
  refine z_eq (tgt := 27) hx hb dX0_readSign_9 (by decide) (Nat.lt_trans (sgT_lt hT hL6 _) (by decide)) (by omega) (fun c_1 => absurd c_1 h) (fun c_1 => ?_)
  refine lv_aload_n hx hb dX0_readSign_12 rfl (lv_at hl 0 rfl) ?_
  refine lv_iconst (v := nI 1) hx hb dX0_readSign_13 (by decide) ?_
  refine lv_aload_n hx hb dX0_readSign_14 rfl (lv_at hl 0 rfl) ?_
  refine va_get (D := G.1) (ci := 0) (v := .int (nI (P 4))) (C := RX0) (T := TX0) (N := 12) hx hb hts hinX0 hown hKK.1 hP 0 rfl rfl 5 (by decide) fl_29 (fun _ h9 => h9) rfl dX0_readSign_15 ?_
  refine lv_aload_n hx hb dX0_readSign_18 rfl (lv_at hl 0 rfl) ?_
  refine va_get (D := G.1) (ci := 0) (v := .int (nI (P 3))) (C := RX0) (T := TX0) (N := 12) hx hb hts hinX0 hown hKK.1 hP 0 rfl rfl 4 (by decide) fl_37 (fun _ h9 => h9) rfl dX0_readSign_19 ?_
  refine z_sub (v := nI ((P 4) - (P 3))) hx hb dX0_readSign_22 (pk_sub (by omega)) ?_
  refine z_callVV (As := [.int (nI 1), .int (nI ((P 4) - (P 3)))]) (rest := []) (wr := (textW G b t L)) (C := RX0) F (c_X0_fail_nz l G q d P (1) ((P 4) - (P 3)) (by exact h1) (by exact h2)) (cwV 2 hts gX0_readSign_X0_fail rfl rfl rfl (by decide +kernel) ⟨Nat.le_of_ble_eq_true rfl, Nat.le_of_ble_eq_true rfl⟩) hKK (z_recv hKK hP (q0 := 0) (ci := 0) rfl rfl) (z_perm List.perm_append_comm hP) (z_permD List.perm_append_comm hD) hS hA rfl hl.1 rfl (Nat.le_of_ble_eq_true rfl) ⟨Nat.zero_le _, Nat.zero_le _⟩ dX0_readSign_23 (fun H locs hP hD hS => ?_)
  have hP : va_P G.1 vwCl (playW G q d P ++ textW G b t L) H := (z_perm List.perm_append_comm hP)
  have hD : va_D A (playW G q d P ++ textW G b t L) := (z_permD List.perm_append_comm hD)
  exact z_vret hx hb hr hlk hP hD hS dX0_readSign_26 rfl

set_option maxHeartbeats 4000000 in
set_option maxRecDepth 100000 in
theorem c_X0_readLetters_y (l : Launch) (G : ZG) (q d : Nat) (P : Nat → Nat) (b : Nat → Nat) (t : Mem) (L : Nat → Nat) (hp4 : P 4 ≤ 400) (tl : Nat) (hL : L 0 = tl) (hL6 : tl ≤ 60) (hT : okTx (t 0)) (h9 : P 9 = 0) (h10 : P 10 = 0) (h0 : 0 < lc (sgT (t 0) tl) (P 4)) : CV l G yX0_readLetters wsX0_readLetters (zRm 2 42) [.ref q, .ref (b 0)] (playW G q d P ++ textW G b t L) (playW G q d (nup (nup (nup P 4 (P 4 + lc (sgT (t 0) tl) (P 4))) 9 (lc (sgT (t 0) tl) (P 4))) 10 (wv (sgT (t 0) tl) (P 4) (lc (sgT (t 0) tl) (P 4)))) ++ textW G b t L) := by
  refine CV.ent (cc := cX0_readLetters) (maxL := 4) (own := RX0) (by decide) rfl rfl (Nat.le_of_ble_eq_true rfl) ?_
  intro p ee s m args below meth c A ls F hr hlk hKK hP hD hA hS hl
  obtain ⟨hx, hb, hml, hown, hts⟩ := id F
  have hl : lv_has ls 4 [(0, .ref q), (1, .ref (b 0))] := hl
  have fl_29 := hts (.fieldLink RX0 29 "NameRolls$Player" "at" "I") (by decide +kernel)
  have fl_67 := hts (.fieldLink RX0 67 "NameRolls$Player" "letters" "I") (by decide +kernel)
  have fl_70 := hts (.fieldLink RX0 70 "NameRolls$Player" "name" "I") (by decide +kernel)
  have hinX0 : ∀ w ∈ wsX00, w ∈ wsX0_readLetters := by decide +kernel
  refine lv_iconst (v := nI 0) hx hb dX0_readLetters_0 (by decide) ?_
  refine lv_istore_n (lv' := [(2, .int (nI 0)), (0, .ref q), (1, .ref (b 0))]) hx hb dX0_readLetters_1 rfl hl (by decide) rfl (fun ls hl => ?_)
  have key_1 : ∀ (nn : Nat) (j : Nat), allL (sgT (t 0) tl) (P 4) j → j ≤ 60 → 61 - j < nn → ∀ (H : Heap) (locs : List Loc) (ls : Array Slot), va_P G.1 vwCl (playW G q d (nup (nup (nup P 4 (P 4 + j)) 9 j) 10 (wv (sgT (t 0) tl) (P 4) j)) ++ textW G b t L) H → va_D A (playW G q d (nup (nup (nup P 4 (P 4 + j)) 9 j) 10 (wv (sgT (t 0) tl) (P 4) j)) ++ textW G b t L) → va_S A s.heap H locs → lv_has ls 4 [(0, .ref q), (1, .ref (b 0)), (2, .int (nI j))] → W p l ee (zRm 2 42) s m args below meth c H locs 0 0 (MQ below (ZQv G A (playW G q d (nup (nup (nup P 4 (P 4 + lc (sgT (t 0) tl) (P 4))) 9 (lc (sgT (t 0) tl) (P 4))) 10 (wv (sgT (t 0) tl) (P 4) (lc (sgT (t 0) tl) (P 4)))) ++ textW G b t L)) args s 0 0 A) (F0 m 2 ls []) := by
    intro nn
    induction nn with
    | zero => intro j _ _ hm; exact absurd hm (Nat.not_lt_zero _)
    | succ nn ih_1 =>
      intro j hall hj hm H locs ls hP hD hS hl
      have hjl := allL_len hall
      have hwb := wv_lt6 hall
      refine lv_iload_n hx hb dX0_readLetters_2 rfl (lv_at hl 2 rfl) ?_
      refine lv_bipush (v := nI 60) hx hb dX0_readLetters_3 (by decide) ?_
      refine z_ge (tgt := 85) hx hb dX0_readLetters_5 (by decide) (by omega) (by omega) (fun c_2 => ?_) (fun c_2 => ?_)
      · skip
        have hlc := lc_is60 hL6 hall (by omega)
        refine lv_aload_n hx hb dX0_readLetters_85 rfl (lv_at hl 0 rfl) ?_
        refine va_get (D := G.1) (ci := 0) (v := .int (nI j)) (C := RX0) (T := TX0) (N := 12) hx hb hts hinX0 hown hKK.1 hP 0 rfl rfl 10 (by decide) fl_67 (fun _ h9 => h9) rfl dX0_readLetters_86 ?_
        refine z_ifNne (tgt := 106) hx hb dX0_readLetters_89 (by decide) (by omega) (fun c_3 => ?_) (fun c_3 => absurd h0 (by omega))
        exact z_vret hx hb hr hlk hP hD hS dX0_readLetters_106 (by rw [← hlc])
      · skip
        refine lv_aload_n hx hb dX0_readLetters_8 rfl (lv_at hl 1 rfl) ?_
        refine lv_aload_n hx hb dX0_readLetters_9 rfl (lv_at hl 0 rfl) ?_
        refine va_get (D := G.1) (ci := 0) (v := .int (nI (P 4 + j))) (C := RX0) (T := TX0) (N := 12) hx hb hts hinX0 hown hKK.1 hP 0 rfl rfl 5 (by decide) fl_29 (fun _ h9 => h9) rfl dX0_readLetters_10 ?_
        refine z_callVI (As := [.int (nI (P 4 + j))]) (rest := []) (wr := (playW G q d (nup (nup (nup P 4 (P 4 + j)) 9 j) 10 (wv (sgT (t 0) tl) (P 4) j)))) (C := RX2) F (c_X2_signAt l G b t L (P 4 + j) (by omega) tl hL hL6 hT) (cwV 1 hts gX0_readLetters_X2_signAt rfl rfl rfl (by decide +kernel) ⟨Nat.le_of_ble_eq_true rfl, Nat.le_of_ble_eq_true rfl⟩) hKK (z_recv hKK hP (q0 := 1) (ci := 2) rfl rfl) hP hD hS hA rfl hl.1 rfl (Nat.le_of_ble_eq_true rfl) ⟨Nat.zero_le _, Nat.zero_le _⟩ dX0_readLetters_13 (fun H locs hP hD hS => ?_)
        have hP : va_P G.1 vwCl (playW G q d (nup (nup (nup P 4 (P 4 + j)) 9 j) 10 (wv (sgT (t 0) tl) (P 4) j)) ++ textW G b t L) H := hP
        have hD : va_D A (playW G q d (nup (nup (nup P 4 (P 4 + j)) 9 j) 10 (wv (sgT (t 0) tl) (P 4) j)) ++ textW G b t L) := hD
        refine lv_istore_n (lv' := [(3, .int (nI (sgT (t 0) tl (P 4 + j)))), (0, .ref q), (1, .ref (b 0)), (2, .int (nI j))]) hx hb dX0_readLetters_16 rfl hl (by decide) rfl (fun ls hl => ?_)
        refine lv_iload_n hx hb dX0_readLetters_17 rfl (lv_at hl 0 rfl) ?_
        refine lv_bipush (v := nI 97) hx hb dX0_readLetters_18 (by decide) ?_
        refine z_lt (tgt := 85) hx hb dX0_readLetters_20 (by decide) (Nat.lt_trans (sgT_lt hT hL6 _) (by decide)) (by omega) (fun c_4 => ?_) (fun c_4 => ?_)
        · skip
          have hlc := lc_is hL6 hall (by omega)
          refine lv_aload_n hx hb dX0_readLetters_85 rfl (lv_at hl 1 rfl) ?_
          refine va_get (D := G.1) (ci := 0) (v := .int (nI j)) (C := RX0) (T := TX0) (N := 12) hx hb hts hinX0 hown hKK.1 hP 0 rfl rfl 10 (by decide) fl_67 (fun _ h9 => h9) rfl dX0_readLetters_86 ?_
          refine z_ifNne (tgt := 106) hx hb dX0_readLetters_89 (by decide) (by omega) (fun c_5 => ?_) (fun c_5 => absurd h0 (by omega))
          exact z_vret hx hb hr hlk hP hD hS dX0_readLetters_106 (by rw [← hlc])
        · skip
          refine lv_iload_n hx hb dX0_readLetters_23 rfl (lv_at hl 0 rfl) ?_
          refine lv_bipush (v := nI 122) hx hb dX0_readLetters_24 (by decide) ?_
          refine z_le (tgt := 32) hx hb dX0_readLetters_26 (by decide) (Nat.lt_trans (sgT_lt hT hL6 _) (by decide)) (by omega) (fun c_6 => ?_) (fun c_6 => ?_)
          · skip
            have hlt : 97 ≤ sgT (t 0) tl (P 4 + j) ∧ sgT (t 0) tl (P 4 + j) ≤ 122 := ⟨by omega, by omega⟩
            refine lv_aload_n hx hb dX0_readLetters_32 rfl (lv_at hl 1 rfl) ?_
            refine lv_dup hx hb dX0_readLetters_33 rfl ?_
            refine va_get (D := G.1) (ci := 0) (v := .int (nI j)) (C := RX0) (T := TX0) (N := 12) hx hb hts hinX0 hown hKK.1 hP 0 rfl rfl 10 (by decide) fl_67 (fun _ h9 => h9) rfl dX0_readLetters_34 ?_
            refine lv_iconst (v := nI 1) hx hb dX0_readLetters_37 (by decide) ?_
            refine z_add (v := nI (j + 1)) hx hb dX0_readLetters_38 (nI_add _ _) ?_
            refine z_put (w2 := playW G q d (nup (nup (nup P 4 (P 4 + j)) 9 (j + 1)) 10 (wv (sgT (t 0) tl) (P 4) j)) ++ textW G b t L) hx hb hts hinX0 tyX0 tyX0_ok nmX0 hown hKK hP hD hS 0 (ci := 0) (C := RX0) (T := TX0) (N := 12) rfl rfl 10 (by decide) fl_67 rfl rfl rfl (Nat.le_of_ble_eq_true rfl) rfl dX0_readLetters_39 (fun H locs hP hD hS => ?_)
            refine lv_aload_n hx hb dX0_readLetters_42 rfl (lv_at hl 1 rfl) ?_
            refine va_get (D := G.1) (ci := 0) (v := .int (nI (j + 1))) (C := RX0) (T := TX0) (N := 12) hx hb hts hinX0 hown hKK.1 hP 0 rfl rfl 10 (by decide) fl_67 (fun _ h9 => h9) rfl dX0_readLetters_43 ?_
            refine lv_bipush (v := nI 6) hx hb dX0_readLetters_46 (by decide) ?_
            refine z_gt (tgt := 69) hx hb dX0_readLetters_48 (by decide) (by omega) (by omega) (fun c_7 => ?_) (fun c_7 => ?_)
            · skip
              refine lv_aload_n hx hb dX0_readLetters_69 rfl (lv_at hl 1 rfl) ?_
              refine lv_dup hx hb dX0_readLetters_70 rfl ?_
              refine va_get (D := G.1) (ci := 0) (v := .int (nI (P 4 + j))) (C := RX0) (T := TX0) (N := 12) hx hb hts hinX0 hown hKK.1 hP 0 rfl rfl 5 (by decide) fl_29 (fun _ h9 => h9) rfl dX0_readLetters_71 ?_
              refine lv_iconst (v := nI 1) hx hb dX0_readLetters_74 (by decide) ?_
              refine z_add (v := nI ((P 4 + j) + 1)) hx hb dX0_readLetters_75 (nI_add _ _) ?_
              refine z_put (w2 := playW G q d (nup (nup (nup P 4 ((P 4 + j) + 1)) 9 (j + 1)) 10 (wv (sgT (t 0) tl) (P 4) j)) ++ textW G b t L) hx hb hts hinX0 tyX0 tyX0_ok nmX0 hown hKK hP hD hS 0 (ci := 0) (C := RX0) (T := TX0) (N := 12) rfl rfl 5 (by decide) fl_29 rfl rfl rfl (Nat.le_of_ble_eq_true rfl) rfl dX0_readLetters_76 (fun H locs hP hD hS => ?_)
              refine lv_iinc (v := nI (j + 1)) (lv' := [(2, .int (nI (j + 1))), (3, .int (nI (sgT (t 0) tl (P 4 + j)))), (0, .ref q), (1, .ref (b 0))]) hx hb dX0_readLetters_79 hl (k := 3) rfl (nI_1 _) (by decide) rfl (fun ls hl => ?_)
              refine lv_goto (tgt := 2) hx hb dX0_readLetters_82 (by decide) ?_
              have hj60 := allL_len (allL_s hall hlt)
              have es : nup (nup (nup P 4 ((P 4 + j) + 1)) 9 (j + 1)) 10 (wv (sgT (t 0) tl) (P 4) j) = nup (nup (nup P 4 (P 4 + (j + 1))) 9 ((j + 1))) 10 (wv (sgT (t 0) tl) (P 4) ((j + 1))) := by rw [wvk (by omega), show P 4 + (j + 1) = P 4 + j + 1 by omega]
              rw [es] at hP hD
              exact ih_1 (j + 1) (allL_s hall hlt) (by omega) (by omega) _ _ _ hP hD hS (lv_sub hl [2, 3, 0] rfl)
            · skip
              refine lv_aload_n hx hb dX0_readLetters_51 rfl (lv_at hl 1 rfl) ?_
              refine lv_aload_n hx hb dX0_readLetters_52 rfl (lv_at hl 1 rfl) ?_
              refine va_get (D := G.1) (ci := 0) (v := .int (nI (wv (sgT (t 0) tl) (P 4) j))) (C := RX0) (T := TX0) (N := 12) hx hb hts hinX0 hown hKK.1 hP 0 rfl rfl 11 (by decide) fl_70 (fun _ h9 => h9) rfl dX0_readLetters_53 ?_
              refine lv_bipush (v := nI 27) hx hb dX0_readLetters_56 (by decide) ?_
              refine z_mul (v := nI ((wv (sgT (t 0) tl) (P 4) j) * 27)) hx hb dX0_readLetters_58 (pk_mul _ _) ?_
              refine lv_iload_n hx hb dX0_readLetters_59 rfl (lv_at hl 0 rfl) ?_
              refine lv_bipush (v := nI 97) hx hb dX0_readLetters_60 (by decide) ?_
              refine z_sub (v := nI ((sgT (t 0) tl (P 4 + j)) - 97)) hx hb dX0_readLetters_62 (pk_sub (by omega)) ?_
              refine lv_iconst (v := nI 1) hx hb dX0_readLetters_63 (by decide) ?_
              refine z_add (v := nI (((sgT (t 0) tl (P 4 + j)) - 97) + 1)) hx hb dX0_readLetters_64 (nI_add _ _) ?_
              refine z_add (v := nI (((wv (sgT (t 0) tl) (P 4) j) * 27) + (((sgT (t 0) tl (P 4 + j)) - 97) + 1))) hx hb dX0_readLetters_65 (nI_add _ _) ?_
              refine z_put (w2 := playW G q d (nup (nup (nup P 4 (P 4 + j)) 9 (j + 1)) 10 (((wv (sgT (t 0) tl) (P 4) j) * 27) + (((sgT (t 0) tl (P 4 + j)) - 97) + 1))) ++ textW G b t L) hx hb hts hinX0 tyX0 tyX0_ok nmX0 hown hKK hP hD hS 0 (ci := 0) (C := RX0) (T := TX0) (N := 12) rfl rfl 11 (by decide) fl_70 rfl rfl rfl (Nat.le_of_ble_eq_true rfl) rfl dX0_readLetters_66 (fun H locs hP hD hS => ?_)
              refine lv_aload_n hx hb dX0_readLetters_69 rfl (lv_at hl 1 rfl) ?_
              refine lv_dup hx hb dX0_readLetters_70 rfl ?_
              refine va_get (D := G.1) (ci := 0) (v := .int (nI (P 4 + j))) (C := RX0) (T := TX0) (N := 12) hx hb hts hinX0 hown hKK.1 hP 0 rfl rfl 5 (by decide) fl_29 (fun _ h9 => h9) rfl dX0_readLetters_71 ?_
              refine lv_iconst (v := nI 1) hx hb dX0_readLetters_74 (by decide) ?_
              refine z_add (v := nI ((P 4 + j) + 1)) hx hb dX0_readLetters_75 (nI_add _ _) ?_
              refine z_put (w2 := playW G q d (nup (nup (nup P 4 ((P 4 + j) + 1)) 9 (j + 1)) 10 (((wv (sgT (t 0) tl) (P 4) j) * 27) + (((sgT (t 0) tl (P 4 + j)) - 97) + 1))) ++ textW G b t L) hx hb hts hinX0 tyX0 tyX0_ok nmX0 hown hKK hP hD hS 0 (ci := 0) (C := RX0) (T := TX0) (N := 12) rfl rfl 5 (by decide) fl_29 rfl rfl rfl (Nat.le_of_ble_eq_true rfl) rfl dX0_readLetters_76 (fun H locs hP hD hS => ?_)
              refine lv_iinc (v := nI (j + 1)) (lv' := [(2, .int (nI (j + 1))), (3, .int (nI (sgT (t 0) tl (P 4 + j)))), (0, .ref q), (1, .ref (b 0))]) hx hb dX0_readLetters_79 hl (k := 3) rfl (nI_1 _) (by decide) rfl (fun ls hl => ?_)
              refine lv_goto (tgt := 2) hx hb dX0_readLetters_82 (by decide) ?_
              have hj60 := allL_len (allL_s hall hlt)
              have es : nup (nup (nup P 4 ((P 4 + j) + 1)) 9 (j + 1)) 10 (((wv (sgT (t 0) tl) (P 4) j) * 27) + (((sgT (t 0) tl (P 4 + j)) - 97) + 1)) = nup (nup (nup P 4 (P 4 + (j + 1))) 9 ((j + 1))) 10 (wv (sgT (t 0) tl) (P 4) ((j + 1))) := by rw [wvs (by omega), show P 4 + (j + 1) = P 4 + j + 1 by omega]; congr 1; omega
              rw [es] at hP hD
              exact ih_1 (j + 1) (allL_s hall hlt) (by omega) (by omega) _ _ _ hP hD hS (lv_sub hl [2, 3, 0] rfl)
          · skip
            have hlc := lc_is hL6 hall (by omega)
            refine lv_goto (tgt := 85) hx hb dX0_readLetters_29 (by decide) ?_
            refine lv_aload_n hx hb dX0_readLetters_85 rfl (lv_at hl 1 rfl) ?_
            refine va_get (D := G.1) (ci := 0) (v := .int (nI j)) (C := RX0) (T := TX0) (N := 12) hx hb hts hinX0 hown hKK.1 hP 0 rfl rfl 10 (by decide) fl_67 (fun _ h9 => h9) rfl dX0_readLetters_86 ?_
            refine z_ifNne (tgt := 106) hx hb dX0_readLetters_89 (by decide) (by omega) (fun c_8 => ?_) (fun c_8 => absurd h0 (by omega))
            exact z_vret hx hb hr hlk hP hD hS dX0_readLetters_106 (by rw [← hlc])
  have es : P = nup (nup (nup P 4 (P 4 + 0)) 9 0) 10 (wv (sgT (t 0) tl) (P 4) 0) := rl_0 P _ h9 h10
  rw [es] at hP hD
  exact key_1 _ 0 (allL_0 _ _) (by omega) (Nat.lt_succ_self _) _ _ _ hP hD hS (lv_sub hl [1, 2, 0] rfl)

set_option maxHeartbeats 4000000 in
set_option maxRecDepth 100000 in
theorem c_X0_readLetters_f (l : Launch) (G : ZG) (q d : Nat) (P : Nat → Nat) (b : Nat → Nat) (t : Mem) (L : Nat → Nat) (hp4 : P 4 ≤ 400) (tl : Nat) (hL : L 0 = tl) (hL6 : tl ≤ 60) (hT : okTx (t 0)) (h9 : P 9 = 0) (h10 : P 10 = 0) (h0 : lc (sgT (t 0) tl) (P 4) = 0) (h1 : P 1 = 0) (h34 : P 3 ≤ P 4) : CV l G yX0_readLetters wsX0_readLetters (zRm 2 42) [.ref q, .ref (b 0)] (playW G q d P ++ textW G b t L) (playW G q d (nup (nup (nup (nup (nup P 1 1) 2 (P 4 + lc (sgT (t 0) tl) (P 4) - P 3)) 4 (P 4 + lc (sgT (t 0) tl) (P 4))) 9 (lc (sgT (t 0) tl) (P 4))) 10 (wv (sgT (t 0) tl) (P 4) (lc (sgT (t 0) tl) (P 4)))) ++ textW G b t L) := by
  refine CV.ent (cc := cX0_readLetters) (maxL := 4) (own := RX0) (by decide) rfl rfl (Nat.le_of_ble_eq_true rfl) ?_
  intro p ee s m args below meth c A ls F hr hlk hKK hP hD hA hS hl
  obtain ⟨hx, hb, hml, hown, hts⟩ := id F
  have hl : lv_has ls 4 [(0, .ref q), (1, .ref (b 0))] := hl
  have fl_29 := hts (.fieldLink RX0 29 "NameRolls$Player" "at" "I") (by decide +kernel)
  have fl_37 := hts (.fieldLink RX0 37 "NameRolls$Player" "start" "I") (by decide +kernel)
  have fl_67 := hts (.fieldLink RX0 67 "NameRolls$Player" "letters" "I") (by decide +kernel)
  have fl_70 := hts (.fieldLink RX0 70 "NameRolls$Player" "name" "I") (by decide +kernel)
  have hinX0 : ∀ w ∈ wsX00, w ∈ wsX0_readLetters := by decide +kernel
  refine lv_iconst (v := nI 0) hx hb dX0_readLetters_0 (by decide) ?_
  refine lv_istore_n (lv' := [(2, .int (nI 0)), (0, .ref q), (1, .ref (b 0))]) hx hb dX0_readLetters_1 rfl hl (by decide) rfl (fun ls hl => ?_)
  have key_1 : ∀ (nn : Nat) (j : Nat), allL (sgT (t 0) tl) (P 4) j → j ≤ 60 → 61 - j < nn → ∀ (H : Heap) (locs : List Loc) (ls : Array Slot), va_P G.1 vwCl (playW G q d (nup (nup (nup P 4 (P 4 + j)) 9 j) 10 (wv (sgT (t 0) tl) (P 4) j)) ++ textW G b t L) H → va_D A (playW G q d (nup (nup (nup P 4 (P 4 + j)) 9 j) 10 (wv (sgT (t 0) tl) (P 4) j)) ++ textW G b t L) → va_S A s.heap H locs → lv_has ls 4 [(0, .ref q), (1, .ref (b 0)), (2, .int (nI j))] → W p l ee (zRm 2 42) s m args below meth c H locs 0 0 (MQ below (ZQv G A (playW G q d (nup (nup (nup (nup (nup P 1 1) 2 (P 4 + lc (sgT (t 0) tl) (P 4) - P 3)) 4 (P 4 + lc (sgT (t 0) tl) (P 4))) 9 (lc (sgT (t 0) tl) (P 4))) 10 (wv (sgT (t 0) tl) (P 4) (lc (sgT (t 0) tl) (P 4)))) ++ textW G b t L)) args s 0 0 A) (F0 m 2 ls []) := by
    intro nn
    induction nn with
    | zero => intro j _ _ hm; exact absurd hm (Nat.not_lt_zero _)
    | succ nn ih_1 =>
      intro j hall hj hm H locs ls hP hD hS hl
      have hjl := allL_len hall
      have hwb := wv_lt6 hall
      refine lv_iload_n hx hb dX0_readLetters_2 rfl (lv_at hl 2 rfl) ?_
      refine lv_bipush (v := nI 60) hx hb dX0_readLetters_3 (by decide) ?_
      refine z_ge (tgt := 85) hx hb dX0_readLetters_5 (by decide) (by omega) (by omega) (fun c_2 => ?_) (fun c_2 => ?_)
      · skip
        have hlc := lc_is60 hL6 hall (by omega)
        refine lv_aload_n hx hb dX0_readLetters_85 rfl (lv_at hl 0 rfl) ?_
        refine va_get (D := G.1) (ci := 0) (v := .int (nI j)) (C := RX0) (T := TX0) (N := 12) hx hb hts hinX0 hown hKK.1 hP 0 rfl rfl 10 (by decide) fl_67 (fun _ h9 => h9) rfl dX0_readLetters_86 ?_
        refine z_ifNne (tgt := 106) hx hb dX0_readLetters_89 (by decide) (by omega) (fun c_3 => absurd c_3 (by omega)) (fun c_3 => ?_)
        refine lv_aload_n hx hb dX0_readLetters_92 rfl (lv_at hl 0 rfl) ?_
        refine lv_iconst (v := nI 1) hx hb dX0_readLetters_93 (by decide) ?_
        refine lv_aload_n hx hb dX0_readLetters_94 rfl (lv_at hl 0 rfl) ?_
        refine va_get (D := G.1) (ci := 0) (v := .int (nI (P 4 + j))) (C := RX0) (T := TX0) (N := 12) hx hb hts hinX0 hown hKK.1 hP 0 rfl rfl 5 (by decide) fl_29 (fun _ h9 => h9) rfl dX0_readLetters_95 ?_
        refine lv_aload_n hx hb dX0_readLetters_98 rfl (lv_at hl 0 rfl) ?_
        refine va_get (D := G.1) (ci := 0) (v := .int (nI (P 3))) (C := RX0) (T := TX0) (N := 12) hx hb hts hinX0 hown hKK.1 hP 0 rfl rfl 4 (by decide) fl_37 (fun _ h9 => h9) rfl dX0_readLetters_99 ?_
        refine z_sub (v := nI ((P 4 + j) - (P 3))) hx hb dX0_readLetters_102 (pk_sub (by omega)) ?_
        refine z_callVV (As := [.int (nI 1), .int (nI ((P 4 + j) - (P 3)))]) (rest := []) (wr := (textW G b t L)) (C := RX0) F (c_X0_fail_z l G q d (nup (nup (nup P 4 (P 4 + j)) 9 j) 10 (wv (sgT (t 0) tl) (P 4) j)) (1) ((P 4 + j) - (P 3)) (by exact h1)) (cwV 2 hts gX0_readLetters_X0_fail rfl rfl rfl (by decide +kernel) ⟨Nat.le_of_ble_eq_true rfl, Nat.le_of_ble_eq_true rfl⟩) hKK (z_recv hKK hP (q0 := 0) (ci := 0) rfl rfl) (z_perm List.perm_append_comm hP) (z_permD List.perm_append_comm hD) hS hA rfl hl.1 rfl (Nat.le_of_ble_eq_true rfl) ⟨Nat.zero_le _, Nat.zero_le _⟩ dX0_readLetters_103 (fun H locs hP hD hS => ?_)
        have hP : va_P G.1 vwCl (playW G q d (nup (nup (nup (nup (nup P 1 1) 2 ((P 4 + j) - (P 3))) 4 (P 4 + j)) 9 j) 10 (wv (sgT (t 0) tl) (P 4) j)) ++ textW G b t L) H := (z_perm List.perm_append_comm hP)
        have hD : va_D A (playW G q d (nup (nup (nup (nup (nup P 1 1) 2 ((P 4 + j) - (P 3))) 4 (P 4 + j)) 9 j) 10 (wv (sgT (t 0) tl) (P 4) j)) ++ textW G b t L) := (z_permD List.perm_append_comm hD)
        exact z_vret hx hb hr hlk hP hD hS dX0_readLetters_106 (by rw [← hlc])
      · skip
        refine lv_aload_n hx hb dX0_readLetters_8 rfl (lv_at hl 1 rfl) ?_
        refine lv_aload_n hx hb dX0_readLetters_9 rfl (lv_at hl 0 rfl) ?_
        refine va_get (D := G.1) (ci := 0) (v := .int (nI (P 4 + j))) (C := RX0) (T := TX0) (N := 12) hx hb hts hinX0 hown hKK.1 hP 0 rfl rfl 5 (by decide) fl_29 (fun _ h9 => h9) rfl dX0_readLetters_10 ?_
        refine z_callVI (As := [.int (nI (P 4 + j))]) (rest := []) (wr := (playW G q d (nup (nup (nup P 4 (P 4 + j)) 9 j) 10 (wv (sgT (t 0) tl) (P 4) j)))) (C := RX2) F (c_X2_signAt l G b t L (P 4 + j) (by omega) tl hL hL6 hT) (cwV 1 hts gX0_readLetters_X2_signAt rfl rfl rfl (by decide +kernel) ⟨Nat.le_of_ble_eq_true rfl, Nat.le_of_ble_eq_true rfl⟩) hKK (z_recv hKK hP (q0 := 1) (ci := 2) rfl rfl) hP hD hS hA rfl hl.1 rfl (Nat.le_of_ble_eq_true rfl) ⟨Nat.zero_le _, Nat.zero_le _⟩ dX0_readLetters_13 (fun H locs hP hD hS => ?_)
        have hP : va_P G.1 vwCl (playW G q d (nup (nup (nup P 4 (P 4 + j)) 9 j) 10 (wv (sgT (t 0) tl) (P 4) j)) ++ textW G b t L) H := hP
        have hD : va_D A (playW G q d (nup (nup (nup P 4 (P 4 + j)) 9 j) 10 (wv (sgT (t 0) tl) (P 4) j)) ++ textW G b t L) := hD
        refine lv_istore_n (lv' := [(3, .int (nI (sgT (t 0) tl (P 4 + j)))), (0, .ref q), (1, .ref (b 0)), (2, .int (nI j))]) hx hb dX0_readLetters_16 rfl hl (by decide) rfl (fun ls hl => ?_)
        refine lv_iload_n hx hb dX0_readLetters_17 rfl (lv_at hl 0 rfl) ?_
        refine lv_bipush (v := nI 97) hx hb dX0_readLetters_18 (by decide) ?_
        refine z_lt (tgt := 85) hx hb dX0_readLetters_20 (by decide) (Nat.lt_trans (sgT_lt hT hL6 _) (by decide)) (by omega) (fun c_4 => ?_) (fun c_4 => ?_)
        · skip
          have hlc := lc_is hL6 hall (by omega)
          refine lv_aload_n hx hb dX0_readLetters_85 rfl (lv_at hl 1 rfl) ?_
          refine va_get (D := G.1) (ci := 0) (v := .int (nI j)) (C := RX0) (T := TX0) (N := 12) hx hb hts hinX0 hown hKK.1 hP 0 rfl rfl 10 (by decide) fl_67 (fun _ h9 => h9) rfl dX0_readLetters_86 ?_
          refine z_ifNne (tgt := 106) hx hb dX0_readLetters_89 (by decide) (by omega) (fun c_5 => absurd c_5 (by omega)) (fun c_5 => ?_)
          refine lv_aload_n hx hb dX0_readLetters_92 rfl (lv_at hl 1 rfl) ?_
          refine lv_iconst (v := nI 1) hx hb dX0_readLetters_93 (by decide) ?_
          refine lv_aload_n hx hb dX0_readLetters_94 rfl (lv_at hl 1 rfl) ?_
          refine va_get (D := G.1) (ci := 0) (v := .int (nI (P 4 + j))) (C := RX0) (T := TX0) (N := 12) hx hb hts hinX0 hown hKK.1 hP 0 rfl rfl 5 (by decide) fl_29 (fun _ h9 => h9) rfl dX0_readLetters_95 ?_
          refine lv_aload_n hx hb dX0_readLetters_98 rfl (lv_at hl 1 rfl) ?_
          refine va_get (D := G.1) (ci := 0) (v := .int (nI (P 3))) (C := RX0) (T := TX0) (N := 12) hx hb hts hinX0 hown hKK.1 hP 0 rfl rfl 4 (by decide) fl_37 (fun _ h9 => h9) rfl dX0_readLetters_99 ?_
          refine z_sub (v := nI ((P 4 + j) - (P 3))) hx hb dX0_readLetters_102 (pk_sub (by omega)) ?_
          refine z_callVV (As := [.int (nI 1), .int (nI ((P 4 + j) - (P 3)))]) (rest := []) (wr := (textW G b t L)) (C := RX0) F (c_X0_fail_z l G q d (nup (nup (nup P 4 (P 4 + j)) 9 j) 10 (wv (sgT (t 0) tl) (P 4) j)) (1) ((P 4 + j) - (P 3)) (by exact h1)) (cwV 2 hts gX0_readLetters_X0_fail rfl rfl rfl (by decide +kernel) ⟨Nat.le_of_ble_eq_true rfl, Nat.le_of_ble_eq_true rfl⟩) hKK (z_recv hKK hP (q0 := 0) (ci := 0) rfl rfl) (z_perm List.perm_append_comm hP) (z_permD List.perm_append_comm hD) hS hA rfl hl.1 rfl (Nat.le_of_ble_eq_true rfl) ⟨Nat.zero_le _, Nat.zero_le _⟩ dX0_readLetters_103 (fun H locs hP hD hS => ?_)
          have hP : va_P G.1 vwCl (playW G q d (nup (nup (nup (nup (nup P 1 1) 2 ((P 4 + j) - (P 3))) 4 (P 4 + j)) 9 j) 10 (wv (sgT (t 0) tl) (P 4) j)) ++ textW G b t L) H := (z_perm List.perm_append_comm hP)
          have hD : va_D A (playW G q d (nup (nup (nup (nup (nup P 1 1) 2 ((P 4 + j) - (P 3))) 4 (P 4 + j)) 9 j) 10 (wv (sgT (t 0) tl) (P 4) j)) ++ textW G b t L) := (z_permD List.perm_append_comm hD)
          exact z_vret hx hb hr hlk hP hD hS dX0_readLetters_106 (by rw [← hlc])
        · skip
          refine lv_iload_n hx hb dX0_readLetters_23 rfl (lv_at hl 0 rfl) ?_
          refine lv_bipush (v := nI 122) hx hb dX0_readLetters_24 (by decide) ?_
          refine z_le (tgt := 32) hx hb dX0_readLetters_26 (by decide) (Nat.lt_trans (sgT_lt hT hL6 _) (by decide)) (by omega) (fun c_6 => ?_) (fun c_6 => ?_)
          · skip
            have hlt : 97 ≤ sgT (t 0) tl (P 4 + j) ∧ sgT (t 0) tl (P 4 + j) ≤ 122 := ⟨by omega, by omega⟩
            refine lv_aload_n hx hb dX0_readLetters_32 rfl (lv_at hl 1 rfl) ?_
            refine lv_dup hx hb dX0_readLetters_33 rfl ?_
            refine va_get (D := G.1) (ci := 0) (v := .int (nI j)) (C := RX0) (T := TX0) (N := 12) hx hb hts hinX0 hown hKK.1 hP 0 rfl rfl 10 (by decide) fl_67 (fun _ h9 => h9) rfl dX0_readLetters_34 ?_
            refine lv_iconst (v := nI 1) hx hb dX0_readLetters_37 (by decide) ?_
            refine z_add (v := nI (j + 1)) hx hb dX0_readLetters_38 (nI_add _ _) ?_
            refine z_put (w2 := playW G q d (nup (nup (nup P 4 (P 4 + j)) 9 (j + 1)) 10 (wv (sgT (t 0) tl) (P 4) j)) ++ textW G b t L) hx hb hts hinX0 tyX0 tyX0_ok nmX0 hown hKK hP hD hS 0 (ci := 0) (C := RX0) (T := TX0) (N := 12) rfl rfl 10 (by decide) fl_67 rfl rfl rfl (Nat.le_of_ble_eq_true rfl) rfl dX0_readLetters_39 (fun H locs hP hD hS => ?_)
            refine lv_aload_n hx hb dX0_readLetters_42 rfl (lv_at hl 1 rfl) ?_
            refine va_get (D := G.1) (ci := 0) (v := .int (nI (j + 1))) (C := RX0) (T := TX0) (N := 12) hx hb hts hinX0 hown hKK.1 hP 0 rfl rfl 10 (by decide) fl_67 (fun _ h9 => h9) rfl dX0_readLetters_43 ?_
            refine lv_bipush (v := nI 6) hx hb dX0_readLetters_46 (by decide) ?_
            refine z_gt (tgt := 69) hx hb dX0_readLetters_48 (by decide) (by omega) (by omega) (fun c_7 => ?_) (fun c_7 => ?_)
            · skip
              refine lv_aload_n hx hb dX0_readLetters_69 rfl (lv_at hl 1 rfl) ?_
              refine lv_dup hx hb dX0_readLetters_70 rfl ?_
              refine va_get (D := G.1) (ci := 0) (v := .int (nI (P 4 + j))) (C := RX0) (T := TX0) (N := 12) hx hb hts hinX0 hown hKK.1 hP 0 rfl rfl 5 (by decide) fl_29 (fun _ h9 => h9) rfl dX0_readLetters_71 ?_
              refine lv_iconst (v := nI 1) hx hb dX0_readLetters_74 (by decide) ?_
              refine z_add (v := nI ((P 4 + j) + 1)) hx hb dX0_readLetters_75 (nI_add _ _) ?_
              refine z_put (w2 := playW G q d (nup (nup (nup P 4 ((P 4 + j) + 1)) 9 (j + 1)) 10 (wv (sgT (t 0) tl) (P 4) j)) ++ textW G b t L) hx hb hts hinX0 tyX0 tyX0_ok nmX0 hown hKK hP hD hS 0 (ci := 0) (C := RX0) (T := TX0) (N := 12) rfl rfl 5 (by decide) fl_29 rfl rfl rfl (Nat.le_of_ble_eq_true rfl) rfl dX0_readLetters_76 (fun H locs hP hD hS => ?_)
              refine lv_iinc (v := nI (j + 1)) (lv' := [(2, .int (nI (j + 1))), (3, .int (nI (sgT (t 0) tl (P 4 + j)))), (0, .ref q), (1, .ref (b 0))]) hx hb dX0_readLetters_79 hl (k := 3) rfl (nI_1 _) (by decide) rfl (fun ls hl => ?_)
              refine lv_goto (tgt := 2) hx hb dX0_readLetters_82 (by decide) ?_
              have hj60 := allL_len (allL_s hall hlt)
              have es : nup (nup (nup P 4 ((P 4 + j) + 1)) 9 (j + 1)) 10 (wv (sgT (t 0) tl) (P 4) j) = nup (nup (nup P 4 (P 4 + (j + 1))) 9 ((j + 1))) 10 (wv (sgT (t 0) tl) (P 4) ((j + 1))) := by rw [wvk (by omega), show P 4 + (j + 1) = P 4 + j + 1 by omega]
              rw [es] at hP hD
              exact ih_1 (j + 1) (allL_s hall hlt) (by omega) (by omega) _ _ _ hP hD hS (lv_sub hl [2, 3, 0] rfl)
            · skip
              refine lv_aload_n hx hb dX0_readLetters_51 rfl (lv_at hl 1 rfl) ?_
              refine lv_aload_n hx hb dX0_readLetters_52 rfl (lv_at hl 1 rfl) ?_
              refine va_get (D := G.1) (ci := 0) (v := .int (nI (wv (sgT (t 0) tl) (P 4) j))) (C := RX0) (T := TX0) (N := 12) hx hb hts hinX0 hown hKK.1 hP 0 rfl rfl 11 (by decide) fl_70 (fun _ h9 => h9) rfl dX0_readLetters_53 ?_
              refine lv_bipush (v := nI 27) hx hb dX0_readLetters_56 (by decide) ?_
              refine z_mul (v := nI ((wv (sgT (t 0) tl) (P 4) j) * 27)) hx hb dX0_readLetters_58 (pk_mul _ _) ?_
              refine lv_iload_n hx hb dX0_readLetters_59 rfl (lv_at hl 0 rfl) ?_
              refine lv_bipush (v := nI 97) hx hb dX0_readLetters_60 (by decide) ?_
              refine z_sub (v := nI ((sgT (t 0) tl (P 4 + j)) - 97)) hx hb dX0_readLetters_62 (pk_sub (by omega)) ?_
              refine lv_iconst (v := nI 1) hx hb dX0_readLetters_63 (by decide) ?_
              refine z_add (v := nI (((sgT (t 0) tl (P 4 + j)) - 97) + 1)) hx hb dX0_readLetters_64 (nI_add _ _) ?_
              refine z_add (v := nI (((wv (sgT (t 0) tl) (P 4) j) * 27) + (((sgT (t 0) tl (P 4 + j)) - 97) + 1))) hx hb dX0_readLetters_65 (nI_add _ _) ?_
              refine z_put (w2 := playW G q d (nup (nup (nup P 4 (P 4 + j)) 9 (j + 1)) 10 (((wv (sgT (t 0) tl) (P 4) j) * 27) + (((sgT (t 0) tl (P 4 + j)) - 97) + 1))) ++ textW G b t L) hx hb hts hinX0 tyX0 tyX0_ok nmX0 hown hKK hP hD hS 0 (ci := 0) (C := RX0) (T := TX0) (N := 12) rfl rfl 11 (by decide) fl_70 rfl rfl rfl (Nat.le_of_ble_eq_true rfl) rfl dX0_readLetters_66 (fun H locs hP hD hS => ?_)
              refine lv_aload_n hx hb dX0_readLetters_69 rfl (lv_at hl 1 rfl) ?_
              refine lv_dup hx hb dX0_readLetters_70 rfl ?_
              refine va_get (D := G.1) (ci := 0) (v := .int (nI (P 4 + j))) (C := RX0) (T := TX0) (N := 12) hx hb hts hinX0 hown hKK.1 hP 0 rfl rfl 5 (by decide) fl_29 (fun _ h9 => h9) rfl dX0_readLetters_71 ?_
              refine lv_iconst (v := nI 1) hx hb dX0_readLetters_74 (by decide) ?_
              refine z_add (v := nI ((P 4 + j) + 1)) hx hb dX0_readLetters_75 (nI_add _ _) ?_
              refine z_put (w2 := playW G q d (nup (nup (nup P 4 ((P 4 + j) + 1)) 9 (j + 1)) 10 (((wv (sgT (t 0) tl) (P 4) j) * 27) + (((sgT (t 0) tl (P 4 + j)) - 97) + 1))) ++ textW G b t L) hx hb hts hinX0 tyX0 tyX0_ok nmX0 hown hKK hP hD hS 0 (ci := 0) (C := RX0) (T := TX0) (N := 12) rfl rfl 5 (by decide) fl_29 rfl rfl rfl (Nat.le_of_ble_eq_true rfl) rfl dX0_readLetters_76 (fun H locs hP hD hS => ?_)
              refine lv_iinc (v := nI (j + 1)) (lv' := [(2, .int (nI (j + 1))), (3, .int (nI (sgT (t 0) tl (P 4 + j)))), (0, .ref q), (1, .ref (b 0))]) hx hb dX0_readLetters_79 hl (k := 3) rfl (nI_1 _) (by decide) rfl (fun ls hl => ?_)
              refine lv_goto (tgt := 2) hx hb dX0_readLetters_82 (by decide) ?_
              have hj60 := allL_len (allL_s hall hlt)
              have es : nup (nup (nup P 4 ((P 4 + j) + 1)) 9 (j + 1)) 10 (((wv (sgT (t 0) tl) (P 4) j) * 27) + (((sgT (t 0) tl (P 4 + j)) - 97) + 1)) = nup (nup (nup P 4 (P 4 + (j + 1))) 9 ((j + 1))) 10 (wv (sgT (t 0) tl) (P 4) ((j + 1))) := by rw [wvs (by omega), show P 4 + (j + 1) = P 4 + j + 1 by omega]; congr 1; omega
              rw [es] at hP hD
              exact ih_1 (j + 1) (allL_s hall hlt) (by omega) (by omega) _ _ _ hP hD hS (lv_sub hl [2, 3, 0] rfl)
          · skip
            have hlc := lc_is hL6 hall (by omega)
            refine lv_goto (tgt := 85) hx hb dX0_readLetters_29 (by decide) ?_
            refine lv_aload_n hx hb dX0_readLetters_85 rfl (lv_at hl 1 rfl) ?_
            refine va_get (D := G.1) (ci := 0) (v := .int (nI j)) (C := RX0) (T := TX0) (N := 12) hx hb hts hinX0 hown hKK.1 hP 0 rfl rfl 10 (by decide) fl_67 (fun _ h9 => h9) rfl dX0_readLetters_86 ?_
            refine z_ifNne (tgt := 106) hx hb dX0_readLetters_89 (by decide) (by omega) (fun c_8 => absurd c_8 (by omega)) (fun c_8 => ?_)
            refine lv_aload_n hx hb dX0_readLetters_92 rfl (lv_at hl 1 rfl) ?_
            refine lv_iconst (v := nI 1) hx hb dX0_readLetters_93 (by decide) ?_
            refine lv_aload_n hx hb dX0_readLetters_94 rfl (lv_at hl 1 rfl) ?_
            refine va_get (D := G.1) (ci := 0) (v := .int (nI (P 4 + j))) (C := RX0) (T := TX0) (N := 12) hx hb hts hinX0 hown hKK.1 hP 0 rfl rfl 5 (by decide) fl_29 (fun _ h9 => h9) rfl dX0_readLetters_95 ?_
            refine lv_aload_n hx hb dX0_readLetters_98 rfl (lv_at hl 1 rfl) ?_
            refine va_get (D := G.1) (ci := 0) (v := .int (nI (P 3))) (C := RX0) (T := TX0) (N := 12) hx hb hts hinX0 hown hKK.1 hP 0 rfl rfl 4 (by decide) fl_37 (fun _ h9 => h9) rfl dX0_readLetters_99 ?_
            refine z_sub (v := nI ((P 4 + j) - (P 3))) hx hb dX0_readLetters_102 (pk_sub (by omega)) ?_
            refine z_callVV (As := [.int (nI 1), .int (nI ((P 4 + j) - (P 3)))]) (rest := []) (wr := (textW G b t L)) (C := RX0) F (c_X0_fail_z l G q d (nup (nup (nup P 4 (P 4 + j)) 9 j) 10 (wv (sgT (t 0) tl) (P 4) j)) (1) ((P 4 + j) - (P 3)) (by exact h1)) (cwV 2 hts gX0_readLetters_X0_fail rfl rfl rfl (by decide +kernel) ⟨Nat.le_of_ble_eq_true rfl, Nat.le_of_ble_eq_true rfl⟩) hKK (z_recv hKK hP (q0 := 0) (ci := 0) rfl rfl) (z_perm List.perm_append_comm hP) (z_permD List.perm_append_comm hD) hS hA rfl hl.1 rfl (Nat.le_of_ble_eq_true rfl) ⟨Nat.zero_le _, Nat.zero_le _⟩ dX0_readLetters_103 (fun H locs hP hD hS => ?_)
            have hP : va_P G.1 vwCl (playW G q d (nup (nup (nup (nup (nup P 1 1) 2 ((P 4 + j) - (P 3))) 4 (P 4 + j)) 9 j) 10 (wv (sgT (t 0) tl) (P 4) j)) ++ textW G b t L) H := (z_perm List.perm_append_comm hP)
            have hD : va_D A (playW G q d (nup (nup (nup (nup (nup P 1 1) 2 ((P 4 + j) - (P 3))) 4 (P 4 + j)) 9 j) 10 (wv (sgT (t 0) tl) (P 4) j)) ++ textW G b t L) := (z_permD List.perm_append_comm hD)
            exact z_vret hx hb hr hlk hP hD hS dX0_readLetters_106 (by rw [← hlc])
  have es : P = nup (nup (nup P 4 (P 4 + 0)) 9 0) 10 (wv (sgT (t 0) tl) (P 4) 0) := rl_0 P _ h9 h10
  rw [es] at hP hD
  exact key_1 _ 0 (allL_0 _ _) (by omega) (Nat.lt_succ_self _) _ _ _ hP hD hS (lv_sub hl [1, 2, 0] rfl)

set_option maxHeartbeats 4000000 in
set_option maxRecDepth 100000 in
theorem c_X0_readLetters_nz (l : Launch) (G : ZG) (q d : Nat) (P : Nat → Nat) (b : Nat → Nat) (t : Mem) (L : Nat → Nat) (hp4 : P 4 ≤ 400) (tl : Nat) (hL : L 0 = tl) (hL6 : tl ≤ 60) (hT : okTx (t 0)) (h9 : P 9 = 0) (h10 : P 10 = 0) (h1 : ¬ P 1 = 0) (h2 : P 1 ≤ 3) (h34 : P 3 ≤ P 4) : CV l G yX0_readLetters wsX0_readLetters (zRm 2 42) [.ref q, .ref (b 0)] (playW G q d P ++ textW G b t L) (playW G q d (nup (nup (nup P 4 (P 4 + lc (sgT (t 0) tl) (P 4))) 9 (lc (sgT (t 0) tl) (P 4))) 10 (wv (sgT (t 0) tl) (P 4) (lc (sgT (t 0) tl) (P 4)))) ++ textW G b t L) := by
  refine CV.ent (cc := cX0_readLetters) (maxL := 4) (own := RX0) (by decide) rfl rfl (Nat.le_of_ble_eq_true rfl) ?_
  intro p ee s m args below meth c A ls F hr hlk hKK hP hD hA hS hl
  obtain ⟨hx, hb, hml, hown, hts⟩ := id F
  have hl : lv_has ls 4 [(0, .ref q), (1, .ref (b 0))] := hl
  have fl_29 := hts (.fieldLink RX0 29 "NameRolls$Player" "at" "I") (by decide +kernel)
  have fl_37 := hts (.fieldLink RX0 37 "NameRolls$Player" "start" "I") (by decide +kernel)
  have fl_67 := hts (.fieldLink RX0 67 "NameRolls$Player" "letters" "I") (by decide +kernel)
  have fl_70 := hts (.fieldLink RX0 70 "NameRolls$Player" "name" "I") (by decide +kernel)
  have hinX0 : ∀ w ∈ wsX00, w ∈ wsX0_readLetters := by decide +kernel
  refine lv_iconst (v := nI 0) hx hb dX0_readLetters_0 (by decide) ?_
  refine lv_istore_n (lv' := [(2, .int (nI 0)), (0, .ref q), (1, .ref (b 0))]) hx hb dX0_readLetters_1 rfl hl (by decide) rfl (fun ls hl => ?_)
  have key_1 : ∀ (nn : Nat) (j : Nat), allL (sgT (t 0) tl) (P 4) j → j ≤ 60 → 61 - j < nn → ∀ (H : Heap) (locs : List Loc) (ls : Array Slot), va_P G.1 vwCl (playW G q d (nup (nup (nup P 4 (P 4 + j)) 9 j) 10 (wv (sgT (t 0) tl) (P 4) j)) ++ textW G b t L) H → va_D A (playW G q d (nup (nup (nup P 4 (P 4 + j)) 9 j) 10 (wv (sgT (t 0) tl) (P 4) j)) ++ textW G b t L) → va_S A s.heap H locs → lv_has ls 4 [(0, .ref q), (1, .ref (b 0)), (2, .int (nI j))] → W p l ee (zRm 2 42) s m args below meth c H locs 0 0 (MQ below (ZQv G A (playW G q d (nup (nup (nup P 4 (P 4 + lc (sgT (t 0) tl) (P 4))) 9 (lc (sgT (t 0) tl) (P 4))) 10 (wv (sgT (t 0) tl) (P 4) (lc (sgT (t 0) tl) (P 4)))) ++ textW G b t L)) args s 0 0 A) (F0 m 2 ls []) := by
    intro nn
    induction nn with
    | zero => intro j _ _ hm; exact absurd hm (Nat.not_lt_zero _)
    | succ nn ih_1 =>
      intro j hall hj hm H locs ls hP hD hS hl
      have hjl := allL_len hall
      have hwb := wv_lt6 hall
      refine lv_iload_n hx hb dX0_readLetters_2 rfl (lv_at hl 2 rfl) ?_
      refine lv_bipush (v := nI 60) hx hb dX0_readLetters_3 (by decide) ?_
      refine z_ge (tgt := 85) hx hb dX0_readLetters_5 (by decide) (by omega) (by omega) (fun c_2 => ?_) (fun c_2 => ?_)
      · skip
        have hlc := lc_is60 hL6 hall (by omega)
        refine lv_aload_n hx hb dX0_readLetters_85 rfl (lv_at hl 0 rfl) ?_
        refine va_get (D := G.1) (ci := 0) (v := .int (nI j)) (C := RX0) (T := TX0) (N := 12) hx hb hts hinX0 hown hKK.1 hP 0 rfl rfl 10 (by decide) fl_67 (fun _ h9 => h9) rfl dX0_readLetters_86 ?_
        refine z_ifNne (tgt := 106) hx hb dX0_readLetters_89 (by decide) (by omega) (fun c_3 => ?_) (fun c_3 => ?_)
        · skip
          exact z_vret hx hb hr hlk hP hD hS dX0_readLetters_106 (by rw [← hlc])
        · skip
          refine lv_aload_n hx hb dX0_readLetters_92 rfl (lv_at hl 0 rfl) ?_
          refine lv_iconst (v := nI 1) hx hb dX0_readLetters_93 (by decide) ?_
          refine lv_aload_n hx hb dX0_readLetters_94 rfl (lv_at hl 0 rfl) ?_
          refine va_get (D := G.1) (ci := 0) (v := .int (nI (P 4 + j))) (C := RX0) (T := TX0) (N := 12) hx hb hts hinX0 hown hKK.1 hP 0 rfl rfl 5 (by decide) fl_29 (fun _ h9 => h9) rfl dX0_readLetters_95 ?_
          refine lv_aload_n hx hb dX0_readLetters_98 rfl (lv_at hl 0 rfl) ?_
          refine va_get (D := G.1) (ci := 0) (v := .int (nI (P 3))) (C := RX0) (T := TX0) (N := 12) hx hb hts hinX0 hown hKK.1 hP 0 rfl rfl 4 (by decide) fl_37 (fun _ h9 => h9) rfl dX0_readLetters_99 ?_
          refine z_sub (v := nI ((P 4 + j) - (P 3))) hx hb dX0_readLetters_102 (pk_sub (by omega)) ?_
          refine z_callVV (As := [.int (nI 1), .int (nI ((P 4 + j) - (P 3)))]) (rest := []) (wr := (textW G b t L)) (C := RX0) F (c_X0_fail_nz l G q d (nup (nup (nup P 4 (P 4 + j)) 9 j) 10 (wv (sgT (t 0) tl) (P 4) j)) (1) ((P 4 + j) - (P 3)) (by exact h1) (by exact h2)) (cwV 2 hts gX0_readLetters_X0_fail rfl rfl rfl (by decide +kernel) ⟨Nat.le_of_ble_eq_true rfl, Nat.le_of_ble_eq_true rfl⟩) hKK (z_recv hKK hP (q0 := 0) (ci := 0) rfl rfl) (z_perm List.perm_append_comm hP) (z_permD List.perm_append_comm hD) hS hA rfl hl.1 rfl (Nat.le_of_ble_eq_true rfl) ⟨Nat.zero_le _, Nat.zero_le _⟩ dX0_readLetters_103 (fun H locs hP hD hS => ?_)
          have hP : va_P G.1 vwCl (playW G q d (nup (nup (nup P 4 (P 4 + j)) 9 j) 10 (wv (sgT (t 0) tl) (P 4) j)) ++ textW G b t L) H := (z_perm List.perm_append_comm hP)
          have hD : va_D A (playW G q d (nup (nup (nup P 4 (P 4 + j)) 9 j) 10 (wv (sgT (t 0) tl) (P 4) j)) ++ textW G b t L) := (z_permD List.perm_append_comm hD)
          exact z_vret hx hb hr hlk hP hD hS dX0_readLetters_106 (by rw [← hlc])
      · skip
        refine lv_aload_n hx hb dX0_readLetters_8 rfl (lv_at hl 1 rfl) ?_
        refine lv_aload_n hx hb dX0_readLetters_9 rfl (lv_at hl 0 rfl) ?_
        refine va_get (D := G.1) (ci := 0) (v := .int (nI (P 4 + j))) (C := RX0) (T := TX0) (N := 12) hx hb hts hinX0 hown hKK.1 hP 0 rfl rfl 5 (by decide) fl_29 (fun _ h9 => h9) rfl dX0_readLetters_10 ?_
        refine z_callVI (As := [.int (nI (P 4 + j))]) (rest := []) (wr := (playW G q d (nup (nup (nup P 4 (P 4 + j)) 9 j) 10 (wv (sgT (t 0) tl) (P 4) j)))) (C := RX2) F (c_X2_signAt l G b t L (P 4 + j) (by omega) tl hL hL6 hT) (cwV 1 hts gX0_readLetters_X2_signAt rfl rfl rfl (by decide +kernel) ⟨Nat.le_of_ble_eq_true rfl, Nat.le_of_ble_eq_true rfl⟩) hKK (z_recv hKK hP (q0 := 1) (ci := 2) rfl rfl) hP hD hS hA rfl hl.1 rfl (Nat.le_of_ble_eq_true rfl) ⟨Nat.zero_le _, Nat.zero_le _⟩ dX0_readLetters_13 (fun H locs hP hD hS => ?_)
        have hP : va_P G.1 vwCl (playW G q d (nup (nup (nup P 4 (P 4 + j)) 9 j) 10 (wv (sgT (t 0) tl) (P 4) j)) ++ textW G b t L) H := hP
        have hD : va_D A (playW G q d (nup (nup (nup P 4 (P 4 + j)) 9 j) 10 (wv (sgT (t 0) tl) (P 4) j)) ++ textW G b t L) := hD
        refine lv_istore_n (lv' := [(3, .int (nI (sgT (t 0) tl (P 4 + j)))), (0, .ref q), (1, .ref (b 0)), (2, .int (nI j))]) hx hb dX0_readLetters_16 rfl hl (by decide) rfl (fun ls hl => ?_)
        refine lv_iload_n hx hb dX0_readLetters_17 rfl (lv_at hl 0 rfl) ?_
        refine lv_bipush (v := nI 97) hx hb dX0_readLetters_18 (by decide) ?_
        refine z_lt (tgt := 85) hx hb dX0_readLetters_20 (by decide) (Nat.lt_trans (sgT_lt hT hL6 _) (by decide)) (by omega) (fun c_4 => ?_) (fun c_4 => ?_)
        · skip
          have hlc := lc_is hL6 hall (by omega)
          refine lv_aload_n hx hb dX0_readLetters_85 rfl (lv_at hl 1 rfl) ?_
          refine va_get (D := G.1) (ci := 0) (v := .int (nI j)) (C := RX0) (T := TX0) (N := 12) hx hb hts hinX0 hown hKK.1 hP 0 rfl rfl 10 (by decide) fl_67 (fun _ h9 => h9) rfl dX0_readLetters_86 ?_
          refine z_ifNne (tgt := 106) hx hb dX0_readLetters_89 (by decide) (by omega) (fun c_5 => ?_) (fun c_5 => ?_)
          · skip
            exact z_vret hx hb hr hlk hP hD hS dX0_readLetters_106 (by rw [← hlc])
          · skip
            refine lv_aload_n hx hb dX0_readLetters_92 rfl (lv_at hl 1 rfl) ?_
            refine lv_iconst (v := nI 1) hx hb dX0_readLetters_93 (by decide) ?_
            refine lv_aload_n hx hb dX0_readLetters_94 rfl (lv_at hl 1 rfl) ?_
            refine va_get (D := G.1) (ci := 0) (v := .int (nI (P 4 + j))) (C := RX0) (T := TX0) (N := 12) hx hb hts hinX0 hown hKK.1 hP 0 rfl rfl 5 (by decide) fl_29 (fun _ h9 => h9) rfl dX0_readLetters_95 ?_
            refine lv_aload_n hx hb dX0_readLetters_98 rfl (lv_at hl 1 rfl) ?_
            refine va_get (D := G.1) (ci := 0) (v := .int (nI (P 3))) (C := RX0) (T := TX0) (N := 12) hx hb hts hinX0 hown hKK.1 hP 0 rfl rfl 4 (by decide) fl_37 (fun _ h9 => h9) rfl dX0_readLetters_99 ?_
            refine z_sub (v := nI ((P 4 + j) - (P 3))) hx hb dX0_readLetters_102 (pk_sub (by omega)) ?_
            refine z_callVV (As := [.int (nI 1), .int (nI ((P 4 + j) - (P 3)))]) (rest := []) (wr := (textW G b t L)) (C := RX0) F (c_X0_fail_nz l G q d (nup (nup (nup P 4 (P 4 + j)) 9 j) 10 (wv (sgT (t 0) tl) (P 4) j)) (1) ((P 4 + j) - (P 3)) (by exact h1) (by exact h2)) (cwV 2 hts gX0_readLetters_X0_fail rfl rfl rfl (by decide +kernel) ⟨Nat.le_of_ble_eq_true rfl, Nat.le_of_ble_eq_true rfl⟩) hKK (z_recv hKK hP (q0 := 0) (ci := 0) rfl rfl) (z_perm List.perm_append_comm hP) (z_permD List.perm_append_comm hD) hS hA rfl hl.1 rfl (Nat.le_of_ble_eq_true rfl) ⟨Nat.zero_le _, Nat.zero_le _⟩ dX0_readLetters_103 (fun H locs hP hD hS => ?_)
            have hP : va_P G.1 vwCl (playW G q d (nup (nup (nup P 4 (P 4 + j)) 9 j) 10 (wv (sgT (t 0) tl) (P 4) j)) ++ textW G b t L) H := (z_perm List.perm_append_comm hP)
            have hD : va_D A (playW G q d (nup (nup (nup P 4 (P 4 + j)) 9 j) 10 (wv (sgT (t 0) tl) (P 4) j)) ++ textW G b t L) := (z_permD List.perm_append_comm hD)
            exact z_vret hx hb hr hlk hP hD hS dX0_readLetters_106 (by rw [← hlc])
        · skip
          refine lv_iload_n hx hb dX0_readLetters_23 rfl (lv_at hl 0 rfl) ?_
          refine lv_bipush (v := nI 122) hx hb dX0_readLetters_24 (by decide) ?_
          refine z_le (tgt := 32) hx hb dX0_readLetters_26 (by decide) (Nat.lt_trans (sgT_lt hT hL6 _) (by decide)) (by omega) (fun c_6 => ?_) (fun c_6 => ?_)
          · skip
            have hlt : 97 ≤ sgT (t 0) tl (P 4 + j) ∧ sgT (t 0) tl (P 4 + j) ≤ 122 := ⟨by omega, by omega⟩
            refine lv_aload_n hx hb dX0_readLetters_32 rfl (lv_at hl 1 rfl) ?_
            refine lv_dup hx hb dX0_readLetters_33 rfl ?_
            refine va_get (D := G.1) (ci := 0) (v := .int (nI j)) (C := RX0) (T := TX0) (N := 12) hx hb hts hinX0 hown hKK.1 hP 0 rfl rfl 10 (by decide) fl_67 (fun _ h9 => h9) rfl dX0_readLetters_34 ?_
            refine lv_iconst (v := nI 1) hx hb dX0_readLetters_37 (by decide) ?_
            refine z_add (v := nI (j + 1)) hx hb dX0_readLetters_38 (nI_add _ _) ?_
            refine z_put (w2 := playW G q d (nup (nup (nup P 4 (P 4 + j)) 9 (j + 1)) 10 (wv (sgT (t 0) tl) (P 4) j)) ++ textW G b t L) hx hb hts hinX0 tyX0 tyX0_ok nmX0 hown hKK hP hD hS 0 (ci := 0) (C := RX0) (T := TX0) (N := 12) rfl rfl 10 (by decide) fl_67 rfl rfl rfl (Nat.le_of_ble_eq_true rfl) rfl dX0_readLetters_39 (fun H locs hP hD hS => ?_)
            refine lv_aload_n hx hb dX0_readLetters_42 rfl (lv_at hl 1 rfl) ?_
            refine va_get (D := G.1) (ci := 0) (v := .int (nI (j + 1))) (C := RX0) (T := TX0) (N := 12) hx hb hts hinX0 hown hKK.1 hP 0 rfl rfl 10 (by decide) fl_67 (fun _ h9 => h9) rfl dX0_readLetters_43 ?_
            refine lv_bipush (v := nI 6) hx hb dX0_readLetters_46 (by decide) ?_
            refine z_gt (tgt := 69) hx hb dX0_readLetters_48 (by decide) (by omega) (by omega) (fun c_7 => ?_) (fun c_7 => ?_)
            · skip
              refine lv_aload_n hx hb dX0_readLetters_69 rfl (lv_at hl 1 rfl) ?_
              refine lv_dup hx hb dX0_readLetters_70 rfl ?_
              refine va_get (D := G.1) (ci := 0) (v := .int (nI (P 4 + j))) (C := RX0) (T := TX0) (N := 12) hx hb hts hinX0 hown hKK.1 hP 0 rfl rfl 5 (by decide) fl_29 (fun _ h9 => h9) rfl dX0_readLetters_71 ?_
              refine lv_iconst (v := nI 1) hx hb dX0_readLetters_74 (by decide) ?_
              refine z_add (v := nI ((P 4 + j) + 1)) hx hb dX0_readLetters_75 (nI_add _ _) ?_
              refine z_put (w2 := playW G q d (nup (nup (nup P 4 ((P 4 + j) + 1)) 9 (j + 1)) 10 (wv (sgT (t 0) tl) (P 4) j)) ++ textW G b t L) hx hb hts hinX0 tyX0 tyX0_ok nmX0 hown hKK hP hD hS 0 (ci := 0) (C := RX0) (T := TX0) (N := 12) rfl rfl 5 (by decide) fl_29 rfl rfl rfl (Nat.le_of_ble_eq_true rfl) rfl dX0_readLetters_76 (fun H locs hP hD hS => ?_)
              refine lv_iinc (v := nI (j + 1)) (lv' := [(2, .int (nI (j + 1))), (3, .int (nI (sgT (t 0) tl (P 4 + j)))), (0, .ref q), (1, .ref (b 0))]) hx hb dX0_readLetters_79 hl (k := 3) rfl (nI_1 _) (by decide) rfl (fun ls hl => ?_)
              refine lv_goto (tgt := 2) hx hb dX0_readLetters_82 (by decide) ?_
              have hj60 := allL_len (allL_s hall hlt)
              have es : nup (nup (nup P 4 ((P 4 + j) + 1)) 9 (j + 1)) 10 (wv (sgT (t 0) tl) (P 4) j) = nup (nup (nup P 4 (P 4 + (j + 1))) 9 ((j + 1))) 10 (wv (sgT (t 0) tl) (P 4) ((j + 1))) := by rw [wvk (by omega), show P 4 + (j + 1) = P 4 + j + 1 by omega]
              rw [es] at hP hD
              exact ih_1 (j + 1) (allL_s hall hlt) (by omega) (by omega) _ _ _ hP hD hS (lv_sub hl [2, 3, 0] rfl)
            · skip
              refine lv_aload_n hx hb dX0_readLetters_51 rfl (lv_at hl 1 rfl) ?_
              refine lv_aload_n hx hb dX0_readLetters_52 rfl (lv_at hl 1 rfl) ?_
              refine va_get (D := G.1) (ci := 0) (v := .int (nI (wv (sgT (t 0) tl) (P 4) j))) (C := RX0) (T := TX0) (N := 12) hx hb hts hinX0 hown hKK.1 hP 0 rfl rfl 11 (by decide) fl_70 (fun _ h9 => h9) rfl dX0_readLetters_53 ?_
              refine lv_bipush (v := nI 27) hx hb dX0_readLetters_56 (by decide) ?_
              refine z_mul (v := nI ((wv (sgT (t 0) tl) (P 4) j) * 27)) hx hb dX0_readLetters_58 (pk_mul _ _) ?_
              refine lv_iload_n hx hb dX0_readLetters_59 rfl (lv_at hl 0 rfl) ?_
              refine lv_bipush (v := nI 97) hx hb dX0_readLetters_60 (by decide) ?_
              refine z_sub (v := nI ((sgT (t 0) tl (P 4 + j)) - 97)) hx hb dX0_readLetters_62 (pk_sub (by omega)) ?_
              refine lv_iconst (v := nI 1) hx hb dX0_readLetters_63 (by decide) ?_
              refine z_add (v := nI (((sgT (t 0) tl (P 4 + j)) - 97) + 1)) hx hb dX0_readLetters_64 (nI_add _ _) ?_
              refine z_add (v := nI (((wv (sgT (t 0) tl) (P 4) j) * 27) + (((sgT (t 0) tl (P 4 + j)) - 97) + 1))) hx hb dX0_readLetters_65 (nI_add _ _) ?_
              refine z_put (w2 := playW G q d (nup (nup (nup P 4 (P 4 + j)) 9 (j + 1)) 10 (((wv (sgT (t 0) tl) (P 4) j) * 27) + (((sgT (t 0) tl (P 4 + j)) - 97) + 1))) ++ textW G b t L) hx hb hts hinX0 tyX0 tyX0_ok nmX0 hown hKK hP hD hS 0 (ci := 0) (C := RX0) (T := TX0) (N := 12) rfl rfl 11 (by decide) fl_70 rfl rfl rfl (Nat.le_of_ble_eq_true rfl) rfl dX0_readLetters_66 (fun H locs hP hD hS => ?_)
              refine lv_aload_n hx hb dX0_readLetters_69 rfl (lv_at hl 1 rfl) ?_
              refine lv_dup hx hb dX0_readLetters_70 rfl ?_
              refine va_get (D := G.1) (ci := 0) (v := .int (nI (P 4 + j))) (C := RX0) (T := TX0) (N := 12) hx hb hts hinX0 hown hKK.1 hP 0 rfl rfl 5 (by decide) fl_29 (fun _ h9 => h9) rfl dX0_readLetters_71 ?_
              refine lv_iconst (v := nI 1) hx hb dX0_readLetters_74 (by decide) ?_
              refine z_add (v := nI ((P 4 + j) + 1)) hx hb dX0_readLetters_75 (nI_add _ _) ?_
              refine z_put (w2 := playW G q d (nup (nup (nup P 4 ((P 4 + j) + 1)) 9 (j + 1)) 10 (((wv (sgT (t 0) tl) (P 4) j) * 27) + (((sgT (t 0) tl (P 4 + j)) - 97) + 1))) ++ textW G b t L) hx hb hts hinX0 tyX0 tyX0_ok nmX0 hown hKK hP hD hS 0 (ci := 0) (C := RX0) (T := TX0) (N := 12) rfl rfl 5 (by decide) fl_29 rfl rfl rfl (Nat.le_of_ble_eq_true rfl) rfl dX0_readLetters_76 (fun H locs hP hD hS => ?_)
              refine lv_iinc (v := nI (j + 1)) (lv' := [(2, .int (nI (j + 1))), (3, .int (nI (sgT (t 0) tl (P 4 + j)))), (0, .ref q), (1, .ref (b 0))]) hx hb dX0_readLetters_79 hl (k := 3) rfl (nI_1 _) (by decide) rfl (fun ls hl => ?_)
              refine lv_goto (tgt := 2) hx hb dX0_readLetters_82 (by decide) ?_
              have hj60 := allL_len (allL_s hall hlt)
              have es : nup (nup (nup P 4 ((P 4 + j) + 1)) 9 (j + 1)) 10 (((wv (sgT (t 0) tl) (P 4) j) * 27) + (((sgT (t 0) tl (P 4 + j)) - 97) + 1)) = nup (nup (nup P 4 (P 4 + (j + 1))) 9 ((j + 1))) 10 (wv (sgT (t 0) tl) (P 4) ((j + 1))) := by rw [wvs (by omega), show P 4 + (j + 1) = P 4 + j + 1 by omega]; congr 1; omega
              rw [es] at hP hD
              exact ih_1 (j + 1) (allL_s hall hlt) (by omega) (by omega) _ _ _ hP hD hS (lv_sub hl [2, 3, 0] rfl)
          · skip
            have hlc := lc_is hL6 hall (by omega)
            refine lv_goto (tgt := 85) hx hb dX0_readLetters_29 (by decide) ?_
            refine lv_aload_n hx hb dX0_readLetters_85 rfl (lv_at hl 1 rfl) ?_
            refine va_get (D := G.1) (ci := 0) (v := .int (nI j)) (C := RX0) (T := TX0) (N := 12) hx hb hts hinX0 hown hKK.1 hP 0 rfl rfl 10 (by decide) fl_67 (fun _ h9 => h9) rfl dX0_readLetters_86 ?_
            refine z_ifNne (tgt := 106) hx hb dX0_readLetters_89 (by decide) (by omega) (fun c_8 => ?_) (fun c_8 => ?_)
            · skip
              exact z_vret hx hb hr hlk hP hD hS dX0_readLetters_106 (by rw [← hlc])
            · skip
              refine lv_aload_n hx hb dX0_readLetters_92 rfl (lv_at hl 1 rfl) ?_
              refine lv_iconst (v := nI 1) hx hb dX0_readLetters_93 (by decide) ?_
              refine lv_aload_n hx hb dX0_readLetters_94 rfl (lv_at hl 1 rfl) ?_
              refine va_get (D := G.1) (ci := 0) (v := .int (nI (P 4 + j))) (C := RX0) (T := TX0) (N := 12) hx hb hts hinX0 hown hKK.1 hP 0 rfl rfl 5 (by decide) fl_29 (fun _ h9 => h9) rfl dX0_readLetters_95 ?_
              refine lv_aload_n hx hb dX0_readLetters_98 rfl (lv_at hl 1 rfl) ?_
              refine va_get (D := G.1) (ci := 0) (v := .int (nI (P 3))) (C := RX0) (T := TX0) (N := 12) hx hb hts hinX0 hown hKK.1 hP 0 rfl rfl 4 (by decide) fl_37 (fun _ h9 => h9) rfl dX0_readLetters_99 ?_
              refine z_sub (v := nI ((P 4 + j) - (P 3))) hx hb dX0_readLetters_102 (pk_sub (by omega)) ?_
              refine z_callVV (As := [.int (nI 1), .int (nI ((P 4 + j) - (P 3)))]) (rest := []) (wr := (textW G b t L)) (C := RX0) F (c_X0_fail_nz l G q d (nup (nup (nup P 4 (P 4 + j)) 9 j) 10 (wv (sgT (t 0) tl) (P 4) j)) (1) ((P 4 + j) - (P 3)) (by exact h1) (by exact h2)) (cwV 2 hts gX0_readLetters_X0_fail rfl rfl rfl (by decide +kernel) ⟨Nat.le_of_ble_eq_true rfl, Nat.le_of_ble_eq_true rfl⟩) hKK (z_recv hKK hP (q0 := 0) (ci := 0) rfl rfl) (z_perm List.perm_append_comm hP) (z_permD List.perm_append_comm hD) hS hA rfl hl.1 rfl (Nat.le_of_ble_eq_true rfl) ⟨Nat.zero_le _, Nat.zero_le _⟩ dX0_readLetters_103 (fun H locs hP hD hS => ?_)
              have hP : va_P G.1 vwCl (playW G q d (nup (nup (nup P 4 (P 4 + j)) 9 j) 10 (wv (sgT (t 0) tl) (P 4) j)) ++ textW G b t L) H := (z_perm List.perm_append_comm hP)
              have hD : va_D A (playW G q d (nup (nup (nup P 4 (P 4 + j)) 9 j) 10 (wv (sgT (t 0) tl) (P 4) j)) ++ textW G b t L) := (z_permD List.perm_append_comm hD)
              exact z_vret hx hb hr hlk hP hD hS dX0_readLetters_106 (by rw [← hlc])
  have es : P = nup (nup (nup P 4 (P 4 + 0)) 9 0) 10 (wv (sgT (t 0) tl) (P 4) 0) := rl_0 P _ h9 h10
  rw [es] at hP hD
  exact key_1 _ 0 (allL_0 _ _) (by omega) (Nat.lt_succ_self _) _ _ _ hP hD hS (lv_sub hl [1, 2, 0] rfl)
