theorem c_X0_readDigit_a (l : Launch) (G : ZG) (q d : Nat) (P : Nat → Nat) (b : Nat → Nat) (t : Mem) (L : Nat → Nat) (hp4 : P 4 ≤ 400) (tl : Nat) (hL : L 0 = tl) (hL6 : tl ≤ 60) (hT : okTx (t 0)) (h : dgB (sgT (t 0) tl (P 4)) = true) (x : Nat) (hx : x = sgT (t 0) tl (P 4) - 48) : CI l G yX0_readDigit wsX0_readDigit (zRm 2 42) [.ref q, .ref (b 0)] (playW G q d P ++ textW G b t L) (nI x) (playW G q d (nup P 4 (P 4 + 1)) ++ textW G b t L) := by
  subst hx
  exact c_X0_readDigit_t l G q d P b t L hp4 tl hL hL6 hT h

set_option maxHeartbeats 4000000 in
set_option maxRecDepth 100000 in
theorem c_X0_readOrder_y61 (l : Launch) (G : ZG) (q d : Nat) (P : Nat → Nat) (b : Nat → Nat) (t : Mem) (L : Nat → Nat) (a1 a2 : Nat) (hp4 : P 4 ≤ 60) (hs34 : P 3 = P 4) (h1 : P 1 = 0) (tl : Nat) (hL : L 0 = tl) (hL6 : tl ≤ 60) (hT : okTx (t 0)) (hk : sgT (t 0) tl (P 4) = 61) (ha_1 : dgB (sgT (t 0) tl (P 4 + 1)) = true) (ha_2 : sgT (t 0) tl (P 4 + 2) = 44) (ha_3 : dgB (sgT (t 0) tl (P 4 + 3)) = true) (e1 : a1 = sgT (t 0) tl (P 4 + 1) - 48) (e2 : a2 = sgT (t 0) tl (P 4 + 3) - 48) (p : Program) (ee : Env) (s : State) (m : MethodId) (args : Array Value) (below : List Frame) (meth : Method) (c : Code) (A : Nat → Prop) (F : CallFix p m c cX0_readOrder 2 s args wsX0_readOrder RX0) (hr : meth.sig.returnType = none) (hlk : meth.locks = false) (hKK : KK G s) (hA : ∀ q, s.heap.size ≤ q → A q) (H : Heap) (locs : List Loc) (ls : Array Slot) (hP : va_P G.1 vwCl (playW G q d (nup (nup (nup (nup (nup (nup (nup P 4 (P 4 + 4)) 5 (sgT (t 0) tl (P 4))) 6 a1) 7 a2) 8 0) 9 0) 10 0) ++ textW G b t L) H) (hD : va_D A (playW G q d (nup (nup (nup (nup (nup (nup (nup P 4 (P 4 + 4)) 5 (sgT (t 0) tl (P 4))) 6 a1) 7 a2) 8 0) 9 0) 10 0) ++ textW G b t L)) (hS : va_S A s.heap H locs) (hl : lv_has ls 2 [(0, .ref q), (1, .ref (b 0))]) : W p l ee (zRm 3 65) s m args below meth c H locs 0 0 (MQ below (ZQve G A (S := Nat → Nat) (roPost (sgT (t 0) tl) P) (fun u => playW G q d u ++ textW G b t L)) args s 0 0 A) (F0 m 137 ls []) := by
  obtain ⟨hx, hb, hml, hown, hts⟩ := id F
  have hb_1 := dgB_t ha_1
  have hb_3 := dgB_t ha_3
  refine lv_aload_n hx hb dX0_readOrder_137 rfl (lv_at hl 0 rfl) ?_
  refine lv_aload_n hx hb dX0_readOrder_138 rfl (lv_at hl 1 rfl) ?_
  refine lv_bipush (v := nI 44) hx hb dX0_readOrder_139 (by decide) ?_
  rcases Classical.em (sgT (t 0) tl (P 4 + 4) = 44) with hd_1 | hd_1
  · skip
    refine z_callVV (As := [.ref (b 0), .int (nI 44)]) (rest := []) (wr := []) (C := RX0) F (c_X0_readSign_t l G q d (nup (nup (nup (nup (nup (nup (nup P 4 (P 4 + 4)) 5 (sgT (t 0) tl (P 4))) 6 a1) 7 a2) 8 0) 9 0) 10 0) b t L (44) (by omega) (show P 4 + 4 ≤ 400 by omega) tl hL hL6 hT hd_1) (cwV 2 hts gX0_readOrder_X0_readSign rfl rfl rfl (by decide +kernel) ⟨Nat.le_of_ble_eq_true rfl, Nat.le_of_ble_eq_true rfl⟩) hKK (z_recv hKK hP (q0 := 0) (ci := 0) rfl rfl) hP hD hS hA rfl hl.1 rfl (Nat.le_of_ble_eq_true rfl) ⟨Nat.zero_le _, Nat.zero_le _⟩ dX0_readOrder_141 (fun H locs hP hD hS => ?_)
    have hP : va_P G.1 vwCl (playW G q d (nup (nup (nup (nup (nup (nup (nup P 4 (P 4 + 5)) 5 (sgT (t 0) tl (P 4))) 6 a1) 7 a2) 8 0) 9 0) 10 0) ++ textW G b t L) H := hP
    have hD : va_D A (playW G q d (nup (nup (nup (nup (nup (nup (nup P 4 (P 4 + 5)) 5 (sgT (t 0) tl (P 4))) 6 a1) 7 a2) 8 0) 9 0) 10 0) ++ textW G b t L) := hD
    refine lv_aload_n hx hb dX0_readOrder_144 rfl (lv_at hl 0 rfl) ?_
    refine lv_aload_n hx hb dX0_readOrder_145 rfl (lv_at hl 1 rfl) ?_
    rcases Classical.em (0 < lc (sgT (t 0) tl) (P 4 + 5)) with hd_2 | hd_2
    · skip
      refine z_callVV (As := [.ref (b 0)]) (rest := []) (wr := []) (C := RX0) F (c_X0_readLetters_y l G q d (nup (nup (nup (nup (nup (nup (nup P 4 (P 4 + 5)) 5 (sgT (t 0) tl (P 4))) 6 a1) 7 a2) 8 0) 9 0) 10 0) b t L (show P 4 + 5 ≤ 400 by omega) tl hL hL6 hT rfl rfl hd_2) (cwV 1 hts gX0_readOrder_X0_readLetters rfl rfl rfl (by decide +kernel) ⟨Nat.le_of_ble_eq_true rfl, Nat.le_of_ble_eq_true rfl⟩) hKK (z_recv hKK hP (q0 := 0) (ci := 0) rfl rfl) hP hD hS hA rfl hl.1 rfl (Nat.le_of_ble_eq_true rfl) ⟨Nat.zero_le _, Nat.zero_le _⟩ dX0_readOrder_146 (fun H locs hP hD hS => ?_)
      have hlc6 := lc_le60 (sgT (t 0) tl) (P 4 + 5)
      have hP : va_P G.1 vwCl (playW G q d (nup (nup (nup (nup (nup (nup (nup P 4 (P 4 + 5 + lc (sgT (t 0) tl) (P 4 + 5))) 5 (sgT (t 0) tl (P 4))) 6 a1) 7 a2) 8 0) 9 (lc (sgT (t 0) tl) (P 4 + 5))) 10 (wv (sgT (t 0) tl) (P 4 + 5) (lc (sgT (t 0) tl) (P 4 + 5)))) ++ textW G b t L) H := hP
      have hD : va_D A (playW G q d (nup (nup (nup (nup (nup (nup (nup P 4 (P 4 + 5 + lc (sgT (t 0) tl) (P 4 + 5))) 5 (sgT (t 0) tl (P 4))) 6 a1) 7 a2) 8 0) 9 (lc (sgT (t 0) tl) (P 4 + 5))) 10 (wv (sgT (t 0) tl) (P 4 + 5) (lc (sgT (t 0) tl) (P 4 + 5)))) ++ textW G b t L) := hD
      refine lv_goto (tgt := 180) hx hb dX0_readOrder_149 (by decide) ?_
      refine lv_aload_n hx hb dX0_readOrder_180 rfl (lv_at hl 0 rfl) ?_
      refine lv_aload_n hx hb dX0_readOrder_181 rfl (lv_at hl 1 rfl) ?_
      refine lv_bipush (v := nI 59) hx hb dX0_readOrder_182 (by decide) ?_
      rcases Classical.em (sgT (t 0) tl (P 4 + 5 + lc (sgT (t 0) tl) (P 4 + 5)) = 59) with hd_3 | hd_3
      · skip
        refine z_callVV (As := [.ref (b 0), .int (nI 59)]) (rest := []) (wr := []) (C := RX0) F (c_X0_readSign_t l G q d (nup (nup (nup (nup (nup (nup (nup P 4 (P 4 + 5 + lc (sgT (t 0) tl) (P 4 + 5))) 5 (sgT (t 0) tl (P 4))) 6 a1) 7 a2) 8 0) 9 (lc (sgT (t 0) tl) (P 4 + 5))) 10 (wv (sgT (t 0) tl) (P 4 + 5) (lc (sgT (t 0) tl) (P 4 + 5)))) b t L (59) (by omega) (show P 4 + 5 + lc (sgT (t 0) tl) (P 4 + 5) ≤ 400 by omega) tl hL hL6 hT hd_3) (cwV 2 hts gX0_readOrder_X0_readSign rfl rfl rfl (by decide +kernel) ⟨Nat.le_of_ble_eq_true rfl, Nat.le_of_ble_eq_true rfl⟩) hKK (z_recv hKK hP (q0 := 0) (ci := 0) rfl rfl) hP hD hS hA rfl hl.1 rfl (Nat.le_of_ble_eq_true rfl) ⟨Nat.zero_le _, Nat.zero_le _⟩ dX0_readOrder_184 (fun H locs hP hD hS => ?_)
        have hP : va_P G.1 vwCl (playW G q d (nup (nup (nup (nup (nup (nup (nup P 4 (P 4 + 5 + lc (sgT (t 0) tl) (P 4 + 5) + 1)) 5 (sgT (t 0) tl (P 4))) 6 a1) 7 a2) 8 0) 9 (lc (sgT (t 0) tl) (P 4 + 5))) 10 (wv (sgT (t 0) tl) (P 4 + 5) (lc (sgT (t 0) tl) (P 4 + 5)))) ++ textW G b t L) H := hP
        have hD : va_D A (playW G q d (nup (nup (nup (nup (nup (nup (nup P 4 (P 4 + 5 + lc (sgT (t 0) tl) (P 4 + 5) + 1)) 5 (sgT (t 0) tl (P 4))) 6 a1) 7 a2) 8 0) 9 (lc (sgT (t 0) tl) (P 4 + 5))) 10 (wv (sgT (t 0) tl) (P 4 + 5) (lc (sgT (t 0) tl) (P 4 + 5)))) ++ textW G b t L) := hD
        exact z_vretE (nup (nup (nup (nup (nup (nup (nup P 4 (P 4 + 5 + lc (sgT (t 0) tl) (P 4 + 5) + 1)) 5 (sgT (t 0) tl (P 4))) 6 a1) 7 a2) 8 0) 9 (lc (sgT (t 0) tl) (P 4 + 5))) 10 (wv (sgT (t 0) tl) (P 4 + 5) (lc (sgT (t 0) tl) (P 4 + 5)))) hx hb hr hlk hP hD hS dX0_readOrder_187 (ro_yes (q := P 4 + 5 + lc (sgT (t 0) tl) (P 4 + 5) + 1) (d0 := a1) (d1 := a2) (k := lc (sgT (t 0) tl) (P 4 + 5)) (wd := wv (sgT (t 0) tl) (P 4 + 5) (lc (sgT (t 0) tl) (P 4 + 5))) (by rw [e1, e2, prs, if_neg (by omega), if_pos hk, if_pos ha_1, if_pos ha_2, if_pos ha_3, if_pos hd_1, prL, if_pos hd_2, if_pos hd_3]) ⟨show P 0 = P 0 by omega, show P 3 = P 3 by omega, show sgT (t 0) tl (P 4) = sgT (t 0) tl (P 4) by omega, show P 4 + 5 + lc (sgT (t 0) tl) (P 4 + 5) + 1 ≤ P 4 + 100 by omega, show a1 ≤ 9 by omega, show a2 ≤ 9 by omega, show 0 ≤ 9 by omega, show lc (sgT (t 0) tl) (P 4 + 5) ≤ 60 by omega⟩ (by exact h1) rfl rfl rfl (fun z => absurd z (by omega)) (fun _ => ⟨rfl, rfl, rfl⟩))
      · skip
        refine z_callVV (As := [.ref (b 0), .int (nI 59)]) (rest := []) (wr := []) (C := RX0) F (c_X0_readSign_f l G q d (nup (nup (nup (nup (nup (nup (nup P 4 (P 4 + 5 + lc (sgT (t 0) tl) (P 4 + 5))) 5 (sgT (t 0) tl (P 4))) 6 a1) 7 a2) 8 0) 9 (lc (sgT (t 0) tl) (P 4 + 5))) 10 (wv (sgT (t 0) tl) (P 4 + 5) (lc (sgT (t 0) tl) (P 4 + 5)))) b t L (59) (by omega) (show P 4 + 5 + lc (sgT (t 0) tl) (P 4 + 5) ≤ 400 by omega) tl hL hL6 hT hd_3 (by exact h1) (show P 3 ≤ P 4 + 5 + lc (sgT (t 0) tl) (P 4 + 5) by omega)) (cwV 2 hts gX0_readOrder_X0_readSign rfl rfl rfl (by decide +kernel) ⟨Nat.le_of_ble_eq_true rfl, Nat.le_of_ble_eq_true rfl⟩) hKK (z_recv hKK hP (q0 := 0) (ci := 0) rfl rfl) hP hD hS hA rfl hl.1 rfl (Nat.le_of_ble_eq_true rfl) ⟨Nat.zero_le _, Nat.zero_le _⟩ dX0_readOrder_184 (fun H locs hP hD hS => ?_)
        have hP : va_P G.1 vwCl (playW G q d (nup (nup (nup (nup (nup (nup (nup (nup (nup P 1 1) 2 (P 4 + 5 + lc (sgT (t 0) tl) (P 4 + 5) - P 3)) 4 (P 4 + 5 + lc (sgT (t 0) tl) (P 4 + 5))) 5 (sgT (t 0) tl (P 4))) 6 a1) 7 a2) 8 0) 9 (lc (sgT (t 0) tl) (P 4 + 5))) 10 (wv (sgT (t 0) tl) (P 4 + 5) (lc (sgT (t 0) tl) (P 4 + 5)))) ++ textW G b t L) H := hP
        have hD : va_D A (playW G q d (nup (nup (nup (nup (nup (nup (nup (nup (nup P 1 1) 2 (P 4 + 5 + lc (sgT (t 0) tl) (P 4 + 5) - P 3)) 4 (P 4 + 5 + lc (sgT (t 0) tl) (P 4 + 5))) 5 (sgT (t 0) tl (P 4))) 6 a1) 7 a2) 8 0) 9 (lc (sgT (t 0) tl) (P 4 + 5))) 10 (wv (sgT (t 0) tl) (P 4 + 5) (lc (sgT (t 0) tl) (P 4 + 5)))) ++ textW G b t L) := hD
        exact z_vretE (nup (nup (nup (nup (nup (nup (nup (nup (nup P 1 1) 2 (P 4 + 5 + lc (sgT (t 0) tl) (P 4 + 5) - P 3)) 4 (P 4 + 5 + lc (sgT (t 0) tl) (P 4 + 5))) 5 (sgT (t 0) tl (P 4))) 6 a1) 7 a2) 8 0) 9 (lc (sgT (t 0) tl) (P 4 + 5))) 10 (wv (sgT (t 0) tl) (P 4 + 5) (lc (sgT (t 0) tl) (P 4 + 5)))) hx hb hr hlk hP hD hS dX0_readOrder_187 (ro_no (q := P 4 + 5 + lc (sgT (t 0) tl) (P 4 + 5)) (by rw [prs, if_neg (by omega), if_pos hk, if_pos ha_1, if_pos ha_2, if_pos ha_3, if_pos hd_1, prL, if_pos hd_2, if_neg hd_3]) ⟨show P 0 = P 0 by omega, show P 3 = P 3 by omega, show sgT (t 0) tl (P 4) = sgT (t 0) tl (P 4) by omega, show P 4 + 5 + lc (sgT (t 0) tl) (P 4 + 5) ≤ P 4 + 100 by omega, show a1 ≤ 9 by omega, show a2 ≤ 9 by omega, show 0 ≤ 9 by omega, show lc (sgT (t 0) tl) (P 4 + 5) ≤ 60 by omega⟩ (show 1 = 1 by omega) (show P 4 + 5 + lc (sgT (t 0) tl) (P 4 + 5) - P 3 = P 4 + 5 + lc (sgT (t 0) tl) (P 4 + 5) - P 4 by omega))
    · have hlc6 := lc_le60 (sgT (t 0) tl) (P 4 + 5)
      refine z_callVV (As := [.ref (b 0)]) (rest := []) (wr := []) (C := RX0) F (c_X0_readLetters_f l G q d (nup (nup (nup (nup (nup (nup (nup P 4 (P 4 + 5)) 5 (sgT (t 0) tl (P 4))) 6 a1) 7 a2) 8 0) 9 0) 10 0) b t L (show P 4 + 5 ≤ 400 by omega) tl hL hL6 hT rfl rfl (show lc (sgT (t 0) tl) (P 4 + 5) = 0 by omega) (by exact h1) (show P 3 ≤ P 4 + 5 by omega)) (cwV 1 hts gX0_readOrder_X0_readLetters rfl rfl rfl (by decide +kernel) ⟨Nat.le_of_ble_eq_true rfl, Nat.le_of_ble_eq_true rfl⟩) hKK (z_recv hKK hP (q0 := 0) (ci := 0) rfl rfl) hP hD hS hA rfl hl.1 rfl (Nat.le_of_ble_eq_true rfl) ⟨Nat.zero_le _, Nat.zero_le _⟩ dX0_readOrder_146 (fun H locs hP hD hS => ?_)
      have hP : va_P G.1 vwCl (playW G q d (nup (nup (nup (nup (nup (nup (nup (nup (nup P 1 1) 2 (P 4 + 5 + lc (sgT (t 0) tl) (P 4 + 5) - P 3)) 4 (P 4 + 5 + lc (sgT (t 0) tl) (P 4 + 5))) 5 (sgT (t 0) tl (P 4))) 6 a1) 7 a2) 8 0) 9 (lc (sgT (t 0) tl) (P 4 + 5))) 10 (wv (sgT (t 0) tl) (P 4 + 5) (lc (sgT (t 0) tl) (P 4 + 5)))) ++ textW G b t L) H := hP
      have hD : va_D A (playW G q d (nup (nup (nup (nup (nup (nup (nup (nup (nup P 1 1) 2 (P 4 + 5 + lc (sgT (t 0) tl) (P 4 + 5) - P 3)) 4 (P 4 + 5 + lc (sgT (t 0) tl) (P 4 + 5))) 5 (sgT (t 0) tl (P 4))) 6 a1) 7 a2) 8 0) 9 (lc (sgT (t 0) tl) (P 4 + 5))) 10 (wv (sgT (t 0) tl) (P 4 + 5) (lc (sgT (t 0) tl) (P 4 + 5)))) ++ textW G b t L) := hD
      refine lv_goto (tgt := 180) hx hb dX0_readOrder_149 (by decide) ?_
      refine lv_aload_n hx hb dX0_readOrder_180 rfl (lv_at hl 0 rfl) ?_
      refine lv_aload_n hx hb dX0_readOrder_181 rfl (lv_at hl 1 rfl) ?_
      refine lv_bipush (v := nI 59) hx hb dX0_readOrder_182 (by decide) ?_
      refine z_callVVE (As := [.ref (b 0), .int (nI 59)]) (rest := []) (wr := []) (C := RX0) F (c_FL_sign l G q d P (nup (nup (nup (nup (nup (nup (nup (nup (nup P 1 1) 2 (P 4 + 5 + lc (sgT (t 0) tl) (P 4 + 5) - P 3)) 4 (P 4 + 5 + lc (sgT (t 0) tl) (P 4 + 5))) 5 (sgT (t 0) tl (P 4))) 6 a1) 7 a2) 8 0) 9 (lc (sgT (t 0) tl) (P 4 + 5))) 10 (wv (sgT (t 0) tl) (P 4 + 5) (lc (sgT (t 0) tl) (P 4 + 5)))) b t L (sgT (t 0) tl (P 4)) (P 4 + 5 + lc (sgT (t 0) tl) (P 4 + 5) - P 3) (P 4 + 5 + lc (sgT (t 0) tl) (P 4 + 5)) tl (show P 4 + 5 + lc (sgT (t 0) tl) (P 4 + 5) ≤ 400 by omega) hL hL6 hT (59) (by omega) (show FSL P (sgT (t 0) tl (P 4)) (P 4 + 5 + lc (sgT (t 0) tl) (P 4 + 5) - P 3) (P 4 + 5 + lc (sgT (t 0) tl) (P 4 + 5)) (nup (nup (nup (nup (nup (nup (nup (nup (nup P 1 1) 2 (P 4 + 5 + lc (sgT (t 0) tl) (P 4 + 5) - P 3)) 4 (P 4 + 5 + lc (sgT (t 0) tl) (P 4 + 5))) 5 (sgT (t 0) tl (P 4))) 6 a1) 7 a2) 8 0) 9 (lc (sgT (t 0) tl) (P 4 + 5))) 10 (wv (sgT (t 0) tl) (P 4 + 5) (lc (sgT (t 0) tl) (P 4 + 5)))) from ⟨rfl, rfl, rfl, rfl, rfl, show a1 ≤ 9 by omega, show a2 ≤ 9 by omega, show 0 ≤ 9 by omega, show lc (sgT (t 0) tl) (P 4 + 5) ≤ 60 by omega, Nat.le_refl _, show P 3 ≤ P 4 + 5 + lc (sgT (t 0) tl) (P 4 + 5) by omega⟩)) (cwV 2 hts gX0_readOrder_X0_readSign rfl rfl rfl (by decide +kernel) ⟨Nat.le_of_ble_eq_true rfl, Nat.le_of_ble_eq_true rfl⟩) hKK (z_recv hKK hP (q0 := 0) (ci := 0) rfl rfl) hP hD hS hA rfl hl.1 rfl (Nat.le_of_ble_eq_true rfl) ⟨Nat.zero_le _, Nat.zero_le _⟩ dX0_readOrder_184 (fun u_4 H locs hq_4 hP hD hS => ?_)
      have hP : va_P G.1 vwCl (playW G q d u_4 ++ textW G b t L) H := hP
      have hD : va_D A (playW G q d u_4 ++ textW G b t L) := hD
      exact z_vretE u_4 hx hb hr hlk hP hD hS dX0_readOrder_187 (ro_fin (q := P 4 + 5 + lc (sgT (t 0) tl) (P 4 + 5)) (by rw [prs, if_neg (by omega), if_pos hk, if_pos ha_1, if_pos ha_2, if_pos ha_3, if_pos hd_1, prL, if_neg hd_2]) hq_4 (by omega) (by omega))
  · skip
    refine z_callVV (As := [.ref (b 0), .int (nI 44)]) (rest := []) (wr := []) (C := RX0) F (c_X0_readSign_f l G q d (nup (nup (nup (nup (nup (nup (nup P 4 (P 4 + 4)) 5 (sgT (t 0) tl (P 4))) 6 a1) 7 a2) 8 0) 9 0) 10 0) b t L (44) (by omega) (show P 4 + 4 ≤ 400 by omega) tl hL hL6 hT hd_1 (by exact h1) (show P 3 ≤ P 4 + 4 by omega)) (cwV 2 hts gX0_readOrder_X0_readSign rfl rfl rfl (by decide +kernel) ⟨Nat.le_of_ble_eq_true rfl, Nat.le_of_ble_eq_true rfl⟩) hKK (z_recv hKK hP (q0 := 0) (ci := 0) rfl rfl) hP hD hS hA rfl hl.1 rfl (Nat.le_of_ble_eq_true rfl) ⟨Nat.zero_le _, Nat.zero_le _⟩ dX0_readOrder_141 (fun H locs hP hD hS => ?_)
    have hP : va_P G.1 vwCl (playW G q d (nup (nup (nup (nup (nup (nup (nup (nup (nup P 1 1) 2 (P 4 + 4 - P 3)) 4 (P 4 + 4)) 5 (sgT (t 0) tl (P 4))) 6 a1) 7 a2) 8 0) 9 0) 10 0) ++ textW G b t L) H := hP
    have hD : va_D A (playW G q d (nup (nup (nup (nup (nup (nup (nup (nup (nup P 1 1) 2 (P 4 + 4 - P 3)) 4 (P 4 + 4)) 5 (sgT (t 0) tl (P 4))) 6 a1) 7 a2) 8 0) 9 0) 10 0) ++ textW G b t L) := hD
    refine lv_aload_n hx hb dX0_readOrder_144 rfl (lv_at hl 0 rfl) ?_
    refine lv_aload_n hx hb dX0_readOrder_145 rfl (lv_at hl 1 rfl) ?_
    refine z_callVVE (As := [.ref (b 0)]) (rest := []) (wr := []) (C := RX0) F (c_F_letters l G q d P (nup (nup (nup (nup (nup (nup (nup (nup (nup P 1 1) 2 (P 4 + 4 - P 3)) 4 (P 4 + 4)) 5 (sgT (t 0) tl (P 4))) 6 a1) 7 a2) 8 0) 9 0) 10 0) b t L (sgT (t 0) tl (P 4)) (P 4 + 4 - P 3) (P 4 + 4) tl (show P 4 + 4 ≤ 400 by omega) hL hL6 hT (show FS P (sgT (t 0) tl (P 4)) (P 4 + 4 - P 3) (P 4 + 4) (nup (nup (nup (nup (nup (nup (nup (nup (nup P 1 1) 2 (P 4 + 4 - P 3)) 4 (P 4 + 4)) 5 (sgT (t 0) tl (P 4))) 6 a1) 7 a2) 8 0) 9 0) 10 0) from ⟨rfl, rfl, rfl, rfl, rfl, show a1 ≤ 9 by omega, show a2 ≤ 9 by omega, show 0 ≤ 9 by omega, rfl, rfl, Nat.le_refl _, show P 3 ≤ P 4 + 4 by omega⟩)) (cwV 1 hts gX0_readOrder_X0_readLetters rfl rfl rfl (by decide +kernel) ⟨Nat.le_of_ble_eq_true rfl, Nat.le_of_ble_eq_true rfl⟩) hKK (z_recv hKK hP (q0 := 0) (ci := 0) rfl rfl) hP hD hS hA rfl hl.1 rfl (Nat.le_of_ble_eq_true rfl) ⟨Nat.zero_le _, Nat.zero_le _⟩ dX0_readOrder_146 (fun u_5 H locs hq_5 hP hD hS => ?_)
    have hP : va_P G.1 vwCl (playW G q d u_5 ++ textW G b t L) H := hP
    have hD : va_D A (playW G q d u_5 ++ textW G b t L) := hD
    refine lv_goto (tgt := 180) hx hb dX0_readOrder_149 (by decide) ?_
    refine lv_aload_n hx hb dX0_readOrder_180 rfl (lv_at hl 0 rfl) ?_
    refine lv_aload_n hx hb dX0_readOrder_181 rfl (lv_at hl 1 rfl) ?_
    refine lv_bipush (v := nI 59) hx hb dX0_readOrder_182 (by decide) ?_
    refine z_callVVE (As := [.ref (b 0), .int (nI 59)]) (rest := []) (wr := []) (C := RX0) F (c_FL_sign l G q d P u_5 b t L (sgT (t 0) tl (P 4)) (P 4 + 4 - P 3) (P 4 + 4 + 60) tl (show P 4 + 4 + 60 ≤ 400 by omega) hL hL6 hT (59) (by omega) hq_5) (cwV 2 hts gX0_readOrder_X0_readSign rfl rfl rfl (by decide +kernel) ⟨Nat.le_of_ble_eq_true rfl, Nat.le_of_ble_eq_true rfl⟩) hKK (z_recv hKK hP (q0 := 0) (ci := 0) rfl rfl) hP hD hS hA rfl hl.1 rfl (Nat.le_of_ble_eq_true rfl) ⟨Nat.zero_le _, Nat.zero_le _⟩ dX0_readOrder_184 (fun u_6 H locs hq_6 hP hD hS => ?_)
    have hP : va_P G.1 vwCl (playW G q d u_6 ++ textW G b t L) H := hP
    have hD : va_D A (playW G q d u_6 ++ textW G b t L) := hD
    exact z_vretE u_6 hx hb hr hlk hP hD hS dX0_readOrder_187 (ro_fin (q := P 4 + 4) (by rw [prs, if_neg (by omega), if_pos hk, if_pos ha_1, if_pos ha_2, if_pos ha_3, if_neg hd_1]) hq_6 (by omega) (by omega))

set_option maxHeartbeats 4000000 in
set_option maxRecDepth 100000 in
theorem c_X0_readOrder_n61 (l : Launch) (G : ZG) (q d : Nat) (P : Nat → Nat) (b : Nat → Nat) (t : Mem) (L : Nat → Nat) (u : Nat → Nat) (qq c0 n : Nat) (tl : Nat) (hL : L 0 = tl) (hL6 : tl ≤ 60) (hT : okTx (t 0)) (hF : FS P (sgT (t 0) tl (P 4)) c0 n u) (hp : prs (sgT (t 0) tl) (P 4) = (qq, none)) (hc : c0 = qq - P 4) (hn : n ≤ P 4 + 20) (hp4 : P 4 ≤ 60) (p : Program) (ee : Env) (s : State) (m : MethodId) (args : Array Value) (below : List Frame) (meth : Method) (c : Code) (A : Nat → Prop) (F : CallFix p m c cX0_readOrder 2 s args wsX0_readOrder RX0) (hr : meth.sig.returnType = none) (hlk : meth.locks = false) (hKK : KK G s) (hA : ∀ q, s.heap.size ≤ q → A q) (H : Heap) (locs : List Loc) (ls : Array Slot) (hP : va_P G.1 vwCl (playW G q d u ++ textW G b t L) H) (hD : va_D A (playW G q d u ++ textW G b t L)) (hS : va_S A s.heap H locs) (hl : lv_has ls 2 [(0, .ref q), (1, .ref (b 0))]) : W p l ee (zRm 3 65) s m args below meth c H locs 0 0 (MQ below (ZQve G A (S := Nat → Nat) (roPost (sgT (t 0) tl) P) (fun u => playW G q d u ++ textW G b t L)) args s 0 0 A) (F0 m 137 ls []) := by
  obtain ⟨hx, hb, hml, hown, hts⟩ := id F
  refine lv_aload_n hx hb dX0_readOrder_137 rfl (lv_at hl 0 rfl) ?_
  refine lv_aload_n hx hb dX0_readOrder_138 rfl (lv_at hl 1 rfl) ?_
  refine lv_bipush (v := nI 44) hx hb dX0_readOrder_139 (by decide) ?_
  refine z_callVVE (As := [.ref (b 0), .int (nI 44)]) (rest := []) (wr := []) (C := RX0) F (c_F_sign l G q d P u b t L (sgT (t 0) tl (P 4)) (c0) (n) tl (show n ≤ 400 by omega) hL hL6 hT (44) (by omega) hF) (cwV 2 hts gX0_readOrder_X0_readSign rfl rfl rfl (by decide +kernel) ⟨Nat.le_of_ble_eq_true rfl, Nat.le_of_ble_eq_true rfl⟩) hKK (z_recv hKK hP (q0 := 0) (ci := 0) rfl rfl) hP hD hS hA rfl hl.1 rfl (Nat.le_of_ble_eq_true rfl) ⟨Nat.zero_le _, Nat.zero_le _⟩ dX0_readOrder_141 (fun u_1 H locs hq_1 hP hD hS => ?_)
  have hP : va_P G.1 vwCl (playW G q d u_1 ++ textW G b t L) H := hP
  have hD : va_D A (playW G q d u_1 ++ textW G b t L) := hD
  refine lv_aload_n hx hb dX0_readOrder_144 rfl (lv_at hl 0 rfl) ?_
  refine lv_aload_n hx hb dX0_readOrder_145 rfl (lv_at hl 1 rfl) ?_
  refine z_callVVE (As := [.ref (b 0)]) (rest := []) (wr := []) (C := RX0) F (c_F_letters l G q d P u_1 b t L (sgT (t 0) tl (P 4)) (c0) (n + 1) tl (show n + 1 ≤ 400 by omega) hL hL6 hT hq_1) (cwV 1 hts gX0_readOrder_X0_readLetters rfl rfl rfl (by decide +kernel) ⟨Nat.le_of_ble_eq_true rfl, Nat.le_of_ble_eq_true rfl⟩) hKK (z_recv hKK hP (q0 := 0) (ci := 0) rfl rfl) hP hD hS hA rfl hl.1 rfl (Nat.le_of_ble_eq_true rfl) ⟨Nat.zero_le _, Nat.zero_le _⟩ dX0_readOrder_146 (fun u_2 H locs hq_2 hP hD hS => ?_)
  have hP : va_P G.1 vwCl (playW G q d u_2 ++ textW G b t L) H := hP
  have hD : va_D A (playW G q d u_2 ++ textW G b t L) := hD
  refine lv_goto (tgt := 180) hx hb dX0_readOrder_149 (by decide) ?_
  refine lv_aload_n hx hb dX0_readOrder_180 rfl (lv_at hl 0 rfl) ?_
  refine lv_aload_n hx hb dX0_readOrder_181 rfl (lv_at hl 1 rfl) ?_
  refine lv_bipush (v := nI 59) hx hb dX0_readOrder_182 (by decide) ?_
  refine z_callVVE (As := [.ref (b 0), .int (nI 59)]) (rest := []) (wr := []) (C := RX0) F (c_FL_sign l G q d P u_2 b t L (sgT (t 0) tl (P 4)) (c0) (n + 1 + 60) tl (show n + 1 + 60 ≤ 400 by omega) hL hL6 hT (59) (by omega) hq_2) (cwV 2 hts gX0_readOrder_X0_readSign rfl rfl rfl (by decide +kernel) ⟨Nat.le_of_ble_eq_true rfl, Nat.le_of_ble_eq_true rfl⟩) hKK (z_recv hKK hP (q0 := 0) (ci := 0) rfl rfl) hP hD hS hA rfl hl.1 rfl (Nat.le_of_ble_eq_true rfl) ⟨Nat.zero_le _, Nat.zero_le _⟩ dX0_readOrder_184 (fun u_3 H locs hq_3 hP hD hS => ?_)
  have hP : va_P G.1 vwCl (playW G q d u_3 ++ textW G b t L) H := hP
  have hD : va_D A (playW G q d u_3 ++ textW G b t L) := hD
  exact z_vretE u_3 hx hb hr hlk hP hD hS dX0_readOrder_187 (ro_fin hp hq_3 hc (by omega))

set_option maxHeartbeats 4000000 in
set_option maxRecDepth 100000 in
theorem c_X0_readOrder_k33 (l : Launch) (G : ZG) (q d : Nat) (P : Nat → Nat) (b : Nat → Nat) (t : Mem) (L : Nat → Nat) (hp4 : P 4 ≤ 60) (hs34 : P 3 = P 4) (h1 : P 1 = 0) (tl : Nat) (hL : L 0 = tl) (hL6 : tl ≤ 60) (hT : okTx (t 0)) (hk : sgT (t 0) tl (P 4) = 33) : CVE l G yX0_readOrder wsX0_readOrder (zRm 3 65) [.ref q, .ref (b 0)] (playW G q d P ++ textW G b t L) (S := Nat → Nat) (roPost (sgT (t 0) tl) P) (fun u => playW G q d u ++ textW G b t L) := by
  refine CVE.ent (cc := cX0_readOrder) (maxL := 2) (own := RX0) (by decide) rfl rfl (Nat.le_of_ble_eq_true rfl) ?_
  intro p ee s m args below meth c A ls F hr hlk hKK hP hD hA hS hl
  obtain ⟨hx, hb, hml, hown, hts⟩ := id F
  have hl : lv_has ls 2 [(0, .ref q), (1, .ref (b 0))] := hl
  have fl_29 := hts (.fieldLink RX0 29 "NameRolls$Player" "at" "I") (by decide +kernel)
  have fl_54 := hts (.fieldLink RX0 54 "NameRolls$Player" "kind" "C") (by decide +kernel)
  have fl_58 := hts (.fieldLink RX0 58 "NameRolls$Player" "table" "I") (by decide +kernel)
  have fl_61 := hts (.fieldLink RX0 61 "NameRolls$Player" "cell" "I") (by decide +kernel)
  have fl_64 := hts (.fieldLink RX0 64 "NameRolls$Player" "rule" "I") (by decide +kernel)
  have fl_67 := hts (.fieldLink RX0 67 "NameRolls$Player" "letters" "I") (by decide +kernel)
  have fl_70 := hts (.fieldLink RX0 70 "NameRolls$Player" "name" "I") (by decide +kernel)
  have hinX0 : ∀ w ∈ wsX00, w ∈ wsX0_readOrder := by decide +kernel
  refine lv_aload_n hx hb dX0_readOrder_0 rfl (lv_at hl 0 rfl) ?_
  refine lv_aload_n hx hb dX0_readOrder_1 rfl (lv_at hl 1 rfl) ?_
  refine lv_aload_n hx hb dX0_readOrder_2 rfl (lv_at hl 0 rfl) ?_
  refine va_get (D := G.1) (ci := 0) (v := .int (nI (P 4))) (C := RX0) (T := TX0) (N := 12) hx hb hts hinX0 hown hKK.1 hP 0 rfl rfl 5 (by decide) fl_29 (fun _ h9 => h9) rfl dX0_readOrder_3 ?_
  refine z_callVI (As := [.int (nI (P 4))]) (rest := [.ref q]) (wr := (playW G q d P)) (C := RX2) F (c_X2_signAt l G b t L (P 4) (by omega) tl hL hL6 hT) (cwV 1 hts gX0_readOrder_X2_signAt rfl rfl rfl (by decide +kernel) ⟨Nat.le_of_ble_eq_true rfl, Nat.le_of_ble_eq_true rfl⟩) hKK (z_recv hKK hP (q0 := 1) (ci := 2) rfl rfl) hP hD hS hA rfl hl.1 rfl (Nat.le_of_ble_eq_true rfl) ⟨Nat.zero_le _, Nat.zero_le _⟩ dX0_readOrder_6 (fun H locs hP hD hS => ?_)
  have hP : va_P G.1 vwCl (playW G q d P ++ textW G b t L) H := hP
  have hD : va_D A (playW G q d P ++ textW G b t L) := hD
  refine z_putC (w2 := playW G q d (nup P 5 (sgT (t 0) tl (P 4))) ++ textW G b t L) hx hb hts hinX0 tyX0 tyX0_ok nmX0 hown hKK hP hD hS 0 (ci := 0) (C := RX0) (T := TX0) (N := 12) rfl rfl 6 (by decide) fl_54 rfl rfl ⟨rfl, _, sgT_lt hT hL6 _, rfl⟩ (Nat.le_of_ble_eq_true rfl) rfl dX0_readOrder_9 (fun H locs hP hD hS => ?_)
  refine lv_aload_n hx hb dX0_readOrder_12 rfl (lv_at hl 0 rfl) ?_
  refine lv_iconst (v := nI 0) hx hb dX0_readOrder_13 (by decide) ?_
  refine z_put (w2 := playW G q d (nup (nup P 5 (sgT (t 0) tl (P 4))) 6 0) ++ textW G b t L) hx hb hts hinX0 tyX0 tyX0_ok nmX0 hown hKK hP hD hS 0 (ci := 0) (C := RX0) (T := TX0) (N := 12) rfl rfl 7 (by decide) fl_58 rfl rfl rfl (Nat.le_of_ble_eq_true rfl) rfl dX0_readOrder_14 (fun H locs hP hD hS => ?_)
  refine lv_aload_n hx hb dX0_readOrder_17 rfl (lv_at hl 0 rfl) ?_
  refine lv_iconst (v := nI 0) hx hb dX0_readOrder_18 (by decide) ?_
  refine z_put (w2 := playW G q d (nup (nup (nup P 5 (sgT (t 0) tl (P 4))) 6 0) 7 0) ++ textW G b t L) hx hb hts hinX0 tyX0 tyX0_ok nmX0 hown hKK hP hD hS 0 (ci := 0) (C := RX0) (T := TX0) (N := 12) rfl rfl 8 (by decide) fl_61 rfl rfl rfl (Nat.le_of_ble_eq_true rfl) rfl dX0_readOrder_19 (fun H locs hP hD hS => ?_)
  refine lv_aload_n hx hb dX0_readOrder_22 rfl (lv_at hl 0 rfl) ?_
  refine lv_iconst (v := nI 0) hx hb dX0_readOrder_23 (by decide) ?_
  refine z_put (w2 := playW G q d (nup (nup (nup (nup P 5 (sgT (t 0) tl (P 4))) 6 0) 7 0) 8 0) ++ textW G b t L) hx hb hts hinX0 tyX0 tyX0_ok nmX0 hown hKK hP hD hS 0 (ci := 0) (C := RX0) (T := TX0) (N := 12) rfl rfl 9 (by decide) fl_64 rfl rfl rfl (Nat.le_of_ble_eq_true rfl) rfl dX0_readOrder_24 (fun H locs hP hD hS => ?_)
  refine lv_aload_n hx hb dX0_readOrder_27 rfl (lv_at hl 0 rfl) ?_
  refine lv_iconst (v := nI 0) hx hb dX0_readOrder_28 (by decide) ?_
  refine z_put (w2 := playW G q d (nup (nup (nup (nup (nup P 5 (sgT (t 0) tl (P 4))) 6 0) 7 0) 8 0) 9 0) ++ textW G b t L) hx hb hts hinX0 tyX0 tyX0_ok nmX0 hown hKK hP hD hS 0 (ci := 0) (C := RX0) (T := TX0) (N := 12) rfl rfl 10 (by decide) fl_67 rfl rfl rfl (Nat.le_of_ble_eq_true rfl) rfl dX0_readOrder_29 (fun H locs hP hD hS => ?_)
  refine lv_aload_n hx hb dX0_readOrder_32 rfl (lv_at hl 0 rfl) ?_
  refine lv_iconst (v := nI 0) hx hb dX0_readOrder_33 (by decide) ?_
  refine z_put (w2 := playW G q d (nup (nup (nup (nup (nup (nup P 5 (sgT (t 0) tl (P 4))) 6 0) 7 0) 8 0) 9 0) 10 0) ++ textW G b t L) hx hb hts hinX0 tyX0 tyX0_ok nmX0 hown hKK hP hD hS 0 (ci := 0) (C := RX0) (T := TX0) (N := 12) rfl rfl 11 (by decide) fl_70 rfl rfl rfl (Nat.le_of_ble_eq_true rfl) rfl dX0_readOrder_34 (fun H locs hP hD hS => ?_)
  refine lv_aload_n hx hb dX0_readOrder_37 rfl (lv_at hl 0 rfl) ?_
  refine va_get (D := G.1) (ci := 0) (v := .int (nI (sgT (t 0) tl (P 4)))) (C := RX0) (T := TX0) (N := 12) hx hb hts hinX0 hown hKK.1 hP 0 rfl rfl 6 (by decide) fl_54 (fun _ h9 => h9) rfl dX0_readOrder_38 ?_
  refine z_top (v := nI 33) (by rw [hk]) ?_
  refine lv_lookup (off := 111) (tgt := 152) hx hb dX0_readOrder_41 (by decide) (by decide) (by decide) ?_
  refine lv_aload_n hx hb dX0_readOrder_152 rfl (lv_at hl 0 rfl) ?_
  refine lv_dup hx hb dX0_readOrder_153 rfl ?_
  refine va_get (D := G.1) (ci := 0) (v := .int (nI (P 4))) (C := RX0) (T := TX0) (N := 12) hx hb hts hinX0 hown hKK.1 hP 0 rfl rfl 5 (by decide) fl_29 (fun _ h9 => h9) rfl dX0_readOrder_154 ?_
  refine lv_iconst (v := nI 1) hx hb dX0_readOrder_157 (by decide) ?_
  refine z_add (v := nI ((P 4) + 1)) hx hb dX0_readOrder_158 (nI_add _ _) ?_
  refine z_put (w2 := playW G q d (nup (nup (nup (nup (nup (nup (nup P 4 ((P 4) + 1)) 5 (sgT (t 0) tl (P 4))) 6 0) 7 0) 8 0) 9 0) 10 0) ++ textW G b t L) hx hb hts hinX0 tyX0 tyX0_ok nmX0 hown hKK hP hD hS 0 (ci := 0) (C := RX0) (T := TX0) (N := 12) rfl rfl 5 (by decide) fl_29 rfl rfl rfl (Nat.le_of_ble_eq_true rfl) rfl dX0_readOrder_159 (fun H locs hP hD hS => ?_)
  refine lv_aload_n hx hb dX0_readOrder_162 rfl (lv_at hl 0 rfl) ?_
  refine lv_aload_n hx hb dX0_readOrder_163 rfl (lv_at hl 0 rfl) ?_
  refine lv_aload_n hx hb dX0_readOrder_164 rfl (lv_at hl 1 rfl) ?_
  rcases z_b (dgB (sgT (t 0) tl ((P 4) + 1))) with hd_1 | hd_1
  · have hg_1 := dgB_t hd_1
    obtain ⟨a_1, ea_1⟩ : ∃ a0, a0 = sgT (t 0) tl ((P 4) + 1) - 48 := ⟨_, rfl⟩
    refine z_callVI (As := [.ref (b 0)]) (rest := [.ref q]) (wr := []) (C := RX0) F (c_X0_readDigit_a l G q d (nup (nup (nup (nup (nup (nup (nup P 4 ((P 4) + 1)) 5 (sgT (t 0) tl (P 4))) 6 0) 7 0) 8 0) 9 0) 10 0) b t L (show (P 4) + 1 ≤ 400 by omega) tl hL hL6 hT hd_1 a_1 ea_1) (cwV 1 hts gX0_readOrder_X0_readDigit rfl rfl rfl (by decide +kernel) ⟨Nat.le_of_ble_eq_true rfl, Nat.le_of_ble_eq_true rfl⟩) hKK (z_recv hKK hP (q0 := 0) (ci := 0) rfl rfl) hP hD hS hA rfl hl.1 rfl (Nat.le_of_ble_eq_true rfl) ⟨Nat.zero_le _, Nat.zero_le _⟩ dX0_readOrder_165 (fun H locs hP hD hS => ?_)
    have hP : va_P G.1 vwCl (playW G q d (nup (nup (nup (nup (nup (nup (nup P 4 ((P 4) + 2)) 5 (sgT (t 0) tl (P 4))) 6 0) 7 0) 8 0) 9 0) 10 0) ++ textW G b t L) H := hP
    have hD : va_D A (playW G q d (nup (nup (nup (nup (nup (nup (nup P 4 ((P 4) + 2)) 5 (sgT (t 0) tl (P 4))) 6 0) 7 0) 8 0) 9 0) 10 0) ++ textW G b t L) := hD
    refine z_put (w2 := playW G q d (nup (nup (nup (nup (nup (nup (nup P 4 ((P 4) + 2)) 5 (sgT (t 0) tl (P 4))) 6 0) 7 0) 8 a_1) 9 0) 10 0) ++ textW G b t L) hx hb hts hinX0 tyX0 tyX0_ok nmX0 hown hKK hP hD hS 0 (ci := 0) (C := RX0) (T := TX0) (N := 12) rfl rfl 9 (by decide) fl_64 rfl rfl rfl (Nat.le_of_ble_eq_true rfl) rfl dX0_readOrder_168 (fun H locs hP hD hS => ?_)
    refine lv_goto (tgt := 180) hx hb dX0_readOrder_171 (by decide) ?_
    refine lv_aload_n hx hb dX0_readOrder_180 rfl (lv_at hl 0 rfl) ?_
    refine lv_aload_n hx hb dX0_readOrder_181 rfl (lv_at hl 1 rfl) ?_
    refine lv_bipush (v := nI 59) hx hb dX0_readOrder_182 (by decide) ?_
    rcases Classical.em (sgT (t 0) tl ((P 4) + 2) = 59) with hd_2 | hd_2
    · skip
      refine z_callVV (As := [.ref (b 0), .int (nI 59)]) (rest := []) (wr := []) (C := RX0) F (c_X0_readSign_t l G q d (nup (nup (nup (nup (nup (nup (nup P 4 ((P 4) + 2)) 5 (sgT (t 0) tl (P 4))) 6 0) 7 0) 8 a_1) 9 0) 10 0) b t L (59) (by omega) (show (P 4) + 2 ≤ 400 by omega) tl hL hL6 hT hd_2) (cwV 2 hts gX0_readOrder_X0_readSign rfl rfl rfl (by decide +kernel) ⟨Nat.le_of_ble_eq_true rfl, Nat.le_of_ble_eq_true rfl⟩) hKK (z_recv hKK hP (q0 := 0) (ci := 0) rfl rfl) hP hD hS hA rfl hl.1 rfl (Nat.le_of_ble_eq_true rfl) ⟨Nat.zero_le _, Nat.zero_le _⟩ dX0_readOrder_184 (fun H locs hP hD hS => ?_)
      have hP : va_P G.1 vwCl (playW G q d (nup (nup (nup (nup (nup (nup (nup P 4 ((P 4) + 3)) 5 (sgT (t 0) tl (P 4))) 6 0) 7 0) 8 a_1) 9 0) 10 0) ++ textW G b t L) H := hP
      have hD : va_D A (playW G q d (nup (nup (nup (nup (nup (nup (nup P 4 ((P 4) + 3)) 5 (sgT (t 0) tl (P 4))) 6 0) 7 0) 8 a_1) 9 0) 10 0) ++ textW G b t L) := hD
      exact z_vretE (nup (nup (nup (nup (nup (nup (nup P 4 ((P 4) + 3)) 5 (sgT (t 0) tl (P 4))) 6 0) 7 0) 8 a_1) 9 0) 10 0) hx hb hr hlk hP hD hS dX0_readOrder_187 (ro_yes (q := (P 4) + 3) (d0 := a_1) (d1 := 0) (k := 0) (wd := 0) (by rw [ea_1, prs, if_pos hk, if_pos hd_1, if_pos hd_2]) ⟨show P 0 = P 0 by omega, show P 3 = P 3 by omega, show sgT (t 0) tl (P 4) = sgT (t 0) tl (P 4) by omega, show (P 4) + 3 ≤ P 4 + 100 by omega, show 0 ≤ 9 by omega, show 0 ≤ 9 by omega, show a_1 ≤ 9 by omega, show 0 ≤ 60 by omega⟩ (by exact h1) rfl rfl rfl (fun _ => ⟨rfl, rfl, rfl⟩) (fun z => absurd hk z))
    · skip
      refine z_callVV (As := [.ref (b 0), .int (nI 59)]) (rest := []) (wr := []) (C := RX0) F (c_X0_readSign_f l G q d (nup (nup (nup (nup (nup (nup (nup P 4 ((P 4) + 2)) 5 (sgT (t 0) tl (P 4))) 6 0) 7 0) 8 a_1) 9 0) 10 0) b t L (59) (by omega) (show (P 4) + 2 ≤ 400 by omega) tl hL hL6 hT hd_2 (by exact h1) (show P 3 ≤ (P 4) + 2 by omega)) (cwV 2 hts gX0_readOrder_X0_readSign rfl rfl rfl (by decide +kernel) ⟨Nat.le_of_ble_eq_true rfl, Nat.le_of_ble_eq_true rfl⟩) hKK (z_recv hKK hP (q0 := 0) (ci := 0) rfl rfl) hP hD hS hA rfl hl.1 rfl (Nat.le_of_ble_eq_true rfl) ⟨Nat.zero_le _, Nat.zero_le _⟩ dX0_readOrder_184 (fun H locs hP hD hS => ?_)
      have hP : va_P G.1 vwCl (playW G q d (nup (nup (nup (nup (nup (nup (nup (nup (nup P 1 1) 2 ((P 4) + 2 - P 3)) 4 ((P 4) + 2)) 5 (sgT (t 0) tl (P 4))) 6 0) 7 0) 8 a_1) 9 0) 10 0) ++ textW G b t L) H := hP
      have hD : va_D A (playW G q d (nup (nup (nup (nup (nup (nup (nup (nup (nup P 1 1) 2 ((P 4) + 2 - P 3)) 4 ((P 4) + 2)) 5 (sgT (t 0) tl (P 4))) 6 0) 7 0) 8 a_1) 9 0) 10 0) ++ textW G b t L) := hD
      exact z_vretE (nup (nup (nup (nup (nup (nup (nup (nup (nup P 1 1) 2 ((P 4) + 2 - P 3)) 4 ((P 4) + 2)) 5 (sgT (t 0) tl (P 4))) 6 0) 7 0) 8 a_1) 9 0) 10 0) hx hb hr hlk hP hD hS dX0_readOrder_187 (ro_no (q := (P 4) + 2) (by rw [prs, if_pos hk, if_pos hd_1, if_neg hd_2]) ⟨show P 0 = P 0 by omega, show P 3 = P 3 by omega, show sgT (t 0) tl (P 4) = sgT (t 0) tl (P 4) by omega, show (P 4) + 2 ≤ P 4 + 100 by omega, show 0 ≤ 9 by omega, show 0 ≤ 9 by omega, show a_1 ≤ 9 by omega, show 0 ≤ 60 by omega⟩ (show 1 = 1 by omega) (show (P 4) + 2 - P 3 = (P 4) + 2 - P 4 by omega))
  · skip
    refine z_callVI (As := [.ref (b 0)]) (rest := [.ref q]) (wr := []) (C := RX0) F (c_X0_readDigit_f l G q d (nup (nup (nup (nup (nup (nup (nup P 4 ((P 4) + 1)) 5 (sgT (t 0) tl (P 4))) 6 0) 7 0) 8 0) 9 0) 10 0) b t L (show (P 4) + 1 ≤ 400 by omega) tl hL hL6 hT hd_1 (by exact h1) (show P 3 ≤ (P 4) + 1 by omega)) (cwV 1 hts gX0_readOrder_X0_readDigit rfl rfl rfl (by decide +kernel) ⟨Nat.le_of_ble_eq_true rfl, Nat.le_of_ble_eq_true rfl⟩) hKK (z_recv hKK hP (q0 := 0) (ci := 0) rfl rfl) hP hD hS hA rfl hl.1 rfl (Nat.le_of_ble_eq_true rfl) ⟨Nat.zero_le _, Nat.zero_le _⟩ dX0_readOrder_165 (fun H locs hP hD hS => ?_)
    have hP : va_P G.1 vwCl (playW G q d (nup (nup (nup (nup (nup (nup (nup (nup (nup P 1 1) 2 ((P 4) + 1 - P 3)) 4 ((P 4) + 1)) 5 (sgT (t 0) tl (P 4))) 6 0) 7 0) 8 0) 9 0) 10 0) ++ textW G b t L) H := hP
    have hD : va_D A (playW G q d (nup (nup (nup (nup (nup (nup (nup (nup (nup P 1 1) 2 ((P 4) + 1 - P 3)) 4 ((P 4) + 1)) 5 (sgT (t 0) tl (P 4))) 6 0) 7 0) 8 0) 9 0) 10 0) ++ textW G b t L) := hD
    refine z_put (w2 := playW G q d (nup (nup (nup (nup (nup (nup (nup (nup (nup P 1 1) 2 ((P 4) + 1 - P 3)) 4 ((P 4) + 1)) 5 (sgT (t 0) tl (P 4))) 6 0) 7 0) 8 0) 9 0) 10 0) ++ textW G b t L) hx hb hts hinX0 tyX0 tyX0_ok nmX0 hown hKK hP hD hS 0 (ci := 0) (C := RX0) (T := TX0) (N := 12) rfl rfl 9 (by decide) fl_64 rfl rfl rfl (Nat.le_of_ble_eq_true rfl) rfl dX0_readOrder_168 (fun H locs hP hD hS => ?_)
    refine lv_goto (tgt := 180) hx hb dX0_readOrder_171 (by decide) ?_
    refine lv_aload_n hx hb dX0_readOrder_180 rfl (lv_at hl 0 rfl) ?_
    refine lv_aload_n hx hb dX0_readOrder_181 rfl (lv_at hl 1 rfl) ?_
    refine lv_bipush (v := nI 59) hx hb dX0_readOrder_182 (by decide) ?_
    refine z_callVVE (As := [.ref (b 0), .int (nI 59)]) (rest := []) (wr := []) (C := RX0) F (c_F_sign l G q d P (nup (nup (nup (nup (nup (nup (nup (nup (nup P 1 1) 2 ((P 4) + 1 - P 3)) 4 ((P 4) + 1)) 5 (sgT (t 0) tl (P 4))) 6 0) 7 0) 8 0) 9 0) 10 0) b t L (sgT (t 0) tl (P 4)) ((P 4) + 1 - P 3) ((P 4) + 1) tl (show (P 4) + 1 ≤ 400 by omega) hL hL6 hT (59) (by omega) (show FS P (sgT (t 0) tl (P 4)) ((P 4) + 1 - P 3) ((P 4) + 1) (nup (nup (nup (nup (nup (nup (nup (nup (nup P 1 1) 2 ((P 4) + 1 - P 3)) 4 ((P 4) + 1)) 5 (sgT (t 0) tl (P 4))) 6 0) 7 0) 8 0) 9 0) 10 0) from ⟨rfl, rfl, rfl, rfl, rfl, show 0 ≤ 9 by omega, show 0 ≤ 9 by omega, show 0 ≤ 9 by omega, rfl, rfl, Nat.le_refl _, show P 3 ≤ (P 4) + 1 by omega⟩)) (cwV 2 hts gX0_readOrder_X0_readSign rfl rfl rfl (by decide +kernel) ⟨Nat.le_of_ble_eq_true rfl, Nat.le_of_ble_eq_true rfl⟩) hKK (z_recv hKK hP (q0 := 0) (ci := 0) rfl rfl) hP hD hS hA rfl hl.1 rfl (Nat.le_of_ble_eq_true rfl) ⟨Nat.zero_le _, Nat.zero_le _⟩ dX0_readOrder_184 (fun u_3 H locs hq_3 hP hD hS => ?_)
    have hP : va_P G.1 vwCl (playW G q d u_3 ++ textW G b t L) H := hP
    have hD : va_D A (playW G q d u_3 ++ textW G b t L) := hD
    exact z_vretE u_3 hx hb hr hlk hP hD hS dX0_readOrder_187 (ro_fin (q := (P 4) + 1) (by rw [prs, if_pos hk, if_neg (by rw [hd_1]; decide)]) (FS_L hq_3) (by omega) (by omega))

set_option maxHeartbeats 4000000 in
set_option maxRecDepth 100000 in
theorem c_X0_readOrder_k43 (l : Launch) (G : ZG) (q d : Nat) (P : Nat → Nat) (b : Nat → Nat) (t : Mem) (L : Nat → Nat) (hp4 : P 4 ≤ 60) (hs34 : P 3 = P 4) (h1 : P 1 = 0) (tl : Nat) (hL : L 0 = tl) (hL6 : tl ≤ 60) (hT : okTx (t 0)) (hk : sgT (t 0) tl (P 4) = 43) : CVE l G yX0_readOrder wsX0_readOrder (zRm 3 65) [.ref q, .ref (b 0)] (playW G q d P ++ textW G b t L) (S := Nat → Nat) (roPost (sgT (t 0) tl) P) (fun u => playW G q d u ++ textW G b t L) := by
  refine CVE.ent (cc := cX0_readOrder) (maxL := 2) (own := RX0) (by decide) rfl rfl (Nat.le_of_ble_eq_true rfl) ?_
  intro p ee s m args below meth c A ls F hr hlk hKK hP hD hA hS hl
  obtain ⟨hx, hb, hml, hown, hts⟩ := id F
  have hl : lv_has ls 2 [(0, .ref q), (1, .ref (b 0))] := hl
  have fl_29 := hts (.fieldLink RX0 29 "NameRolls$Player" "at" "I") (by decide +kernel)
  have fl_54 := hts (.fieldLink RX0 54 "NameRolls$Player" "kind" "C") (by decide +kernel)
  have fl_58 := hts (.fieldLink RX0 58 "NameRolls$Player" "table" "I") (by decide +kernel)
  have fl_61 := hts (.fieldLink RX0 61 "NameRolls$Player" "cell" "I") (by decide +kernel)
  have fl_64 := hts (.fieldLink RX0 64 "NameRolls$Player" "rule" "I") (by decide +kernel)
  have fl_67 := hts (.fieldLink RX0 67 "NameRolls$Player" "letters" "I") (by decide +kernel)
  have fl_70 := hts (.fieldLink RX0 70 "NameRolls$Player" "name" "I") (by decide +kernel)
  have hinX0 : ∀ w ∈ wsX00, w ∈ wsX0_readOrder := by decide +kernel
  refine lv_aload_n hx hb dX0_readOrder_0 rfl (lv_at hl 0 rfl) ?_
  refine lv_aload_n hx hb dX0_readOrder_1 rfl (lv_at hl 1 rfl) ?_
  refine lv_aload_n hx hb dX0_readOrder_2 rfl (lv_at hl 0 rfl) ?_
  refine va_get (D := G.1) (ci := 0) (v := .int (nI (P 4))) (C := RX0) (T := TX0) (N := 12) hx hb hts hinX0 hown hKK.1 hP 0 rfl rfl 5 (by decide) fl_29 (fun _ h9 => h9) rfl dX0_readOrder_3 ?_
  refine z_callVI (As := [.int (nI (P 4))]) (rest := [.ref q]) (wr := (playW G q d P)) (C := RX2) F (c_X2_signAt l G b t L (P 4) (by omega) tl hL hL6 hT) (cwV 1 hts gX0_readOrder_X2_signAt rfl rfl rfl (by decide +kernel) ⟨Nat.le_of_ble_eq_true rfl, Nat.le_of_ble_eq_true rfl⟩) hKK (z_recv hKK hP (q0 := 1) (ci := 2) rfl rfl) hP hD hS hA rfl hl.1 rfl (Nat.le_of_ble_eq_true rfl) ⟨Nat.zero_le _, Nat.zero_le _⟩ dX0_readOrder_6 (fun H locs hP hD hS => ?_)
  have hP : va_P G.1 vwCl (playW G q d P ++ textW G b t L) H := hP
  have hD : va_D A (playW G q d P ++ textW G b t L) := hD
  refine z_putC (w2 := playW G q d (nup P 5 (sgT (t 0) tl (P 4))) ++ textW G b t L) hx hb hts hinX0 tyX0 tyX0_ok nmX0 hown hKK hP hD hS 0 (ci := 0) (C := RX0) (T := TX0) (N := 12) rfl rfl 6 (by decide) fl_54 rfl rfl ⟨rfl, _, sgT_lt hT hL6 _, rfl⟩ (Nat.le_of_ble_eq_true rfl) rfl dX0_readOrder_9 (fun H locs hP hD hS => ?_)
  refine lv_aload_n hx hb dX0_readOrder_12 rfl (lv_at hl 0 rfl) ?_
  refine lv_iconst (v := nI 0) hx hb dX0_readOrder_13 (by decide) ?_
  refine z_put (w2 := playW G q d (nup (nup P 5 (sgT (t 0) tl (P 4))) 6 0) ++ textW G b t L) hx hb hts hinX0 tyX0 tyX0_ok nmX0 hown hKK hP hD hS 0 (ci := 0) (C := RX0) (T := TX0) (N := 12) rfl rfl 7 (by decide) fl_58 rfl rfl rfl (Nat.le_of_ble_eq_true rfl) rfl dX0_readOrder_14 (fun H locs hP hD hS => ?_)
  refine lv_aload_n hx hb dX0_readOrder_17 rfl (lv_at hl 0 rfl) ?_
  refine lv_iconst (v := nI 0) hx hb dX0_readOrder_18 (by decide) ?_
  refine z_put (w2 := playW G q d (nup (nup (nup P 5 (sgT (t 0) tl (P 4))) 6 0) 7 0) ++ textW G b t L) hx hb hts hinX0 tyX0 tyX0_ok nmX0 hown hKK hP hD hS 0 (ci := 0) (C := RX0) (T := TX0) (N := 12) rfl rfl 8 (by decide) fl_61 rfl rfl rfl (Nat.le_of_ble_eq_true rfl) rfl dX0_readOrder_19 (fun H locs hP hD hS => ?_)
  refine lv_aload_n hx hb dX0_readOrder_22 rfl (lv_at hl 0 rfl) ?_
  refine lv_iconst (v := nI 0) hx hb dX0_readOrder_23 (by decide) ?_
  refine z_put (w2 := playW G q d (nup (nup (nup (nup P 5 (sgT (t 0) tl (P 4))) 6 0) 7 0) 8 0) ++ textW G b t L) hx hb hts hinX0 tyX0 tyX0_ok nmX0 hown hKK hP hD hS 0 (ci := 0) (C := RX0) (T := TX0) (N := 12) rfl rfl 9 (by decide) fl_64 rfl rfl rfl (Nat.le_of_ble_eq_true rfl) rfl dX0_readOrder_24 (fun H locs hP hD hS => ?_)
  refine lv_aload_n hx hb dX0_readOrder_27 rfl (lv_at hl 0 rfl) ?_
  refine lv_iconst (v := nI 0) hx hb dX0_readOrder_28 (by decide) ?_
  refine z_put (w2 := playW G q d (nup (nup (nup (nup (nup P 5 (sgT (t 0) tl (P 4))) 6 0) 7 0) 8 0) 9 0) ++ textW G b t L) hx hb hts hinX0 tyX0 tyX0_ok nmX0 hown hKK hP hD hS 0 (ci := 0) (C := RX0) (T := TX0) (N := 12) rfl rfl 10 (by decide) fl_67 rfl rfl rfl (Nat.le_of_ble_eq_true rfl) rfl dX0_readOrder_29 (fun H locs hP hD hS => ?_)
  refine lv_aload_n hx hb dX0_readOrder_32 rfl (lv_at hl 0 rfl) ?_
  refine lv_iconst (v := nI 0) hx hb dX0_readOrder_33 (by decide) ?_
  refine z_put (w2 := playW G q d (nup (nup (nup (nup (nup (nup P 5 (sgT (t 0) tl (P 4))) 6 0) 7 0) 8 0) 9 0) 10 0) ++ textW G b t L) hx hb hts hinX0 tyX0 tyX0_ok nmX0 hown hKK hP hD hS 0 (ci := 0) (C := RX0) (T := TX0) (N := 12) rfl rfl 11 (by decide) fl_70 rfl rfl rfl (Nat.le_of_ble_eq_true rfl) rfl dX0_readOrder_34 (fun H locs hP hD hS => ?_)
  refine lv_aload_n hx hb dX0_readOrder_37 rfl (lv_at hl 0 rfl) ?_
  refine va_get (D := G.1) (ci := 0) (v := .int (nI (sgT (t 0) tl (P 4)))) (C := RX0) (T := TX0) (N := 12) hx hb hts hinX0 hown hKK.1 hP 0 rfl rfl 6 (by decide) fl_54 (fun _ h9 => h9) rfl dX0_readOrder_38 ?_
  refine z_top (v := nI 43) (by rw [hk]) ?_
  refine lv_lookup (off := 43) (tgt := 84) hx hb dX0_readOrder_41 (by decide) (by decide) (by decide) ?_
  refine lv_aload_n hx hb dX0_readOrder_84 rfl (lv_at hl 0 rfl) ?_
  refine lv_dup hx hb dX0_readOrder_85 rfl ?_
  refine va_get (D := G.1) (ci := 0) (v := .int (nI (P 4))) (C := RX0) (T := TX0) (N := 12) hx hb hts hinX0 hown hKK.1 hP 0 rfl rfl 5 (by decide) fl_29 (fun _ h9 => h9) rfl dX0_readOrder_86 ?_
  refine lv_iconst (v := nI 1) hx hb dX0_readOrder_89 (by decide) ?_
  refine z_add (v := nI ((P 4) + 1)) hx hb dX0_readOrder_90 (nI_add _ _) ?_
  refine z_put (w2 := playW G q d (nup (nup (nup (nup (nup (nup (nup P 4 ((P 4) + 1)) 5 (sgT (t 0) tl (P 4))) 6 0) 7 0) 8 0) 9 0) 10 0) ++ textW G b t L) hx hb hts hinX0 tyX0 tyX0_ok nmX0 hown hKK hP hD hS 0 (ci := 0) (C := RX0) (T := TX0) (N := 12) rfl rfl 5 (by decide) fl_29 rfl rfl rfl (Nat.le_of_ble_eq_true rfl) rfl dX0_readOrder_91 (fun H locs hP hD hS => ?_)
  refine lv_aload_n hx hb dX0_readOrder_94 rfl (lv_at hl 0 rfl) ?_
  refine lv_aload_n hx hb dX0_readOrder_95 rfl (lv_at hl 1 rfl) ?_
  rcases Classical.em (0 < lc (sgT (t 0) tl) ((P 4) + 1)) with hd_1 | hd_1
  · skip
    refine z_callVV (As := [.ref (b 0)]) (rest := []) (wr := []) (C := RX0) F (c_X0_readLetters_y l G q d (nup (nup (nup (nup (nup (nup (nup P 4 ((P 4) + 1)) 5 (sgT (t 0) tl (P 4))) 6 0) 7 0) 8 0) 9 0) 10 0) b t L (show (P 4) + 1 ≤ 400 by omega) tl hL hL6 hT rfl rfl hd_1) (cwV 1 hts gX0_readOrder_X0_readLetters rfl rfl rfl (by decide +kernel) ⟨Nat.le_of_ble_eq_true rfl, Nat.le_of_ble_eq_true rfl⟩) hKK (z_recv hKK hP (q0 := 0) (ci := 0) rfl rfl) hP hD hS hA rfl hl.1 rfl (Nat.le_of_ble_eq_true rfl) ⟨Nat.zero_le _, Nat.zero_le _⟩ dX0_readOrder_96 (fun H locs hP hD hS => ?_)
    have hlc6 := lc_le60 (sgT (t 0) tl) ((P 4) + 1)
    have hP : va_P G.1 vwCl (playW G q d (nup (nup (nup (nup (nup (nup (nup P 4 ((P 4) + 1 + lc (sgT (t 0) tl) ((P 4) + 1))) 5 (sgT (t 0) tl (P 4))) 6 0) 7 0) 8 0) 9 (lc (sgT (t 0) tl) ((P 4) + 1))) 10 (wv (sgT (t 0) tl) ((P 4) + 1) (lc (sgT (t 0) tl) ((P 4) + 1)))) ++ textW G b t L) H := hP
    have hD : va_D A (playW G q d (nup (nup (nup (nup (nup (nup (nup P 4 ((P 4) + 1 + lc (sgT (t 0) tl) ((P 4) + 1))) 5 (sgT (t 0) tl (P 4))) 6 0) 7 0) 8 0) 9 (lc (sgT (t 0) tl) ((P 4) + 1))) 10 (wv (sgT (t 0) tl) ((P 4) + 1) (lc (sgT (t 0) tl) ((P 4) + 1)))) ++ textW G b t L) := hD
    refine lv_goto (tgt := 180) hx hb dX0_readOrder_99 (by decide) ?_
    refine lv_aload_n hx hb dX0_readOrder_180 rfl (lv_at hl 0 rfl) ?_
    refine lv_aload_n hx hb dX0_readOrder_181 rfl (lv_at hl 1 rfl) ?_
    refine lv_bipush (v := nI 59) hx hb dX0_readOrder_182 (by decide) ?_
    rcases Classical.em (sgT (t 0) tl ((P 4) + 1 + lc (sgT (t 0) tl) ((P 4) + 1)) = 59) with hd_2 | hd_2
    · skip
      refine z_callVV (As := [.ref (b 0), .int (nI 59)]) (rest := []) (wr := []) (C := RX0) F (c_X0_readSign_t l G q d (nup (nup (nup (nup (nup (nup (nup P 4 ((P 4) + 1 + lc (sgT (t 0) tl) ((P 4) + 1))) 5 (sgT (t 0) tl (P 4))) 6 0) 7 0) 8 0) 9 (lc (sgT (t 0) tl) ((P 4) + 1))) 10 (wv (sgT (t 0) tl) ((P 4) + 1) (lc (sgT (t 0) tl) ((P 4) + 1)))) b t L (59) (by omega) (show (P 4) + 1 + lc (sgT (t 0) tl) ((P 4) + 1) ≤ 400 by omega) tl hL hL6 hT hd_2) (cwV 2 hts gX0_readOrder_X0_readSign rfl rfl rfl (by decide +kernel) ⟨Nat.le_of_ble_eq_true rfl, Nat.le_of_ble_eq_true rfl⟩) hKK (z_recv hKK hP (q0 := 0) (ci := 0) rfl rfl) hP hD hS hA rfl hl.1 rfl (Nat.le_of_ble_eq_true rfl) ⟨Nat.zero_le _, Nat.zero_le _⟩ dX0_readOrder_184 (fun H locs hP hD hS => ?_)
      have hP : va_P G.1 vwCl (playW G q d (nup (nup (nup (nup (nup (nup (nup P 4 ((P 4) + 1 + lc (sgT (t 0) tl) ((P 4) + 1) + 1)) 5 (sgT (t 0) tl (P 4))) 6 0) 7 0) 8 0) 9 (lc (sgT (t 0) tl) ((P 4) + 1))) 10 (wv (sgT (t 0) tl) ((P 4) + 1) (lc (sgT (t 0) tl) ((P 4) + 1)))) ++ textW G b t L) H := hP
      have hD : va_D A (playW G q d (nup (nup (nup (nup (nup (nup (nup P 4 ((P 4) + 1 + lc (sgT (t 0) tl) ((P 4) + 1) + 1)) 5 (sgT (t 0) tl (P 4))) 6 0) 7 0) 8 0) 9 (lc (sgT (t 0) tl) ((P 4) + 1))) 10 (wv (sgT (t 0) tl) ((P 4) + 1) (lc (sgT (t 0) tl) ((P 4) + 1)))) ++ textW G b t L) := hD
      exact z_vretE (nup (nup (nup (nup (nup (nup (nup P 4 ((P 4) + 1 + lc (sgT (t 0) tl) ((P 4) + 1) + 1)) 5 (sgT (t 0) tl (P 4))) 6 0) 7 0) 8 0) 9 (lc (sgT (t 0) tl) ((P 4) + 1))) 10 (wv (sgT (t 0) tl) ((P 4) + 1) (lc (sgT (t 0) tl) ((P 4) + 1)))) hx hb hr hlk hP hD hS dX0_readOrder_187 (ro_yes (q := (P 4) + 1 + lc (sgT (t 0) tl) ((P 4) + 1) + 1) (d0 := 0) (d1 := 0) (k := lc (sgT (t 0) tl) ((P 4) + 1)) (wd := wv (sgT (t 0) tl) ((P 4) + 1) (lc (sgT (t 0) tl) ((P 4) + 1))) (by rw [prs, if_neg (by omega), if_neg (by omega), if_pos (by omega), prL, if_pos hd_1, if_pos hd_2]) ⟨show P 0 = P 0 by omega, show P 3 = P 3 by omega, show sgT (t 0) tl (P 4) = sgT (t 0) tl (P 4) by omega, show (P 4) + 1 + lc (sgT (t 0) tl) ((P 4) + 1) + 1 ≤ P 4 + 100 by omega, show 0 ≤ 9 by omega, show 0 ≤ 9 by omega, show 0 ≤ 9 by omega, show lc (sgT (t 0) tl) ((P 4) + 1) ≤ 60 by omega⟩ (by exact h1) rfl rfl rfl (fun z => absurd z (by omega)) (fun _ => ⟨rfl, rfl, rfl⟩))
    · skip
      refine z_callVV (As := [.ref (b 0), .int (nI 59)]) (rest := []) (wr := []) (C := RX0) F (c_X0_readSign_f l G q d (nup (nup (nup (nup (nup (nup (nup P 4 ((P 4) + 1 + lc (sgT (t 0) tl) ((P 4) + 1))) 5 (sgT (t 0) tl (P 4))) 6 0) 7 0) 8 0) 9 (lc (sgT (t 0) tl) ((P 4) + 1))) 10 (wv (sgT (t 0) tl) ((P 4) + 1) (lc (sgT (t 0) tl) ((P 4) + 1)))) b t L (59) (by omega) (show (P 4) + 1 + lc (sgT (t 0) tl) ((P 4) + 1) ≤ 400 by omega) tl hL hL6 hT hd_2 (by exact h1) (show P 3 ≤ (P 4) + 1 + lc (sgT (t 0) tl) ((P 4) + 1) by omega)) (cwV 2 hts gX0_readOrder_X0_readSign rfl rfl rfl (by decide +kernel) ⟨Nat.le_of_ble_eq_true rfl, Nat.le_of_ble_eq_true rfl⟩) hKK (z_recv hKK hP (q0 := 0) (ci := 0) rfl rfl) hP hD hS hA rfl hl.1 rfl (Nat.le_of_ble_eq_true rfl) ⟨Nat.zero_le _, Nat.zero_le _⟩ dX0_readOrder_184 (fun H locs hP hD hS => ?_)
      have hP : va_P G.1 vwCl (playW G q d (nup (nup (nup (nup (nup (nup (nup (nup (nup P 1 1) 2 ((P 4) + 1 + lc (sgT (t 0) tl) ((P 4) + 1) - P 3)) 4 ((P 4) + 1 + lc (sgT (t 0) tl) ((P 4) + 1))) 5 (sgT (t 0) tl (P 4))) 6 0) 7 0) 8 0) 9 (lc (sgT (t 0) tl) ((P 4) + 1))) 10 (wv (sgT (t 0) tl) ((P 4) + 1) (lc (sgT (t 0) tl) ((P 4) + 1)))) ++ textW G b t L) H := hP
      have hD : va_D A (playW G q d (nup (nup (nup (nup (nup (nup (nup (nup (nup P 1 1) 2 ((P 4) + 1 + lc (sgT (t 0) tl) ((P 4) + 1) - P 3)) 4 ((P 4) + 1 + lc (sgT (t 0) tl) ((P 4) + 1))) 5 (sgT (t 0) tl (P 4))) 6 0) 7 0) 8 0) 9 (lc (sgT (t 0) tl) ((P 4) + 1))) 10 (wv (sgT (t 0) tl) ((P 4) + 1) (lc (sgT (t 0) tl) ((P 4) + 1)))) ++ textW G b t L) := hD
      exact z_vretE (nup (nup (nup (nup (nup (nup (nup (nup (nup P 1 1) 2 ((P 4) + 1 + lc (sgT (t 0) tl) ((P 4) + 1) - P 3)) 4 ((P 4) + 1 + lc (sgT (t 0) tl) ((P 4) + 1))) 5 (sgT (t 0) tl (P 4))) 6 0) 7 0) 8 0) 9 (lc (sgT (t 0) tl) ((P 4) + 1))) 10 (wv (sgT (t 0) tl) ((P 4) + 1) (lc (sgT (t 0) tl) ((P 4) + 1)))) hx hb hr hlk hP hD hS dX0_readOrder_187 (ro_no (q := (P 4) + 1 + lc (sgT (t 0) tl) ((P 4) + 1)) (by rw [prs, if_neg (by omega), if_neg (by omega), if_pos (by omega), prL, if_pos hd_1, if_neg hd_2]) ⟨show P 0 = P 0 by omega, show P 3 = P 3 by omega, show sgT (t 0) tl (P 4) = sgT (t 0) tl (P 4) by omega, show (P 4) + 1 + lc (sgT (t 0) tl) ((P 4) + 1) ≤ P 4 + 100 by omega, show 0 ≤ 9 by omega, show 0 ≤ 9 by omega, show 0 ≤ 9 by omega, show lc (sgT (t 0) tl) ((P 4) + 1) ≤ 60 by omega⟩ (show 1 = 1 by omega) (show (P 4) + 1 + lc (sgT (t 0) tl) ((P 4) + 1) - P 3 = (P 4) + 1 + lc (sgT (t 0) tl) ((P 4) + 1) - P 4 by omega))
  · have hlc6 := lc_le60 (sgT (t 0) tl) ((P 4) + 1)
    refine z_callVV (As := [.ref (b 0)]) (rest := []) (wr := []) (C := RX0) F (c_X0_readLetters_f l G q d (nup (nup (nup (nup (nup (nup (nup P 4 ((P 4) + 1)) 5 (sgT (t 0) tl (P 4))) 6 0) 7 0) 8 0) 9 0) 10 0) b t L (show (P 4) + 1 ≤ 400 by omega) tl hL hL6 hT rfl rfl (show lc (sgT (t 0) tl) ((P 4) + 1) = 0 by omega) (by exact h1) (show P 3 ≤ (P 4) + 1 by omega)) (cwV 1 hts gX0_readOrder_X0_readLetters rfl rfl rfl (by decide +kernel) ⟨Nat.le_of_ble_eq_true rfl, Nat.le_of_ble_eq_true rfl⟩) hKK (z_recv hKK hP (q0 := 0) (ci := 0) rfl rfl) hP hD hS hA rfl hl.1 rfl (Nat.le_of_ble_eq_true rfl) ⟨Nat.zero_le _, Nat.zero_le _⟩ dX0_readOrder_96 (fun H locs hP hD hS => ?_)
    have hP : va_P G.1 vwCl (playW G q d (nup (nup (nup (nup (nup (nup (nup (nup (nup P 1 1) 2 ((P 4) + 1 + lc (sgT (t 0) tl) ((P 4) + 1) - P 3)) 4 ((P 4) + 1 + lc (sgT (t 0) tl) ((P 4) + 1))) 5 (sgT (t 0) tl (P 4))) 6 0) 7 0) 8 0) 9 (lc (sgT (t 0) tl) ((P 4) + 1))) 10 (wv (sgT (t 0) tl) ((P 4) + 1) (lc (sgT (t 0) tl) ((P 4) + 1)))) ++ textW G b t L) H := hP
    have hD : va_D A (playW G q d (nup (nup (nup (nup (nup (nup (nup (nup (nup P 1 1) 2 ((P 4) + 1 + lc (sgT (t 0) tl) ((P 4) + 1) - P 3)) 4 ((P 4) + 1 + lc (sgT (t 0) tl) ((P 4) + 1))) 5 (sgT (t 0) tl (P 4))) 6 0) 7 0) 8 0) 9 (lc (sgT (t 0) tl) ((P 4) + 1))) 10 (wv (sgT (t 0) tl) ((P 4) + 1) (lc (sgT (t 0) tl) ((P 4) + 1)))) ++ textW G b t L) := hD
    refine lv_goto (tgt := 180) hx hb dX0_readOrder_99 (by decide) ?_
    refine lv_aload_n hx hb dX0_readOrder_180 rfl (lv_at hl 0 rfl) ?_
    refine lv_aload_n hx hb dX0_readOrder_181 rfl (lv_at hl 1 rfl) ?_
    refine lv_bipush (v := nI 59) hx hb dX0_readOrder_182 (by decide) ?_
    refine z_callVVE (As := [.ref (b 0), .int (nI 59)]) (rest := []) (wr := []) (C := RX0) F (c_FL_sign l G q d P (nup (nup (nup (nup (nup (nup (nup (nup (nup P 1 1) 2 ((P 4) + 1 + lc (sgT (t 0) tl) ((P 4) + 1) - P 3)) 4 ((P 4) + 1 + lc (sgT (t 0) tl) ((P 4) + 1))) 5 (sgT (t 0) tl (P 4))) 6 0) 7 0) 8 0) 9 (lc (sgT (t 0) tl) ((P 4) + 1))) 10 (wv (sgT (t 0) tl) ((P 4) + 1) (lc (sgT (t 0) tl) ((P 4) + 1)))) b t L (sgT (t 0) tl (P 4)) ((P 4) + 1 + lc (sgT (t 0) tl) ((P 4) + 1) - P 3) ((P 4) + 1 + lc (sgT (t 0) tl) ((P 4) + 1)) tl (show (P 4) + 1 + lc (sgT (t 0) tl) ((P 4) + 1) ≤ 400 by omega) hL hL6 hT (59) (by omega) (show FSL P (sgT (t 0) tl (P 4)) ((P 4) + 1 + lc (sgT (t 0) tl) ((P 4) + 1) - P 3) ((P 4) + 1 + lc (sgT (t 0) tl) ((P 4) + 1)) (nup (nup (nup (nup (nup (nup (nup (nup (nup P 1 1) 2 ((P 4) + 1 + lc (sgT (t 0) tl) ((P 4) + 1) - P 3)) 4 ((P 4) + 1 + lc (sgT (t 0) tl) ((P 4) + 1))) 5 (sgT (t 0) tl (P 4))) 6 0) 7 0) 8 0) 9 (lc (sgT (t 0) tl) ((P 4) + 1))) 10 (wv (sgT (t 0) tl) ((P 4) + 1) (lc (sgT (t 0) tl) ((P 4) + 1)))) from ⟨rfl, rfl, rfl, rfl, rfl, show 0 ≤ 9 by omega, show 0 ≤ 9 by omega, show 0 ≤ 9 by omega, show lc (sgT (t 0) tl) ((P 4) + 1) ≤ 60 by omega, Nat.le_refl _, show P 3 ≤ (P 4) + 1 + lc (sgT (t 0) tl) ((P 4) + 1) by omega⟩)) (cwV 2 hts gX0_readOrder_X0_readSign rfl rfl rfl (by decide +kernel) ⟨Nat.le_of_ble_eq_true rfl, Nat.le_of_ble_eq_true rfl⟩) hKK (z_recv hKK hP (q0 := 0) (ci := 0) rfl rfl) hP hD hS hA rfl hl.1 rfl (Nat.le_of_ble_eq_true rfl) ⟨Nat.zero_le _, Nat.zero_le _⟩ dX0_readOrder_184 (fun u_3 H locs hq_3 hP hD hS => ?_)
    have hP : va_P G.1 vwCl (playW G q d u_3 ++ textW G b t L) H := hP
    have hD : va_D A (playW G q d u_3 ++ textW G b t L) := hD
    exact z_vretE u_3 hx hb hr hlk hP hD hS dX0_readOrder_187 (ro_fin (q := (P 4) + 1 + lc (sgT (t 0) tl) ((P 4) + 1)) (by rw [prs, if_neg (by omega), if_neg (by omega), if_pos (by omega), prL, if_neg hd_1]) hq_3 (by omega) (by omega))

set_option maxHeartbeats 4000000 in
set_option maxRecDepth 100000 in
theorem c_X0_readOrder_k45 (l : Launch) (G : ZG) (q d : Nat) (P : Nat → Nat) (b : Nat → Nat) (t : Mem) (L : Nat → Nat) (hp4 : P 4 ≤ 60) (hs34 : P 3 = P 4) (h1 : P 1 = 0) (tl : Nat) (hL : L 0 = tl) (hL6 : tl ≤ 60) (hT : okTx (t 0)) (hk : sgT (t 0) tl (P 4) = 45) : CVE l G yX0_readOrder wsX0_readOrder (zRm 3 65) [.ref q, .ref (b 0)] (playW G q d P ++ textW G b t L) (S := Nat → Nat) (roPost (sgT (t 0) tl) P) (fun u => playW G q d u ++ textW G b t L) := by
  refine CVE.ent (cc := cX0_readOrder) (maxL := 2) (own := RX0) (by decide) rfl rfl (Nat.le_of_ble_eq_true rfl) ?_
  intro p ee s m args below meth c A ls F hr hlk hKK hP hD hA hS hl
  obtain ⟨hx, hb, hml, hown, hts⟩ := id F
  have hl : lv_has ls 2 [(0, .ref q), (1, .ref (b 0))] := hl
  have fl_29 := hts (.fieldLink RX0 29 "NameRolls$Player" "at" "I") (by decide +kernel)
  have fl_54 := hts (.fieldLink RX0 54 "NameRolls$Player" "kind" "C") (by decide +kernel)
  have fl_58 := hts (.fieldLink RX0 58 "NameRolls$Player" "table" "I") (by decide +kernel)
  have fl_61 := hts (.fieldLink RX0 61 "NameRolls$Player" "cell" "I") (by decide +kernel)
  have fl_64 := hts (.fieldLink RX0 64 "NameRolls$Player" "rule" "I") (by decide +kernel)
  have fl_67 := hts (.fieldLink RX0 67 "NameRolls$Player" "letters" "I") (by decide +kernel)
  have fl_70 := hts (.fieldLink RX0 70 "NameRolls$Player" "name" "I") (by decide +kernel)
  have hinX0 : ∀ w ∈ wsX00, w ∈ wsX0_readOrder := by decide +kernel
  refine lv_aload_n hx hb dX0_readOrder_0 rfl (lv_at hl 0 rfl) ?_
  refine lv_aload_n hx hb dX0_readOrder_1 rfl (lv_at hl 1 rfl) ?_
  refine lv_aload_n hx hb dX0_readOrder_2 rfl (lv_at hl 0 rfl) ?_
  refine va_get (D := G.1) (ci := 0) (v := .int (nI (P 4))) (C := RX0) (T := TX0) (N := 12) hx hb hts hinX0 hown hKK.1 hP 0 rfl rfl 5 (by decide) fl_29 (fun _ h9 => h9) rfl dX0_readOrder_3 ?_
  refine z_callVI (As := [.int (nI (P 4))]) (rest := [.ref q]) (wr := (playW G q d P)) (C := RX2) F (c_X2_signAt l G b t L (P 4) (by omega) tl hL hL6 hT) (cwV 1 hts gX0_readOrder_X2_signAt rfl rfl rfl (by decide +kernel) ⟨Nat.le_of_ble_eq_true rfl, Nat.le_of_ble_eq_true rfl⟩) hKK (z_recv hKK hP (q0 := 1) (ci := 2) rfl rfl) hP hD hS hA rfl hl.1 rfl (Nat.le_of_ble_eq_true rfl) ⟨Nat.zero_le _, Nat.zero_le _⟩ dX0_readOrder_6 (fun H locs hP hD hS => ?_)
  have hP : va_P G.1 vwCl (playW G q d P ++ textW G b t L) H := hP
  have hD : va_D A (playW G q d P ++ textW G b t L) := hD
  refine z_putC (w2 := playW G q d (nup P 5 (sgT (t 0) tl (P 4))) ++ textW G b t L) hx hb hts hinX0 tyX0 tyX0_ok nmX0 hown hKK hP hD hS 0 (ci := 0) (C := RX0) (T := TX0) (N := 12) rfl rfl 6 (by decide) fl_54 rfl rfl ⟨rfl, _, sgT_lt hT hL6 _, rfl⟩ (Nat.le_of_ble_eq_true rfl) rfl dX0_readOrder_9 (fun H locs hP hD hS => ?_)
  refine lv_aload_n hx hb dX0_readOrder_12 rfl (lv_at hl 0 rfl) ?_
  refine lv_iconst (v := nI 0) hx hb dX0_readOrder_13 (by decide) ?_
  refine z_put (w2 := playW G q d (nup (nup P 5 (sgT (t 0) tl (P 4))) 6 0) ++ textW G b t L) hx hb hts hinX0 tyX0 tyX0_ok nmX0 hown hKK hP hD hS 0 (ci := 0) (C := RX0) (T := TX0) (N := 12) rfl rfl 7 (by decide) fl_58 rfl rfl rfl (Nat.le_of_ble_eq_true rfl) rfl dX0_readOrder_14 (fun H locs hP hD hS => ?_)
  refine lv_aload_n hx hb dX0_readOrder_17 rfl (lv_at hl 0 rfl) ?_
  refine lv_iconst (v := nI 0) hx hb dX0_readOrder_18 (by decide) ?_
  refine z_put (w2 := playW G q d (nup (nup (nup P 5 (sgT (t 0) tl (P 4))) 6 0) 7 0) ++ textW G b t L) hx hb hts hinX0 tyX0 tyX0_ok nmX0 hown hKK hP hD hS 0 (ci := 0) (C := RX0) (T := TX0) (N := 12) rfl rfl 8 (by decide) fl_61 rfl rfl rfl (Nat.le_of_ble_eq_true rfl) rfl dX0_readOrder_19 (fun H locs hP hD hS => ?_)
  refine lv_aload_n hx hb dX0_readOrder_22 rfl (lv_at hl 0 rfl) ?_
  refine lv_iconst (v := nI 0) hx hb dX0_readOrder_23 (by decide) ?_
  refine z_put (w2 := playW G q d (nup (nup (nup (nup P 5 (sgT (t 0) tl (P 4))) 6 0) 7 0) 8 0) ++ textW G b t L) hx hb hts hinX0 tyX0 tyX0_ok nmX0 hown hKK hP hD hS 0 (ci := 0) (C := RX0) (T := TX0) (N := 12) rfl rfl 9 (by decide) fl_64 rfl rfl rfl (Nat.le_of_ble_eq_true rfl) rfl dX0_readOrder_24 (fun H locs hP hD hS => ?_)
  refine lv_aload_n hx hb dX0_readOrder_27 rfl (lv_at hl 0 rfl) ?_
  refine lv_iconst (v := nI 0) hx hb dX0_readOrder_28 (by decide) ?_
  refine z_put (w2 := playW G q d (nup (nup (nup (nup (nup P 5 (sgT (t 0) tl (P 4))) 6 0) 7 0) 8 0) 9 0) ++ textW G b t L) hx hb hts hinX0 tyX0 tyX0_ok nmX0 hown hKK hP hD hS 0 (ci := 0) (C := RX0) (T := TX0) (N := 12) rfl rfl 10 (by decide) fl_67 rfl rfl rfl (Nat.le_of_ble_eq_true rfl) rfl dX0_readOrder_29 (fun H locs hP hD hS => ?_)
  refine lv_aload_n hx hb dX0_readOrder_32 rfl (lv_at hl 0 rfl) ?_
  refine lv_iconst (v := nI 0) hx hb dX0_readOrder_33 (by decide) ?_
  refine z_put (w2 := playW G q d (nup (nup (nup (nup (nup (nup P 5 (sgT (t 0) tl (P 4))) 6 0) 7 0) 8 0) 9 0) 10 0) ++ textW G b t L) hx hb hts hinX0 tyX0 tyX0_ok nmX0 hown hKK hP hD hS 0 (ci := 0) (C := RX0) (T := TX0) (N := 12) rfl rfl 11 (by decide) fl_70 rfl rfl rfl (Nat.le_of_ble_eq_true rfl) rfl dX0_readOrder_34 (fun H locs hP hD hS => ?_)
  refine lv_aload_n hx hb dX0_readOrder_37 rfl (lv_at hl 0 rfl) ?_
  refine va_get (D := G.1) (ci := 0) (v := .int (nI (sgT (t 0) tl (P 4)))) (C := RX0) (T := TX0) (N := 12) hx hb hts hinX0 hown hKK.1 hP 0 rfl rfl 6 (by decide) fl_54 (fun _ h9 => h9) rfl dX0_readOrder_38 ?_
  refine z_top (v := nI 45) (by rw [hk]) ?_
  refine lv_lookup (off := 43) (tgt := 84) hx hb dX0_readOrder_41 (by decide) (by decide) (by decide) ?_
  refine lv_aload_n hx hb dX0_readOrder_84 rfl (lv_at hl 0 rfl) ?_
  refine lv_dup hx hb dX0_readOrder_85 rfl ?_
  refine va_get (D := G.1) (ci := 0) (v := .int (nI (P 4))) (C := RX0) (T := TX0) (N := 12) hx hb hts hinX0 hown hKK.1 hP 0 rfl rfl 5 (by decide) fl_29 (fun _ h9 => h9) rfl dX0_readOrder_86 ?_
  refine lv_iconst (v := nI 1) hx hb dX0_readOrder_89 (by decide) ?_
  refine z_add (v := nI ((P 4) + 1)) hx hb dX0_readOrder_90 (nI_add _ _) ?_
  refine z_put (w2 := playW G q d (nup (nup (nup (nup (nup (nup (nup P 4 ((P 4) + 1)) 5 (sgT (t 0) tl (P 4))) 6 0) 7 0) 8 0) 9 0) 10 0) ++ textW G b t L) hx hb hts hinX0 tyX0 tyX0_ok nmX0 hown hKK hP hD hS 0 (ci := 0) (C := RX0) (T := TX0) (N := 12) rfl rfl 5 (by decide) fl_29 rfl rfl rfl (Nat.le_of_ble_eq_true rfl) rfl dX0_readOrder_91 (fun H locs hP hD hS => ?_)
  refine lv_aload_n hx hb dX0_readOrder_94 rfl (lv_at hl 0 rfl) ?_
  refine lv_aload_n hx hb dX0_readOrder_95 rfl (lv_at hl 1 rfl) ?_
  rcases Classical.em (0 < lc (sgT (t 0) tl) ((P 4) + 1)) with hd_1 | hd_1
  · skip
    refine z_callVV (As := [.ref (b 0)]) (rest := []) (wr := []) (C := RX0) F (c_X0_readLetters_y l G q d (nup (nup (nup (nup (nup (nup (nup P 4 ((P 4) + 1)) 5 (sgT (t 0) tl (P 4))) 6 0) 7 0) 8 0) 9 0) 10 0) b t L (show (P 4) + 1 ≤ 400 by omega) tl hL hL6 hT rfl rfl hd_1) (cwV 1 hts gX0_readOrder_X0_readLetters rfl rfl rfl (by decide +kernel) ⟨Nat.le_of_ble_eq_true rfl, Nat.le_of_ble_eq_true rfl⟩) hKK (z_recv hKK hP (q0 := 0) (ci := 0) rfl rfl) hP hD hS hA rfl hl.1 rfl (Nat.le_of_ble_eq_true rfl) ⟨Nat.zero_le _, Nat.zero_le _⟩ dX0_readOrder_96 (fun H locs hP hD hS => ?_)
    have hlc6 := lc_le60 (sgT (t 0) tl) ((P 4) + 1)
    have hP : va_P G.1 vwCl (playW G q d (nup (nup (nup (nup (nup (nup (nup P 4 ((P 4) + 1 + lc (sgT (t 0) tl) ((P 4) + 1))) 5 (sgT (t 0) tl (P 4))) 6 0) 7 0) 8 0) 9 (lc (sgT (t 0) tl) ((P 4) + 1))) 10 (wv (sgT (t 0) tl) ((P 4) + 1) (lc (sgT (t 0) tl) ((P 4) + 1)))) ++ textW G b t L) H := hP
    have hD : va_D A (playW G q d (nup (nup (nup (nup (nup (nup (nup P 4 ((P 4) + 1 + lc (sgT (t 0) tl) ((P 4) + 1))) 5 (sgT (t 0) tl (P 4))) 6 0) 7 0) 8 0) 9 (lc (sgT (t 0) tl) ((P 4) + 1))) 10 (wv (sgT (t 0) tl) ((P 4) + 1) (lc (sgT (t 0) tl) ((P 4) + 1)))) ++ textW G b t L) := hD
    refine lv_goto (tgt := 180) hx hb dX0_readOrder_99 (by decide) ?_
    refine lv_aload_n hx hb dX0_readOrder_180 rfl (lv_at hl 0 rfl) ?_
    refine lv_aload_n hx hb dX0_readOrder_181 rfl (lv_at hl 1 rfl) ?_
    refine lv_bipush (v := nI 59) hx hb dX0_readOrder_182 (by decide) ?_
    rcases Classical.em (sgT (t 0) tl ((P 4) + 1 + lc (sgT (t 0) tl) ((P 4) + 1)) = 59) with hd_2 | hd_2
    · skip
      refine z_callVV (As := [.ref (b 0), .int (nI 59)]) (rest := []) (wr := []) (C := RX0) F (c_X0_readSign_t l G q d (nup (nup (nup (nup (nup (nup (nup P 4 ((P 4) + 1 + lc (sgT (t 0) tl) ((P 4) + 1))) 5 (sgT (t 0) tl (P 4))) 6 0) 7 0) 8 0) 9 (lc (sgT (t 0) tl) ((P 4) + 1))) 10 (wv (sgT (t 0) tl) ((P 4) + 1) (lc (sgT (t 0) tl) ((P 4) + 1)))) b t L (59) (by omega) (show (P 4) + 1 + lc (sgT (t 0) tl) ((P 4) + 1) ≤ 400 by omega) tl hL hL6 hT hd_2) (cwV 2 hts gX0_readOrder_X0_readSign rfl rfl rfl (by decide +kernel) ⟨Nat.le_of_ble_eq_true rfl, Nat.le_of_ble_eq_true rfl⟩) hKK (z_recv hKK hP (q0 := 0) (ci := 0) rfl rfl) hP hD hS hA rfl hl.1 rfl (Nat.le_of_ble_eq_true rfl) ⟨Nat.zero_le _, Nat.zero_le _⟩ dX0_readOrder_184 (fun H locs hP hD hS => ?_)
      have hP : va_P G.1 vwCl (playW G q d (nup (nup (nup (nup (nup (nup (nup P 4 ((P 4) + 1 + lc (sgT (t 0) tl) ((P 4) + 1) + 1)) 5 (sgT (t 0) tl (P 4))) 6 0) 7 0) 8 0) 9 (lc (sgT (t 0) tl) ((P 4) + 1))) 10 (wv (sgT (t 0) tl) ((P 4) + 1) (lc (sgT (t 0) tl) ((P 4) + 1)))) ++ textW G b t L) H := hP
      have hD : va_D A (playW G q d (nup (nup (nup (nup (nup (nup (nup P 4 ((P 4) + 1 + lc (sgT (t 0) tl) ((P 4) + 1) + 1)) 5 (sgT (t 0) tl (P 4))) 6 0) 7 0) 8 0) 9 (lc (sgT (t 0) tl) ((P 4) + 1))) 10 (wv (sgT (t 0) tl) ((P 4) + 1) (lc (sgT (t 0) tl) ((P 4) + 1)))) ++ textW G b t L) := hD
      exact z_vretE (nup (nup (nup (nup (nup (nup (nup P 4 ((P 4) + 1 + lc (sgT (t 0) tl) ((P 4) + 1) + 1)) 5 (sgT (t 0) tl (P 4))) 6 0) 7 0) 8 0) 9 (lc (sgT (t 0) tl) ((P 4) + 1))) 10 (wv (sgT (t 0) tl) ((P 4) + 1) (lc (sgT (t 0) tl) ((P 4) + 1)))) hx hb hr hlk hP hD hS dX0_readOrder_187 (ro_yes (q := (P 4) + 1 + lc (sgT (t 0) tl) ((P 4) + 1) + 1) (d0 := 0) (d1 := 0) (k := lc (sgT (t 0) tl) ((P 4) + 1)) (wd := wv (sgT (t 0) tl) ((P 4) + 1) (lc (sgT (t 0) tl) ((P 4) + 1))) (by rw [prs, if_neg (by omega), if_neg (by omega), if_pos (by omega), prL, if_pos hd_1, if_pos hd_2]) ⟨show P 0 = P 0 by omega, show P 3 = P 3 by omega, show sgT (t 0) tl (P 4) = sgT (t 0) tl (P 4) by omega, show (P 4) + 1 + lc (sgT (t 0) tl) ((P 4) + 1) + 1 ≤ P 4 + 100 by omega, show 0 ≤ 9 by omega, show 0 ≤ 9 by omega, show 0 ≤ 9 by omega, show lc (sgT (t 0) tl) ((P 4) + 1) ≤ 60 by omega⟩ (by exact h1) rfl rfl rfl (fun z => absurd z (by omega)) (fun _ => ⟨rfl, rfl, rfl⟩))
    · skip
      refine z_callVV (As := [.ref (b 0), .int (nI 59)]) (rest := []) (wr := []) (C := RX0) F (c_X0_readSign_f l G q d (nup (nup (nup (nup (nup (nup (nup P 4 ((P 4) + 1 + lc (sgT (t 0) tl) ((P 4) + 1))) 5 (sgT (t 0) tl (P 4))) 6 0) 7 0) 8 0) 9 (lc (sgT (t 0) tl) ((P 4) + 1))) 10 (wv (sgT (t 0) tl) ((P 4) + 1) (lc (sgT (t 0) tl) ((P 4) + 1)))) b t L (59) (by omega) (show (P 4) + 1 + lc (sgT (t 0) tl) ((P 4) + 1) ≤ 400 by omega) tl hL hL6 hT hd_2 (by exact h1) (show P 3 ≤ (P 4) + 1 + lc (sgT (t 0) tl) ((P 4) + 1) by omega)) (cwV 2 hts gX0_readOrder_X0_readSign rfl rfl rfl (by decide +kernel) ⟨Nat.le_of_ble_eq_true rfl, Nat.le_of_ble_eq_true rfl⟩) hKK (z_recv hKK hP (q0 := 0) (ci := 0) rfl rfl) hP hD hS hA rfl hl.1 rfl (Nat.le_of_ble_eq_true rfl) ⟨Nat.zero_le _, Nat.zero_le _⟩ dX0_readOrder_184 (fun H locs hP hD hS => ?_)
      have hP : va_P G.1 vwCl (playW G q d (nup (nup (nup (nup (nup (nup (nup (nup (nup P 1 1) 2 ((P 4) + 1 + lc (sgT (t 0) tl) ((P 4) + 1) - P 3)) 4 ((P 4) + 1 + lc (sgT (t 0) tl) ((P 4) + 1))) 5 (sgT (t 0) tl (P 4))) 6 0) 7 0) 8 0) 9 (lc (sgT (t 0) tl) ((P 4) + 1))) 10 (wv (sgT (t 0) tl) ((P 4) + 1) (lc (sgT (t 0) tl) ((P 4) + 1)))) ++ textW G b t L) H := hP
      have hD : va_D A (playW G q d (nup (nup (nup (nup (nup (nup (nup (nup (nup P 1 1) 2 ((P 4) + 1 + lc (sgT (t 0) tl) ((P 4) + 1) - P 3)) 4 ((P 4) + 1 + lc (sgT (t 0) tl) ((P 4) + 1))) 5 (sgT (t 0) tl (P 4))) 6 0) 7 0) 8 0) 9 (lc (sgT (t 0) tl) ((P 4) + 1))) 10 (wv (sgT (t 0) tl) ((P 4) + 1) (lc (sgT (t 0) tl) ((P 4) + 1)))) ++ textW G b t L) := hD
      exact z_vretE (nup (nup (nup (nup (nup (nup (nup (nup (nup P 1 1) 2 ((P 4) + 1 + lc (sgT (t 0) tl) ((P 4) + 1) - P 3)) 4 ((P 4) + 1 + lc (sgT (t 0) tl) ((P 4) + 1))) 5 (sgT (t 0) tl (P 4))) 6 0) 7 0) 8 0) 9 (lc (sgT (t 0) tl) ((P 4) + 1))) 10 (wv (sgT (t 0) tl) ((P 4) + 1) (lc (sgT (t 0) tl) ((P 4) + 1)))) hx hb hr hlk hP hD hS dX0_readOrder_187 (ro_no (q := (P 4) + 1 + lc (sgT (t 0) tl) ((P 4) + 1)) (by rw [prs, if_neg (by omega), if_neg (by omega), if_pos (by omega), prL, if_pos hd_1, if_neg hd_2]) ⟨show P 0 = P 0 by omega, show P 3 = P 3 by omega, show sgT (t 0) tl (P 4) = sgT (t 0) tl (P 4) by omega, show (P 4) + 1 + lc (sgT (t 0) tl) ((P 4) + 1) ≤ P 4 + 100 by omega, show 0 ≤ 9 by omega, show 0 ≤ 9 by omega, show 0 ≤ 9 by omega, show lc (sgT (t 0) tl) ((P 4) + 1) ≤ 60 by omega⟩ (show 1 = 1 by omega) (show (P 4) + 1 + lc (sgT (t 0) tl) ((P 4) + 1) - P 3 = (P 4) + 1 + lc (sgT (t 0) tl) ((P 4) + 1) - P 4 by omega))
  · have hlc6 := lc_le60 (sgT (t 0) tl) ((P 4) + 1)
    refine z_callVV (As := [.ref (b 0)]) (rest := []) (wr := []) (C := RX0) F (c_X0_readLetters_f l G q d (nup (nup (nup (nup (nup (nup (nup P 4 ((P 4) + 1)) 5 (sgT (t 0) tl (P 4))) 6 0) 7 0) 8 0) 9 0) 10 0) b t L (show (P 4) + 1 ≤ 400 by omega) tl hL hL6 hT rfl rfl (show lc (sgT (t 0) tl) ((P 4) + 1) = 0 by omega) (by exact h1) (show P 3 ≤ (P 4) + 1 by omega)) (cwV 1 hts gX0_readOrder_X0_readLetters rfl rfl rfl (by decide +kernel) ⟨Nat.le_of_ble_eq_true rfl, Nat.le_of_ble_eq_true rfl⟩) hKK (z_recv hKK hP (q0 := 0) (ci := 0) rfl rfl) hP hD hS hA rfl hl.1 rfl (Nat.le_of_ble_eq_true rfl) ⟨Nat.zero_le _, Nat.zero_le _⟩ dX0_readOrder_96 (fun H locs hP hD hS => ?_)
    have hP : va_P G.1 vwCl (playW G q d (nup (nup (nup (nup (nup (nup (nup (nup (nup P 1 1) 2 ((P 4) + 1 + lc (sgT (t 0) tl) ((P 4) + 1) - P 3)) 4 ((P 4) + 1 + lc (sgT (t 0) tl) ((P 4) + 1))) 5 (sgT (t 0) tl (P 4))) 6 0) 7 0) 8 0) 9 (lc (sgT (t 0) tl) ((P 4) + 1))) 10 (wv (sgT (t 0) tl) ((P 4) + 1) (lc (sgT (t 0) tl) ((P 4) + 1)))) ++ textW G b t L) H := hP
    have hD : va_D A (playW G q d (nup (nup (nup (nup (nup (nup (nup (nup (nup P 1 1) 2 ((P 4) + 1 + lc (sgT (t 0) tl) ((P 4) + 1) - P 3)) 4 ((P 4) + 1 + lc (sgT (t 0) tl) ((P 4) + 1))) 5 (sgT (t 0) tl (P 4))) 6 0) 7 0) 8 0) 9 (lc (sgT (t 0) tl) ((P 4) + 1))) 10 (wv (sgT (t 0) tl) ((P 4) + 1) (lc (sgT (t 0) tl) ((P 4) + 1)))) ++ textW G b t L) := hD
    refine lv_goto (tgt := 180) hx hb dX0_readOrder_99 (by decide) ?_
    refine lv_aload_n hx hb dX0_readOrder_180 rfl (lv_at hl 0 rfl) ?_
    refine lv_aload_n hx hb dX0_readOrder_181 rfl (lv_at hl 1 rfl) ?_
    refine lv_bipush (v := nI 59) hx hb dX0_readOrder_182 (by decide) ?_
    refine z_callVVE (As := [.ref (b 0), .int (nI 59)]) (rest := []) (wr := []) (C := RX0) F (c_FL_sign l G q d P (nup (nup (nup (nup (nup (nup (nup (nup (nup P 1 1) 2 ((P 4) + 1 + lc (sgT (t 0) tl) ((P 4) + 1) - P 3)) 4 ((P 4) + 1 + lc (sgT (t 0) tl) ((P 4) + 1))) 5 (sgT (t 0) tl (P 4))) 6 0) 7 0) 8 0) 9 (lc (sgT (t 0) tl) ((P 4) + 1))) 10 (wv (sgT (t 0) tl) ((P 4) + 1) (lc (sgT (t 0) tl) ((P 4) + 1)))) b t L (sgT (t 0) tl (P 4)) ((P 4) + 1 + lc (sgT (t 0) tl) ((P 4) + 1) - P 3) ((P 4) + 1 + lc (sgT (t 0) tl) ((P 4) + 1)) tl (show (P 4) + 1 + lc (sgT (t 0) tl) ((P 4) + 1) ≤ 400 by omega) hL hL6 hT (59) (by omega) (show FSL P (sgT (t 0) tl (P 4)) ((P 4) + 1 + lc (sgT (t 0) tl) ((P 4) + 1) - P 3) ((P 4) + 1 + lc (sgT (t 0) tl) ((P 4) + 1)) (nup (nup (nup (nup (nup (nup (nup (nup (nup P 1 1) 2 ((P 4) + 1 + lc (sgT (t 0) tl) ((P 4) + 1) - P 3)) 4 ((P 4) + 1 + lc (sgT (t 0) tl) ((P 4) + 1))) 5 (sgT (t 0) tl (P 4))) 6 0) 7 0) 8 0) 9 (lc (sgT (t 0) tl) ((P 4) + 1))) 10 (wv (sgT (t 0) tl) ((P 4) + 1) (lc (sgT (t 0) tl) ((P 4) + 1)))) from ⟨rfl, rfl, rfl, rfl, rfl, show 0 ≤ 9 by omega, show 0 ≤ 9 by omega, show 0 ≤ 9 by omega, show lc (sgT (t 0) tl) ((P 4) + 1) ≤ 60 by omega, Nat.le_refl _, show P 3 ≤ (P 4) + 1 + lc (sgT (t 0) tl) ((P 4) + 1) by omega⟩)) (cwV 2 hts gX0_readOrder_X0_readSign rfl rfl rfl (by decide +kernel) ⟨Nat.le_of_ble_eq_true rfl, Nat.le_of_ble_eq_true rfl⟩) hKK (z_recv hKK hP (q0 := 0) (ci := 0) rfl rfl) hP hD hS hA rfl hl.1 rfl (Nat.le_of_ble_eq_true rfl) ⟨Nat.zero_le _, Nat.zero_le _⟩ dX0_readOrder_184 (fun u_3 H locs hq_3 hP hD hS => ?_)
    have hP : va_P G.1 vwCl (playW G q d u_3 ++ textW G b t L) H := hP
    have hD : va_D A (playW G q d u_3 ++ textW G b t L) := hD
    exact z_vretE u_3 hx hb hr hlk hP hD hS dX0_readOrder_187 (ro_fin (q := (P 4) + 1 + lc (sgT (t 0) tl) ((P 4) + 1)) (by rw [prs, if_neg (by omega), if_neg (by omega), if_pos (by omega), prL, if_neg hd_1]) hq_3 (by omega) (by omega))

set_option maxHeartbeats 4000000 in
set_option maxRecDepth 100000 in
theorem c_X0_readOrder_k61 (l : Launch) (G : ZG) (q d : Nat) (P : Nat → Nat) (b : Nat → Nat) (t : Mem) (L : Nat → Nat) (hp4 : P 4 ≤ 60) (hs34 : P 3 = P 4) (h1 : P 1 = 0) (tl : Nat) (hL : L 0 = tl) (hL6 : tl ≤ 60) (hT : okTx (t 0)) (hk : sgT (t 0) tl (P 4) = 61) : CVE l G yX0_readOrder wsX0_readOrder (zRm 3 65) [.ref q, .ref (b 0)] (playW G q d P ++ textW G b t L) (S := Nat → Nat) (roPost (sgT (t 0) tl) P) (fun u => playW G q d u ++ textW G b t L) := by
  refine CVE.ent (cc := cX0_readOrder) (maxL := 2) (own := RX0) (by decide) rfl rfl (Nat.le_of_ble_eq_true rfl) ?_
  intro p ee s m args below meth c A ls F hr hlk hKK hP hD hA hS hl
  obtain ⟨hx, hb, hml, hown, hts⟩ := id F
  have hl : lv_has ls 2 [(0, .ref q), (1, .ref (b 0))] := hl
  have fl_29 := hts (.fieldLink RX0 29 "NameRolls$Player" "at" "I") (by decide +kernel)
  have fl_54 := hts (.fieldLink RX0 54 "NameRolls$Player" "kind" "C") (by decide +kernel)
  have fl_58 := hts (.fieldLink RX0 58 "NameRolls$Player" "table" "I") (by decide +kernel)
  have fl_61 := hts (.fieldLink RX0 61 "NameRolls$Player" "cell" "I") (by decide +kernel)
  have fl_64 := hts (.fieldLink RX0 64 "NameRolls$Player" "rule" "I") (by decide +kernel)
  have fl_67 := hts (.fieldLink RX0 67 "NameRolls$Player" "letters" "I") (by decide +kernel)
  have fl_70 := hts (.fieldLink RX0 70 "NameRolls$Player" "name" "I") (by decide +kernel)
  have hinX0 : ∀ w ∈ wsX00, w ∈ wsX0_readOrder := by decide +kernel
  refine lv_aload_n hx hb dX0_readOrder_0 rfl (lv_at hl 0 rfl) ?_
  refine lv_aload_n hx hb dX0_readOrder_1 rfl (lv_at hl 1 rfl) ?_
  refine lv_aload_n hx hb dX0_readOrder_2 rfl (lv_at hl 0 rfl) ?_
  refine va_get (D := G.1) (ci := 0) (v := .int (nI (P 4))) (C := RX0) (T := TX0) (N := 12) hx hb hts hinX0 hown hKK.1 hP 0 rfl rfl 5 (by decide) fl_29 (fun _ h9 => h9) rfl dX0_readOrder_3 ?_
  refine z_callVI (As := [.int (nI (P 4))]) (rest := [.ref q]) (wr := (playW G q d P)) (C := RX2) F (c_X2_signAt l G b t L (P 4) (by omega) tl hL hL6 hT) (cwV 1 hts gX0_readOrder_X2_signAt rfl rfl rfl (by decide +kernel) ⟨Nat.le_of_ble_eq_true rfl, Nat.le_of_ble_eq_true rfl⟩) hKK (z_recv hKK hP (q0 := 1) (ci := 2) rfl rfl) hP hD hS hA rfl hl.1 rfl (Nat.le_of_ble_eq_true rfl) ⟨Nat.zero_le _, Nat.zero_le _⟩ dX0_readOrder_6 (fun H locs hP hD hS => ?_)
  have hP : va_P G.1 vwCl (playW G q d P ++ textW G b t L) H := hP
  have hD : va_D A (playW G q d P ++ textW G b t L) := hD
  refine z_putC (w2 := playW G q d (nup P 5 (sgT (t 0) tl (P 4))) ++ textW G b t L) hx hb hts hinX0 tyX0 tyX0_ok nmX0 hown hKK hP hD hS 0 (ci := 0) (C := RX0) (T := TX0) (N := 12) rfl rfl 6 (by decide) fl_54 rfl rfl ⟨rfl, _, sgT_lt hT hL6 _, rfl⟩ (Nat.le_of_ble_eq_true rfl) rfl dX0_readOrder_9 (fun H locs hP hD hS => ?_)
  refine lv_aload_n hx hb dX0_readOrder_12 rfl (lv_at hl 0 rfl) ?_
  refine lv_iconst (v := nI 0) hx hb dX0_readOrder_13 (by decide) ?_
  refine z_put (w2 := playW G q d (nup (nup P 5 (sgT (t 0) tl (P 4))) 6 0) ++ textW G b t L) hx hb hts hinX0 tyX0 tyX0_ok nmX0 hown hKK hP hD hS 0 (ci := 0) (C := RX0) (T := TX0) (N := 12) rfl rfl 7 (by decide) fl_58 rfl rfl rfl (Nat.le_of_ble_eq_true rfl) rfl dX0_readOrder_14 (fun H locs hP hD hS => ?_)
  refine lv_aload_n hx hb dX0_readOrder_17 rfl (lv_at hl 0 rfl) ?_
  refine lv_iconst (v := nI 0) hx hb dX0_readOrder_18 (by decide) ?_
  refine z_put (w2 := playW G q d (nup (nup (nup P 5 (sgT (t 0) tl (P 4))) 6 0) 7 0) ++ textW G b t L) hx hb hts hinX0 tyX0 tyX0_ok nmX0 hown hKK hP hD hS 0 (ci := 0) (C := RX0) (T := TX0) (N := 12) rfl rfl 8 (by decide) fl_61 rfl rfl rfl (Nat.le_of_ble_eq_true rfl) rfl dX0_readOrder_19 (fun H locs hP hD hS => ?_)
  refine lv_aload_n hx hb dX0_readOrder_22 rfl (lv_at hl 0 rfl) ?_
  refine lv_iconst (v := nI 0) hx hb dX0_readOrder_23 (by decide) ?_
  refine z_put (w2 := playW G q d (nup (nup (nup (nup P 5 (sgT (t 0) tl (P 4))) 6 0) 7 0) 8 0) ++ textW G b t L) hx hb hts hinX0 tyX0 tyX0_ok nmX0 hown hKK hP hD hS 0 (ci := 0) (C := RX0) (T := TX0) (N := 12) rfl rfl 9 (by decide) fl_64 rfl rfl rfl (Nat.le_of_ble_eq_true rfl) rfl dX0_readOrder_24 (fun H locs hP hD hS => ?_)
  refine lv_aload_n hx hb dX0_readOrder_27 rfl (lv_at hl 0 rfl) ?_
  refine lv_iconst (v := nI 0) hx hb dX0_readOrder_28 (by decide) ?_
  refine z_put (w2 := playW G q d (nup (nup (nup (nup (nup P 5 (sgT (t 0) tl (P 4))) 6 0) 7 0) 8 0) 9 0) ++ textW G b t L) hx hb hts hinX0 tyX0 tyX0_ok nmX0 hown hKK hP hD hS 0 (ci := 0) (C := RX0) (T := TX0) (N := 12) rfl rfl 10 (by decide) fl_67 rfl rfl rfl (Nat.le_of_ble_eq_true rfl) rfl dX0_readOrder_29 (fun H locs hP hD hS => ?_)
  refine lv_aload_n hx hb dX0_readOrder_32 rfl (lv_at hl 0 rfl) ?_
  refine lv_iconst (v := nI 0) hx hb dX0_readOrder_33 (by decide) ?_
  refine z_put (w2 := playW G q d (nup (nup (nup (nup (nup (nup P 5 (sgT (t 0) tl (P 4))) 6 0) 7 0) 8 0) 9 0) 10 0) ++ textW G b t L) hx hb hts hinX0 tyX0 tyX0_ok nmX0 hown hKK hP hD hS 0 (ci := 0) (C := RX0) (T := TX0) (N := 12) rfl rfl 11 (by decide) fl_70 rfl rfl rfl (Nat.le_of_ble_eq_true rfl) rfl dX0_readOrder_34 (fun H locs hP hD hS => ?_)
  refine lv_aload_n hx hb dX0_readOrder_37 rfl (lv_at hl 0 rfl) ?_
  refine va_get (D := G.1) (ci := 0) (v := .int (nI (sgT (t 0) tl (P 4)))) (C := RX0) (T := TX0) (N := 12) hx hb hts hinX0 hown hKK.1 hP 0 rfl rfl 6 (by decide) fl_54 (fun _ h9 => h9) rfl dX0_readOrder_38 ?_
  refine z_top (v := nI 61) (by rw [hk]) ?_
  refine lv_lookup (off := 61) (tgt := 102) hx hb dX0_readOrder_41 (by decide) (by decide) (by decide) ?_
  refine lv_aload_n hx hb dX0_readOrder_102 rfl (lv_at hl 0 rfl) ?_
  refine lv_dup hx hb dX0_readOrder_103 rfl ?_
  refine va_get (D := G.1) (ci := 0) (v := .int (nI (P 4))) (C := RX0) (T := TX0) (N := 12) hx hb hts hinX0 hown hKK.1 hP 0 rfl rfl 5 (by decide) fl_29 (fun _ h9 => h9) rfl dX0_readOrder_104 ?_
  refine lv_iconst (v := nI 1) hx hb dX0_readOrder_107 (by decide) ?_
  refine z_add (v := nI ((P 4) + 1)) hx hb dX0_readOrder_108 (nI_add _ _) ?_
  refine z_put (w2 := playW G q d (nup (nup (nup (nup (nup (nup (nup P 4 ((P 4) + 1)) 5 (sgT (t 0) tl (P 4))) 6 0) 7 0) 8 0) 9 0) 10 0) ++ textW G b t L) hx hb hts hinX0 tyX0 tyX0_ok nmX0 hown hKK hP hD hS 0 (ci := 0) (C := RX0) (T := TX0) (N := 12) rfl rfl 5 (by decide) fl_29 rfl rfl rfl (Nat.le_of_ble_eq_true rfl) rfl dX0_readOrder_109 (fun H locs hP hD hS => ?_)
  refine lv_aload_n hx hb dX0_readOrder_112 rfl (lv_at hl 0 rfl) ?_
  refine lv_aload_n hx hb dX0_readOrder_113 rfl (lv_at hl 0 rfl) ?_
  refine lv_aload_n hx hb dX0_readOrder_114 rfl (lv_at hl 1 rfl) ?_
  rcases z_b (dgB (sgT (t 0) tl ((P 4) + 1))) with hd_1 | hd_1
  · have hg_1 := dgB_t hd_1
    obtain ⟨a_1, ea_1⟩ : ∃ a0, a0 = sgT (t 0) tl ((P 4) + 1) - 48 := ⟨_, rfl⟩
    refine z_callVI (As := [.ref (b 0)]) (rest := [.ref q]) (wr := []) (C := RX0) F (c_X0_readDigit_a l G q d (nup (nup (nup (nup (nup (nup (nup P 4 ((P 4) + 1)) 5 (sgT (t 0) tl (P 4))) 6 0) 7 0) 8 0) 9 0) 10 0) b t L (show (P 4) + 1 ≤ 400 by omega) tl hL hL6 hT hd_1 a_1 ea_1) (cwV 1 hts gX0_readOrder_X0_readDigit rfl rfl rfl (by decide +kernel) ⟨Nat.le_of_ble_eq_true rfl, Nat.le_of_ble_eq_true rfl⟩) hKK (z_recv hKK hP (q0 := 0) (ci := 0) rfl rfl) hP hD hS hA rfl hl.1 rfl (Nat.le_of_ble_eq_true rfl) ⟨Nat.zero_le _, Nat.zero_le _⟩ dX0_readOrder_115 (fun H locs hP hD hS => ?_)
    have hP : va_P G.1 vwCl (playW G q d (nup (nup (nup (nup (nup (nup (nup P 4 ((P 4) + 2)) 5 (sgT (t 0) tl (P 4))) 6 0) 7 0) 8 0) 9 0) 10 0) ++ textW G b t L) H := hP
    have hD : va_D A (playW G q d (nup (nup (nup (nup (nup (nup (nup P 4 ((P 4) + 2)) 5 (sgT (t 0) tl (P 4))) 6 0) 7 0) 8 0) 9 0) 10 0) ++ textW G b t L) := hD
    refine z_put (w2 := playW G q d (nup (nup (nup (nup (nup (nup (nup P 4 ((P 4) + 2)) 5 (sgT (t 0) tl (P 4))) 6 a_1) 7 0) 8 0) 9 0) 10 0) ++ textW G b t L) hx hb hts hinX0 tyX0 tyX0_ok nmX0 hown hKK hP hD hS 0 (ci := 0) (C := RX0) (T := TX0) (N := 12) rfl rfl 7 (by decide) fl_58 rfl rfl rfl (Nat.le_of_ble_eq_true rfl) rfl dX0_readOrder_118 (fun H locs hP hD hS => ?_)
    refine lv_aload_n hx hb dX0_readOrder_121 rfl (lv_at hl 0 rfl) ?_
    refine lv_aload_n hx hb dX0_readOrder_122 rfl (lv_at hl 1 rfl) ?_
    refine lv_bipush (v := nI 44) hx hb dX0_readOrder_123 (by decide) ?_
    rcases Classical.em (sgT (t 0) tl ((P 4) + 2) = 44) with hd_2 | hd_2
    · skip
      refine z_callVV (As := [.ref (b 0), .int (nI 44)]) (rest := []) (wr := []) (C := RX0) F (c_X0_readSign_t l G q d (nup (nup (nup (nup (nup (nup (nup P 4 ((P 4) + 2)) 5 (sgT (t 0) tl (P 4))) 6 a_1) 7 0) 8 0) 9 0) 10 0) b t L (44) (by omega) (show (P 4) + 2 ≤ 400 by omega) tl hL hL6 hT hd_2) (cwV 2 hts gX0_readOrder_X0_readSign rfl rfl rfl (by decide +kernel) ⟨Nat.le_of_ble_eq_true rfl, Nat.le_of_ble_eq_true rfl⟩) hKK (z_recv hKK hP (q0 := 0) (ci := 0) rfl rfl) hP hD hS hA rfl hl.1 rfl (Nat.le_of_ble_eq_true rfl) ⟨Nat.zero_le _, Nat.zero_le _⟩ dX0_readOrder_125 (fun H locs hP hD hS => ?_)
      have hP : va_P G.1 vwCl (playW G q d (nup (nup (nup (nup (nup (nup (nup P 4 ((P 4) + 3)) 5 (sgT (t 0) tl (P 4))) 6 a_1) 7 0) 8 0) 9 0) 10 0) ++ textW G b t L) H := hP
      have hD : va_D A (playW G q d (nup (nup (nup (nup (nup (nup (nup P 4 ((P 4) + 3)) 5 (sgT (t 0) tl (P 4))) 6 a_1) 7 0) 8 0) 9 0) 10 0) ++ textW G b t L) := hD
      refine lv_aload_n hx hb dX0_readOrder_128 rfl (lv_at hl 0 rfl) ?_
      refine lv_aload_n hx hb dX0_readOrder_129 rfl (lv_at hl 0 rfl) ?_
      refine lv_aload_n hx hb dX0_readOrder_130 rfl (lv_at hl 1 rfl) ?_
      rcases z_b (dgB (sgT (t 0) tl ((P 4) + 3))) with hd_3 | hd_3
      · have hg_3 := dgB_t hd_3
        obtain ⟨a_3, ea_3⟩ : ∃ a0, a0 = sgT (t 0) tl ((P 4) + 3) - 48 := ⟨_, rfl⟩
        refine z_callVI (As := [.ref (b 0)]) (rest := [.ref q]) (wr := []) (C := RX0) F (c_X0_readDigit_a l G q d (nup (nup (nup (nup (nup (nup (nup P 4 ((P 4) + 3)) 5 (sgT (t 0) tl (P 4))) 6 a_1) 7 0) 8 0) 9 0) 10 0) b t L (show (P 4) + 3 ≤ 400 by omega) tl hL hL6 hT hd_3 a_3 ea_3) (cwV 1 hts gX0_readOrder_X0_readDigit rfl rfl rfl (by decide +kernel) ⟨Nat.le_of_ble_eq_true rfl, Nat.le_of_ble_eq_true rfl⟩) hKK (z_recv hKK hP (q0 := 0) (ci := 0) rfl rfl) hP hD hS hA rfl hl.1 rfl (Nat.le_of_ble_eq_true rfl) ⟨Nat.zero_le _, Nat.zero_le _⟩ dX0_readOrder_131 (fun H locs hP hD hS => ?_)
        have hP : va_P G.1 vwCl (playW G q d (nup (nup (nup (nup (nup (nup (nup P 4 ((P 4) + 4)) 5 (sgT (t 0) tl (P 4))) 6 a_1) 7 0) 8 0) 9 0) 10 0) ++ textW G b t L) H := hP
        have hD : va_D A (playW G q d (nup (nup (nup (nup (nup (nup (nup P 4 ((P 4) + 4)) 5 (sgT (t 0) tl (P 4))) 6 a_1) 7 0) 8 0) 9 0) 10 0) ++ textW G b t L) := hD
        refine z_put (w2 := playW G q d (nup (nup (nup (nup (nup (nup (nup P 4 ((P 4) + 4)) 5 (sgT (t 0) tl (P 4))) 6 a_1) 7 a_3) 8 0) 9 0) 10 0) ++ textW G b t L) hx hb hts hinX0 tyX0 tyX0_ok nmX0 hown hKK hP hD hS 0 (ci := 0) (C := RX0) (T := TX0) (N := 12) rfl rfl 8 (by decide) fl_61 rfl rfl rfl (Nat.le_of_ble_eq_true rfl) rfl dX0_readOrder_134 (fun H locs hP hD hS => ?_)
        exact c_X0_readOrder_y61 l G q d P b t L a_1 a_3 hp4 hs34 h1 tl hL hL6 hT hk hd_1 hd_2 hd_3 ea_1 ea_3 p ee s m args below meth c A F hr hlk hKK hA _ _ _ hP hD hS (lv_sub hl [0, 1] rfl)
      · skip
        refine z_callVI (As := [.ref (b 0)]) (rest := [.ref q]) (wr := []) (C := RX0) F (c_X0_readDigit_f l G q d (nup (nup (nup (nup (nup (nup (nup P 4 ((P 4) + 3)) 5 (sgT (t 0) tl (P 4))) 6 a_1) 7 0) 8 0) 9 0) 10 0) b t L (show (P 4) + 3 ≤ 400 by omega) tl hL hL6 hT hd_3 (by exact h1) (show P 3 ≤ (P 4) + 3 by omega)) (cwV 1 hts gX0_readOrder_X0_readDigit rfl rfl rfl (by decide +kernel) ⟨Nat.le_of_ble_eq_true rfl, Nat.le_of_ble_eq_true rfl⟩) hKK (z_recv hKK hP (q0 := 0) (ci := 0) rfl rfl) hP hD hS hA rfl hl.1 rfl (Nat.le_of_ble_eq_true rfl) ⟨Nat.zero_le _, Nat.zero_le _⟩ dX0_readOrder_131 (fun H locs hP hD hS => ?_)
        have hP : va_P G.1 vwCl (playW G q d (nup (nup (nup (nup (nup (nup (nup (nup (nup P 1 1) 2 ((P 4) + 3 - P 3)) 4 ((P 4) + 3)) 5 (sgT (t 0) tl (P 4))) 6 a_1) 7 0) 8 0) 9 0) 10 0) ++ textW G b t L) H := hP
        have hD : va_D A (playW G q d (nup (nup (nup (nup (nup (nup (nup (nup (nup P 1 1) 2 ((P 4) + 3 - P 3)) 4 ((P 4) + 3)) 5 (sgT (t 0) tl (P 4))) 6 a_1) 7 0) 8 0) 9 0) 10 0) ++ textW G b t L) := hD
        refine z_put (w2 := playW G q d (nup (nup (nup (nup (nup (nup (nup (nup (nup P 1 1) 2 ((P 4) + 3 - P 3)) 4 ((P 4) + 3)) 5 (sgT (t 0) tl (P 4))) 6 a_1) 7 0) 8 0) 9 0) 10 0) ++ textW G b t L) hx hb hts hinX0 tyX0 tyX0_ok nmX0 hown hKK hP hD hS 0 (ci := 0) (C := RX0) (T := TX0) (N := 12) rfl rfl 8 (by decide) fl_61 rfl rfl rfl (Nat.le_of_ble_eq_true rfl) rfl dX0_readOrder_134 (fun H locs hP hD hS => ?_)
        exact c_X0_readOrder_n61 l G q d P b t L _ ((P 4) + 3) ((P 4) + 3 - P 3) ((P 4) + 3) tl hL hL6 hT (show FS P (sgT (t 0) tl (P 4)) ((P 4) + 3 - P 3) ((P 4) + 3) (nup (nup (nup (nup (nup (nup (nup (nup (nup P 1 1) 2 ((P 4) + 3 - P 3)) 4 ((P 4) + 3)) 5 (sgT (t 0) tl (P 4))) 6 a_1) 7 0) 8 0) 9 0) 10 0) from ⟨rfl, rfl, rfl, rfl, rfl, show a_1 ≤ 9 by omega, show 0 ≤ 9 by omega, show 0 ≤ 9 by omega, rfl, rfl, Nat.le_refl _, show P 3 ≤ (P 4) + 3 by omega⟩) (by rw [prs, if_neg (by omega), if_pos hk, if_pos hd_1, if_pos hd_2, if_neg (by rw [hd_3]; decide)]) (by omega) (by omega) hp4 p ee s m args below meth c A F hr hlk hKK hA _ _ _ hP hD hS (lv_sub hl [0, 1] rfl)
    · skip
      refine z_callVV (As := [.ref (b 0), .int (nI 44)]) (rest := []) (wr := []) (C := RX0) F (c_X0_readSign_f l G q d (nup (nup (nup (nup (nup (nup (nup P 4 ((P 4) + 2)) 5 (sgT (t 0) tl (P 4))) 6 a_1) 7 0) 8 0) 9 0) 10 0) b t L (44) (by omega) (show (P 4) + 2 ≤ 400 by omega) tl hL hL6 hT hd_2 (by exact h1) (show P 3 ≤ (P 4) + 2 by omega)) (cwV 2 hts gX0_readOrder_X0_readSign rfl rfl rfl (by decide +kernel) ⟨Nat.le_of_ble_eq_true rfl, Nat.le_of_ble_eq_true rfl⟩) hKK (z_recv hKK hP (q0 := 0) (ci := 0) rfl rfl) hP hD hS hA rfl hl.1 rfl (Nat.le_of_ble_eq_true rfl) ⟨Nat.zero_le _, Nat.zero_le _⟩ dX0_readOrder_125 (fun H locs hP hD hS => ?_)
      have hP : va_P G.1 vwCl (playW G q d (nup (nup (nup (nup (nup (nup (nup (nup (nup P 1 1) 2 ((P 4) + 2 - P 3)) 4 ((P 4) + 2)) 5 (sgT (t 0) tl (P 4))) 6 a_1) 7 0) 8 0) 9 0) 10 0) ++ textW G b t L) H := hP
      have hD : va_D A (playW G q d (nup (nup (nup (nup (nup (nup (nup (nup (nup P 1 1) 2 ((P 4) + 2 - P 3)) 4 ((P 4) + 2)) 5 (sgT (t 0) tl (P 4))) 6 a_1) 7 0) 8 0) 9 0) 10 0) ++ textW G b t L) := hD
      refine lv_aload_n hx hb dX0_readOrder_128 rfl (lv_at hl 0 rfl) ?_
      refine lv_aload_n hx hb dX0_readOrder_129 rfl (lv_at hl 0 rfl) ?_
      refine lv_aload_n hx hb dX0_readOrder_130 rfl (lv_at hl 1 rfl) ?_
      refine z_callVIE (As := [.ref (b 0)]) (rest := [.ref q]) (wr := []) (C := RX0) F (c_F_digit l G q d P (nup (nup (nup (nup (nup (nup (nup (nup (nup P 1 1) 2 ((P 4) + 2 - P 3)) 4 ((P 4) + 2)) 5 (sgT (t 0) tl (P 4))) 6 a_1) 7 0) 8 0) 9 0) 10 0) b t L (sgT (t 0) tl (P 4)) ((P 4) + 2 - P 3) ((P 4) + 2) tl (show (P 4) + 2 ≤ 400 by omega) hL hL6 hT (show FS P (sgT (t 0) tl (P 4)) ((P 4) + 2 - P 3) ((P 4) + 2) (nup (nup (nup (nup (nup (nup (nup (nup (nup P 1 1) 2 ((P 4) + 2 - P 3)) 4 ((P 4) + 2)) 5 (sgT (t 0) tl (P 4))) 6 a_1) 7 0) 8 0) 9 0) 10 0) from ⟨rfl, rfl, rfl, rfl, rfl, show a_1 ≤ 9 by omega, show 0 ≤ 9 by omega, show 0 ≤ 9 by omega, rfl, rfl, Nat.le_refl _, show P 3 ≤ (P 4) + 2 by omega⟩)) (cwV 1 hts gX0_readOrder_X0_readDigit rfl rfl rfl (by decide +kernel) ⟨Nat.le_of_ble_eq_true rfl, Nat.le_of_ble_eq_true rfl⟩) hKK (z_recv hKK hP (q0 := 0) (ci := 0) rfl rfl) hP hD hS hA rfl hl.1 rfl (Nat.le_of_ble_eq_true rfl) ⟨Nat.zero_le _, Nat.zero_le _⟩ dX0_readOrder_131 (fun r_4 u_4 H locs hq_4 hP hD hS => ?_)
      obtain ⟨hr_4, hd9_4, hF_4⟩ := hq_4
      subst hr_4
      have hP : va_P G.1 vwCl (playW G q d u_4.2 ++ textW G b t L) H := hP
      have hD : va_D A (playW G q d u_4.2 ++ textW G b t L) := hD
      refine z_put (w2 := playW G q d (nup u_4.2 7 u_4.1) ++ textW G b t L) hx hb hts hinX0 tyX0 tyX0_ok nmX0 hown hKK hP hD hS 0 (ci := 0) (C := RX0) (T := TX0) (N := 12) rfl rfl 8 (by decide) fl_61 rfl rfl rfl (Nat.le_of_ble_eq_true rfl) rfl dX0_readOrder_134 (fun H locs hP hD hS => ?_)
      exact c_X0_readOrder_n61 l G q d P b t L _ ((P 4) + 2) ((P 4) + 2 - P 3) ((P 4) + 3) tl hL hL6 hT (FS_7 hF_4 hd9_4) (by rw [prs, if_neg (by omega), if_pos hk, if_pos hd_1, if_neg hd_2]) (by omega) (by omega) hp4 p ee s m args below meth c A F hr hlk hKK hA _ _ _ hP hD hS (lv_sub hl [0, 1] rfl)
  · skip
    refine z_callVI (As := [.ref (b 0)]) (rest := [.ref q]) (wr := []) (C := RX0) F (c_X0_readDigit_f l G q d (nup (nup (nup (nup (nup (nup (nup P 4 ((P 4) + 1)) 5 (sgT (t 0) tl (P 4))) 6 0) 7 0) 8 0) 9 0) 10 0) b t L (show (P 4) + 1 ≤ 400 by omega) tl hL hL6 hT hd_1 (by exact h1) (show P 3 ≤ (P 4) + 1 by omega)) (cwV 1 hts gX0_readOrder_X0_readDigit rfl rfl rfl (by decide +kernel) ⟨Nat.le_of_ble_eq_true rfl, Nat.le_of_ble_eq_true rfl⟩) hKK (z_recv hKK hP (q0 := 0) (ci := 0) rfl rfl) hP hD hS hA rfl hl.1 rfl (Nat.le_of_ble_eq_true rfl) ⟨Nat.zero_le _, Nat.zero_le _⟩ dX0_readOrder_115 (fun H locs hP hD hS => ?_)
    have hP : va_P G.1 vwCl (playW G q d (nup (nup (nup (nup (nup (nup (nup (nup (nup P 1 1) 2 ((P 4) + 1 - P 3)) 4 ((P 4) + 1)) 5 (sgT (t 0) tl (P 4))) 6 0) 7 0) 8 0) 9 0) 10 0) ++ textW G b t L) H := hP
    have hD : va_D A (playW G q d (nup (nup (nup (nup (nup (nup (nup (nup (nup P 1 1) 2 ((P 4) + 1 - P 3)) 4 ((P 4) + 1)) 5 (sgT (t 0) tl (P 4))) 6 0) 7 0) 8 0) 9 0) 10 0) ++ textW G b t L) := hD
    refine z_put (w2 := playW G q d (nup (nup (nup (nup (nup (nup (nup (nup (nup P 1 1) 2 ((P 4) + 1 - P 3)) 4 ((P 4) + 1)) 5 (sgT (t 0) tl (P 4))) 6 0) 7 0) 8 0) 9 0) 10 0) ++ textW G b t L) hx hb hts hinX0 tyX0 tyX0_ok nmX0 hown hKK hP hD hS 0 (ci := 0) (C := RX0) (T := TX0) (N := 12) rfl rfl 7 (by decide) fl_58 rfl rfl rfl (Nat.le_of_ble_eq_true rfl) rfl dX0_readOrder_118 (fun H locs hP hD hS => ?_)
    refine lv_aload_n hx hb dX0_readOrder_121 rfl (lv_at hl 0 rfl) ?_
    refine lv_aload_n hx hb dX0_readOrder_122 rfl (lv_at hl 1 rfl) ?_
    refine lv_bipush (v := nI 44) hx hb dX0_readOrder_123 (by decide) ?_
    refine z_callVVE (As := [.ref (b 0), .int (nI 44)]) (rest := []) (wr := []) (C := RX0) F (c_F_sign l G q d P (nup (nup (nup (nup (nup (nup (nup (nup (nup P 1 1) 2 ((P 4) + 1 - P 3)) 4 ((P 4) + 1)) 5 (sgT (t 0) tl (P 4))) 6 0) 7 0) 8 0) 9 0) 10 0) b t L (sgT (t 0) tl (P 4)) ((P 4) + 1 - P 3) ((P 4) + 1) tl (show (P 4) + 1 ≤ 400 by omega) hL hL6 hT (44) (by omega) (show FS P (sgT (t 0) tl (P 4)) ((P 4) + 1 - P 3) ((P 4) + 1) (nup (nup (nup (nup (nup (nup (nup (nup (nup P 1 1) 2 ((P 4) + 1 - P 3)) 4 ((P 4) + 1)) 5 (sgT (t 0) tl (P 4))) 6 0) 7 0) 8 0) 9 0) 10 0) from ⟨rfl, rfl, rfl, rfl, rfl, show 0 ≤ 9 by omega, show 0 ≤ 9 by omega, show 0 ≤ 9 by omega, rfl, rfl, Nat.le_refl _, show P 3 ≤ (P 4) + 1 by omega⟩)) (cwV 2 hts gX0_readOrder_X0_readSign rfl rfl rfl (by decide +kernel) ⟨Nat.le_of_ble_eq_true rfl, Nat.le_of_ble_eq_true rfl⟩) hKK (z_recv hKK hP (q0 := 0) (ci := 0) rfl rfl) hP hD hS hA rfl hl.1 rfl (Nat.le_of_ble_eq_true rfl) ⟨Nat.zero_le _, Nat.zero_le _⟩ dX0_readOrder_125 (fun u_5 H locs hq_5 hP hD hS => ?_)
    have hP : va_P G.1 vwCl (playW G q d u_5 ++ textW G b t L) H := hP
    have hD : va_D A (playW G q d u_5 ++ textW G b t L) := hD
    refine lv_aload_n hx hb dX0_readOrder_128 rfl (lv_at hl 0 rfl) ?_
    refine lv_aload_n hx hb dX0_readOrder_129 rfl (lv_at hl 0 rfl) ?_
    refine lv_aload_n hx hb dX0_readOrder_130 rfl (lv_at hl 1 rfl) ?_
    refine z_callVIE (As := [.ref (b 0)]) (rest := [.ref q]) (wr := []) (C := RX0) F (c_F_digit l G q d P u_5 b t L (sgT (t 0) tl (P 4)) ((P 4) + 1 - P 3) ((P 4) + 2) tl (show (P 4) + 2 ≤ 400 by omega) hL hL6 hT hq_5) (cwV 1 hts gX0_readOrder_X0_readDigit rfl rfl rfl (by decide +kernel) ⟨Nat.le_of_ble_eq_true rfl, Nat.le_of_ble_eq_true rfl⟩) hKK (z_recv hKK hP (q0 := 0) (ci := 0) rfl rfl) hP hD hS hA rfl hl.1 rfl (Nat.le_of_ble_eq_true rfl) ⟨Nat.zero_le _, Nat.zero_le _⟩ dX0_readOrder_131 (fun r_6 u_6 H locs hq_6 hP hD hS => ?_)
    obtain ⟨hr_6, hd9_6, hF_6⟩ := hq_6
    subst hr_6
    have hP : va_P G.1 vwCl (playW G q d u_6.2 ++ textW G b t L) H := hP
    have hD : va_D A (playW G q d u_6.2 ++ textW G b t L) := hD
    refine z_put (w2 := playW G q d (nup u_6.2 7 u_6.1) ++ textW G b t L) hx hb hts hinX0 tyX0 tyX0_ok nmX0 hown hKK hP hD hS 0 (ci := 0) (C := RX0) (T := TX0) (N := 12) rfl rfl 8 (by decide) fl_61 rfl rfl rfl (Nat.le_of_ble_eq_true rfl) rfl dX0_readOrder_134 (fun H locs hP hD hS => ?_)
    exact c_X0_readOrder_n61 l G q d P b t L _ ((P 4) + 1) ((P 4) + 1 - P 3) ((P 4) + 3) tl hL hL6 hT (FS_7 hF_6 hd9_6) (by rw [prs, if_neg (by omega), if_pos hk, if_neg (by rw [hd_1]; decide)]) (by omega) (by omega) hp4 p ee s m args below meth c A F hr hlk hKK hA _ _ _ hP hD hS (lv_sub hl [0, 1] rfl)

set_option maxHeartbeats 4000000 in
set_option maxRecDepth 100000 in
theorem c_X0_readOrder_k0 (l : Launch) (G : ZG) (q d : Nat) (P : Nat → Nat) (b : Nat → Nat) (t : Mem) (L : Nat → Nat) (hp4 : P 4 ≤ 60) (hs34 : P 3 = P 4) (h1 : P 1 = 0) (tl : Nat) (hL : L 0 = tl) (hL6 : tl ≤ 60) (hT : okTx (t 0)) (hk : ¬ sgT (t 0) tl (P 4) = 33 ∧ ¬ sgT (t 0) tl (P 4) = 43 ∧ ¬ sgT (t 0) tl (P 4) = 45 ∧ ¬ sgT (t 0) tl (P 4) = 61) : CVE l G yX0_readOrder wsX0_readOrder (zRm 3 65) [.ref q, .ref (b 0)] (playW G q d P ++ textW G b t L) (S := Nat → Nat) (roPost (sgT (t 0) tl) P) (fun u => playW G q d u ++ textW G b t L) := by
  refine CVE.ent (cc := cX0_readOrder) (maxL := 2) (own := RX0) (by decide) rfl rfl (Nat.le_of_ble_eq_true rfl) ?_
  intro p ee s m args below meth c A ls F hr hlk hKK hP hD hA hS hl
  obtain ⟨hx, hb, hml, hown, hts⟩ := id F
  have hl : lv_has ls 2 [(0, .ref q), (1, .ref (b 0))] := hl
  have fl_29 := hts (.fieldLink RX0 29 "NameRolls$Player" "at" "I") (by decide +kernel)
  have fl_54 := hts (.fieldLink RX0 54 "NameRolls$Player" "kind" "C") (by decide +kernel)
  have fl_58 := hts (.fieldLink RX0 58 "NameRolls$Player" "table" "I") (by decide +kernel)
  have fl_61 := hts (.fieldLink RX0 61 "NameRolls$Player" "cell" "I") (by decide +kernel)
  have fl_64 := hts (.fieldLink RX0 64 "NameRolls$Player" "rule" "I") (by decide +kernel)
  have fl_67 := hts (.fieldLink RX0 67 "NameRolls$Player" "letters" "I") (by decide +kernel)
  have fl_70 := hts (.fieldLink RX0 70 "NameRolls$Player" "name" "I") (by decide +kernel)
  have hinX0 : ∀ w ∈ wsX00, w ∈ wsX0_readOrder := by decide +kernel
  refine lv_aload_n hx hb dX0_readOrder_0 rfl (lv_at hl 0 rfl) ?_
  refine lv_aload_n hx hb dX0_readOrder_1 rfl (lv_at hl 1 rfl) ?_
  refine lv_aload_n hx hb dX0_readOrder_2 rfl (lv_at hl 0 rfl) ?_
  refine va_get (D := G.1) (ci := 0) (v := .int (nI (P 4))) (C := RX0) (T := TX0) (N := 12) hx hb hts hinX0 hown hKK.1 hP 0 rfl rfl 5 (by decide) fl_29 (fun _ h9 => h9) rfl dX0_readOrder_3 ?_
  refine z_callVI (As := [.int (nI (P 4))]) (rest := [.ref q]) (wr := (playW G q d P)) (C := RX2) F (c_X2_signAt l G b t L (P 4) (by omega) tl hL hL6 hT) (cwV 1 hts gX0_readOrder_X2_signAt rfl rfl rfl (by decide +kernel) ⟨Nat.le_of_ble_eq_true rfl, Nat.le_of_ble_eq_true rfl⟩) hKK (z_recv hKK hP (q0 := 1) (ci := 2) rfl rfl) hP hD hS hA rfl hl.1 rfl (Nat.le_of_ble_eq_true rfl) ⟨Nat.zero_le _, Nat.zero_le _⟩ dX0_readOrder_6 (fun H locs hP hD hS => ?_)
  have hP : va_P G.1 vwCl (playW G q d P ++ textW G b t L) H := hP
  have hD : va_D A (playW G q d P ++ textW G b t L) := hD
  refine z_putC (w2 := playW G q d (nup P 5 (sgT (t 0) tl (P 4))) ++ textW G b t L) hx hb hts hinX0 tyX0 tyX0_ok nmX0 hown hKK hP hD hS 0 (ci := 0) (C := RX0) (T := TX0) (N := 12) rfl rfl 6 (by decide) fl_54 rfl rfl ⟨rfl, _, sgT_lt hT hL6 _, rfl⟩ (Nat.le_of_ble_eq_true rfl) rfl dX0_readOrder_9 (fun H locs hP hD hS => ?_)
  refine lv_aload_n hx hb dX0_readOrder_12 rfl (lv_at hl 0 rfl) ?_
  refine lv_iconst (v := nI 0) hx hb dX0_readOrder_13 (by decide) ?_
  refine z_put (w2 := playW G q d (nup (nup P 5 (sgT (t 0) tl (P 4))) 6 0) ++ textW G b t L) hx hb hts hinX0 tyX0 tyX0_ok nmX0 hown hKK hP hD hS 0 (ci := 0) (C := RX0) (T := TX0) (N := 12) rfl rfl 7 (by decide) fl_58 rfl rfl rfl (Nat.le_of_ble_eq_true rfl) rfl dX0_readOrder_14 (fun H locs hP hD hS => ?_)
  refine lv_aload_n hx hb dX0_readOrder_17 rfl (lv_at hl 0 rfl) ?_
  refine lv_iconst (v := nI 0) hx hb dX0_readOrder_18 (by decide) ?_
  refine z_put (w2 := playW G q d (nup (nup (nup P 5 (sgT (t 0) tl (P 4))) 6 0) 7 0) ++ textW G b t L) hx hb hts hinX0 tyX0 tyX0_ok nmX0 hown hKK hP hD hS 0 (ci := 0) (C := RX0) (T := TX0) (N := 12) rfl rfl 8 (by decide) fl_61 rfl rfl rfl (Nat.le_of_ble_eq_true rfl) rfl dX0_readOrder_19 (fun H locs hP hD hS => ?_)
  refine lv_aload_n hx hb dX0_readOrder_22 rfl (lv_at hl 0 rfl) ?_
  refine lv_iconst (v := nI 0) hx hb dX0_readOrder_23 (by decide) ?_
  refine z_put (w2 := playW G q d (nup (nup (nup (nup P 5 (sgT (t 0) tl (P 4))) 6 0) 7 0) 8 0) ++ textW G b t L) hx hb hts hinX0 tyX0 tyX0_ok nmX0 hown hKK hP hD hS 0 (ci := 0) (C := RX0) (T := TX0) (N := 12) rfl rfl 9 (by decide) fl_64 rfl rfl rfl (Nat.le_of_ble_eq_true rfl) rfl dX0_readOrder_24 (fun H locs hP hD hS => ?_)
  refine lv_aload_n hx hb dX0_readOrder_27 rfl (lv_at hl 0 rfl) ?_
  refine lv_iconst (v := nI 0) hx hb dX0_readOrder_28 (by decide) ?_
  refine z_put (w2 := playW G q d (nup (nup (nup (nup (nup P 5 (sgT (t 0) tl (P 4))) 6 0) 7 0) 8 0) 9 0) ++ textW G b t L) hx hb hts hinX0 tyX0 tyX0_ok nmX0 hown hKK hP hD hS 0 (ci := 0) (C := RX0) (T := TX0) (N := 12) rfl rfl 10 (by decide) fl_67 rfl rfl rfl (Nat.le_of_ble_eq_true rfl) rfl dX0_readOrder_29 (fun H locs hP hD hS => ?_)
  refine lv_aload_n hx hb dX0_readOrder_32 rfl (lv_at hl 0 rfl) ?_
  refine lv_iconst (v := nI 0) hx hb dX0_readOrder_33 (by decide) ?_
  refine z_put (w2 := playW G q d (nup (nup (nup (nup (nup (nup P 5 (sgT (t 0) tl (P 4))) 6 0) 7 0) 8 0) 9 0) 10 0) ++ textW G b t L) hx hb hts hinX0 tyX0 tyX0_ok nmX0 hown hKK hP hD hS 0 (ci := 0) (C := RX0) (T := TX0) (N := 12) rfl rfl 11 (by decide) fl_70 rfl rfl rfl (Nat.le_of_ble_eq_true rfl) rfl dX0_readOrder_34 (fun H locs hP hD hS => ?_)
  refine lv_aload_n hx hb dX0_readOrder_37 rfl (lv_at hl 0 rfl) ?_
  refine va_get (D := G.1) (ci := 0) (v := .int (nI (sgT (t 0) tl (P 4)))) (C := RX0) (T := TX0) (N := 12) hx hb hts hinX0 hown hKK.1 hP 0 rfl rfl 6 (by decide) fl_54 (fun _ h9 => h9) rfl dX0_readOrder_38 ?_
  have hsl := sgT_lt hT hL6 (P 4)
  refine lv_lookup (off := 133) (tgt := 174) hx hb dX0_readOrder_41 (by decide) (lk_out4 (by omega) (by omega) (by omega) (by omega) (by omega)) (by decide) ?_
  refine lv_aload_n hx hb dX0_readOrder_174 rfl (lv_at hl 0 rfl) ?_
  refine lv_iconst (v := nI 1) hx hb dX0_readOrder_175 (by decide) ?_
  refine lv_iconst (v := nI 0) hx hb dX0_readOrder_176 (by decide) ?_
  refine z_callVV (As := [.int (nI 1), .int (nI 0)]) (rest := []) (wr := (textW G b t L)) (C := RX0) F (c_X0_fail_z l G q d (nup (nup (nup (nup (nup (nup P 5 (sgT (t 0) tl (P 4))) 6 0) 7 0) 8 0) 9 0) 10 0) (1) (0) (by exact h1)) (cwV 2 hts gX0_readOrder_X0_fail rfl rfl rfl (by decide +kernel) ⟨Nat.le_of_ble_eq_true rfl, Nat.le_of_ble_eq_true rfl⟩) hKK (z_recv hKK hP (q0 := 0) (ci := 0) rfl rfl) (z_perm List.perm_append_comm hP) (z_permD List.perm_append_comm hD) hS hA rfl hl.1 rfl (Nat.le_of_ble_eq_true rfl) ⟨Nat.zero_le _, Nat.zero_le _⟩ dX0_readOrder_177 (fun H locs hP hD hS => ?_)
  have hP : va_P G.1 vwCl (playW G q d (nup (nup (nup (nup (nup (nup (nup (nup P 1 1) 2 0) 5 (sgT (t 0) tl (P 4))) 6 0) 7 0) 8 0) 9 0) 10 0) ++ textW G b t L) H := (z_perm List.perm_append_comm hP)
  have hD : va_D A (playW G q d (nup (nup (nup (nup (nup (nup (nup (nup P 1 1) 2 0) 5 (sgT (t 0) tl (P 4))) 6 0) 7 0) 8 0) 9 0) 10 0) ++ textW G b t L) := (z_permD List.perm_append_comm hD)
  refine lv_aload_n hx hb dX0_readOrder_180 rfl (lv_at hl 0 rfl) ?_
  refine lv_aload_n hx hb dX0_readOrder_181 rfl (lv_at hl 1 rfl) ?_
  refine lv_bipush (v := nI 59) hx hb dX0_readOrder_182 (by decide) ?_
  refine z_callVVE (As := [.ref (b 0), .int (nI 59)]) (rest := []) (wr := []) (C := RX0) F (c_F_sign l G q d P (nup (nup (nup (nup (nup (nup (nup (nup P 1 1) 2 0) 5 (sgT (t 0) tl (P 4))) 6 0) 7 0) 8 0) 9 0) 10 0) b t L (sgT (t 0) tl (P 4)) (0) (P 4) tl (show P 4 ≤ 400 by omega) hL hL6 hT (59) (by omega) (show FS P (sgT (t 0) tl (P 4)) (0) (P 4) (nup (nup (nup (nup (nup (nup (nup (nup P 1 1) 2 0) 5 (sgT (t 0) tl (P 4))) 6 0) 7 0) 8 0) 9 0) 10 0) from ⟨rfl, rfl, rfl, rfl, rfl, show 0 ≤ 9 by omega, show 0 ≤ 9 by omega, show 0 ≤ 9 by omega, rfl, rfl, Nat.le_refl _, show P 3 ≤ P 4 by omega⟩)) (cwV 2 hts gX0_readOrder_X0_readSign rfl rfl rfl (by decide +kernel) ⟨Nat.le_of_ble_eq_true rfl, Nat.le_of_ble_eq_true rfl⟩) hKK (z_recv hKK hP (q0 := 0) (ci := 0) rfl rfl) hP hD hS hA rfl hl.1 rfl (Nat.le_of_ble_eq_true rfl) ⟨Nat.zero_le _, Nat.zero_le _⟩ dX0_readOrder_184 (fun u_1 H locs hq_1 hP hD hS => ?_)
  have hP : va_P G.1 vwCl (playW G q d u_1 ++ textW G b t L) H := hP
  have hD : va_D A (playW G q d u_1 ++ textW G b t L) := hD
  exact z_vretE u_1 hx hb hr hlk hP hD hS dX0_readOrder_187 (ro_fin (q := P 4) (by rw [prs, if_neg (by omega), if_neg (by omega), if_neg (by omega)]) (FS_L hq_1) (by omega) (by omega))

theorem c_X0_readOrder (l : Launch) (G : ZG) (q d : Nat) (P : Nat → Nat) (b : Nat → Nat) (t : Mem) (L : Nat → Nat) (hp4 : P 4 ≤ 60) (hs34 : P 3 = P 4) (h1 : P 1 = 0) (tl : Nat) (hL : L 0 = tl) (hL6 : tl ≤ 60) (hT : okTx (t 0)) : CVE l G yX0_readOrder wsX0_readOrder (zRm 3 65) [.ref q, .ref (b 0)] (playW G q d P ++ textW G b t L) (S := Nat → Nat) (roPost (sgT (t 0) tl) P) (fun u => playW G q d u ++ textW G b t L) := by
  rcases kd_cases (sgT (t 0) tl (P 4)) with hk | hk | hk | hk | hk
  · exact c_X0_readOrder_k33 l G q d P b t L hp4 hs34 h1 tl hL hL6 hT hk
  · exact c_X0_readOrder_k43 l G q d P b t L hp4 hs34 h1 tl hL hL6 hT hk
  · exact c_X0_readOrder_k45 l G q d P b t L hp4 hs34 h1 tl hL hL6 hT hk
  · exact c_X0_readOrder_k61 l G q d P b t L hp4 hs34 h1 tl hL hL6 hT hk
  · exact c_X0_readOrder_k0 l G q d P b t L hp4 hs34 h1 tl hL hL6 hT hk
