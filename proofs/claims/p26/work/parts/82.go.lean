set_option maxHeartbeats 4000000 in
set_option maxRecDepth 100000 in
theorem c_L_goes (l : Launch) (G : ZG) (o pr q : Nat) (a b d : Nat → Nat) (pa : Nat → Nat → Nat) (S P L : Nat → Nat) (t v u : Mem) (pv : Nat → Mem) (B : Nat) (h : Inv B S L t v pv) (hB : B < 9900) (x y : Int32) : CIE l G yL_goes wsL_goes (zRm 8 186) [.ref o, .int x, .int y] (clW G o pr q a b d (pa, S, P, L, t, v, u, pv)) (S := CS) (fun r c' => goP B (pa, S, P, L, t, v, u, pv) r c') (fun c' => clW G o pr q a b d c') := by
  refine CIE.ent (cc := cL_goes) (maxL := 3) (ty := .int) (own := RL) (by decide) rfl rfl (Nat.le_of_ble_eq_true rfl) ?_
  intro p ee s m args below meth c A ls F hr hlk hKK hP hD hA hS hl
  obtain ⟨hx, hb, hml, hown, hts⟩ := id F
  have hl : lv_has ls 3 [(0, .ref o), (1, .int x), (2, .int y)] := hl
  have hlo := lowN_lt x (show 0 < 14 by omega)
  obtain ⟨⟨e, hX⟩, -⟩ := id h
  have hQ := qs_mk l G o pr q a b d pa S P L t v u pv hX.1 hX.2.1 (show B < 10000 by omega)
  refine lv_iload_n hx hb dL_goes_0 rfl (lv_at hl 1 rfl) ?_
  refine lv_bipush (v := nI 14) hx hb dL_goes_1 (by decide) ?_
  refine z_qS (As := [.int x, .int (nI 14)]) (rest := []) F (c_L_low l G (clW G o pr q a b d (pa, S, P, L, t, v, u, pv)) x 14 (by omega) (by omega)) (va_cwS 2 hts gL_goes_L_low rfl rfl rfl (by decide +kernel) ⟨Nat.le_of_ble_eq_true rfl, Nat.le_of_ble_eq_true rfl⟩) hKK hP hD hS hA rfl hl.1 rfl (Nat.le_of_ble_eq_true rfl) ⟨Nat.zero_le _, Nat.zero_le _⟩ dL_goes_3 (fun H locs hP hD hS => ?_)
  rcases (show lowN x 14 = 0 ∨ lowN x 14 = 1 ∨ lowN x 14 = 2 ∨ lowN x 14 = 3 ∨ lowN x 14 = 4 ∨ lowN x 14 = 5 ∨ lowN x 14 = 6 ∨ lowN x 14 = 7 ∨ lowN x 14 = 8 ∨ lowN x 14 = 9 ∨ lowN x 14 = 10 ∨ lowN x 14 = 11 ∨ lowN x 14 = 12 ∨ lowN x 14 = 13 by omega) with e_k | e_k | e_k | e_k | e_k | e_k | e_k | e_k | e_k | e_k | e_k | e_k | e_k | e_k
  · refine z_top (v := nI 0) (by rw [e_k]) ?_
    refine lv_tableIn (off := 66) (tgt := 72) hx hb dL_goes_6 (by decide) (by decide) rfl (by decide) ?_
    refine lv_aload_n hx hb dL_goes_72 rfl (lv_at hl 0 rfl) ?_
    refine lv_iload_n hx hb dL_goes_73 rfl (lv_at hl 2 rfl) ?_
    refine lv_bipush (v := nI 11) hx hb dL_goes_74 (by decide) ?_
    refine lv_ishr hx hb dL_goes_76 ?_
    refine lv_bipush (v := nI 30) hx hb dL_goes_77 (by decide) ?_
    refine z_qS (As := [.int (y >>> ((nI 11) &&& 31)), .int (nI 30)]) (rest := [.ref o]) F (c_L_low l G (clW G o pr q a b d (pa, S, P, L, t, v, u, pv)) (y >>> ((nI 11) &&& 31)) 30 (by omega) (by omega)) (va_cwS 2 hts gL_goes_L_low rfl rfl rfl (by decide +kernel) ⟨Nat.le_of_ble_eq_true rfl, Nat.le_of_ble_eq_true rfl⟩) hKK hP hD hS hA rfl hl.1 rfl (Nat.le_of_ble_eq_true rfl) ⟨Nat.zero_le _, Nat.zero_le _⟩ dL_goes_79 (fun H locs hP hD hS => ?_)
    refine lv_if_ne (tgt := 89) hx hb dL_goes_82 (by decide) (fun c_1 => ?_) (fun c_1 => ?_)
    · skip
      refine lv_iload_n hx hb dL_goes_89 rfl (lv_at hl 2 rfl) ?_
      refine z_qSE (As := [.int y]) (rest := [.ref o]) F (c_L_name l G (clW G o pr q a b d (pa, S, P, L, t, v, u, pv)) y) (va_cwS 1 hts gL_goes_L_name rfl rfl rfl (by decide +kernel) ⟨Nat.le_of_ble_eq_true rfl, Nat.le_of_ble_eq_true rfl⟩) hKK hP hD hS hA rfl hl.1 rfl (Nat.le_of_ble_eq_true rfl) ⟨Nat.zero_le _, Nat.zero_le _⟩ dL_goes_90 (fun r_2 u_2 H locs hq_2 hP hD hS => ?_)
      have hP : va_P G.1 vwCl (clW G o pr q a b d (pa, S, P, L, t, v, u, pv)) H := hP
      have hD : va_D A (clW G o pr q a b d (pa, S, P, L, t, v, u, pv)) := hD
      refine z_qVE (As := [.int r_2]) (rest := []) F (sc_acquire l G o pr q a b d pa S P L t v u pv B h hB r_2) (cwV 1 hts gL_goes_X3_acquire rfl rfl rfl (by decide +kernel) ⟨Nat.le_of_ble_eq_true rfl, Nat.le_of_ble_eq_true rfl⟩) hKK rfl hP hD hS hA rfl hl.1 rfl (Nat.le_of_ble_eq_true rfl) ⟨Nat.zero_le _, Nat.zero_le _⟩ dL_goes_93 (fun r_99 u_99 H locs hq_99 hP hD hS => ?_)
      have hP : va_P G.1 vwCl (clW G o pr q a b d u_99) H := hP
      have hD : va_D A (clW G o pr q a b d u_99) := hD
      exact z_iretE u_99 hx hb hr hlk hP hD hS dL_goes_96 rfl hq_99
    · skip
      refine lv_iload_n hx hb dL_goes_85 rfl (lv_at hl 2 rfl) ?_
      refine lv_goto (tgt := 93) hx hb dL_goes_86 (by decide) ?_
      refine z_qVE (As := [.int y]) (rest := []) F (sc_acquire l G o pr q a b d pa S P L t v u pv B h hB y) (cwV 1 hts gL_goes_X3_acquire rfl rfl rfl (by decide +kernel) ⟨Nat.le_of_ble_eq_true rfl, Nat.le_of_ble_eq_true rfl⟩) hKK rfl hP hD hS hA rfl hl.1 rfl (Nat.le_of_ble_eq_true rfl) ⟨Nat.zero_le _, Nat.zero_le _⟩ dL_goes_93 (fun r_99 u_99 H locs hq_99 hP hD hS => ?_)
      have hP : va_P G.1 vwCl (clW G o pr q a b d u_99) H := hP
      have hD : va_D A (clW G o pr q a b d u_99) := hD
      exact z_iretE u_99 hx hb hr hlk hP hD hS dL_goes_96 rfl hq_99
  · refine z_top (v := nI 1) (by rw [e_k]) ?_
    refine lv_tableIn (off := 66) (tgt := 72) hx hb dL_goes_6 (by decide) (by decide) rfl (by decide) ?_
    refine lv_aload_n hx hb dL_goes_72 rfl (lv_at hl 0 rfl) ?_
    refine lv_iload_n hx hb dL_goes_73 rfl (lv_at hl 2 rfl) ?_
    refine lv_bipush (v := nI 11) hx hb dL_goes_74 (by decide) ?_
    refine lv_ishr hx hb dL_goes_76 ?_
    refine lv_bipush (v := nI 30) hx hb dL_goes_77 (by decide) ?_
    refine z_qS (As := [.int (y >>> ((nI 11) &&& 31)), .int (nI 30)]) (rest := [.ref o]) F (c_L_low l G (clW G o pr q a b d (pa, S, P, L, t, v, u, pv)) (y >>> ((nI 11) &&& 31)) 30 (by omega) (by omega)) (va_cwS 2 hts gL_goes_L_low rfl rfl rfl (by decide +kernel) ⟨Nat.le_of_ble_eq_true rfl, Nat.le_of_ble_eq_true rfl⟩) hKK hP hD hS hA rfl hl.1 rfl (Nat.le_of_ble_eq_true rfl) ⟨Nat.zero_le _, Nat.zero_le _⟩ dL_goes_79 (fun H locs hP hD hS => ?_)
    refine lv_if_ne (tgt := 89) hx hb dL_goes_82 (by decide) (fun c_3 => ?_) (fun c_3 => ?_)
    · skip
      refine lv_iload_n hx hb dL_goes_89 rfl (lv_at hl 2 rfl) ?_
      refine z_qSE (As := [.int y]) (rest := [.ref o]) F (c_L_name l G (clW G o pr q a b d (pa, S, P, L, t, v, u, pv)) y) (va_cwS 1 hts gL_goes_L_name rfl rfl rfl (by decide +kernel) ⟨Nat.le_of_ble_eq_true rfl, Nat.le_of_ble_eq_true rfl⟩) hKK hP hD hS hA rfl hl.1 rfl (Nat.le_of_ble_eq_true rfl) ⟨Nat.zero_le _, Nat.zero_le _⟩ dL_goes_90 (fun r_4 u_4 H locs hq_4 hP hD hS => ?_)
      have hP : va_P G.1 vwCl (clW G o pr q a b d (pa, S, P, L, t, v, u, pv)) H := hP
      have hD : va_D A (clW G o pr q a b d (pa, S, P, L, t, v, u, pv)) := hD
      refine z_qVE (As := [.int r_4]) (rest := []) F (sc_acquire l G o pr q a b d pa S P L t v u pv B h hB r_4) (cwV 1 hts gL_goes_X3_acquire rfl rfl rfl (by decide +kernel) ⟨Nat.le_of_ble_eq_true rfl, Nat.le_of_ble_eq_true rfl⟩) hKK rfl hP hD hS hA rfl hl.1 rfl (Nat.le_of_ble_eq_true rfl) ⟨Nat.zero_le _, Nat.zero_le _⟩ dL_goes_93 (fun r_99 u_99 H locs hq_99 hP hD hS => ?_)
      have hP : va_P G.1 vwCl (clW G o pr q a b d u_99) H := hP
      have hD : va_D A (clW G o pr q a b d u_99) := hD
      exact z_iretE u_99 hx hb hr hlk hP hD hS dL_goes_96 rfl hq_99
    · skip
      refine lv_iload_n hx hb dL_goes_85 rfl (lv_at hl 2 rfl) ?_
      refine lv_goto (tgt := 93) hx hb dL_goes_86 (by decide) ?_
      refine z_qVE (As := [.int y]) (rest := []) F (sc_acquire l G o pr q a b d pa S P L t v u pv B h hB y) (cwV 1 hts gL_goes_X3_acquire rfl rfl rfl (by decide +kernel) ⟨Nat.le_of_ble_eq_true rfl, Nat.le_of_ble_eq_true rfl⟩) hKK rfl hP hD hS hA rfl hl.1 rfl (Nat.le_of_ble_eq_true rfl) ⟨Nat.zero_le _, Nat.zero_le _⟩ dL_goes_93 (fun r_99 u_99 H locs hq_99 hP hD hS => ?_)
      have hP : va_P G.1 vwCl (clW G o pr q a b d u_99) H := hP
      have hD : va_D A (clW G o pr q a b d u_99) := hD
      exact z_iretE u_99 hx hb hr hlk hP hD hS dL_goes_96 rfl hq_99
  · refine z_top (v := nI 2) (by rw [e_k]) ?_
    refine lv_tableIn (off := 66) (tgt := 72) hx hb dL_goes_6 (by decide) (by decide) rfl (by decide) ?_
    refine lv_aload_n hx hb dL_goes_72 rfl (lv_at hl 0 rfl) ?_
    refine lv_iload_n hx hb dL_goes_73 rfl (lv_at hl 2 rfl) ?_
    refine lv_bipush (v := nI 11) hx hb dL_goes_74 (by decide) ?_
    refine lv_ishr hx hb dL_goes_76 ?_
    refine lv_bipush (v := nI 30) hx hb dL_goes_77 (by decide) ?_
    refine z_qS (As := [.int (y >>> ((nI 11) &&& 31)), .int (nI 30)]) (rest := [.ref o]) F (c_L_low l G (clW G o pr q a b d (pa, S, P, L, t, v, u, pv)) (y >>> ((nI 11) &&& 31)) 30 (by omega) (by omega)) (va_cwS 2 hts gL_goes_L_low rfl rfl rfl (by decide +kernel) ⟨Nat.le_of_ble_eq_true rfl, Nat.le_of_ble_eq_true rfl⟩) hKK hP hD hS hA rfl hl.1 rfl (Nat.le_of_ble_eq_true rfl) ⟨Nat.zero_le _, Nat.zero_le _⟩ dL_goes_79 (fun H locs hP hD hS => ?_)
    refine lv_if_ne (tgt := 89) hx hb dL_goes_82 (by decide) (fun c_5 => ?_) (fun c_5 => ?_)
    · skip
      refine lv_iload_n hx hb dL_goes_89 rfl (lv_at hl 2 rfl) ?_
      refine z_qSE (As := [.int y]) (rest := [.ref o]) F (c_L_name l G (clW G o pr q a b d (pa, S, P, L, t, v, u, pv)) y) (va_cwS 1 hts gL_goes_L_name rfl rfl rfl (by decide +kernel) ⟨Nat.le_of_ble_eq_true rfl, Nat.le_of_ble_eq_true rfl⟩) hKK hP hD hS hA rfl hl.1 rfl (Nat.le_of_ble_eq_true rfl) ⟨Nat.zero_le _, Nat.zero_le _⟩ dL_goes_90 (fun r_6 u_6 H locs hq_6 hP hD hS => ?_)
      have hP : va_P G.1 vwCl (clW G o pr q a b d (pa, S, P, L, t, v, u, pv)) H := hP
      have hD : va_D A (clW G o pr q a b d (pa, S, P, L, t, v, u, pv)) := hD
      refine z_qVE (As := [.int r_6]) (rest := []) F (sc_acquire l G o pr q a b d pa S P L t v u pv B h hB r_6) (cwV 1 hts gL_goes_X3_acquire rfl rfl rfl (by decide +kernel) ⟨Nat.le_of_ble_eq_true rfl, Nat.le_of_ble_eq_true rfl⟩) hKK rfl hP hD hS hA rfl hl.1 rfl (Nat.le_of_ble_eq_true rfl) ⟨Nat.zero_le _, Nat.zero_le _⟩ dL_goes_93 (fun r_99 u_99 H locs hq_99 hP hD hS => ?_)
      have hP : va_P G.1 vwCl (clW G o pr q a b d u_99) H := hP
      have hD : va_D A (clW G o pr q a b d u_99) := hD
      exact z_iretE u_99 hx hb hr hlk hP hD hS dL_goes_96 rfl hq_99
    · skip
      refine lv_iload_n hx hb dL_goes_85 rfl (lv_at hl 2 rfl) ?_
      refine lv_goto (tgt := 93) hx hb dL_goes_86 (by decide) ?_
      refine z_qVE (As := [.int y]) (rest := []) F (sc_acquire l G o pr q a b d pa S P L t v u pv B h hB y) (cwV 1 hts gL_goes_X3_acquire rfl rfl rfl (by decide +kernel) ⟨Nat.le_of_ble_eq_true rfl, Nat.le_of_ble_eq_true rfl⟩) hKK rfl hP hD hS hA rfl hl.1 rfl (Nat.le_of_ble_eq_true rfl) ⟨Nat.zero_le _, Nat.zero_le _⟩ dL_goes_93 (fun r_99 u_99 H locs hq_99 hP hD hS => ?_)
      have hP : va_P G.1 vwCl (clW G o pr q a b d u_99) H := hP
      have hD : va_D A (clW G o pr q a b d u_99) := hD
      exact z_iretE u_99 hx hb hr hlk hP hD hS dL_goes_96 rfl hq_99
  · refine z_top (v := nI 3) (by rw [e_k]) ?_
    refine lv_tableIn (off := 66) (tgt := 72) hx hb dL_goes_6 (by decide) (by decide) rfl (by decide) ?_
    refine lv_aload_n hx hb dL_goes_72 rfl (lv_at hl 0 rfl) ?_
    refine lv_iload_n hx hb dL_goes_73 rfl (lv_at hl 2 rfl) ?_
    refine lv_bipush (v := nI 11) hx hb dL_goes_74 (by decide) ?_
    refine lv_ishr hx hb dL_goes_76 ?_
    refine lv_bipush (v := nI 30) hx hb dL_goes_77 (by decide) ?_
    refine z_qS (As := [.int (y >>> ((nI 11) &&& 31)), .int (nI 30)]) (rest := [.ref o]) F (c_L_low l G (clW G o pr q a b d (pa, S, P, L, t, v, u, pv)) (y >>> ((nI 11) &&& 31)) 30 (by omega) (by omega)) (va_cwS 2 hts gL_goes_L_low rfl rfl rfl (by decide +kernel) ⟨Nat.le_of_ble_eq_true rfl, Nat.le_of_ble_eq_true rfl⟩) hKK hP hD hS hA rfl hl.1 rfl (Nat.le_of_ble_eq_true rfl) ⟨Nat.zero_le _, Nat.zero_le _⟩ dL_goes_79 (fun H locs hP hD hS => ?_)
    refine lv_if_ne (tgt := 89) hx hb dL_goes_82 (by decide) (fun c_7 => ?_) (fun c_7 => ?_)
    · skip
      refine lv_iload_n hx hb dL_goes_89 rfl (lv_at hl 2 rfl) ?_
      refine z_qSE (As := [.int y]) (rest := [.ref o]) F (c_L_name l G (clW G o pr q a b d (pa, S, P, L, t, v, u, pv)) y) (va_cwS 1 hts gL_goes_L_name rfl rfl rfl (by decide +kernel) ⟨Nat.le_of_ble_eq_true rfl, Nat.le_of_ble_eq_true rfl⟩) hKK hP hD hS hA rfl hl.1 rfl (Nat.le_of_ble_eq_true rfl) ⟨Nat.zero_le _, Nat.zero_le _⟩ dL_goes_90 (fun r_8 u_8 H locs hq_8 hP hD hS => ?_)
      have hP : va_P G.1 vwCl (clW G o pr q a b d (pa, S, P, L, t, v, u, pv)) H := hP
      have hD : va_D A (clW G o pr q a b d (pa, S, P, L, t, v, u, pv)) := hD
      refine z_qVE (As := [.int r_8]) (rest := []) F (sc_acquire l G o pr q a b d pa S P L t v u pv B h hB r_8) (cwV 1 hts gL_goes_X3_acquire rfl rfl rfl (by decide +kernel) ⟨Nat.le_of_ble_eq_true rfl, Nat.le_of_ble_eq_true rfl⟩) hKK rfl hP hD hS hA rfl hl.1 rfl (Nat.le_of_ble_eq_true rfl) ⟨Nat.zero_le _, Nat.zero_le _⟩ dL_goes_93 (fun r_99 u_99 H locs hq_99 hP hD hS => ?_)
      have hP : va_P G.1 vwCl (clW G o pr q a b d u_99) H := hP
      have hD : va_D A (clW G o pr q a b d u_99) := hD
      exact z_iretE u_99 hx hb hr hlk hP hD hS dL_goes_96 rfl hq_99
    · skip
      refine lv_iload_n hx hb dL_goes_85 rfl (lv_at hl 2 rfl) ?_
      refine lv_goto (tgt := 93) hx hb dL_goes_86 (by decide) ?_
      refine z_qVE (As := [.int y]) (rest := []) F (sc_acquire l G o pr q a b d pa S P L t v u pv B h hB y) (cwV 1 hts gL_goes_X3_acquire rfl rfl rfl (by decide +kernel) ⟨Nat.le_of_ble_eq_true rfl, Nat.le_of_ble_eq_true rfl⟩) hKK rfl hP hD hS hA rfl hl.1 rfl (Nat.le_of_ble_eq_true rfl) ⟨Nat.zero_le _, Nat.zero_le _⟩ dL_goes_93 (fun r_99 u_99 H locs hq_99 hP hD hS => ?_)
      have hP : va_P G.1 vwCl (clW G o pr q a b d u_99) H := hP
      have hD : va_D A (clW G o pr q a b d u_99) := hD
      exact z_iretE u_99 hx hb hr hlk hP hD hS dL_goes_96 rfl hq_99
  · refine z_top (v := nI 4) (by rw [e_k]) ?_
    refine lv_tableIn (off := 66) (tgt := 72) hx hb dL_goes_6 (by decide) (by decide) rfl (by decide) ?_
    refine lv_aload_n hx hb dL_goes_72 rfl (lv_at hl 0 rfl) ?_
    refine lv_iload_n hx hb dL_goes_73 rfl (lv_at hl 2 rfl) ?_
    refine lv_bipush (v := nI 11) hx hb dL_goes_74 (by decide) ?_
    refine lv_ishr hx hb dL_goes_76 ?_
    refine lv_bipush (v := nI 30) hx hb dL_goes_77 (by decide) ?_
    refine z_qS (As := [.int (y >>> ((nI 11) &&& 31)), .int (nI 30)]) (rest := [.ref o]) F (c_L_low l G (clW G o pr q a b d (pa, S, P, L, t, v, u, pv)) (y >>> ((nI 11) &&& 31)) 30 (by omega) (by omega)) (va_cwS 2 hts gL_goes_L_low rfl rfl rfl (by decide +kernel) ⟨Nat.le_of_ble_eq_true rfl, Nat.le_of_ble_eq_true rfl⟩) hKK hP hD hS hA rfl hl.1 rfl (Nat.le_of_ble_eq_true rfl) ⟨Nat.zero_le _, Nat.zero_le _⟩ dL_goes_79 (fun H locs hP hD hS => ?_)
    refine lv_if_ne (tgt := 89) hx hb dL_goes_82 (by decide) (fun c_9 => ?_) (fun c_9 => ?_)
    · skip
      refine lv_iload_n hx hb dL_goes_89 rfl (lv_at hl 2 rfl) ?_
      refine z_qSE (As := [.int y]) (rest := [.ref o]) F (c_L_name l G (clW G o pr q a b d (pa, S, P, L, t, v, u, pv)) y) (va_cwS 1 hts gL_goes_L_name rfl rfl rfl (by decide +kernel) ⟨Nat.le_of_ble_eq_true rfl, Nat.le_of_ble_eq_true rfl⟩) hKK hP hD hS hA rfl hl.1 rfl (Nat.le_of_ble_eq_true rfl) ⟨Nat.zero_le _, Nat.zero_le _⟩ dL_goes_90 (fun r_10 u_10 H locs hq_10 hP hD hS => ?_)
      have hP : va_P G.1 vwCl (clW G o pr q a b d (pa, S, P, L, t, v, u, pv)) H := hP
      have hD : va_D A (clW G o pr q a b d (pa, S, P, L, t, v, u, pv)) := hD
      refine z_qVE (As := [.int r_10]) (rest := []) F (sc_acquire l G o pr q a b d pa S P L t v u pv B h hB r_10) (cwV 1 hts gL_goes_X3_acquire rfl rfl rfl (by decide +kernel) ⟨Nat.le_of_ble_eq_true rfl, Nat.le_of_ble_eq_true rfl⟩) hKK rfl hP hD hS hA rfl hl.1 rfl (Nat.le_of_ble_eq_true rfl) ⟨Nat.zero_le _, Nat.zero_le _⟩ dL_goes_93 (fun r_99 u_99 H locs hq_99 hP hD hS => ?_)
      have hP : va_P G.1 vwCl (clW G o pr q a b d u_99) H := hP
      have hD : va_D A (clW G o pr q a b d u_99) := hD
      exact z_iretE u_99 hx hb hr hlk hP hD hS dL_goes_96 rfl hq_99
    · skip
      refine lv_iload_n hx hb dL_goes_85 rfl (lv_at hl 2 rfl) ?_
      refine lv_goto (tgt := 93) hx hb dL_goes_86 (by decide) ?_
      refine z_qVE (As := [.int y]) (rest := []) F (sc_acquire l G o pr q a b d pa S P L t v u pv B h hB y) (cwV 1 hts gL_goes_X3_acquire rfl rfl rfl (by decide +kernel) ⟨Nat.le_of_ble_eq_true rfl, Nat.le_of_ble_eq_true rfl⟩) hKK rfl hP hD hS hA rfl hl.1 rfl (Nat.le_of_ble_eq_true rfl) ⟨Nat.zero_le _, Nat.zero_le _⟩ dL_goes_93 (fun r_99 u_99 H locs hq_99 hP hD hS => ?_)
      have hP : va_P G.1 vwCl (clW G o pr q a b d u_99) H := hP
      have hD : va_D A (clW G o pr q a b d u_99) := hD
      exact z_iretE u_99 hx hb hr hlk hP hD hS dL_goes_96 rfl hq_99
  · refine z_top (v := nI 5) (by rw [e_k]) ?_
    refine lv_tableIn (off := 91) (tgt := 97) hx hb dL_goes_6 (by decide) (by decide) rfl (by decide) ?_
    refine lv_aload_n hx hb dL_goes_97 rfl (lv_at hl 0 rfl) ?_
    refine lv_aload_n hx hb dL_goes_98 rfl (lv_at hl 0 rfl) ?_
    refine lv_iload_n hx hb dL_goes_99 rfl (lv_at hl 2 rfl) ?_
    refine z_qSE (As := [.ref o, .int y]) (rest := [.ref o]) F (c_L_tag l G o (clW G o pr q a b d (pa, S, P, L, t, v, u, pv)) v e B hQ hX (by omega) y) (va_cwS 2 hts gL_goes_L_tag rfl rfl rfl (by decide +kernel) ⟨Nat.le_of_ble_eq_true rfl, Nat.le_of_ble_eq_true rfl⟩) hKK hP hD hS hA rfl hl.1 rfl (Nat.le_of_ble_eq_true rfl) ⟨Nat.zero_le _, Nat.zero_le _⟩ dL_goes_100 (fun r_11 u_11 H locs hq_11 hP hD hS => ?_)
    have hP : va_P G.1 vwCl (clW G o pr q a b d (pa, S, P, L, t, v, u, pv)) H := hP
    have hD : va_D A (clW G o pr q a b d (pa, S, P, L, t, v, u, pv)) := hD
    refine z_qVE (As := [.int r_11]) (rest := []) F (sc_use l G o pr q a b d pa S P L t v u pv B h hB r_11) (cwV 1 hts gL_goes_X3_use rfl rfl rfl (by decide +kernel) ⟨Nat.le_of_ble_eq_true rfl, Nat.le_of_ble_eq_true rfl⟩) hKK rfl hP hD hS hA rfl hl.1 rfl (Nat.le_of_ble_eq_true rfl) ⟨Nat.zero_le _, Nat.zero_le _⟩ dL_goes_103 (fun r_99 u_99 H locs hq_99 hP hD hS => ?_)
    have hP : va_P G.1 vwCl (clW G o pr q a b d u_99) H := hP
    have hD : va_D A (clW G o pr q a b d u_99) := hD
    exact z_iretE u_99 hx hb hr hlk hP hD hS dL_goes_106 rfl hq_99
  · refine z_top (v := nI 6) (by rw [e_k]) ?_
    refine lv_tableIn (off := 101) (tgt := 107) hx hb dL_goes_6 (by decide) (by decide) rfl (by decide) ?_
    refine lv_aload_n hx hb dL_goes_107 rfl (lv_at hl 0 rfl) ?_
    refine lv_aload_n hx hb dL_goes_108 rfl (lv_at hl 0 rfl) ?_
    refine lv_iload_n hx hb dL_goes_109 rfl (lv_at hl 2 rfl) ?_
    refine z_qSE (As := [.ref o, .int y]) (rest := [.ref o]) F (c_L_tag l G o (clW G o pr q a b d (pa, S, P, L, t, v, u, pv)) v e B hQ hX (by omega) y) (va_cwS 2 hts gL_goes_L_tag rfl rfl rfl (by decide +kernel) ⟨Nat.le_of_ble_eq_true rfl, Nat.le_of_ble_eq_true rfl⟩) hKK hP hD hS hA rfl hl.1 rfl (Nat.le_of_ble_eq_true rfl) ⟨Nat.zero_le _, Nat.zero_le _⟩ dL_goes_110 (fun r_12 u_12 H locs hq_12 hP hD hS => ?_)
    have hP : va_P G.1 vwCl (clW G o pr q a b d (pa, S, P, L, t, v, u, pv)) H := hP
    have hD : va_D A (clW G o pr q a b d (pa, S, P, L, t, v, u, pv)) := hD
    refine z_qVE (As := [.int r_12]) (rest := []) F (sc_release l G o pr q a b d pa S P L t v u pv B h hB r_12) (cwV 1 hts gL_goes_X3_release rfl rfl rfl (by decide +kernel) ⟨Nat.le_of_ble_eq_true rfl, Nat.le_of_ble_eq_true rfl⟩) hKK rfl hP hD hS hA rfl hl.1 rfl (Nat.le_of_ble_eq_true rfl) ⟨Nat.zero_le _, Nat.zero_le _⟩ dL_goes_113 (fun r_99 u_99 H locs hq_99 hP hD hS => ?_)
    have hP : va_P G.1 vwCl (clW G o pr q a b d u_99) H := hP
    have hD : va_D A (clW G o pr q a b d u_99) := hD
    exact z_iretE u_99 hx hb hr hlk hP hD hS dL_goes_116 rfl hq_99
  · refine z_top (v := nI 7) (by rw [e_k]) ?_
    refine lv_tableIn (off := 101) (tgt := 107) hx hb dL_goes_6 (by decide) (by decide) rfl (by decide) ?_
    refine lv_aload_n hx hb dL_goes_107 rfl (lv_at hl 0 rfl) ?_
    refine lv_aload_n hx hb dL_goes_108 rfl (lv_at hl 0 rfl) ?_
    refine lv_iload_n hx hb dL_goes_109 rfl (lv_at hl 2 rfl) ?_
    refine z_qSE (As := [.ref o, .int y]) (rest := [.ref o]) F (c_L_tag l G o (clW G o pr q a b d (pa, S, P, L, t, v, u, pv)) v e B hQ hX (by omega) y) (va_cwS 2 hts gL_goes_L_tag rfl rfl rfl (by decide +kernel) ⟨Nat.le_of_ble_eq_true rfl, Nat.le_of_ble_eq_true rfl⟩) hKK hP hD hS hA rfl hl.1 rfl (Nat.le_of_ble_eq_true rfl) ⟨Nat.zero_le _, Nat.zero_le _⟩ dL_goes_110 (fun r_13 u_13 H locs hq_13 hP hD hS => ?_)
    have hP : va_P G.1 vwCl (clW G o pr q a b d (pa, S, P, L, t, v, u, pv)) H := hP
    have hD : va_D A (clW G o pr q a b d (pa, S, P, L, t, v, u, pv)) := hD
    refine z_qVE (As := [.int r_13]) (rest := []) F (sc_release l G o pr q a b d pa S P L t v u pv B h hB r_13) (cwV 1 hts gL_goes_X3_release rfl rfl rfl (by decide +kernel) ⟨Nat.le_of_ble_eq_true rfl, Nat.le_of_ble_eq_true rfl⟩) hKK rfl hP hD hS hA rfl hl.1 rfl (Nat.le_of_ble_eq_true rfl) ⟨Nat.zero_le _, Nat.zero_le _⟩ dL_goes_113 (fun r_99 u_99 H locs hq_99 hP hD hS => ?_)
    have hP : va_P G.1 vwCl (clW G o pr q a b d u_99) H := hP
    have hD : va_D A (clW G o pr q a b d u_99) := hD
    exact z_iretE u_99 hx hb hr hlk hP hD hS dL_goes_116 rfl hq_99
  · refine z_top (v := nI 8) (by rw [e_k]) ?_
    refine lv_tableIn (off := 101) (tgt := 107) hx hb dL_goes_6 (by decide) (by decide) rfl (by decide) ?_
    refine lv_aload_n hx hb dL_goes_107 rfl (lv_at hl 0 rfl) ?_
    refine lv_aload_n hx hb dL_goes_108 rfl (lv_at hl 0 rfl) ?_
    refine lv_iload_n hx hb dL_goes_109 rfl (lv_at hl 2 rfl) ?_
    refine z_qSE (As := [.ref o, .int y]) (rest := [.ref o]) F (c_L_tag l G o (clW G o pr q a b d (pa, S, P, L, t, v, u, pv)) v e B hQ hX (by omega) y) (va_cwS 2 hts gL_goes_L_tag rfl rfl rfl (by decide +kernel) ⟨Nat.le_of_ble_eq_true rfl, Nat.le_of_ble_eq_true rfl⟩) hKK hP hD hS hA rfl hl.1 rfl (Nat.le_of_ble_eq_true rfl) ⟨Nat.zero_le _, Nat.zero_le _⟩ dL_goes_110 (fun r_14 u_14 H locs hq_14 hP hD hS => ?_)
    have hP : va_P G.1 vwCl (clW G o pr q a b d (pa, S, P, L, t, v, u, pv)) H := hP
    have hD : va_D A (clW G o pr q a b d (pa, S, P, L, t, v, u, pv)) := hD
    refine z_qVE (As := [.int r_14]) (rest := []) F (sc_release l G o pr q a b d pa S P L t v u pv B h hB r_14) (cwV 1 hts gL_goes_X3_release rfl rfl rfl (by decide +kernel) ⟨Nat.le_of_ble_eq_true rfl, Nat.le_of_ble_eq_true rfl⟩) hKK rfl hP hD hS hA rfl hl.1 rfl (Nat.le_of_ble_eq_true rfl) ⟨Nat.zero_le _, Nat.zero_le _⟩ dL_goes_113 (fun r_99 u_99 H locs hq_99 hP hD hS => ?_)
    have hP : va_P G.1 vwCl (clW G o pr q a b d u_99) H := hP
    have hD : va_D A (clW G o pr q a b d u_99) := hD
    exact z_iretE u_99 hx hb hr hlk hP hD hS dL_goes_116 rfl hq_99
  · refine z_top (v := nI 9) (by rw [e_k]) ?_
    refine lv_tableIn (off := 111) (tgt := 117) hx hb dL_goes_6 (by decide) (by decide) rfl (by decide) ?_
    refine lv_aload_n hx hb dL_goes_117 rfl (lv_at hl 0 rfl) ?_
    refine lv_iload_n hx hb dL_goes_118 rfl (lv_at hl 1 rfl) ?_
    refine lv_iconst (v := nI 5) hx hb dL_goes_119 (by decide) ?_
    refine lv_ishr hx hb dL_goes_120 ?_
    refine lv_iconst (v := nI 3) hx hb dL_goes_121 (by decide) ?_
    refine z_qSE (As := [.int (x >>> ((nI 5) &&& 31)), .int (nI 3)]) (rest := [.ref o]) F (c_L_near l G (clW G o pr q a b d (pa, S, P, L, t, v, u, pv)) (x >>> ((nI 5) &&& 31)) 3 (by omega) (by omega)) (va_cwS 2 hts gL_goes_L_near rfl rfl rfl (by decide +kernel) ⟨Nat.le_of_ble_eq_true rfl, Nat.le_of_ble_eq_true rfl⟩) hKK hP hD hS hA rfl hl.1 rfl (Nat.le_of_ble_eq_true rfl) ⟨Nat.zero_le _, Nat.zero_le _⟩ dL_goes_122 (fun r_15 u_15 H locs hq_15 hP hD hS => ?_)
    have hP : va_P G.1 vwCl (clW G o pr q a b d (pa, S, P, L, t, v, u, pv)) H := hP
    have hD : va_D A (clW G o pr q a b d (pa, S, P, L, t, v, u, pv)) := hD
    refine lv_iload_n hx hb dL_goes_125 rfl (lv_at hl 1 rfl) ?_
    refine lv_bipush (v := nI 9) hx hb dL_goes_126 (by decide) ?_
    refine lv_ishr hx hb dL_goes_128 ?_
    refine lv_bipush (v := nI 6) hx hb dL_goes_129 (by decide) ?_
    refine z_qSE (As := [.int (x >>> ((nI 9) &&& 31)), .int (nI 6)]) (rest := [.int r_15, .ref o]) F (c_L_near l G (clW G o pr q a b d (pa, S, P, L, t, v, u, pv)) (x >>> ((nI 9) &&& 31)) 6 (by omega) (by omega)) (va_cwS 2 hts gL_goes_L_near rfl rfl rfl (by decide +kernel) ⟨Nat.le_of_ble_eq_true rfl, Nat.le_of_ble_eq_true rfl⟩) hKK hP hD hS hA rfl hl.1 rfl (Nat.le_of_ble_eq_true rfl) ⟨Nat.zero_le _, Nat.zero_le _⟩ dL_goes_131 (fun r_16 u_16 H locs hq_16 hP hD hS => ?_)
    have hP : va_P G.1 vwCl (clW G o pr q a b d (pa, S, P, L, t, v, u, pv)) H := hP
    have hD : va_D A (clW G o pr q a b d (pa, S, P, L, t, v, u, pv)) := hD
    refine lv_aload_n hx hb dL_goes_134 rfl (lv_at hl 0 rfl) ?_
    refine lv_iload_n hx hb dL_goes_135 rfl (lv_at hl 2 rfl) ?_
    refine z_qSE (As := [.ref o, .int y]) (rest := [.int r_16, .int r_15, .ref o]) F (c_L_tag l G o (clW G o pr q a b d (pa, S, P, L, t, v, u, pv)) v e B hQ hX (by omega) y) (va_cwS 2 hts gL_goes_L_tag rfl rfl rfl (by decide +kernel) ⟨Nat.le_of_ble_eq_true rfl, Nat.le_of_ble_eq_true rfl⟩) hKK hP hD hS hA rfl hl.1 rfl (Nat.le_of_ble_eq_true rfl) ⟨Nat.zero_le _, Nat.zero_le _⟩ dL_goes_136 (fun r_17 u_17 H locs hq_17 hP hD hS => ?_)
    have hP : va_P G.1 vwCl (clW G o pr q a b d (pa, S, P, L, t, v, u, pv)) H := hP
    have hD : va_D A (clW G o pr q a b d (pa, S, P, L, t, v, u, pv)) := hD
    refine z_qVE (As := [.int r_15, .int r_16, .int r_17]) (rest := []) F (sc_put l G o pr q a b d pa S P L t v u pv B h hB r_15 r_16 r_17) (cwV 3 hts gL_goes_X3_put rfl rfl rfl (by decide +kernel) ⟨Nat.le_of_ble_eq_true rfl, Nat.le_of_ble_eq_true rfl⟩) hKK rfl hP hD hS hA rfl hl.1 rfl (Nat.le_of_ble_eq_true rfl) ⟨Nat.zero_le _, Nat.zero_le _⟩ dL_goes_139 (fun r_99 u_99 H locs hq_99 hP hD hS => ?_)
    have hP : va_P G.1 vwCl (clW G o pr q a b d u_99) H := hP
    have hD : va_D A (clW G o pr q a b d u_99) := hD
    exact z_iretE u_99 hx hb hr hlk hP hD hS dL_goes_142 rfl hq_99
  · refine z_top (v := nI 10) (by rw [e_k]) ?_
    refine lv_tableIn (off := 111) (tgt := 117) hx hb dL_goes_6 (by decide) (by decide) rfl (by decide) ?_
    refine lv_aload_n hx hb dL_goes_117 rfl (lv_at hl 0 rfl) ?_
    refine lv_iload_n hx hb dL_goes_118 rfl (lv_at hl 1 rfl) ?_
    refine lv_iconst (v := nI 5) hx hb dL_goes_119 (by decide) ?_
    refine lv_ishr hx hb dL_goes_120 ?_
    refine lv_iconst (v := nI 3) hx hb dL_goes_121 (by decide) ?_
    refine z_qSE (As := [.int (x >>> ((nI 5) &&& 31)), .int (nI 3)]) (rest := [.ref o]) F (c_L_near l G (clW G o pr q a b d (pa, S, P, L, t, v, u, pv)) (x >>> ((nI 5) &&& 31)) 3 (by omega) (by omega)) (va_cwS 2 hts gL_goes_L_near rfl rfl rfl (by decide +kernel) ⟨Nat.le_of_ble_eq_true rfl, Nat.le_of_ble_eq_true rfl⟩) hKK hP hD hS hA rfl hl.1 rfl (Nat.le_of_ble_eq_true rfl) ⟨Nat.zero_le _, Nat.zero_le _⟩ dL_goes_122 (fun r_18 u_18 H locs hq_18 hP hD hS => ?_)
    have hP : va_P G.1 vwCl (clW G o pr q a b d (pa, S, P, L, t, v, u, pv)) H := hP
    have hD : va_D A (clW G o pr q a b d (pa, S, P, L, t, v, u, pv)) := hD
    refine lv_iload_n hx hb dL_goes_125 rfl (lv_at hl 1 rfl) ?_
    refine lv_bipush (v := nI 9) hx hb dL_goes_126 (by decide) ?_
    refine lv_ishr hx hb dL_goes_128 ?_
    refine lv_bipush (v := nI 6) hx hb dL_goes_129 (by decide) ?_
    refine z_qSE (As := [.int (x >>> ((nI 9) &&& 31)), .int (nI 6)]) (rest := [.int r_18, .ref o]) F (c_L_near l G (clW G o pr q a b d (pa, S, P, L, t, v, u, pv)) (x >>> ((nI 9) &&& 31)) 6 (by omega) (by omega)) (va_cwS 2 hts gL_goes_L_near rfl rfl rfl (by decide +kernel) ⟨Nat.le_of_ble_eq_true rfl, Nat.le_of_ble_eq_true rfl⟩) hKK hP hD hS hA rfl hl.1 rfl (Nat.le_of_ble_eq_true rfl) ⟨Nat.zero_le _, Nat.zero_le _⟩ dL_goes_131 (fun r_19 u_19 H locs hq_19 hP hD hS => ?_)
    have hP : va_P G.1 vwCl (clW G o pr q a b d (pa, S, P, L, t, v, u, pv)) H := hP
    have hD : va_D A (clW G o pr q a b d (pa, S, P, L, t, v, u, pv)) := hD
    refine lv_aload_n hx hb dL_goes_134 rfl (lv_at hl 0 rfl) ?_
    refine lv_iload_n hx hb dL_goes_135 rfl (lv_at hl 2 rfl) ?_
    refine z_qSE (As := [.ref o, .int y]) (rest := [.int r_19, .int r_18, .ref o]) F (c_L_tag l G o (clW G o pr q a b d (pa, S, P, L, t, v, u, pv)) v e B hQ hX (by omega) y) (va_cwS 2 hts gL_goes_L_tag rfl rfl rfl (by decide +kernel) ⟨Nat.le_of_ble_eq_true rfl, Nat.le_of_ble_eq_true rfl⟩) hKK hP hD hS hA rfl hl.1 rfl (Nat.le_of_ble_eq_true rfl) ⟨Nat.zero_le _, Nat.zero_le _⟩ dL_goes_136 (fun r_20 u_20 H locs hq_20 hP hD hS => ?_)
    have hP : va_P G.1 vwCl (clW G o pr q a b d (pa, S, P, L, t, v, u, pv)) H := hP
    have hD : va_D A (clW G o pr q a b d (pa, S, P, L, t, v, u, pv)) := hD
    refine z_qVE (As := [.int r_18, .int r_19, .int r_20]) (rest := []) F (sc_put l G o pr q a b d pa S P L t v u pv B h hB r_18 r_19 r_20) (cwV 3 hts gL_goes_X3_put rfl rfl rfl (by decide +kernel) ⟨Nat.le_of_ble_eq_true rfl, Nat.le_of_ble_eq_true rfl⟩) hKK rfl hP hD hS hA rfl hl.1 rfl (Nat.le_of_ble_eq_true rfl) ⟨Nat.zero_le _, Nat.zero_le _⟩ dL_goes_139 (fun r_99 u_99 H locs hq_99 hP hD hS => ?_)
    have hP : va_P G.1 vwCl (clW G o pr q a b d u_99) H := hP
    have hD : va_D A (clW G o pr q a b d u_99) := hD
    exact z_iretE u_99 hx hb hr hlk hP hD hS dL_goes_142 rfl hq_99
  · refine z_top (v := nI 11) (by rw [e_k]) ?_
    refine lv_tableIn (off := 137) (tgt := 143) hx hb dL_goes_6 (by decide) (by decide) rfl (by decide) ?_
    refine lv_aload_n hx hb dL_goes_143 rfl (lv_at hl 0 rfl) ?_
    refine lv_iload_n hx hb dL_goes_144 rfl (lv_at hl 1 rfl) ?_
    refine lv_iconst (v := nI 5) hx hb dL_goes_145 (by decide) ?_
    refine lv_ishr hx hb dL_goes_146 ?_
    refine lv_iconst (v := nI 3) hx hb dL_goes_147 (by decide) ?_
    refine z_qSE (As := [.int (x >>> ((nI 5) &&& 31)), .int (nI 3)]) (rest := [.ref o]) F (c_L_near l G (clW G o pr q a b d (pa, S, P, L, t, v, u, pv)) (x >>> ((nI 5) &&& 31)) 3 (by omega) (by omega)) (va_cwS 2 hts gL_goes_L_near rfl rfl rfl (by decide +kernel) ⟨Nat.le_of_ble_eq_true rfl, Nat.le_of_ble_eq_true rfl⟩) hKK hP hD hS hA rfl hl.1 rfl (Nat.le_of_ble_eq_true rfl) ⟨Nat.zero_le _, Nat.zero_le _⟩ dL_goes_148 (fun r_21 u_21 H locs hq_21 hP hD hS => ?_)
    have hP : va_P G.1 vwCl (clW G o pr q a b d (pa, S, P, L, t, v, u, pv)) H := hP
    have hD : va_D A (clW G o pr q a b d (pa, S, P, L, t, v, u, pv)) := hD
    refine lv_iload_n hx hb dL_goes_151 rfl (lv_at hl 1 rfl) ?_
    refine lv_bipush (v := nI 9) hx hb dL_goes_152 (by decide) ?_
    refine lv_ishr hx hb dL_goes_154 ?_
    refine lv_bipush (v := nI 6) hx hb dL_goes_155 (by decide) ?_
    refine z_qSE (As := [.int (x >>> ((nI 9) &&& 31)), .int (nI 6)]) (rest := [.int r_21, .ref o]) F (c_L_near l G (clW G o pr q a b d (pa, S, P, L, t, v, u, pv)) (x >>> ((nI 9) &&& 31)) 6 (by omega) (by omega)) (va_cwS 2 hts gL_goes_L_near rfl rfl rfl (by decide +kernel) ⟨Nat.le_of_ble_eq_true rfl, Nat.le_of_ble_eq_true rfl⟩) hKK hP hD hS hA rfl hl.1 rfl (Nat.le_of_ble_eq_true rfl) ⟨Nat.zero_le _, Nat.zero_le _⟩ dL_goes_157 (fun r_22 u_22 H locs hq_22 hP hD hS => ?_)
    have hP : va_P G.1 vwCl (clW G o pr q a b d (pa, S, P, L, t, v, u, pv)) H := hP
    have hD : va_D A (clW G o pr q a b d (pa, S, P, L, t, v, u, pv)) := hD
    refine z_qVE (As := [.int r_21, .int r_22]) (rest := []) F (sc_clear l G o pr q a b d pa S P L t v u pv B h hB r_21 r_22) (cwV 2 hts gL_goes_X3_clear rfl rfl rfl (by decide +kernel) ⟨Nat.le_of_ble_eq_true rfl, Nat.le_of_ble_eq_true rfl⟩) hKK rfl hP hD hS hA rfl hl.1 rfl (Nat.le_of_ble_eq_true rfl) ⟨Nat.zero_le _, Nat.zero_le _⟩ dL_goes_160 (fun r_99 u_99 H locs hq_99 hP hD hS => ?_)
    have hP : va_P G.1 vwCl (clW G o pr q a b d u_99) H := hP
    have hD : va_D A (clW G o pr q a b d u_99) := hD
    exact z_iretE u_99 hx hb hr hlk hP hD hS dL_goes_163 rfl hq_99
  · refine z_top (v := nI 12) (by rw [e_k]) ?_
    refine lv_tableIn (off := 158) (tgt := 164) hx hb dL_goes_6 (by decide) (by decide) rfl (by decide) ?_
    refine lv_aload_n hx hb dL_goes_164 rfl (lv_at hl 0 rfl) ?_
    refine lv_iload_n hx hb dL_goes_165 rfl (lv_at hl 2 rfl) ?_
    refine lv_iconst (v := nI 3) hx hb dL_goes_166 (by decide) ?_
    refine z_qSE (As := [.int y, .int (nI 3)]) (rest := [.ref o]) F (c_L_near l G (clW G o pr q a b d (pa, S, P, L, t, v, u, pv)) y 3 (by omega) (by omega)) (va_cwS 2 hts gL_goes_L_near rfl rfl rfl (by decide +kernel) ⟨Nat.le_of_ble_eq_true rfl, Nat.le_of_ble_eq_true rfl⟩) hKK hP hD hS hA rfl hl.1 rfl (Nat.le_of_ble_eq_true rfl) ⟨Nat.zero_le _, Nat.zero_le _⟩ dL_goes_167 (fun r_23 u_23 H locs hq_23 hP hD hS => ?_)
    have hP : va_P G.1 vwCl (clW G o pr q a b d (pa, S, P, L, t, v, u, pv)) H := hP
    have hD : va_D A (clW G o pr q a b d (pa, S, P, L, t, v, u, pv)) := hD
    refine z_qVE (As := [.int r_23]) (rest := []) F (sc_compact l G o pr q a b d pa S P L t v u pv B h hB r_23) (cwV 1 hts gL_goes_X3_compact rfl rfl rfl (by decide +kernel) ⟨Nat.le_of_ble_eq_true rfl, Nat.le_of_ble_eq_true rfl⟩) hKK rfl hP hD hS hA rfl hl.1 rfl (Nat.le_of_ble_eq_true rfl) ⟨Nat.zero_le _, Nat.zero_le _⟩ dL_goes_170 (fun r_99 u_99 H locs hq_99 hP hD hS => ?_)
    have hP : va_P G.1 vwCl (clW G o pr q a b d u_99) H := hP
    have hD : va_D A (clW G o pr q a b d u_99) := hD
    exact z_iretE u_99 hx hb hr hlk hP hD hS dL_goes_173 rfl hq_99
  · refine z_top (v := nI 13) (by rw [e_k]) ?_
    refine lv_tableOut (tgt := 174) hx hb dL_goes_6 (by decide) (by decide) ?_
    refine lv_aload_n hx hb dL_goes_174 rfl (lv_at hl 0 rfl) ?_
    refine lv_iload_n hx hb dL_goes_175 rfl (lv_at hl 2 rfl) ?_
    refine z_qSE (As := [.ref o, .int y]) (rest := []) F (c_L_plays l G o pr q a b d pa S P L t v u pv B h hB y) (va_cwS 2 hts gL_goes_L_plays rfl rfl rfl (by decide +kernel) ⟨Nat.le_of_ble_eq_true rfl, Nat.le_of_ble_eq_true rfl⟩) hKK hP hD hS hA rfl hl.1 rfl (Nat.le_of_ble_eq_true rfl) ⟨Nat.zero_le _, Nat.zero_le _⟩ dL_goes_176 (fun r_99 u_99 H locs hq_99 hP hD hS => ?_)
    have hP : va_P G.1 vwCl (clW G o pr q a b d u_99) H := hP
    have hD : va_D A (clW G o pr q a b d u_99) := hD
    exact z_iretE u_99 hx hb hr hlk hP hD hS dL_goes_179 rfl hq_99
