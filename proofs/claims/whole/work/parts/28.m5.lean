set_option maxHeartbeats 4000000 in
set_option maxRecDepth 100000 in
theorem c_X4_compacts (l : Launch) (G : ZG) (a : Nat → Nat) (v : Mem) (y : Nat → Nat) (ρ : Nat) (hρ : ρ ≤ 2) (hN : okNm (rN (v 0))) (hI : injN (rN (v 0))) (hcl : okCl (v 0)) : CIE l G yX4_compacts wsX4_compacts (zRm 3 67) [.ref (a 0), .int (nI ρ)] (modW G a v y) (S := (Nat → Int32) × (Nat → Int32) × (Nat → Int32)) (fun r u => cmpPost (v 0) ρ u.1 ∧ r = nI (mvdA (v 0) ρ)) (fun u => modW G a (mrow (mrow (mrow v 0 u.1) 4 u.2.1) 5 u.2.2) (nup y 2 (cntA (v 0)))) := by
  refine CIE.ent (cc := cX4_compacts) (maxL := 6) (ty := .int) (own := RX4) (by decide) rfl rfl (Nat.le_of_ble_eq_true rfl) ?_
  intro p ee s m args below meth c A ls F hr hlk hKK hP hD hA hS hl
  obtain ⟨hx, hb, hml, hown, hts⟩ := id F
  have hl : lv_has ls 6 [(0, .ref (a 0)), (1, .int (nI ρ))] := hl
  have fl_7 := hts (.fieldLink RX4 7 "NameRollsModel" "now" "[I") (by decide +kernel)
  have fl_22 := hts (.fieldLink RX4 22 "NameRollsModel" "ranked" "[I") (by decide +kernel)
  have fl_25 := hts (.fieldLink RX4 25 "NameRollsModel" "before" "[I") (by decide +kernel)
  have fl_103 := hts (.fieldLink RX4 103 "NameRollsModel" "named" "I") (by decide +kernel)
  have hinX4 : ∀ w ∈ wsX40, w ∈ wsX4_compacts := by decide +kernel
  refine lv_aload_n hx hb dX4_compacts_0 rfl (lv_at hl 0 rfl) ?_
  refine lv_iload_n hx hb dX4_compacts_1 rfl (lv_at hl 1 rfl) ?_
  refine z_callVVE (As := [.int (nI ρ)]) (rest := []) (wr := []) (C := RX4) F (c_X4_ranks l G a v y (ρ) (by omega) hN hI) (cwV 1 hts gX4_compacts_X4_ranks rfl rfl rfl (by decide +kernel) ⟨Nat.le_of_ble_eq_true rfl, Nat.le_of_ble_eq_true rfl⟩) hKK (z_recv hKK hP (q0 := 0) (ci := 4) rfl rfl) hP hD hS hA rfl hl.1 rfl (Nat.le_of_ble_eq_true rfl) ⟨Nat.zero_le _, Nat.zero_le _⟩ dX4_compacts_2 (fun u_1 H locs hq_1 hP hD hS => ?_)
  have hs : srt (rN (v 0)) (rU (v 0)) ρ 40 (cntA (v 0)) u_1 := hq_1
  obtain ⟨g, hg9⟩ : ∃ g, g = u_1 := ⟨_, rfl⟩
  rw [← hg9] at hP hD hs
  have hP : va_P G.1 vwCl (modW G a (mrow v 4 g) (nup y 2 (cntA (v 0)))) H := hP
  have hD : va_D A (modW G a (mrow v 4 g) (nup y 2 (cntA (v 0)))) := hD
  have hM : cntA (v 0) ≤ 40 := fb_ct_le _ _
  refine lv_sipush (v := nI 142) hx hb dX4_compacts_5 (by decide) ?_
  refine lv_istore_n (lv' := [(2, .int (nI 142)), (0, .ref (a 0)), (1, .int (nI ρ))]) hx hb dX4_compacts_8 rfl hl (by decide) rfl (fun ls hl => ?_)
  refine lv_sipush (v := nI 368) hx hb dX4_compacts_9 (by decide) ?_
  refine lv_istore_n (lv' := [(3, .int (nI 368)), (2, .int (nI 142)), (0, .ref (a 0)), (1, .int (nI ρ))]) hx hb dX4_compacts_12 rfl hl (by decide) rfl (fun ls hl => ?_)
  have key_2 : ∀ (nn : Nat) (k : Nat), 122 ≤ k → k ≤ 368 → k < nn → ∀ (H : Heap) (locs : List Loc) (ls : Array Slot), va_P G.1 vwCl (modW G a (mrow (mrow v 0 (shD (v 0) k)) 4 g) (nup y 2 (cntA (v 0)))) H → va_D A (modW G a (mrow (mrow v 0 (shD (v 0) k)) 4 g) (nup y 2 (cntA (v 0)))) → va_S A s.heap H locs → lv_has ls 6 [(0, .ref (a 0)), (1, .int (nI ρ)), (2, .int (nI 142)), (3, .int (nI k))] → W p l ee (zRm 3 67) s m args below meth c H locs 0 0 (MQ below (ZQie G A (S := (Nat → Int32) × (Nat → Int32) × (Nat → Int32)) (fun r u => cmpPost (v 0) ρ u.1 ∧ r = nI (mvdA (v 0) ρ)) (fun u => modW G a (mrow (mrow (mrow v 0 u.1) 4 u.2.1) 5 u.2.2) (nup y 2 (cntA (v 0))))) args s 0 0 A) (F0 m 13 ls []) := by
    intro nn
    induction nn with
    | zero => intro k _ _ hm; exact absurd hm (Nat.not_lt_zero _)
    | succ nn ih_2 =>
      intro k hk1 hk2 hm H locs ls hP hD hS hl
      refine lv_iload_n hx hb dX4_compacts_13 rfl (lv_at hl 3 rfl) ?_
      refine lv_bipush (v := nI 123) hx hb dX4_compacts_14 (by decide) ?_
      refine z_lt (tgt := 44) hx hb dX4_compacts_16 (by decide) (by omega) (by omega) (fun c_3 => ?_) (fun c_3 => ?_)
      · skip
        refine lv_iconst (v := nI 0) hx hb dX4_compacts_44 (by decide) ?_
        refine lv_istore_n (lv' := [(3, .int (nI 0)), (0, .ref (a 0)), (1, .int (nI ρ)), (2, .int (nI 142))]) hx hb dX4_compacts_45 rfl hl (by decide) rfl (fun ls hl => ?_)
        have key_4 : ∀ (nn : Nat) (n : Nat) (F2 B : Nat → Int32), n ≤ 40 → c2 (v 0) (shD (v 0) 122) n F2 B → 40 - n < nn → ∀ (H : Heap) (locs : List Loc) (ls : Array Slot), va_P G.1 vwCl (modW G a (mrow (mrow (mrow v 0 F2) 4 g) 5 B) (nup y 2 (cntA (v 0)))) H → va_D A (modW G a (mrow (mrow (mrow v 0 F2) 4 g) 5 B) (nup y 2 (cntA (v 0)))) → va_S A s.heap H locs → lv_has ls 6 [(0, .ref (a 0)), (1, .int (nI ρ)), (2, .int (nI 142)), (3, .int (nI n))] → W p l ee (zRm 3 67) s m args below meth c H locs 0 0 (MQ below (ZQie G A (S := (Nat → Int32) × (Nat → Int32) × (Nat → Int32)) (fun r u => cmpPost (v 0) ρ u.1 ∧ r = nI (mvdA (v 0) ρ)) (fun u => modW G a (mrow (mrow (mrow v 0 u.1) 4 u.2.1) 5 u.2.2) (nup y 2 (cntA (v 0))))) args s 0 0 A) (F0 m 46 ls []) := by
          intro nn
          induction nn with
          | zero => intro n F2 B _ _ hm; exact absurd hm (Nat.not_lt_zero _)
          | succ nn ih_4 =>
            intro n F2 B hn hc hm H locs ls hP hD hS hl
            refine lv_iload_n hx hb dX4_compacts_46 rfl (lv_at hl 3 rfl) ?_
            refine lv_bipush (v := nI 40) hx hb dX4_compacts_47 (by decide) ?_
            refine z_ge (tgt := 133) hx hb dX4_compacts_49 (by decide) (by omega) (by omega) (fun c_5 => ?_) (fun c_5 => ?_)
            · skip
              refine lv_iconst (v := nI 0) hx hb dX4_compacts_133 (by decide) ?_
              refine lv_istore_n (lv' := [(3, .int (nI 0)), (0, .ref (a 0)), (1, .int (nI ρ)), (2, .int (nI 142))]) hx hb dX4_compacts_134 rfl hl (by decide) rfl (fun ls hl => ?_)
              refine lv_iconst (v := nI 0) hx hb dX4_compacts_135 (by decide) ?_
              refine lv_istore (lv' := [(4, .int (nI 0)), (3, .int (nI 0)), (0, .ref (a 0)), (1, .int (nI ρ)), (2, .int (nI 142))]) hx hb dX4_compacts_136 hl (by decide) rfl (fun ls hl => ?_)
              have hn40 : n = 40 := by omega
              rw [hn40] at hc
              have hc2 := hc
              have key_6 : ∀ (nn : Nat) (k : Nat) (F3 : Nat → Int32), k ≤ cntA (v 0) → c3 (v 0) ρ F2 k F3 → cntA (v 0) - k < nn → ∀ (H : Heap) (locs : List Loc) (ls : Array Slot), va_P G.1 vwCl (modW G a (mrow (mrow (mrow v 0 F3) 4 g) 5 B) (nup y 2 (cntA (v 0)))) H → va_D A (modW G a (mrow (mrow (mrow v 0 F3) 4 g) 5 B) (nup y 2 (cntA (v 0)))) → va_S A s.heap H locs → lv_has ls 6 [(0, .ref (a 0)), (1, .int (nI ρ)), (2, .int (nI 142)), (3, .int (nI (fb_ct (fun k => decide (¬ g k = nI k)) k))), (4, .int (nI k))] → W p l ee (zRm 3 67) s m args below meth c H locs 0 0 (MQ below (ZQie G A (S := (Nat → Int32) × (Nat → Int32) × (Nat → Int32)) (fun r u => cmpPost (v 0) ρ u.1 ∧ r = nI (mvdA (v 0) ρ)) (fun u => modW G a (mrow (mrow (mrow v 0 u.1) 4 u.2.1) 5 u.2.2) (nup y 2 (cntA (v 0))))) args s 0 0 A) (F0 m 138 ls []) := by
                intro nn
                induction nn with
                | zero => intro k F3 _ _ hm; exact absurd hm (Nat.not_lt_zero _)
                | succ nn ih_6 =>
                  intro k F3 hk hc hm H locs ls hP hD hS hl
                  refine lv_iload hx hb dX4_compacts_138 (lv_at hl 4 rfl) ?_
                  refine lv_aload_n hx hb dX4_compacts_140 rfl (lv_at hl 0 rfl) ?_
                  refine va_get (D := G.1) (ci := 4) (v := .int (nI (cntA (v 0)))) (C := RX4) (T := TX4) (N := 17) hx hb hts hinX4 hown hKK.1 hP 0 rfl rfl 8 (by decide) fl_103 (fun _ h9 => h9) rfl dX4_compacts_141 ?_
                  refine z_ge (tgt := 192) hx hb dX4_compacts_144 (by decide) (by omega) (by omega) (fun c_7 => ?_) (fun c_7 => ?_)
                  · skip
                    have hkM : k = cntA (v 0) := by omega
                    rw [hkM] at hc hl
                    rw [mvd_eq hs] at hl
                    have hc3 := hc
                    refine lv_iconst (v := nI 0) hx hb dX4_compacts_192 (by decide) ?_
                    refine lv_istore (lv' := [(4, .int (nI 0)), (0, .ref (a 0)), (1, .int (nI ρ)), (2, .int (nI 142)), (3, .int (nI (mvdA (v 0) ρ)))]) hx hb dX4_compacts_193 hl (by decide) rfl (fun ls hl => ?_)
                    have key_8 : ∀ (nn : Nat) (n : Nat) (F4 : Nat → Int32), n ≤ 40 → c4 (v 0) g (cntA (v 0)) F3 n F4 → 40 - n < nn → ∀ (H : Heap) (locs : List Loc) (ls : Array Slot), va_P G.1 vwCl (modW G a (mrow (mrow (mrow v 0 F4) 4 g) 5 B) (nup y 2 (cntA (v 0)))) H → va_D A (modW G a (mrow (mrow (mrow v 0 F4) 4 g) 5 B) (nup y 2 (cntA (v 0)))) → va_S A s.heap H locs → lv_has ls 6 [(0, .ref (a 0)), (1, .int (nI ρ)), (2, .int (nI 142)), (3, .int (nI (mvdA (v 0) ρ))), (4, .int (nI n))] → W p l ee (zRm 3 67) s m args below meth c H locs 0 0 (MQ below (ZQie G A (S := (Nat → Int32) × (Nat → Int32) × (Nat → Int32)) (fun r u => cmpPost (v 0) ρ u.1 ∧ r = nI (mvdA (v 0) ρ)) (fun u => modW G a (mrow (mrow (mrow v 0 u.1) 4 u.2.1) 5 u.2.2) (nup y 2 (cntA (v 0))))) args s 0 0 A) (F0 m 195 ls []) := by
                      intro nn
                      induction nn with
                      | zero => intro n F4 _ _ hm; exact absurd hm (Nat.not_lt_zero _)
                      | succ nn ih_8 =>
                        intro n F4 hn4 hc hm H locs ls hP hD hS hl
                        refine lv_iload hx hb dX4_compacts_195 (lv_at hl 4 rfl) ?_
                        refine lv_bipush (v := nI 40) hx hb dX4_compacts_197 (by decide) ?_
                        refine z_ge (tgt := 317) hx hb dX4_compacts_199 (by decide) (by omega) (by omega) (fun c_9 => ?_) (fun c_9 => ?_)
                        · skip
                          refine lv_iconst (v := nI 0) hx hb dX4_compacts_317 (by decide) ?_
                          refine lv_istore (lv' := [(4, .int (nI 0)), (0, .ref (a 0)), (1, .int (nI ρ)), (2, .int (nI 142)), (3, .int (nI (mvdA (v 0) ρ)))]) hx hb dX4_compacts_318 hl (by decide) rfl (fun ls hl => ?_)
                          have hn40 : n = 40 := by omega
                          rw [hn40] at hc
                          have hc4 := hc
                          have key_10 : ∀ (nn : Nat) (n : Nat) (F5 : Nat → Int32), n ≤ 40 → c5 (v 0) g (cntA (v 0)) ρ F4 n F5 → 40 - n < nn → ∀ (H : Heap) (locs : List Loc) (ls : Array Slot), va_P G.1 vwCl (modW G a (mrow (mrow (mrow v 0 F5) 4 g) 5 B) (nup y 2 (cntA (v 0)))) H → va_D A (modW G a (mrow (mrow (mrow v 0 F5) 4 g) 5 B) (nup y 2 (cntA (v 0)))) → va_S A s.heap H locs → lv_has ls 6 [(0, .ref (a 0)), (1, .int (nI ρ)), (2, .int (nI 142)), (3, .int (nI (mvdA (v 0) ρ))), (4, .int (nI n))] → W p l ee (zRm 3 67) s m args below meth c H locs 0 0 (MQ below (ZQie G A (S := (Nat → Int32) × (Nat → Int32) × (Nat → Int32)) (fun r u => cmpPost (v 0) ρ u.1 ∧ r = nI (mvdA (v 0) ρ)) (fun u => modW G a (mrow (mrow (mrow v 0 u.1) 4 u.2.1) 5 u.2.2) (nup y 2 (cntA (v 0))))) args s 0 0 A) (F0 m 320 ls []) := by
                            intro nn
                            induction nn with
                            | zero => intro n F5 _ _ hm; exact absurd hm (Nat.not_lt_zero _)
                            | succ nn ih_10 =>
                              intro n F5 hn5 hc hm H locs ls hP hD hS hl
                              refine lv_iload hx hb dX4_compacts_320 (lv_at hl 4 rfl) ?_
                              refine lv_bipush (v := nI 40) hx hb dX4_compacts_322 (by decide) ?_
                              refine z_ge (tgt := 378) hx hb dX4_compacts_324 (by decide) (by omega) (by omega) (fun c_11 => ?_) (fun c_11 => ?_)
                              · skip
                                refine lv_iconst (v := nI 0) hx hb dX4_compacts_378 (by decide) ?_
                                refine lv_istore (lv' := [(4, .int (nI 0)), (0, .ref (a 0)), (1, .int (nI ρ)), (2, .int (nI 142)), (3, .int (nI (mvdA (v 0) ρ)))]) hx hb dX4_compacts_379 hl (by decide) rfl (fun ls hl => ?_)
                                have hn40 : n = 40 := by omega
                                rw [hn40] at hc
                                have hc5 := hc
                                have key_12 : ∀ (nn : Nat) (k : Nat) (F6 : Nat → Int32), k ≤ 18 → c6 (v 0) ρ F5 k F6 → 18 - k < nn → ∀ (H : Heap) (locs : List Loc) (ls : Array Slot), va_P G.1 vwCl (modW G a (mrow (mrow (mrow v 0 F6) 4 g) 5 B) (nup y 2 (cntA (v 0)))) H → va_D A (modW G a (mrow (mrow (mrow v 0 F6) 4 g) 5 B) (nup y 2 (cntA (v 0)))) → va_S A s.heap H locs → lv_has ls 6 [(0, .ref (a 0)), (1, .int (nI ρ)), (2, .int (nI 142)), (3, .int (nI (mvdA (v 0) ρ))), (4, .int (nI k))] → W p l ee (zRm 3 67) s m args below meth c H locs 0 0 (MQ below (ZQie G A (S := (Nat → Int32) × (Nat → Int32) × (Nat → Int32)) (fun r u => cmpPost (v 0) ρ u.1 ∧ r = nI (mvdA (v 0) ρ)) (fun u => modW G a (mrow (mrow (mrow v 0 u.1) 4 u.2.1) 5 u.2.2) (nup y 2 (cntA (v 0))))) args s 0 0 A) (F0 m 381 ls []) := by
                                  intro nn
                                  induction nn with
                                  | zero => intro k F6 _ _ hm; exact absurd hm (Nat.not_lt_zero _)
                                  | succ nn ih_12 =>
                                    intro k F6 hk6 hc hm H locs ls hP hD hS hl
                                    refine lv_iload hx hb dX4_compacts_381 (lv_at hl 4 rfl) ?_
                                    refine lv_bipush (v := nI 18) hx hb dX4_compacts_383 (by decide) ?_
                                    refine z_ge (tgt := 441) hx hb dX4_compacts_385 (by decide) (by omega) (by omega) (fun c_13 => ?_) (fun c_13 => ?_)
                                    · skip
                                      have hk18 : k = 18 := by omega
                                      rw [hk18] at hc
                                      have hc6 := hc
                                      have low : ∀ x, x < 4 → F6 x = v 0 x := fun x hx => by rw [hc6.2 x (by omega), hc5.2 x (by omega), hc4.2 x (by omega) (by omega) (by omega), hc3.2 x (by omega), c2_rd hc2 (by omega)]
                                      refine lv_aload_n hx hb dX4_compacts_441 rfl (lv_at hl 0 rfl) ?_
                                      refine va_get (D := G.1) (ci := 4) (v := .ref (a 1)) (C := RX4) (T := TX4) (N := 17) hx hb hts hinX4 hown hKK.1 hP 0 rfl rfl 0 (by decide) fl_7 (fun _ h9 => h9) rfl dX4_compacts_442 ?_
                                      refine lv_iload_n hx hb dX4_compacts_445 rfl (lv_at hl 2 rfl) ?_
                                      refine lv_iload_n hx hb dX4_compacts_446 rfl (lv_at hl 1 rfl) ?_
                                      refine z_iast (n := 511) (f := F6) (w2 := modW G a (mrow (mrow (mrow v 0 (upd F6 142 (nI ρ))) 4 g) 5 B) (nup y 2 (cntA (v 0)))) hx hb hKK hP hD hS 1 rfl (by omega) (by decide) rfl dX4_compacts_447 (fun H locs hP hD hS => ?_)
                                      refine lv_aload_n hx hb dX4_compacts_448 rfl (lv_at hl 0 rfl) ?_
                                      refine va_get (D := G.1) (ci := 4) (v := .ref (a 1)) (C := RX4) (T := TX4) (N := 17) hx hb hts hinX4 hown hKK.1 hP 0 rfl rfl 0 (by decide) fl_7 (fun _ h9 => h9) rfl dX4_compacts_449 ?_
                                      refine lv_iload_n hx hb dX4_compacts_452 rfl (lv_at hl 2 rfl) ?_
                                      refine lv_iconst (v := nI 1) hx hb dX4_compacts_453 (by decide) ?_
                                      refine z_add (v := nI 143) hx hb dX4_compacts_454 (nI_add _ _) ?_
                                      refine lv_aload_n hx hb dX4_compacts_455 rfl (lv_at hl 0 rfl) ?_
                                      refine va_get (D := G.1) (ci := 4) (v := .int (nI (cntA (v 0)))) (C := RX4) (T := TX4) (N := 17) hx hb hts hinX4 hown hKK.1 hP 0 rfl rfl 8 (by decide) fl_103 (fun _ h9 => h9) rfl dX4_compacts_456 ?_
                                      refine z_iast (n := 511) (f := upd F6 142 (nI ρ)) (w2 := modW G a (mrow (mrow (mrow v 0 (upd (upd F6 142 (nI ρ)) 143 (nI (cntA (v 0))))) 4 g) 5 B) (nup y 2 (cntA (v 0)))) hx hb hKK hP hD hS 1 rfl (by omega) (by decide) rfl dX4_compacts_459 (fun H locs hP hD hS => ?_)
                                      refine lv_aload_n hx hb dX4_compacts_460 rfl (lv_at hl 0 rfl) ?_
                                      refine va_get (D := G.1) (ci := 4) (v := .ref (a 1)) (C := RX4) (T := TX4) (N := 17) hx hb hts hinX4 hown hKK.1 hP 0 rfl rfl 0 (by decide) fl_7 (fun _ h9 => h9) rfl dX4_compacts_461 ?_
                                      refine lv_iload_n hx hb dX4_compacts_464 rfl (lv_at hl 2 rfl) ?_
                                      refine lv_iconst (v := nI 2) hx hb dX4_compacts_465 (by decide) ?_
                                      refine z_add (v := nI 144) hx hb dX4_compacts_466 (nI_add _ _) ?_
                                      refine lv_iload_n hx hb dX4_compacts_467 rfl (lv_at hl 3 rfl) ?_
                                      refine z_iast (n := 511) (f := upd (upd F6 142 (nI ρ)) 143 (nI (cntA (v 0)))) (w2 := modW G a (mrow (mrow (mrow v 0 (upd (upd (upd F6 142 (nI ρ)) 143 (nI (cntA (v 0)))) 144 (nI (mvdA (v 0) ρ)))) 4 g) 5 B) (nup y 2 (cntA (v 0)))) hx hb hKK hP hD hS 1 rfl (by omega) (by decide) rfl dX4_compacts_468 (fun H locs hP hD hS => ?_)
                                      refine lv_aload_n hx hb dX4_compacts_469 rfl (lv_at hl 0 rfl) ?_
                                      refine va_get (D := G.1) (ci := 4) (v := .ref (a 1)) (C := RX4) (T := TX4) (N := 17) hx hb hts hinX4 hown hKK.1 hP 0 rfl rfl 0 (by decide) fl_7 (fun _ h9 => h9) rfl dX4_compacts_470 ?_
                                      refine lv_iconst (v := nI 0) hx hb dX4_compacts_473 (by decide) ?_
                                      refine lv_dup2_11 hx hb dX4_compacts_474 rfl rfl ?_
                                      refine z_iald (n := 511) (f := upd (upd (upd F6 142 (nI ρ)) 143 (nI (cntA (v 0)))) 144 (nI (mvdA (v 0) ρ))) (v := v 0 0) hx hb hKK hP 1 rfl (by omega) (by decide) ((pk_un (by omega)).trans ((pk_un (by omega)).trans ((pk_un (by omega)).trans (low 0 (by omega))))) dX4_compacts_475 ?_
                                      refine lv_iconst (v := nI 1) hx hb dX4_compacts_476 (by decide) ?_
                                      refine z_add (v := (v 0 0) + (nI 1)) hx hb dX4_compacts_477 rfl ?_
                                      refine z_iast (n := 511) (f := upd (upd (upd F6 142 (nI ρ)) 143 (nI (cntA (v 0)))) 144 (nI (mvdA (v 0) ρ))) (w2 := modW G a (mrow (mrow (mrow v 0 (upd (upd (upd (upd F6 142 (nI ρ)) 143 (nI (cntA (v 0)))) 144 (nI (mvdA (v 0) ρ))) 0 ((v 0 0) + (nI 1)))) 4 g) 5 B) (nup y 2 (cntA (v 0)))) hx hb hKK hP hD hS 1 rfl (by omega) (by decide) rfl dX4_compacts_478 (fun H locs hP hD hS => ?_)
                                      refine lv_aload_n hx hb dX4_compacts_479 rfl (lv_at hl 0 rfl) ?_
                                      refine va_get (D := G.1) (ci := 4) (v := .ref (a 1)) (C := RX4) (T := TX4) (N := 17) hx hb hts hinX4 hown hKK.1 hP 0 rfl rfl 0 (by decide) fl_7 (fun _ h9 => h9) rfl dX4_compacts_480 ?_
                                      refine lv_iconst (v := nI 3) hx hb dX4_compacts_483 (by decide) ?_
                                      refine lv_dup2_11 hx hb dX4_compacts_484 rfl rfl ?_
                                      refine z_iald (n := 511) (f := upd (upd (upd (upd F6 142 (nI ρ)) 143 (nI (cntA (v 0)))) 144 (nI (mvdA (v 0) ρ))) 0 ((v 0 0) + (nI 1))) (v := v 0 3) hx hb hKK hP 1 rfl (by omega) (by decide) ((pk_un (by omega)).trans ((pk_un (by omega)).trans ((pk_un (by omega)).trans ((pk_un (by omega)).trans (low 3 (by omega)))))) dX4_compacts_485 ?_
                                      refine lv_iconst (v := nI 1) hx hb dX4_compacts_486 (by decide) ?_
                                      refine z_add (v := (v 0 3) + (nI 1)) hx hb dX4_compacts_487 rfl ?_
                                      refine z_iast (n := 511) (f := upd (upd (upd (upd F6 142 (nI ρ)) 143 (nI (cntA (v 0)))) 144 (nI (mvdA (v 0) ρ))) 0 ((v 0 0) + (nI 1))) (w2 := modW G a (mrow (mrow (mrow v 0 (upd (upd (upd (upd (upd F6 142 (nI ρ)) 143 (nI (cntA (v 0)))) 144 (nI (mvdA (v 0) ρ))) 0 ((v 0 0) + (nI 1))) 3 ((v 0 3) + (nI 1)))) 4 g) 5 B) (nup y 2 (cntA (v 0)))) hx hb hKK hP hD hS 1 rfl (by omega) (by decide) rfl dX4_compacts_488 (fun H locs hP hD hS => ?_)
                                      refine lv_iload_n hx hb dX4_compacts_489 rfl (lv_at hl 3 rfl) ?_
                                      exact z_iretE (upd (upd (upd (upd (upd F6 142 (nI ρ)) 143 (nI (cntA (v 0)))) 144 (nI (mvdA (v 0) ρ))) 0 ((v 0 0) + (nI 1))) 3 ((v 0 3) + (nI 1)), g, B) hx hb hr hlk hP hD hS dX4_compacts_490 rfl ⟨cmp_end rfl hs hc2 hc3 hc4 hc5 hc6, rfl⟩
                                    · skip
                                      refine lv_aload_n hx hb dX4_compacts_388 rfl (lv_at hl 0 rfl) ?_
                                      refine va_get (D := G.1) (ci := 4) (v := .ref (a 1)) (C := RX4) (T := TX4) (N := 17) hx hb hts hinX4 hown hKK.1 hP 0 rfl rfl 0 (by decide) fl_7 (fun _ h9 => h9) rfl dX4_compacts_389 ?_
                                      refine lv_bipush (v := nI 124) hx hb dX4_compacts_392 (by decide) ?_
                                      refine lv_iload hx hb dX4_compacts_394 (lv_at hl 4 rfl) ?_
                                      refine z_add (v := nI (124 + k)) hx hb dX4_compacts_396 (nI_add _ _) ?_
                                      refine lv_aload_n hx hb dX4_compacts_397 rfl (lv_at hl 0 rfl) ?_
                                      refine va_get (D := G.1) (ci := 4) (v := .ref (a 1)) (C := RX4) (T := TX4) (N := 17) hx hb hts hinX4 hown hKK.1 hP 0 rfl rfl 0 (by decide) fl_7 (fun _ h9 => h9) rfl dX4_compacts_398 ?_
                                      refine lv_bipush (v := nI 124) hx hb dX4_compacts_401 (by decide) ?_
                                      refine lv_iload hx hb dX4_compacts_403 (lv_at hl 4 rfl) ?_
                                      refine z_add (v := nI (124 + k)) hx hb dX4_compacts_405 (nI_add _ _) ?_
                                      rcases hcl k (by omega) with hoe | ⟨o, ho, hoe, ho0⟩
                                      · skip
                                        refine z_iald (n := 511) (f := F6) (v := F6 (124 + k)) hx hb hKK hP 1 rfl (by omega) (by decide) rfl dX4_compacts_406 ?_
                                        refine z_top (v := (-1)) (by rw [hc.2 _ (by omega), hc5.2 _ (by omega), hc4.2 _ (by omega) (by omega) (by omega), hc3.2 _ (by omega), c2_rd hc2 (by omega), hoe]) ?_
                                        refine lv_if_ge (tgt := 414) hx hb dX4_compacts_407 (by decide) (fun c_14 => absurd c_14 (by decide)) (fun c_14 => ?_)
                                        refine lv_iconst (v := (-1)) hx hb dX4_compacts_410 (by decide) ?_
                                        refine lv_goto (tgt := 434) hx hb dX4_compacts_411 (by decide) ?_
                                        refine z_iast (n := 511) (f := F6) (w2 := modW G a (mrow (mrow (mrow v 0 (upd F6 (124 + k) ((-1)))) 4 g) 5 B) (nup y 2 (cntA (v 0)))) hx hb hKK hP hD hS 1 rfl (by omega) (by decide) rfl dX4_compacts_434 (fun H locs hP hD hS => ?_)
                                        refine lv_iinc (v := nI (k + 1)) (lv' := [(4, .int (nI (k + 1))), (0, .ref (a 0)), (1, .int (nI ρ)), (2, .int (nI 142)), (3, .int (nI (mvdA (v 0) ρ)))]) hx hb dX4_compacts_435 hl (k := 4) rfl (nI_1 _) (by decide) rfl (fun ls hl => ?_)
                                        refine lv_goto (tgt := 381) hx hb dX4_compacts_438 (by decide) ?_
                                        exact ih_12 (k + 1) _ (by omega) (c6_s hc (by rw [clA, if_pos hoe])) (by omega) _ _ _ hP hD hS (lv_sub hl [1, 2, 3, 4, 0] rfl)
                                      · skip
                                        refine z_iald (n := 511) (f := F6) (v := F6 (124 + k)) hx hb hKK hP 1 rfl (by omega) (by decide) rfl dX4_compacts_406 ?_
                                        refine z_top (v := nI o) (by rw [hc.2 _ (by omega), hc5.2 _ (by omega), hc4.2 _ (by omega) (by omega) (by omega), hc3.2 _ (by omega), c2_rd hc2 (by omega), hoe]) ?_
                                        refine z_ifNge (tgt := 414) hx hb dX4_compacts_407 (by decide) (by omega) (fun c_15 => ?_) (fun c_15 => absurd c_15 (Nat.not_lt_zero _))
                                        refine lv_aload_n hx hb dX4_compacts_414 rfl (lv_at hl 0 rfl) ?_
                                        refine va_get (D := G.1) (ci := 4) (v := .ref (a 1)) (C := RX4) (T := TX4) (N := 17) hx hb hts hinX4 hown hKK.1 hP 0 rfl rfl 0 (by decide) fl_7 (fun _ h9 => h9) rfl dX4_compacts_415 ?_
                                        refine lv_iload_n hx hb dX4_compacts_418 rfl (lv_at hl 2 rfl) ?_
                                        refine lv_bipush (v := nI 43) hx hb dX4_compacts_419 (by decide) ?_
                                        refine z_add (v := nI 185) hx hb dX4_compacts_421 (nI_add _ _) ?_
                                        refine lv_aload_n hx hb dX4_compacts_422 rfl (lv_at hl 0 rfl) ?_
                                        refine va_get (D := G.1) (ci := 4) (v := .ref (a 1)) (C := RX4) (T := TX4) (N := 17) hx hb hts hinX4 hown hKK.1 hP 0 rfl rfl 0 (by decide) fl_7 (fun _ h9 => h9) rfl dX4_compacts_423 ?_
                                        refine lv_bipush (v := nI 124) hx hb dX4_compacts_426 (by decide) ?_
                                        refine lv_iload hx hb dX4_compacts_428 (lv_at hl 4 rfl) ?_
                                        refine z_add (v := nI (124 + k)) hx hb dX4_compacts_430 (nI_add _ _) ?_
                                        refine z_iald (n := 511) (f := F6) (v := F6 (124 + k)) hx hb hKK hP 1 rfl (by omega) (by decide) rfl dX4_compacts_431 ?_
                                        refine z_top (v := nI o) (by rw [hc.2 _ (by omega), hc5.2 _ (by omega), hc4.2 _ (by omega) (by omega) (by omega), hc3.2 _ (by omega), c2_rd hc2 (by omega), hoe]) ?_
                                        refine z_add (v := nI (185 + o)) hx hb dX4_compacts_432 (nI_add _ _) ?_
                                        refine z_iald (n := 511) (f := F6) (v := nI (posA (v 0) ρ o)) hx hb hKK hP 1 rfl (by omega) (by decide) (by rw [hc.2 _ (by omega), hc5.2 _ (by omega), hc4.2 _ (by omega) (by omega) (by omega), c3_e hs hc3 o ho, newA, if_neg ho0]) dX4_compacts_433 ?_
                                        refine z_iast (n := 511) (f := F6) (w2 := modW G a (mrow (mrow (mrow v 0 (upd F6 (124 + k) (nI (posA (v 0) ρ o)))) 4 g) 5 B) (nup y 2 (cntA (v 0)))) hx hb hKK hP hD hS 1 rfl (by omega) (by decide) rfl dX4_compacts_434 (fun H locs hP hD hS => ?_)
                                        refine lv_iinc (v := nI (k + 1)) (lv' := [(4, .int (nI (k + 1))), (0, .ref (a 0)), (1, .int (nI ρ)), (2, .int (nI 142)), (3, .int (nI (mvdA (v 0) ρ)))]) hx hb dX4_compacts_435 hl (k := 4) rfl (nI_1 _) (by decide) rfl (fun ls hl => ?_)
                                        refine lv_goto (tgt := 381) hx hb dX4_compacts_438 (by decide) ?_
                                        exact ih_12 (k + 1) _ (by omega) (c6_s hc (by rw [clA, if_neg (by rw [hoe]; exact nI_nm1 (by omega)), hoe, nI_clamp (by omega)])) (by omega) _ _ _ hP hD hS (lv_sub hl [1, 2, 3, 4, 0] rfl)
                                exact key_12 _ 0 F5 (by omega) (c6_0 _ _ _) (Nat.lt_succ_self _) _ _ _ hP hD hS (lv_sub hl [1, 2, 3, 4, 0] rfl)
                              · skip
                                refine lv_aload_n hx hb dX4_compacts_327 rfl (lv_at hl 0 rfl) ?_
                                refine va_get (D := G.1) (ci := 4) (v := .ref (a 1)) (C := RX4) (T := TX4) (N := 17) hx hb hts hinX4 hown hKK.1 hP 0 rfl rfl 0 (by decide) fl_7 (fun _ h9 => h9) rfl dX4_compacts_328 ?_
                                refine lv_iload_n hx hb dX4_compacts_331 rfl (lv_at hl 2 rfl) ?_
                                refine lv_bipush (v := nI 43) hx hb dX4_compacts_332 (by decide) ?_
                                refine z_add (v := nI 185) hx hb dX4_compacts_334 (nI_add _ _) ?_
                                refine lv_iload hx hb dX4_compacts_335 (lv_at hl 4 rfl) ?_
                                refine z_add (v := nI (185 + n)) hx hb dX4_compacts_337 (nI_add _ _) ?_
                                rcases Classical.em (v 0 (4 + n) = 0) with hn0 | hn0
                                · skip
                                  refine z_iald (n := 511) (f := F5) (v := F5 (185 + n)) hx hb hKK hP 1 rfl (by omega) (by decide) rfl dX4_compacts_338 ?_
                                  refine z_top (v := (-1)) (by rw [hc.2 _ (by omega), hc4.2 _ (by omega) (by omega) (by omega), c3_e hs hc3 n (by omega), newA, if_pos hn0]) ?_
                                  refine lv_istore (lv' := [(5, .int ((-1))), (0, .ref (a 0)), (1, .int (nI ρ)), (2, .int (nI 142)), (3, .int (nI (mvdA (v 0) ρ))), (4, .int (nI n))]) hx hb dX4_compacts_339 hl (by decide) rfl (fun ls hl => ?_)
                                  refine lv_aload_n hx hb dX4_compacts_341 rfl (lv_at hl 1 rfl) ?_
                                  refine va_get (D := G.1) (ci := 4) (v := .ref (a 1)) (C := RX4) (T := TX4) (N := 17) hx hb hts hinX4 hown hKK.1 hP 0 rfl rfl 0 (by decide) fl_7 (fun _ h9 => h9) rfl dX4_compacts_342 ?_
                                  refine lv_iload_n hx hb dX4_compacts_345 rfl (lv_at hl 3 rfl) ?_
                                  refine lv_bipush (v := nI 83) hx hb dX4_compacts_346 (by decide) ?_
                                  refine z_add (v := nI 225) hx hb dX4_compacts_348 (nI_add _ _) ?_
                                  refine lv_iload hx hb dX4_compacts_349 (lv_at hl 5 rfl) ?_
                                  refine z_add (v := nI (225 + n)) hx hb dX4_compacts_351 (nI_add _ _) ?_
                                  refine lv_iload hx hb dX4_compacts_352 (lv_at hl 0 rfl) ?_
                                  refine lv_if_ge (tgt := 361) hx hb dX4_compacts_354 (by decide) (fun c_16 => absurd c_16 (by decide)) (fun c_16 => ?_)
                                  refine lv_iconst (v := (-1)) hx hb dX4_compacts_357 (by decide) ?_
                                  refine lv_goto (tgt := 371) hx hb dX4_compacts_358 (by decide) ?_
                                  refine z_iast (n := 511) (f := F5) (w2 := modW G a (mrow (mrow (mrow v 0 (upd F5 (225 + n) ((-1)))) 4 g) 5 B) (nup y 2 (cntA (v 0)))) hx hb hKK hP hD hS 1 rfl (by omega) (by decide) rfl dX4_compacts_371 (fun H locs hP hD hS => ?_)
                                  refine lv_iinc (v := nI (n + 1)) (lv' := [(4, .int (nI (n + 1))), (5, .int ((-1))), (0, .ref (a 0)), (1, .int (nI ρ)), (2, .int (nI 142)), (3, .int (nI (mvdA (v 0) ρ)))]) hx hb dX4_compacts_372 hl (k := 5) rfl (nI_1 _) (by decide) rfl (fun ls hl => ?_)
                                  refine lv_goto (tgt := 320) hx hb dX4_compacts_375 (by decide) ?_
                                  exact ih_10 (n + 1) _ (by omega) (c5_s hc (by rw [thA, if_pos hn0])) (by omega) _ _ _ hP hD hS (lv_sub hl [2, 3, 4, 5, 0] rfl)
                                · have hpn := (srt_at hs (show n < 40 by omega) hn0).1
                                  have hpn2 : posA (v 0) ρ n < cntA (v 0) := hpn
                                  refine z_iald (n := 511) (f := F5) (v := F5 (185 + n)) hx hb hKK hP 1 rfl (by omega) (by decide) rfl dX4_compacts_338 ?_
                                  refine z_top (v := nI (posA (v 0) ρ n)) (by rw [hc.2 _ (by omega), hc4.2 _ (by omega) (by omega) (by omega), c3_e hs hc3 n (by omega), newA, if_neg hn0]) ?_
                                  refine lv_istore (lv' := [(5, .int (nI (posA (v 0) ρ n))), (0, .ref (a 0)), (1, .int (nI ρ)), (2, .int (nI 142)), (3, .int (nI (mvdA (v 0) ρ))), (4, .int (nI n))]) hx hb dX4_compacts_339 hl (by decide) rfl (fun ls hl => ?_)
                                  refine lv_aload_n hx hb dX4_compacts_341 rfl (lv_at hl 1 rfl) ?_
                                  refine va_get (D := G.1) (ci := 4) (v := .ref (a 1)) (C := RX4) (T := TX4) (N := 17) hx hb hts hinX4 hown hKK.1 hP 0 rfl rfl 0 (by decide) fl_7 (fun _ h9 => h9) rfl dX4_compacts_342 ?_
                                  refine lv_iload_n hx hb dX4_compacts_345 rfl (lv_at hl 3 rfl) ?_
                                  refine lv_bipush (v := nI 83) hx hb dX4_compacts_346 (by decide) ?_
                                  refine z_add (v := nI 225) hx hb dX4_compacts_348 (nI_add _ _) ?_
                                  refine lv_iload hx hb dX4_compacts_349 (lv_at hl 5 rfl) ?_
                                  refine z_add (v := nI (225 + n)) hx hb dX4_compacts_351 (nI_add _ _) ?_
                                  refine lv_iload hx hb dX4_compacts_352 (lv_at hl 0 rfl) ?_
                                  refine z_ifNge (tgt := 361) hx hb dX4_compacts_354 (by decide) (by omega) (fun c_17 => ?_) (fun c_17 => absurd c_17 (Nat.not_lt_zero _))
                                  refine lv_aload_n hx hb dX4_compacts_361 rfl (lv_at hl 1 rfl) ?_
                                  refine va_get (D := G.1) (ci := 4) (v := .ref (a 1)) (C := RX4) (T := TX4) (N := 17) hx hb hts hinX4 hown hKK.1 hP 0 rfl rfl 0 (by decide) fl_7 (fun _ h9 => h9) rfl dX4_compacts_362 ?_
                                  refine lv_bipush (v := nI 84) hx hb dX4_compacts_365 (by decide) ?_
                                  refine lv_iload hx hb dX4_compacts_367 (lv_at hl 0 rfl) ?_
                                  refine z_add (v := nI (84 + (posA (v 0) ρ n))) hx hb dX4_compacts_369 (nI_add _ _) ?_
                                  refine z_iald (n := 511) (f := F5) (v := yrA (v 0) g (cntA (v 0)) (posA (v 0) ρ n)) hx hb hKK hP 1 rfl (by omega) (by decide) (by rw [hc.2 _ (by omega)]; exact (hc4.1 _ (by omega)).2.2) dX4_compacts_370 ?_
                                  refine z_iast (n := 511) (f := F5) (w2 := modW G a (mrow (mrow (mrow v 0 (upd F5 (225 + n) (yrA (v 0) g (cntA (v 0)) (posA (v 0) ρ n)))) 4 g) 5 B) (nup y 2 (cntA (v 0)))) hx hb hKK hP hD hS 1 rfl (by omega) (by decide) rfl dX4_compacts_371 (fun H locs hP hD hS => ?_)
                                  refine lv_iinc (v := nI (n + 1)) (lv' := [(4, .int (nI (n + 1))), (5, .int (nI (posA (v 0) ρ n))), (0, .ref (a 0)), (1, .int (nI ρ)), (2, .int (nI 142)), (3, .int (nI (mvdA (v 0) ρ)))]) hx hb dX4_compacts_372 hl (k := 5) rfl (nI_1 _) (by decide) rfl (fun ls hl => ?_)
                                  refine lv_goto (tgt := 320) hx hb dX4_compacts_375 (by decide) ?_
                                  exact ih_10 (n + 1) _ (by omega) (c5_s hc (by rw [thA, if_neg hn0])) (by omega) _ _ _ hP hD hS (lv_sub hl [2, 3, 4, 5, 0] rfl)
                          exact key_10 _ 0 F4 (by omega) (c5_0 _ _ _ _ _) (Nat.lt_succ_self _) _ _ _ hP hD hS (lv_sub hl [1, 2, 3, 4, 0] rfl)
                        · skip
                          refine lv_aload_n hx hb dX4_compacts_202 rfl (lv_at hl 0 rfl) ?_
                          refine va_get (D := G.1) (ci := 4) (v := .ref (a 1)) (C := RX4) (T := TX4) (N := 17) hx hb hts hinX4 hown hKK.1 hP 0 rfl rfl 0 (by decide) fl_7 (fun _ h9 => h9) rfl dX4_compacts_203 ?_
                          refine lv_iconst (v := nI 4) hx hb dX4_compacts_206 (by decide) ?_
                          refine lv_iload hx hb dX4_compacts_207 (lv_at hl 4 rfl) ?_
                          refine z_add (v := nI (4 + n)) hx hb dX4_compacts_209 (nI_add _ _) ?_
                          refine lv_iload hx hb dX4_compacts_210 (lv_at hl 4 rfl) ?_
                          refine lv_aload_n hx hb dX4_compacts_212 rfl (lv_at hl 0 rfl) ?_
                          refine va_get (D := G.1) (ci := 4) (v := .int (nI (cntA (v 0)))) (C := RX4) (T := TX4) (N := 17) hx hb hts hinX4 hown hKK.1 hP 0 rfl rfl 8 (by decide) fl_103 (fun _ h9 => h9) rfl dX4_compacts_213 ?_
                          refine z_ge (tgt := 234) hx hb dX4_compacts_216 (by decide) (by omega) (by omega) (fun c_18 => ?_) (fun c_18 => ?_)
                          · skip
                            refine lv_iconst (v := nI 0) hx hb dX4_compacts_234 (by decide) ?_
                            refine z_iast (n := 511) (f := F4) (w2 := modW G a (mrow (mrow (mrow v 0 (upd F4 (4 + n) (nI 0))) 4 g) 5 B) (nup y 2 (cntA (v 0)))) hx hb hKK hP hD hS 1 rfl (by omega) (by decide) rfl dX4_compacts_235 (fun H locs hP hD hS => ?_)
                            refine lv_aload_n hx hb dX4_compacts_236 rfl (lv_at hl 0 rfl) ?_
                            refine va_get (D := G.1) (ci := 4) (v := .ref (a 1)) (C := RX4) (T := TX4) (N := 17) hx hb hts hinX4 hown hKK.1 hP 0 rfl rfl 0 (by decide) fl_7 (fun _ h9 => h9) rfl dX4_compacts_237 ?_
                            refine lv_bipush (v := nI 44) hx hb dX4_compacts_240 (by decide) ?_
                            refine lv_iload hx hb dX4_compacts_242 (lv_at hl 4 rfl) ?_
                            refine z_add (v := nI (44 + n)) hx hb dX4_compacts_244 (nI_add _ _) ?_
                            refine lv_iload hx hb dX4_compacts_245 (lv_at hl 4 rfl) ?_
                            refine lv_aload_n hx hb dX4_compacts_247 rfl (lv_at hl 0 rfl) ?_
                            refine va_get (D := G.1) (ci := 4) (v := .int (nI (cntA (v 0)))) (C := RX4) (T := TX4) (N := 17) hx hb hts hinX4 hown hKK.1 hP 0 rfl rfl 8 (by decide) fl_103 (fun _ h9 => h9) rfl dX4_compacts_248 ?_
                            refine z_ge (tgt := 272) hx hb dX4_compacts_251 (by decide) (by omega) (by omega) (fun c_19 => ?_) (fun c_19 => absurd c_19 (by omega))
                            refine lv_iconst (v := nI 0) hx hb dX4_compacts_272 (by decide) ?_
                            refine z_iast (n := 511) (f := upd F4 (4 + n) (nI 0)) (w2 := modW G a (mrow (mrow (mrow v 0 (upd (upd F4 (4 + n) (nI 0)) (44 + n) (nI 0))) 4 g) 5 B) (nup y 2 (cntA (v 0)))) hx hb hKK hP hD hS 1 rfl (by omega) (by decide) rfl dX4_compacts_273 (fun H locs hP hD hS => ?_)
                            refine lv_aload_n hx hb dX4_compacts_274 rfl (lv_at hl 0 rfl) ?_
                            refine va_get (D := G.1) (ci := 4) (v := .ref (a 1)) (C := RX4) (T := TX4) (N := 17) hx hb hts hinX4 hown hKK.1 hP 0 rfl rfl 0 (by decide) fl_7 (fun _ h9 => h9) rfl dX4_compacts_275 ?_
                            refine lv_bipush (v := nI 84) hx hb dX4_compacts_278 (by decide) ?_
                            refine lv_iload hx hb dX4_compacts_280 (lv_at hl 4 rfl) ?_
                            refine z_add (v := nI (84 + n)) hx hb dX4_compacts_282 (nI_add _ _) ?_
                            refine lv_dup2_11 hx hb dX4_compacts_283 rfl rfl ?_
                            refine z_iald (n := 511) (f := upd (upd F4 (4 + n) (nI 0)) (44 + n) (nI 0)) (v := v 0 (84 + n)) hx hb hKK hP 1 rfl (by omega) (by decide) ((pk_un (by omega)).trans ((pk_un (by omega)).trans (by rw [hc.2 _ (by omega) (by omega) (by omega), hc3.2 _ (by omega), c2_rd hc2 (by omega)]))) dX4_compacts_284 ?_
                            refine lv_aload_n hx hb dX4_compacts_285 rfl (lv_at hl 0 rfl) ?_
                            refine va_get (D := G.1) (ci := 4) (v := .ref (a 1)) (C := RX4) (T := TX4) (N := 17) hx hb hts hinX4 hown hKK.1 hP 0 rfl rfl 0 (by decide) fl_7 (fun _ h9 => h9) rfl dX4_compacts_286 ?_
                            refine lv_iconst (v := nI 4) hx hb dX4_compacts_289 (by decide) ?_
                            refine lv_iload hx hb dX4_compacts_290 (lv_at hl 4 rfl) ?_
                            refine z_add (v := nI (4 + n)) hx hb dX4_compacts_292 (nI_add _ _) ?_
                            refine z_iald (n := 511) (f := upd (upd F4 (4 + n) (nI 0)) (44 + n) (nI 0)) (v := nI 0) hx hb hKK hP 1 rfl (by omega) (by decide) ((pk_un (by omega)).trans pk_us) dX4_compacts_293 ?_
                            refine lv_aload_n hx hb dX4_compacts_294 rfl (lv_at hl 0 rfl) ?_
                            refine va_get (D := G.1) (ci := 4) (v := .ref (a 6)) (C := RX4) (T := TX4) (N := 17) hx hb hts hinX4 hown hKK.1 hP 0 rfl rfl 7 (by decide) fl_25 (fun _ h9 => h9) rfl dX4_compacts_295 ?_
                            refine lv_iload hx hb dX4_compacts_298 (lv_at hl 4 rfl) ?_
                            refine z_iald (n := 80) (f := B) (v := v 0 (4 + n)) hx hb hKK hP 6 rfl (by omega) (by decide) (hc2.2.2.2 n (by omega)).1 dX4_compacts_300 ?_
                            refine lv_icmp_eq (tgt := 308) hx hb dX4_compacts_301 (by decide) (fun c_20 => ?_) (fun c_20 => ?_)
                            · skip
                              refine lv_iconst (v := nI 0) hx hb dX4_compacts_308 (by decide) ?_
                              refine z_add (v := v 0 (84 + n)) hx hb dX4_compacts_309 (z_add0 _) ?_
                              refine z_iast (n := 511) (f := upd (upd F4 (4 + n) (nI 0)) (44 + n) (nI 0)) (w2 := modW G a (mrow (mrow (mrow v 0 (upd (upd (upd F4 (4 + n) (nI 0)) (44 + n) (nI 0)) (84 + n) (v 0 (84 + n)))) 4 g) 5 B) (nup y 2 (cntA (v 0)))) hx hb hKK hP hD hS 1 rfl (by omega) (by decide) rfl dX4_compacts_310 (fun H locs hP hD hS => ?_)
                              refine lv_iinc (v := nI (n + 1)) (lv' := [(4, .int (nI (n + 1))), (0, .ref (a 0)), (1, .int (nI ρ)), (2, .int (nI 142)), (3, .int (nI (mvdA (v 0) ρ)))]) hx hb dX4_compacts_311 hl (k := 4) rfl (nI_1 _) (by decide) rfl (fun ls hl => ?_)
                              refine lv_goto (tgt := 195) hx hb dX4_compacts_314 (by decide) ?_
                              have hx1 : nI 0 = nmA (v 0) g (cntA (v 0)) n := (by rw [nmA, if_neg (by omega)])
                              exact ih_8 (n + 1) _ (by omega) (c4_s hc (by omega) hx1 (by rw [usA, if_neg (by omega)]) (by rw [yrA, ← hx1, if_pos c_20])) (by omega) _ _ _ hP hD hS (lv_sub hl [1, 2, 3, 4, 0] rfl)
                            · skip
                              refine lv_iconst (v := nI 1) hx hb dX4_compacts_304 (by decide) ?_
                              refine lv_goto (tgt := 309) hx hb dX4_compacts_305 (by decide) ?_
                              refine z_add (v := v 0 (84 + n) + nI 1) hx hb dX4_compacts_309 rfl ?_
                              refine z_iast (n := 511) (f := upd (upd F4 (4 + n) (nI 0)) (44 + n) (nI 0)) (w2 := modW G a (mrow (mrow (mrow v 0 (upd (upd (upd F4 (4 + n) (nI 0)) (44 + n) (nI 0)) (84 + n) (v 0 (84 + n) + nI 1))) 4 g) 5 B) (nup y 2 (cntA (v 0)))) hx hb hKK hP hD hS 1 rfl (by omega) (by decide) rfl dX4_compacts_310 (fun H locs hP hD hS => ?_)
                              refine lv_iinc (v := nI (n + 1)) (lv' := [(4, .int (nI (n + 1))), (0, .ref (a 0)), (1, .int (nI ρ)), (2, .int (nI 142)), (3, .int (nI (mvdA (v 0) ρ)))]) hx hb dX4_compacts_311 hl (k := 4) rfl (nI_1 _) (by decide) rfl (fun ls hl => ?_)
                              refine lv_goto (tgt := 195) hx hb dX4_compacts_314 (by decide) ?_
                              have hx1 : nI 0 = nmA (v 0) g (cntA (v 0)) n := (by rw [nmA, if_neg (by omega)])
                              exact ih_8 (n + 1) _ (by omega) (c4_s hc (by omega) hx1 (by rw [usA, if_neg (by omega)]) (by rw [yrA, ← hx1, if_neg c_20])) (by omega) _ _ _ hP hD hS (lv_sub hl [1, 2, 3, 4, 0] rfl)
                          · skip
                            obtain ⟨j, hj, hj0, hje⟩ := hs.1 n (by omega)
                            refine lv_aload_n hx hb dX4_compacts_219 rfl (lv_at hl 0 rfl) ?_
                            refine va_get (D := G.1) (ci := 4) (v := .ref (a 6)) (C := RX4) (T := TX4) (N := 17) hx hb hts hinX4 hown hKK.1 hP 0 rfl rfl 7 (by decide) fl_25 (fun _ h9 => h9) rfl dX4_compacts_220 ?_
                            refine lv_aload_n hx hb dX4_compacts_223 rfl (lv_at hl 0 rfl) ?_
                            refine va_get (D := G.1) (ci := 4) (v := .ref (a 5)) (C := RX4) (T := TX4) (N := 17) hx hb hts hinX4 hown hKK.1 hP 0 rfl rfl 6 (by decide) fl_22 (fun _ h9 => h9) rfl dX4_compacts_224 ?_
                            refine lv_iload hx hb dX4_compacts_227 (lv_at hl 4 rfl) ?_
                            refine z_iald (n := 40) (f := g) (v := g n) hx hb hKK hP 5 rfl (by omega) (by decide) rfl dX4_compacts_229 ?_
                            refine z_top (v := nI j) hje ?_
                            refine z_iald (n := 80) (f := B) (v := v 0 (4 + j)) hx hb hKK hP 6 rfl (by omega) (by decide) (hc2.2.2.2 j hj).1 dX4_compacts_230 ?_
                            refine lv_goto (tgt := 235) hx hb dX4_compacts_231 (by decide) ?_
                            refine z_iast (n := 511) (f := F4) (w2 := modW G a (mrow (mrow (mrow v 0 (upd F4 (4 + n) (v 0 (4 + j)))) 4 g) 5 B) (nup y 2 (cntA (v 0)))) hx hb hKK hP hD hS 1 rfl (by omega) (by decide) rfl dX4_compacts_235 (fun H locs hP hD hS => ?_)
                            refine lv_aload_n hx hb dX4_compacts_236 rfl (lv_at hl 0 rfl) ?_
                            refine va_get (D := G.1) (ci := 4) (v := .ref (a 1)) (C := RX4) (T := TX4) (N := 17) hx hb hts hinX4 hown hKK.1 hP 0 rfl rfl 0 (by decide) fl_7 (fun _ h9 => h9) rfl dX4_compacts_237 ?_
                            refine lv_bipush (v := nI 44) hx hb dX4_compacts_240 (by decide) ?_
                            refine lv_iload hx hb dX4_compacts_242 (lv_at hl 4 rfl) ?_
                            refine z_add (v := nI (44 + n)) hx hb dX4_compacts_244 (nI_add _ _) ?_
                            refine lv_iload hx hb dX4_compacts_245 (lv_at hl 4 rfl) ?_
                            refine lv_aload_n hx hb dX4_compacts_247 rfl (lv_at hl 0 rfl) ?_
                            refine va_get (D := G.1) (ci := 4) (v := .int (nI (cntA (v 0)))) (C := RX4) (T := TX4) (N := 17) hx hb hts hinX4 hown hKK.1 hP 0 rfl rfl 8 (by decide) fl_103 (fun _ h9 => h9) rfl dX4_compacts_248 ?_
                            refine z_ge (tgt := 272) hx hb dX4_compacts_251 (by decide) (by omega) (by omega) (fun c_21 => absurd c_21 (by omega)) (fun c_21 => ?_)
                            refine lv_aload_n hx hb dX4_compacts_254 rfl (lv_at hl 0 rfl) ?_
                            refine va_get (D := G.1) (ci := 4) (v := .ref (a 6)) (C := RX4) (T := TX4) (N := 17) hx hb hts hinX4 hown hKK.1 hP 0 rfl rfl 7 (by decide) fl_25 (fun _ h9 => h9) rfl dX4_compacts_255 ?_
                            refine lv_bipush (v := nI 40) hx hb dX4_compacts_258 (by decide) ?_
                            refine lv_aload_n hx hb dX4_compacts_260 rfl (lv_at hl 0 rfl) ?_
                            refine va_get (D := G.1) (ci := 4) (v := .ref (a 5)) (C := RX4) (T := TX4) (N := 17) hx hb hts hinX4 hown hKK.1 hP 0 rfl rfl 6 (by decide) fl_22 (fun _ h9 => h9) rfl dX4_compacts_261 ?_
                            refine lv_iload hx hb dX4_compacts_264 (lv_at hl 4 rfl) ?_
                            refine z_iald (n := 40) (f := g) (v := g n) hx hb hKK hP 5 rfl (by omega) (by decide) rfl dX4_compacts_266 ?_
                            refine z_top (v := nI j) hje ?_
                            refine z_add (v := nI (40 + j)) hx hb dX4_compacts_267 (nI_add _ _) ?_
                            refine z_iald (n := 80) (f := B) (v := v 0 (44 + j)) hx hb hKK hP 6 rfl (by omega) (by decide) (hc2.2.2.2 j hj).2 dX4_compacts_268 ?_
                            refine lv_goto (tgt := 273) hx hb dX4_compacts_269 (by decide) ?_
                            refine z_iast (n := 511) (f := upd F4 (4 + n) (v 0 (4 + j))) (w2 := modW G a (mrow (mrow (mrow v 0 (upd (upd F4 (4 + n) (v 0 (4 + j))) (44 + n) (v 0 (44 + j)))) 4 g) 5 B) (nup y 2 (cntA (v 0)))) hx hb hKK hP hD hS 1 rfl (by omega) (by decide) rfl dX4_compacts_273 (fun H locs hP hD hS => ?_)
                            refine lv_aload_n hx hb dX4_compacts_274 rfl (lv_at hl 0 rfl) ?_
                            refine va_get (D := G.1) (ci := 4) (v := .ref (a 1)) (C := RX4) (T := TX4) (N := 17) hx hb hts hinX4 hown hKK.1 hP 0 rfl rfl 0 (by decide) fl_7 (fun _ h9 => h9) rfl dX4_compacts_275 ?_
                            refine lv_bipush (v := nI 84) hx hb dX4_compacts_278 (by decide) ?_
                            refine lv_iload hx hb dX4_compacts_280 (lv_at hl 4 rfl) ?_
                            refine z_add (v := nI (84 + n)) hx hb dX4_compacts_282 (nI_add _ _) ?_
                            refine lv_dup2_11 hx hb dX4_compacts_283 rfl rfl ?_
                            refine z_iald (n := 511) (f := upd (upd F4 (4 + n) (v 0 (4 + j))) (44 + n) (v 0 (44 + j))) (v := v 0 (84 + n)) hx hb hKK hP 1 rfl (by omega) (by decide) ((pk_un (by omega)).trans ((pk_un (by omega)).trans (by rw [hc.2 _ (by omega) (by omega) (by omega), hc3.2 _ (by omega), c2_rd hc2 (by omega)]))) dX4_compacts_284 ?_
                            refine lv_aload_n hx hb dX4_compacts_285 rfl (lv_at hl 0 rfl) ?_
                            refine va_get (D := G.1) (ci := 4) (v := .ref (a 1)) (C := RX4) (T := TX4) (N := 17) hx hb hts hinX4 hown hKK.1 hP 0 rfl rfl 0 (by decide) fl_7 (fun _ h9 => h9) rfl dX4_compacts_286 ?_
                            refine lv_iconst (v := nI 4) hx hb dX4_compacts_289 (by decide) ?_
                            refine lv_iload hx hb dX4_compacts_290 (lv_at hl 4 rfl) ?_
                            refine z_add (v := nI (4 + n)) hx hb dX4_compacts_292 (nI_add _ _) ?_
                            refine z_iald (n := 511) (f := upd (upd F4 (4 + n) (v 0 (4 + j))) (44 + n) (v 0 (44 + j))) (v := v 0 (4 + j)) hx hb hKK hP 1 rfl (by omega) (by decide) ((pk_un (by omega)).trans pk_us) dX4_compacts_293 ?_
                            refine lv_aload_n hx hb dX4_compacts_294 rfl (lv_at hl 0 rfl) ?_
                            refine va_get (D := G.1) (ci := 4) (v := .ref (a 6)) (C := RX4) (T := TX4) (N := 17) hx hb hts hinX4 hown hKK.1 hP 0 rfl rfl 7 (by decide) fl_25 (fun _ h9 => h9) rfl dX4_compacts_295 ?_
                            refine lv_iload hx hb dX4_compacts_298 (lv_at hl 4 rfl) ?_
                            refine z_iald (n := 80) (f := B) (v := v 0 (4 + n)) hx hb hKK hP 6 rfl (by omega) (by decide) (hc2.2.2.2 n (by omega)).1 dX4_compacts_300 ?_
                            refine lv_icmp_eq (tgt := 308) hx hb dX4_compacts_301 (by decide) (fun c_22 => ?_) (fun c_22 => ?_)
                            · skip
                              refine lv_iconst (v := nI 0) hx hb dX4_compacts_308 (by decide) ?_
                              refine z_add (v := v 0 (84 + n)) hx hb dX4_compacts_309 (z_add0 _) ?_
                              refine z_iast (n := 511) (f := upd (upd F4 (4 + n) (v 0 (4 + j))) (44 + n) (v 0 (44 + j))) (w2 := modW G a (mrow (mrow (mrow v 0 (upd (upd (upd F4 (4 + n) (v 0 (4 + j))) (44 + n) (v 0 (44 + j))) (84 + n) (v 0 (84 + n)))) 4 g) 5 B) (nup y 2 (cntA (v 0)))) hx hb hKK hP hD hS 1 rfl (by omega) (by decide) rfl dX4_compacts_310 (fun H locs hP hD hS => ?_)
                              refine lv_iinc (v := nI (n + 1)) (lv' := [(4, .int (nI (n + 1))), (0, .ref (a 0)), (1, .int (nI ρ)), (2, .int (nI 142)), (3, .int (nI (mvdA (v 0) ρ)))]) hx hb dX4_compacts_311 hl (k := 4) rfl (nI_1 _) (by decide) rfl (fun ls hl => ?_)
                              refine lv_goto (tgt := 195) hx hb dX4_compacts_314 (by decide) ?_
                              have hx1 : v 0 (4 + j) = nmA (v 0) g (cntA (v 0)) n := (by rw [nmA, if_pos (by omega), hje, nI_clamp (by omega)])
                              exact ih_8 (n + 1) _ (by omega) (c4_s hc (by omega) hx1 (by rw [usA, if_pos (by omega), hje, nI_clamp (by omega)]) (by rw [yrA, ← hx1, if_pos c_22])) (by omega) _ _ _ hP hD hS (lv_sub hl [1, 2, 3, 4, 0] rfl)
                            · skip
                              refine lv_iconst (v := nI 1) hx hb dX4_compacts_304 (by decide) ?_
                              refine lv_goto (tgt := 309) hx hb dX4_compacts_305 (by decide) ?_
                              refine z_add (v := v 0 (84 + n) + nI 1) hx hb dX4_compacts_309 rfl ?_
                              refine z_iast (n := 511) (f := upd (upd F4 (4 + n) (v 0 (4 + j))) (44 + n) (v 0 (44 + j))) (w2 := modW G a (mrow (mrow (mrow v 0 (upd (upd (upd F4 (4 + n) (v 0 (4 + j))) (44 + n) (v 0 (44 + j))) (84 + n) (v 0 (84 + n) + nI 1))) 4 g) 5 B) (nup y 2 (cntA (v 0)))) hx hb hKK hP hD hS 1 rfl (by omega) (by decide) rfl dX4_compacts_310 (fun H locs hP hD hS => ?_)
                              refine lv_iinc (v := nI (n + 1)) (lv' := [(4, .int (nI (n + 1))), (0, .ref (a 0)), (1, .int (nI ρ)), (2, .int (nI 142)), (3, .int (nI (mvdA (v 0) ρ)))]) hx hb dX4_compacts_311 hl (k := 4) rfl (nI_1 _) (by decide) rfl (fun ls hl => ?_)
                              refine lv_goto (tgt := 195) hx hb dX4_compacts_314 (by decide) ?_
                              have hx1 : v 0 (4 + j) = nmA (v 0) g (cntA (v 0)) n := (by rw [nmA, if_pos (by omega), hje, nI_clamp (by omega)])
                              exact ih_8 (n + 1) _ (by omega) (c4_s hc (by omega) hx1 (by rw [usA, if_pos (by omega), hje, nI_clamp (by omega)]) (by rw [yrA, ← hx1, if_neg c_22])) (by omega) _ _ _ hP hD hS (lv_sub hl [1, 2, 3, 4, 0] rfl)
                    exact key_8 _ 0 F3 (by omega) (c4_0 _ _ _ _) (Nat.lt_succ_self _) _ _ _ hP hD hS (lv_sub hl [1, 2, 3, 4, 0] rfl)
                  · skip
                    obtain ⟨j, hj, hj0, hje⟩ := hs.1 k (by omega)
                    refine lv_aload_n hx hb dX4_compacts_147 rfl (lv_at hl 0 rfl) ?_
                    refine va_get (D := G.1) (ci := 4) (v := .ref (a 1)) (C := RX4) (T := TX4) (N := 17) hx hb hts hinX4 hown hKK.1 hP 0 rfl rfl 0 (by decide) fl_7 (fun _ h9 => h9) rfl dX4_compacts_148 ?_
                    refine lv_iload_n hx hb dX4_compacts_151 rfl (lv_at hl 2 rfl) ?_
                    refine lv_bipush (v := nI 43) hx hb dX4_compacts_152 (by decide) ?_
                    refine z_add (v := nI 185) hx hb dX4_compacts_154 (nI_add _ _) ?_
                    refine lv_aload_n hx hb dX4_compacts_155 rfl (lv_at hl 0 rfl) ?_
                    refine va_get (D := G.1) (ci := 4) (v := .ref (a 5)) (C := RX4) (T := TX4) (N := 17) hx hb hts hinX4 hown hKK.1 hP 0 rfl rfl 6 (by decide) fl_22 (fun _ h9 => h9) rfl dX4_compacts_156 ?_
                    refine lv_iload hx hb dX4_compacts_159 (lv_at hl 4 rfl) ?_
                    refine z_iald (n := 40) (f := g) (v := g k) hx hb hKK hP 5 rfl (by omega) (by decide) rfl dX4_compacts_161 ?_
                    refine z_top (v := nI j) hje ?_
                    refine z_add (v := nI (185 + j)) hx hb dX4_compacts_162 (nI_add _ _) ?_
                    refine lv_iload hx hb dX4_compacts_163 (lv_at hl 4 rfl) ?_
                    refine z_iast (n := 511) (f := F3) (w2 := modW G a (mrow (mrow (mrow v 0 (upd F3 (185 + j) (nI k))) 4 g) 5 B) (nup y 2 (cntA (v 0)))) hx hb hKK hP hD hS 1 rfl (by omega) (by decide) rfl dX4_compacts_165 (fun H locs hP hD hS => ?_)
                    refine lv_iload_n hx hb dX4_compacts_166 rfl (lv_at hl 3 rfl) ?_
                    refine lv_aload_n hx hb dX4_compacts_167 rfl (lv_at hl 0 rfl) ?_
                    refine va_get (D := G.1) (ci := 4) (v := .ref (a 5)) (C := RX4) (T := TX4) (N := 17) hx hb hts hinX4 hown hKK.1 hP 0 rfl rfl 6 (by decide) fl_22 (fun _ h9 => h9) rfl dX4_compacts_168 ?_
                    refine lv_iload hx hb dX4_compacts_171 (lv_at hl 4 rfl) ?_
                    refine z_iald (n := 40) (f := g) (v := g k) hx hb hKK hP 5 rfl (by omega) (by decide) rfl dX4_compacts_173 ?_
                    refine z_top (v := nI j) hje ?_
                    refine lv_iload hx hb dX4_compacts_174 (lv_at hl 4 rfl) ?_
                    refine z_eq (tgt := 183) hx hb dX4_compacts_176 (by decide) (by omega) (by omega) (fun c_23 => ?_) (fun c_23 => ?_)
                    · skip
                      refine lv_iconst (v := nI 0) hx hb dX4_compacts_183 (by decide) ?_
                      refine z_add (v := nI (fb_ct (fun k => decide (¬ g k = nI k)) (k + 1))) hx hb dX4_compacts_184 (by rw [fb_ct_f (p := (fun k => decide (¬ g k = nI k))) (n := k) (decide_eq_false (fun z => z (hje.trans (by rw [c_23]))))]; exact nI_add _ 0) ?_
                      refine lv_istore_n (lv' := [(3, .int (nI (fb_ct (fun k => decide (¬ g k = nI k)) (k + 1)))), (0, .ref (a 0)), (1, .int (nI ρ)), (2, .int (nI 142)), (4, .int (nI k))]) hx hb dX4_compacts_185 rfl hl (by decide) rfl (fun ls hl => ?_)
                      refine lv_iinc (v := nI (k + 1)) (lv' := [(4, .int (nI (k + 1))), (3, .int (nI (fb_ct (fun k => decide (¬ g k = nI k)) (k + 1)))), (0, .ref (a 0)), (1, .int (nI ρ)), (2, .int (nI 142))]) hx hb dX4_compacts_186 hl (k := 4) rfl (nI_1 _) (by decide) rfl (fun ls hl => ?_)
                      refine lv_goto (tgt := 138) hx hb dX4_compacts_189 (by decide) ?_
                      exact ih_6 (k + 1) _ (by omega) (c3_s hs hc (by omega) hj hj0 hje) (by omega) _ _ _ hP hD hS (lv_sub hl [2, 3, 4, 1, 0] rfl)
                    · skip
                      refine lv_iconst (v := nI 1) hx hb dX4_compacts_179 (by decide) ?_
                      refine lv_goto (tgt := 184) hx hb dX4_compacts_180 (by decide) ?_
                      refine z_add (v := nI (fb_ct (fun k => decide (¬ g k = nI k)) (k + 1))) hx hb dX4_compacts_184 (by rw [fb_ct_t (p := (fun k => decide (¬ g k = nI k))) (n := k) (decide_eq_true (fun z => c_23 (nI_inj (by omega) (by omega) (hje.symm.trans z))))]; exact nI_1 _) ?_
                      refine lv_istore_n (lv' := [(3, .int (nI (fb_ct (fun k => decide (¬ g k = nI k)) (k + 1)))), (0, .ref (a 0)), (1, .int (nI ρ)), (2, .int (nI 142)), (4, .int (nI k))]) hx hb dX4_compacts_185 rfl hl (by decide) rfl (fun ls hl => ?_)
                      refine lv_iinc (v := nI (k + 1)) (lv' := [(4, .int (nI (k + 1))), (3, .int (nI (fb_ct (fun k => decide (¬ g k = nI k)) (k + 1)))), (0, .ref (a 0)), (1, .int (nI ρ)), (2, .int (nI 142))]) hx hb dX4_compacts_186 hl (k := 4) rfl (nI_1 _) (by decide) rfl (fun ls hl => ?_)
                      refine lv_goto (tgt := 138) hx hb dX4_compacts_189 (by decide) ?_
                      exact ih_6 (k + 1) _ (by omega) (c3_s hs hc (by omega) hj hj0 hje) (by omega) _ _ _ hP hD hS (lv_sub hl [2, 3, 4, 1, 0] rfl)
              exact key_6 _ 0 F2 (by omega) (c3_0 hc2) (Nat.lt_succ_self _) _ _ _ hP hD hS (lv_sub hl [2, 3, 4, 1, 0] rfl)
            · skip
              refine lv_aload_n hx hb dX4_compacts_52 rfl (lv_at hl 0 rfl) ?_
              refine va_get (D := G.1) (ci := 4) (v := .ref (a 6)) (C := RX4) (T := TX4) (N := 17) hx hb hts hinX4 hown hKK.1 hP 0 rfl rfl 7 (by decide) fl_25 (fun _ h9 => h9) rfl dX4_compacts_53 ?_
              refine lv_iload_n hx hb dX4_compacts_56 rfl (lv_at hl 3 rfl) ?_
              refine lv_aload_n hx hb dX4_compacts_57 rfl (lv_at hl 0 rfl) ?_
              refine va_get (D := G.1) (ci := 4) (v := .ref (a 1)) (C := RX4) (T := TX4) (N := 17) hx hb hts hinX4 hown hKK.1 hP 0 rfl rfl 0 (by decide) fl_7 (fun _ h9 => h9) rfl dX4_compacts_58 ?_
              refine lv_iconst (v := nI 4) hx hb dX4_compacts_61 (by decide) ?_
              refine lv_iload_n hx hb dX4_compacts_62 rfl (lv_at hl 3 rfl) ?_
              refine z_add (v := nI (4 + n)) hx hb dX4_compacts_63 (nI_add _ _) ?_
              refine z_iald (n := 511) (f := F2) (v := v 0 (4 + n)) hx hb hKK hP 1 rfl (by omega) (by decide) (c2_rd hc (by omega)) dX4_compacts_64 ?_
              refine z_iast (n := 80) (f := B) (w2 := modW G a (mrow (mrow (mrow v 0 F2) 4 g) 5 (upd B n (v 0 (4 + n)))) (nup y 2 (cntA (v 0)))) hx hb hKK hP hD hS 6 rfl (by omega) (by decide) rfl dX4_compacts_65 (fun H locs hP hD hS => ?_)
              refine lv_aload_n hx hb dX4_compacts_66 rfl (lv_at hl 0 rfl) ?_
              refine va_get (D := G.1) (ci := 4) (v := .ref (a 6)) (C := RX4) (T := TX4) (N := 17) hx hb hts hinX4 hown hKK.1 hP 0 rfl rfl 7 (by decide) fl_25 (fun _ h9 => h9) rfl dX4_compacts_67 ?_
              refine lv_bipush (v := nI 40) hx hb dX4_compacts_70 (by decide) ?_
              refine lv_iload_n hx hb dX4_compacts_72 rfl (lv_at hl 3 rfl) ?_
              refine z_add (v := nI (40 + n)) hx hb dX4_compacts_73 (nI_add _ _) ?_
              refine lv_aload_n hx hb dX4_compacts_74 rfl (lv_at hl 0 rfl) ?_
              refine va_get (D := G.1) (ci := 4) (v := .ref (a 1)) (C := RX4) (T := TX4) (N := 17) hx hb hts hinX4 hown hKK.1 hP 0 rfl rfl 0 (by decide) fl_7 (fun _ h9 => h9) rfl dX4_compacts_75 ?_
              refine lv_bipush (v := nI 44) hx hb dX4_compacts_78 (by decide) ?_
              refine lv_iload_n hx hb dX4_compacts_80 rfl (lv_at hl 3 rfl) ?_
              refine z_add (v := nI (44 + n)) hx hb dX4_compacts_81 (nI_add _ _) ?_
              refine z_iald (n := 511) (f := F2) (v := v 0 (44 + n)) hx hb hKK hP 1 rfl (by omega) (by decide) (c2_rd hc (by omega)) dX4_compacts_82 ?_
              refine z_iast (n := 80) (f := upd B n (v 0 (4 + n))) (w2 := modW G a (mrow (mrow (mrow v 0 F2) 4 g) 5 (upd (upd B n (v 0 (4 + n))) (40 + n) (v 0 (44 + n)))) (nup y 2 (cntA (v 0)))) hx hb hKK hP hD hS 6 rfl (by omega) (by decide) rfl dX4_compacts_83 (fun H locs hP hD hS => ?_)
              refine lv_aload_n hx hb dX4_compacts_84 rfl (lv_at hl 0 rfl) ?_
              refine va_get (D := G.1) (ci := 4) (v := .ref (a 1)) (C := RX4) (T := TX4) (N := 17) hx hb hts hinX4 hown hKK.1 hP 0 rfl rfl 0 (by decide) fl_7 (fun _ h9 => h9) rfl dX4_compacts_85 ?_
              refine lv_iload_n hx hb dX4_compacts_88 rfl (lv_at hl 2 rfl) ?_
              refine lv_iconst (v := nI 3) hx hb dX4_compacts_89 (by decide) ?_
              refine z_add (v := nI 145) hx hb dX4_compacts_90 (nI_add _ _) ?_
              refine lv_iload_n hx hb dX4_compacts_91 rfl (lv_at hl 3 rfl) ?_
              refine z_add (v := nI (145 + n)) hx hb dX4_compacts_92 (nI_add _ _) ?_
              refine lv_aload_n hx hb dX4_compacts_93 rfl (lv_at hl 0 rfl) ?_
              refine lv_iload_n hx hb dX4_compacts_94 rfl (lv_at hl 3 rfl) ?_
              refine z_callVI (As := [.int (nI n)]) (rest := [.int (nI (145 + n)), .ref (a 1)]) (wr := []) (C := RX4) F (c_X4_isNamed l G a (mrow (mrow (mrow v 0 F2) 4 g) 5 (upd (upd B n (v 0 (4 + n))) (40 + n) (v 0 (44 + n)))) (nup y 2 (cntA (v 0))) (n) (by omega)) (cwV 1 hts gX4_compacts_X4_isNamed rfl rfl rfl (by decide +kernel) ⟨Nat.le_of_ble_eq_true rfl, Nat.le_of_ble_eq_true rfl⟩) hKK (z_recv hKK hP (q0 := 0) (ci := 4) rfl rfl) hP hD hS hA rfl hl.1 rfl (Nat.le_of_ble_eq_true rfl) ⟨Nat.zero_le _, Nat.zero_le _⟩ dX4_compacts_95 (fun H locs hP hD hS => ?_)
              have hP : va_P G.1 vwCl (modW G a (mrow (mrow (mrow v 0 F2) 4 g) 5 (upd (upd B n (v 0 (4 + n))) (40 + n) (v 0 (44 + n)))) (nup y 2 (cntA (v 0)))) H := hP
              have hD : va_D A (modW G a (mrow (mrow (mrow v 0 F2) 4 g) 5 (upd (upd B n (v 0 (4 + n))) (40 + n) (v 0 (44 + n)))) (nup y 2 (cntA (v 0)))) := hD
              refine z_top (v := bI (decide (¬ v 0 (4 + n) = 0))) (congrArg (fun z => bI (decide (¬ z = (0 : Int32)))) (c2_rd hc (show 4 + n < 145 by omega))) ?_
              refine z_ifBeq (tgt := 113) hx hb dX4_compacts_98 (by decide) (fun c_24 => ?_) (fun c_24 => ?_)
              · skip
                refine lv_iconst (v := (-1)) hx hb dX4_compacts_113 (by decide) ?_
                refine z_iast (n := 511) (f := F2) (w2 := modW G a (mrow (mrow (mrow v 0 (upd F2 (145 + n) ((-1)))) 4 g) 5 (upd (upd B n (v 0 (4 + n))) (40 + n) (v 0 (44 + n)))) (nup y 2 (cntA (v 0)))) hx hb hKK hP hD hS 1 rfl (by omega) (by decide) rfl dX4_compacts_114 (fun H locs hP hD hS => ?_)
                refine lv_aload_n hx hb dX4_compacts_115 rfl (lv_at hl 0 rfl) ?_
                refine va_get (D := G.1) (ci := 4) (v := .ref (a 1)) (C := RX4) (T := TX4) (N := 17) hx hb hts hinX4 hown hKK.1 hP 0 rfl rfl 0 (by decide) fl_7 (fun _ h9 => h9) rfl dX4_compacts_116 ?_
                refine lv_iload_n hx hb dX4_compacts_119 rfl (lv_at hl 2 rfl) ?_
                refine lv_bipush (v := nI 43) hx hb dX4_compacts_120 (by decide) ?_
                refine z_add (v := nI 185) hx hb dX4_compacts_122 (nI_add _ _) ?_
                refine lv_iload_n hx hb dX4_compacts_123 rfl (lv_at hl 3 rfl) ?_
                refine z_add (v := nI (185 + n)) hx hb dX4_compacts_124 (nI_add _ _) ?_
                refine lv_iconst (v := (-1)) hx hb dX4_compacts_125 (by decide) ?_
                refine z_iast (n := 511) (f := upd F2 (145 + n) ((-1))) (w2 := modW G a (mrow (mrow (mrow v 0 (upd (upd F2 (145 + n) ((-1))) (185 + n) ((-1)))) 4 g) 5 (upd (upd B n (v 0 (4 + n))) (40 + n) (v 0 (44 + n)))) (nup y 2 (cntA (v 0)))) hx hb hKK hP hD hS 1 rfl (by omega) (by decide) rfl dX4_compacts_126 (fun H locs hP hD hS => ?_)
                refine lv_iinc (v := nI (n + 1)) (lv' := [(3, .int (nI (n + 1))), (0, .ref (a 0)), (1, .int (nI ρ)), (2, .int (nI 142))]) hx hb dX4_compacts_127 hl (k := 3) rfl (nI_1 _) (by decide) rfl (fun ls hl => ?_)
                refine lv_goto (tgt := 46) hx hb dX4_compacts_130 (by decide) ?_
                exact ih_4 (n + 1) _ _ (by omega) (c2_s hc (by omega) (by rw [oldA, if_pos (Classical.not_not.mp (of_decide_eq_false c_24))])) (by omega) _ _ _ hP hD hS (lv_sub hl [1, 2, 3, 0] rfl)
              · skip
                refine lv_aload_n hx hb dX4_compacts_101 rfl (lv_at hl 0 rfl) ?_
                refine va_get (D := G.1) (ci := 4) (v := .ref (a 1)) (C := RX4) (T := TX4) (N := 17) hx hb hts hinX4 hown hKK.1 hP 0 rfl rfl 0 (by decide) fl_7 (fun _ h9 => h9) rfl dX4_compacts_102 ?_
                refine lv_bipush (v := nI 84) hx hb dX4_compacts_105 (by decide) ?_
                refine lv_iload_n hx hb dX4_compacts_107 rfl (lv_at hl 3 rfl) ?_
                refine z_add (v := nI (84 + n)) hx hb dX4_compacts_108 (nI_add _ _) ?_
                refine z_iald (n := 511) (f := F2) (v := v 0 (84 + n)) hx hb hKK hP 1 rfl (by omega) (by decide) (c2_rd hc (by omega)) dX4_compacts_109 ?_
                refine lv_goto (tgt := 114) hx hb dX4_compacts_110 (by decide) ?_
                refine z_iast (n := 511) (f := F2) (w2 := modW G a (mrow (mrow (mrow v 0 (upd F2 (145 + n) (v 0 (84 + n)))) 4 g) 5 (upd (upd B n (v 0 (4 + n))) (40 + n) (v 0 (44 + n)))) (nup y 2 (cntA (v 0)))) hx hb hKK hP hD hS 1 rfl (by omega) (by decide) rfl dX4_compacts_114 (fun H locs hP hD hS => ?_)
                refine lv_aload_n hx hb dX4_compacts_115 rfl (lv_at hl 0 rfl) ?_
                refine va_get (D := G.1) (ci := 4) (v := .ref (a 1)) (C := RX4) (T := TX4) (N := 17) hx hb hts hinX4 hown hKK.1 hP 0 rfl rfl 0 (by decide) fl_7 (fun _ h9 => h9) rfl dX4_compacts_116 ?_
                refine lv_iload_n hx hb dX4_compacts_119 rfl (lv_at hl 2 rfl) ?_
                refine lv_bipush (v := nI 43) hx hb dX4_compacts_120 (by decide) ?_
                refine z_add (v := nI 185) hx hb dX4_compacts_122 (nI_add _ _) ?_
                refine lv_iload_n hx hb dX4_compacts_123 rfl (lv_at hl 3 rfl) ?_
                refine z_add (v := nI (185 + n)) hx hb dX4_compacts_124 (nI_add _ _) ?_
                refine lv_iconst (v := (-1)) hx hb dX4_compacts_125 (by decide) ?_
                refine z_iast (n := 511) (f := upd F2 (145 + n) (v 0 (84 + n))) (w2 := modW G a (mrow (mrow (mrow v 0 (upd (upd F2 (145 + n) (v 0 (84 + n))) (185 + n) ((-1)))) 4 g) 5 (upd (upd B n (v 0 (4 + n))) (40 + n) (v 0 (44 + n)))) (nup y 2 (cntA (v 0)))) hx hb hKK hP hD hS 1 rfl (by omega) (by decide) rfl dX4_compacts_126 (fun H locs hP hD hS => ?_)
                refine lv_iinc (v := nI (n + 1)) (lv' := [(3, .int (nI (n + 1))), (0, .ref (a 0)), (1, .int (nI ρ)), (2, .int (nI 142))]) hx hb dX4_compacts_127 hl (k := 3) rfl (nI_1 _) (by decide) rfl (fun ls hl => ?_)
                refine lv_goto (tgt := 46) hx hb dX4_compacts_130 (by decide) ?_
                exact ih_4 (n + 1) _ _ (by omega) (c2_s hc (by omega) (by rw [oldA, if_neg (of_decide_eq_true c_24)])) (by omega) _ _ _ hP hD hS (lv_sub hl [1, 2, 3, 0] rfl)
        have hk9 : k = 122 := by omega
        rw [hk9] at hP hD
        have es : mrow (mrow v 0 (shD (v 0) 122)) 4 g = mrow (mrow (mrow v 0 (shD (v 0) 122)) 4 g) 5 (v 5) := by exact (mrow_self (mrow (mrow v 0 (shD (v 0) 122)) 4 g) 5).symm
        rw [es] at hP hD
        exact key_4 _ 0 _ (v 5) (by omega) (c2_0 _ _ _) (Nat.lt_succ_self _) _ _ _ hP hD hS (lv_sub hl [1, 2, 3, 0] rfl)
      · skip
        refine lv_aload_n hx hb dX4_compacts_19 rfl (lv_at hl 0 rfl) ?_
        refine va_get (D := G.1) (ci := 4) (v := .ref (a 1)) (C := RX4) (T := TX4) (N := 17) hx hb hts hinX4 hown hKK.1 hP 0 rfl rfl 0 (by decide) fl_7 (fun _ h9 => h9) rfl dX4_compacts_20 ?_
        refine lv_iload_n hx hb dX4_compacts_23 rfl (lv_at hl 2 rfl) ?_
        refine lv_iload_n hx hb dX4_compacts_24 rfl (lv_at hl 3 rfl) ?_
        refine z_add (v := nI (142 + k)) hx hb dX4_compacts_25 (nI_add _ _) ?_
        refine lv_aload_n hx hb dX4_compacts_26 rfl (lv_at hl 0 rfl) ?_
        refine va_get (D := G.1) (ci := 4) (v := .ref (a 1)) (C := RX4) (T := TX4) (N := 17) hx hb hts hinX4 hown hKK.1 hP 0 rfl rfl 0 (by decide) fl_7 (fun _ h9 => h9) rfl dX4_compacts_27 ?_
        refine lv_iload_n hx hb dX4_compacts_30 rfl (lv_at hl 2 rfl) ?_
        refine lv_iload_n hx hb dX4_compacts_31 rfl (lv_at hl 3 rfl) ?_
        refine z_add (v := nI (142 + k)) hx hb dX4_compacts_32 (nI_add _ _) ?_
        refine lv_bipush (v := nI 123) hx hb dX4_compacts_33 (by decide) ?_
        refine z_sub (v := nI ((142 + k) - 123)) hx hb dX4_compacts_35 (pk_sub (by omega)) ?_
        refine z_iald (n := 511) (f := shD (v 0) k) (v := v 0 (142 + k - 123)) hx hb hKK hP 1 rfl (by omega) (by decide) (shD_rd (by omega)) dX4_compacts_36 ?_
        refine z_iast (n := 511) (f := shD (v 0) k) (w2 := modW G a (mrow (mrow v 0 (upd (shD (v 0) k) (142 + k) (v 0 (142 + k - 123)))) 4 g) (nup y 2 (cntA (v 0)))) hx hb hKK hP hD hS 1 rfl (by omega) (by decide) rfl dX4_compacts_37 (fun H locs hP hD hS => ?_)
        refine lv_iinc (v := nI (k - 1)) (lv' := [(3, .int (nI (k - 1))), (0, .ref (a 0)), (1, .int (nI ρ)), (2, .int (nI 142))]) hx hb dX4_compacts_38 hl (k := 3) rfl (sb_m1 (by omega)) (by decide) rfl (fun ls hl => ?_)
        refine lv_goto (tgt := 13) hx hb dX4_compacts_41 (by decide) ?_
        have es : mrow (mrow v 0 (upd (shD (v 0) k) (142 + k) (v 0 (142 + k - 123)))) 4 g = mrow (mrow v 0 (shD (v 0) (k - 1))) 4 g := by rw [shD_s (by omega) (by omega)]
        rw [es] at hP hD
        exact ih_2 (k - 1) (by omega) (by omega) (by omega) _ _ _ hP hD hS (lv_sub hl [1, 2, 3, 0] rfl)
  have es : mrow v 4 g = mrow (mrow v 0 (shD (v 0) 368)) 4 g := by rw [shD_0, mrow_self]
  rw [es] at hP hD
  exact key_2 _ 368 (by omega) (by omega) (Nat.lt_succ_self _) _ _ _ hP hD hS (lv_sub hl [2, 3, 1, 0] rfl)
