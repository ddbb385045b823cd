set_option maxHeartbeats 4000000 in
set_option maxRecDepth 100000 in
theorem c_X4_ranks (l : Launch) (G : ZG) (a : Nat → Nat) (v : Mem) (y : Nat → Nat) (ρ : Nat) (hρ : ρ ≤ 2) (hN : okNm (rN (v 0))) (hI : injN (rN (v 0))) : CVE l G yX4_ranks wsX4_ranks (zRm 2 44) [.ref (a 0), .int (nI ρ)] (modW G a v y) (S := Nat → Int32) (fun g => srt (rN (v 0)) (rU (v 0)) ρ 40 (fb_ct (pNmd (rN (v 0))) 40) g) (fun g => modW G a (mrow v 4 g) (nup y 2 (fb_ct (pNmd (rN (v 0))) 40))) := by
  refine CVE.ent (cc := cX4_ranks) (maxL := 4) (own := RX4) (by decide) rfl rfl (Nat.le_of_ble_eq_true rfl) ?_
  intro p ee s m args below meth c A ls F hr hlk hKK hP hD hA hS hl
  obtain ⟨hx, hb, hml, hown, hts⟩ := id F
  have hl : lv_has ls 4 [(0, .ref (a 0)), (1, .int (nI ρ))] := hl
  have fl_22 := hts (.fieldLink RX4 22 "NameRollsModel" "ranked" "[I") (by decide +kernel)
  have fl_103 := hts (.fieldLink RX4 103 "NameRollsModel" "named" "I") (by decide +kernel)
  have hinX4 : ∀ w ∈ wsX40, w ∈ wsX4_ranks := by decide +kernel
  refine lv_aload_n hx hb dX4_ranks_0 rfl (lv_at hl 0 rfl) ?_
  refine lv_iconst (v := nI 0) hx hb dX4_ranks_1 (by decide) ?_
  refine z_put (w2 := modW G a v (nup y 2 0)) hx hb hts hinX4 tyX4 tyX4_ok nmX4 hown hKK hP hD hS 0 (ci := 4) (C := RX4) (T := TX4) (N := 17) rfl rfl 8 (by decide) fl_103 rfl rfl rfl (Nat.le_of_ble_eq_true rfl) rfl dX4_ranks_2 (fun H locs hP hD hS => ?_)
  refine lv_iconst (v := nI 0) hx hb dX4_ranks_5 (by decide) ?_
  refine lv_istore_n (lv' := [(2, .int (nI 0)), (0, .ref (a 0)), (1, .int (nI ρ))]) hx hb dX4_ranks_6 rfl hl (by decide) rfl (fun ls hl => ?_)
  have key_1 : ∀ (nn : Nat) (i : Nat) (g : Nat → Int32), i ≤ 40 → srt (rN (v 0)) (rU (v 0)) ρ i (fb_ct (pNmd (rN (v 0))) i) g → 40 - i < nn → ∀ (H : Heap) (locs : List Loc) (ls : Array Slot), va_P G.1 vwCl (modW G a (mrow v 4 g) (nup y 2 (fb_ct (pNmd (rN (v 0))) i))) H → va_D A (modW G a (mrow v 4 g) (nup y 2 (fb_ct (pNmd (rN (v 0))) i))) → va_S A s.heap H locs → lv_has ls 4 [(0, .ref (a 0)), (1, .int (nI ρ)), (2, .int (nI i))] → W p l ee (zRm 2 44) s m args below meth c H locs 0 0 (MQ below (ZQve G A (S := Nat → Int32) (fun g => srt (rN (v 0)) (rU (v 0)) ρ 40 (fb_ct (pNmd (rN (v 0))) 40) g) (fun g => modW G a (mrow v 4 g) (nup y 2 (fb_ct (pNmd (rN (v 0))) 40)))) args s 0 0 A) (F0 m 7 ls []) := by
    intro nn
    induction nn with
    | zero => intro i g _ _ hm; exact absurd hm (Nat.not_lt_zero _)
    | succ nn ih_1 =>
      intro i g hi hs hm H locs ls hP hD hS hl
      have hM : fb_ct (pNmd (rN (v 0))) i ≤ i := fb_ct_le _ _
      refine lv_iload_n hx hb dX4_ranks_7 rfl (lv_at hl 2 rfl) ?_
      refine lv_bipush (v := nI 40) hx hb dX4_ranks_8 (by decide) ?_
      refine z_ge (tgt := 90) hx hb dX4_ranks_10 (by decide) (by omega) (by omega) (fun c_2 => ?_) (fun c_2 => ?_)
      · skip
        have hi9 : i = 40 := by omega
        rw [hi9] at hP hD hs
        exact z_vretE g hx hb hr hlk hP hD hS dX4_ranks_90 hs
      · skip
        have hi40 := c_2
        refine lv_aload_n hx hb dX4_ranks_13 rfl (lv_at hl 0 rfl) ?_
        refine lv_iload_n hx hb dX4_ranks_14 rfl (lv_at hl 2 rfl) ?_
        refine z_callVI (As := [.int (nI i)]) (rest := []) (wr := []) (C := RX4) F (c_X4_isNamed l G a (mrow v 4 g) (nup y 2 (fb_ct (pNmd (rN (v 0))) i)) (i) (by omega)) (cwV 1 hts gX4_ranks_X4_isNamed rfl rfl rfl (by decide +kernel) ⟨Nat.le_of_ble_eq_true rfl, Nat.le_of_ble_eq_true rfl⟩) hKK (z_recv hKK hP (q0 := 0) (ci := 4) rfl rfl) hP hD hS hA rfl hl.1 rfl (Nat.le_of_ble_eq_true rfl) ⟨Nat.zero_le _, Nat.zero_le _⟩ dX4_ranks_15 (fun H locs hP hD hS => ?_)
        have hP : va_P G.1 vwCl (modW G a (mrow v 4 g) (nup y 2 (fb_ct (pNmd (rN (v 0))) i))) H := hP
        have hD : va_D A (modW G a (mrow v 4 g) (nup y 2 (fb_ct (pNmd (rN (v 0))) i))) := hD
        refine z_ifBeq (tgt := 84) hx hb dX4_ranks_18 (by decide) (fun c_3 => ?_) (fun c_3 => ?_)
        · skip
          refine lv_iinc (v := nI (i + 1)) (lv' := [(2, .int (nI (i + 1))), (0, .ref (a 0)), (1, .int (nI ρ))]) hx hb dX4_ranks_84 hl (k := 2) rfl (nI_1 _) (by decide) rfl (fun ls hl => ?_)
          refine lv_goto (tgt := 7) hx hb dX4_ranks_87 (by decide) ?_
          have hz0 : rN (v 0) i = 0 := Classical.not_not.mp (of_decide_eq_false c_3)
          have es : fb_ct (pNmd (rN (v 0))) i = fb_ct (pNmd (rN (v 0))) (i + 1) := (fb_ct_f (p := pNmd (rN (v 0))) (n := i) c_3).symm
          rw [es] at hP hD
          exact ih_1 (i + 1) g (by omega) (by rw [← es]; exact srt_skip hs hz0) (by omega) _ _ _ hP hD hS (lv_sub hl [1, 2, 0] rfl)
        · skip
          have hi0 : ¬ rN (v 0) i = 0 := of_decide_eq_true c_3
          refine lv_aload_n hx hb dX4_ranks_21 rfl (lv_at hl 0 rfl) ?_
          refine va_get (D := G.1) (ci := 4) (v := .int (nI (fb_ct (pNmd (rN (v 0))) i))) (C := RX4) (T := TX4) (N := 17) hx hb hts hinX4 hown hKK.1 hP 0 rfl rfl 8 (by decide) fl_103 (fun _ h9 => h9) rfl dX4_ranks_22 ?_
          refine lv_istore_n (lv' := [(3, .int (nI (fb_ct (pNmd (rN (v 0))) i))), (0, .ref (a 0)), (1, .int (nI ρ)), (2, .int (nI i))]) hx hb dX4_ranks_25 rfl hl (by decide) rfl (fun ls hl => ?_)
          have key_4 : ∀ (nn : Nat) (t : Nat), t ≤ fb_ct (pNmd (rN (v 0))) i → (∀ k j, t ≤ k → k < fb_ct (pNmd (rN (v 0))) i → g k = nI j → j < 40 → zAh (rN (v 0)) (rU (v 0)) ρ i j = true) → t < nn → ∀ (H : Heap) (locs : List Loc) (ls : Array Slot), va_P G.1 vwCl (modW G a (mrow v 4 (shG g t (fb_ct (pNmd (rN (v 0))) i))) (nup y 2 (fb_ct (pNmd (rN (v 0))) i))) H → va_D A (modW G a (mrow v 4 (shG g t (fb_ct (pNmd (rN (v 0))) i))) (nup y 2 (fb_ct (pNmd (rN (v 0))) i))) → va_S A s.heap H locs → lv_has ls 4 [(0, .ref (a 0)), (1, .int (nI ρ)), (2, .int (nI i)), (3, .int (nI t))] → W p l ee (zRm 2 44) s m args below meth c H locs 0 0 (MQ below (ZQve G A (S := Nat → Int32) (fun g => srt (rN (v 0)) (rU (v 0)) ρ 40 (fb_ct (pNmd (rN (v 0))) 40) g) (fun g => modW G a (mrow v 4 g) (nup y 2 (fb_ct (pNmd (rN (v 0))) 40)))) args s 0 0 A) (F0 m 26 ls []) := by
            intro nn
            induction nn with
            | zero => intro t _ _ hm; exact absurd hm (Nat.not_lt_zero _)
            | succ nn ih_4 =>
              intro t ht hall hm H locs ls hP hD hS hl
              refine lv_iload_n hx hb dX4_ranks_26 rfl (lv_at hl 3 rfl) ?_
              refine z_ifNle (tgt := 67) hx hb dX4_ranks_27 (by decide) (by omega) (fun c_5 => ?_) (fun c_5 => ?_)
              · skip
                refine lv_aload_n hx hb dX4_ranks_67 rfl (lv_at hl 0 rfl) ?_
                refine va_get (D := G.1) (ci := 4) (v := .ref (a 5)) (C := RX4) (T := TX4) (N := 17) hx hb hts hinX4 hown hKK.1 hP 0 rfl rfl 6 (by decide) fl_22 (fun _ h9 => h9) rfl dX4_ranks_68 ?_
                refine lv_iload_n hx hb dX4_ranks_71 rfl (lv_at hl 3 rfl) ?_
                refine lv_iload_n hx hb dX4_ranks_72 rfl (lv_at hl 2 rfl) ?_
                refine z_iast (n := 40) (f := shG g t (fb_ct (pNmd (rN (v 0))) i)) (w2 := modW G a (mrow v 4 (upd (shG g t (fb_ct (pNmd (rN (v 0))) i)) t (nI i))) (nup y 2 (fb_ct (pNmd (rN (v 0))) i))) hx hb hKK hP hD hS 5 rfl (by omega) (by decide) rfl dX4_ranks_73 (fun H locs hP hD hS => ?_)
                refine lv_aload_n hx hb dX4_ranks_74 rfl (lv_at hl 0 rfl) ?_
                refine lv_dup hx hb dX4_ranks_75 rfl ?_
                refine va_get (D := G.1) (ci := 4) (v := .int (nI (fb_ct (pNmd (rN (v 0))) i))) (C := RX4) (T := TX4) (N := 17) hx hb hts hinX4 hown hKK.1 hP 0 rfl rfl 8 (by decide) fl_103 (fun _ h9 => h9) rfl dX4_ranks_76 ?_
                refine lv_iconst (v := nI 1) hx hb dX4_ranks_79 (by decide) ?_
                refine z_add (v := nI ((fb_ct (pNmd (rN (v 0))) i) + 1)) hx hb dX4_ranks_80 (nI_add _ _) ?_
                refine z_put (w2 := modW G a (mrow v 4 (upd (shG g t (fb_ct (pNmd (rN (v 0))) i)) t (nI i))) (nup y 2 ((fb_ct (pNmd (rN (v 0))) i) + 1))) hx hb hts hinX4 tyX4 tyX4_ok nmX4 hown hKK hP hD hS 0 (ci := 4) (C := RX4) (T := TX4) (N := 17) rfl rfl 8 (by decide) fl_103 rfl rfl rfl (Nat.le_of_ble_eq_true rfl) rfl dX4_ranks_81 (fun H locs hP hD hS => ?_)
                refine lv_iinc (v := nI (i + 1)) (lv' := [(2, .int (nI (i + 1))), (0, .ref (a 0)), (1, .int (nI ρ)), (3, .int (nI t))]) hx hb dX4_ranks_84 hl (k := 2) rfl (nI_1 _) (by decide) rfl (fun ls hl => ?_)
                refine lv_goto (tgt := 7) hx hb dX4_ranks_87 (by decide) ?_
                have es : fb_ct (pNmd (rN (v 0))) i + 1 = fb_ct (pNmd (rN (v 0))) (i + 1) := (fb_ct_t (p := pNmd (rN (v 0))) (n := i) (decide_eq_true hi0)).symm
                rw [es] at hP hD
                exact ih_1 (i + 1) (upd (shG g t (fb_ct (pNmd (rN (v 0))) i)) t (nI i)) (by omega) (by rw [← es]; exact srt_ins hI hs hi40 hi0 ht hall (Or.inl (by omega))) (by omega) _ _ _ hP hD hS (lv_sub hl [1, 2, 0] rfl)
              · skip
                refine lv_aload_n hx hb dX4_ranks_30 rfl (lv_at hl 0 rfl) ?_
                refine lv_iload_n hx hb dX4_ranks_31 rfl (lv_at hl 1 rfl) ?_
                refine lv_iload_n hx hb dX4_ranks_32 rfl (lv_at hl 2 rfl) ?_
                refine lv_aload_n hx hb dX4_ranks_33 rfl (lv_at hl 0 rfl) ?_
                refine va_get (D := G.1) (ci := 4) (v := .ref (a 5)) (C := RX4) (T := TX4) (N := 17) hx hb hts hinX4 hown hKK.1 hP 0 rfl rfl 6 (by decide) fl_22 (fun _ h9 => h9) rfl dX4_ranks_34 ?_
                refine lv_iload_n hx hb dX4_ranks_37 rfl (lv_at hl 3 rfl) ?_
                refine lv_iconst (v := nI 1) hx hb dX4_ranks_38 (by decide) ?_
                refine z_sub (v := nI (t - 1)) hx hb dX4_ranks_39 (pk_sub (by omega)) ?_
                obtain ⟨j, hji, hj0, hje⟩ := hs.1 (t - 1) (by omega)
                refine z_iald (n := 40) (f := shG g t (fb_ct (pNmd (rN (v 0))) i)) (v := nI j) hx hb hKK hP 5 rfl (by omega) (by decide) ((shG_lo (by omega)).trans hje) dX4_ranks_40 ?_
                refine z_top (v := nI j) rfl ?_
                refine z_callVI (As := [.int (nI ρ), .int (nI i), .int (nI j)]) (rest := []) (wr := []) (C := RX4) F (c_X4_isAhead l G a (mrow v 4 (shG g t (fb_ct (pNmd (rN (v 0))) i))) (nup y 2 (fb_ct (pNmd (rN (v 0))) i)) (ρ) (i) (j) (by omega) (by omega) (by omega) hN hi0 hj0) (cwV 3 hts gX4_ranks_X4_isAhead rfl rfl rfl (by decide +kernel) ⟨Nat.le_of_ble_eq_true rfl, Nat.le_of_ble_eq_true rfl⟩) hKK (z_recv hKK hP (q0 := 0) (ci := 4) rfl rfl) hP hD hS hA rfl hl.1 rfl (Nat.le_of_ble_eq_true rfl) ⟨Nat.zero_le _, Nat.zero_le _⟩ dX4_ranks_41 (fun H locs hP hD hS => ?_)
                have hP : va_P G.1 vwCl (modW G a (mrow v 4 (shG g t (fb_ct (pNmd (rN (v 0))) i))) (nup y 2 (fb_ct (pNmd (rN (v 0))) i))) H := hP
                have hD : va_D A (modW G a (mrow v 4 (shG g t (fb_ct (pNmd (rN (v 0))) i))) (nup y 2 (fb_ct (pNmd (rN (v 0))) i))) := hD
                refine z_top (v := bI (zAh (rN (v 0)) (rU (v 0)) ρ i j)) rfl ?_
                refine z_ifBeq (tgt := 67) hx hb dX4_ranks_44 (by decide) (fun c_6 => ?_) (fun c_6 => ?_)
                · skip
                  refine lv_aload_n hx hb dX4_ranks_67 rfl (lv_at hl 0 rfl) ?_
                  refine va_get (D := G.1) (ci := 4) (v := .ref (a 5)) (C := RX4) (T := TX4) (N := 17) hx hb hts hinX4 hown hKK.1 hP 0 rfl rfl 6 (by decide) fl_22 (fun _ h9 => h9) rfl dX4_ranks_68 ?_
                  refine lv_iload_n hx hb dX4_ranks_71 rfl (lv_at hl 3 rfl) ?_
                  refine lv_iload_n hx hb dX4_ranks_72 rfl (lv_at hl 2 rfl) ?_
                  refine z_iast (n := 40) (f := shG g t (fb_ct (pNmd (rN (v 0))) i)) (w2 := modW G a (mrow v 4 (upd (shG g t (fb_ct (pNmd (rN (v 0))) i)) t (nI i))) (nup y 2 (fb_ct (pNmd (rN (v 0))) i))) hx hb hKK hP hD hS 5 rfl (by omega) (by decide) rfl dX4_ranks_73 (fun H locs hP hD hS => ?_)
                  refine lv_aload_n hx hb dX4_ranks_74 rfl (lv_at hl 0 rfl) ?_
                  refine lv_dup hx hb dX4_ranks_75 rfl ?_
                  refine va_get (D := G.1) (ci := 4) (v := .int (nI (fb_ct (pNmd (rN (v 0))) i))) (C := RX4) (T := TX4) (N := 17) hx hb hts hinX4 hown hKK.1 hP 0 rfl rfl 8 (by decide) fl_103 (fun _ h9 => h9) rfl dX4_ranks_76 ?_
                  refine lv_iconst (v := nI 1) hx hb dX4_ranks_79 (by decide) ?_
                  refine z_add (v := nI ((fb_ct (pNmd (rN (v 0))) i) + 1)) hx hb dX4_ranks_80 (nI_add _ _) ?_
                  refine z_put (w2 := modW G a (mrow v 4 (upd (shG g t (fb_ct (pNmd (rN (v 0))) i)) t (nI i))) (nup y 2 ((fb_ct (pNmd (rN (v 0))) i) + 1))) hx hb hts hinX4 tyX4 tyX4_ok nmX4 hown hKK hP hD hS 0 (ci := 4) (C := RX4) (T := TX4) (N := 17) rfl rfl 8 (by decide) fl_103 rfl rfl rfl (Nat.le_of_ble_eq_true rfl) rfl dX4_ranks_81 (fun H locs hP hD hS => ?_)
                  refine lv_iinc (v := nI (i + 1)) (lv' := [(2, .int (nI (i + 1))), (0, .ref (a 0)), (1, .int (nI ρ)), (3, .int (nI t))]) hx hb dX4_ranks_84 hl (k := 2) rfl (nI_1 _) (by decide) rfl (fun ls hl => ?_)
                  refine lv_goto (tgt := 7) hx hb dX4_ranks_87 (by decide) ?_
                  have es : fb_ct (pNmd (rN (v 0))) i + 1 = fb_ct (pNmd (rN (v 0))) (i + 1) := (fb_ct_t (p := pNmd (rN (v 0))) (n := i) (decide_eq_true hi0)).symm
                  rw [es] at hP hD
                  exact ih_1 (i + 1) (upd (shG g t (fb_ct (pNmd (rN (v 0))) i)) t (nI i)) (by omega) (by rw [← es]; exact srt_ins hI hs hi40 hi0 ht hall (Or.inr ⟨j, by omega, hje, c_6⟩)) (by omega) _ _ _ hP hD hS (lv_sub hl [1, 2, 0] rfl)
                · skip
                  refine lv_aload_n hx hb dX4_ranks_47 rfl (lv_at hl 0 rfl) ?_
                  refine va_get (D := G.1) (ci := 4) (v := .ref (a 5)) (C := RX4) (T := TX4) (N := 17) hx hb hts hinX4 hown hKK.1 hP 0 rfl rfl 6 (by decide) fl_22 (fun _ h9 => h9) rfl dX4_ranks_48 ?_
                  refine lv_iload_n hx hb dX4_ranks_51 rfl (lv_at hl 3 rfl) ?_
                  refine lv_aload_n hx hb dX4_ranks_52 rfl (lv_at hl 0 rfl) ?_
                  refine va_get (D := G.1) (ci := 4) (v := .ref (a 5)) (C := RX4) (T := TX4) (N := 17) hx hb hts hinX4 hown hKK.1 hP 0 rfl rfl 6 (by decide) fl_22 (fun _ h9 => h9) rfl dX4_ranks_53 ?_
                  refine lv_iload_n hx hb dX4_ranks_56 rfl (lv_at hl 3 rfl) ?_
                  refine lv_iconst (v := nI 1) hx hb dX4_ranks_57 (by decide) ?_
                  refine z_sub (v := nI (t - 1)) hx hb dX4_ranks_58 (pk_sub (by omega)) ?_
                  refine z_iald (n := 40) (f := shG g t (fb_ct (pNmd (rN (v 0))) i)) (v := nI j) hx hb hKK hP 5 rfl (by omega) (by decide) ((shG_lo (by omega)).trans hje) dX4_ranks_59 ?_
                  refine z_top (v := nI j) rfl ?_
                  refine z_iast (n := 40) (f := shG g t (fb_ct (pNmd (rN (v 0))) i)) (w2 := modW G a (mrow v 4 (upd (shG g t (fb_ct (pNmd (rN (v 0))) i)) t (nI j))) (nup y 2 (fb_ct (pNmd (rN (v 0))) i))) hx hb hKK hP hD hS 5 rfl (by omega) (by decide) rfl dX4_ranks_60 (fun H locs hP hD hS => ?_)
                  refine lv_iinc (v := nI (t - 1)) (lv' := [(3, .int (nI (t - 1))), (0, .ref (a 0)), (1, .int (nI ρ)), (2, .int (nI i))]) hx hb dX4_ranks_61 hl (k := 3) rfl (sb_m1 (by omega)) (by decide) rfl (fun ls hl => ?_)
                  refine lv_goto (tgt := 26) hx hb dX4_ranks_64 (by decide) ?_
                  have es : mrow v 4 (upd (shG g t (fb_ct (pNmd (rN (v 0))) i)) t (nI j)) = mrow v 4 (shG g (t - 1) (fb_ct (pNmd (rN (v 0))) i)) := by rw [shG_s (by omega) ht hje]
                  rw [es] at hP hD
                  exact ih_4 (t - 1) (by omega) (hall_s (by omega) (by omega) hje c_6 hall) (by omega) _ _ _ hP hD hS (lv_sub hl [1, 2, 3, 0] rfl)
          have es : mrow v 4 g = mrow v 4 (shG g (fb_ct (pNmd (rN (v 0))) i) (fb_ct (pNmd (rN (v 0))) i)) := by rw [shG_m]
          rw [es] at hP hD
          exact key_4 _ (fb_ct (pNmd (rN (v 0))) i) (Nat.le_refl _) (fun k j h1 h2 => absurd h2 (by omega)) (Nat.lt_succ_self _) _ _ _ hP hD hS (lv_sub hl [1, 2, 3, 0] rfl)
  have es : v = mrow v 4 (v 4) := by exact (mrow_self v 4).symm
  rw [es] at hP hD
  exact key_1 _ 0 (v 4) (by omega) (srt_0 _ _ _ _) (Nat.lt_succ_self _) _ _ _ hP hD hS (lv_sub hl [1, 2, 0] rfl)
