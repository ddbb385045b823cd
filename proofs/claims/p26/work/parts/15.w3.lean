set_option maxHeartbeats 4000000 in
set_option maxRecDepth 100000 in
theorem c_X1_moveCells (l : Launch) (G : ZG) (a : Nat → Nat) (v : Mem) (r : Nat) (hr9 : r ≤ 80) : CV l G yX1_moveCells wsX1_moveCells (zRm 1 21) [.ref (a 0), .int (nI r)] (rollW G a v) (rollW G a (zMvC v r)) := by
  refine CV.ent (cc := cX1_moveCells) (maxL := 3) (own := RX1) (by decide) rfl rfl (Nat.le_of_ble_eq_true rfl) ?_
  intro p ee s m args below meth c A ls F hr hlk hKK hP hD hA hS hl
  obtain ⟨hx, hb, hml, hown, hts⟩ := id F
  have hl : lv_has ls 3 [(0, .ref (a 0)), (1, .int (nI r))] := hl
  have fl_21 := hts (.fieldLink RX1 21 "NameRolls$Roll" "cells" "[I") (by decide +kernel)
  have fl_36 := hts (.fieldLink RX1 36 "NameRolls$Roll" "numbersBehind" "[I") (by decide +kernel)
  have hinX1 : ∀ w ∈ wsX10, w ∈ wsX1_moveCells := by decide +kernel
  have st_X3_isBelow := hts (.static yX3_isBelow) (by decide +kernel)
  have ini_X3 := hts (.initialized RX3) (by decide +kernel)
  refine lv_iconst (v := nI 0) hx hb dX1_moveCells_0 (by decide) ?_
  refine lv_istore_n (lv' := [(2, .int (nI 0)), (0, .ref (a 0)), (1, .int (nI r))]) hx hb dX1_moveCells_1 rfl hl (by decide) rfl (fun ls hl => ?_)
  have key_1 : ∀ (nn : Nat) (i : Nat), i ≤ 18 → 18 - i < nn → ∀ (H : Heap) (locs : List Loc) (ls : Array Slot), va_P G.1 vwCl (rollW G a (mrow v 3 (zMap (v 3) (mvC v r) i))) H → va_D A (rollW G a (mrow v 3 (zMap (v 3) (mvC v r) i))) → va_S A s.heap H locs → lv_has ls 3 [(0, .ref (a 0)), (1, .int (nI r)), (2, .int (nI i))] → W p l ee (zRm 1 21) s m args below meth c H locs 0 0 (MQ below (ZQv G A (rollW G a (zMvC v r))) args s 0 0 A) (F0 m 2 ls []) := by
    intro nn
    induction nn with
    | zero => intro i _ hm; exact absurd hm (Nat.not_lt_zero _)
    | succ nn ih_1 =>
      intro i hi hm H locs ls hP hD hS hl
      refine lv_iload_n hx hb dX1_moveCells_2 rfl (lv_at hl 2 rfl) ?_
      refine lv_aload_n hx hb dX1_moveCells_3 rfl (lv_at hl 0 rfl) ?_
      refine va_get (D := G.1) (ci := 1) (v := .ref (a 4)) (C := RX1) (T := TX1) (N := 15) hx hb hts hinX1 hown hKK.1 hP 0 rfl rfl 3 (by decide) fl_21 (fun _ h9 => h9) rfl dX1_moveCells_4 ?_
      refine z_alen (n := 18) hx hb hKK hP 4 rfl dX1_moveCells_7 ?_
      refine z_ge (tgt := 50) hx hb dX1_moveCells_8 (by decide) (by omega) (by omega) (fun c_2 => ?_) (fun c_2 => ?_)
      · skip
        exact z_vret hx hb hr hlk hP hD hS dX1_moveCells_50 (congrArg (rollW G a) (by rw [show i = 18 by omega]; rfl))
      · skip
        refine lv_aload_n hx hb dX1_moveCells_11 rfl (lv_at hl 0 rfl) ?_
        refine va_get (D := G.1) (ci := 1) (v := .ref (a 4)) (C := RX1) (T := TX1) (N := 15) hx hb hts hinX1 hown hKK.1 hP 0 rfl rfl 3 (by decide) fl_21 (fun _ h9 => h9) rfl dX1_moveCells_12 ?_
        refine lv_iload_n hx hb dX1_moveCells_15 rfl (lv_at hl 2 rfl) ?_
        refine z_iald (n := 18) (f := (mrow v 3 (zMap (v 3) (mvC v r) i)) 3) (v := v 3 i) hx hb hKK hP 4 rfl (by omega) (by decide) (zMap_at _ _ _) dX1_moveCells_16 ?_
        refine lv_bipush (v := nI 40) hx hb dX1_moveCells_17 (by decide) ?_
        refine z_callNI (As := [.int (v 3 i), .int (nI 40)]) (rest := []) F (c_X3_isBelow l G (v 3 i) (40) (by omega)) ⟨va_cnB 2 hts gX1_moveCells_X3_isBelow_n70 rfl rfl rfl hKK.2.1 ini_X3 (by decide +kernel) ⟨Nat.le_of_ble_eq_true rfl, Nat.le_of_ble_eq_true rfl⟩, st_X3_isBelow, trivial⟩ hKK hP hD hS hA rfl hl.1 rfl (Nat.le_of_ble_eq_true rfl) ⟨Nat.zero_le _, Nat.zero_le _⟩ dX1_moveCells_19 (fun H locs hP hD hS => ?_)
        refine z_ifBeq (tgt := 44) hx hb dX1_moveCells_22 (by decide) (fun c_3 => ?_) (fun c_3 => ?_)
        · skip
          refine lv_iinc (v := nI (i + 1)) (lv' := [(2, .int (nI (i + 1))), (0, .ref (a 0)), (1, .int (nI r))]) hx hb dX1_moveCells_44 hl (k := 2) rfl (nI_1 _) (by decide) rfl (fun ls hl => ?_)
          refine lv_goto (tgt := 2) hx hb dX1_moveCells_47 (by decide) ?_
          have es : mrow v 3 (zMap (v 3) (mvC v r) i) = mrow v 3 (zMap (v 3) (mvC v r) (i + 1)) := by rw [← zMap_k (mvC_out c_3)]
          rw [es] at hP hD
          exact ih_1 (i + 1) (by omega) (by omega) _ _ _ hP hD hS (lv_sub hl [1, 2, 0] rfl)
        · skip
          obtain ⟨q, hq, hqe⟩ := zBel_of (by decide) c_3
          refine lv_aload_n hx hb dX1_moveCells_25 rfl (lv_at hl 0 rfl) ?_
          refine va_get (D := G.1) (ci := 1) (v := .ref (a 4)) (C := RX1) (T := TX1) (N := 15) hx hb hts hinX1 hown hKK.1 hP 0 rfl rfl 3 (by decide) fl_21 (fun _ h9 => h9) rfl dX1_moveCells_26 ?_
          refine lv_iload_n hx hb dX1_moveCells_29 rfl (lv_at hl 2 rfl) ?_
          refine lv_aload_n hx hb dX1_moveCells_30 rfl (lv_at hl 0 rfl) ?_
          refine va_get (D := G.1) (ci := 1) (v := .ref (a 9)) (C := RX1) (T := TX1) (N := 15) hx hb hts hinX1 hown hKK.1 hP 0 rfl rfl 11 (by decide) fl_36 (fun _ h9 => h9) rfl dX1_moveCells_31 ?_
          refine lv_iload_n hx hb dX1_moveCells_34 rfl (lv_at hl 1 rfl) ?_
          refine lv_aload_n hx hb dX1_moveCells_35 rfl (lv_at hl 0 rfl) ?_
          refine va_get (D := G.1) (ci := 1) (v := .ref (a 4)) (C := RX1) (T := TX1) (N := 15) hx hb hts hinX1 hown hKK.1 hP 0 rfl rfl 3 (by decide) fl_21 (fun _ h9 => h9) rfl dX1_moveCells_36 ?_
          refine lv_iload_n hx hb dX1_moveCells_39 rfl (lv_at hl 2 rfl) ?_
          refine z_iald (n := 18) (f := (mrow v 3 (zMap (v 3) (mvC v r) i)) 3) (v := v 3 i) hx hb hKK hP 4 rfl (by omega) (by decide) (zMap_at _ _ _) dX1_moveCells_40 ?_
          refine z_top (v := nI q) hqe ?_
          refine z_add (v := nI (r + q)) hx hb dX1_moveCells_41 (nI_add _ _) ?_
          refine z_iald (n := 120) (f := (mrow v 3 (zMap (v 3) (mvC v r) i)) 8) (v := v 8 (r + q)) hx hb hKK hP 9 rfl (by omega) (by decide) rfl dX1_moveCells_42 ?_
          refine z_iast (n := 18) (f := (mrow v 3 (zMap (v 3) (mvC v r) i)) 3) (w2 := rollW G a (mst (mrow v 3 (zMap (v 3) (mvC v r) i)) 3 i (v 8 (r + q)))) hx hb hKK hP hD hS 4 rfl (by omega) (by decide) rfl dX1_moveCells_43 (fun H locs hP hD hS => ?_)
          refine lv_iinc (v := nI (i + 1)) (lv' := [(2, .int (nI (i + 1))), (0, .ref (a 0)), (1, .int (nI r))]) hx hb dX1_moveCells_44 hl (k := 2) rfl (nI_1 _) (by decide) rfl (fun ls hl => ?_)
          refine lv_goto (tgt := 2) hx hb dX1_moveCells_47 (by decide) ?_
          have es : mst (mrow v 3 (zMap (v 3) (mvC v r) i)) 3 i (v 8 (r + q)) = mrow v 3 (zMap (v 3) (mvC v r) (i + 1)) := by rw [mst_mrow, zMap_s (mvC_in c_3 hq hqe)]
          rw [es] at hP hD
          exact ih_1 (i + 1) (by omega) (by omega) _ _ _ hP hD hS (lv_sub hl [1, 2, 0] rfl)
  have es : v = mrow v 3 (zMap (v 3) (mvC v r) 0) := by rw [zMap_0, mrow_self]
  rw [es] at hP hD
  exact key_1 _ 0 (by omega) (Nat.lt_succ_self _) _ _ _ hP hD hS (lv_sub hl [1, 2, 0] rfl)

set_option maxHeartbeats 4000000 in
set_option maxRecDepth 100000 in
theorem c_X1_moveNames (l : Launch) (G : ZG) (a : Nat → Nat) (v : Mem) (r : Nat) (hr9 : r ≤ 80) : CV l G yX1_moveNames wsX1_moveNames (zRm 1 40) [.ref (a 0), .int (nI r)] (rollW G a v) (rollW G a (zMvN v r)) := by
  refine CV.ent (cc := cX1_moveNames) (maxL := 4) (own := RX1) (by decide) rfl rfl (Nat.le_of_ble_eq_true rfl) ?_
  intro p ee s m args below meth c A ls F hr hlk hKK hP hD hA hS hl
  obtain ⟨hx, hb, hml, hown, hts⟩ := id F
  have hl : lv_has ls 4 [(0, .ref (a 0)), (1, .int (nI r))] := hl
  have fl_9 := hts (.fieldLink RX1 9 "NameRolls$Roll" "names" "[I") (by decide +kernel)
  have fl_15 := hts (.fieldLink RX1 15 "NameRolls$Roll" "users" "[I") (by decide +kernel)
  have fl_18 := hts (.fieldLink RX1 18 "NameRolls$Roll" "years" "[I") (by decide +kernel)
  have fl_36 := hts (.fieldLink RX1 36 "NameRolls$Roll" "numbersBehind" "[I") (by decide +kernel)
  have fl_42 := hts (.fieldLink RX1 42 "NameRolls$Roll" "oldNames" "[I") (by decide +kernel)
  have fl_45 := hts (.fieldLink RX1 45 "NameRolls$Roll" "oldUsers" "[I") (by decide +kernel)
  have hinX1 : ∀ w ∈ wsX10, w ∈ wsX1_moveNames := by decide +kernel
  have st_X3_isBelow := hts (.static yX3_isBelow) (by decide +kernel)
  have ini_X3 := hts (.initialized RX3) (by decide +kernel)
  have aci := hts (.initialized "java/lang/System") (by decide +kernel)
  have acl := hts (.methodLink RX1 54 arraycopyName) (by decide +kernel)
  have acn := hts (.native arraycopyName) (by decide +kernel)
  have acs := hts (.static arraycopyName) (by decide +kernel)
  refine lv_aload_n hx hb dX1_moveNames_0 rfl (lv_at hl 0 rfl) ?_
  refine va_get (D := G.1) (ci := 1) (v := .ref (a 1)) (C := RX1) (T := TX1) (N := 15) hx hb hts hinX1 hown hKK.1 hP 0 rfl rfl 0 (by decide) fl_9 (fun _ h9 => h9) rfl dX1_moveNames_1 ?_
  refine lv_iconst (v := nI 0) hx hb dX1_moveNames_4 (by decide) ?_
  refine lv_aload_n hx hb dX1_moveNames_5 rfl (lv_at hl 0 rfl) ?_
  refine va_get (D := G.1) (ci := 1) (v := .ref (a 11)) (C := RX1) (T := TX1) (N := 15) hx hb hts hinX1 hown hKK.1 hP 0 rfl rfl 13 (by decide) fl_42 (fun _ h9 => h9) rfl dX1_moveNames_6 ?_
  refine lv_iconst (v := nI 0) hx hb dX1_moveNames_9 (by decide) ?_
  refine lv_bipush (v := nI 40) hx hb dX1_moveNames_10 (by decide) ?_
  refine z_copy (n0 := 40) (n1 := 40) (f := v 0) (g := v 10) (w2 := rollW G a (mrow v 10 (va_cpy (v 0) (v 10) 0 0 40))) hx hb (hml.trans hl.1.symm) hown acl acn acs aci hKK hP hD hS 1 11 rfl rfl (by omega) (by omega) (by decide) (by decide) rfl (Nat.le_of_ble_eq_true rfl) (Nat.le_of_ble_eq_true rfl) dX1_moveNames_12 (fun H locs hP hD hS => ?_)
  refine lv_aload_n hx hb dX1_moveNames_15 rfl (lv_at hl 0 rfl) ?_
  refine va_get (D := G.1) (ci := 1) (v := .ref (a 2)) (C := RX1) (T := TX1) (N := 15) hx hb hts hinX1 hown hKK.1 hP 0 rfl rfl 1 (by decide) fl_15 (fun _ h9 => h9) rfl dX1_moveNames_16 ?_
  refine lv_iconst (v := nI 0) hx hb dX1_moveNames_19 (by decide) ?_
  refine lv_aload_n hx hb dX1_moveNames_20 rfl (lv_at hl 0 rfl) ?_
  refine va_get (D := G.1) (ci := 1) (v := .ref (a 12)) (C := RX1) (T := TX1) (N := 15) hx hb hts hinX1 hown hKK.1 hP 0 rfl rfl 14 (by decide) fl_45 (fun _ h9 => h9) rfl dX1_moveNames_21 ?_
  refine lv_iconst (v := nI 0) hx hb dX1_moveNames_24 (by decide) ?_
  refine lv_bipush (v := nI 40) hx hb dX1_moveNames_25 (by decide) ?_
  refine z_copy (n0 := 40) (n1 := 40) (f := v 1) (g := v 11) (w2 := rollW G a (mrow (mrow v 10 (va_cpy (v 0) (v 10) 0 0 40)) 11 (va_cpy (v 1) (v 11) 0 0 40))) hx hb (hml.trans hl.1.symm) hown acl acn acs aci hKK hP hD hS 2 12 rfl rfl (by omega) (by omega) (by decide) (by decide) rfl (Nat.le_of_ble_eq_true rfl) (Nat.le_of_ble_eq_true rfl) dX1_moveNames_27 (fun H locs hP hD hS => ?_)
  refine lv_aload_n hx hb dX1_moveNames_30 rfl (lv_at hl 0 rfl) ?_
  refine va_get (D := G.1) (ci := 1) (v := .ref (a 1)) (C := RX1) (T := TX1) (N := 15) hx hb hts hinX1 hown hKK.1 hP 0 rfl rfl 0 (by decide) fl_9 (fun _ h9 => h9) rfl dX1_moveNames_31 ?_
  refine lv_iconst (v := nI 0) hx hb dX1_moveNames_34 (by decide) ?_
  refine z_callSV_at (As := [.ref (a 1), .int (nI 0)]) (rest := []) 1 F (c_J7_fill l G _ 40 (by decide) (nI 0) (v 0)) (va_cwS 2 hts gX1_moveNames_J7_fill_53178 rfl rfl rfl (by decide +kernel) ⟨Nat.le_of_ble_eq_true rfl, Nat.le_of_ble_eq_true rfl⟩) hKK hP hD hS hA rfl (w2 := rollW G a (mrow (mrow (mrow v 10 (va_cpy (v 0) (v 10) 0 0 40)) 11 (va_cpy (v 1) (v 11) 0 0 40)) 0 (zFillA 40 (nI 0) (v 0)))) rfl rfl hl.1 rfl (Nat.le_of_ble_eq_true rfl) ⟨Nat.zero_le _, Nat.zero_le _⟩ dX1_moveNames_35 (fun H locs hP hD hS => ?_)
  refine lv_aload_n hx hb dX1_moveNames_38 rfl (lv_at hl 0 rfl) ?_
  refine va_get (D := G.1) (ci := 1) (v := .ref (a 2)) (C := RX1) (T := TX1) (N := 15) hx hb hts hinX1 hown hKK.1 hP 0 rfl rfl 1 (by decide) fl_15 (fun _ h9 => h9) rfl dX1_moveNames_39 ?_
  refine lv_iconst (v := nI 0) hx hb dX1_moveNames_42 (by decide) ?_
  refine z_callSV_at (As := [.ref (a 2), .int (nI 0)]) (rest := []) 2 F (c_J7_fill l G _ 40 (by decide) (nI 0) (v 1)) (va_cwS 2 hts gX1_moveNames_J7_fill_53178 rfl rfl rfl (by decide +kernel) ⟨Nat.le_of_ble_eq_true rfl, Nat.le_of_ble_eq_true rfl⟩) hKK hP hD hS hA rfl (w2 := rollW G a (mrow (mrow (mrow (mrow v 10 (va_cpy (v 0) (v 10) 0 0 40)) 11 (va_cpy (v 1) (v 11) 0 0 40)) 0 (zFillA 40 (nI 0) (v 0))) 1 (zFillA 40 (nI 0) (v 1)))) rfl rfl hl.1 rfl (Nat.le_of_ble_eq_true rfl) ⟨Nat.zero_le _, Nat.zero_le _⟩ dX1_moveNames_43 (fun H locs hP hD hS => ?_)
  refine lv_iconst (v := nI 0) hx hb dX1_moveNames_46 (by decide) ?_
  refine lv_istore_n (lv' := [(2, .int (nI 0)), (0, .ref (a 0)), (1, .int (nI r))]) hx hb dX1_moveNames_47 rfl hl (by decide) rfl (fun ls hl => ?_)
  have key_1 : ∀ (nn : Nat) (i : Nat), i ≤ 40 → 40 - i < nn → ∀ (H : Heap) (locs : List Loc) (ls : Array Slot), va_P G.1 vwCl (rollW G a (zMv1 v r i)) H → va_D A (rollW G a (zMv1 v r i)) → va_S A s.heap H locs → lv_has ls 4 [(0, .ref (a 0)), (1, .int (nI r)), (2, .int (nI i))] → W p l ee (zRm 1 40) s m args below meth c H locs 0 0 (MQ below (ZQv G A (rollW G a (zMvN v r))) args s 0 0 A) (F0 m 48 ls []) := by
    intro nn
    induction nn with
    | zero => intro i _ hm; exact absurd hm (Nat.not_lt_zero _)
    | succ nn ih_1 =>
      intro i hi hm H locs ls hP hD hS hl
      refine lv_iload_n hx hb dX1_moveNames_48 rfl (lv_at hl 2 rfl) ?_
      refine lv_bipush (v := nI 40) hx hb dX1_moveNames_49 (by decide) ?_
      refine z_ge (tgt := 102) hx hb dX1_moveNames_51 (by decide) (by omega) (by omega) (fun c_2 => ?_) (fun c_2 => ?_)
      · skip
        refine lv_iconst (v := nI 0) hx hb dX1_moveNames_102 (by decide) ?_
        refine lv_istore_n (lv' := [(2, .int (nI 0)), (0, .ref (a 0)), (1, .int (nI r))]) hx hb dX1_moveNames_103 rfl hl (by decide) rfl (fun ls hl => ?_)
        have key_3 : ∀ (nn : Nat) (i : Nat), i ≤ 40 → 40 - i < nn → ∀ (H : Heap) (locs : List Loc) (ls : Array Slot), va_P G.1 vwCl (rollW G a (mrow (zMv1 v r 40) 2 (zMap (v 2) (yrN v r) i))) H → va_D A (rollW G a (mrow (zMv1 v r 40) 2 (zMap (v 2) (yrN v r) i))) → va_S A s.heap H locs → lv_has ls 4 [(0, .ref (a 0)), (2, .int (nI i))] → W p l ee (zRm 1 40) s m args below meth c H locs 0 0 (MQ below (ZQv G A (rollW G a (zMvN v r))) args s 0 0 A) (F0 m 104 ls []) := by
          intro nn
          induction nn with
          | zero => intro i _ hm; exact absurd hm (Nat.not_lt_zero _)
          | succ nn ih_3 =>
            intro i hi2 hm H locs ls hP hD hS hl
            refine lv_iload_n hx hb dX1_moveNames_104 rfl (lv_at hl 1 rfl) ?_
            refine lv_bipush (v := nI 40) hx hb dX1_moveNames_105 (by decide) ?_
            refine z_ge (tgt := 141) hx hb dX1_moveNames_107 (by decide) (by omega) (by omega) (fun c_4 => ?_) (fun c_4 => ?_)
            · skip
              exact z_vret hx hb hr hlk hP hD hS dX1_moveNames_141 (congrArg (rollW G a) (by rw [show i = 40 by omega, zMvN]))
            · skip
              refine lv_aload_n hx hb dX1_moveNames_110 rfl (lv_at hl 0 rfl) ?_
              refine va_get (D := G.1) (ci := 1) (v := .ref (a 1)) (C := RX1) (T := TX1) (N := 15) hx hb hts hinX1 hown hKK.1 hP 0 rfl rfl 0 (by decide) fl_9 (fun _ h9 => h9) rfl dX1_moveNames_111 ?_
              refine lv_iload_n hx hb dX1_moveNames_114 rfl (lv_at hl 1 rfl) ?_
              refine z_iald (n := 40) (f := (mrow (zMv1 v r 40) 2 (zMap (v 2) (yrN v r) i)) 0) (v := mvN v r 0 40 i) hx hb hKK hP 1 rfl (by omega) (by decide) (zMv2_n v r 40 _ i) dX1_moveNames_115 ?_
              refine lv_aload_n hx hb dX1_moveNames_116 rfl (lv_at hl 0 rfl) ?_
              refine va_get (D := G.1) (ci := 1) (v := .ref (a 11)) (C := RX1) (T := TX1) (N := 15) hx hb hts hinX1 hown hKK.1 hP 0 rfl rfl 13 (by decide) fl_42 (fun _ h9 => h9) rfl dX1_moveNames_117 ?_
              refine lv_iload_n hx hb dX1_moveNames_120 rfl (lv_at hl 1 rfl) ?_
              refine z_iald (n := 40) (f := (mrow (zMv1 v r 40) 2 (zMap (v 2) (yrN v r) i)) 10) (v := v 0 i) hx hb hKK hP 11 rfl (by omega) (by decide) (zMv2_o v r 40 _ (by omega)) dX1_moveNames_121 ?_
              refine lv_icmp_eq (tgt := 135) hx hb dX1_moveNames_122 (by decide) (fun c_5 => ?_) (fun c_5 => ?_)
              · skip
                refine lv_iinc (v := nI (i + 1)) (lv' := [(2, .int (nI (i + 1))), (0, .ref (a 0))]) hx hb dX1_moveNames_135 hl (k := 1) rfl (nI_1 _) (by decide) rfl (fun ls hl => ?_)
                refine lv_goto (tgt := 104) hx hb dX1_moveNames_138 (by decide) ?_
                have es : mrow (zMv1 v r 40) 2 (zMap (v 2) (yrN v r) i) = mrow (zMv1 v r 40) 2 (zMap (v 2) (yrN v r) (i + 1)) := by exact zMv2_k c_5
                rw [es] at hP hD
                exact ih_3 (i + 1) (by omega) (by omega) _ _ _ hP hD hS (lv_sub hl [1, 0] rfl)
              · skip
                refine lv_aload_n hx hb dX1_moveNames_125 rfl (lv_at hl 0 rfl) ?_
                refine va_get (D := G.1) (ci := 1) (v := .ref (a 3)) (C := RX1) (T := TX1) (N := 15) hx hb hts hinX1 hown hKK.1 hP 0 rfl rfl 2 (by decide) fl_18 (fun _ h9 => h9) rfl dX1_moveNames_126 ?_
                refine lv_iload_n hx hb dX1_moveNames_129 rfl (lv_at hl 1 rfl) ?_
                refine lv_dup2_11 hx hb dX1_moveNames_130 rfl rfl ?_
                refine z_iald (n := 40) (f := (mrow (zMv1 v r 40) 2 (zMap (v 2) (yrN v r) i)) 2) (v := v 2 i) hx hb hKK hP 3 rfl (by omega) (by decide) (zMv2_y v r 40 i) dX1_moveNames_131 ?_
                refine lv_iconst (v := nI 1) hx hb dX1_moveNames_132 (by decide) ?_
                refine z_add (v := (v 2 i) + (nI 1)) hx hb dX1_moveNames_133 rfl ?_
                refine z_iast (n := 40) (f := (mrow (zMv1 v r 40) 2 (zMap (v 2) (yrN v r) i)) 2) (w2 := rollW G a (mst (mrow (zMv1 v r 40) 2 (zMap (v 2) (yrN v r) i)) 2 i ((v 2 i) + (nI 1)))) hx hb hKK hP hD hS 3 rfl (by omega) (by decide) rfl dX1_moveNames_134 (fun H locs hP hD hS => ?_)
                refine lv_iinc (v := nI (i + 1)) (lv' := [(2, .int (nI (i + 1))), (0, .ref (a 0))]) hx hb dX1_moveNames_135 hl (k := 1) rfl (nI_1 _) (by decide) rfl (fun ls hl => ?_)
                refine lv_goto (tgt := 104) hx hb dX1_moveNames_138 (by decide) ?_
                have es : mst (mrow (zMv1 v r 40) 2 (zMap (v 2) (yrN v r) i)) 2 i ((v 2 i) + (nI 1)) = mrow (zMv1 v r 40) 2 (zMap (v 2) (yrN v r) (i + 1)) := by exact zMv2_s c_5
                rw [es] at hP hD
                exact ih_3 (i + 1) (by omega) (by omega) _ _ _ hP hD hS (lv_sub hl [1, 0] rfl)
        have hi40 : i = 40 := by omega
        rw [hi40, ← zMv2_0 v r 40] at hP hD
        exact key_3 _ 0 (by omega) (Nat.lt_succ_self _) _ _ _ hP hD hS (lv_sub hl [1, 0] rfl)
      · skip
        refine lv_aload_n hx hb dX1_moveNames_54 rfl (lv_at hl 0 rfl) ?_
        refine va_get (D := G.1) (ci := 1) (v := .ref (a 9)) (C := RX1) (T := TX1) (N := 15) hx hb hts hinX1 hown hKK.1 hP 0 rfl rfl 11 (by decide) fl_36 (fun _ h9 => h9) rfl dX1_moveNames_55 ?_
        refine lv_iload_n hx hb dX1_moveNames_58 rfl (lv_at hl 1 rfl) ?_
        refine lv_iload_n hx hb dX1_moveNames_59 rfl (lv_at hl 2 rfl) ?_
        refine z_add (v := nI (r + i)) hx hb dX1_moveNames_60 (nI_add _ _) ?_
        refine z_iald (n := 120) (f := (zMv1 v r i) 8) (v := v 8 (r + i)) hx hb hKK hP 9 rfl (by omega) (by decide) rfl dX1_moveNames_61 ?_
        refine lv_istore_n (lv' := [(3, .int (v 8 (r + i))), (0, .ref (a 0)), (1, .int (nI r)), (2, .int (nI i))]) hx hb dX1_moveNames_62 rfl hl (by decide) rfl (fun ls hl => ?_)
        refine lv_iload_n hx hb dX1_moveNames_63 rfl (lv_at hl 0 rfl) ?_
        refine lv_bipush (v := nI 40) hx hb dX1_moveNames_64 (by decide) ?_
        refine z_callNI (As := [.int (v 8 (r + i)), .int (nI 40)]) (rest := []) F (c_X3_isBelow l G (v 8 (r + i)) (40) (by omega)) ⟨va_cnB 2 hts gX1_moveNames_X3_isBelow_n70 rfl rfl rfl hKK.2.1 ini_X3 (by decide +kernel) ⟨Nat.le_of_ble_eq_true rfl, Nat.le_of_ble_eq_true rfl⟩, st_X3_isBelow, trivial⟩ hKK hP hD hS hA rfl hl.1 rfl (Nat.le_of_ble_eq_true rfl) ⟨Nat.zero_le _, Nat.zero_le _⟩ dX1_moveNames_66 (fun H locs hP hD hS => ?_)
        refine z_ifBeq (tgt := 96) hx hb dX1_moveNames_69 (by decide) (fun c_6 => ?_) (fun c_6 => ?_)
        · skip
          refine lv_iinc (v := nI (i + 1)) (lv' := [(2, .int (nI (i + 1))), (3, .int (v 8 (r + i))), (0, .ref (a 0)), (1, .int (nI r))]) hx hb dX1_moveNames_96 hl (k := 3) rfl (nI_1 _) (by decide) rfl (fun ls hl => ?_)
          refine lv_goto (tgt := 48) hx hb dX1_moveNames_99 (by decide) ?_
          have es : zMv1 v r i = zMv1 v r (i + 1) := by exact zMv1_out c_6
          rw [es] at hP hD
          exact ih_1 (i + 1) (by omega) (by omega) _ _ _ hP hD hS (lv_sub hl [2, 3, 0] rfl)
        · skip
          obtain ⟨q, hq, hqe⟩ := zBel_of (by decide) c_6
          rw [hqe] at hl
          refine lv_aload_n hx hb dX1_moveNames_72 rfl (lv_at hl 1 rfl) ?_
          refine va_get (D := G.1) (ci := 1) (v := .ref (a 1)) (C := RX1) (T := TX1) (N := 15) hx hb hts hinX1 hown hKK.1 hP 0 rfl rfl 0 (by decide) fl_9 (fun _ h9 => h9) rfl dX1_moveNames_73 ?_
          refine lv_iload_n hx hb dX1_moveNames_76 rfl (lv_at hl 0 rfl) ?_
          refine lv_aload_n hx hb dX1_moveNames_77 rfl (lv_at hl 1 rfl) ?_
          refine va_get (D := G.1) (ci := 1) (v := .ref (a 11)) (C := RX1) (T := TX1) (N := 15) hx hb hts hinX1 hown hKK.1 hP 0 rfl rfl 13 (by decide) fl_42 (fun _ h9 => h9) rfl dX1_moveNames_78 ?_
          refine lv_iload_n hx hb dX1_moveNames_81 rfl (lv_at hl 3 rfl) ?_
          refine z_iald (n := 40) (f := (zMv1 v r i) 10) (v := v 0 i) hx hb hKK hP 11 rfl (by omega) (by decide) (sb_cpy0 (by omega)) dX1_moveNames_82 ?_
          refine z_iast (n := 40) (f := (zMv1 v r i) 0) (w2 := rollW G a (mst (zMv1 v r i) 0 q (v 0 i))) hx hb hKK hP hD hS 1 rfl (by omega) (by decide) rfl dX1_moveNames_83 (fun H locs hP hD hS => ?_)
          refine lv_aload_n hx hb dX1_moveNames_84 rfl (lv_at hl 1 rfl) ?_
          refine va_get (D := G.1) (ci := 1) (v := .ref (a 2)) (C := RX1) (T := TX1) (N := 15) hx hb hts hinX1 hown hKK.1 hP 0 rfl rfl 1 (by decide) fl_15 (fun _ h9 => h9) rfl dX1_moveNames_85 ?_
          refine lv_iload_n hx hb dX1_moveNames_88 rfl (lv_at hl 0 rfl) ?_
          refine lv_aload_n hx hb dX1_moveNames_89 rfl (lv_at hl 1 rfl) ?_
          refine va_get (D := G.1) (ci := 1) (v := .ref (a 12)) (C := RX1) (T := TX1) (N := 15) hx hb hts hinX1 hown hKK.1 hP 0 rfl rfl 14 (by decide) fl_45 (fun _ h9 => h9) rfl dX1_moveNames_90 ?_
          refine lv_iload_n hx hb dX1_moveNames_93 rfl (lv_at hl 3 rfl) ?_
          refine z_iald (n := 40) (f := (zMv1 v r i) 11) (v := v 1 i) hx hb hKK hP 12 rfl (by omega) (by decide) (sb_cpy0 (by omega)) dX1_moveNames_94 ?_
          refine z_iast (n := 40) (f := (zMv1 v r i) 1) (w2 := rollW G a (mst (mst (zMv1 v r i) 0 q (v 0 i)) 1 q (v 1 i))) hx hb hKK hP hD hS 2 rfl (by omega) (by decide) rfl dX1_moveNames_95 (fun H locs hP hD hS => ?_)
          refine lv_iinc (v := nI (i + 1)) (lv' := [(2, .int (nI (i + 1))), (3, .int (nI q)), (0, .ref (a 0)), (1, .int (nI r))]) hx hb dX1_moveNames_96 hl (k := 3) rfl (nI_1 _) (by decide) rfl (fun ls hl => ?_)
          refine lv_goto (tgt := 48) hx hb dX1_moveNames_99 (by decide) ?_
          have es : mst (mst (zMv1 v r i) 0 q (v 0 i)) 1 q (v 1 i) = zMv1 v r (i + 1) := by exact zMv1_in c_6 hq hqe
          rw [es] at hP hD
          exact ih_1 (i + 1) (by omega) (by omega) _ _ _ hP hD hS (lv_sub hl [2, 3, 0] rfl)
  have hP : va_P G.1 vwCl (rollW G a (zMv1 v r 0)) H := hP
  have hD : va_D A (rollW G a (zMv1 v r 0)) := hD
  exact key_1 _ 0 (by omega) (Nat.lt_succ_self _) _ _ _ hP hD hS (lv_sub hl [1, 2, 0] rfl)

set_option maxHeartbeats 4000000 in
set_option maxRecDepth 100000 in
theorem c_X1_giveAnew (l : Launch) (G : ZG) (a : Nat → Nat) (v : Mem) (ρ e : Nat) (hρ : ρ ≤ 2) (hN : okN v) (he : v 12 0 = nI e) (he2 : e ≤ 999) : CI l G yX1_giveAnew wsX1_giveAnew (zRm 3 69) [.ref (a 0), .int (nI ρ)] (rollW G a v) (nI (fb_ct (pMv v ρ) 40)) (rollW G a (zAnew v ρ e)) := by
  refine CI.ent (cc := cX1_giveAnew) (maxL := 7) (ty := .int) (own := RX1) (by decide) rfl rfl (Nat.le_of_ble_eq_true rfl) ?_
  intro p ee s m args below meth c A ls F hr hlk hKK hP hD hA hS hl
  obtain ⟨hx, hb, hml, hown, hts⟩ := id F
  have hl : lv_has ls 7 [(0, .ref (a 0)), (1, .int (nI ρ))] := hl
  have fl_9 := hts (.fieldLink RX1 9 "NameRolls$Roll" "names" "[I") (by decide +kernel)
  have fl_18 := hts (.fieldLink RX1 18 "NameRolls$Roll" "years" "[I") (by decide +kernel)
  have fl_24 := hts (.fieldLink RX1 24 "NameRolls$Roll" "rules" "[I") (by decide +kernel)
  have fl_27 := hts (.fieldLink RX1 27 "NameRolls$Roll" "namesThen" "[I") (by decide +kernel)
  have fl_30 := hts (.fieldLink RX1 30 "NameRolls$Roll" "movedThen" "[I") (by decide +kernel)
  have fl_33 := hts (.fieldLink RX1 33 "NameRolls$Roll" "yearsThen" "[I") (by decide +kernel)
  have fl_36 := hts (.fieldLink RX1 36 "NameRolls$Roll" "numbersBehind" "[I") (by decide +kernel)
  have fl_39 := hts (.fieldLink RX1 39 "NameRolls$Roll" "yearsBehind" "[I") (by decide +kernel)
  have fl_60 := hts (.fieldLink RX1 60 "NameRolls$Roll" "epoch" "I") (by decide +kernel)
  have hinX1 : ∀ w ∈ wsX10, w ∈ wsX1_giveAnew := by decide +kernel
  have aci := hts (.initialized "java/lang/System") (by decide +kernel)
  have acl := hts (.methodLink RX1 54 arraycopyName) (by decide +kernel)
  have acn := hts (.native arraycopyName) (by decide +kernel)
  have acs := hts (.static arraycopyName) (by decide +kernel)
  refine lv_aload_n hx hb dX1_giveAnew_0 rfl (lv_at hl 0 rfl) ?_
  refine va_get (D := G.1) (ci := 1) (v := .int (v 12 0)) (C := RX1) (T := TX1) (N := 15) hx hb hts hinX1 hown hKK.1 hP 0 rfl rfl 4 (by decide) fl_60 (fun _ h9 => h9) rfl dX1_giveAnew_1 ?_
  refine z_top (v := nI e) he ?_
  refine lv_iconst (v := nI 3) hx hb dX1_giveAnew_4 (by decide) ?_
  refine z_rem (v := nI (e % 3)) hx hb dX1_giveAnew_5 (by decide) (pk_rem (by omega) (by decide) (by decide)) ?_
  refine lv_istore_n (lv' := [(2, .int (nI (e % 3))), (0, .ref (a 0)), (1, .int (nI ρ))]) hx hb dX1_giveAnew_6 rfl hl (by decide) rfl (fun ls hl => ?_)
  refine lv_iload_n hx hb dX1_giveAnew_7 rfl (lv_at hl 0 rfl) ?_
  refine lv_bipush (v := nI 40) hx hb dX1_giveAnew_8 (by decide) ?_
  refine z_mul (v := nI ((e % 3) * 40)) hx hb dX1_giveAnew_10 (pk_mul _ _) ?_
  refine lv_istore_n (lv' := [(3, .int (nI ((e % 3) * 40))), (2, .int (nI (e % 3))), (0, .ref (a 0)), (1, .int (nI ρ))]) hx hb dX1_giveAnew_11 rfl hl (by decide) rfl (fun ls hl => ?_)
  refine lv_iconst (v := nI 0) hx hb dX1_giveAnew_12 (by decide) ?_
  refine lv_istore (lv' := [(4, .int (nI 0)), (3, .int (nI ((e % 3) * 40))), (2, .int (nI (e % 3))), (0, .ref (a 0)), (1, .int (nI ρ))]) hx hb dX1_giveAnew_13 hl (by decide) rfl (fun ls hl => ?_)
  refine lv_iconst (v := nI 0) hx hb dX1_giveAnew_15 (by decide) ?_
  refine lv_istore (lv' := [(5, .int (nI 0)), (4, .int (nI 0)), (3, .int (nI ((e % 3) * 40))), (2, .int (nI (e % 3))), (0, .ref (a 0)), (1, .int (nI ρ))]) hx hb dX1_giveAnew_16 hl (by decide) rfl (fun ls hl => ?_)
  have key_1 : ∀ (nn : Nat) (i : Nat), i ≤ 40 → 40 - i < nn → ∀ (H : Heap) (locs : List Loc) (ls : Array Slot), va_P G.1 vwCl (rollW G a (mrow v 8 (fb_put (v 8) (nxN v ρ) (e % 3 * 40) i))) H → va_D A (rollW G a (mrow v 8 (fb_put (v 8) (nxN v ρ) (e % 3 * 40) i))) → va_S A s.heap H locs → lv_has ls 7 [(0, .ref (a 0)), (1, .int (nI ρ)), (2, .int (nI (e % 3))), (3, .int (nI (e % 3 * 40))), (4, .int (nI (fb_ct (pMv v ρ) i))), (5, .int (nI i))] → W p l ee (zRm 3 69) s m args below meth c H locs 0 0 (MQ below (ZQi G A (rollW G a (zAnew v ρ e)) (nI (fb_ct (pMv v ρ) 40))) args s 0 0 A) (F0 m 18 ls []) := by
    intro nn
    induction nn with
    | zero => intro i _ hm; exact absurd hm (Nat.not_lt_zero _)
    | succ nn ih_1 =>
      intro i hi hm H locs ls hP hD hS hl
      have hz : zPl v ρ i ≤ 40 := fb_ct_le _ _
      refine lv_iload hx hb dX1_giveAnew_18 (lv_at hl 5 rfl) ?_
      refine lv_bipush (v := nI 40) hx hb dX1_giveAnew_20 (by decide) ?_
      refine z_ge (tgt := 81) hx hb dX1_giveAnew_22 (by decide) (by omega) (by omega) (fun c_2 => ?_) (fun c_2 => ?_)
      · skip
        have hi40 : i = 40 := by omega
        rw [hi40] at hP hD hl
        refine lv_aload_n hx hb dX1_giveAnew_81 rfl (lv_at hl 0 rfl) ?_
        refine va_get (D := G.1) (ci := 1) (v := .ref (a 5)) (C := RX1) (T := TX1) (N := 15) hx hb hts hinX1 hown hKK.1 hP 0 rfl rfl 7 (by decide) fl_24 (fun _ h9 => h9) rfl dX1_giveAnew_82 ?_
        refine lv_iload_n hx hb dX1_giveAnew_85 rfl (lv_at hl 2 rfl) ?_
        refine lv_iload_n hx hb dX1_giveAnew_86 rfl (lv_at hl 1 rfl) ?_
        refine z_iast (n := 3) (f := (mrow v 8 (fb_put (v 8) (nxN v ρ) (e % 3 * 40) 40)) 4) (w2 := rollW G a (mst (mrow v 8 (fb_put (v 8) (nxN v ρ) (e % 3 * 40) 40)) 4 (e % 3) (nI ρ))) hx hb hKK hP hD hS 5 rfl (by omega) (by decide) rfl dX1_giveAnew_87 (fun H locs hP hD hS => ?_)
        refine lv_aload_n hx hb dX1_giveAnew_88 rfl (lv_at hl 0 rfl) ?_
        refine va_get (D := G.1) (ci := 1) (v := .ref (a 6)) (C := RX1) (T := TX1) (N := 15) hx hb hts hinX1 hown hKK.1 hP 0 rfl rfl 8 (by decide) fl_27 (fun _ h9 => h9) rfl dX1_giveAnew_89 ?_
        refine lv_iload_n hx hb dX1_giveAnew_92 rfl (lv_at hl 2 rfl) ?_
        refine lv_aload_n hx hb dX1_giveAnew_93 rfl (lv_at hl 0 rfl) ?_
        refine lv_bipush (v := nI 40) hx hb dX1_giveAnew_94 (by decide) ?_
        refine z_callVI (As := [.int (nI 40)]) (rest := [.int (nI (e % 3)), .ref (a 6)]) (wr := []) (C := RX1) F (c_X1_namesBelow l G a (mst (mrow v 8 (fb_put (v 8) (nxN v ρ) (e % 3 * 40) 40)) 4 (e % 3) (nI ρ)) (40) (by omega)) (cwV 1 hts gX1_giveAnew_X1_namesBelow rfl rfl rfl (by decide +kernel) ⟨Nat.le_of_ble_eq_true rfl, Nat.le_of_ble_eq_true rfl⟩) hKK (z_recv hKK hP (q0 := 0) (ci := 1) rfl rfl) hP hD hS hA rfl hl.1 rfl (Nat.le_of_ble_eq_true rfl) ⟨Nat.zero_le _, Nat.zero_le _⟩ dX1_giveAnew_96 (fun H locs hP hD hS => ?_)
        have hP : va_P G.1 vwCl (rollW G a (mst (mrow v 8 (fb_put (v 8) (nxN v ρ) (e % 3 * 40) 40)) 4 (e % 3) (nI ρ))) H := hP
        have hD : va_D A (rollW G a (mst (mrow v 8 (fb_put (v 8) (nxN v ρ) (e % 3 * 40) 40)) 4 (e % 3) (nI ρ))) := hD
        refine z_top (v := nI (fb_ct (pNm v) 40)) rfl ?_
        refine z_iast (n := 3) (f := (mrow v 8 (fb_put (v 8) (nxN v ρ) (e % 3 * 40) 40)) 5) (w2 := rollW G a (mst (mst (mrow v 8 (fb_put (v 8) (nxN v ρ) (e % 3 * 40) 40)) 4 (e % 3) (nI ρ)) 5 (e % 3) (nI (fb_ct (pNm v) 40)))) hx hb hKK hP hD hS 6 rfl (by omega) (by decide) rfl dX1_giveAnew_99 (fun H locs hP hD hS => ?_)
        refine lv_aload_n hx hb dX1_giveAnew_100 rfl (lv_at hl 0 rfl) ?_
        refine va_get (D := G.1) (ci := 1) (v := .ref (a 7)) (C := RX1) (T := TX1) (N := 15) hx hb hts hinX1 hown hKK.1 hP 0 rfl rfl 9 (by decide) fl_30 (fun _ h9 => h9) rfl dX1_giveAnew_101 ?_
        refine lv_iload_n hx hb dX1_giveAnew_104 rfl (lv_at hl 2 rfl) ?_
        refine lv_iload hx hb dX1_giveAnew_105 (lv_at hl 4 rfl) ?_
        refine z_iast (n := 3) (f := (mrow v 8 (fb_put (v 8) (nxN v ρ) (e % 3 * 40) 40)) 6) (w2 := rollW G a (mst (mst (mst (mrow v 8 (fb_put (v 8) (nxN v ρ) (e % 3 * 40) 40)) 4 (e % 3) (nI ρ)) 5 (e % 3) (nI (fb_ct (pNm v) 40))) 6 (e % 3) (nI (fb_ct (pMv v ρ) 40)))) hx hb hKK hP hD hS 7 rfl (by omega) (by decide) rfl dX1_giveAnew_107 (fun H locs hP hD hS => ?_)
        refine lv_aload_n hx hb dX1_giveAnew_108 rfl (lv_at hl 0 rfl) ?_
        refine va_get (D := G.1) (ci := 1) (v := .ref (a 3)) (C := RX1) (T := TX1) (N := 15) hx hb hts hinX1 hown hKK.1 hP 0 rfl rfl 2 (by decide) fl_18 (fun _ h9 => h9) rfl dX1_giveAnew_109 ?_
        refine lv_iconst (v := nI 0) hx hb dX1_giveAnew_112 (by decide) ?_
        refine lv_aload_n hx hb dX1_giveAnew_113 rfl (lv_at hl 0 rfl) ?_
        refine va_get (D := G.1) (ci := 1) (v := .ref (a 8)) (C := RX1) (T := TX1) (N := 15) hx hb hts hinX1 hown hKK.1 hP 0 rfl rfl 10 (by decide) fl_33 (fun _ h9 => h9) rfl dX1_giveAnew_114 ?_
        refine lv_iload_n hx hb dX1_giveAnew_117 rfl (lv_at hl 3 rfl) ?_
        refine lv_bipush (v := nI 40) hx hb dX1_giveAnew_118 (by decide) ?_
        refine z_copy (n0 := 40) (n1 := 120) (f := (mrow v 8 (fb_put (v 8) (nxN v ρ) (e % 3 * 40) 40)) 2) (g := (mrow v 8 (fb_put (v 8) (nxN v ρ) (e % 3 * 40) 40)) 7) (w2 := rollW G a (mrow (mst (mst (mst (mrow v 8 (fb_put (v 8) (nxN v ρ) (e % 3 * 40) 40)) 4 (e % 3) (nI ρ)) 5 (e % 3) (nI (fb_ct (pNm v) 40))) 6 (e % 3) (nI (fb_ct (pMv v ρ) 40))) 7 (va_cpy ((mrow v 8 (fb_put (v 8) (nxN v ρ) (e % 3 * 40) 40)) 2) ((mrow v 8 (fb_put (v 8) (nxN v ρ) (e % 3 * 40) 40)) 7) 0 (e % 3 * 40) 40))) hx hb (hml.trans hl.1.symm) hown acl acn acs aci hKK hP hD hS 3 8 rfl rfl (by omega) (by omega) (by decide) (by decide) rfl (Nat.le_of_ble_eq_true rfl) (Nat.le_of_ble_eq_true rfl) dX1_giveAnew_120 (fun H locs hP hD hS => ?_)
        refine lv_aload_n hx hb dX1_giveAnew_123 rfl (lv_at hl 0 rfl) ?_
        refine lv_iload_n hx hb dX1_giveAnew_124 rfl (lv_at hl 3 rfl) ?_
        refine z_callVV (As := [.int (nI (e % 3 * 40))]) (rest := []) (wr := []) (C := RX1) F (c_X1_moveNames l G a (mrow (mst (mst (mst (mrow v 8 (fb_put (v 8) (nxN v ρ) (e % 3 * 40) 40)) 4 (e % 3) (nI ρ)) 5 (e % 3) (nI (fb_ct (pNm v) 40))) 6 (e % 3) (nI (fb_ct (pMv v ρ) 40))) 7 (va_cpy ((mrow v 8 (fb_put (v 8) (nxN v ρ) (e % 3 * 40) 40)) 2) ((mrow v 8 (fb_put (v 8) (nxN v ρ) (e % 3 * 40) 40)) 7) 0 (e % 3 * 40) 40)) (e % 3 * 40) (by omega)) (cwV 1 hts gX1_giveAnew_X1_moveNames rfl rfl rfl (by decide +kernel) ⟨Nat.le_of_ble_eq_true rfl, Nat.le_of_ble_eq_true rfl⟩) hKK (z_recv hKK hP (q0 := 0) (ci := 1) rfl rfl) hP hD hS hA rfl hl.1 rfl (Nat.le_of_ble_eq_true rfl) ⟨Nat.zero_le _, Nat.zero_le _⟩ dX1_giveAnew_125 (fun H locs hP hD hS => ?_)
        have hP : va_P G.1 vwCl (rollW G a (zMvN (mrow (mst (mst (mst (mrow v 8 (fb_put (v 8) (nxN v ρ) (e % 3 * 40) 40)) 4 (e % 3) (nI ρ)) 5 (e % 3) (nI (fb_ct (pNm v) 40))) 6 (e % 3) (nI (fb_ct (pMv v ρ) 40))) 7 (va_cpy ((mrow v 8 (fb_put (v 8) (nxN v ρ) (e % 3 * 40) 40)) 2) ((mrow v 8 (fb_put (v 8) (nxN v ρ) (e % 3 * 40) 40)) 7) 0 (e % 3 * 40) 40)) (e % 3 * 40))) H := hP
        have hD : va_D A (rollW G a (zMvN (mrow (mst (mst (mst (mrow v 8 (fb_put (v 8) (nxN v ρ) (e % 3 * 40) 40)) 4 (e % 3) (nI ρ)) 5 (e % 3) (nI (fb_ct (pNm v) 40))) 6 (e % 3) (nI (fb_ct (pMv v ρ) 40))) 7 (va_cpy ((mrow v 8 (fb_put (v 8) (nxN v ρ) (e % 3 * 40) 40)) 2) ((mrow v 8 (fb_put (v 8) (nxN v ρ) (e % 3 * 40) 40)) 7) 0 (e % 3 * 40) 40)) (e % 3 * 40))) := hD
        refine lv_aload_n hx hb dX1_giveAnew_128 rfl (lv_at hl 0 rfl) ?_
        refine lv_iload_n hx hb dX1_giveAnew_129 rfl (lv_at hl 3 rfl) ?_
        refine z_callVV (As := [.int (nI (e % 3 * 40))]) (rest := []) (wr := []) (C := RX1) F (c_X1_moveCells l G a (zMvN (mrow (mst (mst (mst (mrow v 8 (fb_put (v 8) (nxN v ρ) (e % 3 * 40) 40)) 4 (e % 3) (nI ρ)) 5 (e % 3) (nI (fb_ct (pNm v) 40))) 6 (e % 3) (nI (fb_ct (pMv v ρ) 40))) 7 (va_cpy ((mrow v 8 (fb_put (v 8) (nxN v ρ) (e % 3 * 40) 40)) 2) ((mrow v 8 (fb_put (v 8) (nxN v ρ) (e % 3 * 40) 40)) 7) 0 (e % 3 * 40) 40)) (e % 3 * 40)) (e % 3 * 40) (by omega)) (cwV 1 hts gX1_giveAnew_X1_moveCells rfl rfl rfl (by decide +kernel) ⟨Nat.le_of_ble_eq_true rfl, Nat.le_of_ble_eq_true rfl⟩) hKK (z_recv hKK hP (q0 := 0) (ci := 1) rfl rfl) hP hD hS hA rfl hl.1 rfl (Nat.le_of_ble_eq_true rfl) ⟨Nat.zero_le _, Nat.zero_le _⟩ dX1_giveAnew_130 (fun H locs hP hD hS => ?_)
        have hP : va_P G.1 vwCl (rollW G a (zMvC (zMvN (mrow (mst (mst (mst (mrow v 8 (fb_put (v 8) (nxN v ρ) (e % 3 * 40) 40)) 4 (e % 3) (nI ρ)) 5 (e % 3) (nI (fb_ct (pNm v) 40))) 6 (e % 3) (nI (fb_ct (pMv v ρ) 40))) 7 (va_cpy ((mrow v 8 (fb_put (v 8) (nxN v ρ) (e % 3 * 40) 40)) 2) ((mrow v 8 (fb_put (v 8) (nxN v ρ) (e % 3 * 40) 40)) 7) 0 (e % 3 * 40) 40)) (e % 3 * 40)) (e % 3 * 40))) H := hP
        have hD : va_D A (rollW G a (zMvC (zMvN (mrow (mst (mst (mst (mrow v 8 (fb_put (v 8) (nxN v ρ) (e % 3 * 40) 40)) 4 (e % 3) (nI ρ)) 5 (e % 3) (nI (fb_ct (pNm v) 40))) 6 (e % 3) (nI (fb_ct (pMv v ρ) 40))) 7 (va_cpy ((mrow v 8 (fb_put (v 8) (nxN v ρ) (e % 3 * 40) 40)) 2) ((mrow v 8 (fb_put (v 8) (nxN v ρ) (e % 3 * 40) 40)) 7) 0 (e % 3 * 40) 40)) (e % 3 * 40)) (e % 3 * 40))) := hD
        refine lv_aload_n hx hb dX1_giveAnew_133 rfl (lv_at hl 0 rfl) ?_
        refine va_get (D := G.1) (ci := 1) (v := .ref (a 3)) (C := RX1) (T := TX1) (N := 15) hx hb hts hinX1 hown hKK.1 hP 0 rfl rfl 2 (by decide) fl_18 (fun _ h9 => h9) rfl dX1_giveAnew_134 ?_
        refine lv_iconst (v := nI 0) hx hb dX1_giveAnew_137 (by decide) ?_
        refine lv_aload_n hx hb dX1_giveAnew_138 rfl (lv_at hl 0 rfl) ?_
        refine va_get (D := G.1) (ci := 1) (v := .ref (a 10)) (C := RX1) (T := TX1) (N := 15) hx hb hts hinX1 hown hKK.1 hP 0 rfl rfl 12 (by decide) fl_39 (fun _ h9 => h9) rfl dX1_giveAnew_139 ?_
        refine lv_iload_n hx hb dX1_giveAnew_142 rfl (lv_at hl 3 rfl) ?_
        refine lv_bipush (v := nI 40) hx hb dX1_giveAnew_143 (by decide) ?_
        refine z_copy (n0 := 40) (n1 := 120) (f := (zMvC (zMvN (mrow (mst (mst (mst (mrow v 8 (fb_put (v 8) (nxN v ρ) (e % 3 * 40) 40)) 4 (e % 3) (nI ρ)) 5 (e % 3) (nI (fb_ct (pNm v) 40))) 6 (e % 3) (nI (fb_ct (pMv v ρ) 40))) 7 (va_cpy ((mrow v 8 (fb_put (v 8) (nxN v ρ) (e % 3 * 40) 40)) 2) ((mrow v 8 (fb_put (v 8) (nxN v ρ) (e % 3 * 40) 40)) 7) 0 (e % 3 * 40) 40)) (e % 3 * 40)) (e % 3 * 40)) 2) (g := (zMvC (zMvN (mrow (mst (mst (mst (mrow v 8 (fb_put (v 8) (nxN v ρ) (e % 3 * 40) 40)) 4 (e % 3) (nI ρ)) 5 (e % 3) (nI (fb_ct (pNm v) 40))) 6 (e % 3) (nI (fb_ct (pMv v ρ) 40))) 7 (va_cpy ((mrow v 8 (fb_put (v 8) (nxN v ρ) (e % 3 * 40) 40)) 2) ((mrow v 8 (fb_put (v 8) (nxN v ρ) (e % 3 * 40) 40)) 7) 0 (e % 3 * 40) 40)) (e % 3 * 40)) (e % 3 * 40)) 9) (w2 := rollW G a (mrow (zMvC (zMvN (mrow (mst (mst (mst (mrow v 8 (fb_put (v 8) (nxN v ρ) (e % 3 * 40) 40)) 4 (e % 3) (nI ρ)) 5 (e % 3) (nI (fb_ct (pNm v) 40))) 6 (e % 3) (nI (fb_ct (pMv v ρ) 40))) 7 (va_cpy ((mrow v 8 (fb_put (v 8) (nxN v ρ) (e % 3 * 40) 40)) 2) ((mrow v 8 (fb_put (v 8) (nxN v ρ) (e % 3 * 40) 40)) 7) 0 (e % 3 * 40) 40)) (e % 3 * 40)) (e % 3 * 40)) 9 (va_cpy ((zMvC (zMvN (mrow (mst (mst (mst (mrow v 8 (fb_put (v 8) (nxN v ρ) (e % 3 * 40) 40)) 4 (e % 3) (nI ρ)) 5 (e % 3) (nI (fb_ct (pNm v) 40))) 6 (e % 3) (nI (fb_ct (pMv v ρ) 40))) 7 (va_cpy ((mrow v 8 (fb_put (v 8) (nxN v ρ) (e % 3 * 40) 40)) 2) ((mrow v 8 (fb_put (v 8) (nxN v ρ) (e % 3 * 40) 40)) 7) 0 (e % 3 * 40) 40)) (e % 3 * 40)) (e % 3 * 40)) 2) ((zMvC (zMvN (mrow (mst (mst (mst (mrow v 8 (fb_put (v 8) (nxN v ρ) (e % 3 * 40) 40)) 4 (e % 3) (nI ρ)) 5 (e % 3) (nI (fb_ct (pNm v) 40))) 6 (e % 3) (nI (fb_ct (pMv v ρ) 40))) 7 (va_cpy ((mrow v 8 (fb_put (v 8) (nxN v ρ) (e % 3 * 40) 40)) 2) ((mrow v 8 (fb_put (v 8) (nxN v ρ) (e % 3 * 40) 40)) 7) 0 (e % 3 * 40) 40)) (e % 3 * 40)) (e % 3 * 40)) 9) 0 (e % 3 * 40) 40))) hx hb (hml.trans hl.1.symm) hown acl acn acs aci hKK hP hD hS 3 10 rfl rfl (by omega) (by omega) (by decide) (by decide) rfl (Nat.le_of_ble_eq_true rfl) (Nat.le_of_ble_eq_true rfl) dX1_giveAnew_145 (fun H locs hP hD hS => ?_)
        refine lv_aload_n hx hb dX1_giveAnew_148 rfl (lv_at hl 0 rfl) ?_
        refine lv_dup hx hb dX1_giveAnew_149 rfl ?_
        refine va_get (D := G.1) (ci := 1) (v := .int ((zMvC (zMvN (mrow (mst (mst (mst (mrow v 8 (fb_put (v 8) (nxN v ρ) (e % 3 * 40) 40)) 4 (e % 3) (nI ρ)) 5 (e % 3) (nI (fb_ct (pNm v) 40))) 6 (e % 3) (nI (fb_ct (pMv v ρ) 40))) 7 (va_cpy ((mrow v 8 (fb_put (v 8) (nxN v ρ) (e % 3 * 40) 40)) 2) ((mrow v 8 (fb_put (v 8) (nxN v ρ) (e % 3 * 40) 40)) 7) 0 (e % 3 * 40) 40)) (e % 3 * 40)) (e % 3 * 40)) 12 0)) (C := RX1) (T := TX1) (N := 15) hx hb hts hinX1 hown hKK.1 hP 0 rfl rfl 4 (by decide) fl_60 (fun _ h9 => h9) rfl dX1_giveAnew_150 ?_
        refine z_top (v := nI e) he ?_
        refine lv_iconst (v := nI 1) hx hb dX1_giveAnew_153 (by decide) ?_
        refine z_add (v := nI (e + 1)) hx hb dX1_giveAnew_154 (nI_add _ _) ?_
        refine z_put (w2 := rollW G a (mst (mrow (zMvC (zMvN (mrow (mst (mst (mst (mrow v 8 (fb_put (v 8) (nxN v ρ) (e % 3 * 40) 40)) 4 (e % 3) (nI ρ)) 5 (e % 3) (nI (fb_ct (pNm v) 40))) 6 (e % 3) (nI (fb_ct (pMv v ρ) 40))) 7 (va_cpy ((mrow v 8 (fb_put (v 8) (nxN v ρ) (e % 3 * 40) 40)) 2) ((mrow v 8 (fb_put (v 8) (nxN v ρ) (e % 3 * 40) 40)) 7) 0 (e % 3 * 40) 40)) (e % 3 * 40)) (e % 3 * 40)) 9 (va_cpy ((zMvC (zMvN (mrow (mst (mst (mst (mrow v 8 (fb_put (v 8) (nxN v ρ) (e % 3 * 40) 40)) 4 (e % 3) (nI ρ)) 5 (e % 3) (nI (fb_ct (pNm v) 40))) 6 (e % 3) (nI (fb_ct (pMv v ρ) 40))) 7 (va_cpy ((mrow v 8 (fb_put (v 8) (nxN v ρ) (e % 3 * 40) 40)) 2) ((mrow v 8 (fb_put (v 8) (nxN v ρ) (e % 3 * 40) 40)) 7) 0 (e % 3 * 40) 40)) (e % 3 * 40)) (e % 3 * 40)) 2) ((zMvC (zMvN (mrow (mst (mst (mst (mrow v 8 (fb_put (v 8) (nxN v ρ) (e % 3 * 40) 40)) 4 (e % 3) (nI ρ)) 5 (e % 3) (nI (fb_ct (pNm v) 40))) 6 (e % 3) (nI (fb_ct (pMv v ρ) 40))) 7 (va_cpy ((mrow v 8 (fb_put (v 8) (nxN v ρ) (e % 3 * 40) 40)) 2) ((mrow v 8 (fb_put (v 8) (nxN v ρ) (e % 3 * 40) 40)) 7) 0 (e % 3 * 40) 40)) (e % 3 * 40)) (e % 3 * 40)) 9) 0 (e % 3 * 40) 40)) 12 0 (nI (e + 1)))) hx hb hts hinX1 tyX1 tyX1_ok nmX1 hown hKK hP hD hS 0 (ci := 1) (C := RX1) (T := TX1) (N := 15) rfl rfl 4 (by decide) fl_60 rfl rfl rfl (Nat.le_of_ble_eq_true rfl) rfl dX1_giveAnew_155 (fun H locs hP hD hS => ?_)
        refine lv_iload hx hb dX1_giveAnew_158 (lv_at hl 4 rfl) ?_
        exact z_iret hx hb hr hlk hP hD hS dX1_giveAnew_160 rfl rfl
      · skip
        refine lv_aload_n hx hb dX1_giveAnew_25 rfl (lv_at hl 0 rfl) ?_
        refine va_get (D := G.1) (ci := 1) (v := .ref (a 1)) (C := RX1) (T := TX1) (N := 15) hx hb hts hinX1 hown hKK.1 hP 0 rfl rfl 0 (by decide) fl_9 (fun _ h9 => h9) rfl dX1_giveAnew_26 ?_
        refine lv_iload hx hb dX1_giveAnew_29 (lv_at hl 5 rfl) ?_
        refine z_iald (n := 40) (f := (mrow v 8 (fb_put (v 8) (nxN v ρ) (e % 3 * 40) i)) 0) (v := v 0 i) hx hb hKK hP 1 rfl (by omega) (by decide) rfl dX1_giveAnew_31 ?_
        refine lv_if_ne (tgt := 39) hx hb dX1_giveAnew_32 (by decide) (fun c_3 => ?_) (fun c_3 => ?_)
        · skip
          refine lv_aload_n hx hb dX1_giveAnew_39 rfl (lv_at hl 0 rfl) ?_
          refine lv_iload hx hb dX1_giveAnew_40 (lv_at hl 5 rfl) ?_
          refine lv_iload_n hx hb dX1_giveAnew_42 rfl (lv_at hl 1 rfl) ?_
          refine z_callVI (As := [.int (nI i), .int (nI ρ)]) (rest := []) (wr := []) (C := RX1) F (c_X1_placeOf l G a (mrow v 8 (fb_put (v 8) (nxN v ρ) (e % 3 * 40) i)) (i) (ρ) (by omega) (by omega) hN) (cwV 2 hts gX1_giveAnew_X1_placeOf rfl rfl rfl (by decide +kernel) ⟨Nat.le_of_ble_eq_true rfl, Nat.le_of_ble_eq_true rfl⟩) hKK (z_recv hKK hP (q0 := 0) (ci := 1) rfl rfl) hP hD hS hA rfl hl.1 rfl (Nat.le_of_ble_eq_true rfl) ⟨Nat.zero_le _, Nat.zero_le _⟩ dX1_giveAnew_43 (fun H locs hP hD hS => ?_)
          have hP : va_P G.1 vwCl (rollW G a (mrow v 8 (fb_put (v 8) (nxN v ρ) (e % 3 * 40) i))) H := hP
          have hD : va_D A (rollW G a (mrow v 8 (fb_put (v 8) (nxN v ρ) (e % 3 * 40) i))) := hD
          refine z_top (v := nI (zPl v ρ i)) rfl ?_
          refine lv_istore (lv' := [(6, .int (nI (zPl v ρ i))), (0, .ref (a 0)), (1, .int (nI ρ)), (2, .int (nI (e % 3))), (3, .int (nI (e % 3 * 40))), (4, .int (nI (fb_ct (pMv v ρ) i))), (5, .int (nI i))]) hx hb dX1_giveAnew_46 hl (by decide) rfl (fun ls hl => ?_)
          refine lv_aload_n hx hb dX1_giveAnew_48 rfl (lv_at hl 1 rfl) ?_
          refine va_get (D := G.1) (ci := 1) (v := .ref (a 9)) (C := RX1) (T := TX1) (N := 15) hx hb hts hinX1 hown hKK.1 hP 0 rfl rfl 11 (by decide) fl_36 (fun _ h9 => h9) rfl dX1_giveAnew_49 ?_
          refine lv_iload_n hx hb dX1_giveAnew_52 rfl (lv_at hl 4 rfl) ?_
          refine lv_iload hx hb dX1_giveAnew_53 (lv_at hl 6 rfl) ?_
          refine z_add (v := nI ((e % 3 * 40) + i)) hx hb dX1_giveAnew_55 (nI_add _ _) ?_
          refine lv_iload hx hb dX1_giveAnew_56 (lv_at hl 0 rfl) ?_
          refine z_iast (n := 120) (f := (mrow v 8 (fb_put (v 8) (nxN v ρ) (e % 3 * 40) i)) 8) (w2 := rollW G a (mst (mrow v 8 (fb_put (v 8) (nxN v ρ) (e % 3 * 40) i)) 8 ((e % 3 * 40) + i) (nI (zPl v ρ i)))) hx hb hKK hP hD hS 9 rfl (by omega) (by decide) rfl dX1_giveAnew_58 (fun H locs hP hD hS => ?_)
          refine lv_iload hx hb dX1_giveAnew_59 (lv_at hl 0 rfl) ?_
          refine lv_iconst (v := (-1)) hx hb dX1_giveAnew_61 (by decide) ?_
          refine lv_icmp_eq (tgt := 75) hx hb dX1_giveAnew_62 (by decide) (fun c_4 => absurd c_4 (nI_nm1 (by omega))) (fun c_4 => ?_)
          refine lv_iload hx hb dX1_giveAnew_65 (lv_at hl 0 rfl) ?_
          refine lv_iload hx hb dX1_giveAnew_67 (lv_at hl 6 rfl) ?_
          refine z_eq (tgt := 75) hx hb dX1_giveAnew_69 (by decide) (by omega) (by omega) (fun c_5 => ?_) (fun c_5 => ?_)
          · skip
            rw [← fb_ct_f (p := pMv v ρ) (n := i) (by rw [pMv_eq, nxN_n c_3]; simp [c_5])] at hl
            refine lv_iinc (v := nI (i + 1)) (lv' := [(5, .int (nI (i + 1))), (6, .int (nI (zPl v ρ i))), (0, .ref (a 0)), (1, .int (nI ρ)), (2, .int (nI (e % 3))), (3, .int (nI (e % 3 * 40))), (4, .int (nI (fb_ct (pMv v ρ) (i + 1))))]) hx hb dX1_giveAnew_75 hl (k := 6) rfl (nI_1 _) (by decide) rfl (fun ls hl => ?_)
            refine lv_goto (tgt := 18) hx hb dX1_giveAnew_78 (by decide) ?_
            have es : mst (mrow v 8 (fb_put (v 8) (nxN v ρ) (e % 3 * 40) i)) 8 ((e % 3 * 40) + i) (nI (zPl v ρ i)) = mrow v 8 (fb_put (v 8) (nxN v ρ) (e % 3 * 40) (i + 1)) := by rw [mst_mrow, show nI (zPl v ρ i) = nxN v ρ i from (if_neg c_3).symm, fb_put_succ]
            rw [es] at hP hD
            exact ih_1 (i + 1) (by omega) (by omega) _ _ _ hP hD hS (lv_sub hl [2, 3, 4, 5, 6, 0] rfl)
          · skip
            refine lv_iinc (v := nI (fb_ct (pMv v ρ) (i + 1))) (lv' := [(4, .int (nI (fb_ct (pMv v ρ) (i + 1)))), (6, .int (nI (zPl v ρ i))), (0, .ref (a 0)), (1, .int (nI ρ)), (2, .int (nI (e % 3))), (3, .int (nI (e % 3 * 40))), (5, .int (nI i))]) hx hb dX1_giveAnew_72 hl (k := 5) rfl (by rw [fb_ct_t (p := pMv v ρ) (n := i) (by rw [pMv_eq, nxN_n c_3, decide_eq_true c_4, decide_eq_true (show ¬ nI (zPl v ρ i) = nI i from fun z => c_5 ((nI_eq (by omega) (by omega)).mp z))]; rfl)]; exact nI_1 _) (by decide) rfl (fun ls hl => ?_)
            refine lv_iinc (v := nI (i + 1)) (lv' := [(5, .int (nI (i + 1))), (4, .int (nI (fb_ct (pMv v ρ) (i + 1)))), (6, .int (nI (zPl v ρ i))), (0, .ref (a 0)), (1, .int (nI ρ)), (2, .int (nI (e % 3))), (3, .int (nI (e % 3 * 40)))]) hx hb dX1_giveAnew_75 hl (k := 6) rfl (nI_1 _) (by decide) rfl (fun ls hl => ?_)
            refine lv_goto (tgt := 18) hx hb dX1_giveAnew_78 (by decide) ?_
            have es : mst (mrow v 8 (fb_put (v 8) (nxN v ρ) (e % 3 * 40) i)) 8 ((e % 3 * 40) + i) (nI (zPl v ρ i)) = mrow v 8 (fb_put (v 8) (nxN v ρ) (e % 3 * 40) (i + 1)) := by rw [mst_mrow, show nI (zPl v ρ i) = nxN v ρ i from (if_neg c_3).symm, fb_put_succ]
            rw [es] at hP hD
            exact ih_1 (i + 1) (by omega) (by omega) _ _ _ hP hD hS (lv_sub hl [3, 4, 5, 6, 1, 0] rfl)
        · skip
          refine lv_iconst (v := (-1)) hx hb dX1_giveAnew_35 (by decide) ?_
          refine lv_goto (tgt := 46) hx hb dX1_giveAnew_36 (by decide) ?_
          refine lv_istore (lv' := [(6, .int ((-1))), (0, .ref (a 0)), (1, .int (nI ρ)), (2, .int (nI (e % 3))), (3, .int (nI (e % 3 * 40))), (4, .int (nI (fb_ct (pMv v ρ) i))), (5, .int (nI i))]) hx hb dX1_giveAnew_46 hl (by decide) rfl (fun ls hl => ?_)
          refine lv_aload_n hx hb dX1_giveAnew_48 rfl (lv_at hl 1 rfl) ?_
          refine va_get (D := G.1) (ci := 1) (v := .ref (a 9)) (C := RX1) (T := TX1) (N := 15) hx hb hts hinX1 hown hKK.1 hP 0 rfl rfl 11 (by decide) fl_36 (fun _ h9 => h9) rfl dX1_giveAnew_49 ?_
          refine lv_iload_n hx hb dX1_giveAnew_52 rfl (lv_at hl 4 rfl) ?_
          refine lv_iload hx hb dX1_giveAnew_53 (lv_at hl 6 rfl) ?_
          refine z_add (v := nI ((e % 3 * 40) + i)) hx hb dX1_giveAnew_55 (nI_add _ _) ?_
          refine lv_iload hx hb dX1_giveAnew_56 (lv_at hl 0 rfl) ?_
          refine z_iast (n := 120) (f := (mrow v 8 (fb_put (v 8) (nxN v ρ) (e % 3 * 40) i)) 8) (w2 := rollW G a (mst (mrow v 8 (fb_put (v 8) (nxN v ρ) (e % 3 * 40) i)) 8 ((e % 3 * 40) + i) ((-1)))) hx hb hKK hP hD hS 9 rfl (by omega) (by decide) rfl dX1_giveAnew_58 (fun H locs hP hD hS => ?_)
          refine lv_iload hx hb dX1_giveAnew_59 (lv_at hl 0 rfl) ?_
          refine lv_iconst (v := (-1)) hx hb dX1_giveAnew_61 (by decide) ?_
          refine lv_icmp_eq (tgt := 75) hx hb dX1_giveAnew_62 (by decide) (fun c_6 => ?_) (fun c_6 => absurd rfl c_6)
          rw [← fb_ct_f (p := pMv v ρ) (n := i) (by simp [pMv, nxN, c_3])] at hl
          refine lv_iinc (v := nI (i + 1)) (lv' := [(5, .int (nI (i + 1))), (6, .int ((-1))), (0, .ref (a 0)), (1, .int (nI ρ)), (2, .int (nI (e % 3))), (3, .int (nI (e % 3 * 40))), (4, .int (nI (fb_ct (pMv v ρ) (i + 1))))]) hx hb dX1_giveAnew_75 hl (k := 6) rfl (nI_1 _) (by decide) rfl (fun ls hl => ?_)
          refine lv_goto (tgt := 18) hx hb dX1_giveAnew_78 (by decide) ?_
          have es : mst (mrow v 8 (fb_put (v 8) (nxN v ρ) (e % 3 * 40) i)) 8 ((e % 3 * 40) + i) ((-1)) = mrow v 8 (fb_put (v 8) (nxN v ρ) (e % 3 * 40) (i + 1)) := by rw [mst_mrow, show (-1) = nxN v ρ i from (if_pos c_3).symm, fb_put_succ]
          rw [es] at hP hD
          exact ih_1 (i + 1) (by omega) (by omega) _ _ _ hP hD hS (lv_sub hl [2, 3, 4, 5, 6, 0] rfl)
  have es : v = mrow v 8 (fb_put (v 8) (nxN v ρ) (e % 3 * 40) 0) := by rw [fb_put_0, mrow_self]
  rw [es] at hP hD
  exact key_1 _ 0 (by omega) (Nat.lt_succ_self _) _ _ _ hP hD hS (lv_sub hl [4, 5, 3, 2, 1, 0] rfl)

set_option maxHeartbeats 4000000 in
set_option maxRecDepth 100000 in
theorem c_X1_copyFrom (l : Launch) (G : ZG) (a b : Nat → Nat) (v w : Mem)  : CV l G yX1_copyFrom wsX1_copyFrom (zRm 1 40) [.ref (a 0), .ref (b 0)] ((rollW G a v ++ rollW G b w)) ((rollW G a (zCopy v w) ++ rollW G b w)) := by
  refine CV.ent (cc := cX1_copyFrom) (maxL := 2) (own := RX1) (by decide) rfl rfl (Nat.le_of_ble_eq_true rfl) ?_
  intro p ee s m args below meth c A ls F hr hlk hKK hP hD hA hS hl
  obtain ⟨hx, hb, hml, hown, hts⟩ := id F
  have hl : lv_has ls 2 [(0, .ref (a 0)), (1, .ref (b 0))] := hl
  have fl_9 := hts (.fieldLink RX1 9 "NameRolls$Roll" "names" "[I") (by decide +kernel)
  have fl_15 := hts (.fieldLink RX1 15 "NameRolls$Roll" "users" "[I") (by decide +kernel)
  have fl_18 := hts (.fieldLink RX1 18 "NameRolls$Roll" "years" "[I") (by decide +kernel)
  have fl_21 := hts (.fieldLink RX1 21 "NameRolls$Roll" "cells" "[I") (by decide +kernel)
  have fl_24 := hts (.fieldLink RX1 24 "NameRolls$Roll" "rules" "[I") (by decide +kernel)
  have fl_27 := hts (.fieldLink RX1 27 "NameRolls$Roll" "namesThen" "[I") (by decide +kernel)
  have fl_30 := hts (.fieldLink RX1 30 "NameRolls$Roll" "movedThen" "[I") (by decide +kernel)
  have fl_33 := hts (.fieldLink RX1 33 "NameRolls$Roll" "yearsThen" "[I") (by decide +kernel)
  have fl_36 := hts (.fieldLink RX1 36 "NameRolls$Roll" "numbersBehind" "[I") (by decide +kernel)
  have fl_39 := hts (.fieldLink RX1 39 "NameRolls$Roll" "yearsBehind" "[I") (by decide +kernel)
  have fl_60 := hts (.fieldLink RX1 60 "NameRolls$Roll" "epoch" "I") (by decide +kernel)
  have fl_64 := hts (.fieldLink RX1 64 "NameRolls$Roll" "gained" "I") (by decide +kernel)
  have fl_67 := hts (.fieldLink RX1 67 "NameRolls$Roll" "lost" "I") (by decide +kernel)
  have hinX1 : ∀ w ∈ wsX10, w ∈ wsX1_copyFrom := by decide +kernel
  have aci := hts (.initialized "java/lang/System") (by decide +kernel)
  have acl := hts (.methodLink RX1 54 arraycopyName) (by decide +kernel)
  have acn := hts (.native arraycopyName) (by decide +kernel)
  have acs := hts (.static arraycopyName) (by decide +kernel)
  refine lv_aload_n hx hb dX1_copyFrom_0 rfl (lv_at hl 1 rfl) ?_
  refine va_get (D := G.1) (ci := 1) (v := .ref (b 1)) (C := RX1) (T := TX1) (N := 15) hx hb hts hinX1 hown hKK.1 hP 13 rfl rfl 0 (by decide) fl_9 (fun _ h9 => h9) rfl dX1_copyFrom_1 ?_
  refine lv_iconst (v := nI 0) hx hb dX1_copyFrom_4 (by decide) ?_
  refine lv_aload_n hx hb dX1_copyFrom_5 rfl (lv_at hl 0 rfl) ?_
  refine va_get (D := G.1) (ci := 1) (v := .ref (a 1)) (C := RX1) (T := TX1) (N := 15) hx hb hts hinX1 hown hKK.1 hP 0 rfl rfl 0 (by decide) fl_9 (fun _ h9 => h9) rfl dX1_copyFrom_6 ?_
  refine lv_iconst (v := nI 0) hx hb dX1_copyFrom_9 (by decide) ?_
  refine lv_aload_n hx hb dX1_copyFrom_10 rfl (lv_at hl 0 rfl) ?_
  refine va_get (D := G.1) (ci := 1) (v := .ref (a 1)) (C := RX1) (T := TX1) (N := 15) hx hb hts hinX1 hown hKK.1 hP 0 rfl rfl 0 (by decide) fl_9 (fun _ h9 => h9) rfl dX1_copyFrom_11 ?_
  refine z_alen (n := 40) hx hb hKK hP 1 rfl dX1_copyFrom_14 ?_
  refine z_copy (n0 := 40) (n1 := 40) (f := w 0) (g := v 0) (w2 := (rollW G a (mrow v 0 (va_cpy (w 0) (v 0) 0 0 40)) ++ rollW G b w)) hx hb (hml.trans hl.1.symm) hown acl acn acs aci hKK hP hD hS 14 1 rfl rfl (by omega) (by omega) (by decide) (by decide) rfl (Nat.le_of_ble_eq_true rfl) (Nat.le_of_ble_eq_true rfl) dX1_copyFrom_15 (fun H locs hP hD hS => ?_)
  refine lv_aload_n hx hb dX1_copyFrom_18 rfl (lv_at hl 1 rfl) ?_
  refine va_get (D := G.1) (ci := 1) (v := .ref (b 2)) (C := RX1) (T := TX1) (N := 15) hx hb hts hinX1 hown hKK.1 hP 13 rfl rfl 1 (by decide) fl_15 (fun _ h9 => h9) rfl dX1_copyFrom_19 ?_
  refine lv_iconst (v := nI 0) hx hb dX1_copyFrom_22 (by decide) ?_
  refine lv_aload_n hx hb dX1_copyFrom_23 rfl (lv_at hl 0 rfl) ?_
  refine va_get (D := G.1) (ci := 1) (v := .ref (a 2)) (C := RX1) (T := TX1) (N := 15) hx hb hts hinX1 hown hKK.1 hP 0 rfl rfl 1 (by decide) fl_15 (fun _ h9 => h9) rfl dX1_copyFrom_24 ?_
  refine lv_iconst (v := nI 0) hx hb dX1_copyFrom_27 (by decide) ?_
  refine lv_aload_n hx hb dX1_copyFrom_28 rfl (lv_at hl 0 rfl) ?_
  refine va_get (D := G.1) (ci := 1) (v := .ref (a 2)) (C := RX1) (T := TX1) (N := 15) hx hb hts hinX1 hown hKK.1 hP 0 rfl rfl 1 (by decide) fl_15 (fun _ h9 => h9) rfl dX1_copyFrom_29 ?_
  refine z_alen (n := 40) hx hb hKK hP 2 rfl dX1_copyFrom_32 ?_
  refine z_copy (n0 := 40) (n1 := 40) (f := w 1) (g := v 1) (w2 := (rollW G a (mrow (mrow v 0 (va_cpy (w 0) (v 0) 0 0 40)) 1 (va_cpy (w 1) (v 1) 0 0 40)) ++ rollW G b w)) hx hb (hml.trans hl.1.symm) hown acl acn acs aci hKK hP hD hS 15 2 rfl rfl (by omega) (by omega) (by decide) (by decide) rfl (Nat.le_of_ble_eq_true rfl) (Nat.le_of_ble_eq_true rfl) dX1_copyFrom_33 (fun H locs hP hD hS => ?_)
  refine lv_aload_n hx hb dX1_copyFrom_36 rfl (lv_at hl 1 rfl) ?_
  refine va_get (D := G.1) (ci := 1) (v := .ref (b 3)) (C := RX1) (T := TX1) (N := 15) hx hb hts hinX1 hown hKK.1 hP 13 rfl rfl 2 (by decide) fl_18 (fun _ h9 => h9) rfl dX1_copyFrom_37 ?_
  refine lv_iconst (v := nI 0) hx hb dX1_copyFrom_40 (by decide) ?_
  refine lv_aload_n hx hb dX1_copyFrom_41 rfl (lv_at hl 0 rfl) ?_
  refine va_get (D := G.1) (ci := 1) (v := .ref (a 3)) (C := RX1) (T := TX1) (N := 15) hx hb hts hinX1 hown hKK.1 hP 0 rfl rfl 2 (by decide) fl_18 (fun _ h9 => h9) rfl dX1_copyFrom_42 ?_
  refine lv_iconst (v := nI 0) hx hb dX1_copyFrom_45 (by decide) ?_
  refine lv_aload_n hx hb dX1_copyFrom_46 rfl (lv_at hl 0 rfl) ?_
  refine va_get (D := G.1) (ci := 1) (v := .ref (a 3)) (C := RX1) (T := TX1) (N := 15) hx hb hts hinX1 hown hKK.1 hP 0 rfl rfl 2 (by decide) fl_18 (fun _ h9 => h9) rfl dX1_copyFrom_47 ?_
  refine z_alen (n := 40) hx hb hKK hP 3 rfl dX1_copyFrom_50 ?_
  refine z_copy (n0 := 40) (n1 := 40) (f := w 2) (g := v 2) (w2 := (rollW G a (mrow (mrow (mrow v 0 (va_cpy (w 0) (v 0) 0 0 40)) 1 (va_cpy (w 1) (v 1) 0 0 40)) 2 (va_cpy (w 2) (v 2) 0 0 40)) ++ rollW G b w)) hx hb (hml.trans hl.1.symm) hown acl acn acs aci hKK hP hD hS 16 3 rfl rfl (by omega) (by omega) (by decide) (by decide) rfl (Nat.le_of_ble_eq_true rfl) (Nat.le_of_ble_eq_true rfl) dX1_copyFrom_51 (fun H locs hP hD hS => ?_)
  refine lv_aload_n hx hb dX1_copyFrom_54 rfl (lv_at hl 1 rfl) ?_
  refine va_get (D := G.1) (ci := 1) (v := .ref (b 4)) (C := RX1) (T := TX1) (N := 15) hx hb hts hinX1 hown hKK.1 hP 13 rfl rfl 3 (by decide) fl_21 (fun _ h9 => h9) rfl dX1_copyFrom_55 ?_
  refine lv_iconst (v := nI 0) hx hb dX1_copyFrom_58 (by decide) ?_
  refine lv_aload_n hx hb dX1_copyFrom_59 rfl (lv_at hl 0 rfl) ?_
  refine va_get (D := G.1) (ci := 1) (v := .ref (a 4)) (C := RX1) (T := TX1) (N := 15) hx hb hts hinX1 hown hKK.1 hP 0 rfl rfl 3 (by decide) fl_21 (fun _ h9 => h9) rfl dX1_copyFrom_60 ?_
  refine lv_iconst (v := nI 0) hx hb dX1_copyFrom_63 (by decide) ?_
  refine lv_aload_n hx hb dX1_copyFrom_64 rfl (lv_at hl 0 rfl) ?_
  refine va_get (D := G.1) (ci := 1) (v := .ref (a 4)) (C := RX1) (T := TX1) (N := 15) hx hb hts hinX1 hown hKK.1 hP 0 rfl rfl 3 (by decide) fl_21 (fun _ h9 => h9) rfl dX1_copyFrom_65 ?_
  refine z_alen (n := 18) hx hb hKK hP 4 rfl dX1_copyFrom_68 ?_
  refine z_copy (n0 := 18) (n1 := 18) (f := w 3) (g := v 3) (w2 := (rollW G a (mrow (mrow (mrow (mrow v 0 (va_cpy (w 0) (v 0) 0 0 40)) 1 (va_cpy (w 1) (v 1) 0 0 40)) 2 (va_cpy (w 2) (v 2) 0 0 40)) 3 (va_cpy (w 3) (v 3) 0 0 18)) ++ rollW G b w)) hx hb (hml.trans hl.1.symm) hown acl acn acs aci hKK hP hD hS 17 4 rfl rfl (by omega) (by omega) (by decide) (by decide) rfl (Nat.le_of_ble_eq_true rfl) (Nat.le_of_ble_eq_true rfl) dX1_copyFrom_69 (fun H locs hP hD hS => ?_)
  refine lv_aload_n hx hb dX1_copyFrom_72 rfl (lv_at hl 0 rfl) ?_
  refine lv_aload_n hx hb dX1_copyFrom_73 rfl (lv_at hl 1 rfl) ?_
  refine va_get (D := G.1) (ci := 1) (v := .int (w 12 0)) (C := RX1) (T := TX1) (N := 15) hx hb hts hinX1 hown hKK.1 hP 13 rfl rfl 4 (by decide) fl_60 (fun _ h9 => h9) rfl dX1_copyFrom_74 ?_
  refine z_put (w2 := (rollW G a (mst (mrow (mrow (mrow (mrow v 0 (va_cpy (w 0) (v 0) 0 0 40)) 1 (va_cpy (w 1) (v 1) 0 0 40)) 2 (va_cpy (w 2) (v 2) 0 0 40)) 3 (va_cpy (w 3) (v 3) 0 0 18)) 12 0 (w 12 0)) ++ rollW G b w)) hx hb hts hinX1 tyX1 tyX1_ok nmX1 hown hKK hP hD hS 0 (ci := 1) (C := RX1) (T := TX1) (N := 15) rfl rfl 4 (by decide) fl_60 rfl rfl rfl (Nat.le_of_ble_eq_true rfl) rfl dX1_copyFrom_77 (fun H locs hP hD hS => ?_)
  refine lv_aload_n hx hb dX1_copyFrom_80 rfl (lv_at hl 0 rfl) ?_
  refine lv_aload_n hx hb dX1_copyFrom_81 rfl (lv_at hl 1 rfl) ?_
  refine va_get (D := G.1) (ci := 1) (v := .int (w 12 1)) (C := RX1) (T := TX1) (N := 15) hx hb hts hinX1 hown hKK.1 hP 13 rfl rfl 5 (by decide) fl_64 (fun _ h9 => h9) rfl dX1_copyFrom_82 ?_
  refine z_put (w2 := (rollW G a (mst (mst (mrow (mrow (mrow (mrow v 0 (va_cpy (w 0) (v 0) 0 0 40)) 1 (va_cpy (w 1) (v 1) 0 0 40)) 2 (va_cpy (w 2) (v 2) 0 0 40)) 3 (va_cpy (w 3) (v 3) 0 0 18)) 12 0 (w 12 0)) 12 1 (w 12 1)) ++ rollW G b w)) hx hb hts hinX1 tyX1 tyX1_ok nmX1 hown hKK hP hD hS 0 (ci := 1) (C := RX1) (T := TX1) (N := 15) rfl rfl 5 (by decide) fl_64 rfl rfl rfl (Nat.le_of_ble_eq_true rfl) rfl dX1_copyFrom_85 (fun H locs hP hD hS => ?_)
  refine lv_aload_n hx hb dX1_copyFrom_88 rfl (lv_at hl 0 rfl) ?_
  refine lv_aload_n hx hb dX1_copyFrom_89 rfl (lv_at hl 1 rfl) ?_
  refine va_get (D := G.1) (ci := 1) (v := .int (w 12 2)) (C := RX1) (T := TX1) (N := 15) hx hb hts hinX1 hown hKK.1 hP 13 rfl rfl 6 (by decide) fl_67 (fun _ h9 => h9) rfl dX1_copyFrom_90 ?_
  refine z_put (w2 := (rollW G a (mst (mst (mst (mrow (mrow (mrow (mrow v 0 (va_cpy (w 0) (v 0) 0 0 40)) 1 (va_cpy (w 1) (v 1) 0 0 40)) 2 (va_cpy (w 2) (v 2) 0 0 40)) 3 (va_cpy (w 3) (v 3) 0 0 18)) 12 0 (w 12 0)) 12 1 (w 12 1)) 12 2 (w 12 2)) ++ rollW G b w)) hx hb hts hinX1 tyX1 tyX1_ok nmX1 hown hKK hP hD hS 0 (ci := 1) (C := RX1) (T := TX1) (N := 15) rfl rfl 6 (by decide) fl_67 rfl rfl rfl (Nat.le_of_ble_eq_true rfl) rfl dX1_copyFrom_93 (fun H locs hP hD hS => ?_)
  refine lv_aload_n hx hb dX1_copyFrom_96 rfl (lv_at hl 1 rfl) ?_
  refine va_get (D := G.1) (ci := 1) (v := .ref (b 5)) (C := RX1) (T := TX1) (N := 15) hx hb hts hinX1 hown hKK.1 hP 13 rfl rfl 7 (by decide) fl_24 (fun _ h9 => h9) rfl dX1_copyFrom_97 ?_
  refine lv_iconst (v := nI 0) hx hb dX1_copyFrom_100 (by decide) ?_
  refine lv_aload_n hx hb dX1_copyFrom_101 rfl (lv_at hl 0 rfl) ?_
  refine va_get (D := G.1) (ci := 1) (v := .ref (a 5)) (C := RX1) (T := TX1) (N := 15) hx hb hts hinX1 hown hKK.1 hP 0 rfl rfl 7 (by decide) fl_24 (fun _ h9 => h9) rfl dX1_copyFrom_102 ?_
  refine lv_iconst (v := nI 0) hx hb dX1_copyFrom_105 (by decide) ?_
  refine lv_aload_n hx hb dX1_copyFrom_106 rfl (lv_at hl 0 rfl) ?_
  refine va_get (D := G.1) (ci := 1) (v := .ref (a 5)) (C := RX1) (T := TX1) (N := 15) hx hb hts hinX1 hown hKK.1 hP 0 rfl rfl 7 (by decide) fl_24 (fun _ h9 => h9) rfl dX1_copyFrom_107 ?_
  refine z_alen (n := 3) hx hb hKK hP 5 rfl dX1_copyFrom_110 ?_
  refine z_copy (n0 := 3) (n1 := 3) (f := w 4) (g := v 4) (w2 := (rollW G a (mrow (mst (mst (mst (mrow (mrow (mrow (mrow v 0 (va_cpy (w 0) (v 0) 0 0 40)) 1 (va_cpy (w 1) (v 1) 0 0 40)) 2 (va_cpy (w 2) (v 2) 0 0 40)) 3 (va_cpy (w 3) (v 3) 0 0 18)) 12 0 (w 12 0)) 12 1 (w 12 1)) 12 2 (w 12 2)) 4 (va_cpy (w 4) (v 4) 0 0 3)) ++ rollW G b w)) hx hb (hml.trans hl.1.symm) hown acl acn acs aci hKK hP hD hS 18 5 rfl rfl (by omega) (by omega) (by decide) (by decide) rfl (Nat.le_of_ble_eq_true rfl) (Nat.le_of_ble_eq_true rfl) dX1_copyFrom_111 (fun H locs hP hD hS => ?_)
  refine lv_aload_n hx hb dX1_copyFrom_114 rfl (lv_at hl 1 rfl) ?_
  refine va_get (D := G.1) (ci := 1) (v := .ref (b 6)) (C := RX1) (T := TX1) (N := 15) hx hb hts hinX1 hown hKK.1 hP 13 rfl rfl 8 (by decide) fl_27 (fun _ h9 => h9) rfl dX1_copyFrom_115 ?_
  refine lv_iconst (v := nI 0) hx hb dX1_copyFrom_118 (by decide) ?_
  refine lv_aload_n hx hb dX1_copyFrom_119 rfl (lv_at hl 0 rfl) ?_
  refine va_get (D := G.1) (ci := 1) (v := .ref (a 6)) (C := RX1) (T := TX1) (N := 15) hx hb hts hinX1 hown hKK.1 hP 0 rfl rfl 8 (by decide) fl_27 (fun _ h9 => h9) rfl dX1_copyFrom_120 ?_
  refine lv_iconst (v := nI 0) hx hb dX1_copyFrom_123 (by decide) ?_
  refine lv_aload_n hx hb dX1_copyFrom_124 rfl (lv_at hl 0 rfl) ?_
  refine va_get (D := G.1) (ci := 1) (v := .ref (a 6)) (C := RX1) (T := TX1) (N := 15) hx hb hts hinX1 hown hKK.1 hP 0 rfl rfl 8 (by decide) fl_27 (fun _ h9 => h9) rfl dX1_copyFrom_125 ?_
  refine z_alen (n := 3) hx hb hKK hP 6 rfl dX1_copyFrom_128 ?_
  refine z_copy (n0 := 3) (n1 := 3) (f := w 5) (g := v 5) (w2 := (rollW G a (mrow (mrow (mst (mst (mst (mrow (mrow (mrow (mrow v 0 (va_cpy (w 0) (v 0) 0 0 40)) 1 (va_cpy (w 1) (v 1) 0 0 40)) 2 (va_cpy (w 2) (v 2) 0 0 40)) 3 (va_cpy (w 3) (v 3) 0 0 18)) 12 0 (w 12 0)) 12 1 (w 12 1)) 12 2 (w 12 2)) 4 (va_cpy (w 4) (v 4) 0 0 3)) 5 (va_cpy (w 5) (v 5) 0 0 3)) ++ rollW G b w)) hx hb (hml.trans hl.1.symm) hown acl acn acs aci hKK hP hD hS 19 6 rfl rfl (by omega) (by omega) (by decide) (by decide) rfl (Nat.le_of_ble_eq_true rfl) (Nat.le_of_ble_eq_true rfl) dX1_copyFrom_129 (fun H locs hP hD hS => ?_)
  refine lv_aload_n hx hb dX1_copyFrom_132 rfl (lv_at hl 1 rfl) ?_
  refine va_get (D := G.1) (ci := 1) (v := .ref (b 7)) (C := RX1) (T := TX1) (N := 15) hx hb hts hinX1 hown hKK.1 hP 13 rfl rfl 9 (by decide) fl_30 (fun _ h9 => h9) rfl dX1_copyFrom_133 ?_
  refine lv_iconst (v := nI 0) hx hb dX1_copyFrom_136 (by decide) ?_
  refine lv_aload_n hx hb dX1_copyFrom_137 rfl (lv_at hl 0 rfl) ?_
  refine va_get (D := G.1) (ci := 1) (v := .ref (a 7)) (C := RX1) (T := TX1) (N := 15) hx hb hts hinX1 hown hKK.1 hP 0 rfl rfl 9 (by decide) fl_30 (fun _ h9 => h9) rfl dX1_copyFrom_138 ?_
  refine lv_iconst (v := nI 0) hx hb dX1_copyFrom_141 (by decide) ?_
  refine lv_aload_n hx hb dX1_copyFrom_142 rfl (lv_at hl 0 rfl) ?_
  refine va_get (D := G.1) (ci := 1) (v := .ref (a 7)) (C := RX1) (T := TX1) (N := 15) hx hb hts hinX1 hown hKK.1 hP 0 rfl rfl 9 (by decide) fl_30 (fun _ h9 => h9) rfl dX1_copyFrom_143 ?_
  refine z_alen (n := 3) hx hb hKK hP 7 rfl dX1_copyFrom_146 ?_
  refine z_copy (n0 := 3) (n1 := 3) (f := w 6) (g := v 6) (w2 := (rollW G a (mrow (mrow (mrow (mst (mst (mst (mrow (mrow (mrow (mrow v 0 (va_cpy (w 0) (v 0) 0 0 40)) 1 (va_cpy (w 1) (v 1) 0 0 40)) 2 (va_cpy (w 2) (v 2) 0 0 40)) 3 (va_cpy (w 3) (v 3) 0 0 18)) 12 0 (w 12 0)) 12 1 (w 12 1)) 12 2 (w 12 2)) 4 (va_cpy (w 4) (v 4) 0 0 3)) 5 (va_cpy (w 5) (v 5) 0 0 3)) 6 (va_cpy (w 6) (v 6) 0 0 3)) ++ rollW G b w)) hx hb (hml.trans hl.1.symm) hown acl acn acs aci hKK hP hD hS 20 7 rfl rfl (by omega) (by omega) (by decide) (by decide) rfl (Nat.le_of_ble_eq_true rfl) (Nat.le_of_ble_eq_true rfl) dX1_copyFrom_147 (fun H locs hP hD hS => ?_)
  refine lv_aload_n hx hb dX1_copyFrom_150 rfl (lv_at hl 1 rfl) ?_
  refine va_get (D := G.1) (ci := 1) (v := .ref (b 8)) (C := RX1) (T := TX1) (N := 15) hx hb hts hinX1 hown hKK.1 hP 13 rfl rfl 10 (by decide) fl_33 (fun _ h9 => h9) rfl dX1_copyFrom_151 ?_
  refine lv_iconst (v := nI 0) hx hb dX1_copyFrom_154 (by decide) ?_
  refine lv_aload_n hx hb dX1_copyFrom_155 rfl (lv_at hl 0 rfl) ?_
  refine va_get (D := G.1) (ci := 1) (v := .ref (a 8)) (C := RX1) (T := TX1) (N := 15) hx hb hts hinX1 hown hKK.1 hP 0 rfl rfl 10 (by decide) fl_33 (fun _ h9 => h9) rfl dX1_copyFrom_156 ?_
  refine lv_iconst (v := nI 0) hx hb dX1_copyFrom_159 (by decide) ?_
  refine lv_aload_n hx hb dX1_copyFrom_160 rfl (lv_at hl 0 rfl) ?_
  refine va_get (D := G.1) (ci := 1) (v := .ref (a 8)) (C := RX1) (T := TX1) (N := 15) hx hb hts hinX1 hown hKK.1 hP 0 rfl rfl 10 (by decide) fl_33 (fun _ h9 => h9) rfl dX1_copyFrom_161 ?_
  refine z_alen (n := 120) hx hb hKK hP 8 rfl dX1_copyFrom_164 ?_
  refine z_copy (n0 := 120) (n1 := 120) (f := w 7) (g := v 7) (w2 := (rollW G a (mrow (mrow (mrow (mrow (mst (mst (mst (mrow (mrow (mrow (mrow v 0 (va_cpy (w 0) (v 0) 0 0 40)) 1 (va_cpy (w 1) (v 1) 0 0 40)) 2 (va_cpy (w 2) (v 2) 0 0 40)) 3 (va_cpy (w 3) (v 3) 0 0 18)) 12 0 (w 12 0)) 12 1 (w 12 1)) 12 2 (w 12 2)) 4 (va_cpy (w 4) (v 4) 0 0 3)) 5 (va_cpy (w 5) (v 5) 0 0 3)) 6 (va_cpy (w 6) (v 6) 0 0 3)) 7 (va_cpy (w 7) (v 7) 0 0 120)) ++ rollW G b w)) hx hb (hml.trans hl.1.symm) hown acl acn acs aci hKK hP hD hS 21 8 rfl rfl (by omega) (by omega) (by decide) (by decide) rfl (Nat.le_of_ble_eq_true rfl) (Nat.le_of_ble_eq_true rfl) dX1_copyFrom_165 (fun H locs hP hD hS => ?_)
  refine lv_aload_n hx hb dX1_copyFrom_168 rfl (lv_at hl 1 rfl) ?_
  refine va_get (D := G.1) (ci := 1) (v := .ref (b 9)) (C := RX1) (T := TX1) (N := 15) hx hb hts hinX1 hown hKK.1 hP 13 rfl rfl 11 (by decide) fl_36 (fun _ h9 => h9) rfl dX1_copyFrom_169 ?_
  refine lv_iconst (v := nI 0) hx hb dX1_copyFrom_172 (by decide) ?_
  refine lv_aload_n hx hb dX1_copyFrom_173 rfl (lv_at hl 0 rfl) ?_
  refine va_get (D := G.1) (ci := 1) (v := .ref (a 9)) (C := RX1) (T := TX1) (N := 15) hx hb hts hinX1 hown hKK.1 hP 0 rfl rfl 11 (by decide) fl_36 (fun _ h9 => h9) rfl dX1_copyFrom_174 ?_
  refine lv_iconst (v := nI 0) hx hb dX1_copyFrom_177 (by decide) ?_
  refine lv_aload_n hx hb dX1_copyFrom_178 rfl (lv_at hl 0 rfl) ?_
  refine va_get (D := G.1) (ci := 1) (v := .ref (a 9)) (C := RX1) (T := TX1) (N := 15) hx hb hts hinX1 hown hKK.1 hP 0 rfl rfl 11 (by decide) fl_36 (fun _ h9 => h9) rfl dX1_copyFrom_179 ?_
  refine z_alen (n := 120) hx hb hKK hP 9 rfl dX1_copyFrom_182 ?_
  refine z_copy (n0 := 120) (n1 := 120) (f := w 8) (g := v 8) (w2 := (rollW G a (mrow (mrow (mrow (mrow (mrow (mst (mst (mst (mrow (mrow (mrow (mrow v 0 (va_cpy (w 0) (v 0) 0 0 40)) 1 (va_cpy (w 1) (v 1) 0 0 40)) 2 (va_cpy (w 2) (v 2) 0 0 40)) 3 (va_cpy (w 3) (v 3) 0 0 18)) 12 0 (w 12 0)) 12 1 (w 12 1)) 12 2 (w 12 2)) 4 (va_cpy (w 4) (v 4) 0 0 3)) 5 (va_cpy (w 5) (v 5) 0 0 3)) 6 (va_cpy (w 6) (v 6) 0 0 3)) 7 (va_cpy (w 7) (v 7) 0 0 120)) 8 (va_cpy (w 8) (v 8) 0 0 120)) ++ rollW G b w)) hx hb (hml.trans hl.1.symm) hown acl acn acs aci hKK hP hD hS 22 9 rfl rfl (by omega) (by omega) (by decide) (by decide) rfl (Nat.le_of_ble_eq_true rfl) (Nat.le_of_ble_eq_true rfl) dX1_copyFrom_183 (fun H locs hP hD hS => ?_)
  refine lv_aload_n hx hb dX1_copyFrom_186 rfl (lv_at hl 1 rfl) ?_
  refine va_get (D := G.1) (ci := 1) (v := .ref (b 10)) (C := RX1) (T := TX1) (N := 15) hx hb hts hinX1 hown hKK.1 hP 13 rfl rfl 12 (by decide) fl_39 (fun _ h9 => h9) rfl dX1_copyFrom_187 ?_
  refine lv_iconst (v := nI 0) hx hb dX1_copyFrom_190 (by decide) ?_
  refine lv_aload_n hx hb dX1_copyFrom_191 rfl (lv_at hl 0 rfl) ?_
  refine va_get (D := G.1) (ci := 1) (v := .ref (a 10)) (C := RX1) (T := TX1) (N := 15) hx hb hts hinX1 hown hKK.1 hP 0 rfl rfl 12 (by decide) fl_39 (fun _ h9 => h9) rfl dX1_copyFrom_192 ?_
  refine lv_iconst (v := nI 0) hx hb dX1_copyFrom_195 (by decide) ?_
  refine lv_aload_n hx hb dX1_copyFrom_196 rfl (lv_at hl 0 rfl) ?_
  refine va_get (D := G.1) (ci := 1) (v := .ref (a 10)) (C := RX1) (T := TX1) (N := 15) hx hb hts hinX1 hown hKK.1 hP 0 rfl rfl 12 (by decide) fl_39 (fun _ h9 => h9) rfl dX1_copyFrom_197 ?_
  refine z_alen (n := 120) hx hb hKK hP 10 rfl dX1_copyFrom_200 ?_
  refine z_copy (n0 := 120) (n1 := 120) (f := w 9) (g := v 9) (w2 := (rollW G a (mrow (mrow (mrow (mrow (mrow (mrow (mst (mst (mst (mrow (mrow (mrow (mrow v 0 (va_cpy (w 0) (v 0) 0 0 40)) 1 (va_cpy (w 1) (v 1) 0 0 40)) 2 (va_cpy (w 2) (v 2) 0 0 40)) 3 (va_cpy (w 3) (v 3) 0 0 18)) 12 0 (w 12 0)) 12 1 (w 12 1)) 12 2 (w 12 2)) 4 (va_cpy (w 4) (v 4) 0 0 3)) 5 (va_cpy (w 5) (v 5) 0 0 3)) 6 (va_cpy (w 6) (v 6) 0 0 3)) 7 (va_cpy (w 7) (v 7) 0 0 120)) 8 (va_cpy (w 8) (v 8) 0 0 120)) 9 (va_cpy (w 9) (v 9) 0 0 120)) ++ rollW G b w)) hx hb (hml.trans hl.1.symm) hown acl acn acs aci hKK hP hD hS 23 10 rfl rfl (by omega) (by omega) (by decide) (by decide) rfl (Nat.le_of_ble_eq_true rfl) (Nat.le_of_ble_eq_true rfl) dX1_copyFrom_201 (fun H locs hP hD hS => ?_)
  exact z_vret hx hb hr hlk hP hD hS dX1_copyFrom_204 rfl
