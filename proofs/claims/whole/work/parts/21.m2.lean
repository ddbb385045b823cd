set_option maxHeartbeats 4000000 in
set_option maxRecDepth 100000 in
theorem c_X4_saves_full (l : Launch) (G : ZG) (a : Nat → Nat) (v : Mem) (y : Nat → Nat) (hs : y 0 = 4) : CV l G yX4_saves wsX4_saves (zRm 0 0) [.ref (a 0)] (modW G a v y) (modW G a (mrow v 1 (fb_put (zMap (v 1) (shP (v 1)) 1533) (v 0) 1533 511)) (nup y 0 4)) := by
  refine CV.ent (cc := cX4_saves) (maxL := 2) (own := RX4) (by decide) rfl rfl (Nat.le_of_ble_eq_true rfl) ?_
  intro p ee s m args below meth c A ls F hr hlk hKK hP hD hA hS hl
  obtain ⟨hx, hb, hml, hown, hts⟩ := id F
  have hl : lv_has ls 2 [(0, .ref (a 0))] := hl
  have fl_7 := hts (.fieldLink RX4 7 "NameRollsModel" "now" "[I") (by decide +kernel)
  have fl_13 := hts (.fieldLink RX4 13 "NameRollsModel" "past" "[I") (by decide +kernel)
  have fl_31 := hts (.fieldLink RX4 31 "NameRollsModel" "saved" "I") (by decide +kernel)
  have hinX4 : ∀ w ∈ wsX40, w ∈ wsX4_saves := by decide +kernel
  refine lv_aload_n hx hb dX4_saves_0 rfl (lv_at hl 0 rfl) ?_
  refine va_get (D := G.1) (ci := 4) (v := .int (nI (y 0))) (C := RX4) (T := TX4) (N := 17) hx hb hts hinX4 hown hKK.1 hP 0 rfl rfl 2 (by decide) fl_31 (fun _ h9 => h9) rfl dX4_saves_1 ?_
  refine z_top (v := nI 4) (by rw [hs]) ?_
  refine lv_iconst (v := nI 4) hx hb dX4_saves_4 (by decide) ?_
  refine z_ne (tgt := 49) hx hb dX4_saves_5 (by decide) (by omega) (by omega) (fun c_1 => absurd rfl c_1) (fun c_1 => ?_)
  refine lv_iconst (v := nI 0) hx hb dX4_saves_8 (by decide) ?_
  refine lv_istore_n (lv' := [(1, .int (nI 0)), (0, .ref (a 0))]) hx hb dX4_saves_9 rfl hl (by decide) rfl (fun ls hl => ?_)
  have key_2 : ∀ (nn : Nat) (i : Nat), i ≤ 1533 → 1533 - i < nn → ∀ (H : Heap) (locs : List Loc) (ls : Array Slot), va_P G.1 vwCl (modW G a (mrow v 1 (zMap (v 1) (shP (v 1)) i)) y) H → va_D A (modW G a (mrow v 1 (zMap (v 1) (shP (v 1)) i)) y) → va_S A s.heap H locs → lv_has ls 2 [(0, .ref (a 0)), (1, .int (nI i))] → W p l ee (zRm 0 0) s m args below meth c H locs 0 0 (MQ below (ZQv G A (modW G a (mrow v 1 (fb_put (zMap (v 1) (shP (v 1)) 1533) (v 0) 1533 511)) (nup y 0 4))) args s 0 0 A) (F0 m 10 ls []) := by
    intro nn
    induction nn with
    | zero => intro i _ hm; exact absurd hm (Nat.not_lt_zero _)
    | succ nn ih_2 =>
      intro i hi hm H locs ls hP hD hS hl
      refine lv_iload_n hx hb dX4_saves_10 rfl (lv_at hl 1 rfl) ?_
      refine lv_sipush (v := nI 1533) hx hb dX4_saves_11 (by decide) ?_
      refine z_ge (tgt := 39) hx hb dX4_saves_14 (by decide) (by omega) (by omega) (fun c_3 => ?_) (fun c_3 => ?_)
      · skip
        have hi9 : i = 1533 := by omega
        rw [hi9] at hP hD hl
        refine lv_aload_n hx hb dX4_saves_39 rfl (lv_at hl 0 rfl) ?_
        refine lv_dup hx hb dX4_saves_40 rfl ?_
        refine va_get (D := G.1) (ci := 4) (v := .int (nI (y 0))) (C := RX4) (T := TX4) (N := 17) hx hb hts hinX4 hown hKK.1 hP 0 rfl rfl 2 (by decide) fl_31 (fun _ h9 => h9) rfl dX4_saves_41 ?_
        refine z_top (v := nI 4) (by rw [hs]) ?_
        refine lv_iconst (v := nI 1) hx hb dX4_saves_44 (by decide) ?_
        refine z_sub (v := nI 3) hx hb dX4_saves_45 (pk_sub (by omega)) ?_
        refine z_put (w2 := modW G a (mrow v 1 (zMap (v 1) (shP (v 1)) 1533)) (nup y 0 3)) hx hb hts hinX4 tyX4 tyX4_ok nmX4 hown hKK hP hD hS 0 (ci := 4) (C := RX4) (T := TX4) (N := 17) rfl rfl 2 (by decide) fl_31 rfl rfl rfl (Nat.le_of_ble_eq_true rfl) rfl dX4_saves_46 (fun H locs hP hD hS => ?_)
        refine lv_iconst (v := nI 0) hx hb dX4_saves_49 (by decide) ?_
        refine lv_istore_n (lv' := [(1, .int (nI 0)), (0, .ref (a 0))]) hx hb dX4_saves_50 rfl hl (by decide) rfl (fun ls hl => ?_)
        have key_4 : ∀ (nn : Nat) (i : Nat), i ≤ 511 → 511 - i < nn → ∀ (H : Heap) (locs : List Loc) (ls : Array Slot), va_P G.1 vwCl (modW G a (mrow v 1 (fb_put (zMap (v 1) (shP (v 1)) 1533) (v 0) 1533 i)) (nup y 0 3)) H → va_D A (modW G a (mrow v 1 (fb_put (zMap (v 1) (shP (v 1)) 1533) (v 0) 1533 i)) (nup y 0 3)) → va_S A s.heap H locs → lv_has ls 2 [(0, .ref (a 0)), (1, .int (nI i))] → W p l ee (zRm 0 0) s m args below meth c H locs 0 0 (MQ below (ZQv G A (modW G a (mrow v 1 (fb_put (zMap (v 1) (shP (v 1)) 1533) (v 0) 1533 511)) (nup y 0 4))) args s 0 0 A) (F0 m 51 ls []) := by
          intro nn
          induction nn with
          | zero => intro i _ hm; exact absurd hm (Nat.not_lt_zero _)
          | succ nn ih_4 =>
            intro i hi hm H locs ls hP hD hS hl
            refine lv_iload_n hx hb dX4_saves_51 rfl (lv_at hl 1 rfl) ?_
            refine lv_sipush (v := nI 511) hx hb dX4_saves_52 (by decide) ?_
            refine z_ge (tgt := 85) hx hb dX4_saves_55 (by decide) (by omega) (by omega) (fun c_5 => ?_) (fun c_5 => ?_)
            · skip
              have hi9 : i = 511 := by omega
              rw [hi9] at hP hD hl
              refine lv_aload_n hx hb dX4_saves_85 rfl (lv_at hl 0 rfl) ?_
              refine lv_dup hx hb dX4_saves_86 rfl ?_
              refine va_get (D := G.1) (ci := 4) (v := .int (nI 3)) (C := RX4) (T := TX4) (N := 17) hx hb hts hinX4 hown hKK.1 hP 0 rfl rfl 2 (by decide) fl_31 (fun _ h9 => h9) rfl dX4_saves_87 ?_
              refine lv_iconst (v := nI 1) hx hb dX4_saves_90 (by decide) ?_
              refine z_add (v := nI 4) hx hb dX4_saves_91 (nI_add _ _) ?_
              refine z_put (w2 := modW G a (mrow v 1 (fb_put (zMap (v 1) (shP (v 1)) 1533) (v 0) 1533 511)) (nup y 0 4)) hx hb hts hinX4 tyX4 tyX4_ok nmX4 hown hKK hP hD hS 0 (ci := 4) (C := RX4) (T := TX4) (N := 17) rfl rfl 2 (by decide) fl_31 rfl rfl rfl (Nat.le_of_ble_eq_true rfl) rfl dX4_saves_92 (fun H locs hP hD hS => ?_)
              exact z_vret hx hb hr hlk hP hD hS dX4_saves_95 rfl
            · skip
              refine lv_aload_n hx hb dX4_saves_58 rfl (lv_at hl 0 rfl) ?_
              refine va_get (D := G.1) (ci := 4) (v := .ref (a 2)) (C := RX4) (T := TX4) (N := 17) hx hb hts hinX4 hown hKK.1 hP 0 rfl rfl 1 (by decide) fl_13 (fun _ h9 => h9) rfl dX4_saves_59 ?_
              refine lv_sipush (v := nI 511) hx hb dX4_saves_62 (by decide) ?_
              refine lv_aload_n hx hb dX4_saves_65 rfl (lv_at hl 0 rfl) ?_
              refine va_get (D := G.1) (ci := 4) (v := .int (nI 3)) (C := RX4) (T := TX4) (N := 17) hx hb hts hinX4 hown hKK.1 hP 0 rfl rfl 2 (by decide) fl_31 (fun _ h9 => h9) rfl dX4_saves_66 ?_
              refine z_mul (v := nI 1533) hx hb dX4_saves_69 (pk_mul _ _) ?_
              refine lv_iload_n hx hb dX4_saves_70 rfl (lv_at hl 1 rfl) ?_
              refine z_add (v := nI (1533 + i)) hx hb dX4_saves_71 (nI_add _ _) ?_
              refine lv_aload_n hx hb dX4_saves_72 rfl (lv_at hl 0 rfl) ?_
              refine va_get (D := G.1) (ci := 4) (v := .ref (a 1)) (C := RX4) (T := TX4) (N := 17) hx hb hts hinX4 hown hKK.1 hP 0 rfl rfl 0 (by decide) fl_7 (fun _ h9 => h9) rfl dX4_saves_73 ?_
              refine lv_iload_n hx hb dX4_saves_76 rfl (lv_at hl 1 rfl) ?_
              refine z_iald (n := 511) (f := v 0) (v := v 0 i) hx hb hKK hP 1 rfl (by omega) (by decide) rfl dX4_saves_77 ?_
              refine z_iast (n := 2044) (f := fb_put (zMap (v 1) (shP (v 1)) 1533) (v 0) 1533 i) (w2 := modW G a (mrow v 1 (upd (fb_put (zMap (v 1) (shP (v 1)) 1533) (v 0) 1533 i) (1533 + i) (v 0 i))) (nup y 0 3)) hx hb hKK hP hD hS 2 rfl (by omega) (by decide) rfl dX4_saves_78 (fun H locs hP hD hS => ?_)
              refine lv_iinc (v := nI (i + 1)) (lv' := [(1, .int (nI (i + 1))), (0, .ref (a 0))]) hx hb dX4_saves_79 hl (k := 1) rfl (nI_1 _) (by decide) rfl (fun ls hl => ?_)
              refine lv_goto (tgt := 51) hx hb dX4_saves_82 (by decide) ?_
              have es : mrow v 1 (upd (fb_put (zMap (v 1) (shP (v 1)) 1533) (v 0) 1533 i) (1533 + i) (v 0 i)) = mrow v 1 (fb_put (zMap (v 1) (shP (v 1)) 1533) (v 0) 1533 (i + 1)) := by rw [fb_put_succ]
              rw [es] at hP hD
              exact ih_4 (i + 1) (by omega) (by omega) _ _ _ hP hD hS (lv_sub hl [1, 0] rfl)
        have es : mrow v 1 (zMap (v 1) (shP (v 1)) 1533) = mrow v 1 (fb_put (zMap (v 1) (shP (v 1)) 1533) (v 0) 1533 0) := by rw [fb_put_0]
        rw [es] at hP hD
        exact key_4 _ 0 (by omega) (Nat.lt_succ_self _) _ _ _ hP hD hS (lv_sub hl [1, 0] rfl)
      · skip
        refine lv_aload_n hx hb dX4_saves_17 rfl (lv_at hl 0 rfl) ?_
        refine va_get (D := G.1) (ci := 4) (v := .ref (a 2)) (C := RX4) (T := TX4) (N := 17) hx hb hts hinX4 hown hKK.1 hP 0 rfl rfl 1 (by decide) fl_13 (fun _ h9 => h9) rfl dX4_saves_18 ?_
        refine lv_iload_n hx hb dX4_saves_21 rfl (lv_at hl 1 rfl) ?_
        refine lv_aload_n hx hb dX4_saves_22 rfl (lv_at hl 0 rfl) ?_
        refine va_get (D := G.1) (ci := 4) (v := .ref (a 2)) (C := RX4) (T := TX4) (N := 17) hx hb hts hinX4 hown hKK.1 hP 0 rfl rfl 1 (by decide) fl_13 (fun _ h9 => h9) rfl dX4_saves_23 ?_
        refine lv_iload_n hx hb dX4_saves_26 rfl (lv_at hl 1 rfl) ?_
        refine lv_sipush (v := nI 511) hx hb dX4_saves_27 (by decide) ?_
        refine z_add (v := nI (i + 511)) hx hb dX4_saves_30 (nI_add _ _) ?_
        refine z_iald (n := 2044) (f := zMap (v 1) (shP (v 1)) i) (v := v 1 (i + 511)) hx hb hKK hP 2 rfl (by omega) (by decide) (zMap_hi (by omega)) dX4_saves_31 ?_
        refine z_iast (n := 2044) (f := zMap (v 1) (shP (v 1)) i) (w2 := modW G a (mrow v 1 (upd (zMap (v 1) (shP (v 1)) i) i (v 1 (i + 511)))) y) hx hb hKK hP hD hS 2 rfl (by omega) (by decide) rfl dX4_saves_32 (fun H locs hP hD hS => ?_)
        refine lv_iinc (v := nI (i + 1)) (lv' := [(1, .int (nI (i + 1))), (0, .ref (a 0))]) hx hb dX4_saves_33 hl (k := 1) rfl (nI_1 _) (by decide) rfl (fun ls hl => ?_)
        refine lv_goto (tgt := 10) hx hb dX4_saves_36 (by decide) ?_
        have es : mrow v 1 (upd (zMap (v 1) (shP (v 1)) i) i (v 1 (i + 511))) = mrow v 1 (zMap (v 1) (shP (v 1)) (i + 1)) := by exact congrArg (mrow v 1) (zMap_s rfl)
        rw [es] at hP hD
        exact ih_2 (i + 1) (by omega) (by omega) _ _ _ hP hD hS (lv_sub hl [1, 0] rfl)
  have es : v = mrow v 1 (zMap (v 1) (shP (v 1)) 0) := by rw [zMap_0, mrow_self]
  rw [es] at hP hD
  exact key_2 _ 0 (by omega) (Nat.lt_succ_self _) _ _ _ hP hD hS (lv_sub hl [1, 0] rfl)

set_option maxHeartbeats 4000000 in
set_option maxRecDepth 100000 in
theorem c_X4_saves_part (l : Launch) (G : ZG) (a : Nat → Nat) (v : Mem) (y : Nat → Nat) (s1 : Nat) (hs : y 0 = s1) (hs4 : s1 < 4) : CV l G yX4_saves wsX4_saves (zRm 0 0) [.ref (a 0)] (modW G a v y) (modW G a (mrow v 1 (fb_put (v 1) (v 0) (511 * s1) 511)) (nup y 0 (s1 + 1))) := by
  refine CV.ent (cc := cX4_saves) (maxL := 2) (own := RX4) (by decide) rfl rfl (Nat.le_of_ble_eq_true rfl) ?_
  intro p ee s m args below meth c A ls F hr hlk hKK hP hD hA hS hl
  obtain ⟨hx, hb, hml, hown, hts⟩ := id F
  have hl : lv_has ls 2 [(0, .ref (a 0))] := hl
  have fl_7 := hts (.fieldLink RX4 7 "NameRollsModel" "now" "[I") (by decide +kernel)
  have fl_13 := hts (.fieldLink RX4 13 "NameRollsModel" "past" "[I") (by decide +kernel)
  have fl_31 := hts (.fieldLink RX4 31 "NameRollsModel" "saved" "I") (by decide +kernel)
  have hinX4 : ∀ w ∈ wsX40, w ∈ wsX4_saves := by decide +kernel
  refine lv_aload_n hx hb dX4_saves_0 rfl (lv_at hl 0 rfl) ?_
  refine va_get (D := G.1) (ci := 4) (v := .int (nI (y 0))) (C := RX4) (T := TX4) (N := 17) hx hb hts hinX4 hown hKK.1 hP 0 rfl rfl 2 (by decide) fl_31 (fun _ h9 => h9) rfl dX4_saves_1 ?_
  refine z_top (v := nI s1) (by rw [hs]) ?_
  refine lv_iconst (v := nI 4) hx hb dX4_saves_4 (by decide) ?_
  refine z_ne (tgt := 49) hx hb dX4_saves_5 (by decide) (by omega) (by omega) (fun c_1 => ?_) (fun c_1 => absurd c_1 (by omega))
  refine lv_iconst (v := nI 0) hx hb dX4_saves_49 (by decide) ?_
  refine lv_istore_n (lv' := [(1, .int (nI 0)), (0, .ref (a 0))]) hx hb dX4_saves_50 rfl hl (by decide) rfl (fun ls hl => ?_)
  have key_2 : ∀ (nn : Nat) (i : Nat), i ≤ 511 → 511 - i < nn → ∀ (H : Heap) (locs : List Loc) (ls : Array Slot), va_P G.1 vwCl (modW G a (mrow v 1 (fb_put (v 1) (v 0) (511 * s1) i)) y) H → va_D A (modW G a (mrow v 1 (fb_put (v 1) (v 0) (511 * s1) i)) y) → va_S A s.heap H locs → lv_has ls 2 [(0, .ref (a 0)), (1, .int (nI i))] → W p l ee (zRm 0 0) s m args below meth c H locs 0 0 (MQ below (ZQv G A (modW G a (mrow v 1 (fb_put (v 1) (v 0) (511 * s1) 511)) (nup y 0 (s1 + 1)))) args s 0 0 A) (F0 m 51 ls []) := by
    intro nn
    induction nn with
    | zero => intro i _ hm; exact absurd hm (Nat.not_lt_zero _)
    | succ nn ih_2 =>
      intro i hi hm H locs ls hP hD hS hl
      refine lv_iload_n hx hb dX4_saves_51 rfl (lv_at hl 1 rfl) ?_
      refine lv_sipush (v := nI 511) hx hb dX4_saves_52 (by decide) ?_
      refine z_ge (tgt := 85) hx hb dX4_saves_55 (by decide) (by omega) (by omega) (fun c_3 => ?_) (fun c_3 => ?_)
      · skip
        have hi9 : i = 511 := by omega
        rw [hi9] at hP hD hl
        refine lv_aload_n hx hb dX4_saves_85 rfl (lv_at hl 0 rfl) ?_
        refine lv_dup hx hb dX4_saves_86 rfl ?_
        refine va_get (D := G.1) (ci := 4) (v := .int (nI (y 0))) (C := RX4) (T := TX4) (N := 17) hx hb hts hinX4 hown hKK.1 hP 0 rfl rfl 2 (by decide) fl_31 (fun _ h9 => h9) rfl dX4_saves_87 ?_
        refine z_top (v := nI s1) (by rw [hs]) ?_
        refine lv_iconst (v := nI 1) hx hb dX4_saves_90 (by decide) ?_
        refine z_add (v := nI (s1 + 1)) hx hb dX4_saves_91 (nI_add _ _) ?_
        refine z_put (w2 := modW G a (mrow v 1 (fb_put (v 1) (v 0) (511 * s1) 511)) (nup y 0 (s1 + 1))) hx hb hts hinX4 tyX4 tyX4_ok nmX4 hown hKK hP hD hS 0 (ci := 4) (C := RX4) (T := TX4) (N := 17) rfl rfl 2 (by decide) fl_31 rfl rfl rfl (Nat.le_of_ble_eq_true rfl) rfl dX4_saves_92 (fun H locs hP hD hS => ?_)
        exact z_vret hx hb hr hlk hP hD hS dX4_saves_95 rfl
      · skip
        refine lv_aload_n hx hb dX4_saves_58 rfl (lv_at hl 0 rfl) ?_
        refine va_get (D := G.1) (ci := 4) (v := .ref (a 2)) (C := RX4) (T := TX4) (N := 17) hx hb hts hinX4 hown hKK.1 hP 0 rfl rfl 1 (by decide) fl_13 (fun _ h9 => h9) rfl dX4_saves_59 ?_
        refine lv_sipush (v := nI 511) hx hb dX4_saves_62 (by decide) ?_
        refine lv_aload_n hx hb dX4_saves_65 rfl (lv_at hl 0 rfl) ?_
        refine va_get (D := G.1) (ci := 4) (v := .int (nI (y 0))) (C := RX4) (T := TX4) (N := 17) hx hb hts hinX4 hown hKK.1 hP 0 rfl rfl 2 (by decide) fl_31 (fun _ h9 => h9) rfl dX4_saves_66 ?_
        refine z_top (v := nI s1) (by rw [hs]) ?_
        refine z_mul (v := nI (511 * s1)) hx hb dX4_saves_69 (pk_mul _ _) ?_
        refine lv_iload_n hx hb dX4_saves_70 rfl (lv_at hl 1 rfl) ?_
        refine z_add (v := nI ((511 * s1) + i)) hx hb dX4_saves_71 (nI_add _ _) ?_
        refine lv_aload_n hx hb dX4_saves_72 rfl (lv_at hl 0 rfl) ?_
        refine va_get (D := G.1) (ci := 4) (v := .ref (a 1)) (C := RX4) (T := TX4) (N := 17) hx hb hts hinX4 hown hKK.1 hP 0 rfl rfl 0 (by decide) fl_7 (fun _ h9 => h9) rfl dX4_saves_73 ?_
        refine lv_iload_n hx hb dX4_saves_76 rfl (lv_at hl 1 rfl) ?_
        refine z_iald (n := 511) (f := v 0) (v := v 0 i) hx hb hKK hP 1 rfl (by omega) (by decide) rfl dX4_saves_77 ?_
        refine z_iast (n := 2044) (f := fb_put (v 1) (v 0) (511 * s1) i) (w2 := modW G a (mrow v 1 (upd (fb_put (v 1) (v 0) (511 * s1) i) ((511 * s1) + i) (v 0 i))) y) hx hb hKK hP hD hS 2 rfl (by omega) (by decide) rfl dX4_saves_78 (fun H locs hP hD hS => ?_)
        refine lv_iinc (v := nI (i + 1)) (lv' := [(1, .int (nI (i + 1))), (0, .ref (a 0))]) hx hb dX4_saves_79 hl (k := 1) rfl (nI_1 _) (by decide) rfl (fun ls hl => ?_)
        refine lv_goto (tgt := 51) hx hb dX4_saves_82 (by decide) ?_
        have es : mrow v 1 (upd (fb_put (v 1) (v 0) (511 * s1) i) ((511 * s1) + i) (v 0 i)) = mrow v 1 (fb_put (v 1) (v 0) (511 * s1) (i + 1)) := by rw [fb_put_succ]
        rw [es] at hP hD
        exact ih_2 (i + 1) (by omega) (by omega) _ _ _ hP hD hS (lv_sub hl [1, 0] rfl)
  have es : v = mrow v 1 (fb_put (v 1) (v 0) (511 * s1) 0) := by rw [fb_put_0, mrow_self]
  rw [es] at hP hD
  exact key_2 _ 0 (by omega) (Nat.lt_succ_self _) _ _ _ hP hD hS (lv_sub hl [1, 0] rfl)

set_option maxHeartbeats 4000000 in
set_option maxRecDepth 100000 in
theorem c_X4_undo_z (l : Launch) (G : ZG) (a : Nat → Nat) (v : Mem) (y : Nat → Nat) (hs : y 0 = 0) : CI l G yX4_undo wsX4_undo (zRm 0 0) [.ref (a 0)] (modW G a v y) ((-1000002)) (modW G a v y) := by
  refine CI.ent (cc := cX4_undo) (maxL := 2) (ty := .int) (own := RX4) (by decide) rfl rfl (Nat.le_of_ble_eq_true rfl) ?_
  intro p ee s m args below meth c A ls F hr hlk hKK hP hD hA hS hl
  obtain ⟨hx, hb, hml, hown, hts⟩ := id F
  have hl : lv_has ls 2 [(0, .ref (a 0))] := hl
  have ct_35 := hts (.constant RX4 35 (-1000002)) (by decide +kernel)
  have fl_31 := hts (.fieldLink RX4 31 "NameRollsModel" "saved" "I") (by decide +kernel)
  have hinX4 : ∀ w ∈ wsX40, w ∈ wsX4_undo := by decide +kernel
  refine lv_aload_n hx hb dX4_undo_0 rfl (lv_at hl 0 rfl) ?_
  refine va_get (D := G.1) (ci := 4) (v := .int (nI (y 0))) (C := RX4) (T := TX4) (N := 17) hx hb hts hinX4 hown hKK.1 hP 0 rfl rfl 2 (by decide) fl_31 (fun _ h9 => h9) rfl dX4_undo_1 ?_
  refine z_top (v := nI 0) (by rw [hs]) ?_
  refine z_ifNne (tgt := 10) hx hb dX4_undo_4 (by decide) (by omega) (fun c_1 => absurd c_1 (by decide)) (fun c_1 => ?_)
  refine z_ldc (v' := (-1000002)) hx hb hown ct_35 dX4_undo_7 rfl ?_
  exact z_iret hx hb hr hlk hP hD hS dX4_undo_9 rfl rfl

set_option maxHeartbeats 4000000 in
set_option maxRecDepth 100000 in
theorem c_X4_undo_s (l : Launch) (G : ZG) (a : Nat → Nat) (v : Mem) (y : Nat → Nat) (s1 : Nat) (hs : y 0 = s1 + 1) (hs4 : s1 < 4) : CI l G yX4_undo wsX4_undo (zRm 0 0) [.ref (a 0)] (modW G a v y) (nI s1) (modW G a (mrow v 0 (zMap (v 0) (segP (v 1) s1) 511)) (nup y 0 s1)) := by
  refine CI.ent (cc := cX4_undo) (maxL := 2) (ty := .int) (own := RX4) (by decide) rfl rfl (Nat.le_of_ble_eq_true rfl) ?_
  intro p ee s m args below meth c A ls F hr hlk hKK hP hD hA hS hl
  obtain ⟨hx, hb, hml, hown, hts⟩ := id F
  have hl : lv_has ls 2 [(0, .ref (a 0))] := hl
  have fl_7 := hts (.fieldLink RX4 7 "NameRollsModel" "now" "[I") (by decide +kernel)
  have fl_13 := hts (.fieldLink RX4 13 "NameRollsModel" "past" "[I") (by decide +kernel)
  have fl_31 := hts (.fieldLink RX4 31 "NameRollsModel" "saved" "I") (by decide +kernel)
  have hinX4 : ∀ w ∈ wsX40, w ∈ wsX4_undo := by decide +kernel
  refine lv_aload_n hx hb dX4_undo_0 rfl (lv_at hl 0 rfl) ?_
  refine va_get (D := G.1) (ci := 4) (v := .int (nI (y 0))) (C := RX4) (T := TX4) (N := 17) hx hb hts hinX4 hown hKK.1 hP 0 rfl rfl 2 (by decide) fl_31 (fun _ h9 => h9) rfl dX4_undo_1 ?_
  refine z_top (v := nI (s1 + 1)) (by rw [hs]) ?_
  refine z_ifNne (tgt := 10) hx hb dX4_undo_4 (by decide) (by omega) (fun c_1 => ?_) (fun c_1 => absurd c_1 (by omega))
  refine lv_aload_n hx hb dX4_undo_10 rfl (lv_at hl 0 rfl) ?_
  refine lv_dup hx hb dX4_undo_11 rfl ?_
  refine va_get (D := G.1) (ci := 4) (v := .int (nI (y 0))) (C := RX4) (T := TX4) (N := 17) hx hb hts hinX4 hown hKK.1 hP 0 rfl rfl 2 (by decide) fl_31 (fun _ h9 => h9) rfl dX4_undo_12 ?_
  refine z_top (v := nI (s1 + 1)) (by rw [hs]) ?_
  refine lv_iconst (v := nI 1) hx hb dX4_undo_15 (by decide) ?_
  refine z_sub (v := nI s1) hx hb dX4_undo_16 (pk_sub (by omega)) ?_
  refine z_put (w2 := modW G a v (nup y 0 s1)) hx hb hts hinX4 tyX4 tyX4_ok nmX4 hown hKK hP hD hS 0 (ci := 4) (C := RX4) (T := TX4) (N := 17) rfl rfl 2 (by decide) fl_31 rfl rfl rfl (Nat.le_of_ble_eq_true rfl) rfl dX4_undo_17 (fun H locs hP hD hS => ?_)
  refine lv_iconst (v := nI 0) hx hb dX4_undo_20 (by decide) ?_
  refine lv_istore_n (lv' := [(1, .int (nI 0)), (0, .ref (a 0))]) hx hb dX4_undo_21 rfl hl (by decide) rfl (fun ls hl => ?_)
  have key_2 : ∀ (nn : Nat) (i : Nat), i ≤ 511 → 511 - i < nn → ∀ (H : Heap) (locs : List Loc) (ls : Array Slot), va_P G.1 vwCl (modW G a (mrow v 0 (zMap (v 0) (segP (v 1) s1) i)) (nup y 0 s1)) H → va_D A (modW G a (mrow v 0 (zMap (v 0) (segP (v 1) s1) i)) (nup y 0 s1)) → va_S A s.heap H locs → lv_has ls 2 [(0, .ref (a 0)), (1, .int (nI i))] → W p l ee (zRm 0 0) s m args below meth c H locs 0 0 (MQ below (ZQi G A (modW G a (mrow v 0 (zMap (v 0) (segP (v 1) s1) 511)) (nup y 0 s1)) (nI s1)) args s 0 0 A) (F0 m 22 ls []) := by
    intro nn
    induction nn with
    | zero => intro i _ hm; exact absurd hm (Nat.not_lt_zero _)
    | succ nn ih_2 =>
      intro i hi hm H locs ls hP hD hS hl
      refine lv_iload_n hx hb dX4_undo_22 rfl (lv_at hl 1 rfl) ?_
      refine lv_sipush (v := nI 511) hx hb dX4_undo_23 (by decide) ?_
      refine z_ge (tgt := 56) hx hb dX4_undo_26 (by decide) (by omega) (by omega) (fun c_3 => ?_) (fun c_3 => ?_)
      · skip
        have hi9 : i = 511 := by omega
        rw [hi9] at hP hD hl
        refine lv_aload_n hx hb dX4_undo_56 rfl (lv_at hl 0 rfl) ?_
        refine va_get (D := G.1) (ci := 4) (v := .int (nI s1)) (C := RX4) (T := TX4) (N := 17) hx hb hts hinX4 hown hKK.1 hP 0 rfl rfl 2 (by decide) fl_31 (fun _ h9 => h9) rfl dX4_undo_57 ?_
        exact z_iret hx hb hr hlk hP hD hS dX4_undo_60 rfl rfl
      · skip
        refine lv_aload_n hx hb dX4_undo_29 rfl (lv_at hl 0 rfl) ?_
        refine va_get (D := G.1) (ci := 4) (v := .ref (a 1)) (C := RX4) (T := TX4) (N := 17) hx hb hts hinX4 hown hKK.1 hP 0 rfl rfl 0 (by decide) fl_7 (fun _ h9 => h9) rfl dX4_undo_30 ?_
        refine lv_iload_n hx hb dX4_undo_33 rfl (lv_at hl 1 rfl) ?_
        refine lv_aload_n hx hb dX4_undo_34 rfl (lv_at hl 0 rfl) ?_
        refine va_get (D := G.1) (ci := 4) (v := .ref (a 2)) (C := RX4) (T := TX4) (N := 17) hx hb hts hinX4 hown hKK.1 hP 0 rfl rfl 1 (by decide) fl_13 (fun _ h9 => h9) rfl dX4_undo_35 ?_
        refine lv_sipush (v := nI 511) hx hb dX4_undo_38 (by decide) ?_
        refine lv_aload_n hx hb dX4_undo_41 rfl (lv_at hl 0 rfl) ?_
        refine va_get (D := G.1) (ci := 4) (v := .int (nI s1)) (C := RX4) (T := TX4) (N := 17) hx hb hts hinX4 hown hKK.1 hP 0 rfl rfl 2 (by decide) fl_31 (fun _ h9 => h9) rfl dX4_undo_42 ?_
        refine z_mul (v := nI (511 * s1)) hx hb dX4_undo_45 (pk_mul _ _) ?_
        refine lv_iload_n hx hb dX4_undo_46 rfl (lv_at hl 1 rfl) ?_
        refine z_add (v := nI ((511 * s1) + i)) hx hb dX4_undo_47 (nI_add _ _) ?_
        refine z_iald (n := 2044) (f := v 1) (v := v 1 ((511 * s1) + i)) hx hb hKK hP 2 rfl (by omega) (by decide) rfl dX4_undo_48 ?_
        refine z_iast (n := 511) (f := zMap (v 0) (segP (v 1) s1) i) (w2 := modW G a (mrow v 0 (upd (zMap (v 0) (segP (v 1) s1) i) i (v 1 ((511 * s1) + i)))) (nup y 0 s1)) hx hb hKK hP hD hS 1 rfl (by omega) (by decide) rfl dX4_undo_49 (fun H locs hP hD hS => ?_)
        refine lv_iinc (v := nI (i + 1)) (lv' := [(1, .int (nI (i + 1))), (0, .ref (a 0))]) hx hb dX4_undo_50 hl (k := 1) rfl (nI_1 _) (by decide) rfl (fun ls hl => ?_)
        refine lv_goto (tgt := 22) hx hb dX4_undo_53 (by decide) ?_
        have es : mrow v 0 (upd (zMap (v 0) (segP (v 1) s1) i) i (v 1 ((511 * s1) + i))) = mrow v 0 (zMap (v 0) (segP (v 1) s1) (i + 1)) := by exact congrArg (mrow v 0) (zMap_s rfl)
        rw [es] at hP hD
        exact ih_2 (i + 1) (by omega) (by omega) _ _ _ hP hD hS (lv_sub hl [1, 0] rfl)
  have es : v = mrow v 0 (zMap (v 0) (segP (v 1) s1) 0) := by rw [zMap_0, mrow_self]
  rw [es] at hP hD
  exact key_2 _ 0 (by omega) (Nat.lt_succ_self _) _ _ _ hP hD hS (lv_sub hl [1, 0] rfl)

set_option maxHeartbeats 4000000 in
set_option maxRecDepth 100000 in
theorem c_X4_reasonOf_neg (l : Launch) (G : ZG) (a : Nat → Nat) (v : Mem) (y : Nat → Nat) (x : Int32) (hx0 : x < 0) : CI l G yX4_reasonOf wsX4_reasonOf (zRm 1 22) [.ref (a 0), .int x] (modW G a v y) (nI 1) (modW G a v y) := by
  refine CI.ent (cc := cX4_reasonOf) (maxL := 7) (ty := .int) (own := RX4) (by decide) rfl rfl (Nat.le_of_ble_eq_true rfl) ?_
  intro p ee s m args below meth c A ls F hr hlk hKK hP hD hA hS hl
  obtain ⟨hx, hb, hml, hown, hts⟩ := id F
  have hl : lv_has ls 7 [(0, .ref (a 0)), (1, .int x)] := hl
  refine lv_iload_n hx hb dX4_reasonOf_0 rfl (lv_at hl 1 rfl) ?_
  refine lv_bipush (v := nI 100) hx hb dX4_reasonOf_1 (by decide) ?_
  refine z_rem (v := x - x / (nI 100) * (nI 100)) hx hb dX4_reasonOf_3 (by decide) rfl ?_
  refine lv_istore_n (lv' := [(2, .int (x - x / (nI 100) * (nI 100))), (0, .ref (a 0)), (1, .int x)]) hx hb dX4_reasonOf_4 rfl hl (by decide) rfl (fun ls hl => ?_)
  refine lv_iload_n hx hb dX4_reasonOf_5 rfl (lv_at hl 2 rfl) ?_
  refine lv_if_lt (tgt := 28) hx hb dX4_reasonOf_6 (by decide) (fun c_1 => ?_) (fun c_1 => absurd hx0 c_1)
  refine lv_iconst (v := nI 1) hx hb dX4_reasonOf_28 (by decide) ?_
  exact z_iret hx hb hr hlk hP hD hS dX4_reasonOf_29 rfl rfl

set_option maxHeartbeats 4000000 in
set_option maxRecDepth 100000 in
theorem c_X4_reasonOf_N (l : Launch) (G : ZG) (a : Nat → Nat) (v : Mem) (y : Nat → Nat) (t e : Nat) (ht : t < 2 ^ 31) (he : v 0 0 = nI e) (hm : v 0 3 = nI e) (he2 : e ≤ 999) (hc : okM (v 0) e) : CI l G yX4_reasonOf wsX4_reasonOf (zRm 1 22) [.ref (a 0), .int (nI t)] (modW G a v y) (nI ((mStaN (v 0) e t).1)) (modW G a v (mY y (mStaN (v 0) e t))) := by
  refine CI.ent (cc := cX4_reasonOf) (maxL := 7) (ty := .int) (own := RX4) (by decide) rfl rfl (Nat.le_of_ble_eq_true rfl) ?_
  intro p ee s m args below meth c A ls F hr hlk hKK hP hD hA hS hl
  obtain ⟨hx, hb, hml, hown, hts⟩ := id F
  have hl : lv_has ls 7 [(0, .ref (a 0)), (1, .int (nI t))] := hl
  have ct_46 := hts (.constant RX4 46 (1000000)) (by decide +kernel)
  have fl_7 := hts (.fieldLink RX4 7 "NameRollsModel" "now" "[I") (by decide +kernel)
  have fl_79 := hts (.fieldLink RX4 79 "NameRollsModel" "followed" "I") (by decide +kernel)
  have hinX4 : ∀ w ∈ wsX40, w ∈ wsX4_reasonOf := by decide +kernel
  refine lv_iload_n hx hb dX4_reasonOf_0 rfl (lv_at hl 1 rfl) ?_
  refine lv_bipush (v := nI 100) hx hb dX4_reasonOf_1 (by decide) ?_
  refine z_rem (v := nI (t % 100)) hx hb dX4_reasonOf_3 (by decide) (pk_rem (by omega) (by decide) (by decide)) ?_
  refine lv_istore_n (lv' := [(2, .int (nI (t % 100))), (0, .ref (a 0)), (1, .int (nI t))]) hx hb dX4_reasonOf_4 rfl hl (by decide) rfl (fun ls hl => ?_)
  refine lv_iload_n hx hb dX4_reasonOf_5 rfl (lv_at hl 2 rfl) ?_
  refine z_ifNlt (tgt := 28) hx hb dX4_reasonOf_6 (by decide) (by omega) (fun c_1 => absurd c_1 (Nat.not_lt_zero _)) (fun c_1 => ?_)
  refine lv_iload_n hx hb dX4_reasonOf_9 rfl (lv_at hl 0 rfl) ?_
  refine lv_bipush (v := nI 40) hx hb dX4_reasonOf_10 (by decide) ?_
  refine z_ge (tgt := 28) hx hb dX4_reasonOf_12 (by decide) (by omega) (by omega) (fun c_2 => ?_) (fun c_2 => ?_)
  · skip
    refine lv_iconst (v := nI 1) hx hb dX4_reasonOf_28 (by decide) ?_
    have E9 : mStaN (v 0) e t = (1, none) := by rw [mStaN, if_pos c_2]
    exact z_iret hx hb hr hlk hP hD hS dX4_reasonOf_29 (by rw [E9]) (congrArg (modW G a v) (by rw [E9]; rfl))
  · skip
    refine lv_iload_n hx hb dX4_reasonOf_15 rfl (lv_at hl 2 rfl) ?_
    refine z_ldc (v' := nI 1000000) hx hb hown ct_46 dX4_reasonOf_16 rfl ?_
    refine z_div (v := nI (t / 1000000)) hx hb dX4_reasonOf_18 (by decide) (pk_div (by omega) (by decide) (by decide)) ?_
    refine lv_aload_n hx hb dX4_reasonOf_19 rfl (lv_at hl 1 rfl) ?_
    refine va_get (D := G.1) (ci := 4) (v := .ref (a 1)) (C := RX4) (T := TX4) (N := 17) hx hb hts hinX4 hown hKK.1 hP 0 rfl rfl 0 (by decide) fl_7 (fun _ h9 => h9) rfl dX4_reasonOf_20 ?_
    refine lv_iconst (v := nI 0) hx hb dX4_reasonOf_23 (by decide) ?_
    refine z_iald (n := 511) (f := v 0) (v := v 0 0) hx hb hKK hP 1 rfl (by omega) (by decide) rfl dX4_reasonOf_24 ?_
    refine z_top (v := nI e) he ?_
    refine z_le (tgt := 30) hx hb dX4_reasonOf_25 (by decide) (by omega) (by omega) (fun c_3 => ?_) (fun c_3 => ?_)
    · skip
      refine lv_iload_n hx hb dX4_reasonOf_30 rfl (lv_at hl 2 rfl) ?_
      refine z_ldc (v' := nI 1000000) hx hb hown ct_46 dX4_reasonOf_31 rfl ?_
      refine z_div (v := nI (t / 1000000)) hx hb dX4_reasonOf_33 (by decide) (pk_div (by omega) (by decide) (by decide)) ?_
      refine lv_istore_n (lv' := [(3, .int (nI (t / 1000000))), (2, .int (nI (t % 100))), (0, .ref (a 0)), (1, .int (nI t))]) hx hb dX4_reasonOf_34 rfl hl (by decide) rfl (fun ls hl => ?_)
      refine lv_iload_n hx hb dX4_reasonOf_35 rfl (lv_at hl 3 rfl) ?_
      refine lv_bipush (v := nI 100) hx hb dX4_reasonOf_36 (by decide) ?_
      refine z_div (v := nI (t / 100)) hx hb dX4_reasonOf_38 (by decide) (pk_div (by omega) (by decide) (by decide)) ?_
      refine lv_sipush (v := nI 10000) hx hb dX4_reasonOf_39 (by decide) ?_
      refine z_rem (v := nI ((t / 100) % 10000)) hx hb dX4_reasonOf_42 (by decide) (pk_rem (by omega) (by decide) (by decide)) ?_
      refine lv_istore (lv' := [(4, .int (nI ((t / 100) % 10000))), (3, .int (nI (t / 1000000))), (2, .int (nI (t % 100))), (0, .ref (a 0)), (1, .int (nI t))]) hx hb dX4_reasonOf_43 hl (by decide) rfl (fun ls hl => ?_)
      refine lv_iload_n hx hb dX4_reasonOf_45 rfl (lv_at hl 1 rfl) ?_
      refine lv_aload_n hx hb dX4_reasonOf_46 rfl (lv_at hl 3 rfl) ?_
      refine va_get (D := G.1) (ci := 4) (v := .ref (a 1)) (C := RX4) (T := TX4) (N := 17) hx hb hts hinX4 hown hKK.1 hP 0 rfl rfl 0 (by decide) fl_7 (fun _ h9 => h9) rfl dX4_reasonOf_47 ?_
      refine lv_iconst (v := nI 0) hx hb dX4_reasonOf_50 (by decide) ?_
      refine z_iald (n := 511) (f := v 0) (v := v 0 0) hx hb hKK hP 1 rfl (by omega) (by decide) rfl dX4_reasonOf_51 ?_
      refine z_top (v := nI e) he ?_
      refine lv_aload_n hx hb dX4_reasonOf_52 rfl (lv_at hl 3 rfl) ?_
      refine z_callVI (As := []) (rest := [.int (nI e), .int (nI (t / 1000000))]) (wr := []) (C := RX4) F (c_X4_kept l G a v y e hm he2) (cwV 0 hts gX4_reasonOf_X4_kept rfl rfl rfl (by decide +kernel) ⟨Nat.le_of_ble_eq_true rfl, Nat.le_of_ble_eq_true rfl⟩) hKK (z_recv hKK hP (q0 := 0) (ci := 4) rfl rfl) hP hD hS hA rfl hl.1 rfl (Nat.le_of_ble_eq_true rfl) ⟨Nat.zero_le _, Nat.zero_le _⟩ dX4_reasonOf_53 (fun H locs hP hD hS => ?_)
      have hP : va_P G.1 vwCl (modW G a v y) H := hP
      have hD : va_D A (modW G a v y) := hD
      refine z_sub (v := nI (e - (min e 3))) hx hb dX4_reasonOf_56 (pk_sub (by omega)) ?_
      refine z_ge (tgt := 62) hx hb dX4_reasonOf_57 (by decide) (by omega) (by omega) (fun c_4 => ?_) (fun c_4 => ?_)
      · skip
        refine lv_iload_n hx hb dX4_reasonOf_62 rfl (lv_at hl 1 rfl) ?_
        refine lv_istore (lv' := [(5, .int (nI (t / 1000000))), (4, .int (nI ((t / 100) % 10000))), (3, .int (nI (t / 1000000))), (2, .int (nI (t % 100))), (0, .ref (a 0)), (1, .int (nI t))]) hx hb dX4_reasonOf_63 hl (by decide) rfl (fun ls hl => ?_)
        have key_5 : ∀ (nn : Nat) (d n z : Nat), d ≤ e → e ≤ d + 3 → n < 40 → z < 2 ^ 31 → mFol (v 0) e (e - t / 1000000) (t / 1000000) (t % 100) (nI (t / 100 % 10000)) = mFol (v 0) e (e - d) d n (nI z) → e - d < nn → ∀ (H : Heap) (locs : List Loc) (ls : Array Slot), va_P G.1 vwCl (modW G a v y) H → va_D A (modW G a v y) → va_S A s.heap H locs → lv_has ls 7 [(0, .ref (a 0)), (2, .int (nI n)), (4, .int (nI z)), (5, .int (nI d))] → W p l ee (zRm 1 22) s m args below meth c H locs 0 0 (MQ below (ZQi G A (modW G a v (mY y (mStaN (v 0) e t))) (nI ((mStaN (v 0) e t).1))) args s 0 0 A) (F0 m 65 ls []) := by
          intro nn
          induction nn with
          | zero => intro d n z _ _ _ _ _ hm; exact absurd hm (Nat.not_lt_zero _)
          | succ nn ih_5 =>
            intro d n z hd hd3 hn hz hf hm H locs ls hP hD hS hl
            refine lv_iload hx hb dX4_reasonOf_65 (lv_at hl 3 rfl) ?_
            refine lv_aload_n hx hb dX4_reasonOf_67 rfl (lv_at hl 0 rfl) ?_
            refine va_get (D := G.1) (ci := 4) (v := .ref (a 1)) (C := RX4) (T := TX4) (N := 17) hx hb hts hinX4 hown hKK.1 hP 0 rfl rfl 0 (by decide) fl_7 (fun _ h9 => h9) rfl dX4_reasonOf_68 ?_
            refine lv_iconst (v := nI 0) hx hb dX4_reasonOf_71 (by decide) ?_
            refine z_iald (n := 511) (f := v 0) (v := v 0 0) hx hb hKK hP 1 rfl (by omega) (by decide) rfl dX4_reasonOf_72 ?_
            refine z_top (v := nI e) he ?_
            refine z_ge (tgt := 134) hx hb dX4_reasonOf_73 (by decide) (by omega) (by omega) (fun c_6 => ?_) (fun c_6 => ?_)
            · skip
              refine lv_aload_n hx hb dX4_reasonOf_134 rfl (lv_at hl 0 rfl) ?_
              refine lv_iload_n hx hb dX4_reasonOf_135 rfl (lv_at hl 1 rfl) ?_
              refine z_put (w2 := modW G a v (nup y 3 n)) hx hb hts hinX4 tyX4 tyX4_ok nmX4 hown hKK hP hD hS 0 (ci := 4) (C := RX4) (T := TX4) (N := 17) rfl rfl 9 (by decide) fl_79 rfl rfl rfl (Nat.le_of_ble_eq_true rfl) rfl dX4_reasonOf_136 (fun H locs hP hD hS => ?_)
              refine lv_aload_n hx hb dX4_reasonOf_139 rfl (lv_at hl 0 rfl) ?_
              refine lv_iload_n hx hb dX4_reasonOf_140 rfl (lv_at hl 1 rfl) ?_
              refine z_callVI (As := [.int (nI n)]) (rest := []) (wr := []) (C := RX4) F (c_X4_isNamed l G a v (nup y 3 n) (n) (by omega)) (cwV 1 hts gX4_reasonOf_X4_isNamed rfl rfl rfl (by decide +kernel) ⟨Nat.le_of_ble_eq_true rfl, Nat.le_of_ble_eq_true rfl⟩) hKK (z_recv hKK hP (q0 := 0) (ci := 4) rfl rfl) hP hD hS hA rfl hl.1 rfl (Nat.le_of_ble_eq_true rfl) ⟨Nat.zero_le _, Nat.zero_le _⟩ dX4_reasonOf_141 (fun H locs hP hD hS => ?_)
              have hP : va_P G.1 vwCl (modW G a v (nup y 3 n)) H := hP
              have hD : va_D A (modW G a v (nup y 3 n)) := hD
              refine z_ifBeq (tgt := 165) hx hb dX4_reasonOf_144 (by decide) (fun c_7 => ?_) (fun c_7 => ?_)
              · skip
                refine lv_iconst (v := nI 4) hx hb dX4_reasonOf_165 (by decide) ?_
                have E9 : mStaN (v 0) e t = (4, some n) := by rw [mStaN, if_neg (Nat.not_le.mpr c_2), if_neg (Nat.not_lt.mpr c_3), if_neg (by omega), hf, show e - d = 0 by omega, mFol, if_pos (Classical.not_not.mp (of_decide_eq_false c_7))]
                exact z_iret hx hb hr hlk hP hD hS dX4_reasonOf_166 (by rw [E9]) (congrArg (modW G a v) (by rw [E9]; rfl))
              · skip
                refine lv_aload_n hx hb dX4_reasonOf_147 rfl (lv_at hl 0 rfl) ?_
                refine va_get (D := G.1) (ci := 4) (v := .ref (a 1)) (C := RX4) (T := TX4) (N := 17) hx hb hts hinX4 hown hKK.1 hP 0 rfl rfl 0 (by decide) fl_7 (fun _ h9 => h9) rfl dX4_reasonOf_148 ?_
                refine lv_bipush (v := nI 84) hx hb dX4_reasonOf_151 (by decide) ?_
                refine lv_iload_n hx hb dX4_reasonOf_153 rfl (lv_at hl 1 rfl) ?_
                refine z_add (v := nI (84 + n)) hx hb dX4_reasonOf_154 (nI_add _ _) ?_
                refine z_iald (n := 511) (f := v 0) (v := v 0 (84 + n)) hx hb hKK hP 1 rfl (by omega) (by decide) rfl dX4_reasonOf_155 ?_
                refine lv_iload hx hb dX4_reasonOf_156 (lv_at hl 2 rfl) ?_
                refine lv_icmp_ne (tgt := 165) hx hb dX4_reasonOf_158 (by decide) (fun c_8 => ?_) (fun c_8 => ?_)
                · skip
                  refine lv_iconst (v := nI 4) hx hb dX4_reasonOf_165 (by decide) ?_
                  have E9 : mStaN (v 0) e t = (4, some n) := by rw [mStaN, if_neg (Nat.not_le.mpr c_2), if_neg (Nat.not_lt.mpr c_3), if_neg (by omega), hf, show e - d = 0 by omega, mFol, if_neg (of_decide_eq_true c_7), if_neg c_8]
                  exact z_iret hx hb hr hlk hP hD hS dX4_reasonOf_166 (by rw [E9]) (congrArg (modW G a v) (by rw [E9]; rfl))
                · skip
                  refine lv_iconst (v := nI 0) hx hb dX4_reasonOf_161 (by decide) ?_
                  refine lv_goto (tgt := 166) hx hb dX4_reasonOf_162 (by decide) ?_
                  have E9 : mStaN (v 0) e t = (0, some n) := by rw [mStaN, if_neg (Nat.not_le.mpr c_2), if_neg (Nat.not_lt.mpr c_3), if_neg (by omega), hf, show e - d = 0 by omega, mFol, if_neg (of_decide_eq_true c_7), if_pos c_8]
                  exact z_iret hx hb hr hlk hP hD hS dX4_reasonOf_166 (by rw [E9]) (congrArg (modW G a v) (by rw [E9]; rfl))
            · skip
              refine lv_aload_n hx hb dX4_reasonOf_76 rfl (lv_at hl 0 rfl) ?_
              refine va_get (D := G.1) (ci := 4) (v := .ref (a 1)) (C := RX4) (T := TX4) (N := 17) hx hb hts hinX4 hown hKK.1 hP 0 rfl rfl 0 (by decide) fl_7 (fun _ h9 => h9) rfl dX4_reasonOf_77 ?_
              refine lv_iconst (v := nI 0) hx hb dX4_reasonOf_80 (by decide) ?_
              refine z_iald (n := 511) (f := v 0) (v := v 0 0) hx hb hKK hP 1 rfl (by omega) (by decide) rfl dX4_reasonOf_81 ?_
              refine z_top (v := nI e) he ?_
              refine lv_iconst (v := nI 1) hx hb dX4_reasonOf_82 (by decide) ?_
              refine z_sub (v := nI (e - 1)) hx hb dX4_reasonOf_83 (pk_sub (by omega)) ?_
              refine lv_iload hx hb dX4_reasonOf_84 (lv_at hl 3 rfl) ?_
              refine z_sub (v := nI ((e - 1) - d)) hx hb dX4_reasonOf_86 (pk_sub (by omega)) ?_
              refine lv_istore (lv' := [(6, .int (nI ((e - 1) - d))), (0, .ref (a 0)), (2, .int (nI n)), (4, .int (nI z)), (5, .int (nI d))]) hx hb dX4_reasonOf_87 hl (by decide) rfl (fun ls hl => ?_)
              refine lv_aload_n hx hb dX4_reasonOf_89 rfl (lv_at hl 1 rfl) ?_
              refine lv_iload hx hb dX4_reasonOf_90 (lv_at hl 0 rfl) ?_
              refine lv_iconst (v := nI 3) hx hb dX4_reasonOf_92 (by decide) ?_
              refine lv_iload_n hx hb dX4_reasonOf_93 rfl (lv_at hl 2 rfl) ?_
              refine z_add (v := nI (3 + n)) hx hb dX4_reasonOf_94 (nI_add _ _) ?_
              refine z_callVI (As := [.int (nI ((e - 1) - d)), .int (nI (3 + n))]) (rest := []) (wr := []) (C := RX4) F (c_X4_ofCompaction l G a v y ((e - 1) - d) (3 + n) (by omega) (by omega)) (cwV 2 hts gX4_reasonOf_X4_ofCompaction rfl rfl rfl (by decide +kernel) ⟨Nat.le_of_ble_eq_true rfl, Nat.le_of_ble_eq_true rfl⟩) hKK (z_recv hKK hP (q0 := 0) (ci := 4) rfl rfl) hP hD hS hA rfl hl.1 rfl (Nat.le_of_ble_eq_true rfl) ⟨Nat.zero_le _, Nat.zero_le _⟩ dX4_reasonOf_95 (fun H locs hP hD hS => ?_)
              have hP : va_P G.1 vwCl (modW G a v y) H := hP
              have hD : va_D A (modW G a v y) := hD
              refine lv_iload hx hb dX4_reasonOf_98 (lv_at hl 3 rfl) ?_
              refine lv_icmp_eq (tgt := 105) hx hb dX4_reasonOf_100 (by decide) (fun c_9 => ?_) (fun c_9 => ?_)
              · skip
                obtain ⟨q, z2, hq, hz2, hqe, hze⟩ := okM_of hc (by omega) (by omega) (by omega) c_9 hz
                refine lv_aload_n hx hb dX4_reasonOf_105 rfl (lv_at hl 1 rfl) ?_
                refine lv_iload hx hb dX4_reasonOf_106 (lv_at hl 0 rfl) ?_
                refine lv_bipush (v := nI 83) hx hb dX4_reasonOf_108 (by decide) ?_
                refine lv_iload_n hx hb dX4_reasonOf_110 rfl (lv_at hl 2 rfl) ?_
                refine z_add (v := nI (83 + n)) hx hb dX4_reasonOf_111 (nI_add _ _) ?_
                refine z_callVI (As := [.int (nI ((e - 1) - d)), .int (nI (83 + n))]) (rest := []) (wr := []) (C := RX4) F (c_X4_ofCompaction l G a v y ((e - 1) - d) (83 + n) (by omega) (by omega)) (cwV 2 hts gX4_reasonOf_X4_ofCompaction rfl rfl rfl (by decide +kernel) ⟨Nat.le_of_ble_eq_true rfl, Nat.le_of_ble_eq_true rfl⟩) hKK (z_recv hKK hP (q0 := 0) (ci := 4) rfl rfl) hP hD hS hA rfl hl.1 rfl (Nat.le_of_ble_eq_true rfl) ⟨Nat.zero_le _, Nat.zero_le _⟩ dX4_reasonOf_112 (fun H locs hP hD hS => ?_)
                have hP : va_P G.1 vwCl (modW G a v y) H := hP
                have hD : va_D A (modW G a v y) := hD
                refine z_top (v := nI z2) hze ?_
                refine lv_istore (lv' := [(4, .int (nI z2)), (6, .int (nI ((e - 1) - d))), (0, .ref (a 0)), (2, .int (nI n)), (5, .int (nI d))]) hx hb dX4_reasonOf_115 hl (by decide) rfl (fun ls hl => ?_)
                refine lv_aload_n hx hb dX4_reasonOf_117 rfl (lv_at hl 2 rfl) ?_
                refine lv_iload hx hb dX4_reasonOf_118 (lv_at hl 1 rfl) ?_
                refine lv_bipush (v := nI 43) hx hb dX4_reasonOf_120 (by decide) ?_
                refine lv_iload_n hx hb dX4_reasonOf_122 rfl (lv_at hl 3 rfl) ?_
                refine z_add (v := nI (43 + n)) hx hb dX4_reasonOf_123 (nI_add _ _) ?_
                refine z_callVI (As := [.int (nI ((e - 1) - d)), .int (nI (43 + n))]) (rest := []) (wr := []) (C := RX4) F (c_X4_ofCompaction l G a v y ((e - 1) - d) (43 + n) (by omega) (by omega)) (cwV 2 hts gX4_reasonOf_X4_ofCompaction rfl rfl rfl (by decide +kernel) ⟨Nat.le_of_ble_eq_true rfl, Nat.le_of_ble_eq_true rfl⟩) hKK (z_recv hKK hP (q0 := 0) (ci := 4) rfl rfl) hP hD hS hA rfl hl.1 rfl (Nat.le_of_ble_eq_true rfl) ⟨Nat.zero_le _, Nat.zero_le _⟩ dX4_reasonOf_124 (fun H locs hP hD hS => ?_)
                have hP : va_P G.1 vwCl (modW G a v y) H := hP
                have hD : va_D A (modW G a v y) := hD
                refine z_top (v := nI q) hqe ?_
                refine lv_istore_n (lv' := [(2, .int (nI q)), (4, .int (nI z2)), (6, .int (nI ((e - 1) - d))), (0, .ref (a 0)), (5, .int (nI d))]) hx hb dX4_reasonOf_127 rfl hl (by decide) rfl (fun ls hl => ?_)
                refine lv_iinc (v := nI (d + 1)) (lv' := [(5, .int (nI (d + 1))), (2, .int (nI q)), (4, .int (nI z2)), (6, .int (nI ((e - 1) - d))), (0, .ref (a 0))]) hx hb dX4_reasonOf_128 hl (k := 4) rfl (nI_1 _) (by decide) rfl (fun ls hl => ?_)
                refine lv_goto (tgt := 65) hx hb dX4_reasonOf_131 (by decide) ?_
                exact ih_5 (d + 1) q z2 (by omega) (by omega) hq hz2 (hf.trans (mFol_go (by omega) c_9 hq hqe hze)) (by omega) _ _ _ hP hD hS (lv_sub hl [4, 1, 2, 0] rfl)
              · skip
                refine lv_iconst (v := nI 3) hx hb dX4_reasonOf_103 (by decide) ?_
                have E9 : mStaN (v 0) e t = (3, none) := by rw [mStaN, if_neg (Nat.not_le.mpr c_2), if_neg (Nat.not_lt.mpr c_3), if_neg (by omega), hf, mFol_bad (by omega) c_9]
                exact z_iret hx hb hr hlk hP hD hS dX4_reasonOf_104 (by rw [E9]) (congrArg (modW G a v) (by rw [E9]; rfl))
        exact key_5 _ (t / 1000000) (t % 100) (t / 100 % 10000) (by omega) (by omega) (by omega) (by omega) rfl (Nat.lt_succ_self _) _ _ _ hP hD hS (lv_sub hl [4, 3, 1, 0] rfl)
      · skip
        refine lv_iconst (v := nI 2) hx hb dX4_reasonOf_60 (by decide) ?_
        have E9 : mStaN (v 0) e t = (2, none) := by rw [mStaN, if_neg (Nat.not_le.mpr c_2), if_neg (Nat.not_lt.mpr c_3), if_pos c_4]
        exact z_iret hx hb hr hlk hP hD hS dX4_reasonOf_61 (by rw [E9]) (congrArg (modW G a v) (by rw [E9]; rfl))
    · skip
      refine lv_iconst (v := nI 1) hx hb dX4_reasonOf_28 (by decide) ?_
      have E9 : mStaN (v 0) e t = (1, none) := by rw [mStaN, if_neg (Nat.not_le.mpr c_2), if_pos c_3]
      exact z_iret hx hb hr hlk hP hD hS dX4_reasonOf_29 (by rw [E9]) (congrArg (modW G a v) (by rw [E9]; rfl))

theorem c_X4_reasonOf (l : Launch) (G : ZG) (a : Nat → Nat) (v : Mem) (y : Nat → Nat) (x : Int32) (e : Nat) (he : v 0 0 = nI e) (hm : v 0 3 = nI e) (he2 : e ≤ 999) (hc : okM (v 0) e) : CI l G yX4_reasonOf wsX4_reasonOf (zRm 1 22) [.ref (a 0), .int x] (modW G a v y) (nI (mSta (v 0) e x).1) (modW G a v (mY y (mSta (v 0) e x))) := by
  by_cases h : x < 0
  · rw [mSta, if_pos h]
    exact c_X4_reasonOf_neg l G a v y x h
  · obtain ⟨t, ht, rfl⟩ := nI_of h
    rw [mSta, if_neg h, nI_clamp ht]
    exact c_X4_reasonOf_N l G a v y t e ht he hm he2 hc

set_option maxHeartbeats 4000000 in
set_option maxRecDepth 100000 in
theorem c_X4_isAhead (l : Launch) (G : ZG) (a : Nat → Nat) (v : Mem) (y : Nat → Nat) (ρ i j : Nat) (hρ : ρ ≤ 2) (hi : i < 40) (hj : j < 40) (hN : okNm (rN (v 0))) (hi0 : ¬ v 0 (4 + i) = 0) (hj0 : ¬ v 0 (4 + j) = 0) : CI l G yX4_isAhead wsX4_isAhead (zRm 1 21) [.ref (a 0), .int (nI ρ), .int (nI i), .int (nI j)] (modW G a v y) (bI (zAh (rN (v 0)) (rU (v 0)) ρ i j)) (modW G a v y) := by
  refine CI.ent (cc := cX4_isAhead) (maxL := 4) (ty := .boolean) (own := RX4) (by decide) rfl rfl (Nat.le_of_ble_eq_true rfl) ?_
  intro p ee s m args below meth c A ls F hr hlk hKK hP hD hA hS hl
  obtain ⟨hx, hb, hml, hown, hts⟩ := id F
  have hl : lv_has ls 4 [(0, .ref (a 0)), (1, .int (nI ρ)), (2, .int (nI i)), (3, .int (nI j))] := hl
  have fl_7 := hts (.fieldLink RX4 7 "NameRollsModel" "now" "[I") (by decide +kernel)
  have hinX4 : ∀ w ∈ wsX40, w ∈ wsX4_isAhead := by decide +kernel
  refine lv_iload_n hx hb dX4_isAhead_0 rfl (lv_at hl 1 rfl) ?_
  refine lv_iconst (v := nI 1) hx hb dX4_isAhead_1 (by decide) ?_
  refine z_ne (tgt := 36) hx hb dX4_isAhead_2 (by decide) (by omega) (by omega) (fun c_1 => ?_) (fun c_1 => ?_)
  · skip
    refine lv_iload_n hx hb dX4_isAhead_36 rfl (lv_at hl 1 rfl) ?_
    refine lv_iconst (v := nI 2) hx hb dX4_isAhead_37 (by decide) ?_
    refine z_ne (tgt := 91) hx hb dX4_isAhead_38 (by decide) (by omega) (by omega) (fun c_2 => ?_) (fun c_2 => ?_)
    · skip
      refine lv_iload_n hx hb dX4_isAhead_91 rfl (lv_at hl 2 rfl) ?_
      refine lv_iload_n hx hb dX4_isAhead_92 rfl (lv_at hl 3 rfl) ?_
      refine z_ge (tgt := 100) hx hb dX4_isAhead_93 (by decide) (by omega) (by omega) (fun c_3 => ?_) (fun c_3 => ?_)
      · skip
        refine lv_iconst (v := nI 0) hx hb dX4_isAhead_100 (by decide) ?_
        exact z_zret hx hb hr hlk hP hD hS dX4_isAhead_101 (by decide) (by rw [zAh, if_neg c_1, if_neg (fun q => c_2 q.1)]; exact bI_df (Nat.not_lt.mpr c_3)) rfl
      · skip
        refine lv_iconst (v := nI 1) hx hb dX4_isAhead_96 (by decide) ?_
        refine lv_goto (tgt := 101) hx hb dX4_isAhead_97 (by decide) ?_
        exact z_zret hx hb hr hlk hP hD hS dX4_isAhead_101 (by decide) (by rw [zAh, if_neg c_1, if_neg (fun q => c_2 q.1)]; exact bI_dt c_3) rfl
    · skip
      refine lv_aload_n hx hb dX4_isAhead_41 rfl (lv_at hl 0 rfl) ?_
      refine va_get (D := G.1) (ci := 4) (v := .ref (a 1)) (C := RX4) (T := TX4) (N := 17) hx hb hts hinX4 hown hKK.1 hP 0 rfl rfl 0 (by decide) fl_7 (fun _ h9 => h9) rfl dX4_isAhead_42 ?_
      refine lv_bipush (v := nI 44) hx hb dX4_isAhead_45 (by decide) ?_
      refine lv_iload_n hx hb dX4_isAhead_47 rfl (lv_at hl 2 rfl) ?_
      refine z_add (v := nI (44 + i)) hx hb dX4_isAhead_48 (nI_add _ _) ?_
      refine z_iald (n := 511) (f := v 0) (v := v 0 (44 + i)) hx hb hKK hP 1 rfl (by omega) (by decide) rfl dX4_isAhead_49 ?_
      refine lv_aload_n hx hb dX4_isAhead_50 rfl (lv_at hl 0 rfl) ?_
      refine va_get (D := G.1) (ci := 4) (v := .ref (a 1)) (C := RX4) (T := TX4) (N := 17) hx hb hts hinX4 hown hKK.1 hP 0 rfl rfl 0 (by decide) fl_7 (fun _ h9 => h9) rfl dX4_isAhead_51 ?_
      refine lv_bipush (v := nI 44) hx hb dX4_isAhead_54 (by decide) ?_
      refine lv_iload_n hx hb dX4_isAhead_56 rfl (lv_at hl 3 rfl) ?_
      refine z_add (v := nI (44 + j)) hx hb dX4_isAhead_57 (nI_add _ _) ?_
      refine z_iald (n := 511) (f := v 0) (v := v 0 (44 + j)) hx hb hKK hP 1 rfl (by omega) (by decide) rfl dX4_isAhead_58 ?_
      refine lv_icmp_eq (tgt := 91) hx hb dX4_isAhead_59 (by decide) (fun c_4 => ?_) (fun c_4 => ?_)
      · skip
        refine lv_iload_n hx hb dX4_isAhead_91 rfl (lv_at hl 2 rfl) ?_
        refine lv_iload_n hx hb dX4_isAhead_92 rfl (lv_at hl 3 rfl) ?_
        refine z_ge (tgt := 100) hx hb dX4_isAhead_93 (by decide) (by omega) (by omega) (fun c_5 => ?_) (fun c_5 => ?_)
        · skip
          refine lv_iconst (v := nI 0) hx hb dX4_isAhead_100 (by decide) ?_
          exact z_zret hx hb hr hlk hP hD hS dX4_isAhead_101 (by decide) (by rw [zAh, if_neg c_1, if_neg (fun q => q.2 c_4)]; exact bI_df (Nat.not_lt.mpr c_5)) rfl
        · skip
          refine lv_iconst (v := nI 1) hx hb dX4_isAhead_96 (by decide) ?_
          refine lv_goto (tgt := 101) hx hb dX4_isAhead_97 (by decide) ?_
          exact z_zret hx hb hr hlk hP hD hS dX4_isAhead_101 (by decide) (by rw [zAh, if_neg c_1, if_neg (fun q => q.2 c_4)]; exact bI_dt c_5) rfl
      · skip
        refine lv_aload_n hx hb dX4_isAhead_62 rfl (lv_at hl 0 rfl) ?_
        refine va_get (D := G.1) (ci := 4) (v := .ref (a 1)) (C := RX4) (T := TX4) (N := 17) hx hb hts hinX4 hown hKK.1 hP 0 rfl rfl 0 (by decide) fl_7 (fun _ h9 => h9) rfl dX4_isAhead_63 ?_
        refine lv_bipush (v := nI 44) hx hb dX4_isAhead_66 (by decide) ?_
        refine lv_iload_n hx hb dX4_isAhead_68 rfl (lv_at hl 2 rfl) ?_
        refine z_add (v := nI (44 + i)) hx hb dX4_isAhead_69 (nI_add _ _) ?_
        refine z_iald (n := 511) (f := v 0) (v := v 0 (44 + i)) hx hb hKK hP 1 rfl (by omega) (by decide) rfl dX4_isAhead_70 ?_
        refine lv_aload_n hx hb dX4_isAhead_71 rfl (lv_at hl 0 rfl) ?_
        refine va_get (D := G.1) (ci := 4) (v := .ref (a 1)) (C := RX4) (T := TX4) (N := 17) hx hb hts hinX4 hown hKK.1 hP 0 rfl rfl 0 (by decide) fl_7 (fun _ h9 => h9) rfl dX4_isAhead_72 ?_
        refine lv_bipush (v := nI 44) hx hb dX4_isAhead_75 (by decide) ?_
        refine lv_iload_n hx hb dX4_isAhead_77 rfl (lv_at hl 3 rfl) ?_
        refine z_add (v := nI (44 + j)) hx hb dX4_isAhead_78 (nI_add _ _) ?_
        refine z_iald (n := 511) (f := v 0) (v := v 0 (44 + j)) hx hb hKK hP 1 rfl (by omega) (by decide) rfl dX4_isAhead_79 ?_
        refine lv_icmp_le (tgt := 87) hx hb dX4_isAhead_80 (by decide) (fun c_6 => ?_) (fun c_6 => ?_)
        · skip
          refine lv_iconst (v := nI 0) hx hb dX4_isAhead_87 (by decide) ?_
          refine lv_goto (tgt := 101) hx hb dX4_isAhead_88 (by decide) ?_
          exact z_zret hx hb hr hlk hP hD hS dX4_isAhead_101 (by decide) (by rw [zAh, if_neg c_1, if_pos ⟨c_2, c_4⟩]; exact bI_df (fun q => q c_6)) rfl
        · skip
          refine lv_iconst (v := nI 1) hx hb dX4_isAhead_83 (by decide) ?_
          refine lv_goto (tgt := 101) hx hb dX4_isAhead_84 (by decide) ?_
          exact z_zret hx hb hr hlk hP hD hS dX4_isAhead_101 (by decide) (by rw [zAh, if_neg c_1, if_pos ⟨c_2, c_4⟩]; exact bI_dt c_6) rfl
  · skip
    refine lv_aload_n hx hb dX4_isAhead_5 rfl (lv_at hl 0 rfl) ?_
    refine va_get (D := G.1) (ci := 4) (v := .ref (a 1)) (C := RX4) (T := TX4) (N := 17) hx hb hts hinX4 hown hKK.1 hP 0 rfl rfl 0 (by decide) fl_7 (fun _ h9 => h9) rfl dX4_isAhead_6 ?_
    refine lv_iconst (v := nI 4) hx hb dX4_isAhead_9 (by decide) ?_
    refine lv_iload_n hx hb dX4_isAhead_10 rfl (lv_at hl 2 rfl) ?_
    refine z_add (v := nI (4 + i)) hx hb dX4_isAhead_11 (nI_add _ _) ?_
    refine z_iald (n := 511) (f := v 0) (v := v 0 (4 + i)) hx hb hKK hP 1 rfl (by omega) (by decide) rfl dX4_isAhead_12 ?_
    refine z_top (v := nI ((rN (v 0) i).toNatClampNeg)) (hN _ hi).1 ?_
    refine z_callSI (As := [.int (nI ((rN (v 0) i).toNatClampNeg))]) (rest := []) F (c_X4_padded l G ((rN (v 0) i).toNatClampNeg) (nm_pos (hN _ hi).1 hi0) (hN _ hi).2) (va_cwS 1 hts gX4_isAhead_X4_padded rfl rfl rfl (by decide +kernel) ⟨Nat.le_of_ble_eq_true rfl, Nat.le_of_ble_eq_true rfl⟩) hKK hP hD hS hA rfl hl.1 rfl (Nat.le_of_ble_eq_true rfl) ⟨Nat.zero_le _, Nat.zero_le _⟩ dX4_isAhead_13 (fun H locs hP hD hS => ?_)
    refine lv_aload_n hx hb dX4_isAhead_16 rfl (lv_at hl 0 rfl) ?_
    refine va_get (D := G.1) (ci := 4) (v := .ref (a 1)) (C := RX4) (T := TX4) (N := 17) hx hb hts hinX4 hown hKK.1 hP 0 rfl rfl 0 (by decide) fl_7 (fun _ h9 => h9) rfl dX4_isAhead_17 ?_
    refine lv_iconst (v := nI 4) hx hb dX4_isAhead_20 (by decide) ?_
    refine lv_iload_n hx hb dX4_isAhead_21 rfl (lv_at hl 3 rfl) ?_
    refine z_add (v := nI (4 + j)) hx hb dX4_isAhead_22 (nI_add _ _) ?_
    refine z_iald (n := 511) (f := v 0) (v := v 0 (4 + j)) hx hb hKK hP 1 rfl (by omega) (by decide) rfl dX4_isAhead_23 ?_
    refine z_top (v := nI ((rN (v 0) j).toNatClampNeg)) (hN _ hj).1 ?_
    refine z_callSI (As := [.int (nI ((rN (v 0) j).toNatClampNeg))]) (rest := [.int (nI (padK 5 ((rN (v 0) i).toNatClampNeg)))]) F (c_X4_padded l G ((rN (v 0) j).toNatClampNeg) (nm_pos (hN _ hj).1 hj0) (hN _ hj).2) (va_cwS 1 hts gX4_isAhead_X4_padded rfl rfl rfl (by decide +kernel) ⟨Nat.le_of_ble_eq_true rfl, Nat.le_of_ble_eq_true rfl⟩) hKK hP hD hS hA rfl hl.1 rfl (Nat.le_of_ble_eq_true rfl) ⟨Nat.zero_le _, Nat.zero_le _⟩ dX4_isAhead_24 (fun H locs hP hD hS => ?_)
    refine z_ge (tgt := 34) hx hb dX4_isAhead_27 (by decide) (Nat.lt_trans (padK_lt 5 _ (hN _ hi).2) (by decide)) (Nat.lt_trans (padK_lt 5 _ (hN _ hj).2) (by decide)) (fun c_7 => ?_) (fun c_7 => ?_)
    · skip
      refine lv_iconst (v := nI 0) hx hb dX4_isAhead_34 (by decide) ?_
      exact z_zret hx hb hr hlk hP hD hS dX4_isAhead_35 (by decide) (by rw [zAh, if_pos c_1]; exact bI_df (Nat.not_lt.mpr c_7)) rfl
    · skip
      refine lv_iconst (v := nI 1) hx hb dX4_isAhead_30 (by decide) ?_
      refine lv_goto (tgt := 35) hx hb dX4_isAhead_31 (by decide) ?_
      exact z_zret hx hb hr hlk hP hD hS dX4_isAhead_35 (by decide) (by rw [zAh, if_pos c_1]; exact bI_dt c_7) rfl

set_option maxHeartbeats 4000000 in
set_option maxRecDepth 100000 in
theorem c_X4_puts_e (l : Launch) (G : ZG) (a : Nat → Nat) (v : Mem) (y : Nat → Nat) (i n : Nat) (hi : i < 18) (hn : n < 40) (he : v 0 (124 + i) = -1) : CI l G yX4_puts wsX4_puts (zRm 1 21) [.ref (a 0), .int (nI i), .int (nI n)] (modW G a v y) (v 0 (44 + n) + nI 1) (modW G a (mrow v 0 (mPut1 (v 0) i n)) y) := by
  refine CI.ent (cc := cX4_puts) (maxL := 4) (ty := .int) (own := RX4) (by decide) rfl rfl (Nat.le_of_ble_eq_true rfl) ?_
  intro p ee s m args below meth c A ls F hr hlk hKK hP hD hA hS hl
  obtain ⟨hx, hb, hml, hown, hts⟩ := id F
  have hl : lv_has ls 4 [(0, .ref (a 0)), (1, .int (nI i)), (2, .int (nI n))] := hl
  have fl_7 := hts (.fieldLink RX4 7 "NameRollsModel" "now" "[I") (by decide +kernel)
  have hinX4 : ∀ w ∈ wsX40, w ∈ wsX4_puts := by decide +kernel
  refine lv_aload_n hx hb dX4_puts_0 rfl (lv_at hl 0 rfl) ?_
  refine va_get (D := G.1) (ci := 4) (v := .ref (a 1)) (C := RX4) (T := TX4) (N := 17) hx hb hts hinX4 hown hKK.1 hP 0 rfl rfl 0 (by decide) fl_7 (fun _ h9 => h9) rfl dX4_puts_1 ?_
  refine lv_bipush (v := nI 124) hx hb dX4_puts_4 (by decide) ?_
  refine lv_iload_n hx hb dX4_puts_6 rfl (lv_at hl 1 rfl) ?_
  refine z_add (v := nI (124 + i)) hx hb dX4_puts_7 (nI_add _ _) ?_
  refine z_iald (n := 511) (f := v 0) (v := v 0 (124 + i)) hx hb hKK hP 1 rfl (by omega) (by decide) rfl dX4_puts_8 ?_
  refine z_top (v := (-1)) he ?_
  refine lv_istore_n (lv' := [(3, .int ((-1))), (0, .ref (a 0)), (1, .int (nI i)), (2, .int (nI n))]) hx hb dX4_puts_9 rfl hl (by decide) rfl (fun ls hl => ?_)
  refine lv_aload_n hx hb dX4_puts_10 rfl (lv_at hl 1 rfl) ?_
  refine va_get (D := G.1) (ci := 4) (v := .ref (a 1)) (C := RX4) (T := TX4) (N := 17) hx hb hts hinX4 hown hKK.1 hP 0 rfl rfl 0 (by decide) fl_7 (fun _ h9 => h9) rfl dX4_puts_11 ?_
  refine lv_bipush (v := nI 44) hx hb dX4_puts_14 (by decide) ?_
  refine lv_iload_n hx hb dX4_puts_16 rfl (lv_at hl 3 rfl) ?_
  refine z_add (v := nI (44 + n)) hx hb dX4_puts_17 (nI_add _ _) ?_
  refine lv_dup2_11 hx hb dX4_puts_18 rfl rfl ?_
  refine z_iald (n := 511) (f := v 0) (v := v 0 (44 + n)) hx hb hKK hP 1 rfl (by omega) (by decide) rfl dX4_puts_19 ?_
  refine lv_iconst (v := nI 1) hx hb dX4_puts_20 (by decide) ?_
  refine z_add (v := (v 0 (44 + n)) + (nI 1)) hx hb dX4_puts_21 rfl ?_
  refine z_iast (n := 511) (f := v 0) (w2 := modW G a (mrow v 0 (upd (v 0) (44 + n) ((v 0 (44 + n)) + (nI 1)))) y) hx hb hKK hP hD hS 1 rfl (by omega) (by decide) rfl dX4_puts_22 (fun H locs hP hD hS => ?_)
  refine lv_aload_n hx hb dX4_puts_23 rfl (lv_at hl 1 rfl) ?_
  refine va_get (D := G.1) (ci := 4) (v := .ref (a 1)) (C := RX4) (T := TX4) (N := 17) hx hb hts hinX4 hown hKK.1 hP 0 rfl rfl 0 (by decide) fl_7 (fun _ h9 => h9) rfl dX4_puts_24 ?_
  refine lv_bipush (v := nI 124) hx hb dX4_puts_27 (by decide) ?_
  refine lv_iload_n hx hb dX4_puts_29 rfl (lv_at hl 2 rfl) ?_
  refine z_add (v := nI (124 + i)) hx hb dX4_puts_30 (nI_add _ _) ?_
  refine lv_iload_n hx hb dX4_puts_31 rfl (lv_at hl 3 rfl) ?_
  refine z_iast (n := 511) (f := upd (v 0) (44 + n) ((v 0 (44 + n)) + (nI 1))) (w2 := modW G a (mrow v 0 (upd (upd (v 0) (44 + n) ((v 0 (44 + n)) + (nI 1))) (124 + i) (nI n))) y) hx hb hKK hP hD hS 1 rfl (by omega) (by decide) rfl dX4_puts_32 (fun H locs hP hD hS => ?_)
  refine lv_iload_n hx hb dX4_puts_33 rfl (lv_at hl 0 rfl) ?_
  refine lv_if_lt (tgt := 43) hx hb dX4_puts_34 (by decide) (fun c_1 => ?_) (fun c_1 => absurd (by decide) c_1)
  refine lv_aload_n hx hb dX4_puts_43 rfl (lv_at hl 1 rfl) ?_
  refine va_get (D := G.1) (ci := 4) (v := .ref (a 1)) (C := RX4) (T := TX4) (N := 17) hx hb hts hinX4 hown hKK.1 hP 0 rfl rfl 0 (by decide) fl_7 (fun _ h9 => h9) rfl dX4_puts_44 ?_
  refine lv_bipush (v := nI 44) hx hb dX4_puts_47 (by decide) ?_
  refine lv_iload_n hx hb dX4_puts_49 rfl (lv_at hl 3 rfl) ?_
  refine z_add (v := nI (44 + n)) hx hb dX4_puts_50 (nI_add _ _) ?_
  refine z_iald (n := 511) (f := upd (upd (v 0) (44 + n) ((v 0 (44 + n)) + (nI 1))) (124 + i) (nI n)) (v := (upd (upd (v 0) (44 + n) ((v 0 (44 + n)) + (nI 1))) (124 + i) (nI n)) (44 + n)) hx hb hKK hP 1 rfl (by omega) (by decide) rfl dX4_puts_51 ?_
  exact z_iret hx hb hr hlk hP hD hS dX4_puts_52 ((pk_un (by omega)).trans pk_us) rfl

set_option maxHeartbeats 4000000 in
set_option maxRecDepth 100000 in
theorem c_X4_puts_o (l : Launch) (G : ZG) (a : Nat → Nat) (v : Mem) (y : Nat → Nat) (i n o : Nat) (hi : i < 18) (hn : n < 40) (ho : o < 40) (he : v 0 (124 + i) = nI o) : CI l G yX4_puts wsX4_puts (zRm 1 21) [.ref (a 0), .int (nI i), .int (nI n)] (modW G a v y) (mGive (mPut1 (v 0) i n) o (44 + n)) (modW G a (mrow v 0 (mGive (mPut1 (v 0) i n) o)) y) := by
  refine CI.ent (cc := cX4_puts) (maxL := 4) (ty := .int) (own := RX4) (by decide) rfl rfl (Nat.le_of_ble_eq_true rfl) ?_
  intro p ee s m args below meth c A ls F hr hlk hKK hP hD hA hS hl
  obtain ⟨hx, hb, hml, hown, hts⟩ := id F
  have hl : lv_has ls 4 [(0, .ref (a 0)), (1, .int (nI i)), (2, .int (nI n))] := hl
  have fl_7 := hts (.fieldLink RX4 7 "NameRollsModel" "now" "[I") (by decide +kernel)
  have hinX4 : ∀ w ∈ wsX40, w ∈ wsX4_puts := by decide +kernel
  refine lv_aload_n hx hb dX4_puts_0 rfl (lv_at hl 0 rfl) ?_
  refine va_get (D := G.1) (ci := 4) (v := .ref (a 1)) (C := RX4) (T := TX4) (N := 17) hx hb hts hinX4 hown hKK.1 hP 0 rfl rfl 0 (by decide) fl_7 (fun _ h9 => h9) rfl dX4_puts_1 ?_
  refine lv_bipush (v := nI 124) hx hb dX4_puts_4 (by decide) ?_
  refine lv_iload_n hx hb dX4_puts_6 rfl (lv_at hl 1 rfl) ?_
  refine z_add (v := nI (124 + i)) hx hb dX4_puts_7 (nI_add _ _) ?_
  refine z_iald (n := 511) (f := v 0) (v := v 0 (124 + i)) hx hb hKK hP 1 rfl (by omega) (by decide) rfl dX4_puts_8 ?_
  refine z_top (v := nI o) he ?_
  refine lv_istore_n (lv' := [(3, .int (nI o)), (0, .ref (a 0)), (1, .int (nI i)), (2, .int (nI n))]) hx hb dX4_puts_9 rfl hl (by decide) rfl (fun ls hl => ?_)
  refine lv_aload_n hx hb dX4_puts_10 rfl (lv_at hl 1 rfl) ?_
  refine va_get (D := G.1) (ci := 4) (v := .ref (a 1)) (C := RX4) (T := TX4) (N := 17) hx hb hts hinX4 hown hKK.1 hP 0 rfl rfl 0 (by decide) fl_7 (fun _ h9 => h9) rfl dX4_puts_11 ?_
  refine lv_bipush (v := nI 44) hx hb dX4_puts_14 (by decide) ?_
  refine lv_iload_n hx hb dX4_puts_16 rfl (lv_at hl 3 rfl) ?_
  refine z_add (v := nI (44 + n)) hx hb dX4_puts_17 (nI_add _ _) ?_
  refine lv_dup2_11 hx hb dX4_puts_18 rfl rfl ?_
  refine z_iald (n := 511) (f := v 0) (v := v 0 (44 + n)) hx hb hKK hP 1 rfl (by omega) (by decide) rfl dX4_puts_19 ?_
  refine lv_iconst (v := nI 1) hx hb dX4_puts_20 (by decide) ?_
  refine z_add (v := (v 0 (44 + n)) + (nI 1)) hx hb dX4_puts_21 rfl ?_
  refine z_iast (n := 511) (f := v 0) (w2 := modW G a (mrow v 0 (upd (v 0) (44 + n) ((v 0 (44 + n)) + (nI 1)))) y) hx hb hKK hP hD hS 1 rfl (by omega) (by decide) rfl dX4_puts_22 (fun H locs hP hD hS => ?_)
  refine lv_aload_n hx hb dX4_puts_23 rfl (lv_at hl 1 rfl) ?_
  refine va_get (D := G.1) (ci := 4) (v := .ref (a 1)) (C := RX4) (T := TX4) (N := 17) hx hb hts hinX4 hown hKK.1 hP 0 rfl rfl 0 (by decide) fl_7 (fun _ h9 => h9) rfl dX4_puts_24 ?_
  refine lv_bipush (v := nI 124) hx hb dX4_puts_27 (by decide) ?_
  refine lv_iload_n hx hb dX4_puts_29 rfl (lv_at hl 2 rfl) ?_
  refine z_add (v := nI (124 + i)) hx hb dX4_puts_30 (nI_add _ _) ?_
  refine lv_iload_n hx hb dX4_puts_31 rfl (lv_at hl 3 rfl) ?_
  refine z_iast (n := 511) (f := upd (v 0) (44 + n) ((v 0 (44 + n)) + (nI 1))) (w2 := modW G a (mrow v 0 (upd (upd (v 0) (44 + n) ((v 0 (44 + n)) + (nI 1))) (124 + i) (nI n))) y) hx hb hKK hP hD hS 1 rfl (by omega) (by decide) rfl dX4_puts_32 (fun H locs hP hD hS => ?_)
  refine lv_iload_n hx hb dX4_puts_33 rfl (lv_at hl 0 rfl) ?_
  refine z_ifNlt (tgt := 43) hx hb dX4_puts_34 (by decide) (by omega) (fun c_1 => absurd c_1 (Nat.not_lt_zero _)) (fun c_1 => ?_)
  refine lv_aload_n hx hb dX4_puts_37 rfl (lv_at hl 1 rfl) ?_
  refine lv_iload_n hx hb dX4_puts_38 rfl (lv_at hl 0 rfl) ?_
  refine z_callVI (As := [.int (nI o)]) (rest := []) (wr := []) (C := RX4) F (c_X4_givesBack l G a (mrow v 0 (upd (upd (v 0) (44 + n) ((v 0 (44 + n)) + (nI 1))) (124 + i) (nI n))) y (o) (by omega)) (cwV 1 hts gX4_puts_X4_givesBack rfl rfl rfl (by decide +kernel) ⟨Nat.le_of_ble_eq_true rfl, Nat.le_of_ble_eq_true rfl⟩) hKK (z_recv hKK hP (q0 := 0) (ci := 4) rfl rfl) hP hD hS hA rfl hl.1 rfl (Nat.le_of_ble_eq_true rfl) ⟨Nat.zero_le _, Nat.zero_le _⟩ dX4_puts_39 (fun H locs hP hD hS => ?_)
  have hP : va_P G.1 vwCl (modW G a (mrow v 0 (mGive (upd (upd (v 0) (44 + n) ((v 0 (44 + n)) + (nI 1))) (124 + i) (nI n)) o)) y) H := hP
  have hD : va_D A (modW G a (mrow v 0 (mGive (upd (upd (v 0) (44 + n) ((v 0 (44 + n)) + (nI 1))) (124 + i) (nI n)) o)) y) := hD
  refine lv_pop hx hb dX4_puts_42 rfl ?_
  refine lv_aload_n hx hb dX4_puts_43 rfl (lv_at hl 1 rfl) ?_
  refine va_get (D := G.1) (ci := 4) (v := .ref (a 1)) (C := RX4) (T := TX4) (N := 17) hx hb hts hinX4 hown hKK.1 hP 0 rfl rfl 0 (by decide) fl_7 (fun _ h9 => h9) rfl dX4_puts_44 ?_
  refine lv_bipush (v := nI 44) hx hb dX4_puts_47 (by decide) ?_
  refine lv_iload_n hx hb dX4_puts_49 rfl (lv_at hl 3 rfl) ?_
  refine z_add (v := nI (44 + n)) hx hb dX4_puts_50 (nI_add _ _) ?_
  refine z_iald (n := 511) (f := mGive (upd (upd (v 0) (44 + n) ((v 0 (44 + n)) + (nI 1))) (124 + i) (nI n)) o) (v := (mGive (upd (upd (v 0) (44 + n) ((v 0 (44 + n)) + (nI 1))) (124 + i) (nI n)) o) (44 + n)) hx hb hKK hP 1 rfl (by omega) (by decide) rfl dX4_puts_51 ?_
  exact z_iret hx hb hr hlk hP hD hS dX4_puts_52 rfl rfl

set_option maxHeartbeats 4000000 in
set_option maxRecDepth 100000 in
theorem c_X4_namesAll (l : Launch) (G : ZG) (a : Nat → Nat) (v : Mem) (y : Nat → Nat)  : CI l G yX4_namesAll wsX4_namesAll (zRm 1 21) [.ref (a 0)] (modW G a v y) (nI (fb_ct (fun i => decide (¬ rN (v 0) i = 0)) 40)) (modW G a v y) := by
  refine CI.ent (cc := cX4_namesAll) (maxL := 3) (ty := .int) (own := RX4) (by decide) rfl rfl (Nat.le_of_ble_eq_true rfl) ?_
  intro p ee s m args below meth c A ls F hr hlk hKK hP hD hA hS hl
  obtain ⟨hx, hb, hml, hown, hts⟩ := id F
  have hl : lv_has ls 3 [(0, .ref (a 0))] := hl
  refine lv_iconst (v := nI 0) hx hb dX4_namesAll_0 (by decide) ?_
  refine lv_istore_n (lv' := [(1, .int (nI 0)), (0, .ref (a 0))]) hx hb dX4_namesAll_1 rfl hl (by decide) rfl (fun ls hl => ?_)
  refine lv_iconst (v := nI 0) hx hb dX4_namesAll_2 (by decide) ?_
  refine lv_istore_n (lv' := [(2, .int (nI 0)), (1, .int (nI 0)), (0, .ref (a 0))]) hx hb dX4_namesAll_3 rfl hl (by decide) rfl (fun ls hl => ?_)
  have key_1 : ∀ (nn : Nat) (i : Nat), i ≤ 40 → 40 - i < nn → ∀ (H : Heap) (locs : List Loc) (ls : Array Slot), va_P G.1 vwCl (modW G a v y) H → va_D A (modW G a v y) → va_S A s.heap H locs → lv_has ls 3 [(0, .ref (a 0)), (1, .int (nI (fb_ct (fun i => decide (¬ rN (v 0) i = 0)) i))), (2, .int (nI i))] → W p l ee (zRm 1 21) s m args below meth c H locs 0 0 (MQ below (ZQi G A (modW G a v y) (nI (fb_ct (fun i => decide (¬ rN (v 0) i = 0)) 40))) args s 0 0 A) (F0 m 4 ls []) := by
    intro nn
    induction nn with
    | zero => intro i _ hm; exact absurd hm (Nat.not_lt_zero _)
    | succ nn ih_1 =>
      intro i hi hm H locs ls hP hD hS hl
      refine lv_iload_n hx hb dX4_namesAll_4 rfl (lv_at hl 2 rfl) ?_
      refine lv_bipush (v := nI 40) hx hb dX4_namesAll_5 (by decide) ?_
      refine z_ge (tgt := 32) hx hb dX4_namesAll_7 (by decide) (by omega) (by omega) (fun c_2 => ?_) (fun c_2 => ?_)
      · skip
        refine lv_iload_n hx hb dX4_namesAll_32 rfl (lv_at hl 1 rfl) ?_
        exact z_iret hx hb hr hlk hP hD hS dX4_namesAll_33 (by rw [show i = 40 by omega]) rfl
      · skip
        refine lv_iload_n hx hb dX4_namesAll_10 rfl (lv_at hl 1 rfl) ?_
        refine lv_aload_n hx hb dX4_namesAll_11 rfl (lv_at hl 0 rfl) ?_
        refine lv_iload_n hx hb dX4_namesAll_12 rfl (lv_at hl 2 rfl) ?_
        refine z_callVI (As := [.int (nI i)]) (rest := [.int (nI (fb_ct (fun i => decide (¬ rN (v 0) i = 0)) i))]) (wr := []) (C := RX4) F (c_X4_isNamed l G a v y (i) (by omega)) (cwV 1 hts gX4_namesAll_X4_isNamed rfl rfl rfl (by decide +kernel) ⟨Nat.le_of_ble_eq_true rfl, Nat.le_of_ble_eq_true rfl⟩) hKK (z_recv hKK hP (q0 := 0) (ci := 4) rfl rfl) hP hD hS hA rfl hl.1 rfl (Nat.le_of_ble_eq_true rfl) ⟨Nat.zero_le _, Nat.zero_le _⟩ dX4_namesAll_13 (fun H locs hP hD hS => ?_)
        have hP : va_P G.1 vwCl (modW G a v y) H := hP
        have hD : va_D A (modW G a v y) := hD
        refine z_ifBeq (tgt := 23) hx hb dX4_namesAll_16 (by decide) (fun c_3 => ?_) (fun c_3 => ?_)
        · skip
          refine lv_iconst (v := nI 0) hx hb dX4_namesAll_23 (by decide) ?_
          refine z_add (v := nI (fb_ct ((fun i => decide (¬ rN (v 0) i = 0))) (i + 1))) hx hb dX4_namesAll_24 (by rw [fb_ct_f (p := (fun i => decide (¬ rN (v 0) i = 0))) (n := i) c_3]; exact nI_add _ 0) ?_
          refine lv_istore_n (lv' := [(1, .int (nI (fb_ct ((fun i => decide (¬ rN (v 0) i = 0))) (i + 1)))), (0, .ref (a 0)), (2, .int (nI i))]) hx hb dX4_namesAll_25 rfl hl (by decide) rfl (fun ls hl => ?_)
          refine lv_iinc (v := nI (i + 1)) (lv' := [(2, .int (nI (i + 1))), (1, .int (nI (fb_ct ((fun i => decide (¬ rN (v 0) i = 0))) (i + 1)))), (0, .ref (a 0))]) hx hb dX4_namesAll_26 hl (k := 2) rfl (nI_1 _) (by decide) rfl (fun ls hl => ?_)
          refine lv_goto (tgt := 4) hx hb dX4_namesAll_29 (by decide) ?_
          exact ih_1 (i + 1) (by omega) (by omega) _ _ _ hP hD hS (lv_sub hl [2, 1, 0] rfl)
        · skip
          refine lv_iconst (v := nI 1) hx hb dX4_namesAll_19 (by decide) ?_
          refine lv_goto (tgt := 24) hx hb dX4_namesAll_20 (by decide) ?_
          refine z_add (v := nI (fb_ct ((fun i => decide (¬ rN (v 0) i = 0))) (i + 1))) hx hb dX4_namesAll_24 (by rw [fb_ct_t (p := (fun i => decide (¬ rN (v 0) i = 0))) (n := i) c_3]; exact nI_1 _) ?_
          refine lv_istore_n (lv' := [(1, .int (nI (fb_ct ((fun i => decide (¬ rN (v 0) i = 0))) (i + 1)))), (0, .ref (a 0)), (2, .int (nI i))]) hx hb dX4_namesAll_25 rfl hl (by decide) rfl (fun ls hl => ?_)
          refine lv_iinc (v := nI (i + 1)) (lv' := [(2, .int (nI (i + 1))), (1, .int (nI (fb_ct ((fun i => decide (¬ rN (v 0) i = 0))) (i + 1)))), (0, .ref (a 0))]) hx hb dX4_namesAll_26 hl (k := 2) rfl (nI_1 _) (by decide) rfl (fun ls hl => ?_)
          refine lv_goto (tgt := 4) hx hb dX4_namesAll_29 (by decide) ?_
          exact ih_1 (i + 1) (by omega) (by omega) _ _ _ hP hD hS (lv_sub hl [2, 1, 0] rfl)
  exact key_1 _ 0 (by omega) (Nat.lt_succ_self _) _ _ _ hP hD hS (lv_sub hl [2, 1, 0] rfl)

set_option maxHeartbeats 4000000 in
set_option maxRecDepth 100000 in
theorem c_X4_usersAll (l : Launch) (G : ZG) (a : Nat → Nat) (v : Mem) (y : Nat → Nat)  : CI l G yX4_usersAll wsX4_usersAll (zRm 0 0) [.ref (a 0)] (modW G a v y) (zSm (rU (v 0)) 40) (modW G a v y) := by
  refine CI.ent (cc := cX4_usersAll) (maxL := 3) (ty := .int) (own := RX4) (by decide) rfl rfl (Nat.le_of_ble_eq_true rfl) ?_
  intro p ee s m args below meth c A ls F hr hlk hKK hP hD hA hS hl
  obtain ⟨hx, hb, hml, hown, hts⟩ := id F
  have hl : lv_has ls 3 [(0, .ref (a 0))] := hl
  have fl_7 := hts (.fieldLink RX4 7 "NameRollsModel" "now" "[I") (by decide +kernel)
  have hinX4 : ∀ w ∈ wsX40, w ∈ wsX4_usersAll := by decide +kernel
  refine lv_iconst (v := nI 0) hx hb dX4_usersAll_0 (by decide) ?_
  refine lv_istore_n (lv' := [(1, .int (nI 0)), (0, .ref (a 0))]) hx hb dX4_usersAll_1 rfl hl (by decide) rfl (fun ls hl => ?_)
  refine lv_iconst (v := nI 0) hx hb dX4_usersAll_2 (by decide) ?_
  refine lv_istore_n (lv' := [(2, .int (nI 0)), (1, .int (nI 0)), (0, .ref (a 0))]) hx hb dX4_usersAll_3 rfl hl (by decide) rfl (fun ls hl => ?_)
  have key_1 : ∀ (nn : Nat) (i : Nat), i ≤ 40 → 40 - i < nn → ∀ (H : Heap) (locs : List Loc) (ls : Array Slot), va_P G.1 vwCl (modW G a v y) H → va_D A (modW G a v y) → va_S A s.heap H locs → lv_has ls 3 [(0, .ref (a 0)), (1, .int (zSm (rU (v 0)) i)), (2, .int (nI i))] → W p l ee (zRm 0 0) s m args below meth c H locs 0 0 (MQ below (ZQi G A (modW G a v y) (zSm (rU (v 0)) 40)) args s 0 0 A) (F0 m 4 ls []) := by
    intro nn
    induction nn with
    | zero => intro i _ hm; exact absurd hm (Nat.not_lt_zero _)
    | succ nn ih_1 =>
      intro i hi hm H locs ls hP hD hS hl
      refine lv_iload_n hx hb dX4_usersAll_4 rfl (lv_at hl 2 rfl) ?_
      refine lv_bipush (v := nI 40) hx hb dX4_usersAll_5 (by decide) ?_
      refine z_ge (tgt := 28) hx hb dX4_usersAll_7 (by decide) (by omega) (by omega) (fun c_2 => ?_) (fun c_2 => ?_)
      · skip
        refine lv_iload_n hx hb dX4_usersAll_28 rfl (lv_at hl 1 rfl) ?_
        exact z_iret hx hb hr hlk hP hD hS dX4_usersAll_29 (by rw [show i = 40 by omega]) rfl
      · skip
        refine lv_iload_n hx hb dX4_usersAll_10 rfl (lv_at hl 1 rfl) ?_
        refine lv_aload_n hx hb dX4_usersAll_11 rfl (lv_at hl 0 rfl) ?_
        refine va_get (D := G.1) (ci := 4) (v := .ref (a 1)) (C := RX4) (T := TX4) (N := 17) hx hb hts hinX4 hown hKK.1 hP 0 rfl rfl 0 (by decide) fl_7 (fun _ h9 => h9) rfl dX4_usersAll_12 ?_
        refine lv_bipush (v := nI 44) hx hb dX4_usersAll_15 (by decide) ?_
        refine lv_iload_n hx hb dX4_usersAll_17 rfl (lv_at hl 2 rfl) ?_
        refine z_add (v := nI (44 + i)) hx hb dX4_usersAll_18 (nI_add _ _) ?_
        refine z_iald (n := 511) (f := v 0) (v := v 0 (44 + i)) hx hb hKK hP 1 rfl (by omega) (by decide) rfl dX4_usersAll_19 ?_
        refine z_add (v := zSm (rU (v 0)) (i + 1)) hx hb dX4_usersAll_20 rfl ?_
        refine lv_istore_n (lv' := [(1, .int (zSm (rU (v 0)) (i + 1))), (0, .ref (a 0)), (2, .int (nI i))]) hx hb dX4_usersAll_21 rfl hl (by decide) rfl (fun ls hl => ?_)
        refine lv_iinc (v := nI (i + 1)) (lv' := [(2, .int (nI (i + 1))), (1, .int (zSm (rU (v 0)) (i + 1))), (0, .ref (a 0))]) hx hb dX4_usersAll_22 hl (k := 2) rfl (nI_1 _) (by decide) rfl (fun ls hl => ?_)
        refine lv_goto (tgt := 4) hx hb dX4_usersAll_25 (by decide) ?_
        exact ih_1 (i + 1) (by omega) (by omega) _ _ _ hP hD hS (lv_sub hl [2, 1, 0] rfl)
  exact key_1 _ 0 (by omega) (Nat.lt_succ_self _) _ _ _ hP hD hS (lv_sub hl [2, 1, 0] rfl)

set_option maxHeartbeats 4000000 in
set_option maxRecDepth 100000 in
theorem c_X4_highest (l : Launch) (G : ZG) (a : Nat → Nat) (v : Mem) (y : Nat → Nat)  : CI l G yX4_highest wsX4_highest (zRm 1 21) [.ref (a 0)] (modW G a v y) (nI (zTop (rN (v 0)) 40)) (modW G a v y) := by
  refine CI.ent (cc := cX4_highest) (maxL := 3) (ty := .int) (own := RX4) (by decide) rfl rfl (Nat.le_of_ble_eq_true rfl) ?_
  intro p ee s m args below meth c A ls F hr hlk hKK hP hD hA hS hl
  obtain ⟨hx, hb, hml, hown, hts⟩ := id F
  have hl : lv_has ls 3 [(0, .ref (a 0))] := hl
  refine lv_iconst (v := nI 0) hx hb dX4_highest_0 (by decide) ?_
  refine lv_istore_n (lv' := [(1, .int (nI 0)), (0, .ref (a 0))]) hx hb dX4_highest_1 rfl hl (by decide) rfl (fun ls hl => ?_)
  refine lv_iconst (v := nI 0) hx hb dX4_highest_2 (by decide) ?_
  refine lv_istore_n (lv' := [(2, .int (nI 0)), (1, .int (nI 0)), (0, .ref (a 0))]) hx hb dX4_highest_3 rfl hl (by decide) rfl (fun ls hl => ?_)
  have key_1 : ∀ (nn : Nat) (i : Nat), i ≤ 40 → 40 - i < nn → ∀ (H : Heap) (locs : List Loc) (ls : Array Slot), va_P G.1 vwCl (modW G a v y) H → va_D A (modW G a v y) → va_S A s.heap H locs → lv_has ls 3 [(0, .ref (a 0)), (1, .int (nI (zTop (rN (v 0)) i))), (2, .int (nI i))] → W p l ee (zRm 1 21) s m args below meth c H locs 0 0 (MQ below (ZQi G A (modW G a v y) (nI (zTop (rN (v 0)) 40))) args s 0 0 A) (F0 m 4 ls []) := by
    intro nn
    induction nn with
    | zero => intro i _ hm; exact absurd hm (Nat.not_lt_zero _)
    | succ nn ih_1 =>
      intro i hi hm H locs ls hP hD hS hl
      refine lv_iload_n hx hb dX4_highest_4 rfl (lv_at hl 2 rfl) ?_
      refine lv_bipush (v := nI 40) hx hb dX4_highest_5 (by decide) ?_
      refine z_ge (tgt := 32) hx hb dX4_highest_7 (by decide) (by omega) (by omega) (fun c_2 => ?_) (fun c_2 => ?_)
      · skip
        refine lv_iload_n hx hb dX4_highest_32 rfl (lv_at hl 1 rfl) ?_
        exact z_iret hx hb hr hlk hP hD hS dX4_highest_33 (by rw [show i = 40 by omega]) rfl
      · skip
        refine lv_aload_n hx hb dX4_highest_10 rfl (lv_at hl 0 rfl) ?_
        refine lv_iload_n hx hb dX4_highest_11 rfl (lv_at hl 2 rfl) ?_
        refine z_callVI (As := [.int (nI i)]) (rest := []) (wr := []) (C := RX4) F (c_X4_isNamed l G a v y (i) (by omega)) (cwV 1 hts gX4_highest_X4_isNamed rfl rfl rfl (by decide +kernel) ⟨Nat.le_of_ble_eq_true rfl, Nat.le_of_ble_eq_true rfl⟩) hKK (z_recv hKK hP (q0 := 0) (ci := 4) rfl rfl) hP hD hS hA rfl hl.1 rfl (Nat.le_of_ble_eq_true rfl) ⟨Nat.zero_le _, Nat.zero_le _⟩ dX4_highest_12 (fun H locs hP hD hS => ?_)
        have hP : va_P G.1 vwCl (modW G a v y) H := hP
        have hD : va_D A (modW G a v y) := hD
        refine z_ifBeq (tgt := 24) hx hb dX4_highest_15 (by decide) (fun c_3 => ?_) (fun c_3 => ?_)
        · skip
          refine lv_iload_n hx hb dX4_highest_24 rfl (lv_at hl 1 rfl) ?_
          refine z_top (v := nI (zTop (rN (v 0)) (i + 1))) (by rw [zTop_0 (g := rN (v 0)) (Classical.not_not.mp (of_decide_eq_false c_3))]) ?_
          refine lv_istore_n (lv' := [(1, .int (nI (zTop (rN (v 0)) (i + 1)))), (0, .ref (a 0)), (2, .int (nI i))]) hx hb dX4_highest_25 rfl hl (by decide) rfl (fun ls hl => ?_)
          refine lv_iinc (v := nI (i + 1)) (lv' := [(2, .int (nI (i + 1))), (1, .int (nI (zTop (rN (v 0)) (i + 1)))), (0, .ref (a 0))]) hx hb dX4_highest_26 hl (k := 2) rfl (nI_1 _) (by decide) rfl (fun ls hl => ?_)
          refine lv_goto (tgt := 4) hx hb dX4_highest_29 (by decide) ?_
          exact ih_1 (i + 1) (by omega) (by omega) _ _ _ hP hD hS (lv_sub hl [2, 1, 0] rfl)
        · skip
          refine lv_iload_n hx hb dX4_highest_18 rfl (lv_at hl 2 rfl) ?_
          refine lv_iconst (v := nI 1) hx hb dX4_highest_19 (by decide) ?_
          refine z_add (v := nI (i + 1)) hx hb dX4_highest_20 (nI_add _ _) ?_
          refine lv_goto (tgt := 25) hx hb dX4_highest_21 (by decide) ?_
          refine z_top (v := nI (zTop (rN (v 0)) (i + 1))) (by rw [zTop_1 (g := rN (v 0)) (of_decide_eq_true c_3)]) ?_
          refine lv_istore_n (lv' := [(1, .int (nI (zTop (rN (v 0)) (i + 1)))), (0, .ref (a 0)), (2, .int (nI i))]) hx hb dX4_highest_25 rfl hl (by decide) rfl (fun ls hl => ?_)
          refine lv_iinc (v := nI (i + 1)) (lv' := [(2, .int (nI (i + 1))), (1, .int (nI (zTop (rN (v 0)) (i + 1)))), (0, .ref (a 0))]) hx hb dX4_highest_26 hl (k := 2) rfl (nI_1 _) (by decide) rfl (fun ls hl => ?_)
          refine lv_goto (tgt := 4) hx hb dX4_highest_29 (by decide) ?_
          exact ih_1 (i + 1) (by omega) (by omega) _ _ _ hP hD hS (lv_sub hl [2, 1, 0] rfl)
  exact key_1 _ 0 (by omega) (Nat.lt_succ_self _) _ _ _ hP hD hS (lv_sub hl [2, 1, 0] rfl)

set_option maxHeartbeats 4000000 in
set_option maxRecDepth 100000 in
theorem c_X4_lays (l : Launch) (G : ZG) (a : Nat → Nat) (v : Mem) (y : Nat → Nat)  : CV l G yX4_lays wsX4_lays (zRm 0 0) [.ref (a 0)] (modW G a v y) (modW G a (mrow v 2 (zMap (v 2) (v 0) 511)) y) := by
  refine CV.ent (cc := cX4_lays) (maxL := 2) (own := RX4) (by decide) rfl rfl (Nat.le_of_ble_eq_true rfl) ?_
  intro p ee s m args below meth c A ls F hr hlk hKK hP hD hA hS hl
  obtain ⟨hx, hb, hml, hown, hts⟩ := id F
  have hl : lv_has ls 2 [(0, .ref (a 0))] := hl
  have fl_7 := hts (.fieldLink RX4 7 "NameRollsModel" "now" "[I") (by decide +kernel)
  have fl_16 := hts (.fieldLink RX4 16 "NameRollsModel" "aside" "[I") (by decide +kernel)
  have hinX4 : ∀ w ∈ wsX40, w ∈ wsX4_lays := by decide +kernel
  refine lv_iconst (v := nI 0) hx hb dX4_lays_0 (by decide) ?_
  refine lv_istore_n (lv' := [(1, .int (nI 0)), (0, .ref (a 0))]) hx hb dX4_lays_1 rfl hl (by decide) rfl (fun ls hl => ?_)
  have key_1 : ∀ (nn : Nat) (i : Nat), i ≤ 511 → 511 - i < nn → ∀ (H : Heap) (locs : List Loc) (ls : Array Slot), va_P G.1 vwCl (modW G a (mrow v 2 (zMap (v 2) (v 0) i)) y) H → va_D A (modW G a (mrow v 2 (zMap (v 2) (v 0) i)) y) → va_S A s.heap H locs → lv_has ls 2 [(0, .ref (a 0)), (1, .int (nI i))] → W p l ee (zRm 0 0) s m args below meth c H locs 0 0 (MQ below (ZQv G A (modW G a (mrow v 2 (zMap (v 2) (v 0) 511)) y)) args s 0 0 A) (F0 m 2 ls []) := by
    intro nn
    induction nn with
    | zero => intro i _ hm; exact absurd hm (Nat.not_lt_zero _)
    | succ nn ih_1 =>
      intro i hi hm H locs ls hP hD hS hl
      refine lv_iload_n hx hb dX4_lays_2 rfl (lv_at hl 1 rfl) ?_
      refine lv_sipush (v := nI 511) hx hb dX4_lays_3 (by decide) ?_
      refine z_ge (tgt := 27) hx hb dX4_lays_6 (by decide) (by omega) (by omega) (fun c_2 => ?_) (fun c_2 => ?_)
      · skip
        exact z_vret hx hb hr hlk hP hD hS dX4_lays_27 (congrArg (fun z => modW G a z y) (by rw [show i = 511 by omega]))
      · skip
        refine lv_aload_n hx hb dX4_lays_9 rfl (lv_at hl 0 rfl) ?_
        refine va_get (D := G.1) (ci := 4) (v := .ref (a 3)) (C := RX4) (T := TX4) (N := 17) hx hb hts hinX4 hown hKK.1 hP 0 rfl rfl 3 (by decide) fl_16 (fun _ h9 => h9) rfl dX4_lays_10 ?_
        refine lv_iload_n hx hb dX4_lays_13 rfl (lv_at hl 1 rfl) ?_
        refine lv_aload_n hx hb dX4_lays_14 rfl (lv_at hl 0 rfl) ?_
        refine va_get (D := G.1) (ci := 4) (v := .ref (a 1)) (C := RX4) (T := TX4) (N := 17) hx hb hts hinX4 hown hKK.1 hP 0 rfl rfl 0 (by decide) fl_7 (fun _ h9 => h9) rfl dX4_lays_15 ?_
        refine lv_iload_n hx hb dX4_lays_18 rfl (lv_at hl 1 rfl) ?_
        refine z_iald (n := 511) (f := v 0) (v := v 0 i) hx hb hKK hP 1 rfl (by omega) (by decide) rfl dX4_lays_19 ?_
        refine z_iast (n := 511) (f := zMap (v 2) (v 0) i) (w2 := modW G a (mrow v 2 (upd (zMap (v 2) (v 0) i) i (v 0 i))) y) hx hb hKK hP hD hS 3 rfl (by omega) (by decide) rfl dX4_lays_20 (fun H locs hP hD hS => ?_)
        refine lv_iinc (v := nI (i + 1)) (lv' := [(1, .int (nI (i + 1))), (0, .ref (a 0))]) hx hb dX4_lays_21 hl (k := 1) rfl (nI_1 _) (by decide) rfl (fun ls hl => ?_)
        refine lv_goto (tgt := 2) hx hb dX4_lays_24 (by decide) ?_
        have es : mrow v 2 (upd (zMap (v 2) (v 0) i) i (v 0 i)) = mrow v 2 (zMap (v 2) (v 0) (i + 1)) := by rw [zMap_s rfl]
        rw [es] at hP hD
        exact ih_1 (i + 1) (by omega) (by omega) _ _ _ hP hD hS (lv_sub hl [1, 0] rfl)
  have es : v = mrow v 2 (zMap (v 2) (v 0) 0) := by rw [zMap_0, mrow_self]
  rw [es] at hP hD
  exact key_1 _ 0 (by omega) (Nat.lt_succ_self _) _ _ _ hP hD hS (lv_sub hl [1, 0] rfl)

set_option maxHeartbeats 4000000 in
set_option maxRecDepth 100000 in
theorem c_X4_back (l : Launch) (G : ZG) (a : Nat → Nat) (v : Mem) (y : Nat → Nat)  : CV l G yX4_back wsX4_back (zRm 0 0) [.ref (a 0)] (modW G a v y) (modW G a (mrow v 0 (zMap (v 0) (v 2) 511)) y) := by
  refine CV.ent (cc := cX4_back) (maxL := 2) (own := RX4) (by decide) rfl rfl (Nat.le_of_ble_eq_true rfl) ?_
  intro p ee s m args below meth c A ls F hr hlk hKK hP hD hA hS hl
  obtain ⟨hx, hb, hml, hown, hts⟩ := id F
  have hl : lv_has ls 2 [(0, .ref (a 0))] := hl
  have fl_7 := hts (.fieldLink RX4 7 "NameRollsModel" "now" "[I") (by decide +kernel)
  have fl_16 := hts (.fieldLink RX4 16 "NameRollsModel" "aside" "[I") (by decide +kernel)
  have hinX4 : ∀ w ∈ wsX40, w ∈ wsX4_back := by decide +kernel
  refine lv_iconst (v := nI 0) hx hb dX4_back_0 (by decide) ?_
  refine lv_istore_n (lv' := [(1, .int (nI 0)), (0, .ref (a 0))]) hx hb dX4_back_1 rfl hl (by decide) rfl (fun ls hl => ?_)
  have key_1 : ∀ (nn : Nat) (i : Nat), i ≤ 511 → 511 - i < nn → ∀ (H : Heap) (locs : List Loc) (ls : Array Slot), va_P G.1 vwCl (modW G a (mrow v 0 (zMap (v 0) (v 2) i)) y) H → va_D A (modW G a (mrow v 0 (zMap (v 0) (v 2) i)) y) → va_S A s.heap H locs → lv_has ls 2 [(0, .ref (a 0)), (1, .int (nI i))] → W p l ee (zRm 0 0) s m args below meth c H locs 0 0 (MQ below (ZQv G A (modW G a (mrow v 0 (zMap (v 0) (v 2) 511)) y)) args s 0 0 A) (F0 m 2 ls []) := by
    intro nn
    induction nn with
    | zero => intro i _ hm; exact absurd hm (Nat.not_lt_zero _)
    | succ nn ih_1 =>
      intro i hi hm H locs ls hP hD hS hl
      refine lv_iload_n hx hb dX4_back_2 rfl (lv_at hl 1 rfl) ?_
      refine lv_sipush (v := nI 511) hx hb dX4_back_3 (by decide) ?_
      refine z_ge (tgt := 27) hx hb dX4_back_6 (by decide) (by omega) (by omega) (fun c_2 => ?_) (fun c_2 => ?_)
      · skip
        exact z_vret hx hb hr hlk hP hD hS dX4_back_27 (congrArg (fun z => modW G a z y) (by rw [show i = 511 by omega]))
      · skip
        refine lv_aload_n hx hb dX4_back_9 rfl (lv_at hl 0 rfl) ?_
        refine va_get (D := G.1) (ci := 4) (v := .ref (a 1)) (C := RX4) (T := TX4) (N := 17) hx hb hts hinX4 hown hKK.1 hP 0 rfl rfl 0 (by decide) fl_7 (fun _ h9 => h9) rfl dX4_back_10 ?_
        refine lv_iload_n hx hb dX4_back_13 rfl (lv_at hl 1 rfl) ?_
        refine lv_aload_n hx hb dX4_back_14 rfl (lv_at hl 0 rfl) ?_
        refine va_get (D := G.1) (ci := 4) (v := .ref (a 3)) (C := RX4) (T := TX4) (N := 17) hx hb hts hinX4 hown hKK.1 hP 0 rfl rfl 3 (by decide) fl_16 (fun _ h9 => h9) rfl dX4_back_15 ?_
        refine lv_iload_n hx hb dX4_back_18 rfl (lv_at hl 1 rfl) ?_
        refine z_iald (n := 511) (f := v 2) (v := v 2 i) hx hb hKK hP 3 rfl (by omega) (by decide) rfl dX4_back_19 ?_
        refine z_iast (n := 511) (f := zMap (v 0) (v 2) i) (w2 := modW G a (mrow v 0 (upd (zMap (v 0) (v 2) i) i (v 2 i))) y) hx hb hKK hP hD hS 1 rfl (by omega) (by decide) rfl dX4_back_20 (fun H locs hP hD hS => ?_)
        refine lv_iinc (v := nI (i + 1)) (lv' := [(1, .int (nI (i + 1))), (0, .ref (a 0))]) hx hb dX4_back_21 hl (k := 1) rfl (nI_1 _) (by decide) rfl (fun ls hl => ?_)
        refine lv_goto (tgt := 2) hx hb dX4_back_24 (by decide) ?_
        have es : mrow v 0 (upd (zMap (v 0) (v 2) i) i (v 2 i)) = mrow v 0 (zMap (v 0) (v 2) (i + 1)) := by rw [zMap_s rfl]
        rw [es] at hP hD
        exact ih_1 (i + 1) (by omega) (by omega) _ _ _ hP hD hS (lv_sub hl [1, 0] rfl)
  have es : v = mrow v 0 (zMap (v 0) (v 2) 0) := by rw [zMap_0, mrow_self]
  rw [es] at hP hD
  exact key_1 _ 0 (by omega) (Nat.lt_succ_self _) _ _ _ hP hD hS (lv_sub hl [1, 0] rfl)
