def svR (p f : Nat → Int32) (s : Nat) : Nat → Int32 := if s = 4 then fb_put (zMap p (shP p) 1533) f 1533 511 else fb_put p f (511 * s) 511
def svN (s : Nat) : Nat := if s = 4 then 4 else s + 1
theorem c_X4_saves (l : Launch) (G : ZG) (a : Nat → Nat) (v : Mem) (y : Nat → Nat) (s1 : Nat) (hs : y 0 = s1) (h4 : s1 ≤ 4) : CV l G yX4_saves wsX4_saves (zRm 0 0) [.ref (a 0)] (modW G a v y) (modW G a (mrow v 1 (svR (v 1) (v 0) s1)) (nup y 0 (svN s1))) := by
  by_cases h : s1 = 4
  · subst h
    rw [svR, if_pos rfl, svN, if_pos rfl]
    exact c_X4_saves_full l G a v y hs
  · rw [svR, if_neg h, svN, if_neg h]
    exact c_X4_saves_part l G a v y s1 hs (by omega)
theorem c_X4_reasonOf_k (l : Launch) (G : ZG) (a : Nat → Nat) (v : Mem) (y : Nat → Nat) (x : Int32) (e : Nat) (he : v 0 0 = nI e) (hm : v 0 3 = nI e) (he2 : e ≤ 999) (hc : okM (v 0) e) (k : Nat) (o : Option Nat) (h : mSta (v 0) e x = (k, o)) : CI l G yX4_reasonOf wsX4_reasonOf (zRm 1 22) [.ref (a 0), .int x] (modW G a v y) (nI k) (modW G a v (mY y (k, o))) := by
  have q := c_X4_reasonOf l G a v y x e he hm he2 hc
  rw [h] at q
  exact q

set_option maxHeartbeats 4000000 in
set_option maxRecDepth 100000 in
theorem c_X4_isCell (l : Launch) (G : ZG) (x y : Int32)  : CI l G yX4_isCell wsX4_isCell (zRm 1 22) [.int x, .int y] ([]) (bI (zWi x 0 2 && zWi y 0 5)) ([]) := by
  refine CI.ent (cc := cX4_isCell) (maxL := 2) (ty := .boolean) (own := RX4) (by decide) rfl rfl (Nat.le_of_ble_eq_true rfl) ?_
  intro p ee s m args below meth c A ls F hr hlk hKK hP hD hA hS hl
  obtain ⟨hx, hb, hml, hown, hts⟩ := id F
  have hl : lv_has ls 2 [(0, .int x), (1, .int y)] := hl
  refine lv_iload_n hx hb dX4_isCell_0 rfl (lv_at hl 0 rfl) ?_
  refine lv_iconst (v := nI 0) hx hb dX4_isCell_1 (by decide) ?_
  refine lv_iconst (v := nI 2) hx hb dX4_isCell_2 (by decide) ?_
  refine z_callSI (As := [.int x, .int (nI 0), .int (nI 2)]) (rest := []) F (c_X4_within l G x (0) (2)) (va_cwS 3 hts gX4_isCell_X4_within rfl rfl rfl (by decide +kernel) ⟨Nat.le_of_ble_eq_true rfl, Nat.le_of_ble_eq_true rfl⟩) hKK hP hD hS hA rfl hl.1 rfl (Nat.le_of_ble_eq_true rfl) ⟨Nat.zero_le _, Nat.zero_le _⟩ dX4_isCell_3 (fun H locs hP hD hS => ?_)
  refine z_ifBeq (tgt := 22) hx hb dX4_isCell_6 (by decide) (fun c_1 => ?_) (fun c_1 => ?_)
  · skip
    refine lv_iconst (v := nI 0) hx hb dX4_isCell_22 (by decide) ?_
    exact z_zret hx hb hr hlk hP hD hS dX4_isCell_23 (by decide) (by rw [c_1]; rfl) rfl
  · skip
    refine lv_iload_n hx hb dX4_isCell_9 rfl (lv_at hl 1 rfl) ?_
    refine lv_iconst (v := nI 0) hx hb dX4_isCell_10 (by decide) ?_
    refine lv_iconst (v := nI 5) hx hb dX4_isCell_11 (by decide) ?_
    refine z_callSI (As := [.int y, .int (nI 0), .int (nI 5)]) (rest := []) F (c_X4_within l G y (0) (5)) (va_cwS 3 hts gX4_isCell_X4_within rfl rfl rfl (by decide +kernel) ⟨Nat.le_of_ble_eq_true rfl, Nat.le_of_ble_eq_true rfl⟩) hKK hP hD hS hA rfl hl.1 rfl (Nat.le_of_ble_eq_true rfl) ⟨Nat.zero_le _, Nat.zero_le _⟩ dX4_isCell_12 (fun H locs hP hD hS => ?_)
    refine z_ifBeq (tgt := 22) hx hb dX4_isCell_15 (by decide) (fun c_2 => ?_) (fun c_2 => ?_)
    · skip
      refine lv_iconst (v := nI 0) hx hb dX4_isCell_22 (by decide) ?_
      exact z_zret hx hb hr hlk hP hD hS dX4_isCell_23 (by decide) (by rw [c_1, c_2]; rfl) rfl
    · skip
      refine lv_iconst (v := nI 1) hx hb dX4_isCell_18 (by decide) ?_
      refine lv_goto (tgt := 23) hx hb dX4_isCell_19 (by decide) ?_
      exact z_zret hx hb hr hlk hP hD hS dX4_isCell_23 (by decide) (by rw [c_1, c_2]; rfl) rfl

set_option maxHeartbeats 4000000 in
set_option maxRecDepth 100000 in
theorem c_X4_why (l : Launch) (G : ZG) (a : Nat → Nat) (v : Mem) (y : Nat → Nat) (x : Int32) (e : Nat) (he : v 0 0 = nI e) (hm : v 0 3 = nI e) (he2 : e ≤ 999) (hc : okM (v 0) e) (k : Nat) (o : Option Nat) (h : mSta (v 0) e x = (k, o)) : CI l G yX4_why wsX4_why (zRm 2 48) [.ref (a 0), .int x] (modW G a v y) (nI k) (modW G a v (mY y (k, o))) := by
  refine CI.ent (cc := cX4_why) (maxL := 2) (ty := .int) (own := RX4) (by decide) rfl rfl (Nat.le_of_ble_eq_true rfl) ?_
  intro p ee s m args below meth c A ls F hr hlk hKK hP hD hA hS hl
  obtain ⟨hx, hb, hml, hown, hts⟩ := id F
  have hl : lv_has ls 2 [(0, .ref (a 0)), (1, .int x)] := hl
  refine lv_aload_n hx hb dX4_why_0 rfl (lv_at hl 0 rfl) ?_
  refine lv_iload_n hx hb dX4_why_1 rfl (lv_at hl 1 rfl) ?_
  refine z_callVI (As := [.int x]) (rest := []) (wr := []) (C := RX4) F (c_X4_reasonOf_k l G a v y x e he hm he2 hc k o h) (cwV 1 hts gX4_why_X4_reasonOf rfl rfl rfl (by decide +kernel) ⟨Nat.le_of_ble_eq_true rfl, Nat.le_of_ble_eq_true rfl⟩) hKK (z_recv hKK hP (q0 := 0) (ci := 4) rfl rfl) hP hD hS hA rfl hl.1 rfl (Nat.le_of_ble_eq_true rfl) ⟨Nat.zero_le _, Nat.zero_le _⟩ dX4_why_2 (fun H locs hP hD hS => ?_)
  have hP : va_P G.1 vwCl (modW G a v (mY y (k, o))) H := hP
  have hD : va_D A (modW G a v (mY y (k, o))) := hD
  exact z_iret hx hb hr hlk hP hD hS dX4_why_5 rfl rfl

set_option maxHeartbeats 4000000 in
set_option maxRecDepth 100000 in
theorem c_X4_follow_bad (l : Launch) (G : ZG) (a : Nat → Nat) (v : Mem) (y : Nat → Nat) (x : Int32) (e : Nat) (he : v 0 0 = nI e) (hm : v 0 3 = nI e) (he2 : e ≤ 999) (hc : okM (v 0) e) (k : Nat) (o : Option Nat) (h : mSta (v 0) e x = (k, o)) (hk1 : 1 ≤ k) (hk4 : k ≤ 4) : CI l G yX4_follow wsX4_follow (zRm 2 48) [.ref (a 0), .int x] (modW G a v y) ((-1000005)) (modW G a v (mY y (k, o))) := by
  refine CI.ent (cc := cX4_follow) (maxL := 2) (ty := .int) (own := RX4) (by decide) rfl rfl (Nat.le_of_ble_eq_true rfl) ?_
  intro p ee s m args below meth c A ls F hr hlk hKK hP hD hA hS hl
  obtain ⟨hx, hb, hml, hown, hts⟩ := id F
  have hl : lv_has ls 2 [(0, .ref (a 0)), (1, .int x)] := hl
  have ct_85 := hts (.constant RX4 85 (-1000005)) (by decide +kernel)
  refine lv_aload_n hx hb dX4_follow_0 rfl (lv_at hl 0 rfl) ?_
  refine lv_iload_n hx hb dX4_follow_1 rfl (lv_at hl 1 rfl) ?_
  refine z_callVI (As := [.int x]) (rest := []) (wr := []) (C := RX4) F (c_X4_reasonOf_k l G a v y x e he hm he2 hc k o h) (cwV 1 hts gX4_follow_X4_reasonOf rfl rfl rfl (by decide +kernel) ⟨Nat.le_of_ble_eq_true rfl, Nat.le_of_ble_eq_true rfl⟩) hKK (z_recv hKK hP (q0 := 0) (ci := 4) rfl rfl) hP hD hS hA rfl hl.1 rfl (Nat.le_of_ble_eq_true rfl) ⟨Nat.zero_le _, Nat.zero_le _⟩ dX4_follow_2 (fun H locs hP hD hS => ?_)
  have hP : va_P G.1 vwCl (modW G a v (mY y (k, o))) H := hP
  have hD : va_D A (modW G a v (mY y (k, o))) := hD
  refine z_ifNeq (tgt := 13) hx hb dX4_follow_5 (by decide) (by omega) (fun c_1 => absurd c_1 (by omega)) (fun c_1 => ?_)
  refine z_ldc (v' := (-1000005)) hx hb hown ct_85 dX4_follow_8 rfl ?_
  refine lv_goto (tgt := 21) hx hb dX4_follow_10 (by decide) ?_
  exact z_iret hx hb hr hlk hP hD hS dX4_follow_21 rfl rfl

set_option maxHeartbeats 4000000 in
set_option maxRecDepth 100000 in
theorem c_X4_follow_ok (l : Launch) (G : ZG) (a : Nat → Nat) (v : Mem) (y : Nat → Nat) (x : Int32) (e : Nat) (he : v 0 0 = nI e) (hm : v 0 3 = nI e) (he2 : e ≤ 999) (hc : okM (v 0) e) (n : Nat) (h : mSta (v 0) e x = (0, some n)) (hn : n < 40) : CI l G yX4_follow wsX4_follow (zRm 2 48) [.ref (a 0), .int x] (modW G a v y) (mTag (v 0) n) (modW G a v (nup y 3 n)) := by
  refine CI.ent (cc := cX4_follow) (maxL := 2) (ty := .int) (own := RX4) (by decide) rfl rfl (Nat.le_of_ble_eq_true rfl) ?_
  intro p ee s m args below meth c A ls F hr hlk hKK hP hD hA hS hl
  obtain ⟨hx, hb, hml, hown, hts⟩ := id F
  have hl : lv_has ls 2 [(0, .ref (a 0)), (1, .int x)] := hl
  have fl_79 := hts (.fieldLink RX4 79 "NameRollsModel" "followed" "I") (by decide +kernel)
  have hinX4 : ∀ w ∈ wsX40, w ∈ wsX4_follow := by decide +kernel
  refine lv_aload_n hx hb dX4_follow_0 rfl (lv_at hl 0 rfl) ?_
  refine lv_iload_n hx hb dX4_follow_1 rfl (lv_at hl 1 rfl) ?_
  refine z_callVI (As := [.int x]) (rest := []) (wr := []) (C := RX4) F (c_X4_reasonOf_k l G a v y x e he hm he2 hc 0 (some n) h) (cwV 1 hts gX4_follow_X4_reasonOf rfl rfl rfl (by decide +kernel) ⟨Nat.le_of_ble_eq_true rfl, Nat.le_of_ble_eq_true rfl⟩) hKK (z_recv hKK hP (q0 := 0) (ci := 4) rfl rfl) hP hD hS hA rfl hl.1 rfl (Nat.le_of_ble_eq_true rfl) ⟨Nat.zero_le _, Nat.zero_le _⟩ dX4_follow_2 (fun H locs hP hD hS => ?_)
  have hP : va_P G.1 vwCl (modW G a v (nup y 3 n)) H := hP
  have hD : va_D A (modW G a v (nup y 3 n)) := hD
  refine z_ifNeq (tgt := 13) hx hb dX4_follow_5 (by decide) (by omega) (fun c_1 => ?_) (fun c_1 => absurd c_1 (by decide))
  refine lv_aload_n hx hb dX4_follow_13 rfl (lv_at hl 0 rfl) ?_
  refine lv_aload_n hx hb dX4_follow_14 rfl (lv_at hl 0 rfl) ?_
  refine va_get (D := G.1) (ci := 4) (v := .int (nI n)) (C := RX4) (T := TX4) (N := 17) hx hb hts hinX4 hown hKK.1 hP 0 rfl rfl 9 (by decide) fl_79 (fun _ h9 => h9) rfl dX4_follow_15 ?_
  refine z_callVI (As := [.int (nI n)]) (rest := []) (wr := []) (C := RX4) F (c_X4_tagOf l G a v (nup y 3 n) (n) (by omega)) (cwV 1 hts gX4_follow_X4_tagOf rfl rfl rfl (by decide +kernel) ⟨Nat.le_of_ble_eq_true rfl, Nat.le_of_ble_eq_true rfl⟩) hKK (z_recv hKK hP (q0 := 0) (ci := 4) rfl rfl) hP hD hS hA rfl hl.1 rfl (Nat.le_of_ble_eq_true rfl) ⟨Nat.zero_le _, Nat.zero_le _⟩ dX4_follow_18 (fun H locs hP hD hS => ?_)
  have hP : va_P G.1 vwCl (modW G a v (nup y 3 n)) H := hP
  have hD : va_D A (modW G a v (nup y 3 n)) := hD
  exact z_iret hx hb hr hlk hP hD hS dX4_follow_21 rfl rfl

set_option maxHeartbeats 4000000 in
set_option maxRecDepth 100000 in
theorem c_X4_nameOf_bad (l : Launch) (G : ZG) (a : Nat → Nat) (v : Mem) (y : Nat → Nat) (x : Int32) (e : Nat) (he : v 0 0 = nI e) (hm : v 0 3 = nI e) (he2 : e ≤ 999) (hc : okM (v 0) e) (k : Nat) (o : Option Nat) (h : mSta (v 0) e x = (k, o)) (hk1 : 1 ≤ k) (hk4 : k ≤ 4) : CI l G yX4_nameOf wsX4_nameOf (zRm 2 48) [.ref (a 0), .int x] (modW G a v y) ((-1000005)) (modW G a v (mY y (k, o))) := by
  refine CI.ent (cc := cX4_nameOf) (maxL := 2) (ty := .int) (own := RX4) (by decide) rfl rfl (Nat.le_of_ble_eq_true rfl) ?_
  intro p ee s m args below meth c A ls F hr hlk hKK hP hD hA hS hl
  obtain ⟨hx, hb, hml, hown, hts⟩ := id F
  have hl : lv_has ls 2 [(0, .ref (a 0)), (1, .int x)] := hl
  have ct_85 := hts (.constant RX4 85 (-1000005)) (by decide +kernel)
  refine lv_aload_n hx hb dX4_nameOf_0 rfl (lv_at hl 0 rfl) ?_
  refine lv_iload_n hx hb dX4_nameOf_1 rfl (lv_at hl 1 rfl) ?_
  refine z_callVI (As := [.int x]) (rest := []) (wr := []) (C := RX4) F (c_X4_reasonOf_k l G a v y x e he hm he2 hc k o h) (cwV 1 hts gX4_nameOf_X4_reasonOf rfl rfl rfl (by decide +kernel) ⟨Nat.le_of_ble_eq_true rfl, Nat.le_of_ble_eq_true rfl⟩) hKK (z_recv hKK hP (q0 := 0) (ci := 4) rfl rfl) hP hD hS hA rfl hl.1 rfl (Nat.le_of_ble_eq_true rfl) ⟨Nat.zero_le _, Nat.zero_le _⟩ dX4_nameOf_2 (fun H locs hP hD hS => ?_)
  have hP : va_P G.1 vwCl (modW G a v (mY y (k, o))) H := hP
  have hD : va_D A (modW G a v (mY y (k, o))) := hD
  refine z_ifNeq (tgt := 13) hx hb dX4_nameOf_5 (by decide) (by omega) (fun c_1 => absurd c_1 (by omega)) (fun c_1 => ?_)
  refine z_ldc (v' := (-1000005)) hx hb hown ct_85 dX4_nameOf_8 rfl ?_
  refine lv_goto (tgt := 24) hx hb dX4_nameOf_10 (by decide) ?_
  exact z_iret hx hb hr hlk hP hD hS dX4_nameOf_24 rfl rfl

set_option maxHeartbeats 4000000 in
set_option maxRecDepth 100000 in
theorem c_X4_nameOf_ok (l : Launch) (G : ZG) (a : Nat → Nat) (v : Mem) (y : Nat → Nat) (x : Int32) (e : Nat) (he : v 0 0 = nI e) (hm : v 0 3 = nI e) (he2 : e ≤ 999) (hc : okM (v 0) e) (n : Nat) (h : mSta (v 0) e x = (0, some n)) (hn : n < 40) : CI l G yX4_nameOf wsX4_nameOf (zRm 2 48) [.ref (a 0), .int x] (modW G a v y) (v 0 (4 + n)) (modW G a v (nup y 3 n)) := by
  refine CI.ent (cc := cX4_nameOf) (maxL := 2) (ty := .int) (own := RX4) (by decide) rfl rfl (Nat.le_of_ble_eq_true rfl) ?_
  intro p ee s m args below meth c A ls F hr hlk hKK hP hD hA hS hl
  obtain ⟨hx, hb, hml, hown, hts⟩ := id F
  have hl : lv_has ls 2 [(0, .ref (a 0)), (1, .int x)] := hl
  have fl_7 := hts (.fieldLink RX4 7 "NameRollsModel" "now" "[I") (by decide +kernel)
  have fl_79 := hts (.fieldLink RX4 79 "NameRollsModel" "followed" "I") (by decide +kernel)
  have hinX4 : ∀ w ∈ wsX40, w ∈ wsX4_nameOf := by decide +kernel
  refine lv_aload_n hx hb dX4_nameOf_0 rfl (lv_at hl 0 rfl) ?_
  refine lv_iload_n hx hb dX4_nameOf_1 rfl (lv_at hl 1 rfl) ?_
  refine z_callVI (As := [.int x]) (rest := []) (wr := []) (C := RX4) F (c_X4_reasonOf_k l G a v y x e he hm he2 hc 0 (some n) h) (cwV 1 hts gX4_nameOf_X4_reasonOf rfl rfl rfl (by decide +kernel) ⟨Nat.le_of_ble_eq_true rfl, Nat.le_of_ble_eq_true rfl⟩) hKK (z_recv hKK hP (q0 := 0) (ci := 4) rfl rfl) hP hD hS hA rfl hl.1 rfl (Nat.le_of_ble_eq_true rfl) ⟨Nat.zero_le _, Nat.zero_le _⟩ dX4_nameOf_2 (fun H locs hP hD hS => ?_)
  have hP : va_P G.1 vwCl (modW G a v (nup y 3 n)) H := hP
  have hD : va_D A (modW G a v (nup y 3 n)) := hD
  refine z_ifNeq (tgt := 13) hx hb dX4_nameOf_5 (by decide) (by omega) (fun c_1 => ?_) (fun c_1 => absurd c_1 (by decide))
  refine lv_aload_n hx hb dX4_nameOf_13 rfl (lv_at hl 0 rfl) ?_
  refine va_get (D := G.1) (ci := 4) (v := .ref (a 1)) (C := RX4) (T := TX4) (N := 17) hx hb hts hinX4 hown hKK.1 hP 0 rfl rfl 0 (by decide) fl_7 (fun _ h9 => h9) rfl dX4_nameOf_14 ?_
  refine lv_iconst (v := nI 4) hx hb dX4_nameOf_17 (by decide) ?_
  refine lv_aload_n hx hb dX4_nameOf_18 rfl (lv_at hl 0 rfl) ?_
  refine va_get (D := G.1) (ci := 4) (v := .int (nI n)) (C := RX4) (T := TX4) (N := 17) hx hb hts hinX4 hown hKK.1 hP 0 rfl rfl 9 (by decide) fl_79 (fun _ h9 => h9) rfl dX4_nameOf_19 ?_
  refine z_add (v := nI (4 + n)) hx hb dX4_nameOf_22 (nI_add _ _) ?_
  refine z_iald (n := 511) (f := v 0) (v := v 0 (4 + n)) hx hb hKK hP 1 rfl (by omega) (by decide) rfl dX4_nameOf_23 ?_
  exact z_iret hx hb hr hlk hP hD hS dX4_nameOf_24 rfl rfl

set_option maxHeartbeats 4000000 in
set_option maxRecDepth 100000 in
theorem c_X4_use_bad (l : Launch) (G : ZG) (a : Nat → Nat) (v : Mem) (y : Nat → Nat) (x : Int32) (e : Nat) (he : v 0 0 = nI e) (hm : v 0 3 = nI e) (he2 : e ≤ 999) (hc : okM (v 0) e) (k : Nat) (o : Option Nat) (h : mSta (v 0) e x = (k, o)) (hk1 : 1 ≤ k) (hk4 : k ≤ 4) : CI l G yX4_use wsX4_use (zRm 2 48) [.ref (a 0), .int x] (modW G a v y) ((-1000005)) (modW G a v (mY y (k, o))) := by
  refine CI.ent (cc := cX4_use) (maxL := 2) (ty := .int) (own := RX4) (by decide) rfl rfl (Nat.le_of_ble_eq_true rfl) ?_
  intro p ee s m args below meth c A ls F hr hlk hKK hP hD hA hS hl
  obtain ⟨hx, hb, hml, hown, hts⟩ := id F
  have hl : lv_has ls 2 [(0, .ref (a 0)), (1, .int x)] := hl
  have ct_85 := hts (.constant RX4 85 (-1000005)) (by decide +kernel)
  refine lv_aload_n hx hb dX4_use_0 rfl (lv_at hl 0 rfl) ?_
  refine lv_iload_n hx hb dX4_use_1 rfl (lv_at hl 1 rfl) ?_
  refine z_callVI (As := [.int x]) (rest := []) (wr := []) (C := RX4) F (c_X4_reasonOf_k l G a v y x e he hm he2 hc k o h) (cwV 1 hts gX4_use_X4_reasonOf rfl rfl rfl (by decide +kernel) ⟨Nat.le_of_ble_eq_true rfl, Nat.le_of_ble_eq_true rfl⟩) hKK (z_recv hKK hP (q0 := 0) (ci := 4) rfl rfl) hP hD hS hA rfl hl.1 rfl (Nat.le_of_ble_eq_true rfl) ⟨Nat.zero_le _, Nat.zero_le _⟩ dX4_use_2 (fun H locs hP hD hS => ?_)
  have hP : va_P G.1 vwCl (modW G a v (mY y (k, o))) H := hP
  have hD : va_D A (modW G a v (mY y (k, o))) := hD
  refine z_ifNeq (tgt := 11) hx hb dX4_use_5 (by decide) (by omega) (fun c_1 => absurd c_1 (by omega)) (fun c_1 => ?_)
  refine z_ldc (v' := (-1000005)) hx hb hown ct_85 dX4_use_8 rfl ?_
  exact z_iret hx hb hr hlk hP hD hS dX4_use_10 rfl rfl

set_option maxHeartbeats 4000000 in
set_option maxRecDepth 100000 in
theorem c_X4_use_no (l : Launch) (G : ZG) (a : Nat → Nat) (v : Mem) (y : Nat → Nat) (x : Int32) (e : Nat) (he : v 0 0 = nI e) (hm : v 0 3 = nI e) (he2 : e ≤ 999) (hc : okM (v 0) e) (n : Nat) (h : mSta (v 0) e x = (0, some n)) (hn : n < 40) (hu : v 0 (44 + n) = nI 999) : CI l G yX4_use wsX4_use (zRm 2 48) [.ref (a 0), .int x] (modW G a v y) ((-1000003)) (modW G a v (nup y 3 n)) := by
  refine CI.ent (cc := cX4_use) (maxL := 2) (ty := .int) (own := RX4) (by decide) rfl rfl (Nat.le_of_ble_eq_true rfl) ?_
  intro p ee s m args below meth c A ls F hr hlk hKK hP hD hA hS hl
  obtain ⟨hx, hb, hml, hown, hts⟩ := id F
  have hl : lv_has ls 2 [(0, .ref (a 0)), (1, .int x)] := hl
  have ct_65 := hts (.constant RX4 65 (-1000003)) (by decide +kernel)
  have fl_7 := hts (.fieldLink RX4 7 "NameRollsModel" "now" "[I") (by decide +kernel)
  have fl_79 := hts (.fieldLink RX4 79 "NameRollsModel" "followed" "I") (by decide +kernel)
  have hinX4 : ∀ w ∈ wsX40, w ∈ wsX4_use := by decide +kernel
  refine lv_aload_n hx hb dX4_use_0 rfl (lv_at hl 0 rfl) ?_
  refine lv_iload_n hx hb dX4_use_1 rfl (lv_at hl 1 rfl) ?_
  refine z_callVI (As := [.int x]) (rest := []) (wr := []) (C := RX4) F (c_X4_reasonOf_k l G a v y x e he hm he2 hc 0 (some n) h) (cwV 1 hts gX4_use_X4_reasonOf rfl rfl rfl (by decide +kernel) ⟨Nat.le_of_ble_eq_true rfl, Nat.le_of_ble_eq_true rfl⟩) hKK (z_recv hKK hP (q0 := 0) (ci := 4) rfl rfl) hP hD hS hA rfl hl.1 rfl (Nat.le_of_ble_eq_true rfl) ⟨Nat.zero_le _, Nat.zero_le _⟩ dX4_use_2 (fun H locs hP hD hS => ?_)
  have hP : va_P G.1 vwCl (modW G a v (nup y 3 n)) H := hP
  have hD : va_D A (modW G a v (nup y 3 n)) := hD
  refine z_ifNeq (tgt := 11) hx hb dX4_use_5 (by decide) (by omega) (fun c_1 => ?_) (fun c_1 => absurd c_1 (by decide))
  refine lv_aload_n hx hb dX4_use_11 rfl (lv_at hl 0 rfl) ?_
  refine va_get (D := G.1) (ci := 4) (v := .ref (a 1)) (C := RX4) (T := TX4) (N := 17) hx hb hts hinX4 hown hKK.1 hP 0 rfl rfl 0 (by decide) fl_7 (fun _ h9 => h9) rfl dX4_use_12 ?_
  refine lv_bipush (v := nI 44) hx hb dX4_use_15 (by decide) ?_
  refine lv_aload_n hx hb dX4_use_17 rfl (lv_at hl 0 rfl) ?_
  refine va_get (D := G.1) (ci := 4) (v := .int (nI n)) (C := RX4) (T := TX4) (N := 17) hx hb hts hinX4 hown hKK.1 hP 0 rfl rfl 9 (by decide) fl_79 (fun _ h9 => h9) rfl dX4_use_18 ?_
  refine z_add (v := nI (44 + n)) hx hb dX4_use_21 (nI_add _ _) ?_
  refine z_iald (n := 511) (f := v 0) (v := v 0 (44 + n)) hx hb hKK hP 1 rfl (by omega) (by decide) rfl dX4_use_22 ?_
  refine z_top (v := nI 999) hu ?_
  refine lv_sipush (v := nI 999) hx hb dX4_use_23 (by decide) ?_
  refine z_ne (tgt := 32) hx hb dX4_use_26 (by decide) (by omega) (by omega) (fun c_2 => absurd rfl c_2) (fun c_2 => ?_)
  refine z_ldc (v' := (-1000003)) hx hb hown ct_65 dX4_use_29 rfl ?_
  exact z_iret hx hb hr hlk hP hD hS dX4_use_31 rfl rfl

set_option maxHeartbeats 4000000 in
set_option maxRecDepth 100000 in
theorem c_X4_use_ok (l : Launch) (G : ZG) (a : Nat → Nat) (v : Mem) (y : Nat → Nat) (x : Int32) (e : Nat) (he : v 0 0 = nI e) (hm : v 0 3 = nI e) (he2 : e ≤ 999) (hc : okM (v 0) e) (n : Nat) (h : mSta (v 0) e x = (0, some n)) (hn : n < 40) (hu : ¬ v 0 (44 + n) = nI 999) (s1 : Nat) (hs : y 0 = s1) (hs4 : s1 ≤ 4) : CI l G yX4_use wsX4_use (zRm 2 48) [.ref (a 0), .int x] (modW G a v y) (v 0 (44 + n) + nI 1) (modW G a (mrow (mrow v 1 (svR (v 1) (v 0) s1)) 0 (mEntO (v 0) n)) (nup (nup y 0 (svN s1)) 3 n)) := by
  refine CI.ent (cc := cX4_use) (maxL := 2) (ty := .int) (own := RX4) (by decide) rfl rfl (Nat.le_of_ble_eq_true rfl) ?_
  intro p ee s m args below meth c A ls F hr hlk hKK hP hD hA hS hl
  obtain ⟨hx, hb, hml, hown, hts⟩ := id F
  have hl : lv_has ls 2 [(0, .ref (a 0)), (1, .int x)] := hl
  have fl_7 := hts (.fieldLink RX4 7 "NameRollsModel" "now" "[I") (by decide +kernel)
  have fl_79 := hts (.fieldLink RX4 79 "NameRollsModel" "followed" "I") (by decide +kernel)
  have hinX4 : ∀ w ∈ wsX40, w ∈ wsX4_use := by decide +kernel
  refine lv_aload_n hx hb dX4_use_0 rfl (lv_at hl 0 rfl) ?_
  refine lv_iload_n hx hb dX4_use_1 rfl (lv_at hl 1 rfl) ?_
  refine z_callVI (As := [.int x]) (rest := []) (wr := []) (C := RX4) F (c_X4_reasonOf_k l G a v y x e he hm he2 hc 0 (some n) h) (cwV 1 hts gX4_use_X4_reasonOf rfl rfl rfl (by decide +kernel) ⟨Nat.le_of_ble_eq_true rfl, Nat.le_of_ble_eq_true rfl⟩) hKK (z_recv hKK hP (q0 := 0) (ci := 4) rfl rfl) hP hD hS hA rfl hl.1 rfl (Nat.le_of_ble_eq_true rfl) ⟨Nat.zero_le _, Nat.zero_le _⟩ dX4_use_2 (fun H locs hP hD hS => ?_)
  have hP : va_P G.1 vwCl (modW G a v (nup y 3 n)) H := hP
  have hD : va_D A (modW G a v (nup y 3 n)) := hD
  refine z_ifNeq (tgt := 11) hx hb dX4_use_5 (by decide) (by omega) (fun c_1 => ?_) (fun c_1 => absurd c_1 (by decide))
  refine lv_aload_n hx hb dX4_use_11 rfl (lv_at hl 0 rfl) ?_
  refine va_get (D := G.1) (ci := 4) (v := .ref (a 1)) (C := RX4) (T := TX4) (N := 17) hx hb hts hinX4 hown hKK.1 hP 0 rfl rfl 0 (by decide) fl_7 (fun _ h9 => h9) rfl dX4_use_12 ?_
  refine lv_bipush (v := nI 44) hx hb dX4_use_15 (by decide) ?_
  refine lv_aload_n hx hb dX4_use_17 rfl (lv_at hl 0 rfl) ?_
  refine va_get (D := G.1) (ci := 4) (v := .int (nI n)) (C := RX4) (T := TX4) (N := 17) hx hb hts hinX4 hown hKK.1 hP 0 rfl rfl 9 (by decide) fl_79 (fun _ h9 => h9) rfl dX4_use_18 ?_
  refine z_add (v := nI (44 + n)) hx hb dX4_use_21 (nI_add _ _) ?_
  refine z_iald (n := 511) (f := v 0) (v := v 0 (44 + n)) hx hb hKK hP 1 rfl (by omega) (by decide) rfl dX4_use_22 ?_
  refine lv_sipush (v := nI 999) hx hb dX4_use_23 (by decide) ?_
  refine lv_icmp_ne (tgt := 32) hx hb dX4_use_26 (by decide) (fun c_2 => ?_) (fun c_2 => absurd c_2 hu)
  refine lv_aload_n hx hb dX4_use_32 rfl (lv_at hl 0 rfl) ?_
  refine z_callVV (As := []) (rest := []) (wr := []) (C := RX4) F (c_X4_saves l G a v (nup y 3 n) s1 hs hs4) (cwV 0 hts gX4_use_X4_saves rfl rfl rfl (by decide +kernel) ⟨Nat.le_of_ble_eq_true rfl, Nat.le_of_ble_eq_true rfl⟩) hKK (z_recv hKK hP (q0 := 0) (ci := 4) rfl rfl) hP hD hS hA rfl hl.1 rfl (Nat.le_of_ble_eq_true rfl) ⟨Nat.zero_le _, Nat.zero_le _⟩ dX4_use_33 (fun H locs hP hD hS => ?_)
  have hP : va_P G.1 vwCl (modW G a (mrow v 1 (svR (v 1) (v 0) s1)) (nup (nup y 0 (svN s1)) 3 n)) H := hP
  have hD : va_D A (modW G a (mrow v 1 (svR (v 1) (v 0) s1)) (nup (nup y 0 (svN s1)) 3 n)) := hD
  refine lv_aload_n hx hb dX4_use_36 rfl (lv_at hl 0 rfl) ?_
  refine va_get (D := G.1) (ci := 4) (v := .ref (a 1)) (C := RX4) (T := TX4) (N := 17) hx hb hts hinX4 hown hKK.1 hP 0 rfl rfl 0 (by decide) fl_7 (fun _ h9 => h9) rfl dX4_use_37 ?_
  refine lv_bipush (v := nI 44) hx hb dX4_use_40 (by decide) ?_
  refine lv_aload_n hx hb dX4_use_42 rfl (lv_at hl 0 rfl) ?_
  refine va_get (D := G.1) (ci := 4) (v := .int (nI n)) (C := RX4) (T := TX4) (N := 17) hx hb hts hinX4 hown hKK.1 hP 0 rfl rfl 9 (by decide) fl_79 (fun _ h9 => h9) rfl dX4_use_43 ?_
  refine z_add (v := nI (44 + n)) hx hb dX4_use_46 (nI_add _ _) ?_
  refine lv_dup2_11 hx hb dX4_use_47 rfl rfl ?_
  refine z_iald (n := 511) (f := v 0) (v := v 0 (44 + n)) hx hb hKK hP 1 rfl (by omega) (by decide) rfl dX4_use_48 ?_
  refine lv_iconst (v := nI 1) hx hb dX4_use_49 (by decide) ?_
  refine z_add (v := (v 0 (44 + n)) + (nI 1)) hx hb dX4_use_50 rfl ?_
  refine z_iast (n := 511) (f := v 0) (w2 := modW G a (mrow (mrow v 1 (svR (v 1) (v 0) s1)) 0 (upd (v 0) (44 + n) ((v 0 (44 + n)) + (nI 1)))) (nup (nup y 0 (svN s1)) 3 n)) hx hb hKK hP hD hS 1 rfl (by omega) (by decide) rfl dX4_use_51 (fun H locs hP hD hS => ?_)
  refine lv_aload_n hx hb dX4_use_52 rfl (lv_at hl 0 rfl) ?_
  refine va_get (D := G.1) (ci := 4) (v := .ref (a 1)) (C := RX4) (T := TX4) (N := 17) hx hb hts hinX4 hown hKK.1 hP 0 rfl rfl 0 (by decide) fl_7 (fun _ h9 => h9) rfl dX4_use_53 ?_
  refine lv_bipush (v := nI 44) hx hb dX4_use_56 (by decide) ?_
  refine lv_aload_n hx hb dX4_use_58 rfl (lv_at hl 0 rfl) ?_
  refine va_get (D := G.1) (ci := 4) (v := .int (nI n)) (C := RX4) (T := TX4) (N := 17) hx hb hts hinX4 hown hKK.1 hP 0 rfl rfl 9 (by decide) fl_79 (fun _ h9 => h9) rfl dX4_use_59 ?_
  refine z_add (v := nI (44 + n)) hx hb dX4_use_62 (nI_add _ _) ?_
  refine z_iald (n := 511) (f := upd (v 0) (44 + n) ((v 0 (44 + n)) + (nI 1))) (v := (v 0 (44 + n)) + (nI 1)) hx hb hKK hP 1 rfl (by omega) (by decide) pk_us dX4_use_63 ?_
  exact z_iret hx hb hr hlk hP hD hS dX4_use_64 rfl rfl

set_option maxHeartbeats 4000000 in
set_option maxRecDepth 100000 in
theorem c_X4_release_bad (l : Launch) (G : ZG) (a : Nat → Nat) (v : Mem) (y : Nat → Nat) (x : Int32) (e : Nat) (he : v 0 0 = nI e) (hm : v 0 3 = nI e) (he2 : e ≤ 999) (hc : okM (v 0) e) (k : Nat) (o : Option Nat) (h : mSta (v 0) e x = (k, o)) (hk1 : 1 ≤ k) (hk4 : k ≤ 4) : CI l G yX4_release wsX4_release (zRm 2 48) [.ref (a 0), .int x] (modW G a v y) ((-1000005)) (modW G a v (mY y (k, o))) := by
  refine CI.ent (cc := cX4_release) (maxL := 2) (ty := .int) (own := RX4) (by decide) rfl rfl (Nat.le_of_ble_eq_true rfl) ?_
  intro p ee s m args below meth c A ls F hr hlk hKK hP hD hA hS hl
  obtain ⟨hx, hb, hml, hown, hts⟩ := id F
  have hl : lv_has ls 2 [(0, .ref (a 0)), (1, .int x)] := hl
  have ct_85 := hts (.constant RX4 85 (-1000005)) (by decide +kernel)
  refine lv_aload_n hx hb dX4_release_0 rfl (lv_at hl 0 rfl) ?_
  refine lv_iload_n hx hb dX4_release_1 rfl (lv_at hl 1 rfl) ?_
  refine z_callVI (As := [.int x]) (rest := []) (wr := []) (C := RX4) F (c_X4_reasonOf_k l G a v y x e he hm he2 hc k o h) (cwV 1 hts gX4_release_X4_reasonOf rfl rfl rfl (by decide +kernel) ⟨Nat.le_of_ble_eq_true rfl, Nat.le_of_ble_eq_true rfl⟩) hKK (z_recv hKK hP (q0 := 0) (ci := 4) rfl rfl) hP hD hS hA rfl hl.1 rfl (Nat.le_of_ble_eq_true rfl) ⟨Nat.zero_le _, Nat.zero_le _⟩ dX4_release_2 (fun H locs hP hD hS => ?_)
  have hP : va_P G.1 vwCl (modW G a v (mY y (k, o))) H := hP
  have hD : va_D A (modW G a v (mY y (k, o))) := hD
  refine z_ifNeq (tgt := 11) hx hb dX4_release_5 (by decide) (by omega) (fun c_1 => absurd c_1 (by omega)) (fun c_1 => ?_)
  refine z_ldc (v' := (-1000005)) hx hb hown ct_85 dX4_release_8 rfl ?_
  exact z_iret hx hb hr hlk hP hD hS dX4_release_10 rfl rfl

set_option maxHeartbeats 4000000 in
set_option maxRecDepth 100000 in
theorem c_X4_release_no (l : Launch) (G : ZG) (a : Nat → Nat) (v : Mem) (y : Nat → Nat) (x : Int32) (e : Nat) (he : v 0 0 = nI e) (hm : v 0 3 = nI e) (he2 : e ≤ 999) (hc : okM (v 0) e) (n : Nat) (h : mSta (v 0) e x = (0, some n)) (hn : n < 40) (hu : v 0 (44 + n) = nI (zCells (rC (v 0)) (nI n))) : CI l G yX4_release wsX4_release (zRm 2 48) [.ref (a 0), .int x] (modW G a v y) ((-1000002)) (modW G a v (nup y 3 n)) := by
  refine CI.ent (cc := cX4_release) (maxL := 2) (ty := .int) (own := RX4) (by decide) rfl rfl (Nat.le_of_ble_eq_true rfl) ?_
  intro p ee s m args below meth c A ls F hr hlk hKK hP hD hA hS hl
  obtain ⟨hx, hb, hml, hown, hts⟩ := id F
  have hl : lv_has ls 2 [(0, .ref (a 0)), (1, .int x)] := hl
  have ct_35 := hts (.constant RX4 35 (-1000002)) (by decide +kernel)
  have fl_7 := hts (.fieldLink RX4 7 "NameRollsModel" "now" "[I") (by decide +kernel)
  have fl_79 := hts (.fieldLink RX4 79 "NameRollsModel" "followed" "I") (by decide +kernel)
  have hinX4 : ∀ w ∈ wsX40, w ∈ wsX4_release := by decide +kernel
  refine lv_aload_n hx hb dX4_release_0 rfl (lv_at hl 0 rfl) ?_
  refine lv_iload_n hx hb dX4_release_1 rfl (lv_at hl 1 rfl) ?_
  refine z_callVI (As := [.int x]) (rest := []) (wr := []) (C := RX4) F (c_X4_reasonOf_k l G a v y x e he hm he2 hc 0 (some n) h) (cwV 1 hts gX4_release_X4_reasonOf rfl rfl rfl (by decide +kernel) ⟨Nat.le_of_ble_eq_true rfl, Nat.le_of_ble_eq_true rfl⟩) hKK (z_recv hKK hP (q0 := 0) (ci := 4) rfl rfl) hP hD hS hA rfl hl.1 rfl (Nat.le_of_ble_eq_true rfl) ⟨Nat.zero_le _, Nat.zero_le _⟩ dX4_release_2 (fun H locs hP hD hS => ?_)
  have hP : va_P G.1 vwCl (modW G a v (nup y 3 n)) H := hP
  have hD : va_D A (modW G a v (nup y 3 n)) := hD
  refine z_ifNeq (tgt := 11) hx hb dX4_release_5 (by decide) (by omega) (fun c_1 => ?_) (fun c_1 => absurd c_1 (by decide))
  refine lv_aload_n hx hb dX4_release_11 rfl (lv_at hl 0 rfl) ?_
  refine va_get (D := G.1) (ci := 4) (v := .ref (a 1)) (C := RX4) (T := TX4) (N := 17) hx hb hts hinX4 hown hKK.1 hP 0 rfl rfl 0 (by decide) fl_7 (fun _ h9 => h9) rfl dX4_release_12 ?_
  refine lv_bipush (v := nI 44) hx hb dX4_release_15 (by decide) ?_
  refine lv_aload_n hx hb dX4_release_17 rfl (lv_at hl 0 rfl) ?_
  refine va_get (D := G.1) (ci := 4) (v := .int (nI n)) (C := RX4) (T := TX4) (N := 17) hx hb hts hinX4 hown hKK.1 hP 0 rfl rfl 9 (by decide) fl_79 (fun _ h9 => h9) rfl dX4_release_18 ?_
  refine z_add (v := nI (44 + n)) hx hb dX4_release_21 (nI_add _ _) ?_
  refine z_iald (n := 511) (f := v 0) (v := v 0 (44 + n)) hx hb hKK hP 1 rfl (by omega) (by decide) rfl dX4_release_22 ?_
  refine lv_aload_n hx hb dX4_release_23 rfl (lv_at hl 0 rfl) ?_
  refine lv_aload_n hx hb dX4_release_24 rfl (lv_at hl 0 rfl) ?_
  refine va_get (D := G.1) (ci := 4) (v := .int (nI n)) (C := RX4) (T := TX4) (N := 17) hx hb hts hinX4 hown hKK.1 hP 0 rfl rfl 9 (by decide) fl_79 (fun _ h9 => h9) rfl dX4_release_25 ?_
  refine z_callVI (As := [.int (nI n)]) (rest := [.int (v 0 (44 + n))]) (wr := []) (C := RX4) F (c_X4_cellsWith l G a v (nup y 3 n) (nI n)) (cwV 1 hts gX4_release_X4_cellsWith rfl rfl rfl (by decide +kernel) ⟨Nat.le_of_ble_eq_true rfl, Nat.le_of_ble_eq_true rfl⟩) hKK (z_recv hKK hP (q0 := 0) (ci := 4) rfl rfl) hP hD hS hA rfl hl.1 rfl (Nat.le_of_ble_eq_true rfl) ⟨Nat.zero_le _, Nat.zero_le _⟩ dX4_release_28 (fun H locs hP hD hS => ?_)
  have hP : va_P G.1 vwCl (modW G a v (nup y 3 n)) H := hP
  have hD : va_D A (modW G a v (nup y 3 n)) := hD
  refine lv_icmp_ne (tgt := 37) hx hb dX4_release_31 (by decide) (fun c_2 => absurd hu c_2) (fun c_2 => ?_)
  refine z_ldc (v' := (-1000002)) hx hb hown ct_35 dX4_release_34 rfl ?_
  exact z_iret hx hb hr hlk hP hD hS dX4_release_36 rfl rfl

set_option maxHeartbeats 4000000 in
set_option maxRecDepth 100000 in
theorem c_X4_release_ok (l : Launch) (G : ZG) (a : Nat → Nat) (v : Mem) (y : Nat → Nat) (x : Int32) (e : Nat) (he : v 0 0 = nI e) (hm : v 0 3 = nI e) (he2 : e ≤ 999) (hc : okM (v 0) e) (n : Nat) (h : mSta (v 0) e x = (0, some n)) (hn : n < 40) (hu : ¬ v 0 (44 + n) = nI (zCells (rC (v 0)) (nI n))) (s1 : Nat) (hs : y 0 = s1) (hs4 : s1 ≤ 4) : CI l G yX4_release wsX4_release (zRm 2 48) [.ref (a 0), .int x] (modW G a v y) (v 0 (44 + n) - nI 1) (modW G a (mrow (mrow v 1 (svR (v 1) (v 0) s1)) 0 (mGive (v 0) n)) (nup (nup y 0 (svN s1)) 3 n)) := by
  refine CI.ent (cc := cX4_release) (maxL := 2) (ty := .int) (own := RX4) (by decide) rfl rfl (Nat.le_of_ble_eq_true rfl) ?_
  intro p ee s m args below meth c A ls F hr hlk hKK hP hD hA hS hl
  obtain ⟨hx, hb, hml, hown, hts⟩ := id F
  have hl : lv_has ls 2 [(0, .ref (a 0)), (1, .int x)] := hl
  have fl_7 := hts (.fieldLink RX4 7 "NameRollsModel" "now" "[I") (by decide +kernel)
  have fl_79 := hts (.fieldLink RX4 79 "NameRollsModel" "followed" "I") (by decide +kernel)
  have hinX4 : ∀ w ∈ wsX40, w ∈ wsX4_release := by decide +kernel
  refine lv_aload_n hx hb dX4_release_0 rfl (lv_at hl 0 rfl) ?_
  refine lv_iload_n hx hb dX4_release_1 rfl (lv_at hl 1 rfl) ?_
  refine z_callVI (As := [.int x]) (rest := []) (wr := []) (C := RX4) F (c_X4_reasonOf_k l G a v y x e he hm he2 hc 0 (some n) h) (cwV 1 hts gX4_release_X4_reasonOf rfl rfl rfl (by decide +kernel) ⟨Nat.le_of_ble_eq_true rfl, Nat.le_of_ble_eq_true rfl⟩) hKK (z_recv hKK hP (q0 := 0) (ci := 4) rfl rfl) hP hD hS hA rfl hl.1 rfl (Nat.le_of_ble_eq_true rfl) ⟨Nat.zero_le _, Nat.zero_le _⟩ dX4_release_2 (fun H locs hP hD hS => ?_)
  have hP : va_P G.1 vwCl (modW G a v (nup y 3 n)) H := hP
  have hD : va_D A (modW G a v (nup y 3 n)) := hD
  refine z_ifNeq (tgt := 11) hx hb dX4_release_5 (by decide) (by omega) (fun c_1 => ?_) (fun c_1 => absurd c_1 (by decide))
  refine lv_aload_n hx hb dX4_release_11 rfl (lv_at hl 0 rfl) ?_
  refine va_get (D := G.1) (ci := 4) (v := .ref (a 1)) (C := RX4) (T := TX4) (N := 17) hx hb hts hinX4 hown hKK.1 hP 0 rfl rfl 0 (by decide) fl_7 (fun _ h9 => h9) rfl dX4_release_12 ?_
  refine lv_bipush (v := nI 44) hx hb dX4_release_15 (by decide) ?_
  refine lv_aload_n hx hb dX4_release_17 rfl (lv_at hl 0 rfl) ?_
  refine va_get (D := G.1) (ci := 4) (v := .int (nI n)) (C := RX4) (T := TX4) (N := 17) hx hb hts hinX4 hown hKK.1 hP 0 rfl rfl 9 (by decide) fl_79 (fun _ h9 => h9) rfl dX4_release_18 ?_
  refine z_add (v := nI (44 + n)) hx hb dX4_release_21 (nI_add _ _) ?_
  refine z_iald (n := 511) (f := v 0) (v := v 0 (44 + n)) hx hb hKK hP 1 rfl (by omega) (by decide) rfl dX4_release_22 ?_
  refine lv_aload_n hx hb dX4_release_23 rfl (lv_at hl 0 rfl) ?_
  refine lv_aload_n hx hb dX4_release_24 rfl (lv_at hl 0 rfl) ?_
  refine va_get (D := G.1) (ci := 4) (v := .int (nI n)) (C := RX4) (T := TX4) (N := 17) hx hb hts hinX4 hown hKK.1 hP 0 rfl rfl 9 (by decide) fl_79 (fun _ h9 => h9) rfl dX4_release_25 ?_
  refine z_callVI (As := [.int (nI n)]) (rest := [.int (v 0 (44 + n))]) (wr := []) (C := RX4) F (c_X4_cellsWith l G a v (nup y 3 n) (nI n)) (cwV 1 hts gX4_release_X4_cellsWith rfl rfl rfl (by decide +kernel) ⟨Nat.le_of_ble_eq_true rfl, Nat.le_of_ble_eq_true rfl⟩) hKK (z_recv hKK hP (q0 := 0) (ci := 4) rfl rfl) hP hD hS hA rfl hl.1 rfl (Nat.le_of_ble_eq_true rfl) ⟨Nat.zero_le _, Nat.zero_le _⟩ dX4_release_28 (fun H locs hP hD hS => ?_)
  have hP : va_P G.1 vwCl (modW G a v (nup y 3 n)) H := hP
  have hD : va_D A (modW G a v (nup y 3 n)) := hD
  refine lv_icmp_ne (tgt := 37) hx hb dX4_release_31 (by decide) (fun c_2 => ?_) (fun c_2 => absurd c_2 hu)
  refine lv_aload_n hx hb dX4_release_37 rfl (lv_at hl 0 rfl) ?_
  refine z_callVV (As := []) (rest := []) (wr := []) (C := RX4) F (c_X4_saves l G a v (nup y 3 n) s1 hs hs4) (cwV 0 hts gX4_release_X4_saves rfl rfl rfl (by decide +kernel) ⟨Nat.le_of_ble_eq_true rfl, Nat.le_of_ble_eq_true rfl⟩) hKK (z_recv hKK hP (q0 := 0) (ci := 4) rfl rfl) hP hD hS hA rfl hl.1 rfl (Nat.le_of_ble_eq_true rfl) ⟨Nat.zero_le _, Nat.zero_le _⟩ dX4_release_38 (fun H locs hP hD hS => ?_)
  have hP : va_P G.1 vwCl (modW G a (mrow v 1 (svR (v 1) (v 0) s1)) (nup (nup y 0 (svN s1)) 3 n)) H := hP
  have hD : va_D A (modW G a (mrow v 1 (svR (v 1) (v 0) s1)) (nup (nup y 0 (svN s1)) 3 n)) := hD
  refine lv_aload_n hx hb dX4_release_41 rfl (lv_at hl 0 rfl) ?_
  refine lv_aload_n hx hb dX4_release_42 rfl (lv_at hl 0 rfl) ?_
  refine va_get (D := G.1) (ci := 4) (v := .int (nI n)) (C := RX4) (T := TX4) (N := 17) hx hb hts hinX4 hown hKK.1 hP 0 rfl rfl 9 (by decide) fl_79 (fun _ h9 => h9) rfl dX4_release_43 ?_
  refine z_callVI (As := [.int (nI n)]) (rest := []) (wr := []) (C := RX4) F (c_X4_givesBack l G a (mrow v 1 (svR (v 1) (v 0) s1)) (nup (nup y 0 (svN s1)) 3 n) (n) (by omega)) (cwV 1 hts gX4_release_X4_givesBack rfl rfl rfl (by decide +kernel) ⟨Nat.le_of_ble_eq_true rfl, Nat.le_of_ble_eq_true rfl⟩) hKK (z_recv hKK hP (q0 := 0) (ci := 4) rfl rfl) hP hD hS hA rfl hl.1 rfl (Nat.le_of_ble_eq_true rfl) ⟨Nat.zero_le _, Nat.zero_le _⟩ dX4_release_46 (fun H locs hP hD hS => ?_)
  have hP : va_P G.1 vwCl (modW G a (mrow (mrow v 1 (svR (v 1) (v 0) s1)) 0 (mGive (v 0) n)) (nup (nup y 0 (svN s1)) 3 n)) H := hP
  have hD : va_D A (modW G a (mrow (mrow v 1 (svR (v 1) (v 0) s1)) 0 (mGive (v 0) n)) (nup (nup y 0 (svN s1)) 3 n)) := hD
  exact z_iret hx hb hr hlk hP hD hS dX4_release_49 rfl rfl

theorem c_X4_isCell_N (l : Launch) (G : ZG) (t c0 : Nat) (ht : t ≤ 2) (hc0 : c0 ≤ 5) : CI l G yX4_isCell wsX4_isCell (zRm 1 22) [.int (nI t), .int (nI c0)] ([]) (bI true) ([]) := by
  have h := c_X4_isCell l G (nI t) (nI c0)
  rw [show (zWi (nI t) 0 2 && zWi (nI c0) 0 5) = true from (by rw [zWi_N (by omega) (by decide) (by decide), zWi_N (by omega) (by decide) (by decide), decide_eq_true (Nat.zero_le t), decide_eq_true ht, decide_eq_true (Nat.zero_le c0), decide_eq_true hc0]; rfl)] at h
  exact h
theorem c_X4_isCell_f (l : Launch) (G : ZG) (t c0 : Int32) (h9 : (zWi t 0 2 && zWi c0 0 5) = false) : CI l G yX4_isCell wsX4_isCell (zRm 1 22) [.int t, .int c0] ([]) (bI false) ([]) := by
  have h := c_X4_isCell l G t c0
  rw [h9] at h
  exact h

set_option maxHeartbeats 4000000 in
set_option maxRecDepth 100000 in
theorem c_X4_put_cb (l : Launch) (G : ZG) (a : Nat → Nat) (v : Mem) (y : Nat → Nat) (t c0 : Int32) (x : Int32)  (h9 : (zWi t 0 2 && zWi c0 0 5) = false) : CI l G yX4_put wsX4_put (zRm 2 48) [.ref (a 0), .int t, .int c0, .int x] (modW G a v y) ((-1000001)) (modW G a v y) := by
  refine CI.ent (cc := cX4_put) (maxL := 4) (ty := .int) (own := RX4) (by decide) rfl rfl (Nat.le_of_ble_eq_true rfl) ?_
  intro p ee s m args below meth c A ls F hr hlk hKK hP hD hA hS hl
  obtain ⟨hx, hb, hml, hown, hts⟩ := id F
  have hl : lv_has ls 4 [(0, .ref (a 0)), (1, .int t), (2, .int c0), (3, .int x)] := hl
  have ct_61 := hts (.constant RX4 61 (-1000001)) (by decide +kernel)
  refine lv_iload_n hx hb dX4_put_0 rfl (lv_at hl 1 rfl) ?_
  refine lv_iload_n hx hb dX4_put_1 rfl (lv_at hl 2 rfl) ?_
  refine z_callSI (As := [.int t, .int c0]) (rest := []) F (c_X4_isCell_f l G t c0 h9) (va_cwS 2 hts gX4_put_X4_isCell rfl rfl rfl (by decide +kernel) ⟨Nat.le_of_ble_eq_true rfl, Nat.le_of_ble_eq_true rfl⟩) hKK hP hD hS hA rfl hl.1 rfl (Nat.le_of_ble_eq_true rfl) ⟨Nat.zero_le _, Nat.zero_le _⟩ dX4_put_2 (fun H locs hP hD hS => ?_)
  refine z_ifBne (tgt := 11) hx hb dX4_put_5 (by decide) (fun c_1 => absurd c_1 (by decide)) (fun c_1 => ?_)
  refine z_ldc (v' := (-1000001)) hx hb hown ct_61 dX4_put_8 rfl ?_
  exact z_iret hx hb hr hlk hP hD hS dX4_put_10 rfl rfl

set_option maxHeartbeats 4000000 in
set_option maxRecDepth 100000 in
theorem c_X4_clear_cb (l : Launch) (G : ZG) (a : Nat → Nat) (v : Mem) (y : Nat → Nat) (t c0 : Int32)  (h9 : (zWi t 0 2 && zWi c0 0 5) = false) : CI l G yX4_clear wsX4_clear (zRm 2 43) [.ref (a 0), .int t, .int c0] (modW G a v y) ((-1000001)) (modW G a v y) := by
  refine CI.ent (cc := cX4_clear) (maxL := 5) (ty := .int) (own := RX4) (by decide) rfl rfl (Nat.le_of_ble_eq_true rfl) ?_
  intro p ee s m args below meth c A ls F hr hlk hKK hP hD hA hS hl
  obtain ⟨hx, hb, hml, hown, hts⟩ := id F
  have hl : lv_has ls 5 [(0, .ref (a 0)), (1, .int t), (2, .int c0)] := hl
  have ct_61 := hts (.constant RX4 61 (-1000001)) (by decide +kernel)
  refine lv_iload_n hx hb dX4_clear_0 rfl (lv_at hl 1 rfl) ?_
  refine lv_iload_n hx hb dX4_clear_1 rfl (lv_at hl 2 rfl) ?_
  refine z_callSI (As := [.int t, .int c0]) (rest := []) F (c_X4_isCell_f l G t c0 h9) (va_cwS 2 hts gX4_clear_X4_isCell rfl rfl rfl (by decide +kernel) ⟨Nat.le_of_ble_eq_true rfl, Nat.le_of_ble_eq_true rfl⟩) hKK hP hD hS hA rfl hl.1 rfl (Nat.le_of_ble_eq_true rfl) ⟨Nat.zero_le _, Nat.zero_le _⟩ dX4_clear_2 (fun H locs hP hD hS => ?_)
  refine z_ifBne (tgt := 11) hx hb dX4_clear_5 (by decide) (fun c_1 => absurd c_1 (by decide)) (fun c_1 => ?_)
  refine z_ldc (v' := (-1000001)) hx hb hown ct_61 dX4_clear_8 rfl ?_
  exact z_iret hx hb hr hlk hP hD hS dX4_clear_10 rfl rfl

set_option maxHeartbeats 4000000 in
set_option maxRecDepth 100000 in
theorem c_X4_cellOf_cb (l : Launch) (G : ZG) (a : Nat → Nat) (v : Mem) (y : Nat → Nat) (t c0 : Int32)  (h9 : (zWi t 0 2 && zWi c0 0 5) = false) : CI l G yX4_cellOf wsX4_cellOf (zRm 2 43) [.ref (a 0), .int t, .int c0] (modW G a v y) ((-1000001)) (modW G a v y) := by
  refine CI.ent (cc := cX4_cellOf) (maxL := 4) (ty := .int) (own := RX4) (by decide) rfl rfl (Nat.le_of_ble_eq_true rfl) ?_
  intro p ee s m args below meth c A ls F hr hlk hKK hP hD hA hS hl
  obtain ⟨hx, hb, hml, hown, hts⟩ := id F
  have hl : lv_has ls 4 [(0, .ref (a 0)), (1, .int t), (2, .int c0)] := hl
  have ct_61 := hts (.constant RX4 61 (-1000001)) (by decide +kernel)
  refine lv_iload_n hx hb dX4_cellOf_0 rfl (lv_at hl 1 rfl) ?_
  refine lv_iload_n hx hb dX4_cellOf_1 rfl (lv_at hl 2 rfl) ?_
  refine z_callSI (As := [.int t, .int c0]) (rest := []) F (c_X4_isCell_f l G t c0 h9) (va_cwS 2 hts gX4_cellOf_X4_isCell rfl rfl rfl (by decide +kernel) ⟨Nat.le_of_ble_eq_true rfl, Nat.le_of_ble_eq_true rfl⟩) hKK hP hD hS hA rfl hl.1 rfl (Nat.le_of_ble_eq_true rfl) ⟨Nat.zero_le _, Nat.zero_le _⟩ dX4_cellOf_2 (fun H locs hP hD hS => ?_)
  refine z_ifBne (tgt := 11) hx hb dX4_cellOf_5 (by decide) (fun c_1 => absurd c_1 (by decide)) (fun c_1 => ?_)
  refine z_ldc (v' := (-1000001)) hx hb hown ct_61 dX4_cellOf_8 rfl ?_
  exact z_iret hx hb hr hlk hP hD hS dX4_cellOf_10 rfl rfl

set_option maxHeartbeats 4000000 in
set_option maxRecDepth 100000 in
theorem c_X4_put_bad (l : Launch) (G : ZG) (a : Nat → Nat) (v : Mem) (y : Nat → Nat) (t c0 : Nat) (x : Int32)  (ht : t ≤ 2) (hc0 : c0 ≤ 5)(e : Nat) (he : v 0 0 = nI e) (hm : v 0 3 = nI e) (he2 : e ≤ 999) (hc : okM (v 0) e) (k : Nat) (o : Option Nat) (h : mSta (v 0) e x = (k, o)) (hk1 : 1 ≤ k) (hk4 : k ≤ 4) : CI l G yX4_put wsX4_put (zRm 2 48) [.ref (a 0), .int (nI t), .int (nI c0), .int x] (modW G a v y) ((-1000005)) (modW G a v (mY y (k, o))) := by
  refine CI.ent (cc := cX4_put) (maxL := 4) (ty := .int) (own := RX4) (by decide) rfl rfl (Nat.le_of_ble_eq_true rfl) ?_
  intro p ee s m args below meth c A ls F hr hlk hKK hP hD hA hS hl
  obtain ⟨hx, hb, hml, hown, hts⟩ := id F
  have hl : lv_has ls 4 [(0, .ref (a 0)), (1, .int (nI t)), (2, .int (nI c0)), (3, .int x)] := hl
  have ct_85 := hts (.constant RX4 85 (-1000005)) (by decide +kernel)
  refine lv_iload_n hx hb dX4_put_0 rfl (lv_at hl 1 rfl) ?_
  refine lv_iload_n hx hb dX4_put_1 rfl (lv_at hl 2 rfl) ?_
  refine z_callSI (As := [.int (nI t), .int (nI c0)]) (rest := []) F (c_X4_isCell_N l G t c0 ht hc0) (va_cwS 2 hts gX4_put_X4_isCell rfl rfl rfl (by decide +kernel) ⟨Nat.le_of_ble_eq_true rfl, Nat.le_of_ble_eq_true rfl⟩) hKK hP hD hS hA rfl hl.1 rfl (Nat.le_of_ble_eq_true rfl) ⟨Nat.zero_le _, Nat.zero_le _⟩ dX4_put_2 (fun H locs hP hD hS => ?_)
  refine z_ifBne (tgt := 11) hx hb dX4_put_5 (by decide) (fun c_1 => ?_) (fun c_1 => absurd c_1 (by decide))
  refine lv_aload_n hx hb dX4_put_11 rfl (lv_at hl 0 rfl) ?_
  refine lv_iload_n hx hb dX4_put_12 rfl (lv_at hl 3 rfl) ?_
  refine z_callVI (As := [.int x]) (rest := []) (wr := []) (C := RX4) F (c_X4_reasonOf_k l G a v y x e he hm he2 hc k o h) (cwV 1 hts gX4_put_X4_reasonOf rfl rfl rfl (by decide +kernel) ⟨Nat.le_of_ble_eq_true rfl, Nat.le_of_ble_eq_true rfl⟩) hKK (z_recv hKK hP (q0 := 0) (ci := 4) rfl rfl) hP hD hS hA rfl hl.1 rfl (Nat.le_of_ble_eq_true rfl) ⟨Nat.zero_le _, Nat.zero_le _⟩ dX4_put_13 (fun H locs hP hD hS => ?_)
  have hP : va_P G.1 vwCl (modW G a v (mY y (k, o))) H := hP
  have hD : va_D A (modW G a v (mY y (k, o))) := hD
  refine z_ifNeq (tgt := 22) hx hb dX4_put_16 (by decide) (by omega) (fun c_2 => absurd c_2 (by omega)) (fun c_2 => ?_)
  refine z_ldc (v' := (-1000005)) hx hb hown ct_85 dX4_put_19 rfl ?_
  exact z_iret hx hb hr hlk hP hD hS dX4_put_21 rfl rfl

set_option maxHeartbeats 4000000 in
set_option maxRecDepth 100000 in
theorem c_X4_put_no (l : Launch) (G : ZG) (a : Nat → Nat) (v : Mem) (y : Nat → Nat) (t c0 : Nat) (x : Int32)  (ht : t ≤ 2) (hc0 : c0 ≤ 5)(e : Nat) (he : v 0 0 = nI e) (hm : v 0 3 = nI e) (he2 : e ≤ 999) (hc : okM (v 0) e) (n : Nat) (h : mSta (v 0) e x = (0, some n)) (hn : n < 40) (hu : v 0 (44 + n) = nI 999) : CI l G yX4_put wsX4_put (zRm 2 48) [.ref (a 0), .int (nI t), .int (nI c0), .int x] (modW G a v y) ((-1000003)) (modW G a v (nup y 3 n)) := by
  refine CI.ent (cc := cX4_put) (maxL := 4) (ty := .int) (own := RX4) (by decide) rfl rfl (Nat.le_of_ble_eq_true rfl) ?_
  intro p ee s m args below meth c A ls F hr hlk hKK hP hD hA hS hl
  obtain ⟨hx, hb, hml, hown, hts⟩ := id F
  have hl : lv_has ls 4 [(0, .ref (a 0)), (1, .int (nI t)), (2, .int (nI c0)), (3, .int x)] := hl
  have ct_65 := hts (.constant RX4 65 (-1000003)) (by decide +kernel)
  have fl_7 := hts (.fieldLink RX4 7 "NameRollsModel" "now" "[I") (by decide +kernel)
  have fl_79 := hts (.fieldLink RX4 79 "NameRollsModel" "followed" "I") (by decide +kernel)
  have hinX4 : ∀ w ∈ wsX40, w ∈ wsX4_put := by decide +kernel
  refine lv_iload_n hx hb dX4_put_0 rfl (lv_at hl 1 rfl) ?_
  refine lv_iload_n hx hb dX4_put_1 rfl (lv_at hl 2 rfl) ?_
  refine z_callSI (As := [.int (nI t), .int (nI c0)]) (rest := []) F (c_X4_isCell_N l G t c0 ht hc0) (va_cwS 2 hts gX4_put_X4_isCell rfl rfl rfl (by decide +kernel) ⟨Nat.le_of_ble_eq_true rfl, Nat.le_of_ble_eq_true rfl⟩) hKK hP hD hS hA rfl hl.1 rfl (Nat.le_of_ble_eq_true rfl) ⟨Nat.zero_le _, Nat.zero_le _⟩ dX4_put_2 (fun H locs hP hD hS => ?_)
  refine z_ifBne (tgt := 11) hx hb dX4_put_5 (by decide) (fun c_1 => ?_) (fun c_1 => absurd c_1 (by decide))
  refine lv_aload_n hx hb dX4_put_11 rfl (lv_at hl 0 rfl) ?_
  refine lv_iload_n hx hb dX4_put_12 rfl (lv_at hl 3 rfl) ?_
  refine z_callVI (As := [.int x]) (rest := []) (wr := []) (C := RX4) F (c_X4_reasonOf_k l G a v y x e he hm he2 hc 0 (some n) h) (cwV 1 hts gX4_put_X4_reasonOf rfl rfl rfl (by decide +kernel) ⟨Nat.le_of_ble_eq_true rfl, Nat.le_of_ble_eq_true rfl⟩) hKK (z_recv hKK hP (q0 := 0) (ci := 4) rfl rfl) hP hD hS hA rfl hl.1 rfl (Nat.le_of_ble_eq_true rfl) ⟨Nat.zero_le _, Nat.zero_le _⟩ dX4_put_13 (fun H locs hP hD hS => ?_)
  have hP : va_P G.1 vwCl (modW G a v (nup y 3 n)) H := hP
  have hD : va_D A (modW G a v (nup y 3 n)) := hD
  refine z_ifNeq (tgt := 22) hx hb dX4_put_16 (by decide) (by omega) (fun c_2 => ?_) (fun c_2 => absurd c_2 (by decide))
  refine lv_aload_n hx hb dX4_put_22 rfl (lv_at hl 0 rfl) ?_
  refine va_get (D := G.1) (ci := 4) (v := .ref (a 1)) (C := RX4) (T := TX4) (N := 17) hx hb hts hinX4 hown hKK.1 hP 0 rfl rfl 0 (by decide) fl_7 (fun _ h9 => h9) rfl dX4_put_23 ?_
  refine lv_bipush (v := nI 44) hx hb dX4_put_26 (by decide) ?_
  refine lv_aload_n hx hb dX4_put_28 rfl (lv_at hl 0 rfl) ?_
  refine va_get (D := G.1) (ci := 4) (v := .int (nI n)) (C := RX4) (T := TX4) (N := 17) hx hb hts hinX4 hown hKK.1 hP 0 rfl rfl 9 (by decide) fl_79 (fun _ h9 => h9) rfl dX4_put_29 ?_
  refine z_add (v := nI (44 + n)) hx hb dX4_put_32 (nI_add _ _) ?_
  refine z_iald (n := 511) (f := v 0) (v := v 0 (44 + n)) hx hb hKK hP 1 rfl (by omega) (by decide) rfl dX4_put_33 ?_
  refine z_top (v := nI 999) hu ?_
  refine lv_sipush (v := nI 999) hx hb dX4_put_34 (by decide) ?_
  refine z_ne (tgt := 43) hx hb dX4_put_37 (by decide) (by omega) (by omega) (fun c_3 => absurd rfl c_3) (fun c_3 => ?_)
  refine z_ldc (v' := (-1000003)) hx hb hown ct_65 dX4_put_40 rfl ?_
  exact z_iret hx hb hr hlk hP hD hS dX4_put_42 rfl rfl

set_option maxHeartbeats 4000000 in
set_option maxRecDepth 100000 in
theorem c_X4_put_e (l : Launch) (G : ZG) (a : Nat → Nat) (v : Mem) (y : Nat → Nat) (t c0 : Nat) (x : Int32)  (ht : t ≤ 2) (hc0 : c0 ≤ 5)(e : Nat) (he : v 0 0 = nI e) (hm : v 0 3 = nI e) (he2 : e ≤ 999) (hc : okM (v 0) e) (n : Nat) (h : mSta (v 0) e x = (0, some n)) (hn : n < 40) (hu : ¬ v 0 (44 + n) = nI 999) (s1 : Nat) (hs : y 0 = s1) (hs4 : s1 ≤ 4) (he9 : v 0 (124 + (6 * t + c0)) = -1) : CI l G yX4_put wsX4_put (zRm 2 48) [.ref (a 0), .int (nI t), .int (nI c0), .int x] (modW G a v y) (v 0 (44 + n) + nI 1) (modW G a (mrow (mrow v 1 (svR (v 1) (v 0) s1)) 0 (mPut1 (v 0) (6 * t + c0) n)) (nup (nup y 0 (svN s1)) 3 n)) := by
  refine CI.ent (cc := cX4_put) (maxL := 4) (ty := .int) (own := RX4) (by decide) rfl rfl (Nat.le_of_ble_eq_true rfl) ?_
  intro p ee s m args below meth c A ls F hr hlk hKK hP hD hA hS hl
  obtain ⟨hx, hb, hml, hown, hts⟩ := id F
  have hl : lv_has ls 4 [(0, .ref (a 0)), (1, .int (nI t)), (2, .int (nI c0)), (3, .int x)] := hl
  have fl_7 := hts (.fieldLink RX4 7 "NameRollsModel" "now" "[I") (by decide +kernel)
  have fl_79 := hts (.fieldLink RX4 79 "NameRollsModel" "followed" "I") (by decide +kernel)
  have hinX4 : ∀ w ∈ wsX40, w ∈ wsX4_put := by decide +kernel
  refine lv_iload_n hx hb dX4_put_0 rfl (lv_at hl 1 rfl) ?_
  refine lv_iload_n hx hb dX4_put_1 rfl (lv_at hl 2 rfl) ?_
  refine z_callSI (As := [.int (nI t), .int (nI c0)]) (rest := []) F (c_X4_isCell_N l G t c0 ht hc0) (va_cwS 2 hts gX4_put_X4_isCell rfl rfl rfl (by decide +kernel) ⟨Nat.le_of_ble_eq_true rfl, Nat.le_of_ble_eq_true rfl⟩) hKK hP hD hS hA rfl hl.1 rfl (Nat.le_of_ble_eq_true rfl) ⟨Nat.zero_le _, Nat.zero_le _⟩ dX4_put_2 (fun H locs hP hD hS => ?_)
  refine z_ifBne (tgt := 11) hx hb dX4_put_5 (by decide) (fun c_1 => ?_) (fun c_1 => absurd c_1 (by decide))
  refine lv_aload_n hx hb dX4_put_11 rfl (lv_at hl 0 rfl) ?_
  refine lv_iload_n hx hb dX4_put_12 rfl (lv_at hl 3 rfl) ?_
  refine z_callVI (As := [.int x]) (rest := []) (wr := []) (C := RX4) F (c_X4_reasonOf_k l G a v y x e he hm he2 hc 0 (some n) h) (cwV 1 hts gX4_put_X4_reasonOf rfl rfl rfl (by decide +kernel) ⟨Nat.le_of_ble_eq_true rfl, Nat.le_of_ble_eq_true rfl⟩) hKK (z_recv hKK hP (q0 := 0) (ci := 4) rfl rfl) hP hD hS hA rfl hl.1 rfl (Nat.le_of_ble_eq_true rfl) ⟨Nat.zero_le _, Nat.zero_le _⟩ dX4_put_13 (fun H locs hP hD hS => ?_)
  have hP : va_P G.1 vwCl (modW G a v (nup y 3 n)) H := hP
  have hD : va_D A (modW G a v (nup y 3 n)) := hD
  refine z_ifNeq (tgt := 22) hx hb dX4_put_16 (by decide) (by omega) (fun c_2 => ?_) (fun c_2 => absurd c_2 (by decide))
  refine lv_aload_n hx hb dX4_put_22 rfl (lv_at hl 0 rfl) ?_
  refine va_get (D := G.1) (ci := 4) (v := .ref (a 1)) (C := RX4) (T := TX4) (N := 17) hx hb hts hinX4 hown hKK.1 hP 0 rfl rfl 0 (by decide) fl_7 (fun _ h9 => h9) rfl dX4_put_23 ?_
  refine lv_bipush (v := nI 44) hx hb dX4_put_26 (by decide) ?_
  refine lv_aload_n hx hb dX4_put_28 rfl (lv_at hl 0 rfl) ?_
  refine va_get (D := G.1) (ci := 4) (v := .int (nI n)) (C := RX4) (T := TX4) (N := 17) hx hb hts hinX4 hown hKK.1 hP 0 rfl rfl 9 (by decide) fl_79 (fun _ h9 => h9) rfl dX4_put_29 ?_
  refine z_add (v := nI (44 + n)) hx hb dX4_put_32 (nI_add _ _) ?_
  refine z_iald (n := 511) (f := v 0) (v := v 0 (44 + n)) hx hb hKK hP 1 rfl (by omega) (by decide) rfl dX4_put_33 ?_
  refine lv_sipush (v := nI 999) hx hb dX4_put_34 (by decide) ?_
  refine lv_icmp_ne (tgt := 43) hx hb dX4_put_37 (by decide) (fun c_3 => ?_) (fun c_3 => absurd c_3 hu)
  refine lv_aload_n hx hb dX4_put_43 rfl (lv_at hl 0 rfl) ?_
  refine z_callVV (As := []) (rest := []) (wr := []) (C := RX4) F (c_X4_saves l G a v (nup y 3 n) s1 hs hs4) (cwV 0 hts gX4_put_X4_saves rfl rfl rfl (by decide +kernel) ⟨Nat.le_of_ble_eq_true rfl, Nat.le_of_ble_eq_true rfl⟩) hKK (z_recv hKK hP (q0 := 0) (ci := 4) rfl rfl) hP hD hS hA rfl hl.1 rfl (Nat.le_of_ble_eq_true rfl) ⟨Nat.zero_le _, Nat.zero_le _⟩ dX4_put_44 (fun H locs hP hD hS => ?_)
  have hP : va_P G.1 vwCl (modW G a (mrow v 1 (svR (v 1) (v 0) s1)) (nup (nup y 0 (svN s1)) 3 n)) H := hP
  have hD : va_D A (modW G a (mrow v 1 (svR (v 1) (v 0) s1)) (nup (nup y 0 (svN s1)) 3 n)) := hD
  refine lv_aload_n hx hb dX4_put_47 rfl (lv_at hl 0 rfl) ?_
  refine lv_bipush (v := nI 6) hx hb dX4_put_48 (by decide) ?_
  refine lv_iload_n hx hb dX4_put_50 rfl (lv_at hl 1 rfl) ?_
  refine z_mul (v := nI (6 * t)) hx hb dX4_put_51 (pk_mul _ _) ?_
  refine lv_iload_n hx hb dX4_put_52 rfl (lv_at hl 2 rfl) ?_
  refine z_add (v := nI ((6 * t) + c0)) hx hb dX4_put_53 (nI_add _ _) ?_
  refine lv_aload_n hx hb dX4_put_54 rfl (lv_at hl 0 rfl) ?_
  refine va_get (D := G.1) (ci := 4) (v := .int (nI n)) (C := RX4) (T := TX4) (N := 17) hx hb hts hinX4 hown hKK.1 hP 0 rfl rfl 9 (by decide) fl_79 (fun _ h9 => h9) rfl dX4_put_55 ?_
  refine z_callVI (As := [.int (nI ((6 * t) + c0)), .int (nI n)]) (rest := []) (wr := []) (C := RX4) F (c_X4_puts_e l G a (mrow v 1 (svR (v 1) (v 0) s1)) (nup (nup y 0 (svN s1)) 3 n) ((6 * t) + c0) n (by omega) hn he9) (cwV 2 hts gX4_put_X4_puts rfl rfl rfl (by decide +kernel) ⟨Nat.le_of_ble_eq_true rfl, Nat.le_of_ble_eq_true rfl⟩) hKK (z_recv hKK hP (q0 := 0) (ci := 4) rfl rfl) hP hD hS hA rfl hl.1 rfl (Nat.le_of_ble_eq_true rfl) ⟨Nat.zero_le _, Nat.zero_le _⟩ dX4_put_58 (fun H locs hP hD hS => ?_)
  have hP : va_P G.1 vwCl (modW G a (mrow (mrow v 1 (svR (v 1) (v 0) s1)) 0 (mPut1 (v 0) ((6 * t) + c0) n)) (nup (nup y 0 (svN s1)) 3 n)) H := hP
  have hD : va_D A (modW G a (mrow (mrow v 1 (svR (v 1) (v 0) s1)) 0 (mPut1 (v 0) ((6 * t) + c0) n)) (nup (nup y 0 (svN s1)) 3 n)) := hD
  exact z_iret hx hb hr hlk hP hD hS dX4_put_61 rfl rfl

set_option maxHeartbeats 4000000 in
set_option maxRecDepth 100000 in
theorem c_X4_put_o (l : Launch) (G : ZG) (a : Nat → Nat) (v : Mem) (y : Nat → Nat) (t c0 : Nat) (x : Int32)  (ht : t ≤ 2) (hc0 : c0 ≤ 5)(e : Nat) (he : v 0 0 = nI e) (hm : v 0 3 = nI e) (he2 : e ≤ 999) (hc : okM (v 0) e) (n : Nat) (h : mSta (v 0) e x = (0, some n)) (hn : n < 40) (hu : ¬ v 0 (44 + n) = nI 999) (s1 : Nat) (hs : y 0 = s1) (hs4 : s1 ≤ 4) (q0 : Nat) (hq0 : q0 < 40) (he9 : v 0 (124 + (6 * t + c0)) = nI q0) : CI l G yX4_put wsX4_put (zRm 2 48) [.ref (a 0), .int (nI t), .int (nI c0), .int x] (modW G a v y) (mGive (mPut1 (v 0) (6 * t + c0) n) q0 (44 + n)) (modW G a (mrow (mrow v 1 (svR (v 1) (v 0) s1)) 0 (mGive (mPut1 (v 0) (6 * t + c0) n) q0)) (nup (nup y 0 (svN s1)) 3 n)) := by
  refine CI.ent (cc := cX4_put) (maxL := 4) (ty := .int) (own := RX4) (by decide) rfl rfl (Nat.le_of_ble_eq_true rfl) ?_
  intro p ee s m args below meth c A ls F hr hlk hKK hP hD hA hS hl
  obtain ⟨hx, hb, hml, hown, hts⟩ := id F
  have hl : lv_has ls 4 [(0, .ref (a 0)), (1, .int (nI t)), (2, .int (nI c0)), (3, .int x)] := hl
  have fl_7 := hts (.fieldLink RX4 7 "NameRollsModel" "now" "[I") (by decide +kernel)
  have fl_79 := hts (.fieldLink RX4 79 "NameRollsModel" "followed" "I") (by decide +kernel)
  have hinX4 : ∀ w ∈ wsX40, w ∈ wsX4_put := by decide +kernel
  refine lv_iload_n hx hb dX4_put_0 rfl (lv_at hl 1 rfl) ?_
  refine lv_iload_n hx hb dX4_put_1 rfl (lv_at hl 2 rfl) ?_
  refine z_callSI (As := [.int (nI t), .int (nI c0)]) (rest := []) F (c_X4_isCell_N l G t c0 ht hc0) (va_cwS 2 hts gX4_put_X4_isCell rfl rfl rfl (by decide +kernel) ⟨Nat.le_of_ble_eq_true rfl, Nat.le_of_ble_eq_true rfl⟩) hKK hP hD hS hA rfl hl.1 rfl (Nat.le_of_ble_eq_true rfl) ⟨Nat.zero_le _, Nat.zero_le _⟩ dX4_put_2 (fun H locs hP hD hS => ?_)
  refine z_ifBne (tgt := 11) hx hb dX4_put_5 (by decide) (fun c_1 => ?_) (fun c_1 => absurd c_1 (by decide))
  refine lv_aload_n hx hb dX4_put_11 rfl (lv_at hl 0 rfl) ?_
  refine lv_iload_n hx hb dX4_put_12 rfl (lv_at hl 3 rfl) ?_
  refine z_callVI (As := [.int x]) (rest := []) (wr := []) (C := RX4) F (c_X4_reasonOf_k l G a v y x e he hm he2 hc 0 (some n) h) (cwV 1 hts gX4_put_X4_reasonOf rfl rfl rfl (by decide +kernel) ⟨Nat.le_of_ble_eq_true rfl, Nat.le_of_ble_eq_true rfl⟩) hKK (z_recv hKK hP (q0 := 0) (ci := 4) rfl rfl) hP hD hS hA rfl hl.1 rfl (Nat.le_of_ble_eq_true rfl) ⟨Nat.zero_le _, Nat.zero_le _⟩ dX4_put_13 (fun H locs hP hD hS => ?_)
  have hP : va_P G.1 vwCl (modW G a v (nup y 3 n)) H := hP
  have hD : va_D A (modW G a v (nup y 3 n)) := hD
  refine z_ifNeq (tgt := 22) hx hb dX4_put_16 (by decide) (by omega) (fun c_2 => ?_) (fun c_2 => absurd c_2 (by decide))
  refine lv_aload_n hx hb dX4_put_22 rfl (lv_at hl 0 rfl) ?_
  refine va_get (D := G.1) (ci := 4) (v := .ref (a 1)) (C := RX4) (T := TX4) (N := 17) hx hb hts hinX4 hown hKK.1 hP 0 rfl rfl 0 (by decide) fl_7 (fun _ h9 => h9) rfl dX4_put_23 ?_
  refine lv_bipush (v := nI 44) hx hb dX4_put_26 (by decide) ?_
  refine lv_aload_n hx hb dX4_put_28 rfl (lv_at hl 0 rfl) ?_
  refine va_get (D := G.1) (ci := 4) (v := .int (nI n)) (C := RX4) (T := TX4) (N := 17) hx hb hts hinX4 hown hKK.1 hP 0 rfl rfl 9 (by decide) fl_79 (fun _ h9 => h9) rfl dX4_put_29 ?_
  refine z_add (v := nI (44 + n)) hx hb dX4_put_32 (nI_add _ _) ?_
  refine z_iald (n := 511) (f := v 0) (v := v 0 (44 + n)) hx hb hKK hP 1 rfl (by omega) (by decide) rfl dX4_put_33 ?_
  refine lv_sipush (v := nI 999) hx hb dX4_put_34 (by decide) ?_
  refine lv_icmp_ne (tgt := 43) hx hb dX4_put_37 (by decide) (fun c_3 => ?_) (fun c_3 => absurd c_3 hu)
  refine lv_aload_n hx hb dX4_put_43 rfl (lv_at hl 0 rfl) ?_
  refine z_callVV (As := []) (rest := []) (wr := []) (C := RX4) F (c_X4_saves l G a v (nup y 3 n) s1 hs hs4) (cwV 0 hts gX4_put_X4_saves rfl rfl rfl (by decide +kernel) ⟨Nat.le_of_ble_eq_true rfl, Nat.le_of_ble_eq_true rfl⟩) hKK (z_recv hKK hP (q0 := 0) (ci := 4) rfl rfl) hP hD hS hA rfl hl.1 rfl (Nat.le_of_ble_eq_true rfl) ⟨Nat.zero_le _, Nat.zero_le _⟩ dX4_put_44 (fun H locs hP hD hS => ?_)
  have hP : va_P G.1 vwCl (modW G a (mrow v 1 (svR (v 1) (v 0) s1)) (nup (nup y 0 (svN s1)) 3 n)) H := hP
  have hD : va_D A (modW G a (mrow v 1 (svR (v 1) (v 0) s1)) (nup (nup y 0 (svN s1)) 3 n)) := hD
  refine lv_aload_n hx hb dX4_put_47 rfl (lv_at hl 0 rfl) ?_
  refine lv_bipush (v := nI 6) hx hb dX4_put_48 (by decide) ?_
  refine lv_iload_n hx hb dX4_put_50 rfl (lv_at hl 1 rfl) ?_
  refine z_mul (v := nI (6 * t)) hx hb dX4_put_51 (pk_mul _ _) ?_
  refine lv_iload_n hx hb dX4_put_52 rfl (lv_at hl 2 rfl) ?_
  refine z_add (v := nI ((6 * t) + c0)) hx hb dX4_put_53 (nI_add _ _) ?_
  refine lv_aload_n hx hb dX4_put_54 rfl (lv_at hl 0 rfl) ?_
  refine va_get (D := G.1) (ci := 4) (v := .int (nI n)) (C := RX4) (T := TX4) (N := 17) hx hb hts hinX4 hown hKK.1 hP 0 rfl rfl 9 (by decide) fl_79 (fun _ h9 => h9) rfl dX4_put_55 ?_
  refine z_callVI (As := [.int (nI ((6 * t) + c0)), .int (nI n)]) (rest := []) (wr := []) (C := RX4) F (c_X4_puts_o l G a (mrow v 1 (svR (v 1) (v 0) s1)) (nup (nup y 0 (svN s1)) 3 n) ((6 * t) + c0) n q0 (by omega) hn hq0 he9) (cwV 2 hts gX4_put_X4_puts rfl rfl rfl (by decide +kernel) ⟨Nat.le_of_ble_eq_true rfl, Nat.le_of_ble_eq_true rfl⟩) hKK (z_recv hKK hP (q0 := 0) (ci := 4) rfl rfl) hP hD hS hA rfl hl.1 rfl (Nat.le_of_ble_eq_true rfl) ⟨Nat.zero_le _, Nat.zero_le _⟩ dX4_put_58 (fun H locs hP hD hS => ?_)
  have hP : va_P G.1 vwCl (modW G a (mrow (mrow v 1 (svR (v 1) (v 0) s1)) 0 (mGive (mPut1 (v 0) ((6 * t) + c0) n) q0)) (nup (nup y 0 (svN s1)) 3 n)) H := hP
  have hD : va_D A (modW G a (mrow (mrow v 1 (svR (v 1) (v 0) s1)) 0 (mGive (mPut1 (v 0) ((6 * t) + c0) n) q0)) (nup (nup y 0 (svN s1)) 3 n)) := hD
  exact z_iret hx hb hr hlk hP hD hS dX4_put_61 rfl rfl

set_option maxHeartbeats 4000000 in
set_option maxRecDepth 100000 in
theorem c_X4_clear_no (l : Launch) (G : ZG) (a : Nat → Nat) (v : Mem) (y : Nat → Nat) (t c0 : Nat)  (ht : t ≤ 2) (hc0 : c0 ≤ 5) (he9 : v 0 (124 + (6 * t + c0)) = -1) : CI l G yX4_clear wsX4_clear (zRm 2 43) [.ref (a 0), .int (nI t), .int (nI c0)] (modW G a v y) ((-1000002)) (modW G a v y) := by
  refine CI.ent (cc := cX4_clear) (maxL := 5) (ty := .int) (own := RX4) (by decide) rfl rfl (Nat.le_of_ble_eq_true rfl) ?_
  intro p ee s m args below meth c A ls F hr hlk hKK hP hD hA hS hl
  obtain ⟨hx, hb, hml, hown, hts⟩ := id F
  have hl : lv_has ls 5 [(0, .ref (a 0)), (1, .int (nI t)), (2, .int (nI c0))] := hl
  have ct_35 := hts (.constant RX4 35 (-1000002)) (by decide +kernel)
  have fl_7 := hts (.fieldLink RX4 7 "NameRollsModel" "now" "[I") (by decide +kernel)
  have hinX4 : ∀ w ∈ wsX40, w ∈ wsX4_clear := by decide +kernel
  refine lv_iload_n hx hb dX4_clear_0 rfl (lv_at hl 1 rfl) ?_
  refine lv_iload_n hx hb dX4_clear_1 rfl (lv_at hl 2 rfl) ?_
  refine z_callSI (As := [.int (nI t), .int (nI c0)]) (rest := []) F (c_X4_isCell_N l G t c0 ht hc0) (va_cwS 2 hts gX4_clear_X4_isCell rfl rfl rfl (by decide +kernel) ⟨Nat.le_of_ble_eq_true rfl, Nat.le_of_ble_eq_true rfl⟩) hKK hP hD hS hA rfl hl.1 rfl (Nat.le_of_ble_eq_true rfl) ⟨Nat.zero_le _, Nat.zero_le _⟩ dX4_clear_2 (fun H locs hP hD hS => ?_)
  refine z_ifBne (tgt := 11) hx hb dX4_clear_5 (by decide) (fun c_1 => ?_) (fun c_1 => absurd c_1 (by decide))
  refine lv_bipush (v := nI 6) hx hb dX4_clear_11 (by decide) ?_
  refine lv_iload_n hx hb dX4_clear_13 rfl (lv_at hl 1 rfl) ?_
  refine z_mul (v := nI (6 * t)) hx hb dX4_clear_14 (pk_mul _ _) ?_
  refine lv_iload_n hx hb dX4_clear_15 rfl (lv_at hl 2 rfl) ?_
  refine z_add (v := nI ((6 * t) + c0)) hx hb dX4_clear_16 (nI_add _ _) ?_
  refine lv_istore_n (lv' := [(3, .int (nI ((6 * t) + c0))), (0, .ref (a 0)), (1, .int (nI t)), (2, .int (nI c0))]) hx hb dX4_clear_17 rfl hl (by decide) rfl (fun ls hl => ?_)
  refine lv_aload_n hx hb dX4_clear_18 rfl (lv_at hl 1 rfl) ?_
  refine va_get (D := G.1) (ci := 4) (v := .ref (a 1)) (C := RX4) (T := TX4) (N := 17) hx hb hts hinX4 hown hKK.1 hP 0 rfl rfl 0 (by decide) fl_7 (fun _ h9 => h9) rfl dX4_clear_19 ?_
  refine lv_bipush (v := nI 124) hx hb dX4_clear_22 (by decide) ?_
  refine lv_iload_n hx hb dX4_clear_24 rfl (lv_at hl 0 rfl) ?_
  refine z_add (v := nI (124 + ((6 * t) + c0))) hx hb dX4_clear_25 (nI_add _ _) ?_
  refine z_iald (n := 511) (f := v 0) (v := v 0 (124 + ((6 * t) + c0))) hx hb hKK hP 1 rfl (by omega) (by decide) rfl dX4_clear_26 ?_
  refine z_top (v := (-1)) he9 ?_
  refine lv_istore (lv' := [(4, .int ((-1))), (3, .int (nI ((6 * t) + c0))), (0, .ref (a 0)), (1, .int (nI t)), (2, .int (nI c0))]) hx hb dX4_clear_27 hl (by decide) rfl (fun ls hl => ?_)
  refine lv_iload hx hb dX4_clear_29 (lv_at hl 0 rfl) ?_
  refine lv_if_ge (tgt := 37) hx hb dX4_clear_31 (by decide) (fun c_2 => absurd c_2 (by decide)) (fun c_2 => ?_)
  refine z_ldc (v' := (-1000002)) hx hb hown ct_35 dX4_clear_34 rfl ?_
  exact z_iret hx hb hr hlk hP hD hS dX4_clear_36 rfl rfl

set_option maxHeartbeats 4000000 in
set_option maxRecDepth 100000 in
theorem c_X4_clear_ok (l : Launch) (G : ZG) (a : Nat → Nat) (v : Mem) (y : Nat → Nat) (t c0 : Nat)  (ht : t ≤ 2) (hc0 : c0 ≤ 5) (q0 : Nat) (hq0 : q0 < 40) (he9 : v 0 (124 + (6 * t + c0)) = nI q0) (s1 : Nat) (hs : y 0 = s1) (hs4 : s1 ≤ 4) : CI l G yX4_clear wsX4_clear (zRm 2 43) [.ref (a 0), .int (nI t), .int (nI c0)] (modW G a v y) (v 0 (44 + q0) - nI 1) (modW G a (mrow (mrow v 1 (svR (v 1) (v 0) s1)) 0 (mGive (upd (v 0) (124 + (6 * t + c0)) (-1)) q0)) (nup y 0 (svN s1))) := by
  refine CI.ent (cc := cX4_clear) (maxL := 5) (ty := .int) (own := RX4) (by decide) rfl rfl (Nat.le_of_ble_eq_true rfl) ?_
  intro p ee s m args below meth c A ls F hr hlk hKK hP hD hA hS hl
  obtain ⟨hx, hb, hml, hown, hts⟩ := id F
  have hl : lv_has ls 5 [(0, .ref (a 0)), (1, .int (nI t)), (2, .int (nI c0))] := hl
  have fl_7 := hts (.fieldLink RX4 7 "NameRollsModel" "now" "[I") (by decide +kernel)
  have hinX4 : ∀ w ∈ wsX40, w ∈ wsX4_clear := by decide +kernel
  refine lv_iload_n hx hb dX4_clear_0 rfl (lv_at hl 1 rfl) ?_
  refine lv_iload_n hx hb dX4_clear_1 rfl (lv_at hl 2 rfl) ?_
  refine z_callSI (As := [.int (nI t), .int (nI c0)]) (rest := []) F (c_X4_isCell_N l G t c0 ht hc0) (va_cwS 2 hts gX4_clear_X4_isCell rfl rfl rfl (by decide +kernel) ⟨Nat.le_of_ble_eq_true rfl, Nat.le_of_ble_eq_true rfl⟩) hKK hP hD hS hA rfl hl.1 rfl (Nat.le_of_ble_eq_true rfl) ⟨Nat.zero_le _, Nat.zero_le _⟩ dX4_clear_2 (fun H locs hP hD hS => ?_)
  refine z_ifBne (tgt := 11) hx hb dX4_clear_5 (by decide) (fun c_1 => ?_) (fun c_1 => absurd c_1 (by decide))
  refine lv_bipush (v := nI 6) hx hb dX4_clear_11 (by decide) ?_
  refine lv_iload_n hx hb dX4_clear_13 rfl (lv_at hl 1 rfl) ?_
  refine z_mul (v := nI (6 * t)) hx hb dX4_clear_14 (pk_mul _ _) ?_
  refine lv_iload_n hx hb dX4_clear_15 rfl (lv_at hl 2 rfl) ?_
  refine z_add (v := nI ((6 * t) + c0)) hx hb dX4_clear_16 (nI_add _ _) ?_
  refine lv_istore_n (lv' := [(3, .int (nI ((6 * t) + c0))), (0, .ref (a 0)), (1, .int (nI t)), (2, .int (nI c0))]) hx hb dX4_clear_17 rfl hl (by decide) rfl (fun ls hl => ?_)
  refine lv_aload_n hx hb dX4_clear_18 rfl (lv_at hl 1 rfl) ?_
  refine va_get (D := G.1) (ci := 4) (v := .ref (a 1)) (C := RX4) (T := TX4) (N := 17) hx hb hts hinX4 hown hKK.1 hP 0 rfl rfl 0 (by decide) fl_7 (fun _ h9 => h9) rfl dX4_clear_19 ?_
  refine lv_bipush (v := nI 124) hx hb dX4_clear_22 (by decide) ?_
  refine lv_iload_n hx hb dX4_clear_24 rfl (lv_at hl 0 rfl) ?_
  refine z_add (v := nI (124 + ((6 * t) + c0))) hx hb dX4_clear_25 (nI_add _ _) ?_
  refine z_iald (n := 511) (f := v 0) (v := v 0 (124 + ((6 * t) + c0))) hx hb hKK hP 1 rfl (by omega) (by decide) rfl dX4_clear_26 ?_
  refine z_top (v := nI q0) he9 ?_
  refine lv_istore (lv' := [(4, .int (nI q0)), (3, .int (nI ((6 * t) + c0))), (0, .ref (a 0)), (1, .int (nI t)), (2, .int (nI c0))]) hx hb dX4_clear_27 hl (by decide) rfl (fun ls hl => ?_)
  refine lv_iload hx hb dX4_clear_29 (lv_at hl 0 rfl) ?_
  refine z_ifNge (tgt := 37) hx hb dX4_clear_31 (by decide) (by omega) (fun c_2 => ?_) (fun c_2 => absurd c_2 (Nat.not_lt_zero _))
  refine lv_aload_n hx hb dX4_clear_37 rfl (lv_at hl 2 rfl) ?_
  refine z_callVV (As := []) (rest := []) (wr := []) (C := RX4) F (c_X4_saves l G a v y s1 hs hs4) (cwV 0 hts gX4_clear_X4_saves rfl rfl rfl (by decide +kernel) ⟨Nat.le_of_ble_eq_true rfl, Nat.le_of_ble_eq_true rfl⟩) hKK (z_recv hKK hP (q0 := 0) (ci := 4) rfl rfl) hP hD hS hA rfl hl.1 rfl (Nat.le_of_ble_eq_true rfl) ⟨Nat.zero_le _, Nat.zero_le _⟩ dX4_clear_38 (fun H locs hP hD hS => ?_)
  have hP : va_P G.1 vwCl (modW G a (mrow v 1 (svR (v 1) (v 0) s1)) (nup y 0 (svN s1))) H := hP
  have hD : va_D A (modW G a (mrow v 1 (svR (v 1) (v 0) s1)) (nup y 0 (svN s1))) := hD
  refine lv_aload_n hx hb dX4_clear_41 rfl (lv_at hl 2 rfl) ?_
  refine va_get (D := G.1) (ci := 4) (v := .ref (a 1)) (C := RX4) (T := TX4) (N := 17) hx hb hts hinX4 hown hKK.1 hP 0 rfl rfl 0 (by decide) fl_7 (fun _ h9 => h9) rfl dX4_clear_42 ?_
  refine lv_bipush (v := nI 124) hx hb dX4_clear_45 (by decide) ?_
  refine lv_iload_n hx hb dX4_clear_47 rfl (lv_at hl 1 rfl) ?_
  refine z_add (v := nI (124 + ((6 * t) + c0))) hx hb dX4_clear_48 (nI_add _ _) ?_
  refine lv_iconst (v := (-1)) hx hb dX4_clear_49 (by decide) ?_
  refine z_iast (n := 511) (f := v 0) (w2 := modW G a (mrow (mrow v 1 (svR (v 1) (v 0) s1)) 0 (upd (v 0) (124 + ((6 * t) + c0)) ((-1)))) (nup y 0 (svN s1))) hx hb hKK hP hD hS 1 rfl (by omega) (by decide) rfl dX4_clear_50 (fun H locs hP hD hS => ?_)
  refine lv_aload_n hx hb dX4_clear_51 rfl (lv_at hl 2 rfl) ?_
  refine lv_iload hx hb dX4_clear_52 (lv_at hl 0 rfl) ?_
  refine z_callVI (As := [.int (nI q0)]) (rest := []) (wr := []) (C := RX4) F (c_X4_givesBack l G a (mrow (mrow v 1 (svR (v 1) (v 0) s1)) 0 (upd (v 0) (124 + ((6 * t) + c0)) ((-1)))) (nup y 0 (svN s1)) (q0) (by omega)) (cwV 1 hts gX4_clear_X4_givesBack rfl rfl rfl (by decide +kernel) ⟨Nat.le_of_ble_eq_true rfl, Nat.le_of_ble_eq_true rfl⟩) hKK (z_recv hKK hP (q0 := 0) (ci := 4) rfl rfl) hP hD hS hA rfl hl.1 rfl (Nat.le_of_ble_eq_true rfl) ⟨Nat.zero_le _, Nat.zero_le _⟩ dX4_clear_54 (fun H locs hP hD hS => ?_)
  have hP : va_P G.1 vwCl (modW G a (mrow (mrow v 1 (svR (v 1) (v 0) s1)) 0 (mGive (upd (v 0) (124 + ((6 * t) + c0)) ((-1))) q0)) (nup y 0 (svN s1))) H := hP
  have hD : va_D A (modW G a (mrow (mrow v 1 (svR (v 1) (v 0) s1)) 0 (mGive (upd (v 0) (124 + ((6 * t) + c0)) ((-1))) q0)) (nup y 0 (svN s1))) := hD
  exact z_iret hx hb hr hlk hP hD hS dX4_clear_57 (congrArg (fun z => z - nI 1) (show upd (v 0) (124 + (6 * t + c0)) (-1) (44 + q0) = v 0 (44 + q0) from if_neg (by omega))) rfl

set_option maxHeartbeats 4000000 in
set_option maxRecDepth 100000 in
theorem c_X4_cellOf_no (l : Launch) (G : ZG) (a : Nat → Nat) (v : Mem) (y : Nat → Nat) (t c0 : Nat)  (ht : t ≤ 2) (hc0 : c0 ≤ 5) (he9 : v 0 (124 + (6 * t + c0)) = -1) : CI l G yX4_cellOf wsX4_cellOf (zRm 2 43) [.ref (a 0), .int (nI t), .int (nI c0)] (modW G a v y) ((-1000004)) (modW G a v y) := by
  refine CI.ent (cc := cX4_cellOf) (maxL := 4) (ty := .int) (own := RX4) (by decide) rfl rfl (Nat.le_of_ble_eq_true rfl) ?_
  intro p ee s m args below meth c A ls F hr hlk hKK hP hD hA hS hl
  obtain ⟨hx, hb, hml, hown, hts⟩ := id F
  have hl : lv_has ls 4 [(0, .ref (a 0)), (1, .int (nI t)), (2, .int (nI c0))] := hl
  have ct_99 := hts (.constant RX4 99 (-1000004)) (by decide +kernel)
  have fl_7 := hts (.fieldLink RX4 7 "NameRollsModel" "now" "[I") (by decide +kernel)
  have hinX4 : ∀ w ∈ wsX40, w ∈ wsX4_cellOf := by decide +kernel
  refine lv_iload_n hx hb dX4_cellOf_0 rfl (lv_at hl 1 rfl) ?_
  refine lv_iload_n hx hb dX4_cellOf_1 rfl (lv_at hl 2 rfl) ?_
  refine z_callSI (As := [.int (nI t), .int (nI c0)]) (rest := []) F (c_X4_isCell_N l G t c0 ht hc0) (va_cwS 2 hts gX4_cellOf_X4_isCell rfl rfl rfl (by decide +kernel) ⟨Nat.le_of_ble_eq_true rfl, Nat.le_of_ble_eq_true rfl⟩) hKK hP hD hS hA rfl hl.1 rfl (Nat.le_of_ble_eq_true rfl) ⟨Nat.zero_le _, Nat.zero_le _⟩ dX4_cellOf_2 (fun H locs hP hD hS => ?_)
  refine z_ifBne (tgt := 11) hx hb dX4_cellOf_5 (by decide) (fun c_1 => ?_) (fun c_1 => absurd c_1 (by decide))
  refine lv_aload_n hx hb dX4_cellOf_11 rfl (lv_at hl 0 rfl) ?_
  refine va_get (D := G.1) (ci := 4) (v := .ref (a 1)) (C := RX4) (T := TX4) (N := 17) hx hb hts hinX4 hown hKK.1 hP 0 rfl rfl 0 (by decide) fl_7 (fun _ h9 => h9) rfl dX4_cellOf_12 ?_
  refine lv_bipush (v := nI 124) hx hb dX4_cellOf_15 (by decide) ?_
  refine lv_bipush (v := nI 6) hx hb dX4_cellOf_17 (by decide) ?_
  refine lv_iload_n hx hb dX4_cellOf_19 rfl (lv_at hl 1 rfl) ?_
  refine z_mul (v := nI (6 * t)) hx hb dX4_cellOf_20 (pk_mul _ _) ?_
  refine z_add (v := nI (124 + (6 * t))) hx hb dX4_cellOf_21 (nI_add _ _) ?_
  refine lv_iload_n hx hb dX4_cellOf_22 rfl (lv_at hl 2 rfl) ?_
  refine z_add (v := nI ((124 + (6 * t)) + c0)) hx hb dX4_cellOf_23 (nI_add _ _) ?_
  refine z_iald (n := 511) (f := v 0) (v := v 0 ((124 + (6 * t)) + c0)) hx hb hKK hP 1 rfl (by omega) (by decide) rfl dX4_cellOf_24 ?_
  refine z_top (v := (-1)) ((congrArg (v 0) (Nat.add_assoc 124 (6 * t) c0)).trans he9) ?_
  refine lv_istore_n (lv' := [(3, .int ((-1))), (0, .ref (a 0)), (1, .int (nI t)), (2, .int (nI c0))]) hx hb dX4_cellOf_25 rfl hl (by decide) rfl (fun ls hl => ?_)
  refine lv_iload_n hx hb dX4_cellOf_26 rfl (lv_at hl 0 rfl) ?_
  refine lv_if_ge (tgt := 35) hx hb dX4_cellOf_27 (by decide) (fun c_2 => absurd c_2 (by decide)) (fun c_2 => ?_)
  refine z_ldc (v' := (-1000004)) hx hb hown ct_99 dX4_cellOf_30 rfl ?_
  refine lv_goto (tgt := 40) hx hb dX4_cellOf_32 (by decide) ?_
  exact z_iret hx hb hr hlk hP hD hS dX4_cellOf_40 rfl rfl

set_option maxHeartbeats 4000000 in
set_option maxRecDepth 100000 in
theorem c_X4_cellOf_ok (l : Launch) (G : ZG) (a : Nat → Nat) (v : Mem) (y : Nat → Nat) (t c0 : Nat)  (ht : t ≤ 2) (hc0 : c0 ≤ 5) (q0 : Nat) (hq0 : q0 < 40) (he9 : v 0 (124 + (6 * t + c0)) = nI q0) : CI l G yX4_cellOf wsX4_cellOf (zRm 2 43) [.ref (a 0), .int (nI t), .int (nI c0)] (modW G a v y) (mTag (v 0) q0) (modW G a v y) := by
  refine CI.ent (cc := cX4_cellOf) (maxL := 4) (ty := .int) (own := RX4) (by decide) rfl rfl (Nat.le_of_ble_eq_true rfl) ?_
  intro p ee s m args below meth c A ls F hr hlk hKK hP hD hA hS hl
  obtain ⟨hx, hb, hml, hown, hts⟩ := id F
  have hl : lv_has ls 4 [(0, .ref (a 0)), (1, .int (nI t)), (2, .int (nI c0))] := hl
  have fl_7 := hts (.fieldLink RX4 7 "NameRollsModel" "now" "[I") (by decide +kernel)
  have hinX4 : ∀ w ∈ wsX40, w ∈ wsX4_cellOf := by decide +kernel
  refine lv_iload_n hx hb dX4_cellOf_0 rfl (lv_at hl 1 rfl) ?_
  refine lv_iload_n hx hb dX4_cellOf_1 rfl (lv_at hl 2 rfl) ?_
  refine z_callSI (As := [.int (nI t), .int (nI c0)]) (rest := []) F (c_X4_isCell_N l G t c0 ht hc0) (va_cwS 2 hts gX4_cellOf_X4_isCell rfl rfl rfl (by decide +kernel) ⟨Nat.le_of_ble_eq_true rfl, Nat.le_of_ble_eq_true rfl⟩) hKK hP hD hS hA rfl hl.1 rfl (Nat.le_of_ble_eq_true rfl) ⟨Nat.zero_le _, Nat.zero_le _⟩ dX4_cellOf_2 (fun H locs hP hD hS => ?_)
  refine z_ifBne (tgt := 11) hx hb dX4_cellOf_5 (by decide) (fun c_1 => ?_) (fun c_1 => absurd c_1 (by decide))
  refine lv_aload_n hx hb dX4_cellOf_11 rfl (lv_at hl 0 rfl) ?_
  refine va_get (D := G.1) (ci := 4) (v := .ref (a 1)) (C := RX4) (T := TX4) (N := 17) hx hb hts hinX4 hown hKK.1 hP 0 rfl rfl 0 (by decide) fl_7 (fun _ h9 => h9) rfl dX4_cellOf_12 ?_
  refine lv_bipush (v := nI 124) hx hb dX4_cellOf_15 (by decide) ?_
  refine lv_bipush (v := nI 6) hx hb dX4_cellOf_17 (by decide) ?_
  refine lv_iload_n hx hb dX4_cellOf_19 rfl (lv_at hl 1 rfl) ?_
  refine z_mul (v := nI (6 * t)) hx hb dX4_cellOf_20 (pk_mul _ _) ?_
  refine z_add (v := nI (124 + (6 * t))) hx hb dX4_cellOf_21 (nI_add _ _) ?_
  refine lv_iload_n hx hb dX4_cellOf_22 rfl (lv_at hl 2 rfl) ?_
  refine z_add (v := nI ((124 + (6 * t)) + c0)) hx hb dX4_cellOf_23 (nI_add _ _) ?_
  refine z_iald (n := 511) (f := v 0) (v := v 0 ((124 + (6 * t)) + c0)) hx hb hKK hP 1 rfl (by omega) (by decide) rfl dX4_cellOf_24 ?_
  refine z_top (v := nI q0) ((congrArg (v 0) (Nat.add_assoc 124 (6 * t) c0)).trans he9) ?_
  refine lv_istore_n (lv' := [(3, .int (nI q0)), (0, .ref (a 0)), (1, .int (nI t)), (2, .int (nI c0))]) hx hb dX4_cellOf_25 rfl hl (by decide) rfl (fun ls hl => ?_)
  refine lv_iload_n hx hb dX4_cellOf_26 rfl (lv_at hl 0 rfl) ?_
  refine z_ifNge (tgt := 35) hx hb dX4_cellOf_27 (by decide) (by omega) (fun c_2 => ?_) (fun c_2 => absurd c_2 (Nat.not_lt_zero _))
  refine lv_aload_n hx hb dX4_cellOf_35 rfl (lv_at hl 1 rfl) ?_
  refine lv_iload_n hx hb dX4_cellOf_36 rfl (lv_at hl 0 rfl) ?_
  refine z_callVI (As := [.int (nI q0)]) (rest := []) (wr := []) (C := RX4) F (c_X4_tagOf l G a v y (q0) (by omega)) (cwV 1 hts gX4_cellOf_X4_tagOf rfl rfl rfl (by decide +kernel) ⟨Nat.le_of_ble_eq_true rfl, Nat.le_of_ble_eq_true rfl⟩) hKK (z_recv hKK hP (q0 := 0) (ci := 4) rfl rfl) hP hD hS hA rfl hl.1 rfl (Nat.le_of_ble_eq_true rfl) ⟨Nat.zero_le _, Nat.zero_le _⟩ dX4_cellOf_37 (fun H locs hP hD hS => ?_)
  have hP : va_P G.1 vwCl (modW G a v y) H := hP
  have hD : va_D A (modW G a v y) := hD
  exact z_iret hx hb hr hlk hP hD hS dX4_cellOf_40 rfl rfl

set_option maxHeartbeats 4000000 in
set_option maxRecDepth 100000 in
theorem c_X4_compact_bad (l : Launch) (G : ZG) (a : Nat → Nat) (v : Mem) (y : Nat → Nat) (ρ : Int32)  (h9 : zWi ρ 0 2 = false) : CI l G yX4_compact wsX4_compact (zRm 4 92) [.ref (a 0), .int ρ] (modW G a v y) ((-1000001)) (modW G a v y) := by
  refine CI.ent (cc := cX4_compact) (maxL := 2) (ty := .int) (own := RX4) (by decide) rfl rfl (Nat.le_of_ble_eq_true rfl) ?_
  intro p ee s m args below meth c A ls F hr hlk hKK hP hD hA hS hl
  obtain ⟨hx, hb, hml, hown, hts⟩ := id F
  have hl : lv_has ls 2 [(0, .ref (a 0)), (1, .int ρ)] := hl
  have ct_61 := hts (.constant RX4 61 (-1000001)) (by decide +kernel)
  refine lv_iload_n hx hb dX4_compact_0 rfl (lv_at hl 1 rfl) ?_
  refine lv_iconst (v := nI 0) hx hb dX4_compact_1 (by decide) ?_
  refine lv_iconst (v := nI 2) hx hb dX4_compact_2 (by decide) ?_
  refine z_callSI (As := [.int ρ, .int (nI 0), .int (nI 2)]) (rest := []) F (c_X4_within l G ρ (0) (2)) (va_cwS 3 hts gX4_compact_X4_within rfl rfl rfl (by decide +kernel) ⟨Nat.le_of_ble_eq_true rfl, Nat.le_of_ble_eq_true rfl⟩) hKK hP hD hS hA rfl hl.1 rfl (Nat.le_of_ble_eq_true rfl) ⟨Nat.zero_le _, Nat.zero_le _⟩ dX4_compact_3 (fun H locs hP hD hS => ?_)
  refine z_top (v := bI (false)) (by rw [h9]) ?_
  refine z_ifBne (tgt := 12) hx hb dX4_compact_6 (by decide) (fun c_1 => absurd c_1 (by decide)) (fun c_1 => ?_)
  refine z_ldc (v' := (-1000001)) hx hb hown ct_61 dX4_compact_9 rfl ?_
  exact z_iret hx hb hr hlk hP hD hS dX4_compact_11 rfl rfl

theorem c_X4_within_t (l : Launch) (G : ZG) (x lo hi : Nat) (ha : lo ≤ x) (hl : x ≤ hi) (hh : hi < 2 ^ 31) : CI l G yX4_within wsX4_within (zRm 0 0) [.int (nI x), .int (nI lo), .int (nI hi)] ([]) (bI true) ([]) := by
  have h := c_X4_within l G (nI x) lo hi
  rw [zWi_N (by omega) (by omega) hh, decide_eq_true ha, decide_eq_true hl] at h
  exact h

set_option maxHeartbeats 4000000 in
set_option maxRecDepth 100000 in
theorem c_X4_compact_no (l : Launch) (G : ZG) (a : Nat → Nat) (v : Mem) (y : Nat → Nat) (ρ : Nat) (hρ : ρ ≤ 2) (h0 : v 0 0 = nI 999) : CI l G yX4_compact wsX4_compact (zRm 4 92) [.ref (a 0), .int (nI ρ)] (modW G a v y) ((-1000003)) (modW G a v y) := by
  refine CI.ent (cc := cX4_compact) (maxL := 2) (ty := .int) (own := RX4) (by decide) rfl rfl (Nat.le_of_ble_eq_true rfl) ?_
  intro p ee s m args below meth c A ls F hr hlk hKK hP hD hA hS hl
  obtain ⟨hx, hb, hml, hown, hts⟩ := id F
  have hl : lv_has ls 2 [(0, .ref (a 0)), (1, .int (nI ρ))] := hl
  have ct_65 := hts (.constant RX4 65 (-1000003)) (by decide +kernel)
  have fl_7 := hts (.fieldLink RX4 7 "NameRollsModel" "now" "[I") (by decide +kernel)
  have hinX4 : ∀ w ∈ wsX40, w ∈ wsX4_compact := by decide +kernel
  refine lv_iload_n hx hb dX4_compact_0 rfl (lv_at hl 1 rfl) ?_
  refine lv_iconst (v := nI 0) hx hb dX4_compact_1 (by decide) ?_
  refine lv_iconst (v := nI 2) hx hb dX4_compact_2 (by decide) ?_
  refine z_callSI (As := [.int (nI ρ), .int (nI 0), .int (nI 2)]) (rest := []) F (c_X4_within_t l G (ρ) (0) (2) (by omega) (by omega) (by decide)) (va_cwS 3 hts gX4_compact_X4_within rfl rfl rfl (by decide +kernel) ⟨Nat.le_of_ble_eq_true rfl, Nat.le_of_ble_eq_true rfl⟩) hKK hP hD hS hA rfl hl.1 rfl (Nat.le_of_ble_eq_true rfl) ⟨Nat.zero_le _, Nat.zero_le _⟩ dX4_compact_3 (fun H locs hP hD hS => ?_)
  refine z_ifBne (tgt := 12) hx hb dX4_compact_6 (by decide) (fun c_1 => ?_) (fun c_1 => absurd c_1 (by decide))
  refine lv_aload_n hx hb dX4_compact_12 rfl (lv_at hl 0 rfl) ?_
  refine va_get (D := G.1) (ci := 4) (v := .ref (a 1)) (C := RX4) (T := TX4) (N := 17) hx hb hts hinX4 hown hKK.1 hP 0 rfl rfl 0 (by decide) fl_7 (fun _ h9 => h9) rfl dX4_compact_13 ?_
  refine lv_iconst (v := nI 0) hx hb dX4_compact_16 (by decide) ?_
  refine z_iald (n := 511) (f := v 0) (v := v 0 0) hx hb hKK hP 1 rfl (by omega) (by decide) rfl dX4_compact_17 ?_
  refine z_top (v := nI 999) h0 ?_
  refine lv_sipush (v := nI 999) hx hb dX4_compact_18 (by decide) ?_
  refine z_ne (tgt := 27) hx hb dX4_compact_21 (by decide) (by omega) (by omega) (fun c_2 => absurd rfl c_2) (fun c_2 => ?_)
  refine z_ldc (v' := (-1000003)) hx hb hown ct_65 dX4_compact_24 rfl ?_
  exact z_iret hx hb hr hlk hP hD hS dX4_compact_26 rfl rfl

set_option maxHeartbeats 4000000 in
set_option maxRecDepth 100000 in
theorem c_X4_compact_ok (l : Launch) (G : ZG) (a : Nat → Nat) (v : Mem) (y : Nat → Nat) (ρ : Nat) (hρ : ρ ≤ 2) (hN : okNm (rN (v 0))) (hI : injN (rN (v 0))) (hcl : okCl (v 0)) (h0 : ¬ v 0 0 = nI 999) (s1 : Nat) (hs : y 0 = s1) (hs4 : s1 ≤ 4) : CIE l G yX4_compact wsX4_compact (zRm 4 92) [.ref (a 0), .int (nI ρ)] (modW G a v y) (S := (Nat → Int32) × (Nat → Int32) × (Nat → Int32)) (fun r u => cmpPost (v 0) ρ u.1 ∧ r = nI (mvdA (v 0) ρ)) (fun u => modW G a (mrow (mrow (mrow (mrow v 1 (svR (v 1) (v 0) s1)) 0 u.1) 4 u.2.1) 5 u.2.2) (nup (nup y 0 (svN s1)) 2 (cntA (v 0)))) := by
  refine CIE.ent (cc := cX4_compact) (maxL := 2) (ty := .int) (own := RX4) (by decide) rfl rfl (Nat.le_of_ble_eq_true rfl) ?_
  intro p ee s m args below meth c A ls F hr hlk hKK hP hD hA hS hl
  obtain ⟨hx, hb, hml, hown, hts⟩ := id F
  have hl : lv_has ls 2 [(0, .ref (a 0)), (1, .int (nI ρ))] := hl
  have fl_7 := hts (.fieldLink RX4 7 "NameRollsModel" "now" "[I") (by decide +kernel)
  have hinX4 : ∀ w ∈ wsX40, w ∈ wsX4_compact := by decide +kernel
  refine lv_iload_n hx hb dX4_compact_0 rfl (lv_at hl 1 rfl) ?_
  refine lv_iconst (v := nI 0) hx hb dX4_compact_1 (by decide) ?_
  refine lv_iconst (v := nI 2) hx hb dX4_compact_2 (by decide) ?_
  refine z_callSI (As := [.int (nI ρ), .int (nI 0), .int (nI 2)]) (rest := []) F (c_X4_within_t l G (ρ) (0) (2) (by omega) (by omega) (by decide)) (va_cwS 3 hts gX4_compact_X4_within rfl rfl rfl (by decide +kernel) ⟨Nat.le_of_ble_eq_true rfl, Nat.le_of_ble_eq_true rfl⟩) hKK hP hD hS hA rfl hl.1 rfl (Nat.le_of_ble_eq_true rfl) ⟨Nat.zero_le _, Nat.zero_le _⟩ dX4_compact_3 (fun H locs hP hD hS => ?_)
  refine z_ifBne (tgt := 12) hx hb dX4_compact_6 (by decide) (fun c_1 => ?_) (fun c_1 => absurd c_1 (by decide))
  refine lv_aload_n hx hb dX4_compact_12 rfl (lv_at hl 0 rfl) ?_
  refine va_get (D := G.1) (ci := 4) (v := .ref (a 1)) (C := RX4) (T := TX4) (N := 17) hx hb hts hinX4 hown hKK.1 hP 0 rfl rfl 0 (by decide) fl_7 (fun _ h9 => h9) rfl dX4_compact_13 ?_
  refine lv_iconst (v := nI 0) hx hb dX4_compact_16 (by decide) ?_
  refine z_iald (n := 511) (f := v 0) (v := v 0 0) hx hb hKK hP 1 rfl (by omega) (by decide) rfl dX4_compact_17 ?_
  refine lv_sipush (v := nI 999) hx hb dX4_compact_18 (by decide) ?_
  refine lv_icmp_ne (tgt := 27) hx hb dX4_compact_21 (by decide) (fun c_2 => ?_) (fun c_2 => absurd c_2 h0)
  refine lv_aload_n hx hb dX4_compact_27 rfl (lv_at hl 0 rfl) ?_
  refine z_callVV (As := []) (rest := []) (wr := []) (C := RX4) F (c_X4_saves l G a v y s1 hs hs4) (cwV 0 hts gX4_compact_X4_saves rfl rfl rfl (by decide +kernel) ⟨Nat.le_of_ble_eq_true rfl, Nat.le_of_ble_eq_true rfl⟩) hKK (z_recv hKK hP (q0 := 0) (ci := 4) rfl rfl) hP hD hS hA rfl hl.1 rfl (Nat.le_of_ble_eq_true rfl) ⟨Nat.zero_le _, Nat.zero_le _⟩ dX4_compact_28 (fun H locs hP hD hS => ?_)
  have hP : va_P G.1 vwCl (modW G a (mrow v 1 (svR (v 1) (v 0) s1)) (nup y 0 (svN s1))) H := hP
  have hD : va_D A (modW G a (mrow v 1 (svR (v 1) (v 0) s1)) (nup y 0 (svN s1))) := hD
  refine lv_aload_n hx hb dX4_compact_31 rfl (lv_at hl 0 rfl) ?_
  refine lv_iload_n hx hb dX4_compact_32 rfl (lv_at hl 1 rfl) ?_
  refine z_callVIE (As := [.int (nI ρ)]) (rest := []) (wr := []) (C := RX4) F (c_X4_compacts l G a (mrow v 1 (svR (v 1) (v 0) s1)) (nup y 0 (svN s1)) ρ hρ hN hI hcl) (cwV 1 hts gX4_compact_X4_compacts rfl rfl rfl (by decide +kernel) ⟨Nat.le_of_ble_eq_true rfl, Nat.le_of_ble_eq_true rfl⟩) hKK (z_recv hKK hP (q0 := 0) (ci := 4) rfl rfl) hP hD hS hA rfl hl.1 rfl (Nat.le_of_ble_eq_true rfl) ⟨Nat.zero_le _, Nat.zero_le _⟩ dX4_compact_33 (fun r_3 u_3 H locs hq_3 hP hD hS => ?_)
  obtain ⟨hq1_3, hq2_3⟩ := hq_3
  subst hq2_3
  have hP : va_P G.1 vwCl (modW G a (mrow (mrow (mrow (mrow v 1 (svR (v 1) (v 0) s1)) 0 u_3.1) 4 u_3.2.1) 5 u_3.2.2) (nup (nup y 0 (svN s1)) 2 (cntA (v 0)))) H := hP
  have hD : va_D A (modW G a (mrow (mrow (mrow (mrow v 1 (svR (v 1) (v 0) s1)) 0 u_3.1) 4 u_3.2.1) 5 u_3.2.2) (nup (nup y 0 (svN s1)) 2 (cntA (v 0)))) := hD
  exact z_iretE u_3 hx hb hr hlk hP hD hS dX4_compact_36 rfl ⟨hq1_3, rfl⟩
