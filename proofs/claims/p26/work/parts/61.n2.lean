theorem i32_nlt {x y : Int32} (h : x ≤ y) : ¬ y < x := by
  rw [Int32.lt_iff_toInt_lt]
  rw [Int32.le_iff_toInt_le] at h
  omega
theorem i2c_N {q : Nat} (h : q < 65536) : ((nI q).toUInt32 % 65536).toInt32 = nI q := by
  rw [pk_char, show (nI q).toBitVec.toNat = q % 2 ^ 32 from rfl, show q % 2 ^ 32 % 65536 = q by omega]
theorem zTp_le (v : Mem) : ∀ n, zTp v n ≤ n
  | 0 => Nat.le_refl 0
  | n + 1 => by
    rw [zTp]
    split
    · exact Nat.le_succ_of_le (zTp_le v n)
    · exact Nat.le_refl _
theorem min_nI {e0 : Nat} (h : e0 < 2 ^ 31) : (if nI 3 < nI e0 then nI 3 else nI e0) = nI (min e0 3) := by
  by_cases q : 3 < e0
  · rw [if_pos (nI_lt q h), show min e0 3 = 3 by omega]
  · rw [if_neg (fun z => q ((nI_ltI (by omega) h).mp z)), show min e0 3 = e0 by omega]
section BT
variable (l : Launch) (G : ZG)
theorem c_X3_isName_b (x : Int32) (z : Bool) (h : zName x = z) : CI l G yX3_isName wsX3_isName (zRm 0 0) [.int x] ([]) (bI z) ([]) := by subst h; exact c_X3_isName l G x
theorem c_X3_isCell_b (x y : Int32) (z : Bool) (h : (zBel x 3 && zBel y 6) = z) : CI l G yX3_isCell wsX3_isCell (zRm 1 21) [.int x, .int y] ([]) (bI z) ([]) := by subst h; exact c_X3_isCell l G x y
theorem c_X3_isBelow_b (x : Int32) (n : Nat) (hn : n < 2 ^ 31) (z : Bool) (h : zBel x n = z) : CI l G yX3_isBelow wsX3_isBelow (zRm 0 0) [.int x, .int (nI n)] ([]) (bI z) ([]) := by subst h; exact c_X3_isBelow l G x n hn
end BT
theorem cell_ok {x y : Nat} (hx : x < 3) (hy : y < 6) : (zBel (nI x) 3 && zBel (nI y) 6) = true := by
  rw [zBel_N (by omega) (by decide), zBel_N (by omega) (by decide), decide_eq_true hx, decide_eq_true hy]; rfl
theorem bel_ok {x n : Nat} (hx : x < n) (hn : n < 2 ^ 31) : zBel (nI x) n = true := by
  rw [zBel_N (by omega) hn, decide_eq_true hx]

set_option maxHeartbeats 4000000 in
set_option maxRecDepth 100000 in
theorem c_X3_acquire_bad (l : Launch) (G : ZG) (o pr q : Nat) (a b d : Nat → Nat) (pa : Nat → Nat → Nat) (S P L : Nat → Nat) (t v u : Mem) (pv : Nat → Mem) (x : Int32) (h9 : zName x = false) : CI l G yX3_acquire wsX3_acquire (zRm 3 83) [.ref o, .int x] (headW G o pr (prF pa) a b q S ++ (playW G q (d 0) P ++ (textW G b t L ++ (rollW G a v ++ (rollW G d u ++ pastW G pa pv))))) ((-1000001)) (headW G o pr (prF pa) a b q S ++ (playW G q (d 0) P ++ (textW G b t L ++ (rollW G a v ++ (rollW G d u ++ pastW G pa pv))))) := by
  refine CI.ent (cc := cX3_acquire) (maxL := 2) (ty := .int) (own := RX3) (by decide) rfl rfl (Nat.le_of_ble_eq_true rfl) ?_
  intro p ee s m args below meth c A ls F hr hlk hKK hP hD hA hS hl
  obtain ⟨hx, hb, hml, hown, hts⟩ := id F
  have hl : lv_has ls 2 [(0, .ref o), (1, .int x)] := hl
  have ct_38 := hts (.constant RX3 38 (-1000001)) (by decide +kernel)
  refine lv_iload_n hx hb dX3_acquire_0 rfl (lv_at hl 1 rfl) ?_
  refine z_callSI (As := [.int x]) (rest := []) F (c_X3_isName_b l G x false h9) (va_cwS 1 hts gX3_acquire_X3_isName rfl rfl rfl (by decide +kernel) ⟨Nat.le_of_ble_eq_true rfl, Nat.le_of_ble_eq_true rfl⟩) hKK hP hD hS hA rfl hl.1 rfl (Nat.le_of_ble_eq_true rfl) ⟨Nat.zero_le _, Nat.zero_le _⟩ dX3_acquire_1 (fun H locs hP hD hS => ?_)
  refine z_ifBne (tgt := 10) hx hb dX3_acquire_4 (by decide) (fun c_1 => absurd c_1 (by decide)) (fun c_1 => ?_)
  refine z_ldc (v' := (-1000001)) hx hb hown ct_38 dX3_acquire_7 rfl ?_
  exact z_iret hx hb hr hlk hP hD hS dX3_acquire_9 rfl rfl

set_option maxHeartbeats 4000000 in
set_option maxRecDepth 100000 in
theorem c_X3_acquire_lim (l : Launch) (G : ZG) (o pr q : Nat) (a b d : Nat → Nat) (pa : Nat → Nat → Nat) (S P L : Nat → Nat) (t v u : Mem) (pv : Nat → Mem) (x : Int32) (h9 : zName x = true) (hcal : CI l G yX1_hasRoomFor wsX1_hasRoomFor (zRm 2 42) [.ref (a 0), .int x] (rollW G a v) (bI false) (rollW G a v)) : CI l G yX3_acquire wsX3_acquire (zRm 3 83) [.ref o, .int x] (headW G o pr (prF pa) a b q S ++ (playW G q (d 0) P ++ (textW G b t L ++ (rollW G a v ++ (rollW G d u ++ pastW G pa pv))))) ((-1000003)) (headW G o pr (prF pa) a b q S ++ (playW G q (d 0) P ++ (textW G b t L ++ (rollW G a v ++ (rollW G d u ++ pastW G pa pv))))) := by
  refine CI.ent (cc := cX3_acquire) (maxL := 2) (ty := .int) (own := RX3) (by decide) rfl rfl (Nat.le_of_ble_eq_true rfl) ?_
  intro p ee s m args below meth c A ls F hr hlk hKK hP hD hA hS hl
  obtain ⟨hx, hb, hml, hown, hts⟩ := id F
  have hl : lv_has ls 2 [(0, .ref o), (1, .int x)] := hl
  have ct_42 := hts (.constant RX3 42 (-1000003)) (by decide +kernel)
  have fl_10 := hts (.fieldLink RX3 10 "NameRolls" "now" "LNameRolls$Roll;") (by decide +kernel)
  have hinX3 : ∀ w ∈ wsX30, w ∈ wsX3_acquire := by decide +kernel
  refine lv_iload_n hx hb dX3_acquire_0 rfl (lv_at hl 1 rfl) ?_
  refine z_callSI (As := [.int x]) (rest := []) F (c_X3_isName_b l G x true h9) (va_cwS 1 hts gX3_acquire_X3_isName rfl rfl rfl (by decide +kernel) ⟨Nat.le_of_ble_eq_true rfl, Nat.le_of_ble_eq_true rfl⟩) hKK hP hD hS hA rfl hl.1 rfl (Nat.le_of_ble_eq_true rfl) ⟨Nat.zero_le _, Nat.zero_le _⟩ dX3_acquire_1 (fun H locs hP hD hS => ?_)
  refine z_ifBne (tgt := 10) hx hb dX3_acquire_4 (by decide) (fun c_1 => ?_) (fun c_1 => absurd c_1 (by decide))
  refine lv_aload_n hx hb dX3_acquire_10 rfl (lv_at hl 0 rfl) ?_
  refine va_get (D := G.1) (ci := 3) (v := .ref (a 0)) (C := RX3) (T := TX3) (N := 5) hx hb hts hinX3 hown hKK.1 hP 0 rfl rfl 0 (by decide) fl_10 (fun _ h9 => h9) rfl dX3_acquire_11 ?_
  refine lv_iload_n hx hb dX3_acquire_14 rfl (lv_at hl 1 rfl) ?_
  refine z_callVI (As := [.int x]) (rest := []) (wr := (headW G o pr (prF pa) a b q S ++ (playW G q (d 0) P ++ (textW G b t L ++ (rollW G d u ++ pastW G pa pv))))) (C := RX1) F (hcal) (cwV 1 hts gX3_acquire_X1_hasRoomFor rfl rfl rfl (by decide +kernel) ⟨Nat.le_of_ble_eq_true rfl, Nat.le_of_ble_eq_true rfl⟩) hKK (z_recv hKK hP (q0 := 5) (ci := 1) rfl rfl) (z_perm (pn_a _ _ _ _ _) hP) (z_permD (pn_a _ _ _ _ _) hD) hS hA rfl hl.1 rfl (Nat.le_of_ble_eq_true rfl) ⟨Nat.zero_le _, Nat.zero_le _⟩ dX3_acquire_15 (fun H locs hP hD hS => ?_)
  have hP : va_P G.1 vwCl (headW G o pr (prF pa) a b q S ++ (playW G q (d 0) P ++ (textW G b t L ++ (rollW G a v ++ (rollW G d u ++ pastW G pa pv))))) H := (z_perm (pn_a _ _ _ _ _).symm hP)
  have hD : va_D A (headW G o pr (prF pa) a b q S ++ (playW G q (d 0) P ++ (textW G b t L ++ (rollW G a v ++ (rollW G d u ++ pastW G pa pv))))) := (z_permD (pn_a _ _ _ _ _).symm hD)
  refine z_ifBne (tgt := 24) hx hb dX3_acquire_18 (by decide) (fun c_2 => absurd c_2 (by decide)) (fun c_2 => ?_)
  refine z_ldc (v' := (-1000003)) hx hb hown ct_42 dX3_acquire_21 rfl ?_
  exact z_iret hx hb hr hlk hP hD hS dX3_acquire_23 rfl rfl

set_option maxHeartbeats 4000000 in
set_option maxRecDepth 100000 in
theorem c_X3_acquire_ok (l : Launch) (G : ZG) (o pr q : Nat) (a b d : Nat → Nat) (pa : Nat → Nat → Nat) (S P L : Nat → Nat) (t v u : Mem) (pv : Nat → Mem) (x : Int32) (n : Nat) (w : Mem) (h9 : zName x = true) (h4 : S 0 ≤ 4) (hcal : CI l G yX1_hasRoomFor wsX1_hasRoomFor (zRm 2 42) [.ref (a 0), .int x] (rollW G a v) (bI true) (rollW G a v)) (hn : n < 40) (hdo : CI l G yX1_enter wsX1_enter (zRm 2 42) [.ref (a 0), .int x] (rollW G a v) (nI n) (rollW G a w)) : CI l G yX3_acquire wsX3_acquire (zRm 3 83) [.ref o, .int x] (headW G o pr (prF pa) a b q S ++ (playW G q (d 0) P ++ (textW G b t L ++ (rollW G a v ++ (rollW G d u ++ pastW G pa pv))))) (nI 1000000 * w 12 0 + nI 100 * w 2 n + nI n) (headW G o pr (prF (rcA (S 0) pa)) a b q (nup S 0 (svN (S 0))) ++ (playW G q (d 0) P ++ (textW G b t L ++ (rollW G a w ++ (rollW G d u ++ pastW G (rcA (S 0) pa) (rcV (S 0) pv v)))))) := by
  refine CI.ent (cc := cX3_acquire) (maxL := 2) (ty := .int) (own := RX3) (by decide) rfl rfl (Nat.le_of_ble_eq_true rfl) ?_
  intro p ee s m args below meth c A ls F hr hlk hKK hP hD hA hS hl
  obtain ⟨hx, hb, hml, hown, hts⟩ := id F
  have hl : lv_has ls 2 [(0, .ref o), (1, .int x)] := hl
  have fl_10 := hts (.fieldLink RX3 10 "NameRolls" "now" "LNameRolls$Roll;") (by decide +kernel)
  have hinX3 : ∀ w ∈ wsX30, w ∈ wsX3_acquire := by decide +kernel
  refine lv_iload_n hx hb dX3_acquire_0 rfl (lv_at hl 1 rfl) ?_
  refine z_callSI (As := [.int x]) (rest := []) F (c_X3_isName_b l G x true h9) (va_cwS 1 hts gX3_acquire_X3_isName rfl rfl rfl (by decide +kernel) ⟨Nat.le_of_ble_eq_true rfl, Nat.le_of_ble_eq_true rfl⟩) hKK hP hD hS hA rfl hl.1 rfl (Nat.le_of_ble_eq_true rfl) ⟨Nat.zero_le _, Nat.zero_le _⟩ dX3_acquire_1 (fun H locs hP hD hS => ?_)
  refine z_ifBne (tgt := 10) hx hb dX3_acquire_4 (by decide) (fun c_1 => ?_) (fun c_1 => absurd c_1 (by decide))
  refine lv_aload_n hx hb dX3_acquire_10 rfl (lv_at hl 0 rfl) ?_
  refine va_get (D := G.1) (ci := 3) (v := .ref (a 0)) (C := RX3) (T := TX3) (N := 5) hx hb hts hinX3 hown hKK.1 hP 0 rfl rfl 0 (by decide) fl_10 (fun _ h9 => h9) rfl dX3_acquire_11 ?_
  refine lv_iload_n hx hb dX3_acquire_14 rfl (lv_at hl 1 rfl) ?_
  refine z_callVI (As := [.int x]) (rest := []) (wr := (headW G o pr (prF pa) a b q S ++ (playW G q (d 0) P ++ (textW G b t L ++ (rollW G d u ++ pastW G pa pv))))) (C := RX1) F (hcal) (cwV 1 hts gX3_acquire_X1_hasRoomFor rfl rfl rfl (by decide +kernel) ⟨Nat.le_of_ble_eq_true rfl, Nat.le_of_ble_eq_true rfl⟩) hKK (z_recv hKK hP (q0 := 5) (ci := 1) rfl rfl) (z_perm (pn_a _ _ _ _ _) hP) (z_permD (pn_a _ _ _ _ _) hD) hS hA rfl hl.1 rfl (Nat.le_of_ble_eq_true rfl) ⟨Nat.zero_le _, Nat.zero_le _⟩ dX3_acquire_15 (fun H locs hP hD hS => ?_)
  have hP : va_P G.1 vwCl (headW G o pr (prF pa) a b q S ++ (playW G q (d 0) P ++ (textW G b t L ++ (rollW G a v ++ (rollW G d u ++ pastW G pa pv))))) H := (z_perm (pn_a _ _ _ _ _).symm hP)
  have hD : va_D A (headW G o pr (prF pa) a b q S ++ (playW G q (d 0) P ++ (textW G b t L ++ (rollW G a v ++ (rollW G d u ++ pastW G pa pv))))) := (z_permD (pn_a _ _ _ _ _).symm hD)
  refine z_ifBne (tgt := 24) hx hb dX3_acquire_18 (by decide) (fun c_2 => ?_) (fun c_2 => absurd c_2 (by decide))
  refine lv_aload_n hx hb dX3_acquire_24 rfl (lv_at hl 0 rfl) ?_
  refine z_callVV (As := []) (rest := []) (wr := []) (C := RX3) F (c_X3_recordState l G o pr q a b d pa S P L t v u pv h4) (cwV 0 hts gX3_acquire_X3_recordState rfl rfl rfl (by decide +kernel) ⟨Nat.le_of_ble_eq_true rfl, Nat.le_of_ble_eq_true rfl⟩) hKK (z_recv hKK hP (q0 := 0) (ci := 3) rfl rfl) hP hD hS hA rfl hl.1 rfl (Nat.le_of_ble_eq_true rfl) ⟨Nat.zero_le _, Nat.zero_le _⟩ dX3_acquire_25 (fun H locs hP hD hS => ?_)
  have hP : va_P G.1 vwCl (headW G o pr (prF (rcA (S 0) pa)) a b q (nup S 0 (svN (S 0))) ++ (playW G q (d 0) P ++ (textW G b t L ++ (rollW G a v ++ (rollW G d u ++ pastW G (rcA (S 0) pa) (rcV (S 0) pv v)))))) H := hP
  have hD : va_D A (headW G o pr (prF (rcA (S 0) pa)) a b q (nup S 0 (svN (S 0))) ++ (playW G q (d 0) P ++ (textW G b t L ++ (rollW G a v ++ (rollW G d u ++ pastW G (rcA (S 0) pa) (rcV (S 0) pv v)))))) := hD
  refine lv_aload_n hx hb dX3_acquire_28 rfl (lv_at hl 0 rfl) ?_
  refine va_get (D := G.1) (ci := 3) (v := .ref (a 0)) (C := RX3) (T := TX3) (N := 5) hx hb hts hinX3 hown hKK.1 hP 0 rfl rfl 0 (by decide) fl_10 (fun _ h9 => h9) rfl dX3_acquire_29 ?_
  refine lv_aload_n hx hb dX3_acquire_32 rfl (lv_at hl 0 rfl) ?_
  refine va_get (D := G.1) (ci := 3) (v := .ref (a 0)) (C := RX3) (T := TX3) (N := 5) hx hb hts hinX3 hown hKK.1 hP 0 rfl rfl 0 (by decide) fl_10 (fun _ h9 => h9) rfl dX3_acquire_33 ?_
  refine lv_iload_n hx hb dX3_acquire_36 rfl (lv_at hl 1 rfl) ?_
  refine z_callVI (As := [.int x]) (rest := [.ref (a 0)]) (wr := (headW G o pr (prF (rcA (S 0) pa)) a b q (nup S 0 (svN (S 0))) ++ (playW G q (d 0) P ++ (textW G b t L ++ (rollW G d u ++ pastW G (rcA (S 0) pa) (rcV (S 0) pv v)))))) (C := RX1) F (hdo) (cwV 1 hts gX3_acquire_X1_enter rfl rfl rfl (by decide +kernel) ⟨Nat.le_of_ble_eq_true rfl, Nat.le_of_ble_eq_true rfl⟩) hKK (z_recv hKK hP (q0 := 5) (ci := 1) rfl rfl) (z_perm (pn_a _ _ _ _ _) hP) (z_permD (pn_a _ _ _ _ _) hD) hS hA rfl hl.1 rfl (Nat.le_of_ble_eq_true rfl) ⟨Nat.zero_le _, Nat.zero_le _⟩ dX3_acquire_37 (fun H locs hP hD hS => ?_)
  have hP : va_P G.1 vwCl (headW G o pr (prF (rcA (S 0) pa)) a b q (nup S 0 (svN (S 0))) ++ (playW G q (d 0) P ++ (textW G b t L ++ (rollW G a w ++ (rollW G d u ++ pastW G (rcA (S 0) pa) (rcV (S 0) pv v)))))) H := (z_perm (pn_a _ _ _ _ _).symm hP)
  have hD : va_D A (headW G o pr (prF (rcA (S 0) pa)) a b q (nup S 0 (svN (S 0))) ++ (playW G q (d 0) P ++ (textW G b t L ++ (rollW G a w ++ (rollW G d u ++ pastW G (rcA (S 0) pa) (rcV (S 0) pv v)))))) := (z_permD (pn_a _ _ _ _ _).symm hD)
  refine z_callVI (As := [.int (nI n)]) (rest := []) (wr := (headW G o pr (prF (rcA (S 0) pa)) a b q (nup S 0 (svN (S 0))) ++ (playW G q (d 0) P ++ (textW G b t L ++ (rollW G d u ++ pastW G (rcA (S 0) pa) (rcV (S 0) pv v)))))) (C := RX1) F (c_X1_tagOf l G a w n hn) (cwV 1 hts gX3_acquire_X1_tagOf rfl rfl rfl (by decide +kernel) ⟨Nat.le_of_ble_eq_true rfl, Nat.le_of_ble_eq_true rfl⟩) hKK (z_recv hKK hP (q0 := 5) (ci := 1) rfl rfl) (z_perm (pn_a _ _ _ _ _) hP) (z_permD (pn_a _ _ _ _ _) hD) hS hA rfl hl.1 rfl (Nat.le_of_ble_eq_true rfl) ⟨Nat.zero_le _, Nat.zero_le _⟩ dX3_acquire_40 (fun H locs hP hD hS => ?_)
  have hP : va_P G.1 vwCl (headW G o pr (prF (rcA (S 0) pa)) a b q (nup S 0 (svN (S 0))) ++ (playW G q (d 0) P ++ (textW G b t L ++ (rollW G a w ++ (rollW G d u ++ pastW G (rcA (S 0) pa) (rcV (S 0) pv v)))))) H := (z_perm (pn_a _ _ _ _ _).symm hP)
  have hD : va_D A (headW G o pr (prF (rcA (S 0) pa)) a b q (nup S 0 (svN (S 0))) ++ (playW G q (d 0) P ++ (textW G b t L ++ (rollW G a w ++ (rollW G d u ++ pastW G (rcA (S 0) pa) (rcV (S 0) pv v)))))) := (z_permD (pn_a _ _ _ _ _).symm hD)
  exact z_iret hx hb hr hlk hP hD hS dX3_acquire_43 rfl rfl

set_option maxHeartbeats 4000000 in
set_option maxRecDepth 100000 in
theorem c_X3_use_st (l : Launch) (G : ZG) (o pr q : Nat) (a b d : Nat → Nat) (pa : Nat → Nat → Nat) (S P L : Nat → Nat) (t v u : Mem) (pv : Nat → Mem) (x z : Int32) (hst : CI l G yX1_standing wsX1_standing (zRm 1 21) [.ref (a 0), .int x] (rollW G a v) z (rollW G a v)) (hz : z < 0) : CI l G yX3_use wsX3_use (zRm 3 83) [.ref o, .int x] (headW G o pr (prF pa) a b q S ++ (playW G q (d 0) P ++ (textW G b t L ++ (rollW G a v ++ (rollW G d u ++ pastW G pa pv))))) ((-1000005)) (headW G o pr (prF pa) a b q S ++ (playW G q (d 0) P ++ (textW G b t L ++ (rollW G a v ++ (rollW G d u ++ pastW G pa pv))))) := by
  refine CI.ent (cc := cX3_use) (maxL := 3) (ty := .int) (own := RX3) (by decide) rfl rfl (Nat.le_of_ble_eq_true rfl) ?_
  intro p ee s m args below meth c A ls F hr hlk hKK hP hD hA hS hl
  obtain ⟨hx, hb, hml, hown, hts⟩ := id F
  have hl : lv_has ls 3 [(0, .ref o), (1, .int x)] := hl
  have ct_56 := hts (.constant RX3 56 (-1000005)) (by decide +kernel)
  have fl_10 := hts (.fieldLink RX3 10 "NameRolls" "now" "LNameRolls$Roll;") (by decide +kernel)
  have hinX3 : ∀ w ∈ wsX30, w ∈ wsX3_use := by decide +kernel
  refine lv_aload_n hx hb dX3_use_0 rfl (lv_at hl 0 rfl) ?_
  refine va_get (D := G.1) (ci := 3) (v := .ref (a 0)) (C := RX3) (T := TX3) (N := 5) hx hb hts hinX3 hown hKK.1 hP 0 rfl rfl 0 (by decide) fl_10 (fun _ h9 => h9) rfl dX3_use_1 ?_
  refine lv_iload_n hx hb dX3_use_4 rfl (lv_at hl 1 rfl) ?_
  refine z_callVI (As := [.int x]) (rest := []) (wr := (headW G o pr (prF pa) a b q S ++ (playW G q (d 0) P ++ (textW G b t L ++ (rollW G d u ++ pastW G pa pv))))) (C := RX1) F (hst) (cwV 1 hts gX3_use_X1_standing rfl rfl rfl (by decide +kernel) ⟨Nat.le_of_ble_eq_true rfl, Nat.le_of_ble_eq_true rfl⟩) hKK (z_recv hKK hP (q0 := 5) (ci := 1) rfl rfl) (z_perm (pn_a _ _ _ _ _) hP) (z_permD (pn_a _ _ _ _ _) hD) hS hA rfl hl.1 rfl (Nat.le_of_ble_eq_true rfl) ⟨Nat.zero_le _, Nat.zero_le _⟩ dX3_use_5 (fun H locs hP hD hS => ?_)
  have hP : va_P G.1 vwCl (headW G o pr (prF pa) a b q S ++ (playW G q (d 0) P ++ (textW G b t L ++ (rollW G a v ++ (rollW G d u ++ pastW G pa pv))))) H := (z_perm (pn_a _ _ _ _ _).symm hP)
  have hD : va_D A (headW G o pr (prF pa) a b q S ++ (playW G q (d 0) P ++ (textW G b t L ++ (rollW G a v ++ (rollW G d u ++ pastW G pa pv))))) := (z_permD (pn_a _ _ _ _ _).symm hD)
  refine lv_istore_n (lv' := [(2, .int z), (0, .ref o), (1, .int x)]) hx hb dX3_use_8 rfl hl (by decide) rfl (fun ls hl => ?_)
  refine lv_iload_n hx hb dX3_use_9 rfl (lv_at hl 0 rfl) ?_
  refine lv_if_ge (tgt := 16) hx hb dX3_use_10 (by decide) (fun c_1 => absurd hz (i32_nlt c_1)) (fun c_1 => ?_)
  refine z_ldc (v' := (-1000005)) hx hb hown ct_56 dX3_use_13 rfl ?_
  exact z_iret hx hb hr hlk hP hD hS dX3_use_15 rfl rfl

set_option maxHeartbeats 4000000 in
set_option maxRecDepth 100000 in
theorem c_X3_use_lim (l : Launch) (G : ZG) (o pr q : Nat) (a b d : Nat → Nat) (pa : Nat → Nat → Nat) (S P L : Nat → Nat) (t v u : Mem) (pv : Nat → Mem) (x : Int32) (n : Nat) (hst : CI l G yX1_standing wsX1_standing (zRm 1 21) [.ref (a 0), .int x] (rollW G a v) (nI n) (rollW G a v)) (hn : n < 40) (hcal : CI l G yX1_hasRoomForUser wsX1_hasRoomForUser (zRm 1 21) [.ref (a 0), .int (nI n)] (rollW G a v) (bI false) (rollW G a v)) : CI l G yX3_use wsX3_use (zRm 3 83) [.ref o, .int x] (headW G o pr (prF pa) a b q S ++ (playW G q (d 0) P ++ (textW G b t L ++ (rollW G a v ++ (rollW G d u ++ pastW G pa pv))))) ((-1000003)) (headW G o pr (prF pa) a b q S ++ (playW G q (d 0) P ++ (textW G b t L ++ (rollW G a v ++ (rollW G d u ++ pastW G pa pv))))) := by
  refine CI.ent (cc := cX3_use) (maxL := 3) (ty := .int) (own := RX3) (by decide) rfl rfl (Nat.le_of_ble_eq_true rfl) ?_
  intro p ee s m args below meth c A ls F hr hlk hKK hP hD hA hS hl
  obtain ⟨hx, hb, hml, hown, hts⟩ := id F
  have hl : lv_has ls 3 [(0, .ref o), (1, .int x)] := hl
  have ct_42 := hts (.constant RX3 42 (-1000003)) (by decide +kernel)
  have fl_10 := hts (.fieldLink RX3 10 "NameRolls" "now" "LNameRolls$Roll;") (by decide +kernel)
  have hinX3 : ∀ w ∈ wsX30, w ∈ wsX3_use := by decide +kernel
  refine lv_aload_n hx hb dX3_use_0 rfl (lv_at hl 0 rfl) ?_
  refine va_get (D := G.1) (ci := 3) (v := .ref (a 0)) (C := RX3) (T := TX3) (N := 5) hx hb hts hinX3 hown hKK.1 hP 0 rfl rfl 0 (by decide) fl_10 (fun _ h9 => h9) rfl dX3_use_1 ?_
  refine lv_iload_n hx hb dX3_use_4 rfl (lv_at hl 1 rfl) ?_
  refine z_callVI (As := [.int x]) (rest := []) (wr := (headW G o pr (prF pa) a b q S ++ (playW G q (d 0) P ++ (textW G b t L ++ (rollW G d u ++ pastW G pa pv))))) (C := RX1) F (hst) (cwV 1 hts gX3_use_X1_standing rfl rfl rfl (by decide +kernel) ⟨Nat.le_of_ble_eq_true rfl, Nat.le_of_ble_eq_true rfl⟩) hKK (z_recv hKK hP (q0 := 5) (ci := 1) rfl rfl) (z_perm (pn_a _ _ _ _ _) hP) (z_permD (pn_a _ _ _ _ _) hD) hS hA rfl hl.1 rfl (Nat.le_of_ble_eq_true rfl) ⟨Nat.zero_le _, Nat.zero_le _⟩ dX3_use_5 (fun H locs hP hD hS => ?_)
  have hP : va_P G.1 vwCl (headW G o pr (prF pa) a b q S ++ (playW G q (d 0) P ++ (textW G b t L ++ (rollW G a v ++ (rollW G d u ++ pastW G pa pv))))) H := (z_perm (pn_a _ _ _ _ _).symm hP)
  have hD : va_D A (headW G o pr (prF pa) a b q S ++ (playW G q (d 0) P ++ (textW G b t L ++ (rollW G a v ++ (rollW G d u ++ pastW G pa pv))))) := (z_permD (pn_a _ _ _ _ _).symm hD)
  refine lv_istore_n (lv' := [(2, .int (nI n)), (0, .ref o), (1, .int x)]) hx hb dX3_use_8 rfl hl (by decide) rfl (fun ls hl => ?_)
  refine lv_iload_n hx hb dX3_use_9 rfl (lv_at hl 0 rfl) ?_
  refine z_ifNge (tgt := 16) hx hb dX3_use_10 (by decide) (by omega) (fun c_1 => ?_) (fun c_1 => absurd c_1 (Nat.not_lt_zero _))
  refine lv_aload_n hx hb dX3_use_16 rfl (lv_at hl 1 rfl) ?_
  refine va_get (D := G.1) (ci := 3) (v := .ref (a 0)) (C := RX3) (T := TX3) (N := 5) hx hb hts hinX3 hown hKK.1 hP 0 rfl rfl 0 (by decide) fl_10 (fun _ h9 => h9) rfl dX3_use_17 ?_
  refine lv_iload_n hx hb dX3_use_20 rfl (lv_at hl 0 rfl) ?_
  refine z_callVI (As := [.int (nI n)]) (rest := []) (wr := (headW G o pr (prF pa) a b q S ++ (playW G q (d 0) P ++ (textW G b t L ++ (rollW G d u ++ pastW G pa pv))))) (C := RX1) F (hcal) (cwV 1 hts gX3_use_X1_hasRoomForUser rfl rfl rfl (by decide +kernel) ⟨Nat.le_of_ble_eq_true rfl, Nat.le_of_ble_eq_true rfl⟩) hKK (z_recv hKK hP (q0 := 5) (ci := 1) rfl rfl) (z_perm (pn_a _ _ _ _ _) hP) (z_permD (pn_a _ _ _ _ _) hD) hS hA rfl hl.1 rfl (Nat.le_of_ble_eq_true rfl) ⟨Nat.zero_le _, Nat.zero_le _⟩ dX3_use_21 (fun H locs hP hD hS => ?_)
  have hP : va_P G.1 vwCl (headW G o pr (prF pa) a b q S ++ (playW G q (d 0) P ++ (textW G b t L ++ (rollW G a v ++ (rollW G d u ++ pastW G pa pv))))) H := (z_perm (pn_a _ _ _ _ _).symm hP)
  have hD : va_D A (headW G o pr (prF pa) a b q S ++ (playW G q (d 0) P ++ (textW G b t L ++ (rollW G a v ++ (rollW G d u ++ pastW G pa pv))))) := (z_permD (pn_a _ _ _ _ _).symm hD)
  refine z_ifBne (tgt := 30) hx hb dX3_use_24 (by decide) (fun c_2 => absurd c_2 (by decide)) (fun c_2 => ?_)
  refine z_ldc (v' := (-1000003)) hx hb hown ct_42 dX3_use_27 rfl ?_
  exact z_iret hx hb hr hlk hP hD hS dX3_use_29 rfl rfl

set_option maxHeartbeats 4000000 in
set_option maxRecDepth 100000 in
theorem c_X3_use_ok (l : Launch) (G : ZG) (o pr q : Nat) (a b d : Nat → Nat) (pa : Nat → Nat → Nat) (S P L : Nat → Nat) (t v u : Mem) (pv : Nat → Mem) (x : Int32) (n : Nat) (w : Mem) (r0 : Int32) (hst : CI l G yX1_standing wsX1_standing (zRm 1 21) [.ref (a 0), .int x] (rollW G a v) (nI n) (rollW G a v)) (hn : n < 40) (h4 : S 0 ≤ 4) (hcal : CI l G yX1_hasRoomForUser wsX1_hasRoomForUser (zRm 1 21) [.ref (a 0), .int (nI n)] (rollW G a v) (bI true) (rollW G a v)) (hdo : CI l G yX1_addUser wsX1_addUser (zRm 1 21) [.ref (a 0), .int (nI n)] (rollW G a v) r0 (rollW G a w)) : CI l G yX3_use wsX3_use (zRm 3 83) [.ref o, .int x] (headW G o pr (prF pa) a b q S ++ (playW G q (d 0) P ++ (textW G b t L ++ (rollW G a v ++ (rollW G d u ++ pastW G pa pv))))) r0 (headW G o pr (prF (rcA (S 0) pa)) a b q (nup S 0 (svN (S 0))) ++ (playW G q (d 0) P ++ (textW G b t L ++ (rollW G a w ++ (rollW G d u ++ pastW G (rcA (S 0) pa) (rcV (S 0) pv v)))))) := by
  refine CI.ent (cc := cX3_use) (maxL := 3) (ty := .int) (own := RX3) (by decide) rfl rfl (Nat.le_of_ble_eq_true rfl) ?_
  intro p ee s m args below meth c A ls F hr hlk hKK hP hD hA hS hl
  obtain ⟨hx, hb, hml, hown, hts⟩ := id F
  have hl : lv_has ls 3 [(0, .ref o), (1, .int x)] := hl
  have fl_10 := hts (.fieldLink RX3 10 "NameRolls" "now" "LNameRolls$Roll;") (by decide +kernel)
  have hinX3 : ∀ w ∈ wsX30, w ∈ wsX3_use := by decide +kernel
  refine lv_aload_n hx hb dX3_use_0 rfl (lv_at hl 0 rfl) ?_
  refine va_get (D := G.1) (ci := 3) (v := .ref (a 0)) (C := RX3) (T := TX3) (N := 5) hx hb hts hinX3 hown hKK.1 hP 0 rfl rfl 0 (by decide) fl_10 (fun _ h9 => h9) rfl dX3_use_1 ?_
  refine lv_iload_n hx hb dX3_use_4 rfl (lv_at hl 1 rfl) ?_
  refine z_callVI (As := [.int x]) (rest := []) (wr := (headW G o pr (prF pa) a b q S ++ (playW G q (d 0) P ++ (textW G b t L ++ (rollW G d u ++ pastW G pa pv))))) (C := RX1) F (hst) (cwV 1 hts gX3_use_X1_standing rfl rfl rfl (by decide +kernel) ⟨Nat.le_of_ble_eq_true rfl, Nat.le_of_ble_eq_true rfl⟩) hKK (z_recv hKK hP (q0 := 5) (ci := 1) rfl rfl) (z_perm (pn_a _ _ _ _ _) hP) (z_permD (pn_a _ _ _ _ _) hD) hS hA rfl hl.1 rfl (Nat.le_of_ble_eq_true rfl) ⟨Nat.zero_le _, Nat.zero_le _⟩ dX3_use_5 (fun H locs hP hD hS => ?_)
  have hP : va_P G.1 vwCl (headW G o pr (prF pa) a b q S ++ (playW G q (d 0) P ++ (textW G b t L ++ (rollW G a v ++ (rollW G d u ++ pastW G pa pv))))) H := (z_perm (pn_a _ _ _ _ _).symm hP)
  have hD : va_D A (headW G o pr (prF pa) a b q S ++ (playW G q (d 0) P ++ (textW G b t L ++ (rollW G a v ++ (rollW G d u ++ pastW G pa pv))))) := (z_permD (pn_a _ _ _ _ _).symm hD)
  refine lv_istore_n (lv' := [(2, .int (nI n)), (0, .ref o), (1, .int x)]) hx hb dX3_use_8 rfl hl (by decide) rfl (fun ls hl => ?_)
  refine lv_iload_n hx hb dX3_use_9 rfl (lv_at hl 0 rfl) ?_
  refine z_ifNge (tgt := 16) hx hb dX3_use_10 (by decide) (by omega) (fun c_1 => ?_) (fun c_1 => absurd c_1 (Nat.not_lt_zero _))
  refine lv_aload_n hx hb dX3_use_16 rfl (lv_at hl 1 rfl) ?_
  refine va_get (D := G.1) (ci := 3) (v := .ref (a 0)) (C := RX3) (T := TX3) (N := 5) hx hb hts hinX3 hown hKK.1 hP 0 rfl rfl 0 (by decide) fl_10 (fun _ h9 => h9) rfl dX3_use_17 ?_
  refine lv_iload_n hx hb dX3_use_20 rfl (lv_at hl 0 rfl) ?_
  refine z_callVI (As := [.int (nI n)]) (rest := []) (wr := (headW G o pr (prF pa) a b q S ++ (playW G q (d 0) P ++ (textW G b t L ++ (rollW G d u ++ pastW G pa pv))))) (C := RX1) F (hcal) (cwV 1 hts gX3_use_X1_hasRoomForUser rfl rfl rfl (by decide +kernel) ⟨Nat.le_of_ble_eq_true rfl, Nat.le_of_ble_eq_true rfl⟩) hKK (z_recv hKK hP (q0 := 5) (ci := 1) rfl rfl) (z_perm (pn_a _ _ _ _ _) hP) (z_permD (pn_a _ _ _ _ _) hD) hS hA rfl hl.1 rfl (Nat.le_of_ble_eq_true rfl) ⟨Nat.zero_le _, Nat.zero_le _⟩ dX3_use_21 (fun H locs hP hD hS => ?_)
  have hP : va_P G.1 vwCl (headW G o pr (prF pa) a b q S ++ (playW G q (d 0) P ++ (textW G b t L ++ (rollW G a v ++ (rollW G d u ++ pastW G pa pv))))) H := (z_perm (pn_a _ _ _ _ _).symm hP)
  have hD : va_D A (headW G o pr (prF pa) a b q S ++ (playW G q (d 0) P ++ (textW G b t L ++ (rollW G a v ++ (rollW G d u ++ pastW G pa pv))))) := (z_permD (pn_a _ _ _ _ _).symm hD)
  refine z_ifBne (tgt := 30) hx hb dX3_use_24 (by decide) (fun c_2 => ?_) (fun c_2 => absurd c_2 (by decide))
  refine lv_aload_n hx hb dX3_use_30 rfl (lv_at hl 1 rfl) ?_
  refine z_callVV (As := []) (rest := []) (wr := []) (C := RX3) F (c_X3_recordState l G o pr q a b d pa S P L t v u pv h4) (cwV 0 hts gX3_use_X3_recordState rfl rfl rfl (by decide +kernel) ⟨Nat.le_of_ble_eq_true rfl, Nat.le_of_ble_eq_true rfl⟩) hKK (z_recv hKK hP (q0 := 0) (ci := 3) rfl rfl) hP hD hS hA rfl hl.1 rfl (Nat.le_of_ble_eq_true rfl) ⟨Nat.zero_le _, Nat.zero_le _⟩ dX3_use_31 (fun H locs hP hD hS => ?_)
  have hP : va_P G.1 vwCl (headW G o pr (prF (rcA (S 0) pa)) a b q (nup S 0 (svN (S 0))) ++ (playW G q (d 0) P ++ (textW G b t L ++ (rollW G a v ++ (rollW G d u ++ pastW G (rcA (S 0) pa) (rcV (S 0) pv v)))))) H := hP
  have hD : va_D A (headW G o pr (prF (rcA (S 0) pa)) a b q (nup S 0 (svN (S 0))) ++ (playW G q (d 0) P ++ (textW G b t L ++ (rollW G a v ++ (rollW G d u ++ pastW G (rcA (S 0) pa) (rcV (S 0) pv v)))))) := hD
  refine lv_aload_n hx hb dX3_use_34 rfl (lv_at hl 1 rfl) ?_
  refine va_get (D := G.1) (ci := 3) (v := .ref (a 0)) (C := RX3) (T := TX3) (N := 5) hx hb hts hinX3 hown hKK.1 hP 0 rfl rfl 0 (by decide) fl_10 (fun _ h9 => h9) rfl dX3_use_35 ?_
  refine lv_iload_n hx hb dX3_use_38 rfl (lv_at hl 0 rfl) ?_
  refine z_callVI (As := [.int (nI n)]) (rest := []) (wr := (headW G o pr (prF (rcA (S 0) pa)) a b q (nup S 0 (svN (S 0))) ++ (playW G q (d 0) P ++ (textW G b t L ++ (rollW G d u ++ pastW G (rcA (S 0) pa) (rcV (S 0) pv v)))))) (C := RX1) F (hdo) (cwV 1 hts gX3_use_X1_addUser rfl rfl rfl (by decide +kernel) ⟨Nat.le_of_ble_eq_true rfl, Nat.le_of_ble_eq_true rfl⟩) hKK (z_recv hKK hP (q0 := 5) (ci := 1) rfl rfl) (z_perm (pn_a _ _ _ _ _) hP) (z_permD (pn_a _ _ _ _ _) hD) hS hA rfl hl.1 rfl (Nat.le_of_ble_eq_true rfl) ⟨Nat.zero_le _, Nat.zero_le _⟩ dX3_use_39 (fun H locs hP hD hS => ?_)
  have hP : va_P G.1 vwCl (headW G o pr (prF (rcA (S 0) pa)) a b q (nup S 0 (svN (S 0))) ++ (playW G q (d 0) P ++ (textW G b t L ++ (rollW G a w ++ (rollW G d u ++ pastW G (rcA (S 0) pa) (rcV (S 0) pv v)))))) H := (z_perm (pn_a _ _ _ _ _).symm hP)
  have hD : va_D A (headW G o pr (prF (rcA (S 0) pa)) a b q (nup S 0 (svN (S 0))) ++ (playW G q (d 0) P ++ (textW G b t L ++ (rollW G a w ++ (rollW G d u ++ pastW G (rcA (S 0) pa) (rcV (S 0) pv v)))))) := (z_permD (pn_a _ _ _ _ _).symm hD)
  exact z_iret hx hb hr hlk hP hD hS dX3_use_42 rfl rfl

set_option maxHeartbeats 4000000 in
set_option maxRecDepth 100000 in
theorem c_X3_release_st (l : Launch) (G : ZG) (o pr q : Nat) (a b d : Nat → Nat) (pa : Nat → Nat → Nat) (S P L : Nat → Nat) (t v u : Mem) (pv : Nat → Mem) (x z : Int32) (hst : CI l G yX1_standing wsX1_standing (zRm 1 21) [.ref (a 0), .int x] (rollW G a v) z (rollW G a v)) (hz : z < 0) : CI l G yX3_release wsX3_release (zRm 3 83) [.ref o, .int x] (headW G o pr (prF pa) a b q S ++ (playW G q (d 0) P ++ (textW G b t L ++ (rollW G a v ++ (rollW G d u ++ pastW G pa pv))))) ((-1000005)) (headW G o pr (prF pa) a b q S ++ (playW G q (d 0) P ++ (textW G b t L ++ (rollW G a v ++ (rollW G d u ++ pastW G pa pv))))) := by
  refine CI.ent (cc := cX3_release) (maxL := 3) (ty := .int) (own := RX3) (by decide) rfl rfl (Nat.le_of_ble_eq_true rfl) ?_
  intro p ee s m args below meth c A ls F hr hlk hKK hP hD hA hS hl
  obtain ⟨hx, hb, hml, hown, hts⟩ := id F
  have hl : lv_has ls 3 [(0, .ref o), (1, .int x)] := hl
  have ct_56 := hts (.constant RX3 56 (-1000005)) (by decide +kernel)
  have fl_10 := hts (.fieldLink RX3 10 "NameRolls" "now" "LNameRolls$Roll;") (by decide +kernel)
  have hinX3 : ∀ w ∈ wsX30, w ∈ wsX3_release := by decide +kernel
  refine lv_aload_n hx hb dX3_release_0 rfl (lv_at hl 0 rfl) ?_
  refine va_get (D := G.1) (ci := 3) (v := .ref (a 0)) (C := RX3) (T := TX3) (N := 5) hx hb hts hinX3 hown hKK.1 hP 0 rfl rfl 0 (by decide) fl_10 (fun _ h9 => h9) rfl dX3_release_1 ?_
  refine lv_iload_n hx hb dX3_release_4 rfl (lv_at hl 1 rfl) ?_
  refine z_callVI (As := [.int x]) (rest := []) (wr := (headW G o pr (prF pa) a b q S ++ (playW G q (d 0) P ++ (textW G b t L ++ (rollW G d u ++ pastW G pa pv))))) (C := RX1) F (hst) (cwV 1 hts gX3_release_X1_standing rfl rfl rfl (by decide +kernel) ⟨Nat.le_of_ble_eq_true rfl, Nat.le_of_ble_eq_true rfl⟩) hKK (z_recv hKK hP (q0 := 5) (ci := 1) rfl rfl) (z_perm (pn_a _ _ _ _ _) hP) (z_permD (pn_a _ _ _ _ _) hD) hS hA rfl hl.1 rfl (Nat.le_of_ble_eq_true rfl) ⟨Nat.zero_le _, Nat.zero_le _⟩ dX3_release_5 (fun H locs hP hD hS => ?_)
  have hP : va_P G.1 vwCl (headW G o pr (prF pa) a b q S ++ (playW G q (d 0) P ++ (textW G b t L ++ (rollW G a v ++ (rollW G d u ++ pastW G pa pv))))) H := (z_perm (pn_a _ _ _ _ _).symm hP)
  have hD : va_D A (headW G o pr (prF pa) a b q S ++ (playW G q (d 0) P ++ (textW G b t L ++ (rollW G a v ++ (rollW G d u ++ pastW G pa pv))))) := (z_permD (pn_a _ _ _ _ _).symm hD)
  refine lv_istore_n (lv' := [(2, .int z), (0, .ref o), (1, .int x)]) hx hb dX3_release_8 rfl hl (by decide) rfl (fun ls hl => ?_)
  refine lv_iload_n hx hb dX3_release_9 rfl (lv_at hl 0 rfl) ?_
  refine lv_if_ge (tgt := 16) hx hb dX3_release_10 (by decide) (fun c_1 => absurd hz (i32_nlt c_1)) (fun c_1 => ?_)
  refine z_ldc (v' := (-1000005)) hx hb hown ct_56 dX3_release_13 rfl ?_
  exact z_iret hx hb hr hlk hP hD hS dX3_release_15 rfl rfl

set_option maxHeartbeats 4000000 in
set_option maxRecDepth 100000 in
theorem c_X3_release_lim (l : Launch) (G : ZG) (o pr q : Nat) (a b d : Nat → Nat) (pa : Nat → Nat → Nat) (S P L : Nat → Nat) (t v u : Mem) (pv : Nat → Mem) (x : Int32) (n : Nat) (hst : CI l G yX1_standing wsX1_standing (zRm 1 21) [.ref (a 0), .int x] (rollW G a v) (nI n) (rollW G a v)) (hn : n < 40) (hcal : CI l G yX1_hasFreeUser wsX1_hasFreeUser (zRm 1 23) [.ref (a 0), .int (nI n)] (rollW G a v) (bI false) (rollW G a v)) : CI l G yX3_release wsX3_release (zRm 3 83) [.ref o, .int x] (headW G o pr (prF pa) a b q S ++ (playW G q (d 0) P ++ (textW G b t L ++ (rollW G a v ++ (rollW G d u ++ pastW G pa pv))))) ((-1000002)) (headW G o pr (prF pa) a b q S ++ (playW G q (d 0) P ++ (textW G b t L ++ (rollW G a v ++ (rollW G d u ++ pastW G pa pv))))) := by
  refine CI.ent (cc := cX3_release) (maxL := 3) (ty := .int) (own := RX3) (by decide) rfl rfl (Nat.le_of_ble_eq_true rfl) ?_
  intro p ee s m args below meth c A ls F hr hlk hKK hP hD hA hS hl
  obtain ⟨hx, hb, hml, hown, hts⟩ := id F
  have hl : lv_has ls 3 [(0, .ref o), (1, .int x)] := hl
  have ct_66 := hts (.constant RX3 66 (-1000002)) (by decide +kernel)
  have fl_10 := hts (.fieldLink RX3 10 "NameRolls" "now" "LNameRolls$Roll;") (by decide +kernel)
  have hinX3 : ∀ w ∈ wsX30, w ∈ wsX3_release := by decide +kernel
  refine lv_aload_n hx hb dX3_release_0 rfl (lv_at hl 0 rfl) ?_
  refine va_get (D := G.1) (ci := 3) (v := .ref (a 0)) (C := RX3) (T := TX3) (N := 5) hx hb hts hinX3 hown hKK.1 hP 0 rfl rfl 0 (by decide) fl_10 (fun _ h9 => h9) rfl dX3_release_1 ?_
  refine lv_iload_n hx hb dX3_release_4 rfl (lv_at hl 1 rfl) ?_
  refine z_callVI (As := [.int x]) (rest := []) (wr := (headW G o pr (prF pa) a b q S ++ (playW G q (d 0) P ++ (textW G b t L ++ (rollW G d u ++ pastW G pa pv))))) (C := RX1) F (hst) (cwV 1 hts gX3_release_X1_standing rfl rfl rfl (by decide +kernel) ⟨Nat.le_of_ble_eq_true rfl, Nat.le_of_ble_eq_true rfl⟩) hKK (z_recv hKK hP (q0 := 5) (ci := 1) rfl rfl) (z_perm (pn_a _ _ _ _ _) hP) (z_permD (pn_a _ _ _ _ _) hD) hS hA rfl hl.1 rfl (Nat.le_of_ble_eq_true rfl) ⟨Nat.zero_le _, Nat.zero_le _⟩ dX3_release_5 (fun H locs hP hD hS => ?_)
  have hP : va_P G.1 vwCl (headW G o pr (prF pa) a b q S ++ (playW G q (d 0) P ++ (textW G b t L ++ (rollW G a v ++ (rollW G d u ++ pastW G pa pv))))) H := (z_perm (pn_a _ _ _ _ _).symm hP)
  have hD : va_D A (headW G o pr (prF pa) a b q S ++ (playW G q (d 0) P ++ (textW G b t L ++ (rollW G a v ++ (rollW G d u ++ pastW G pa pv))))) := (z_permD (pn_a _ _ _ _ _).symm hD)
  refine lv_istore_n (lv' := [(2, .int (nI n)), (0, .ref o), (1, .int x)]) hx hb dX3_release_8 rfl hl (by decide) rfl (fun ls hl => ?_)
  refine lv_iload_n hx hb dX3_release_9 rfl (lv_at hl 0 rfl) ?_
  refine z_ifNge (tgt := 16) hx hb dX3_release_10 (by decide) (by omega) (fun c_1 => ?_) (fun c_1 => absurd c_1 (Nat.not_lt_zero _))
  refine lv_aload_n hx hb dX3_release_16 rfl (lv_at hl 1 rfl) ?_
  refine va_get (D := G.1) (ci := 3) (v := .ref (a 0)) (C := RX3) (T := TX3) (N := 5) hx hb hts hinX3 hown hKK.1 hP 0 rfl rfl 0 (by decide) fl_10 (fun _ h9 => h9) rfl dX3_release_17 ?_
  refine lv_iload_n hx hb dX3_release_20 rfl (lv_at hl 0 rfl) ?_
  refine z_callVI (As := [.int (nI n)]) (rest := []) (wr := (headW G o pr (prF pa) a b q S ++ (playW G q (d 0) P ++ (textW G b t L ++ (rollW G d u ++ pastW G pa pv))))) (C := RX1) F (hcal) (cwV 1 hts gX3_release_X1_hasFreeUser rfl rfl rfl (by decide +kernel) ⟨Nat.le_of_ble_eq_true rfl, Nat.le_of_ble_eq_true rfl⟩) hKK (z_recv hKK hP (q0 := 5) (ci := 1) rfl rfl) (z_perm (pn_a _ _ _ _ _) hP) (z_permD (pn_a _ _ _ _ _) hD) hS hA rfl hl.1 rfl (Nat.le_of_ble_eq_true rfl) ⟨Nat.zero_le _, Nat.zero_le _⟩ dX3_release_21 (fun H locs hP hD hS => ?_)
  have hP : va_P G.1 vwCl (headW G o pr (prF pa) a b q S ++ (playW G q (d 0) P ++ (textW G b t L ++ (rollW G a v ++ (rollW G d u ++ pastW G pa pv))))) H := (z_perm (pn_a _ _ _ _ _).symm hP)
  have hD : va_D A (headW G o pr (prF pa) a b q S ++ (playW G q (d 0) P ++ (textW G b t L ++ (rollW G a v ++ (rollW G d u ++ pastW G pa pv))))) := (z_permD (pn_a _ _ _ _ _).symm hD)
  refine z_ifBne (tgt := 30) hx hb dX3_release_24 (by decide) (fun c_2 => absurd c_2 (by decide)) (fun c_2 => ?_)
  refine z_ldc (v' := (-1000002)) hx hb hown ct_66 dX3_release_27 rfl ?_
  exact z_iret hx hb hr hlk hP hD hS dX3_release_29 rfl rfl

set_option maxHeartbeats 4000000 in
set_option maxRecDepth 100000 in
theorem c_X3_release_ok (l : Launch) (G : ZG) (o pr q : Nat) (a b d : Nat → Nat) (pa : Nat → Nat → Nat) (S P L : Nat → Nat) (t v u : Mem) (pv : Nat → Mem) (x : Int32) (n : Nat) (w : Mem) (r0 : Int32) (hst : CI l G yX1_standing wsX1_standing (zRm 1 21) [.ref (a 0), .int x] (rollW G a v) (nI n) (rollW G a v)) (hn : n < 40) (h4 : S 0 ≤ 4) (hcal : CI l G yX1_hasFreeUser wsX1_hasFreeUser (zRm 1 23) [.ref (a 0), .int (nI n)] (rollW G a v) (bI true) (rollW G a v)) (hdo : CI l G yX1_giveBack wsX1_giveBack (zRm 1 21) [.ref (a 0), .int (nI n)] (rollW G a v) r0 (rollW G a w)) : CI l G yX3_release wsX3_release (zRm 3 83) [.ref o, .int x] (headW G o pr (prF pa) a b q S ++ (playW G q (d 0) P ++ (textW G b t L ++ (rollW G a v ++ (rollW G d u ++ pastW G pa pv))))) r0 (headW G o pr (prF (rcA (S 0) pa)) a b q (nup S 0 (svN (S 0))) ++ (playW G q (d 0) P ++ (textW G b t L ++ (rollW G a w ++ (rollW G d u ++ pastW G (rcA (S 0) pa) (rcV (S 0) pv v)))))) := by
  refine CI.ent (cc := cX3_release) (maxL := 3) (ty := .int) (own := RX3) (by decide) rfl rfl (Nat.le_of_ble_eq_true rfl) ?_
  intro p ee s m args below meth c A ls F hr hlk hKK hP hD hA hS hl
  obtain ⟨hx, hb, hml, hown, hts⟩ := id F
  have hl : lv_has ls 3 [(0, .ref o), (1, .int x)] := hl
  have fl_10 := hts (.fieldLink RX3 10 "NameRolls" "now" "LNameRolls$Roll;") (by decide +kernel)
  have hinX3 : ∀ w ∈ wsX30, w ∈ wsX3_release := by decide +kernel
  refine lv_aload_n hx hb dX3_release_0 rfl (lv_at hl 0 rfl) ?_
  refine va_get (D := G.1) (ci := 3) (v := .ref (a 0)) (C := RX3) (T := TX3) (N := 5) hx hb hts hinX3 hown hKK.1 hP 0 rfl rfl 0 (by decide) fl_10 (fun _ h9 => h9) rfl dX3_release_1 ?_
  refine lv_iload_n hx hb dX3_release_4 rfl (lv_at hl 1 rfl) ?_
  refine z_callVI (As := [.int x]) (rest := []) (wr := (headW G o pr (prF pa) a b q S ++ (playW G q (d 0) P ++ (textW G b t L ++ (rollW G d u ++ pastW G pa pv))))) (C := RX1) F (hst) (cwV 1 hts gX3_release_X1_standing rfl rfl rfl (by decide +kernel) ⟨Nat.le_of_ble_eq_true rfl, Nat.le_of_ble_eq_true rfl⟩) hKK (z_recv hKK hP (q0 := 5) (ci := 1) rfl rfl) (z_perm (pn_a _ _ _ _ _) hP) (z_permD (pn_a _ _ _ _ _) hD) hS hA rfl hl.1 rfl (Nat.le_of_ble_eq_true rfl) ⟨Nat.zero_le _, Nat.zero_le _⟩ dX3_release_5 (fun H locs hP hD hS => ?_)
  have hP : va_P G.1 vwCl (headW G o pr (prF pa) a b q S ++ (playW G q (d 0) P ++ (textW G b t L ++ (rollW G a v ++ (rollW G d u ++ pastW G pa pv))))) H := (z_perm (pn_a _ _ _ _ _).symm hP)
  have hD : va_D A (headW G o pr (prF pa) a b q S ++ (playW G q (d 0) P ++ (textW G b t L ++ (rollW G a v ++ (rollW G d u ++ pastW G pa pv))))) := (z_permD (pn_a _ _ _ _ _).symm hD)
  refine lv_istore_n (lv' := [(2, .int (nI n)), (0, .ref o), (1, .int x)]) hx hb dX3_release_8 rfl hl (by decide) rfl (fun ls hl => ?_)
  refine lv_iload_n hx hb dX3_release_9 rfl (lv_at hl 0 rfl) ?_
  refine z_ifNge (tgt := 16) hx hb dX3_release_10 (by decide) (by omega) (fun c_1 => ?_) (fun c_1 => absurd c_1 (Nat.not_lt_zero _))
  refine lv_aload_n hx hb dX3_release_16 rfl (lv_at hl 1 rfl) ?_
  refine va_get (D := G.1) (ci := 3) (v := .ref (a 0)) (C := RX3) (T := TX3) (N := 5) hx hb hts hinX3 hown hKK.1 hP 0 rfl rfl 0 (by decide) fl_10 (fun _ h9 => h9) rfl dX3_release_17 ?_
  refine lv_iload_n hx hb dX3_release_20 rfl (lv_at hl 0 rfl) ?_
  refine z_callVI (As := [.int (nI n)]) (rest := []) (wr := (headW G o pr (prF pa) a b q S ++ (playW G q (d 0) P ++ (textW G b t L ++ (rollW G d u ++ pastW G pa pv))))) (C := RX1) F (hcal) (cwV 1 hts gX3_release_X1_hasFreeUser rfl rfl rfl (by decide +kernel) ⟨Nat.le_of_ble_eq_true rfl, Nat.le_of_ble_eq_true rfl⟩) hKK (z_recv hKK hP (q0 := 5) (ci := 1) rfl rfl) (z_perm (pn_a _ _ _ _ _) hP) (z_permD (pn_a _ _ _ _ _) hD) hS hA rfl hl.1 rfl (Nat.le_of_ble_eq_true rfl) ⟨Nat.zero_le _, Nat.zero_le _⟩ dX3_release_21 (fun H locs hP hD hS => ?_)
  have hP : va_P G.1 vwCl (headW G o pr (prF pa) a b q S ++ (playW G q (d 0) P ++ (textW G b t L ++ (rollW G a v ++ (rollW G d u ++ pastW G pa pv))))) H := (z_perm (pn_a _ _ _ _ _).symm hP)
  have hD : va_D A (headW G o pr (prF pa) a b q S ++ (playW G q (d 0) P ++ (textW G b t L ++ (rollW G a v ++ (rollW G d u ++ pastW G pa pv))))) := (z_permD (pn_a _ _ _ _ _).symm hD)
  refine z_ifBne (tgt := 30) hx hb dX3_release_24 (by decide) (fun c_2 => ?_) (fun c_2 => absurd c_2 (by decide))
  refine lv_aload_n hx hb dX3_release_30 rfl (lv_at hl 1 rfl) ?_
  refine z_callVV (As := []) (rest := []) (wr := []) (C := RX3) F (c_X3_recordState l G o pr q a b d pa S P L t v u pv h4) (cwV 0 hts gX3_release_X3_recordState rfl rfl rfl (by decide +kernel) ⟨Nat.le_of_ble_eq_true rfl, Nat.le_of_ble_eq_true rfl⟩) hKK (z_recv hKK hP (q0 := 0) (ci := 3) rfl rfl) hP hD hS hA rfl hl.1 rfl (Nat.le_of_ble_eq_true rfl) ⟨Nat.zero_le _, Nat.zero_le _⟩ dX3_release_31 (fun H locs hP hD hS => ?_)
  have hP : va_P G.1 vwCl (headW G o pr (prF (rcA (S 0) pa)) a b q (nup S 0 (svN (S 0))) ++ (playW G q (d 0) P ++ (textW G b t L ++ (rollW G a v ++ (rollW G d u ++ pastW G (rcA (S 0) pa) (rcV (S 0) pv v)))))) H := hP
  have hD : va_D A (headW G o pr (prF (rcA (S 0) pa)) a b q (nup S 0 (svN (S 0))) ++ (playW G q (d 0) P ++ (textW G b t L ++ (rollW G a v ++ (rollW G d u ++ pastW G (rcA (S 0) pa) (rcV (S 0) pv v)))))) := hD
  refine lv_aload_n hx hb dX3_release_34 rfl (lv_at hl 1 rfl) ?_
  refine va_get (D := G.1) (ci := 3) (v := .ref (a 0)) (C := RX3) (T := TX3) (N := 5) hx hb hts hinX3 hown hKK.1 hP 0 rfl rfl 0 (by decide) fl_10 (fun _ h9 => h9) rfl dX3_release_35 ?_
  refine lv_iload_n hx hb dX3_release_38 rfl (lv_at hl 0 rfl) ?_
  refine z_callVI (As := [.int (nI n)]) (rest := []) (wr := (headW G o pr (prF (rcA (S 0) pa)) a b q (nup S 0 (svN (S 0))) ++ (playW G q (d 0) P ++ (textW G b t L ++ (rollW G d u ++ pastW G (rcA (S 0) pa) (rcV (S 0) pv v)))))) (C := RX1) F (hdo) (cwV 1 hts gX3_release_X1_giveBack rfl rfl rfl (by decide +kernel) ⟨Nat.le_of_ble_eq_true rfl, Nat.le_of_ble_eq_true rfl⟩) hKK (z_recv hKK hP (q0 := 5) (ci := 1) rfl rfl) (z_perm (pn_a _ _ _ _ _) hP) (z_permD (pn_a _ _ _ _ _) hD) hS hA rfl hl.1 rfl (Nat.le_of_ble_eq_true rfl) ⟨Nat.zero_le _, Nat.zero_le _⟩ dX3_release_39 (fun H locs hP hD hS => ?_)
  have hP : va_P G.1 vwCl (headW G o pr (prF (rcA (S 0) pa)) a b q (nup S 0 (svN (S 0))) ++ (playW G q (d 0) P ++ (textW G b t L ++ (rollW G a w ++ (rollW G d u ++ pastW G (rcA (S 0) pa) (rcV (S 0) pv v)))))) H := (z_perm (pn_a _ _ _ _ _).symm hP)
  have hD : va_D A (headW G o pr (prF (rcA (S 0) pa)) a b q (nup S 0 (svN (S 0))) ++ (playW G q (d 0) P ++ (textW G b t L ++ (rollW G a w ++ (rollW G d u ++ pastW G (rcA (S 0) pa) (rcV (S 0) pv v)))))) := (z_permD (pn_a _ _ _ _ _).symm hD)
  exact z_iret hx hb hr hlk hP hD hS dX3_release_42 rfl rfl

set_option maxHeartbeats 4000000 in
set_option maxRecDepth 100000 in
theorem c_X3_follow_st (l : Launch) (G : ZG) (o pr q : Nat) (a b d : Nat → Nat) (pa : Nat → Nat → Nat) (S P L : Nat → Nat) (t v u : Mem) (pv : Nat → Mem) (x z : Int32) (hst : CI l G yX1_standing wsX1_standing (zRm 1 21) [.ref (a 0), .int x] (rollW G a v) z (rollW G a v)) (hz : z < 0) : CI l G yX3_follow wsX3_follow (zRm 2 48) [.ref o, .int x] (headW G o pr (prF pa) a b q S ++ (playW G q (d 0) P ++ (textW G b t L ++ (rollW G a v ++ (rollW G d u ++ pastW G pa pv))))) ((-1000005)) (headW G o pr (prF pa) a b q S ++ (playW G q (d 0) P ++ (textW G b t L ++ (rollW G a v ++ (rollW G d u ++ pastW G pa pv))))) := by
  refine CI.ent (cc := cX3_follow) (maxL := 3) (ty := .int) (own := RX3) (by decide) rfl rfl (Nat.le_of_ble_eq_true rfl) ?_
  intro p ee s m args below meth c A ls F hr hlk hKK hP hD hA hS hl
  obtain ⟨hx, hb, hml, hown, hts⟩ := id F
  have hl : lv_has ls 3 [(0, .ref o), (1, .int x)] := hl
  have ct_56 := hts (.constant RX3 56 (-1000005)) (by decide +kernel)
  have fl_10 := hts (.fieldLink RX3 10 "NameRolls" "now" "LNameRolls$Roll;") (by decide +kernel)
  have hinX3 : ∀ w ∈ wsX30, w ∈ wsX3_follow := by decide +kernel
  refine lv_aload_n hx hb dX3_follow_0 rfl (lv_at hl 0 rfl) ?_
  refine va_get (D := G.1) (ci := 3) (v := .ref (a 0)) (C := RX3) (T := TX3) (N := 5) hx hb hts hinX3 hown hKK.1 hP 0 rfl rfl 0 (by decide) fl_10 (fun _ h9 => h9) rfl dX3_follow_1 ?_
  refine lv_iload_n hx hb dX3_follow_4 rfl (lv_at hl 1 rfl) ?_
  refine z_callVI (As := [.int x]) (rest := []) (wr := (headW G o pr (prF pa) a b q S ++ (playW G q (d 0) P ++ (textW G b t L ++ (rollW G d u ++ pastW G pa pv))))) (C := RX1) F (hst) (cwV 1 hts gX3_follow_X1_standing rfl rfl rfl (by decide +kernel) ⟨Nat.le_of_ble_eq_true rfl, Nat.le_of_ble_eq_true rfl⟩) hKK (z_recv hKK hP (q0 := 5) (ci := 1) rfl rfl) (z_perm (pn_a _ _ _ _ _) hP) (z_permD (pn_a _ _ _ _ _) hD) hS hA rfl hl.1 rfl (Nat.le_of_ble_eq_true rfl) ⟨Nat.zero_le _, Nat.zero_le _⟩ dX3_follow_5 (fun H locs hP hD hS => ?_)
  have hP : va_P G.1 vwCl (headW G o pr (prF pa) a b q S ++ (playW G q (d 0) P ++ (textW G b t L ++ (rollW G a v ++ (rollW G d u ++ pastW G pa pv))))) H := (z_perm (pn_a _ _ _ _ _).symm hP)
  have hD : va_D A (headW G o pr (prF pa) a b q S ++ (playW G q (d 0) P ++ (textW G b t L ++ (rollW G a v ++ (rollW G d u ++ pastW G pa pv))))) := (z_permD (pn_a _ _ _ _ _).symm hD)
  refine lv_istore_n (lv' := [(2, .int z), (0, .ref o), (1, .int x)]) hx hb dX3_follow_8 rfl hl (by decide) rfl (fun ls hl => ?_)
  refine lv_iload_n hx hb dX3_follow_9 rfl (lv_at hl 0 rfl) ?_
  refine lv_if_ge (tgt := 18) hx hb dX3_follow_10 (by decide) (fun c_1 => absurd hz (i32_nlt c_1)) (fun c_1 => ?_)
  refine z_ldc (v' := (-1000005)) hx hb hown ct_56 dX3_follow_13 rfl ?_
  refine lv_goto (tgt := 26) hx hb dX3_follow_15 (by decide) ?_
  exact z_iret hx hb hr hlk hP hD hS dX3_follow_26 rfl rfl

set_option maxHeartbeats 4000000 in
set_option maxRecDepth 100000 in
theorem c_X3_follow_ok (l : Launch) (G : ZG) (o pr q : Nat) (a b d : Nat → Nat) (pa : Nat → Nat → Nat) (S P L : Nat → Nat) (t v u : Mem) (pv : Nat → Mem) (x : Int32) (n : Nat) (hst : CI l G yX1_standing wsX1_standing (zRm 1 21) [.ref (a 0), .int x] (rollW G a v) (nI n) (rollW G a v)) (hn : n < 40) : CI l G yX3_follow wsX3_follow (zRm 2 48) [.ref o, .int x] (headW G o pr (prF pa) a b q S ++ (playW G q (d 0) P ++ (textW G b t L ++ (rollW G a v ++ (rollW G d u ++ pastW G pa pv))))) (nI 1000000 * v 12 0 + nI 100 * v 2 n + nI n) (headW G o pr (prF pa) a b q S ++ (playW G q (d 0) P ++ (textW G b t L ++ (rollW G a v ++ (rollW G d u ++ pastW G pa pv))))) := by
  refine CI.ent (cc := cX3_follow) (maxL := 3) (ty := .int) (own := RX3) (by decide) rfl rfl (Nat.le_of_ble_eq_true rfl) ?_
  intro p ee s m args below meth c A ls F hr hlk hKK hP hD hA hS hl
  obtain ⟨hx, hb, hml, hown, hts⟩ := id F
  have hl : lv_has ls 3 [(0, .ref o), (1, .int x)] := hl
  have fl_10 := hts (.fieldLink RX3 10 "NameRolls" "now" "LNameRolls$Roll;") (by decide +kernel)
  have hinX3 : ∀ w ∈ wsX30, w ∈ wsX3_follow := by decide +kernel
  refine lv_aload_n hx hb dX3_follow_0 rfl (lv_at hl 0 rfl) ?_
  refine va_get (D := G.1) (ci := 3) (v := .ref (a 0)) (C := RX3) (T := TX3) (N := 5) hx hb hts hinX3 hown hKK.1 hP 0 rfl rfl 0 (by decide) fl_10 (fun _ h9 => h9) rfl dX3_follow_1 ?_
  refine lv_iload_n hx hb dX3_follow_4 rfl (lv_at hl 1 rfl) ?_
  refine z_callVI (As := [.int x]) (rest := []) (wr := (headW G o pr (prF pa) a b q S ++ (playW G q (d 0) P ++ (textW G b t L ++ (rollW G d u ++ pastW G pa pv))))) (C := RX1) F (hst) (cwV 1 hts gX3_follow_X1_standing rfl rfl rfl (by decide +kernel) ⟨Nat.le_of_ble_eq_true rfl, Nat.le_of_ble_eq_true rfl⟩) hKK (z_recv hKK hP (q0 := 5) (ci := 1) rfl rfl) (z_perm (pn_a _ _ _ _ _) hP) (z_permD (pn_a _ _ _ _ _) hD) hS hA rfl hl.1 rfl (Nat.le_of_ble_eq_true rfl) ⟨Nat.zero_le _, Nat.zero_le _⟩ dX3_follow_5 (fun H locs hP hD hS => ?_)
  have hP : va_P G.1 vwCl (headW G o pr (prF pa) a b q S ++ (playW G q (d 0) P ++ (textW G b t L ++ (rollW G a v ++ (rollW G d u ++ pastW G pa pv))))) H := (z_perm (pn_a _ _ _ _ _).symm hP)
  have hD : va_D A (headW G o pr (prF pa) a b q S ++ (playW G q (d 0) P ++ (textW G b t L ++ (rollW G a v ++ (rollW G d u ++ pastW G pa pv))))) := (z_permD (pn_a _ _ _ _ _).symm hD)
  refine lv_istore_n (lv' := [(2, .int (nI n)), (0, .ref o), (1, .int x)]) hx hb dX3_follow_8 rfl hl (by decide) rfl (fun ls hl => ?_)
  refine lv_iload_n hx hb dX3_follow_9 rfl (lv_at hl 0 rfl) ?_
  refine z_ifNge (tgt := 18) hx hb dX3_follow_10 (by decide) (by omega) (fun c_1 => ?_) (fun c_1 => absurd c_1 (Nat.not_lt_zero _))
  refine lv_aload_n hx hb dX3_follow_18 rfl (lv_at hl 1 rfl) ?_
  refine va_get (D := G.1) (ci := 3) (v := .ref (a 0)) (C := RX3) (T := TX3) (N := 5) hx hb hts hinX3 hown hKK.1 hP 0 rfl rfl 0 (by decide) fl_10 (fun _ h9 => h9) rfl dX3_follow_19 ?_
  refine lv_iload_n hx hb dX3_follow_22 rfl (lv_at hl 0 rfl) ?_
  refine z_callVI (As := [.int (nI n)]) (rest := []) (wr := (headW G o pr (prF pa) a b q S ++ (playW G q (d 0) P ++ (textW G b t L ++ (rollW G d u ++ pastW G pa pv))))) (C := RX1) F (c_X1_tagOf l G a v n hn) (cwV 1 hts gX3_follow_X1_tagOf rfl rfl rfl (by decide +kernel) ⟨Nat.le_of_ble_eq_true rfl, Nat.le_of_ble_eq_true rfl⟩) hKK (z_recv hKK hP (q0 := 5) (ci := 1) rfl rfl) (z_perm (pn_a _ _ _ _ _) hP) (z_permD (pn_a _ _ _ _ _) hD) hS hA rfl hl.1 rfl (Nat.le_of_ble_eq_true rfl) ⟨Nat.zero_le _, Nat.zero_le _⟩ dX3_follow_23 (fun H locs hP hD hS => ?_)
  have hP : va_P G.1 vwCl (headW G o pr (prF pa) a b q S ++ (playW G q (d 0) P ++ (textW G b t L ++ (rollW G a v ++ (rollW G d u ++ pastW G pa pv))))) H := (z_perm (pn_a _ _ _ _ _).symm hP)
  have hD : va_D A (headW G o pr (prF pa) a b q S ++ (playW G q (d 0) P ++ (textW G b t L ++ (rollW G a v ++ (rollW G d u ++ pastW G pa pv))))) := (z_permD (pn_a _ _ _ _ _).symm hD)
  exact z_iret hx hb hr hlk hP hD hS dX3_follow_26 rfl rfl

set_option maxHeartbeats 4000000 in
set_option maxRecDepth 100000 in
theorem c_X3_nameOf_st (l : Launch) (G : ZG) (o pr q : Nat) (a b d : Nat → Nat) (pa : Nat → Nat → Nat) (S P L : Nat → Nat) (t v u : Mem) (pv : Nat → Mem) (x z : Int32) (hst : CI l G yX1_standing wsX1_standing (zRm 1 21) [.ref (a 0), .int x] (rollW G a v) z (rollW G a v)) (hz : z < 0) : CI l G yX3_nameOf wsX3_nameOf (zRm 2 48) [.ref o, .int x] (headW G o pr (prF pa) a b q S ++ (playW G q (d 0) P ++ (textW G b t L ++ (rollW G a v ++ (rollW G d u ++ pastW G pa pv))))) ((-1000005)) (headW G o pr (prF pa) a b q S ++ (playW G q (d 0) P ++ (textW G b t L ++ (rollW G a v ++ (rollW G d u ++ pastW G pa pv))))) := by
  refine CI.ent (cc := cX3_nameOf) (maxL := 3) (ty := .int) (own := RX3) (by decide) rfl rfl (Nat.le_of_ble_eq_true rfl) ?_
  intro p ee s m args below meth c A ls F hr hlk hKK hP hD hA hS hl
  obtain ⟨hx, hb, hml, hown, hts⟩ := id F
  have hl : lv_has ls 3 [(0, .ref o), (1, .int x)] := hl
  have ct_56 := hts (.constant RX3 56 (-1000005)) (by decide +kernel)
  have fl_10 := hts (.fieldLink RX3 10 "NameRolls" "now" "LNameRolls$Roll;") (by decide +kernel)
  have hinX3 : ∀ w ∈ wsX30, w ∈ wsX3_nameOf := by decide +kernel
  refine lv_aload_n hx hb dX3_nameOf_0 rfl (lv_at hl 0 rfl) ?_
  refine va_get (D := G.1) (ci := 3) (v := .ref (a 0)) (C := RX3) (T := TX3) (N := 5) hx hb hts hinX3 hown hKK.1 hP 0 rfl rfl 0 (by decide) fl_10 (fun _ h9 => h9) rfl dX3_nameOf_1 ?_
  refine lv_iload_n hx hb dX3_nameOf_4 rfl (lv_at hl 1 rfl) ?_
  refine z_callVI (As := [.int x]) (rest := []) (wr := (headW G o pr (prF pa) a b q S ++ (playW G q (d 0) P ++ (textW G b t L ++ (rollW G d u ++ pastW G pa pv))))) (C := RX1) F (hst) (cwV 1 hts gX3_nameOf_X1_standing rfl rfl rfl (by decide +kernel) ⟨Nat.le_of_ble_eq_true rfl, Nat.le_of_ble_eq_true rfl⟩) hKK (z_recv hKK hP (q0 := 5) (ci := 1) rfl rfl) (z_perm (pn_a _ _ _ _ _) hP) (z_permD (pn_a _ _ _ _ _) hD) hS hA rfl hl.1 rfl (Nat.le_of_ble_eq_true rfl) ⟨Nat.zero_le _, Nat.zero_le _⟩ dX3_nameOf_5 (fun H locs hP hD hS => ?_)
  have hP : va_P G.1 vwCl (headW G o pr (prF pa) a b q S ++ (playW G q (d 0) P ++ (textW G b t L ++ (rollW G a v ++ (rollW G d u ++ pastW G pa pv))))) H := (z_perm (pn_a _ _ _ _ _).symm hP)
  have hD : va_D A (headW G o pr (prF pa) a b q S ++ (playW G q (d 0) P ++ (textW G b t L ++ (rollW G a v ++ (rollW G d u ++ pastW G pa pv))))) := (z_permD (pn_a _ _ _ _ _).symm hD)
  refine lv_istore_n (lv' := [(2, .int z), (0, .ref o), (1, .int x)]) hx hb dX3_nameOf_8 rfl hl (by decide) rfl (fun ls hl => ?_)
  refine lv_iload_n hx hb dX3_nameOf_9 rfl (lv_at hl 0 rfl) ?_
  refine lv_if_ge (tgt := 18) hx hb dX3_nameOf_10 (by decide) (fun c_1 => absurd hz (i32_nlt c_1)) (fun c_1 => ?_)
  refine z_ldc (v' := (-1000005)) hx hb hown ct_56 dX3_nameOf_13 rfl ?_
  refine lv_goto (tgt := 27) hx hb dX3_nameOf_15 (by decide) ?_
  exact z_iret hx hb hr hlk hP hD hS dX3_nameOf_27 rfl rfl

set_option maxHeartbeats 4000000 in
set_option maxRecDepth 100000 in
theorem c_X3_nameOf_ok (l : Launch) (G : ZG) (o pr q : Nat) (a b d : Nat → Nat) (pa : Nat → Nat → Nat) (S P L : Nat → Nat) (t v u : Mem) (pv : Nat → Mem) (x : Int32) (n : Nat) (hst : CI l G yX1_standing wsX1_standing (zRm 1 21) [.ref (a 0), .int x] (rollW G a v) (nI n) (rollW G a v)) (hn : n < 40) : CI l G yX3_nameOf wsX3_nameOf (zRm 2 48) [.ref o, .int x] (headW G o pr (prF pa) a b q S ++ (playW G q (d 0) P ++ (textW G b t L ++ (rollW G a v ++ (rollW G d u ++ pastW G pa pv))))) (v 0 n) (headW G o pr (prF pa) a b q S ++ (playW G q (d 0) P ++ (textW G b t L ++ (rollW G a v ++ (rollW G d u ++ pastW G pa pv))))) := by
  refine CI.ent (cc := cX3_nameOf) (maxL := 3) (ty := .int) (own := RX3) (by decide) rfl rfl (Nat.le_of_ble_eq_true rfl) ?_
  intro p ee s m args below meth c A ls F hr hlk hKK hP hD hA hS hl
  obtain ⟨hx, hb, hml, hown, hts⟩ := id F
  have hl : lv_has ls 3 [(0, .ref o), (1, .int x)] := hl
  have fl_10 := hts (.fieldLink RX3 10 "NameRolls" "now" "LNameRolls$Roll;") (by decide +kernel)
  have fl_70 := hts (.fieldLink RX3 70 "NameRolls$Roll" "names" "[I") (by decide +kernel)
  have hinX1 : ∀ w ∈ wsX10, w ∈ wsX3_nameOf := by decide +kernel
  have hinX3 : ∀ w ∈ wsX30, w ∈ wsX3_nameOf := by decide +kernel
  refine lv_aload_n hx hb dX3_nameOf_0 rfl (lv_at hl 0 rfl) ?_
  refine va_get (D := G.1) (ci := 3) (v := .ref (a 0)) (C := RX3) (T := TX3) (N := 5) hx hb hts hinX3 hown hKK.1 hP 0 rfl rfl 0 (by decide) fl_10 (fun _ h9 => h9) rfl dX3_nameOf_1 ?_
  refine lv_iload_n hx hb dX3_nameOf_4 rfl (lv_at hl 1 rfl) ?_
  refine z_callVI (As := [.int x]) (rest := []) (wr := (headW G o pr (prF pa) a b q S ++ (playW G q (d 0) P ++ (textW G b t L ++ (rollW G d u ++ pastW G pa pv))))) (C := RX1) F (hst) (cwV 1 hts gX3_nameOf_X1_standing rfl rfl rfl (by decide +kernel) ⟨Nat.le_of_ble_eq_true rfl, Nat.le_of_ble_eq_true rfl⟩) hKK (z_recv hKK hP (q0 := 5) (ci := 1) rfl rfl) (z_perm (pn_a _ _ _ _ _) hP) (z_permD (pn_a _ _ _ _ _) hD) hS hA rfl hl.1 rfl (Nat.le_of_ble_eq_true rfl) ⟨Nat.zero_le _, Nat.zero_le _⟩ dX3_nameOf_5 (fun H locs hP hD hS => ?_)
  have hP : va_P G.1 vwCl (headW G o pr (prF pa) a b q S ++ (playW G q (d 0) P ++ (textW G b t L ++ (rollW G a v ++ (rollW G d u ++ pastW G pa pv))))) H := (z_perm (pn_a _ _ _ _ _).symm hP)
  have hD : va_D A (headW G o pr (prF pa) a b q S ++ (playW G q (d 0) P ++ (textW G b t L ++ (rollW G a v ++ (rollW G d u ++ pastW G pa pv))))) := (z_permD (pn_a _ _ _ _ _).symm hD)
  refine lv_istore_n (lv' := [(2, .int (nI n)), (0, .ref o), (1, .int x)]) hx hb dX3_nameOf_8 rfl hl (by decide) rfl (fun ls hl => ?_)
  refine lv_iload_n hx hb dX3_nameOf_9 rfl (lv_at hl 0 rfl) ?_
  refine z_ifNge (tgt := 18) hx hb dX3_nameOf_10 (by decide) (by omega) (fun c_1 => ?_) (fun c_1 => absurd c_1 (Nat.not_lt_zero _))
  refine lv_aload_n hx hb dX3_nameOf_18 rfl (lv_at hl 1 rfl) ?_
  refine va_get (D := G.1) (ci := 3) (v := .ref (a 0)) (C := RX3) (T := TX3) (N := 5) hx hb hts hinX3 hown hKK.1 hP 0 rfl rfl 0 (by decide) fl_10 (fun _ h9 => h9) rfl dX3_nameOf_19 ?_
  refine va_get (D := G.1) (ci := 1) (v := .ref (a 1)) (C := RX1) (T := TX1) (N := 15) hx hb hts hinX1 hown hKK.1 hP 5 rfl rfl 0 (by decide) fl_70 (fun _ h9 => h9) rfl dX3_nameOf_22 ?_
  refine lv_iload_n hx hb dX3_nameOf_25 rfl (lv_at hl 0 rfl) ?_
  refine z_iald (n := 40) (f := v 0) (v := v 0 n) hx hb hKK hP 6 rfl (by omega) (by decide) rfl dX3_nameOf_26 ?_
  exact z_iret hx hb hr hlk hP hD hS dX3_nameOf_27 rfl rfl

set_option maxHeartbeats 4000000 in
set_option maxRecDepth 100000 in
theorem c_X3_why_st (l : Launch) (G : ZG) (o pr q : Nat) (a b d : Nat → Nat) (pa : Nat → Nat → Nat) (S P L : Nat → Nat) (t v u : Mem) (pv : Nat → Mem) (x z : Int32) (hst : CI l G yX1_standing wsX1_standing (zRm 1 21) [.ref (a 0), .int x] (rollW G a v) z (rollW G a v)) (hz : z < 0) : CI l G yX3_why wsX3_why (zRm 2 48) [.ref o, .int x] (headW G o pr (prF pa) a b q S ++ (playW G q (d 0) P ++ (textW G b t L ++ (rollW G a v ++ (rollW G d u ++ pastW G pa pv))))) (-z) (headW G o pr (prF pa) a b q S ++ (playW G q (d 0) P ++ (textW G b t L ++ (rollW G a v ++ (rollW G d u ++ pastW G pa pv))))) := by
  refine CI.ent (cc := cX3_why) (maxL := 3) (ty := .int) (own := RX3) (by decide) rfl rfl (Nat.le_of_ble_eq_true rfl) ?_
  intro p ee s m args below meth c A ls F hr hlk hKK hP hD hA hS hl
  obtain ⟨hx, hb, hml, hown, hts⟩ := id F
  have hl : lv_has ls 3 [(0, .ref o), (1, .int x)] := hl
  have fl_10 := hts (.fieldLink RX3 10 "NameRolls" "now" "LNameRolls$Roll;") (by decide +kernel)
  have hinX3 : ∀ w ∈ wsX30, w ∈ wsX3_why := by decide +kernel
  refine lv_aload_n hx hb dX3_why_0 rfl (lv_at hl 0 rfl) ?_
  refine va_get (D := G.1) (ci := 3) (v := .ref (a 0)) (C := RX3) (T := TX3) (N := 5) hx hb hts hinX3 hown hKK.1 hP 0 rfl rfl 0 (by decide) fl_10 (fun _ h9 => h9) rfl dX3_why_1 ?_
  refine lv_iload_n hx hb dX3_why_4 rfl (lv_at hl 1 rfl) ?_
  refine z_callVI (As := [.int x]) (rest := []) (wr := (headW G o pr (prF pa) a b q S ++ (playW G q (d 0) P ++ (textW G b t L ++ (rollW G d u ++ pastW G pa pv))))) (C := RX1) F (hst) (cwV 1 hts gX3_why_X1_standing rfl rfl rfl (by decide +kernel) ⟨Nat.le_of_ble_eq_true rfl, Nat.le_of_ble_eq_true rfl⟩) hKK (z_recv hKK hP (q0 := 5) (ci := 1) rfl rfl) (z_perm (pn_a _ _ _ _ _) hP) (z_permD (pn_a _ _ _ _ _) hD) hS hA rfl hl.1 rfl (Nat.le_of_ble_eq_true rfl) ⟨Nat.zero_le _, Nat.zero_le _⟩ dX3_why_5 (fun H locs hP hD hS => ?_)
  have hP : va_P G.1 vwCl (headW G o pr (prF pa) a b q S ++ (playW G q (d 0) P ++ (textW G b t L ++ (rollW G a v ++ (rollW G d u ++ pastW G pa pv))))) H := (z_perm (pn_a _ _ _ _ _).symm hP)
  have hD : va_D A (headW G o pr (prF pa) a b q S ++ (playW G q (d 0) P ++ (textW G b t L ++ (rollW G a v ++ (rollW G d u ++ pastW G pa pv))))) := (z_permD (pn_a _ _ _ _ _).symm hD)
  refine lv_istore_n (lv' := [(2, .int z), (0, .ref o), (1, .int x)]) hx hb dX3_why_8 rfl hl (by decide) rfl (fun ls hl => ?_)
  refine lv_iload_n hx hb dX3_why_9 rfl (lv_at hl 0 rfl) ?_
  refine lv_if_ge (tgt := 18) hx hb dX3_why_10 (by decide) (fun c_1 => absurd hz (i32_nlt c_1)) (fun c_1 => ?_)
  refine lv_iload_n hx hb dX3_why_13 rfl (lv_at hl 0 rfl) ?_
  refine lv_ineg hx hb dX3_why_14 ?_
  refine lv_goto (tgt := 19) hx hb dX3_why_15 (by decide) ?_
  exact z_iret hx hb hr hlk hP hD hS dX3_why_19 rfl rfl

set_option maxHeartbeats 4000000 in
set_option maxRecDepth 100000 in
theorem c_X3_why_ok (l : Launch) (G : ZG) (o pr q : Nat) (a b d : Nat → Nat) (pa : Nat → Nat → Nat) (S P L : Nat → Nat) (t v u : Mem) (pv : Nat → Mem) (x : Int32) (n : Nat) (hst : CI l G yX1_standing wsX1_standing (zRm 1 21) [.ref (a 0), .int x] (rollW G a v) (nI n) (rollW G a v)) (hn : n < 40) : CI l G yX3_why wsX3_why (zRm 2 48) [.ref o, .int x] (headW G o pr (prF pa) a b q S ++ (playW G q (d 0) P ++ (textW G b t L ++ (rollW G a v ++ (rollW G d u ++ pastW G pa pv))))) (nI 0) (headW G o pr (prF pa) a b q S ++ (playW G q (d 0) P ++ (textW G b t L ++ (rollW G a v ++ (rollW G d u ++ pastW G pa pv))))) := by
  refine CI.ent (cc := cX3_why) (maxL := 3) (ty := .int) (own := RX3) (by decide) rfl rfl (Nat.le_of_ble_eq_true rfl) ?_
  intro p ee s m args below meth c A ls F hr hlk hKK hP hD hA hS hl
  obtain ⟨hx, hb, hml, hown, hts⟩ := id F
  have hl : lv_has ls 3 [(0, .ref o), (1, .int x)] := hl
  have fl_10 := hts (.fieldLink RX3 10 "NameRolls" "now" "LNameRolls$Roll;") (by decide +kernel)
  have hinX3 : ∀ w ∈ wsX30, w ∈ wsX3_why := by decide +kernel
  refine lv_aload_n hx hb dX3_why_0 rfl (lv_at hl 0 rfl) ?_
  refine va_get (D := G.1) (ci := 3) (v := .ref (a 0)) (C := RX3) (T := TX3) (N := 5) hx hb hts hinX3 hown hKK.1 hP 0 rfl rfl 0 (by decide) fl_10 (fun _ h9 => h9) rfl dX3_why_1 ?_
  refine lv_iload_n hx hb dX3_why_4 rfl (lv_at hl 1 rfl) ?_
  refine z_callVI (As := [.int x]) (rest := []) (wr := (headW G o pr (prF pa) a b q S ++ (playW G q (d 0) P ++ (textW G b t L ++ (rollW G d u ++ pastW G pa pv))))) (C := RX1) F (hst) (cwV 1 hts gX3_why_X1_standing rfl rfl rfl (by decide +kernel) ⟨Nat.le_of_ble_eq_true rfl, Nat.le_of_ble_eq_true rfl⟩) hKK (z_recv hKK hP (q0 := 5) (ci := 1) rfl rfl) (z_perm (pn_a _ _ _ _ _) hP) (z_permD (pn_a _ _ _ _ _) hD) hS hA rfl hl.1 rfl (Nat.le_of_ble_eq_true rfl) ⟨Nat.zero_le _, Nat.zero_le _⟩ dX3_why_5 (fun H locs hP hD hS => ?_)
  have hP : va_P G.1 vwCl (headW G o pr (prF pa) a b q S ++ (playW G q (d 0) P ++ (textW G b t L ++ (rollW G a v ++ (rollW G d u ++ pastW G pa pv))))) H := (z_perm (pn_a _ _ _ _ _).symm hP)
  have hD : va_D A (headW G o pr (prF pa) a b q S ++ (playW G q (d 0) P ++ (textW G b t L ++ (rollW G a v ++ (rollW G d u ++ pastW G pa pv))))) := (z_permD (pn_a _ _ _ _ _).symm hD)
  refine lv_istore_n (lv' := [(2, .int (nI n)), (0, .ref o), (1, .int x)]) hx hb dX3_why_8 rfl hl (by decide) rfl (fun ls hl => ?_)
  refine lv_iload_n hx hb dX3_why_9 rfl (lv_at hl 0 rfl) ?_
  refine z_ifNge (tgt := 18) hx hb dX3_why_10 (by decide) (by omega) (fun c_1 => ?_) (fun c_1 => absurd c_1 (Nat.not_lt_zero _))
  refine lv_iconst (v := nI 0) hx hb dX3_why_18 (by decide) ?_
  exact z_iret hx hb hr hlk hP hD hS dX3_why_19 rfl rfl

set_option maxHeartbeats 4000000 in
set_option maxRecDepth 100000 in
theorem c_X3_put_bad (l : Launch) (G : ZG) (o pr q : Nat) (a b d : Nat → Nat) (pa : Nat → Nat → Nat) (S P L : Nat → Nat) (t v u : Mem) (pv : Nat → Mem) (x y zt : Int32) (h9 : (zBel x 3 && zBel y 6) = false) : CI l G yX3_put wsX3_put (zRm 3 83) [.ref o, .int x, .int y, .int zt] (headW G o pr (prF pa) a b q S ++ (playW G q (d 0) P ++ (textW G b t L ++ (rollW G a v ++ (rollW G d u ++ pastW G pa pv))))) ((-1000001)) (headW G o pr (prF pa) a b q S ++ (playW G q (d 0) P ++ (textW G b t L ++ (rollW G a v ++ (rollW G d u ++ pastW G pa pv))))) := by
  refine CI.ent (cc := cX3_put) (maxL := 5) (ty := .int) (own := RX3) (by decide) rfl rfl (Nat.le_of_ble_eq_true rfl) ?_
  intro p ee s m args below meth c A ls F hr hlk hKK hP hD hA hS hl
  obtain ⟨hx, hb, hml, hown, hts⟩ := id F
  have hl : lv_has ls 5 [(0, .ref o), (1, .int x), (2, .int y), (3, .int zt)] := hl
  have ct_38 := hts (.constant RX3 38 (-1000001)) (by decide +kernel)
  refine lv_iload_n hx hb dX3_put_0 rfl (lv_at hl 1 rfl) ?_
  refine lv_iload_n hx hb dX3_put_1 rfl (lv_at hl 2 rfl) ?_
  refine z_callSI (As := [.int x, .int y]) (rest := []) F (c_X3_isCell_b l G x y false h9) (va_cwS 2 hts gX3_put_X3_isCell rfl rfl rfl (by decide +kernel) ⟨Nat.le_of_ble_eq_true rfl, Nat.le_of_ble_eq_true rfl⟩) hKK hP hD hS hA rfl hl.1 rfl (Nat.le_of_ble_eq_true rfl) ⟨Nat.zero_le _, Nat.zero_le _⟩ dX3_put_2 (fun H locs hP hD hS => ?_)
  refine z_ifBne (tgt := 11) hx hb dX3_put_5 (by decide) (fun c_1 => absurd c_1 (by decide)) (fun c_1 => ?_)
  refine z_ldc (v' := (-1000001)) hx hb hown ct_38 dX3_put_8 rfl ?_
  exact z_iret hx hb hr hlk hP hD hS dX3_put_10 rfl rfl

set_option maxHeartbeats 4000000 in
set_option maxRecDepth 100000 in
theorem c_X3_put_st (l : Launch) (G : ZG) (o pr q : Nat) (a b d : Nat → Nat) (pa : Nat → Nat → Nat) (S P L : Nat → Nat) (t v u : Mem) (pv : Nat → Mem) (tb cl : Nat) (x z : Int32) (htb : tb < 3) (hcl : cl < 6) (hst : CI l G yX1_standing wsX1_standing (zRm 1 21) [.ref (a 0), .int x] (rollW G a v) z (rollW G a v)) (hz : z < 0) : CI l G yX3_put wsX3_put (zRm 3 83) [.ref o, .int (nI tb), .int (nI cl), .int x] (headW G o pr (prF pa) a b q S ++ (playW G q (d 0) P ++ (textW G b t L ++ (rollW G a v ++ (rollW G d u ++ pastW G pa pv))))) ((-1000005)) (headW G o pr (prF pa) a b q S ++ (playW G q (d 0) P ++ (textW G b t L ++ (rollW G a v ++ (rollW G d u ++ pastW G pa pv))))) := by
  refine CI.ent (cc := cX3_put) (maxL := 5) (ty := .int) (own := RX3) (by decide) rfl rfl (Nat.le_of_ble_eq_true rfl) ?_
  intro p ee s m args below meth c A ls F hr hlk hKK hP hD hA hS hl
  obtain ⟨hx, hb, hml, hown, hts⟩ := id F
  have hl : lv_has ls 5 [(0, .ref o), (1, .int (nI tb)), (2, .int (nI cl)), (3, .int x)] := hl
  have ct_56 := hts (.constant RX3 56 (-1000005)) (by decide +kernel)
  have fl_10 := hts (.fieldLink RX3 10 "NameRolls" "now" "LNameRolls$Roll;") (by decide +kernel)
  have hinX3 : ∀ w ∈ wsX30, w ∈ wsX3_put := by decide +kernel
  refine lv_iload_n hx hb dX3_put_0 rfl (lv_at hl 1 rfl) ?_
  refine lv_iload_n hx hb dX3_put_1 rfl (lv_at hl 2 rfl) ?_
  refine z_callSI (As := [.int (nI tb), .int (nI cl)]) (rest := []) F (c_X3_isCell_b l G (nI tb) (nI cl) true (cell_ok htb hcl)) (va_cwS 2 hts gX3_put_X3_isCell rfl rfl rfl (by decide +kernel) ⟨Nat.le_of_ble_eq_true rfl, Nat.le_of_ble_eq_true rfl⟩) hKK hP hD hS hA rfl hl.1 rfl (Nat.le_of_ble_eq_true rfl) ⟨Nat.zero_le _, Nat.zero_le _⟩ dX3_put_2 (fun H locs hP hD hS => ?_)
  refine z_ifBne (tgt := 11) hx hb dX3_put_5 (by decide) (fun c_1 => ?_) (fun c_1 => absurd c_1 (by decide))
  refine lv_aload_n hx hb dX3_put_11 rfl (lv_at hl 0 rfl) ?_
  refine va_get (D := G.1) (ci := 3) (v := .ref (a 0)) (C := RX3) (T := TX3) (N := 5) hx hb hts hinX3 hown hKK.1 hP 0 rfl rfl 0 (by decide) fl_10 (fun _ h9 => h9) rfl dX3_put_12 ?_
  refine lv_iload_n hx hb dX3_put_15 rfl (lv_at hl 3 rfl) ?_
  refine z_callVI (As := [.int x]) (rest := []) (wr := (headW G o pr (prF pa) a b q S ++ (playW G q (d 0) P ++ (textW G b t L ++ (rollW G d u ++ pastW G pa pv))))) (C := RX1) F (hst) (cwV 1 hts gX3_put_X1_standing rfl rfl rfl (by decide +kernel) ⟨Nat.le_of_ble_eq_true rfl, Nat.le_of_ble_eq_true rfl⟩) hKK (z_recv hKK hP (q0 := 5) (ci := 1) rfl rfl) (z_perm (pn_a _ _ _ _ _) hP) (z_permD (pn_a _ _ _ _ _) hD) hS hA rfl hl.1 rfl (Nat.le_of_ble_eq_true rfl) ⟨Nat.zero_le _, Nat.zero_le _⟩ dX3_put_16 (fun H locs hP hD hS => ?_)
  have hP : va_P G.1 vwCl (headW G o pr (prF pa) a b q S ++ (playW G q (d 0) P ++ (textW G b t L ++ (rollW G a v ++ (rollW G d u ++ pastW G pa pv))))) H := (z_perm (pn_a _ _ _ _ _).symm hP)
  have hD : va_D A (headW G o pr (prF pa) a b q S ++ (playW G q (d 0) P ++ (textW G b t L ++ (rollW G a v ++ (rollW G d u ++ pastW G pa pv))))) := (z_permD (pn_a _ _ _ _ _).symm hD)
  refine lv_istore (lv' := [(4, .int z), (0, .ref o), (1, .int (nI tb)), (2, .int (nI cl)), (3, .int x)]) hx hb dX3_put_19 hl (by decide) rfl (fun ls hl => ?_)
  refine lv_iload hx hb dX3_put_21 (lv_at hl 0 rfl) ?_
  refine lv_if_ge (tgt := 29) hx hb dX3_put_23 (by decide) (fun c_2 => absurd hz (i32_nlt c_2)) (fun c_2 => ?_)
  refine z_ldc (v' := (-1000005)) hx hb hown ct_56 dX3_put_26 rfl ?_
  exact z_iret hx hb hr hlk hP hD hS dX3_put_28 rfl rfl

set_option maxHeartbeats 4000000 in
set_option maxRecDepth 100000 in
theorem c_X3_put_lim (l : Launch) (G : ZG) (o pr q : Nat) (a b d : Nat → Nat) (pa : Nat → Nat → Nat) (S P L : Nat → Nat) (t v u : Mem) (pv : Nat → Mem) (tb cl : Nat) (x : Int32) (n : Nat) (htb : tb < 3) (hcl : cl < 6) (hst : CI l G yX1_standing wsX1_standing (zRm 1 21) [.ref (a 0), .int x] (rollW G a v) (nI n) (rollW G a v)) (hn : n < 40) (hcal : CI l G yX1_hasRoomForUser wsX1_hasRoomForUser (zRm 1 21) [.ref (a 0), .int (nI n)] (rollW G a v) (bI false) (rollW G a v)) : CI l G yX3_put wsX3_put (zRm 3 83) [.ref o, .int (nI tb), .int (nI cl), .int x] (headW G o pr (prF pa) a b q S ++ (playW G q (d 0) P ++ (textW G b t L ++ (rollW G a v ++ (rollW G d u ++ pastW G pa pv))))) ((-1000003)) (headW G o pr (prF pa) a b q S ++ (playW G q (d 0) P ++ (textW G b t L ++ (rollW G a v ++ (rollW G d u ++ pastW G pa pv))))) := by
  refine CI.ent (cc := cX3_put) (maxL := 5) (ty := .int) (own := RX3) (by decide) rfl rfl (Nat.le_of_ble_eq_true rfl) ?_
  intro p ee s m args below meth c A ls F hr hlk hKK hP hD hA hS hl
  obtain ⟨hx, hb, hml, hown, hts⟩ := id F
  have hl : lv_has ls 5 [(0, .ref o), (1, .int (nI tb)), (2, .int (nI cl)), (3, .int x)] := hl
  have ct_42 := hts (.constant RX3 42 (-1000003)) (by decide +kernel)
  have fl_10 := hts (.fieldLink RX3 10 "NameRolls" "now" "LNameRolls$Roll;") (by decide +kernel)
  have hinX3 : ∀ w ∈ wsX30, w ∈ wsX3_put := by decide +kernel
  refine lv_iload_n hx hb dX3_put_0 rfl (lv_at hl 1 rfl) ?_
  refine lv_iload_n hx hb dX3_put_1 rfl (lv_at hl 2 rfl) ?_
  refine z_callSI (As := [.int (nI tb), .int (nI cl)]) (rest := []) F (c_X3_isCell_b l G (nI tb) (nI cl) true (cell_ok htb hcl)) (va_cwS 2 hts gX3_put_X3_isCell rfl rfl rfl (by decide +kernel) ⟨Nat.le_of_ble_eq_true rfl, Nat.le_of_ble_eq_true rfl⟩) hKK hP hD hS hA rfl hl.1 rfl (Nat.le_of_ble_eq_true rfl) ⟨Nat.zero_le _, Nat.zero_le _⟩ dX3_put_2 (fun H locs hP hD hS => ?_)
  refine z_ifBne (tgt := 11) hx hb dX3_put_5 (by decide) (fun c_1 => ?_) (fun c_1 => absurd c_1 (by decide))
  refine lv_aload_n hx hb dX3_put_11 rfl (lv_at hl 0 rfl) ?_
  refine va_get (D := G.1) (ci := 3) (v := .ref (a 0)) (C := RX3) (T := TX3) (N := 5) hx hb hts hinX3 hown hKK.1 hP 0 rfl rfl 0 (by decide) fl_10 (fun _ h9 => h9) rfl dX3_put_12 ?_
  refine lv_iload_n hx hb dX3_put_15 rfl (lv_at hl 3 rfl) ?_
  refine z_callVI (As := [.int x]) (rest := []) (wr := (headW G o pr (prF pa) a b q S ++ (playW G q (d 0) P ++ (textW G b t L ++ (rollW G d u ++ pastW G pa pv))))) (C := RX1) F (hst) (cwV 1 hts gX3_put_X1_standing rfl rfl rfl (by decide +kernel) ⟨Nat.le_of_ble_eq_true rfl, Nat.le_of_ble_eq_true rfl⟩) hKK (z_recv hKK hP (q0 := 5) (ci := 1) rfl rfl) (z_perm (pn_a _ _ _ _ _) hP) (z_permD (pn_a _ _ _ _ _) hD) hS hA rfl hl.1 rfl (Nat.le_of_ble_eq_true rfl) ⟨Nat.zero_le _, Nat.zero_le _⟩ dX3_put_16 (fun H locs hP hD hS => ?_)
  have hP : va_P G.1 vwCl (headW G o pr (prF pa) a b q S ++ (playW G q (d 0) P ++ (textW G b t L ++ (rollW G a v ++ (rollW G d u ++ pastW G pa pv))))) H := (z_perm (pn_a _ _ _ _ _).symm hP)
  have hD : va_D A (headW G o pr (prF pa) a b q S ++ (playW G q (d 0) P ++ (textW G b t L ++ (rollW G a v ++ (rollW G d u ++ pastW G pa pv))))) := (z_permD (pn_a _ _ _ _ _).symm hD)
  refine lv_istore (lv' := [(4, .int (nI n)), (0, .ref o), (1, .int (nI tb)), (2, .int (nI cl)), (3, .int x)]) hx hb dX3_put_19 hl (by decide) rfl (fun ls hl => ?_)
  refine lv_iload hx hb dX3_put_21 (lv_at hl 0 rfl) ?_
  refine z_ifNge (tgt := 29) hx hb dX3_put_23 (by decide) (by omega) (fun c_2 => ?_) (fun c_2 => absurd c_2 (Nat.not_lt_zero _))
  refine lv_aload_n hx hb dX3_put_29 rfl (lv_at hl 1 rfl) ?_
  refine va_get (D := G.1) (ci := 3) (v := .ref (a 0)) (C := RX3) (T := TX3) (N := 5) hx hb hts hinX3 hown hKK.1 hP 0 rfl rfl 0 (by decide) fl_10 (fun _ h9 => h9) rfl dX3_put_30 ?_
  refine lv_iload hx hb dX3_put_33 (lv_at hl 0 rfl) ?_
  refine z_callVI (As := [.int (nI n)]) (rest := []) (wr := (headW G o pr (prF pa) a b q S ++ (playW G q (d 0) P ++ (textW G b t L ++ (rollW G d u ++ pastW G pa pv))))) (C := RX1) F (hcal) (cwV 1 hts gX3_put_X1_hasRoomForUser rfl rfl rfl (by decide +kernel) ⟨Nat.le_of_ble_eq_true rfl, Nat.le_of_ble_eq_true rfl⟩) hKK (z_recv hKK hP (q0 := 5) (ci := 1) rfl rfl) (z_perm (pn_a _ _ _ _ _) hP) (z_permD (pn_a _ _ _ _ _) hD) hS hA rfl hl.1 rfl (Nat.le_of_ble_eq_true rfl) ⟨Nat.zero_le _, Nat.zero_le _⟩ dX3_put_35 (fun H locs hP hD hS => ?_)
  have hP : va_P G.1 vwCl (headW G o pr (prF pa) a b q S ++ (playW G q (d 0) P ++ (textW G b t L ++ (rollW G a v ++ (rollW G d u ++ pastW G pa pv))))) H := (z_perm (pn_a _ _ _ _ _).symm hP)
  have hD : va_D A (headW G o pr (prF pa) a b q S ++ (playW G q (d 0) P ++ (textW G b t L ++ (rollW G a v ++ (rollW G d u ++ pastW G pa pv))))) := (z_permD (pn_a _ _ _ _ _).symm hD)
  refine z_ifBne (tgt := 44) hx hb dX3_put_38 (by decide) (fun c_3 => absurd c_3 (by decide)) (fun c_3 => ?_)
  refine z_ldc (v' := (-1000003)) hx hb hown ct_42 dX3_put_41 rfl ?_
  exact z_iret hx hb hr hlk hP hD hS dX3_put_43 rfl rfl

set_option maxHeartbeats 4000000 in
set_option maxRecDepth 100000 in
theorem c_X3_put_ok (l : Launch) (G : ZG) (o pr q : Nat) (a b d : Nat → Nat) (pa : Nat → Nat → Nat) (S P L : Nat → Nat) (t v u : Mem) (pv : Nat → Mem) (tb cl : Nat) (x : Int32) (n : Nat) (w : Mem) (r0 : Int32) (htb : tb < 3) (hcl : cl < 6) (hst : CI l G yX1_standing wsX1_standing (zRm 1 21) [.ref (a 0), .int x] (rollW G a v) (nI n) (rollW G a v)) (hn : n < 40) (h4 : S 0 ≤ 4) (hcal : CI l G yX1_hasRoomForUser wsX1_hasRoomForUser (zRm 1 21) [.ref (a 0), .int (nI n)] (rollW G a v) (bI true) (rollW G a v)) (hdo : CI l G yX1_fillCell wsX1_fillCell (zRm 2 42) [.ref (a 0), .int (nI (tb * 6 + cl)), .int (nI n)] (rollW G a v) r0 (rollW G a w)) : CI l G yX3_put wsX3_put (zRm 3 83) [.ref o, .int (nI tb), .int (nI cl), .int x] (headW G o pr (prF pa) a b q S ++ (playW G q (d 0) P ++ (textW G b t L ++ (rollW G a v ++ (rollW G d u ++ pastW G pa pv))))) r0 (headW G o pr (prF (rcA (S 0) pa)) a b q (nup S 0 (svN (S 0))) ++ (playW G q (d 0) P ++ (textW G b t L ++ (rollW G a w ++ (rollW G d u ++ pastW G (rcA (S 0) pa) (rcV (S 0) pv v)))))) := by
  refine CI.ent (cc := cX3_put) (maxL := 5) (ty := .int) (own := RX3) (by decide) rfl rfl (Nat.le_of_ble_eq_true rfl) ?_
  intro p ee s m args below meth c A ls F hr hlk hKK hP hD hA hS hl
  obtain ⟨hx, hb, hml, hown, hts⟩ := id F
  have hl : lv_has ls 5 [(0, .ref o), (1, .int (nI tb)), (2, .int (nI cl)), (3, .int x)] := hl
  have fl_10 := hts (.fieldLink RX3 10 "NameRolls" "now" "LNameRolls$Roll;") (by decide +kernel)
  have hinX3 : ∀ w ∈ wsX30, w ∈ wsX3_put := by decide +kernel
  refine lv_iload_n hx hb dX3_put_0 rfl (lv_at hl 1 rfl) ?_
  refine lv_iload_n hx hb dX3_put_1 rfl (lv_at hl 2 rfl) ?_
  refine z_callSI (As := [.int (nI tb), .int (nI cl)]) (rest := []) F (c_X3_isCell_b l G (nI tb) (nI cl) true (cell_ok htb hcl)) (va_cwS 2 hts gX3_put_X3_isCell rfl rfl rfl (by decide +kernel) ⟨Nat.le_of_ble_eq_true rfl, Nat.le_of_ble_eq_true rfl⟩) hKK hP hD hS hA rfl hl.1 rfl (Nat.le_of_ble_eq_true rfl) ⟨Nat.zero_le _, Nat.zero_le _⟩ dX3_put_2 (fun H locs hP hD hS => ?_)
  refine z_ifBne (tgt := 11) hx hb dX3_put_5 (by decide) (fun c_1 => ?_) (fun c_1 => absurd c_1 (by decide))
  refine lv_aload_n hx hb dX3_put_11 rfl (lv_at hl 0 rfl) ?_
  refine va_get (D := G.1) (ci := 3) (v := .ref (a 0)) (C := RX3) (T := TX3) (N := 5) hx hb hts hinX3 hown hKK.1 hP 0 rfl rfl 0 (by decide) fl_10 (fun _ h9 => h9) rfl dX3_put_12 ?_
  refine lv_iload_n hx hb dX3_put_15 rfl (lv_at hl 3 rfl) ?_
  refine z_callVI (As := [.int x]) (rest := []) (wr := (headW G o pr (prF pa) a b q S ++ (playW G q (d 0) P ++ (textW G b t L ++ (rollW G d u ++ pastW G pa pv))))) (C := RX1) F (hst) (cwV 1 hts gX3_put_X1_standing rfl rfl rfl (by decide +kernel) ⟨Nat.le_of_ble_eq_true rfl, Nat.le_of_ble_eq_true rfl⟩) hKK (z_recv hKK hP (q0 := 5) (ci := 1) rfl rfl) (z_perm (pn_a _ _ _ _ _) hP) (z_permD (pn_a _ _ _ _ _) hD) hS hA rfl hl.1 rfl (Nat.le_of_ble_eq_true rfl) ⟨Nat.zero_le _, Nat.zero_le _⟩ dX3_put_16 (fun H locs hP hD hS => ?_)
  have hP : va_P G.1 vwCl (headW G o pr (prF pa) a b q S ++ (playW G q (d 0) P ++ (textW G b t L ++ (rollW G a v ++ (rollW G d u ++ pastW G pa pv))))) H := (z_perm (pn_a _ _ _ _ _).symm hP)
  have hD : va_D A (headW G o pr (prF pa) a b q S ++ (playW G q (d 0) P ++ (textW G b t L ++ (rollW G a v ++ (rollW G d u ++ pastW G pa pv))))) := (z_permD (pn_a _ _ _ _ _).symm hD)
  refine lv_istore (lv' := [(4, .int (nI n)), (0, .ref o), (1, .int (nI tb)), (2, .int (nI cl)), (3, .int x)]) hx hb dX3_put_19 hl (by decide) rfl (fun ls hl => ?_)
  refine lv_iload hx hb dX3_put_21 (lv_at hl 0 rfl) ?_
  refine z_ifNge (tgt := 29) hx hb dX3_put_23 (by decide) (by omega) (fun c_2 => ?_) (fun c_2 => absurd c_2 (Nat.not_lt_zero _))
  refine lv_aload_n hx hb dX3_put_29 rfl (lv_at hl 1 rfl) ?_
  refine va_get (D := G.1) (ci := 3) (v := .ref (a 0)) (C := RX3) (T := TX3) (N := 5) hx hb hts hinX3 hown hKK.1 hP 0 rfl rfl 0 (by decide) fl_10 (fun _ h9 => h9) rfl dX3_put_30 ?_
  refine lv_iload hx hb dX3_put_33 (lv_at hl 0 rfl) ?_
  refine z_callVI (As := [.int (nI n)]) (rest := []) (wr := (headW G o pr (prF pa) a b q S ++ (playW G q (d 0) P ++ (textW G b t L ++ (rollW G d u ++ pastW G pa pv))))) (C := RX1) F (hcal) (cwV 1 hts gX3_put_X1_hasRoomForUser rfl rfl rfl (by decide +kernel) ⟨Nat.le_of_ble_eq_true rfl, Nat.le_of_ble_eq_true rfl⟩) hKK (z_recv hKK hP (q0 := 5) (ci := 1) rfl rfl) (z_perm (pn_a _ _ _ _ _) hP) (z_permD (pn_a _ _ _ _ _) hD) hS hA rfl hl.1 rfl (Nat.le_of_ble_eq_true rfl) ⟨Nat.zero_le _, Nat.zero_le _⟩ dX3_put_35 (fun H locs hP hD hS => ?_)
  have hP : va_P G.1 vwCl (headW G o pr (prF pa) a b q S ++ (playW G q (d 0) P ++ (textW G b t L ++ (rollW G a v ++ (rollW G d u ++ pastW G pa pv))))) H := (z_perm (pn_a _ _ _ _ _).symm hP)
  have hD : va_D A (headW G o pr (prF pa) a b q S ++ (playW G q (d 0) P ++ (textW G b t L ++ (rollW G a v ++ (rollW G d u ++ pastW G pa pv))))) := (z_permD (pn_a _ _ _ _ _).symm hD)
  refine z_ifBne (tgt := 44) hx hb dX3_put_38 (by decide) (fun c_3 => ?_) (fun c_3 => absurd c_3 (by decide))
  refine lv_aload_n hx hb dX3_put_44 rfl (lv_at hl 1 rfl) ?_
  refine z_callVV (As := []) (rest := []) (wr := []) (C := RX3) F (c_X3_recordState l G o pr q a b d pa S P L t v u pv h4) (cwV 0 hts gX3_put_X3_recordState rfl rfl rfl (by decide +kernel) ⟨Nat.le_of_ble_eq_true rfl, Nat.le_of_ble_eq_true rfl⟩) hKK (z_recv hKK hP (q0 := 0) (ci := 3) rfl rfl) hP hD hS hA rfl hl.1 rfl (Nat.le_of_ble_eq_true rfl) ⟨Nat.zero_le _, Nat.zero_le _⟩ dX3_put_45 (fun H locs hP hD hS => ?_)
  have hP : va_P G.1 vwCl (headW G o pr (prF (rcA (S 0) pa)) a b q (nup S 0 (svN (S 0))) ++ (playW G q (d 0) P ++ (textW G b t L ++ (rollW G a v ++ (rollW G d u ++ pastW G (rcA (S 0) pa) (rcV (S 0) pv v)))))) H := hP
  have hD : va_D A (headW G o pr (prF (rcA (S 0) pa)) a b q (nup S 0 (svN (S 0))) ++ (playW G q (d 0) P ++ (textW G b t L ++ (rollW G a v ++ (rollW G d u ++ pastW G (rcA (S 0) pa) (rcV (S 0) pv v)))))) := hD
  refine lv_aload_n hx hb dX3_put_48 rfl (lv_at hl 1 rfl) ?_
  refine va_get (D := G.1) (ci := 3) (v := .ref (a 0)) (C := RX3) (T := TX3) (N := 5) hx hb hts hinX3 hown hKK.1 hP 0 rfl rfl 0 (by decide) fl_10 (fun _ h9 => h9) rfl dX3_put_49 ?_
  refine lv_iload_n hx hb dX3_put_52 rfl (lv_at hl 2 rfl) ?_
  refine lv_iload_n hx hb dX3_put_53 rfl (lv_at hl 3 rfl) ?_
  refine z_callSI (As := [.int (nI tb), .int (nI cl)]) (rest := [.ref (a 0)]) F (c_X3_cellIndex l G tb cl) (va_cwS 2 hts gX3_put_X3_cellIndex rfl rfl rfl (by decide +kernel) ⟨Nat.le_of_ble_eq_true rfl, Nat.le_of_ble_eq_true rfl⟩) hKK hP hD hS hA rfl hl.1 rfl (Nat.le_of_ble_eq_true rfl) ⟨Nat.zero_le _, Nat.zero_le _⟩ dX3_put_54 (fun H locs hP hD hS => ?_)
  refine lv_iload hx hb dX3_put_57 (lv_at hl 0 rfl) ?_
  refine z_callVI (As := [.int (nI (tb * 6 + cl)), .int (nI n)]) (rest := []) (wr := (headW G o pr (prF (rcA (S 0) pa)) a b q (nup S 0 (svN (S 0))) ++ (playW G q (d 0) P ++ (textW G b t L ++ (rollW G d u ++ pastW G (rcA (S 0) pa) (rcV (S 0) pv v)))))) (C := RX1) F (hdo) (cwV 2 hts gX3_put_X1_fillCell rfl rfl rfl (by decide +kernel) ⟨Nat.le_of_ble_eq_true rfl, Nat.le_of_ble_eq_true rfl⟩) hKK (z_recv hKK hP (q0 := 5) (ci := 1) rfl rfl) (z_perm (pn_a _ _ _ _ _) hP) (z_permD (pn_a _ _ _ _ _) hD) hS hA rfl hl.1 rfl (Nat.le_of_ble_eq_true rfl) ⟨Nat.zero_le _, Nat.zero_le _⟩ dX3_put_59 (fun H locs hP hD hS => ?_)
  have hP : va_P G.1 vwCl (headW G o pr (prF (rcA (S 0) pa)) a b q (nup S 0 (svN (S 0))) ++ (playW G q (d 0) P ++ (textW G b t L ++ (rollW G a w ++ (rollW G d u ++ pastW G (rcA (S 0) pa) (rcV (S 0) pv v)))))) H := (z_perm (pn_a _ _ _ _ _).symm hP)
  have hD : va_D A (headW G o pr (prF (rcA (S 0) pa)) a b q (nup S 0 (svN (S 0))) ++ (playW G q (d 0) P ++ (textW G b t L ++ (rollW G a w ++ (rollW G d u ++ pastW G (rcA (S 0) pa) (rcV (S 0) pv v)))))) := (z_permD (pn_a _ _ _ _ _).symm hD)
  exact z_iret hx hb hr hlk hP hD hS dX3_put_62 rfl rfl

set_option maxHeartbeats 4000000 in
set_option maxRecDepth 100000 in
theorem c_X3_clear_bad (l : Launch) (G : ZG) (o pr q : Nat) (a b d : Nat → Nat) (pa : Nat → Nat → Nat) (S P L : Nat → Nat) (t v u : Mem) (pv : Nat → Mem) (x y : Int32) (h9 : (zBel x 3 && zBel y 6) = false) : CI l G yX3_clear wsX3_clear (zRm 3 83) [.ref o, .int x, .int y] (headW G o pr (prF pa) a b q S ++ (playW G q (d 0) P ++ (textW G b t L ++ (rollW G a v ++ (rollW G d u ++ pastW G pa pv))))) ((-1000001)) (headW G o pr (prF pa) a b q S ++ (playW G q (d 0) P ++ (textW G b t L ++ (rollW G a v ++ (rollW G d u ++ pastW G pa pv))))) := by
  refine CI.ent (cc := cX3_clear) (maxL := 3) (ty := .int) (own := RX3) (by decide) rfl rfl (Nat.le_of_ble_eq_true rfl) ?_
  intro p ee s m args below meth c A ls F hr hlk hKK hP hD hA hS hl
  obtain ⟨hx, hb, hml, hown, hts⟩ := id F
  have hl : lv_has ls 3 [(0, .ref o), (1, .int x), (2, .int y)] := hl
  have ct_38 := hts (.constant RX3 38 (-1000001)) (by decide +kernel)
  refine lv_iload_n hx hb dX3_clear_0 rfl (lv_at hl 1 rfl) ?_
  refine lv_iload_n hx hb dX3_clear_1 rfl (lv_at hl 2 rfl) ?_
  refine z_callSI (As := [.int x, .int y]) (rest := []) F (c_X3_isCell_b l G x y false h9) (va_cwS 2 hts gX3_clear_X3_isCell rfl rfl rfl (by decide +kernel) ⟨Nat.le_of_ble_eq_true rfl, Nat.le_of_ble_eq_true rfl⟩) hKK hP hD hS hA rfl hl.1 rfl (Nat.le_of_ble_eq_true rfl) ⟨Nat.zero_le _, Nat.zero_le _⟩ dX3_clear_2 (fun H locs hP hD hS => ?_)
  refine z_ifBne (tgt := 11) hx hb dX3_clear_5 (by decide) (fun c_1 => absurd c_1 (by decide)) (fun c_1 => ?_)
  refine z_ldc (v' := (-1000001)) hx hb hown ct_38 dX3_clear_8 rfl ?_
  exact z_iret hx hb hr hlk hP hD hS dX3_clear_10 rfl rfl

set_option maxHeartbeats 4000000 in
set_option maxRecDepth 100000 in
theorem c_X3_clear_no (l : Launch) (G : ZG) (o pr q : Nat) (a b d : Nat → Nat) (pa : Nat → Nat → Nat) (S P L : Nat → Nat) (t v u : Mem) (pv : Nat → Mem) (tb cl : Nat) (htb : tb < 3) (hcl : cl < 6) (he : v 3 (tb * 6 + cl) = -1) : CI l G yX3_clear wsX3_clear (zRm 3 83) [.ref o, .int (nI tb), .int (nI cl)] (headW G o pr (prF pa) a b q S ++ (playW G q (d 0) P ++ (textW G b t L ++ (rollW G a v ++ (rollW G d u ++ pastW G pa pv))))) ((-1000002)) (headW G o pr (prF pa) a b q S ++ (playW G q (d 0) P ++ (textW G b t L ++ (rollW G a v ++ (rollW G d u ++ pastW G pa pv))))) := by
  refine CI.ent (cc := cX3_clear) (maxL := 3) (ty := .int) (own := RX3) (by decide) rfl rfl (Nat.le_of_ble_eq_true rfl) ?_
  intro p ee s m args below meth c A ls F hr hlk hKK hP hD hA hS hl
  obtain ⟨hx, hb, hml, hown, hts⟩ := id F
  have hl : lv_has ls 3 [(0, .ref o), (1, .int (nI tb)), (2, .int (nI cl))] := hl
  have ct_66 := hts (.constant RX3 66 (-1000002)) (by decide +kernel)
  have fl_10 := hts (.fieldLink RX3 10 "NameRolls" "now" "LNameRolls$Roll;") (by decide +kernel)
  have fl_85 := hts (.fieldLink RX3 85 "NameRolls$Roll" "cells" "[I") (by decide +kernel)
  have hinX1 : ∀ w ∈ wsX10, w ∈ wsX3_clear := by decide +kernel
  have hinX3 : ∀ w ∈ wsX30, w ∈ wsX3_clear := by decide +kernel
  refine lv_iload_n hx hb dX3_clear_0 rfl (lv_at hl 1 rfl) ?_
  refine lv_iload_n hx hb dX3_clear_1 rfl (lv_at hl 2 rfl) ?_
  refine z_callSI (As := [.int (nI tb), .int (nI cl)]) (rest := []) F (c_X3_isCell_b l G (nI tb) (nI cl) true (cell_ok htb hcl)) (va_cwS 2 hts gX3_clear_X3_isCell rfl rfl rfl (by decide +kernel) ⟨Nat.le_of_ble_eq_true rfl, Nat.le_of_ble_eq_true rfl⟩) hKK hP hD hS hA rfl hl.1 rfl (Nat.le_of_ble_eq_true rfl) ⟨Nat.zero_le _, Nat.zero_le _⟩ dX3_clear_2 (fun H locs hP hD hS => ?_)
  refine z_ifBne (tgt := 11) hx hb dX3_clear_5 (by decide) (fun c_1 => ?_) (fun c_1 => absurd c_1 (by decide))
  refine lv_aload_n hx hb dX3_clear_11 rfl (lv_at hl 0 rfl) ?_
  refine va_get (D := G.1) (ci := 3) (v := .ref (a 0)) (C := RX3) (T := TX3) (N := 5) hx hb hts hinX3 hown hKK.1 hP 0 rfl rfl 0 (by decide) fl_10 (fun _ h9 => h9) rfl dX3_clear_12 ?_
  refine va_get (D := G.1) (ci := 1) (v := .ref (a 4)) (C := RX1) (T := TX1) (N := 15) hx hb hts hinX1 hown hKK.1 hP 5 rfl rfl 3 (by decide) fl_85 (fun _ h9 => h9) rfl dX3_clear_15 ?_
  refine lv_iload_n hx hb dX3_clear_18 rfl (lv_at hl 1 rfl) ?_
  refine lv_iload_n hx hb dX3_clear_19 rfl (lv_at hl 2 rfl) ?_
  refine z_callSI (As := [.int (nI tb), .int (nI cl)]) (rest := [.ref (a 4)]) F (c_X3_cellIndex l G tb cl) (va_cwS 2 hts gX3_clear_X3_cellIndex rfl rfl rfl (by decide +kernel) ⟨Nat.le_of_ble_eq_true rfl, Nat.le_of_ble_eq_true rfl⟩) hKK hP hD hS hA rfl hl.1 rfl (Nat.le_of_ble_eq_true rfl) ⟨Nat.zero_le _, Nat.zero_le _⟩ dX3_clear_20 (fun H locs hP hD hS => ?_)
  refine z_iald (n := 18) (f := v 3) (v := v 3 (tb * 6 + cl)) hx hb hKK hP 9 rfl (by omega) (by decide) rfl dX3_clear_23 ?_
  refine lv_iconst (v := (-1)) hx hb dX3_clear_24 (by decide) ?_
  refine lv_icmp_ne (tgt := 31) hx hb dX3_clear_25 (by decide) (fun c_2 => absurd he c_2) (fun c_2 => ?_)
  refine z_ldc (v' := (-1000002)) hx hb hown ct_66 dX3_clear_28 rfl ?_
  exact z_iret hx hb hr hlk hP hD hS dX3_clear_30 rfl rfl

set_option maxHeartbeats 4000000 in
set_option maxRecDepth 100000 in
theorem c_X3_cellOf_bad (l : Launch) (G : ZG) (o pr q : Nat) (a b d : Nat → Nat) (pa : Nat → Nat → Nat) (S P L : Nat → Nat) (t v u : Mem) (pv : Nat → Mem) (x y : Int32) (h9 : (zBel x 3 && zBel y 6) = false) : CI l G yX3_cellOf wsX3_cellOf (zRm 2 43) [.ref o, .int x, .int y] (headW G o pr (prF pa) a b q S ++ (playW G q (d 0) P ++ (textW G b t L ++ (rollW G a v ++ (rollW G d u ++ pastW G pa pv))))) ((-1000001)) (headW G o pr (prF pa) a b q S ++ (playW G q (d 0) P ++ (textW G b t L ++ (rollW G a v ++ (rollW G d u ++ pastW G pa pv))))) := by
  refine CI.ent (cc := cX3_cellOf) (maxL := 4) (ty := .int) (own := RX3) (by decide) rfl rfl (Nat.le_of_ble_eq_true rfl) ?_
  intro p ee s m args below meth c A ls F hr hlk hKK hP hD hA hS hl
  obtain ⟨hx, hb, hml, hown, hts⟩ := id F
  have hl : lv_has ls 4 [(0, .ref o), (1, .int x), (2, .int y)] := hl
  have ct_38 := hts (.constant RX3 38 (-1000001)) (by decide +kernel)
  refine lv_iload_n hx hb dX3_cellOf_0 rfl (lv_at hl 1 rfl) ?_
  refine lv_iload_n hx hb dX3_cellOf_1 rfl (lv_at hl 2 rfl) ?_
  refine z_callSI (As := [.int x, .int y]) (rest := []) F (c_X3_isCell_b l G x y false h9) (va_cwS 2 hts gX3_cellOf_X3_isCell rfl rfl rfl (by decide +kernel) ⟨Nat.le_of_ble_eq_true rfl, Nat.le_of_ble_eq_true rfl⟩) hKK hP hD hS hA rfl hl.1 rfl (Nat.le_of_ble_eq_true rfl) ⟨Nat.zero_le _, Nat.zero_le _⟩ dX3_cellOf_2 (fun H locs hP hD hS => ?_)
  refine z_ifBne (tgt := 11) hx hb dX3_cellOf_5 (by decide) (fun c_1 => absurd c_1 (by decide)) (fun c_1 => ?_)
  refine z_ldc (v' := (-1000001)) hx hb hown ct_38 dX3_cellOf_8 rfl ?_
  exact z_iret hx hb hr hlk hP hD hS dX3_cellOf_10 rfl rfl

set_option maxHeartbeats 4000000 in
set_option maxRecDepth 100000 in
theorem c_X3_cellOf_no (l : Launch) (G : ZG) (o pr q : Nat) (a b d : Nat → Nat) (pa : Nat → Nat → Nat) (S P L : Nat → Nat) (t v u : Mem) (pv : Nat → Mem) (tb cl : Nat) (htb : tb < 3) (hcl : cl < 6) (he : v 3 (tb * 6 + cl) = -1) : CI l G yX3_cellOf wsX3_cellOf (zRm 2 43) [.ref o, .int (nI tb), .int (nI cl)] (headW G o pr (prF pa) a b q S ++ (playW G q (d 0) P ++ (textW G b t L ++ (rollW G a v ++ (rollW G d u ++ pastW G pa pv))))) ((-1000004)) (headW G o pr (prF pa) a b q S ++ (playW G q (d 0) P ++ (textW G b t L ++ (rollW G a v ++ (rollW G d u ++ pastW G pa pv))))) := by
  refine CI.ent (cc := cX3_cellOf) (maxL := 4) (ty := .int) (own := RX3) (by decide) rfl rfl (Nat.le_of_ble_eq_true rfl) ?_
  intro p ee s m args below meth c A ls F hr hlk hKK hP hD hA hS hl
  obtain ⟨hx, hb, hml, hown, hts⟩ := id F
  have hl : lv_has ls 4 [(0, .ref o), (1, .int (nI tb)), (2, .int (nI cl))] := hl
  have ct_91 := hts (.constant RX3 91 (-1000004)) (by decide +kernel)
  have fl_10 := hts (.fieldLink RX3 10 "NameRolls" "now" "LNameRolls$Roll;") (by decide +kernel)
  have fl_85 := hts (.fieldLink RX3 85 "NameRolls$Roll" "cells" "[I") (by decide +kernel)
  have hinX1 : ∀ w ∈ wsX10, w ∈ wsX3_cellOf := by decide +kernel
  have hinX3 : ∀ w ∈ wsX30, w ∈ wsX3_cellOf := by decide +kernel
  refine lv_iload_n hx hb dX3_cellOf_0 rfl (lv_at hl 1 rfl) ?_
  refine lv_iload_n hx hb dX3_cellOf_1 rfl (lv_at hl 2 rfl) ?_
  refine z_callSI (As := [.int (nI tb), .int (nI cl)]) (rest := []) F (c_X3_isCell_b l G (nI tb) (nI cl) true (cell_ok htb hcl)) (va_cwS 2 hts gX3_cellOf_X3_isCell rfl rfl rfl (by decide +kernel) ⟨Nat.le_of_ble_eq_true rfl, Nat.le_of_ble_eq_true rfl⟩) hKK hP hD hS hA rfl hl.1 rfl (Nat.le_of_ble_eq_true rfl) ⟨Nat.zero_le _, Nat.zero_le _⟩ dX3_cellOf_2 (fun H locs hP hD hS => ?_)
  refine z_ifBne (tgt := 11) hx hb dX3_cellOf_5 (by decide) (fun c_1 => ?_) (fun c_1 => absurd c_1 (by decide))
  refine lv_aload_n hx hb dX3_cellOf_11 rfl (lv_at hl 0 rfl) ?_
  refine va_get (D := G.1) (ci := 3) (v := .ref (a 0)) (C := RX3) (T := TX3) (N := 5) hx hb hts hinX3 hown hKK.1 hP 0 rfl rfl 0 (by decide) fl_10 (fun _ h9 => h9) rfl dX3_cellOf_12 ?_
  refine va_get (D := G.1) (ci := 1) (v := .ref (a 4)) (C := RX1) (T := TX1) (N := 15) hx hb hts hinX1 hown hKK.1 hP 5 rfl rfl 3 (by decide) fl_85 (fun _ h9 => h9) rfl dX3_cellOf_15 ?_
  refine lv_iload_n hx hb dX3_cellOf_18 rfl (lv_at hl 1 rfl) ?_
  refine lv_iload_n hx hb dX3_cellOf_19 rfl (lv_at hl 2 rfl) ?_
  refine z_callSI (As := [.int (nI tb), .int (nI cl)]) (rest := [.ref (a 4)]) F (c_X3_cellIndex l G tb cl) (va_cwS 2 hts gX3_cellOf_X3_cellIndex rfl rfl rfl (by decide +kernel) ⟨Nat.le_of_ble_eq_true rfl, Nat.le_of_ble_eq_true rfl⟩) hKK hP hD hS hA rfl hl.1 rfl (Nat.le_of_ble_eq_true rfl) ⟨Nat.zero_le _, Nat.zero_le _⟩ dX3_cellOf_20 (fun H locs hP hD hS => ?_)
  refine z_iald (n := 18) (f := v 3) (v := v 3 (tb * 6 + cl)) hx hb hKK hP 9 rfl (by omega) (by decide) rfl dX3_cellOf_23 ?_
  refine lv_istore_n (lv' := [(3, .int (v 3 (tb * 6 + cl))), (0, .ref o), (1, .int (nI tb)), (2, .int (nI cl))]) hx hb dX3_cellOf_24 rfl hl (by decide) rfl (fun ls hl => ?_)
  refine lv_iload_n hx hb dX3_cellOf_25 rfl (lv_at hl 0 rfl) ?_
  refine lv_iconst (v := (-1)) hx hb dX3_cellOf_26 (by decide) ?_
  refine lv_icmp_ne (tgt := 35) hx hb dX3_cellOf_27 (by decide) (fun c_2 => absurd he c_2) (fun c_2 => ?_)
  refine z_ldc (v' := (-1000004)) hx hb hown ct_91 dX3_cellOf_30 rfl ?_
  refine lv_goto (tgt := 43) hx hb dX3_cellOf_32 (by decide) ?_
  exact z_iret hx hb hr hlk hP hD hS dX3_cellOf_43 rfl rfl

set_option maxHeartbeats 4000000 in
set_option maxRecDepth 100000 in
theorem c_X3_clear_ok (l : Launch) (G : ZG) (o pr q : Nat) (a b d : Nat → Nat) (pa : Nat → Nat → Nat) (S P L : Nat → Nat) (t v u : Mem) (pv : Nat → Mem) (tb cl n : Nat) (w : Mem) (r0 : Int32) (htb : tb < 3) (hcl : cl < 6) (he : v 3 (tb * 6 + cl) = nI n) (hn : n < 40) (h4 : S 0 ≤ 4) (hdo : CI l G yX1_emptyCell wsX1_emptyCell (zRm 2 42) [.ref (a 0), .int (nI (tb * 6 + cl))] (rollW G a v) r0 (rollW G a w)) : CI l G yX3_clear wsX3_clear (zRm 3 83) [.ref o, .int (nI tb), .int (nI cl)] (headW G o pr (prF pa) a b q S ++ (playW G q (d 0) P ++ (textW G b t L ++ (rollW G a v ++ (rollW G d u ++ pastW G pa pv))))) r0 (headW G o pr (prF (rcA (S 0) pa)) a b q (nup S 0 (svN (S 0))) ++ (playW G q (d 0) P ++ (textW G b t L ++ (rollW G a w ++ (rollW G d u ++ pastW G (rcA (S 0) pa) (rcV (S 0) pv v)))))) := by
  refine CI.ent (cc := cX3_clear) (maxL := 3) (ty := .int) (own := RX3) (by decide) rfl rfl (Nat.le_of_ble_eq_true rfl) ?_
  intro p ee s m args below meth c A ls F hr hlk hKK hP hD hA hS hl
  obtain ⟨hx, hb, hml, hown, hts⟩ := id F
  have hl : lv_has ls 3 [(0, .ref o), (1, .int (nI tb)), (2, .int (nI cl))] := hl
  have fl_10 := hts (.fieldLink RX3 10 "NameRolls" "now" "LNameRolls$Roll;") (by decide +kernel)
  have fl_85 := hts (.fieldLink RX3 85 "NameRolls$Roll" "cells" "[I") (by decide +kernel)
  have hinX1 : ∀ w ∈ wsX10, w ∈ wsX3_clear := by decide +kernel
  have hinX3 : ∀ w ∈ wsX30, w ∈ wsX3_clear := by decide +kernel
  refine lv_iload_n hx hb dX3_clear_0 rfl (lv_at hl 1 rfl) ?_
  refine lv_iload_n hx hb dX3_clear_1 rfl (lv_at hl 2 rfl) ?_
  refine z_callSI (As := [.int (nI tb), .int (nI cl)]) (rest := []) F (c_X3_isCell_b l G (nI tb) (nI cl) true (cell_ok htb hcl)) (va_cwS 2 hts gX3_clear_X3_isCell rfl rfl rfl (by decide +kernel) ⟨Nat.le_of_ble_eq_true rfl, Nat.le_of_ble_eq_true rfl⟩) hKK hP hD hS hA rfl hl.1 rfl (Nat.le_of_ble_eq_true rfl) ⟨Nat.zero_le _, Nat.zero_le _⟩ dX3_clear_2 (fun H locs hP hD hS => ?_)
  refine z_ifBne (tgt := 11) hx hb dX3_clear_5 (by decide) (fun c_1 => ?_) (fun c_1 => absurd c_1 (by decide))
  refine lv_aload_n hx hb dX3_clear_11 rfl (lv_at hl 0 rfl) ?_
  refine va_get (D := G.1) (ci := 3) (v := .ref (a 0)) (C := RX3) (T := TX3) (N := 5) hx hb hts hinX3 hown hKK.1 hP 0 rfl rfl 0 (by decide) fl_10 (fun _ h9 => h9) rfl dX3_clear_12 ?_
  refine va_get (D := G.1) (ci := 1) (v := .ref (a 4)) (C := RX1) (T := TX1) (N := 15) hx hb hts hinX1 hown hKK.1 hP 5 rfl rfl 3 (by decide) fl_85 (fun _ h9 => h9) rfl dX3_clear_15 ?_
  refine lv_iload_n hx hb dX3_clear_18 rfl (lv_at hl 1 rfl) ?_
  refine lv_iload_n hx hb dX3_clear_19 rfl (lv_at hl 2 rfl) ?_
  refine z_callSI (As := [.int (nI tb), .int (nI cl)]) (rest := [.ref (a 4)]) F (c_X3_cellIndex l G tb cl) (va_cwS 2 hts gX3_clear_X3_cellIndex rfl rfl rfl (by decide +kernel) ⟨Nat.le_of_ble_eq_true rfl, Nat.le_of_ble_eq_true rfl⟩) hKK hP hD hS hA rfl hl.1 rfl (Nat.le_of_ble_eq_true rfl) ⟨Nat.zero_le _, Nat.zero_le _⟩ dX3_clear_20 (fun H locs hP hD hS => ?_)
  refine z_iald (n := 18) (f := v 3) (v := v 3 (tb * 6 + cl)) hx hb hKK hP 9 rfl (by omega) (by decide) rfl dX3_clear_23 ?_
  refine lv_iconst (v := (-1)) hx hb dX3_clear_24 (by decide) ?_
  refine lv_icmp_ne (tgt := 31) hx hb dX3_clear_25 (by decide) (fun c_2 => ?_) (fun c_2 => absurd (he.symm.trans c_2) (nI_nm1 (by omega)))
  refine lv_aload_n hx hb dX3_clear_31 rfl (lv_at hl 0 rfl) ?_
  refine z_callVV (As := []) (rest := []) (wr := []) (C := RX3) F (c_X3_recordState l G o pr q a b d pa S P L t v u pv h4) (cwV 0 hts gX3_clear_X3_recordState rfl rfl rfl (by decide +kernel) ⟨Nat.le_of_ble_eq_true rfl, Nat.le_of_ble_eq_true rfl⟩) hKK (z_recv hKK hP (q0 := 0) (ci := 3) rfl rfl) hP hD hS hA rfl hl.1 rfl (Nat.le_of_ble_eq_true rfl) ⟨Nat.zero_le _, Nat.zero_le _⟩ dX3_clear_32 (fun H locs hP hD hS => ?_)
  have hP : va_P G.1 vwCl (headW G o pr (prF (rcA (S 0) pa)) a b q (nup S 0 (svN (S 0))) ++ (playW G q (d 0) P ++ (textW G b t L ++ (rollW G a v ++ (rollW G d u ++ pastW G (rcA (S 0) pa) (rcV (S 0) pv v)))))) H := hP
  have hD : va_D A (headW G o pr (prF (rcA (S 0) pa)) a b q (nup S 0 (svN (S 0))) ++ (playW G q (d 0) P ++ (textW G b t L ++ (rollW G a v ++ (rollW G d u ++ pastW G (rcA (S 0) pa) (rcV (S 0) pv v)))))) := hD
  refine lv_aload_n hx hb dX3_clear_35 rfl (lv_at hl 0 rfl) ?_
  refine va_get (D := G.1) (ci := 3) (v := .ref (a 0)) (C := RX3) (T := TX3) (N := 5) hx hb hts hinX3 hown hKK.1 hP 0 rfl rfl 0 (by decide) fl_10 (fun _ h9 => h9) rfl dX3_clear_36 ?_
  refine lv_iload_n hx hb dX3_clear_39 rfl (lv_at hl 1 rfl) ?_
  refine lv_iload_n hx hb dX3_clear_40 rfl (lv_at hl 2 rfl) ?_
  refine z_callSI (As := [.int (nI tb), .int (nI cl)]) (rest := [.ref (a 0)]) F (c_X3_cellIndex l G tb cl) (va_cwS 2 hts gX3_clear_X3_cellIndex rfl rfl rfl (by decide +kernel) ⟨Nat.le_of_ble_eq_true rfl, Nat.le_of_ble_eq_true rfl⟩) hKK hP hD hS hA rfl hl.1 rfl (Nat.le_of_ble_eq_true rfl) ⟨Nat.zero_le _, Nat.zero_le _⟩ dX3_clear_41 (fun H locs hP hD hS => ?_)
  refine z_callVI (As := [.int (nI (tb * 6 + cl))]) (rest := []) (wr := (headW G o pr (prF (rcA (S 0) pa)) a b q (nup S 0 (svN (S 0))) ++ (playW G q (d 0) P ++ (textW G b t L ++ (rollW G d u ++ pastW G (rcA (S 0) pa) (rcV (S 0) pv v)))))) (C := RX1) F (hdo) (cwV 1 hts gX3_clear_X1_emptyCell rfl rfl rfl (by decide +kernel) ⟨Nat.le_of_ble_eq_true rfl, Nat.le_of_ble_eq_true rfl⟩) hKK (z_recv hKK hP (q0 := 5) (ci := 1) rfl rfl) (z_perm (pn_a _ _ _ _ _) hP) (z_permD (pn_a _ _ _ _ _) hD) hS hA rfl hl.1 rfl (Nat.le_of_ble_eq_true rfl) ⟨Nat.zero_le _, Nat.zero_le _⟩ dX3_clear_44 (fun H locs hP hD hS => ?_)
  have hP : va_P G.1 vwCl (headW G o pr (prF (rcA (S 0) pa)) a b q (nup S 0 (svN (S 0))) ++ (playW G q (d 0) P ++ (textW G b t L ++ (rollW G a w ++ (rollW G d u ++ pastW G (rcA (S 0) pa) (rcV (S 0) pv v)))))) H := (z_perm (pn_a _ _ _ _ _).symm hP)
  have hD : va_D A (headW G o pr (prF (rcA (S 0) pa)) a b q (nup S 0 (svN (S 0))) ++ (playW G q (d 0) P ++ (textW G b t L ++ (rollW G a w ++ (rollW G d u ++ pastW G (rcA (S 0) pa) (rcV (S 0) pv v)))))) := (z_permD (pn_a _ _ _ _ _).symm hD)
  exact z_iret hx hb hr hlk hP hD hS dX3_clear_47 rfl rfl

set_option maxHeartbeats 4000000 in
set_option maxRecDepth 100000 in
theorem c_X3_cellOf_ok (l : Launch) (G : ZG) (o pr q : Nat) (a b d : Nat → Nat) (pa : Nat → Nat → Nat) (S P L : Nat → Nat) (t v u : Mem) (pv : Nat → Mem) (tb cl n : Nat) (htb : tb < 3) (hcl : cl < 6) (he : v 3 (tb * 6 + cl) = nI n) (hn : n < 40) : CI l G yX3_cellOf wsX3_cellOf (zRm 2 43) [.ref o, .int (nI tb), .int (nI cl)] (headW G o pr (prF pa) a b q S ++ (playW G q (d 0) P ++ (textW G b t L ++ (rollW G a v ++ (rollW G d u ++ pastW G pa pv))))) (nI 1000000 * v 12 0 + nI 100 * v 2 n + nI n) (headW G o pr (prF pa) a b q S ++ (playW G q (d 0) P ++ (textW G b t L ++ (rollW G a v ++ (rollW G d u ++ pastW G pa pv))))) := by
  refine CI.ent (cc := cX3_cellOf) (maxL := 4) (ty := .int) (own := RX3) (by decide) rfl rfl (Nat.le_of_ble_eq_true rfl) ?_
  intro p ee s m args below meth c A ls F hr hlk hKK hP hD hA hS hl
  obtain ⟨hx, hb, hml, hown, hts⟩ := id F
  have hl : lv_has ls 4 [(0, .ref o), (1, .int (nI tb)), (2, .int (nI cl))] := hl
  have fl_10 := hts (.fieldLink RX3 10 "NameRolls" "now" "LNameRolls$Roll;") (by decide +kernel)
  have fl_85 := hts (.fieldLink RX3 85 "NameRolls$Roll" "cells" "[I") (by decide +kernel)
  have hinX1 : ∀ w ∈ wsX10, w ∈ wsX3_cellOf := by decide +kernel
  have hinX3 : ∀ w ∈ wsX30, w ∈ wsX3_cellOf := by decide +kernel
  refine lv_iload_n hx hb dX3_cellOf_0 rfl (lv_at hl 1 rfl) ?_
  refine lv_iload_n hx hb dX3_cellOf_1 rfl (lv_at hl 2 rfl) ?_
  refine z_callSI (As := [.int (nI tb), .int (nI cl)]) (rest := []) F (c_X3_isCell_b l G (nI tb) (nI cl) true (cell_ok htb hcl)) (va_cwS 2 hts gX3_cellOf_X3_isCell rfl rfl rfl (by decide +kernel) ⟨Nat.le_of_ble_eq_true rfl, Nat.le_of_ble_eq_true rfl⟩) hKK hP hD hS hA rfl hl.1 rfl (Nat.le_of_ble_eq_true rfl) ⟨Nat.zero_le _, Nat.zero_le _⟩ dX3_cellOf_2 (fun H locs hP hD hS => ?_)
  refine z_ifBne (tgt := 11) hx hb dX3_cellOf_5 (by decide) (fun c_1 => ?_) (fun c_1 => absurd c_1 (by decide))
  refine lv_aload_n hx hb dX3_cellOf_11 rfl (lv_at hl 0 rfl) ?_
  refine va_get (D := G.1) (ci := 3) (v := .ref (a 0)) (C := RX3) (T := TX3) (N := 5) hx hb hts hinX3 hown hKK.1 hP 0 rfl rfl 0 (by decide) fl_10 (fun _ h9 => h9) rfl dX3_cellOf_12 ?_
  refine va_get (D := G.1) (ci := 1) (v := .ref (a 4)) (C := RX1) (T := TX1) (N := 15) hx hb hts hinX1 hown hKK.1 hP 5 rfl rfl 3 (by decide) fl_85 (fun _ h9 => h9) rfl dX3_cellOf_15 ?_
  refine lv_iload_n hx hb dX3_cellOf_18 rfl (lv_at hl 1 rfl) ?_
  refine lv_iload_n hx hb dX3_cellOf_19 rfl (lv_at hl 2 rfl) ?_
  refine z_callSI (As := [.int (nI tb), .int (nI cl)]) (rest := [.ref (a 4)]) F (c_X3_cellIndex l G tb cl) (va_cwS 2 hts gX3_cellOf_X3_cellIndex rfl rfl rfl (by decide +kernel) ⟨Nat.le_of_ble_eq_true rfl, Nat.le_of_ble_eq_true rfl⟩) hKK hP hD hS hA rfl hl.1 rfl (Nat.le_of_ble_eq_true rfl) ⟨Nat.zero_le _, Nat.zero_le _⟩ dX3_cellOf_20 (fun H locs hP hD hS => ?_)
  refine z_iald (n := 18) (f := v 3) (v := v 3 (tb * 6 + cl)) hx hb hKK hP 9 rfl (by omega) (by decide) rfl dX3_cellOf_23 ?_
  refine z_top (v := nI n) he ?_
  refine lv_istore_n (lv' := [(3, .int (nI n)), (0, .ref o), (1, .int (nI tb)), (2, .int (nI cl))]) hx hb dX3_cellOf_24 rfl hl (by decide) rfl (fun ls hl => ?_)
  refine lv_iload_n hx hb dX3_cellOf_25 rfl (lv_at hl 0 rfl) ?_
  refine lv_iconst (v := (-1)) hx hb dX3_cellOf_26 (by decide) ?_
  refine lv_icmp_ne (tgt := 35) hx hb dX3_cellOf_27 (by decide) (fun c_2 => ?_) (fun c_2 => absurd c_2 (nI_nm1 (by omega)))
  refine lv_aload_n hx hb dX3_cellOf_35 rfl (lv_at hl 1 rfl) ?_
  refine va_get (D := G.1) (ci := 3) (v := .ref (a 0)) (C := RX3) (T := TX3) (N := 5) hx hb hts hinX3 hown hKK.1 hP 0 rfl rfl 0 (by decide) fl_10 (fun _ h9 => h9) rfl dX3_cellOf_36 ?_
  refine lv_iload_n hx hb dX3_cellOf_39 rfl (lv_at hl 0 rfl) ?_
  refine z_callVI (As := [.int (nI n)]) (rest := []) (wr := (headW G o pr (prF pa) a b q S ++ (playW G q (d 0) P ++ (textW G b t L ++ (rollW G d u ++ pastW G pa pv))))) (C := RX1) F (c_X1_tagOf l G a v n hn) (cwV 1 hts gX3_cellOf_X1_tagOf rfl rfl rfl (by decide +kernel) ⟨Nat.le_of_ble_eq_true rfl, Nat.le_of_ble_eq_true rfl⟩) hKK (z_recv hKK hP (q0 := 5) (ci := 1) rfl rfl) (z_perm (pn_a _ _ _ _ _) hP) (z_permD (pn_a _ _ _ _ _) hD) hS hA rfl hl.1 rfl (Nat.le_of_ble_eq_true rfl) ⟨Nat.zero_le _, Nat.zero_le _⟩ dX3_cellOf_40 (fun H locs hP hD hS => ?_)
  have hP : va_P G.1 vwCl (headW G o pr (prF pa) a b q S ++ (playW G q (d 0) P ++ (textW G b t L ++ (rollW G a v ++ (rollW G d u ++ pastW G pa pv))))) H := (z_perm (pn_a _ _ _ _ _).symm hP)
  have hD : va_D A (headW G o pr (prF pa) a b q S ++ (playW G q (d 0) P ++ (textW G b t L ++ (rollW G a v ++ (rollW G d u ++ pastW G pa pv))))) := (z_permD (pn_a _ _ _ _ _).symm hD)
  exact z_iret hx hb hr hlk hP hD hS dX3_cellOf_43 rfl rfl

set_option maxHeartbeats 4000000 in
set_option maxRecDepth 100000 in
theorem c_X3_compact_bad (l : Launch) (G : ZG) (o pr q : Nat) (a b d : Nat → Nat) (pa : Nat → Nat → Nat) (S P L : Nat → Nat) (t v u : Mem) (pv : Nat → Mem) (x : Int32) (h9 : zBel x 3 = false) : CI l G yX3_compact wsX3_compact (zRm 4 95) [.ref o, .int x] (headW G o pr (prF pa) a b q S ++ (playW G q (d 0) P ++ (textW G b t L ++ (rollW G a v ++ (rollW G d u ++ pastW G pa pv))))) ((-1000001)) (headW G o pr (prF pa) a b q S ++ (playW G q (d 0) P ++ (textW G b t L ++ (rollW G a v ++ (rollW G d u ++ pastW G pa pv))))) := by
  refine CI.ent (cc := cX3_compact) (maxL := 2) (ty := .int) (own := RX3) (by decide) rfl rfl (Nat.le_of_ble_eq_true rfl) ?_
  intro p ee s m args below meth c A ls F hr hlk hKK hP hD hA hS hl
  obtain ⟨hx, hb, hml, hown, hts⟩ := id F
  have hl : lv_has ls 2 [(0, .ref o), (1, .int x)] := hl
  have ct_38 := hts (.constant RX3 38 (-1000001)) (by decide +kernel)
  refine lv_iload_n hx hb dX3_compact_0 rfl (lv_at hl 1 rfl) ?_
  refine lv_iconst (v := nI 3) hx hb dX3_compact_1 (by decide) ?_
  refine z_callSI (As := [.int x, .int (nI 3)]) (rest := []) F (c_X3_isBelow_b l G x 3 (by decide) false h9) (va_cwS 2 hts gX3_compact_X3_isBelow rfl rfl rfl (by decide +kernel) ⟨Nat.le_of_ble_eq_true rfl, Nat.le_of_ble_eq_true rfl⟩) hKK hP hD hS hA rfl hl.1 rfl (Nat.le_of_ble_eq_true rfl) ⟨Nat.zero_le _, Nat.zero_le _⟩ dX3_compact_2 (fun H locs hP hD hS => ?_)
  refine z_ifBne (tgt := 11) hx hb dX3_compact_5 (by decide) (fun c_1 => absurd c_1 (by decide)) (fun c_1 => ?_)
  refine z_ldc (v' := (-1000001)) hx hb hown ct_38 dX3_compact_8 rfl ?_
  exact z_iret hx hb hr hlk hP hD hS dX3_compact_10 rfl rfl

set_option maxHeartbeats 4000000 in
set_option maxRecDepth 100000 in
theorem c_X3_compact_lim (l : Launch) (G : ZG) (o pr q : Nat) (a b d : Nat → Nat) (pa : Nat → Nat → Nat) (S P L : Nat → Nat) (t v u : Mem) (pv : Nat → Mem) (x : Nat) (h9 : x < 3) (hcal : CI l G yX1_hasNextEpoch wsX1_hasNextEpoch (zRm 0 0) [.ref (a 0)] (rollW G a v) (bI false) (rollW G a v)) : CI l G yX3_compact wsX3_compact (zRm 4 95) [.ref o, .int (nI x)] (headW G o pr (prF pa) a b q S ++ (playW G q (d 0) P ++ (textW G b t L ++ (rollW G a v ++ (rollW G d u ++ pastW G pa pv))))) ((-1000003)) (headW G o pr (prF pa) a b q S ++ (playW G q (d 0) P ++ (textW G b t L ++ (rollW G a v ++ (rollW G d u ++ pastW G pa pv))))) := by
  refine CI.ent (cc := cX3_compact) (maxL := 2) (ty := .int) (own := RX3) (by decide) rfl rfl (Nat.le_of_ble_eq_true rfl) ?_
  intro p ee s m args below meth c A ls F hr hlk hKK hP hD hA hS hl
  obtain ⟨hx, hb, hml, hown, hts⟩ := id F
  have hl : lv_has ls 2 [(0, .ref o), (1, .int (nI x))] := hl
  have ct_42 := hts (.constant RX3 42 (-1000003)) (by decide +kernel)
  have fl_10 := hts (.fieldLink RX3 10 "NameRolls" "now" "LNameRolls$Roll;") (by decide +kernel)
  have hinX3 : ∀ w ∈ wsX30, w ∈ wsX3_compact := by decide +kernel
  refine lv_iload_n hx hb dX3_compact_0 rfl (lv_at hl 1 rfl) ?_
  refine lv_iconst (v := nI 3) hx hb dX3_compact_1 (by decide) ?_
  refine z_callSI (As := [.int (nI x), .int (nI 3)]) (rest := []) F (c_X3_isBelow_b l G (nI x) 3 (by decide) true (bel_ok h9 (by decide))) (va_cwS 2 hts gX3_compact_X3_isBelow rfl rfl rfl (by decide +kernel) ⟨Nat.le_of_ble_eq_true rfl, Nat.le_of_ble_eq_true rfl⟩) hKK hP hD hS hA rfl hl.1 rfl (Nat.le_of_ble_eq_true rfl) ⟨Nat.zero_le _, Nat.zero_le _⟩ dX3_compact_2 (fun H locs hP hD hS => ?_)
  refine z_ifBne (tgt := 11) hx hb dX3_compact_5 (by decide) (fun c_1 => ?_) (fun c_1 => absurd c_1 (by decide))
  refine lv_aload_n hx hb dX3_compact_11 rfl (lv_at hl 0 rfl) ?_
  refine va_get (D := G.1) (ci := 3) (v := .ref (a 0)) (C := RX3) (T := TX3) (N := 5) hx hb hts hinX3 hown hKK.1 hP 0 rfl rfl 0 (by decide) fl_10 (fun _ h9 => h9) rfl dX3_compact_12 ?_
  refine z_callVI (As := []) (rest := []) (wr := (headW G o pr (prF pa) a b q S ++ (playW G q (d 0) P ++ (textW G b t L ++ (rollW G d u ++ pastW G pa pv))))) (C := RX1) F (hcal) (cwV 0 hts gX3_compact_X1_hasNextEpoch rfl rfl rfl (by decide +kernel) ⟨Nat.le_of_ble_eq_true rfl, Nat.le_of_ble_eq_true rfl⟩) hKK (z_recv hKK hP (q0 := 5) (ci := 1) rfl rfl) (z_perm (pn_a _ _ _ _ _) hP) (z_permD (pn_a _ _ _ _ _) hD) hS hA rfl hl.1 rfl (Nat.le_of_ble_eq_true rfl) ⟨Nat.zero_le _, Nat.zero_le _⟩ dX3_compact_15 (fun H locs hP hD hS => ?_)
  have hP : va_P G.1 vwCl (headW G o pr (prF pa) a b q S ++ (playW G q (d 0) P ++ (textW G b t L ++ (rollW G a v ++ (rollW G d u ++ pastW G pa pv))))) H := (z_perm (pn_a _ _ _ _ _).symm hP)
  have hD : va_D A (headW G o pr (prF pa) a b q S ++ (playW G q (d 0) P ++ (textW G b t L ++ (rollW G a v ++ (rollW G d u ++ pastW G pa pv))))) := (z_permD (pn_a _ _ _ _ _).symm hD)
  refine z_ifBne (tgt := 24) hx hb dX3_compact_18 (by decide) (fun c_2 => absurd c_2 (by decide)) (fun c_2 => ?_)
  refine z_ldc (v' := (-1000003)) hx hb hown ct_42 dX3_compact_21 rfl ?_
  exact z_iret hx hb hr hlk hP hD hS dX3_compact_23 rfl rfl

set_option maxHeartbeats 4000000 in
set_option maxRecDepth 100000 in
theorem c_X3_compact_ok (l : Launch) (G : ZG) (o pr q : Nat) (a b d : Nat → Nat) (pa : Nat → Nat → Nat) (S P L : Nat → Nat) (t v u : Mem) (pv : Nat → Mem) (x : Nat) (w : Mem) (r0 : Int32) (h9 : x < 3) (h4 : S 0 ≤ 4) (hcal : CI l G yX1_hasNextEpoch wsX1_hasNextEpoch (zRm 0 0) [.ref (a 0)] (rollW G a v) (bI true) (rollW G a v)) (hdo : CI l G yX1_giveAnew wsX1_giveAnew (zRm 3 69) [.ref (a 0), .int (nI x)] (rollW G a v) r0 (rollW G a w)) : CI l G yX3_compact wsX3_compact (zRm 4 95) [.ref o, .int (nI x)] (headW G o pr (prF pa) a b q S ++ (playW G q (d 0) P ++ (textW G b t L ++ (rollW G a v ++ (rollW G d u ++ pastW G pa pv))))) r0 (headW G o pr (prF (rcA (S 0) pa)) a b q (nup S 0 (svN (S 0))) ++ (playW G q (d 0) P ++ (textW G b t L ++ (rollW G a w ++ (rollW G d u ++ pastW G (rcA (S 0) pa) (rcV (S 0) pv v)))))) := by
  refine CI.ent (cc := cX3_compact) (maxL := 2) (ty := .int) (own := RX3) (by decide) rfl rfl (Nat.le_of_ble_eq_true rfl) ?_
  intro p ee s m args below meth c A ls F hr hlk hKK hP hD hA hS hl
  obtain ⟨hx, hb, hml, hown, hts⟩ := id F
  have hl : lv_has ls 2 [(0, .ref o), (1, .int (nI x))] := hl
  have fl_10 := hts (.fieldLink RX3 10 "NameRolls" "now" "LNameRolls$Roll;") (by decide +kernel)
  have hinX3 : ∀ w ∈ wsX30, w ∈ wsX3_compact := by decide +kernel
  refine lv_iload_n hx hb dX3_compact_0 rfl (lv_at hl 1 rfl) ?_
  refine lv_iconst (v := nI 3) hx hb dX3_compact_1 (by decide) ?_
  refine z_callSI (As := [.int (nI x), .int (nI 3)]) (rest := []) F (c_X3_isBelow_b l G (nI x) 3 (by decide) true (bel_ok h9 (by decide))) (va_cwS 2 hts gX3_compact_X3_isBelow rfl rfl rfl (by decide +kernel) ⟨Nat.le_of_ble_eq_true rfl, Nat.le_of_ble_eq_true rfl⟩) hKK hP hD hS hA rfl hl.1 rfl (Nat.le_of_ble_eq_true rfl) ⟨Nat.zero_le _, Nat.zero_le _⟩ dX3_compact_2 (fun H locs hP hD hS => ?_)
  refine z_ifBne (tgt := 11) hx hb dX3_compact_5 (by decide) (fun c_1 => ?_) (fun c_1 => absurd c_1 (by decide))
  refine lv_aload_n hx hb dX3_compact_11 rfl (lv_at hl 0 rfl) ?_
  refine va_get (D := G.1) (ci := 3) (v := .ref (a 0)) (C := RX3) (T := TX3) (N := 5) hx hb hts hinX3 hown hKK.1 hP 0 rfl rfl 0 (by decide) fl_10 (fun _ h9 => h9) rfl dX3_compact_12 ?_
  refine z_callVI (As := []) (rest := []) (wr := (headW G o pr (prF pa) a b q S ++ (playW G q (d 0) P ++ (textW G b t L ++ (rollW G d u ++ pastW G pa pv))))) (C := RX1) F (hcal) (cwV 0 hts gX3_compact_X1_hasNextEpoch rfl rfl rfl (by decide +kernel) ⟨Nat.le_of_ble_eq_true rfl, Nat.le_of_ble_eq_true rfl⟩) hKK (z_recv hKK hP (q0 := 5) (ci := 1) rfl rfl) (z_perm (pn_a _ _ _ _ _) hP) (z_permD (pn_a _ _ _ _ _) hD) hS hA rfl hl.1 rfl (Nat.le_of_ble_eq_true rfl) ⟨Nat.zero_le _, Nat.zero_le _⟩ dX3_compact_15 (fun H locs hP hD hS => ?_)
  have hP : va_P G.1 vwCl (headW G o pr (prF pa) a b q S ++ (playW G q (d 0) P ++ (textW G b t L ++ (rollW G a v ++ (rollW G d u ++ pastW G pa pv))))) H := (z_perm (pn_a _ _ _ _ _).symm hP)
  have hD : va_D A (headW G o pr (prF pa) a b q S ++ (playW G q (d 0) P ++ (textW G b t L ++ (rollW G a v ++ (rollW G d u ++ pastW G pa pv))))) := (z_permD (pn_a _ _ _ _ _).symm hD)
  refine z_ifBne (tgt := 24) hx hb dX3_compact_18 (by decide) (fun c_2 => ?_) (fun c_2 => absurd c_2 (by decide))
  refine lv_aload_n hx hb dX3_compact_24 rfl (lv_at hl 0 rfl) ?_
  refine z_callVV (As := []) (rest := []) (wr := []) (C := RX3) F (c_X3_recordState l G o pr q a b d pa S P L t v u pv h4) (cwV 0 hts gX3_compact_X3_recordState rfl rfl rfl (by decide +kernel) ⟨Nat.le_of_ble_eq_true rfl, Nat.le_of_ble_eq_true rfl⟩) hKK (z_recv hKK hP (q0 := 0) (ci := 3) rfl rfl) hP hD hS hA rfl hl.1 rfl (Nat.le_of_ble_eq_true rfl) ⟨Nat.zero_le _, Nat.zero_le _⟩ dX3_compact_25 (fun H locs hP hD hS => ?_)
  have hP : va_P G.1 vwCl (headW G o pr (prF (rcA (S 0) pa)) a b q (nup S 0 (svN (S 0))) ++ (playW G q (d 0) P ++ (textW G b t L ++ (rollW G a v ++ (rollW G d u ++ pastW G (rcA (S 0) pa) (rcV (S 0) pv v)))))) H := hP
  have hD : va_D A (headW G o pr (prF (rcA (S 0) pa)) a b q (nup S 0 (svN (S 0))) ++ (playW G q (d 0) P ++ (textW G b t L ++ (rollW G a v ++ (rollW G d u ++ pastW G (rcA (S 0) pa) (rcV (S 0) pv v)))))) := hD
  refine lv_aload_n hx hb dX3_compact_28 rfl (lv_at hl 0 rfl) ?_
  refine va_get (D := G.1) (ci := 3) (v := .ref (a 0)) (C := RX3) (T := TX3) (N := 5) hx hb hts hinX3 hown hKK.1 hP 0 rfl rfl 0 (by decide) fl_10 (fun _ h9 => h9) rfl dX3_compact_29 ?_
  refine lv_iload_n hx hb dX3_compact_32 rfl (lv_at hl 1 rfl) ?_
  refine z_callVI (As := [.int (nI x)]) (rest := []) (wr := (headW G o pr (prF (rcA (S 0) pa)) a b q (nup S 0 (svN (S 0))) ++ (playW G q (d 0) P ++ (textW G b t L ++ (rollW G d u ++ pastW G (rcA (S 0) pa) (rcV (S 0) pv v)))))) (C := RX1) F (hdo) (cwV 1 hts gX3_compact_X1_giveAnew rfl rfl rfl (by decide +kernel) ⟨Nat.le_of_ble_eq_true rfl, Nat.le_of_ble_eq_true rfl⟩) hKK (z_recv hKK hP (q0 := 5) (ci := 1) rfl rfl) (z_perm (pn_a _ _ _ _ _) hP) (z_permD (pn_a _ _ _ _ _) hD) hS hA rfl hl.1 rfl (Nat.le_of_ble_eq_true rfl) ⟨Nat.zero_le _, Nat.zero_le _⟩ dX3_compact_33 (fun H locs hP hD hS => ?_)
  have hP : va_P G.1 vwCl (headW G o pr (prF (rcA (S 0) pa)) a b q (nup S 0 (svN (S 0))) ++ (playW G q (d 0) P ++ (textW G b t L ++ (rollW G a w ++ (rollW G d u ++ pastW G (rcA (S 0) pa) (rcV (S 0) pv v)))))) H := (z_perm (pn_a _ _ _ _ _).symm hP)
  have hD : va_D A (headW G o pr (prF (rcA (S 0) pa)) a b q (nup S 0 (svN (S 0))) ++ (playW G q (d 0) P ++ (textW G b t L ++ (rollW G a w ++ (rollW G d u ++ pastW G (rcA (S 0) pa) (rcV (S 0) pv v)))))) := (z_permD (pn_a _ _ _ _ _).symm hD)
  exact z_iret hx hb hr hlk hP hD hS dX3_compact_36 rfl rfl

set_option maxHeartbeats 4000000 in
set_option maxRecDepth 100000 in
theorem c_X3_numberOf_b1 (l : Launch) (G : ZG) (o pr q : Nat) (a b d : Nat → Nat) (pa : Nat → Nat → Nat) (S P L : Nat → Nat) (t v u : Mem) (pv : Nat → Mem) (x y : Int32) (h9 : zBel x 40 = false) : CI l G yX3_numberOf wsX3_numberOf (zRm 2 43) [.ref o, .int x, .int y] (headW G o pr (prF pa) a b q S ++ (playW G q (d 0) P ++ (textW G b t L ++ (rollW G a v ++ (rollW G d u ++ pastW G pa pv))))) ((-1000001)) (headW G o pr (prF pa) a b q S ++ (playW G q (d 0) P ++ (textW G b t L ++ (rollW G a v ++ (rollW G d u ++ pastW G pa pv))))) := by
  refine CI.ent (cc := cX3_numberOf) (maxL := 4) (ty := .int) (own := RX3) (by decide) rfl rfl (Nat.le_of_ble_eq_true rfl) ?_
  intro p ee s m args below meth c A ls F hr hlk hKK hP hD hA hS hl
  obtain ⟨hx, hb, hml, hown, hts⟩ := id F
  have hl : lv_has ls 4 [(0, .ref o), (1, .int x), (2, .int y)] := hl
  have ct_38 := hts (.constant RX3 38 (-1000001)) (by decide +kernel)
  refine lv_iload_n hx hb dX3_numberOf_0 rfl (lv_at hl 1 rfl) ?_
  refine lv_bipush (v := nI 40) hx hb dX3_numberOf_1 (by decide) ?_
  refine z_callSI (As := [.int x, .int (nI 40)]) (rest := []) F (c_X3_isBelow_b l G x 40 (by decide) false h9) (va_cwS 2 hts gX3_numberOf_X3_isBelow rfl rfl rfl (by decide +kernel) ⟨Nat.le_of_ble_eq_true rfl, Nat.le_of_ble_eq_true rfl⟩) hKK hP hD hS hA rfl hl.1 rfl (Nat.le_of_ble_eq_true rfl) ⟨Nat.zero_le _, Nat.zero_le _⟩ dX3_numberOf_3 (fun H locs hP hD hS => ?_)
  refine z_ifBeq (tgt := 17) hx hb dX3_numberOf_6 (by decide) (fun c_1 => ?_) (fun c_1 => absurd c_1 (by decide))
  refine z_ldc (v' := (-1000001)) hx hb hown ct_38 dX3_numberOf_17 rfl ?_
  exact z_iret hx hb hr hlk hP hD hS dX3_numberOf_19 rfl rfl

set_option maxHeartbeats 4000000 in
set_option maxRecDepth 100000 in
theorem c_X3_numberOf_b2 (l : Launch) (G : ZG) (o pr q : Nat) (a b d : Nat → Nat) (pa : Nat → Nat → Nat) (S P L : Nat → Nat) (t v u : Mem) (pv : Nat → Mem) (x y : Int32) (h8 : zBel x 40 = true) (h9 : zBel y 5 = false) : CI l G yX3_numberOf wsX3_numberOf (zRm 2 43) [.ref o, .int x, .int y] (headW G o pr (prF pa) a b q S ++ (playW G q (d 0) P ++ (textW G b t L ++ (rollW G a v ++ (rollW G d u ++ pastW G pa pv))))) ((-1000001)) (headW G o pr (prF pa) a b q S ++ (playW G q (d 0) P ++ (textW G b t L ++ (rollW G a v ++ (rollW G d u ++ pastW G pa pv))))) := by
  refine CI.ent (cc := cX3_numberOf) (maxL := 4) (ty := .int) (own := RX3) (by decide) rfl rfl (Nat.le_of_ble_eq_true rfl) ?_
  intro p ee s m args below meth c A ls F hr hlk hKK hP hD hA hS hl
  obtain ⟨hx, hb, hml, hown, hts⟩ := id F
  have hl : lv_has ls 4 [(0, .ref o), (1, .int x), (2, .int y)] := hl
  have ct_38 := hts (.constant RX3 38 (-1000001)) (by decide +kernel)
  refine lv_iload_n hx hb dX3_numberOf_0 rfl (lv_at hl 1 rfl) ?_
  refine lv_bipush (v := nI 40) hx hb dX3_numberOf_1 (by decide) ?_
  refine z_callSI (As := [.int x, .int (nI 40)]) (rest := []) F (c_X3_isBelow_b l G x 40 (by decide) true h8) (va_cwS 2 hts gX3_numberOf_X3_isBelow rfl rfl rfl (by decide +kernel) ⟨Nat.le_of_ble_eq_true rfl, Nat.le_of_ble_eq_true rfl⟩) hKK hP hD hS hA rfl hl.1 rfl (Nat.le_of_ble_eq_true rfl) ⟨Nat.zero_le _, Nat.zero_le _⟩ dX3_numberOf_3 (fun H locs hP hD hS => ?_)
  refine z_ifBeq (tgt := 17) hx hb dX3_numberOf_6 (by decide) (fun c_1 => absurd c_1 (by decide)) (fun c_1 => ?_)
  refine lv_iload_n hx hb dX3_numberOf_9 rfl (lv_at hl 2 rfl) ?_
  refine lv_iconst (v := nI 5) hx hb dX3_numberOf_10 (by decide) ?_
  refine z_callSI (As := [.int y, .int (nI 5)]) (rest := []) F (c_X3_isBelow_b l G y 5 (by decide) false h9) (va_cwS 2 hts gX3_numberOf_X3_isBelow rfl rfl rfl (by decide +kernel) ⟨Nat.le_of_ble_eq_true rfl, Nat.le_of_ble_eq_true rfl⟩) hKK hP hD hS hA rfl hl.1 rfl (Nat.le_of_ble_eq_true rfl) ⟨Nat.zero_le _, Nat.zero_le _⟩ dX3_numberOf_11 (fun H locs hP hD hS => ?_)
  refine z_ifBne (tgt := 20) hx hb dX3_numberOf_14 (by decide) (fun c_2 => absurd c_2 (by decide)) (fun c_2 => ?_)
  refine z_ldc (v' := (-1000001)) hx hb hown ct_38 dX3_numberOf_17 rfl ?_
  exact z_iret hx hb hr hlk hP hD hS dX3_numberOf_19 rfl rfl

set_option maxHeartbeats 4000000 in
set_option maxRecDepth 100000 in
theorem c_X3_numberOf_w0y (l : Launch) (G : ZG) (o pr q : Nat) (a b d : Nat → Nat) (pa : Nat → Nat → Nat) (S P L : Nat → Nat) (t v u : Mem) (pv : Nat → Mem) (n : Nat) (hn : n < 40) (h0 : ¬ v 0 n = 0) : CI l G yX3_numberOf wsX3_numberOf (zRm 2 43) [.ref o, .int (nI n), .int (nI 0)] (headW G o pr (prF pa) a b q S ++ (playW G q (d 0) P ++ (textW G b t L ++ (rollW G a v ++ (rollW G d u ++ pastW G pa pv))))) (v 0 n) (headW G o pr (prF pa) a b q S ++ (playW G q (d 0) P ++ (textW G b t L ++ (rollW G a v ++ (rollW G d u ++ pastW G pa pv))))) := by
  refine CI.ent (cc := cX3_numberOf) (maxL := 4) (ty := .int) (own := RX3) (by decide) rfl rfl (Nat.le_of_ble_eq_true rfl) ?_
  intro p ee s m args below meth c A ls F hr hlk hKK hP hD hA hS hl
  obtain ⟨hx, hb, hml, hown, hts⟩ := id F
  have hl : lv_has ls 4 [(0, .ref o), (1, .int (nI n)), (2, .int (nI 0))] := hl
  have fl_10 := hts (.fieldLink RX3 10 "NameRolls" "now" "LNameRolls$Roll;") (by decide +kernel)
  have fl_70 := hts (.fieldLink RX3 70 "NameRolls$Roll" "names" "[I") (by decide +kernel)
  have hinX1 : ∀ w ∈ wsX10, w ∈ wsX3_numberOf := by decide +kernel
  have hinX3 : ∀ w ∈ wsX30, w ∈ wsX3_numberOf := by decide +kernel
  refine lv_iload_n hx hb dX3_numberOf_0 rfl (lv_at hl 1 rfl) ?_
  refine lv_bipush (v := nI 40) hx hb dX3_numberOf_1 (by decide) ?_
  refine z_callSI (As := [.int (nI n), .int (nI 40)]) (rest := []) F (c_X3_isBelow_b l G (nI n) 40 (by decide) true (bel_ok hn (by decide))) (va_cwS 2 hts gX3_numberOf_X3_isBelow rfl rfl rfl (by decide +kernel) ⟨Nat.le_of_ble_eq_true rfl, Nat.le_of_ble_eq_true rfl⟩) hKK hP hD hS hA rfl hl.1 rfl (Nat.le_of_ble_eq_true rfl) ⟨Nat.zero_le _, Nat.zero_le _⟩ dX3_numberOf_3 (fun H locs hP hD hS => ?_)
  refine z_ifBeq (tgt := 17) hx hb dX3_numberOf_6 (by decide) (fun c_1 => absurd c_1 (by decide)) (fun c_1 => ?_)
  refine lv_iload_n hx hb dX3_numberOf_9 rfl (lv_at hl 2 rfl) ?_
  refine lv_iconst (v := nI 5) hx hb dX3_numberOf_10 (by decide) ?_
  refine z_callSI (As := [.int (nI 0), .int (nI 5)]) (rest := []) F (c_X3_isBelow_b l G (nI 0) 5 (by decide) true (bel_ok (by decide) (by decide))) (va_cwS 2 hts gX3_numberOf_X3_isBelow rfl rfl rfl (by decide +kernel) ⟨Nat.le_of_ble_eq_true rfl, Nat.le_of_ble_eq_true rfl⟩) hKK hP hD hS hA rfl hl.1 rfl (Nat.le_of_ble_eq_true rfl) ⟨Nat.zero_le _, Nat.zero_le _⟩ dX3_numberOf_11 (fun H locs hP hD hS => ?_)
  refine z_ifBne (tgt := 20) hx hb dX3_numberOf_14 (by decide) (fun c_2 => ?_) (fun c_2 => absurd c_2 (by decide))
  refine lv_aload_n hx hb dX3_numberOf_20 rfl (lv_at hl 0 rfl) ?_
  refine va_get (D := G.1) (ci := 3) (v := .ref (a 0)) (C := RX3) (T := TX3) (N := 5) hx hb hts hinX3 hown hKK.1 hP 0 rfl rfl 0 (by decide) fl_10 (fun _ h9 => h9) rfl dX3_numberOf_21 ?_
  refine va_get (D := G.1) (ci := 1) (v := .ref (a 1)) (C := RX1) (T := TX1) (N := 15) hx hb hts hinX1 hown hKK.1 hP 5 rfl rfl 0 (by decide) fl_70 (fun _ h9 => h9) rfl dX3_numberOf_24 ?_
  refine lv_iload_n hx hb dX3_numberOf_27 rfl (lv_at hl 1 rfl) ?_
  refine z_iald (n := 40) (f := v 0) (v := v 0 n) hx hb hKK hP 6 rfl (by omega) (by decide) rfl dX3_numberOf_28 ?_
  refine lv_if_eq (tgt := 36) hx hb dX3_numberOf_29 (by decide) (fun c_3 => absurd c_3 h0) (fun c_3 => ?_)
  refine lv_iconst (v := nI 1) hx hb dX3_numberOf_32 (by decide) ?_
  refine lv_goto (tgt := 37) hx hb dX3_numberOf_33 (by decide) ?_
  refine lv_istore_n (lv' := [(3, .int (nI 1)), (0, .ref o), (1, .int (nI n)), (2, .int (nI 0))]) hx hb dX3_numberOf_37 rfl hl (by decide) rfl (fun ls hl => ?_)
  refine lv_iload_n hx hb dX3_numberOf_38 rfl (lv_at hl 3 rfl) ?_
  refine lv_tableIn (off := 29) (tgt := 68) hx hb dX3_numberOf_39 (by decide) (by decide) rfl (by decide) ?_
  refine lv_iload_n hx hb dX3_numberOf_68 rfl (lv_at hl 0 rfl) ?_
  refine z_ifNeq (tgt := 84) hx hb dX3_numberOf_69 (by decide) (by omega) (fun c_4 => absurd c_4 (by decide)) (fun c_4 => ?_)
  refine lv_aload_n hx hb dX3_numberOf_72 rfl (lv_at hl 1 rfl) ?_
  refine va_get (D := G.1) (ci := 3) (v := .ref (a 0)) (C := RX3) (T := TX3) (N := 5) hx hb hts hinX3 hown hKK.1 hP 0 rfl rfl 0 (by decide) fl_10 (fun _ h9 => h9) rfl dX3_numberOf_73 ?_
  refine va_get (D := G.1) (ci := 1) (v := .ref (a 1)) (C := RX1) (T := TX1) (N := 15) hx hb hts hinX1 hown hKK.1 hP 5 rfl rfl 0 (by decide) fl_70 (fun _ h9 => h9) rfl dX3_numberOf_76 ?_
  refine lv_iload_n hx hb dX3_numberOf_79 rfl (lv_at hl 2 rfl) ?_
  refine z_iald (n := 40) (f := v 0) (v := v 0 n) hx hb hKK hP 6 rfl (by omega) (by decide) rfl dX3_numberOf_80 ?_
  refine lv_goto (tgt := 86) hx hb dX3_numberOf_81 (by decide) ?_
  exact z_iret hx hb hr hlk hP hD hS dX3_numberOf_86 rfl rfl

set_option maxHeartbeats 4000000 in
set_option maxRecDepth 100000 in
theorem c_X3_numberOf_w0n (l : Launch) (G : ZG) (o pr q : Nat) (a b d : Nat → Nat) (pa : Nat → Nat → Nat) (S P L : Nat → Nat) (t v u : Mem) (pv : Nat → Mem) (n : Nat) (hn : n < 40) (h0 : v 0 n = 0) : CI l G yX3_numberOf wsX3_numberOf (zRm 2 43) [.ref o, .int (nI n), .int (nI 0)] (headW G o pr (prF pa) a b q S ++ (playW G q (d 0) P ++ (textW G b t L ++ (rollW G a v ++ (rollW G d u ++ pastW G pa pv))))) ((-1000004)) (headW G o pr (prF pa) a b q S ++ (playW G q (d 0) P ++ (textW G b t L ++ (rollW G a v ++ (rollW G d u ++ pastW G pa pv))))) := by
  refine CI.ent (cc := cX3_numberOf) (maxL := 4) (ty := .int) (own := RX3) (by decide) rfl rfl (Nat.le_of_ble_eq_true rfl) ?_
  intro p ee s m args below meth c A ls F hr hlk hKK hP hD hA hS hl
  obtain ⟨hx, hb, hml, hown, hts⟩ := id F
  have hl : lv_has ls 4 [(0, .ref o), (1, .int (nI n)), (2, .int (nI 0))] := hl
  have ct_91 := hts (.constant RX3 91 (-1000004)) (by decide +kernel)
  have fl_10 := hts (.fieldLink RX3 10 "NameRolls" "now" "LNameRolls$Roll;") (by decide +kernel)
  have fl_70 := hts (.fieldLink RX3 70 "NameRolls$Roll" "names" "[I") (by decide +kernel)
  have hinX1 : ∀ w ∈ wsX10, w ∈ wsX3_numberOf := by decide +kernel
  have hinX3 : ∀ w ∈ wsX30, w ∈ wsX3_numberOf := by decide +kernel
  refine lv_iload_n hx hb dX3_numberOf_0 rfl (lv_at hl 1 rfl) ?_
  refine lv_bipush (v := nI 40) hx hb dX3_numberOf_1 (by decide) ?_
  refine z_callSI (As := [.int (nI n), .int (nI 40)]) (rest := []) F (c_X3_isBelow_b l G (nI n) 40 (by decide) true (bel_ok hn (by decide))) (va_cwS 2 hts gX3_numberOf_X3_isBelow rfl rfl rfl (by decide +kernel) ⟨Nat.le_of_ble_eq_true rfl, Nat.le_of_ble_eq_true rfl⟩) hKK hP hD hS hA rfl hl.1 rfl (Nat.le_of_ble_eq_true rfl) ⟨Nat.zero_le _, Nat.zero_le _⟩ dX3_numberOf_3 (fun H locs hP hD hS => ?_)
  refine z_ifBeq (tgt := 17) hx hb dX3_numberOf_6 (by decide) (fun c_1 => absurd c_1 (by decide)) (fun c_1 => ?_)
  refine lv_iload_n hx hb dX3_numberOf_9 rfl (lv_at hl 2 rfl) ?_
  refine lv_iconst (v := nI 5) hx hb dX3_numberOf_10 (by decide) ?_
  refine z_callSI (As := [.int (nI 0), .int (nI 5)]) (rest := []) F (c_X3_isBelow_b l G (nI 0) 5 (by decide) true (bel_ok (by decide) (by decide))) (va_cwS 2 hts gX3_numberOf_X3_isBelow rfl rfl rfl (by decide +kernel) ⟨Nat.le_of_ble_eq_true rfl, Nat.le_of_ble_eq_true rfl⟩) hKK hP hD hS hA rfl hl.1 rfl (Nat.le_of_ble_eq_true rfl) ⟨Nat.zero_le _, Nat.zero_le _⟩ dX3_numberOf_11 (fun H locs hP hD hS => ?_)
  refine z_ifBne (tgt := 20) hx hb dX3_numberOf_14 (by decide) (fun c_2 => ?_) (fun c_2 => absurd c_2 (by decide))
  refine lv_aload_n hx hb dX3_numberOf_20 rfl (lv_at hl 0 rfl) ?_
  refine va_get (D := G.1) (ci := 3) (v := .ref (a 0)) (C := RX3) (T := TX3) (N := 5) hx hb hts hinX3 hown hKK.1 hP 0 rfl rfl 0 (by decide) fl_10 (fun _ h9 => h9) rfl dX3_numberOf_21 ?_
  refine va_get (D := G.1) (ci := 1) (v := .ref (a 1)) (C := RX1) (T := TX1) (N := 15) hx hb hts hinX1 hown hKK.1 hP 5 rfl rfl 0 (by decide) fl_70 (fun _ h9 => h9) rfl dX3_numberOf_24 ?_
  refine lv_iload_n hx hb dX3_numberOf_27 rfl (lv_at hl 1 rfl) ?_
  refine z_iald (n := 40) (f := v 0) (v := v 0 n) hx hb hKK hP 6 rfl (by omega) (by decide) rfl dX3_numberOf_28 ?_
  refine lv_if_eq (tgt := 36) hx hb dX3_numberOf_29 (by decide) (fun c_3 => ?_) (fun c_3 => absurd h0 c_3)
  refine lv_iconst (v := nI 0) hx hb dX3_numberOf_36 (by decide) ?_
  refine lv_istore_n (lv' := [(3, .int (nI 0)), (0, .ref o), (1, .int (nI n)), (2, .int (nI 0))]) hx hb dX3_numberOf_37 rfl hl (by decide) rfl (fun ls hl => ?_)
  refine lv_iload_n hx hb dX3_numberOf_38 rfl (lv_at hl 3 rfl) ?_
  refine lv_tableIn (off := 29) (tgt := 68) hx hb dX3_numberOf_39 (by decide) (by decide) rfl (by decide) ?_
  refine lv_iload_n hx hb dX3_numberOf_68 rfl (lv_at hl 0 rfl) ?_
  refine z_ifNeq (tgt := 84) hx hb dX3_numberOf_69 (by decide) (by omega) (fun c_4 => ?_) (fun c_4 => absurd c_4 (by decide))
  refine z_ldc (v' := (-1000004)) hx hb hown ct_91 dX3_numberOf_84 rfl ?_
  exact z_iret hx hb hr hlk hP hD hS dX3_numberOf_86 rfl rfl

set_option maxHeartbeats 4000000 in
set_option maxRecDepth 100000 in
theorem c_X3_numberOf_w1 (l : Launch) (G : ZG) (o pr q : Nat) (a b d : Nat → Nat) (pa : Nat → Nat → Nat) (S P L : Nat → Nat) (t v u : Mem) (pv : Nat → Mem) (n : Nat) (hn : n < 40)  : CI l G yX3_numberOf wsX3_numberOf (zRm 2 43) [.ref o, .int (nI n), .int (nI 1)] (headW G o pr (prF pa) a b q S ++ (playW G q (d 0) P ++ (textW G b t L ++ (rollW G a v ++ (rollW G d u ++ pastW G pa pv))))) (v 1 n) (headW G o pr (prF pa) a b q S ++ (playW G q (d 0) P ++ (textW G b t L ++ (rollW G a v ++ (rollW G d u ++ pastW G pa pv))))) := by
  refine CI.ent (cc := cX3_numberOf) (maxL := 4) (ty := .int) (own := RX3) (by decide) rfl rfl (Nat.le_of_ble_eq_true rfl) ?_
  intro p ee s m args below meth c A ls F hr hlk hKK hP hD hA hS hl
  obtain ⟨hx, hb, hml, hown, hts⟩ := id F
  have hl : lv_has ls 4 [(0, .ref o), (1, .int (nI n)), (2, .int (nI 1))] := hl
  have fl_10 := hts (.fieldLink RX3 10 "NameRolls" "now" "LNameRolls$Roll;") (by decide +kernel)
  have fl_70 := hts (.fieldLink RX3 70 "NameRolls$Roll" "names" "[I") (by decide +kernel)
  have fl_102 := hts (.fieldLink RX3 102 "NameRolls$Roll" "users" "[I") (by decide +kernel)
  have hinX1 : ∀ w ∈ wsX10, w ∈ wsX3_numberOf := by decide +kernel
  have hinX3 : ∀ w ∈ wsX30, w ∈ wsX3_numberOf := by decide +kernel
  refine lv_iload_n hx hb dX3_numberOf_0 rfl (lv_at hl 1 rfl) ?_
  refine lv_bipush (v := nI 40) hx hb dX3_numberOf_1 (by decide) ?_
  refine z_callSI (As := [.int (nI n), .int (nI 40)]) (rest := []) F (c_X3_isBelow_b l G (nI n) 40 (by decide) true (bel_ok hn (by decide))) (va_cwS 2 hts gX3_numberOf_X3_isBelow rfl rfl rfl (by decide +kernel) ⟨Nat.le_of_ble_eq_true rfl, Nat.le_of_ble_eq_true rfl⟩) hKK hP hD hS hA rfl hl.1 rfl (Nat.le_of_ble_eq_true rfl) ⟨Nat.zero_le _, Nat.zero_le _⟩ dX3_numberOf_3 (fun H locs hP hD hS => ?_)
  refine z_ifBeq (tgt := 17) hx hb dX3_numberOf_6 (by decide) (fun c_1 => absurd c_1 (by decide)) (fun c_1 => ?_)
  refine lv_iload_n hx hb dX3_numberOf_9 rfl (lv_at hl 2 rfl) ?_
  refine lv_iconst (v := nI 5) hx hb dX3_numberOf_10 (by decide) ?_
  refine z_callSI (As := [.int (nI 1), .int (nI 5)]) (rest := []) F (c_X3_isBelow_b l G (nI 1) 5 (by decide) true (bel_ok (by decide) (by decide))) (va_cwS 2 hts gX3_numberOf_X3_isBelow rfl rfl rfl (by decide +kernel) ⟨Nat.le_of_ble_eq_true rfl, Nat.le_of_ble_eq_true rfl⟩) hKK hP hD hS hA rfl hl.1 rfl (Nat.le_of_ble_eq_true rfl) ⟨Nat.zero_le _, Nat.zero_le _⟩ dX3_numberOf_11 (fun H locs hP hD hS => ?_)
  refine z_ifBne (tgt := 20) hx hb dX3_numberOf_14 (by decide) (fun c_2 => ?_) (fun c_2 => absurd c_2 (by decide))
  refine lv_aload_n hx hb dX3_numberOf_20 rfl (lv_at hl 0 rfl) ?_
  refine va_get (D := G.1) (ci := 3) (v := .ref (a 0)) (C := RX3) (T := TX3) (N := 5) hx hb hts hinX3 hown hKK.1 hP 0 rfl rfl 0 (by decide) fl_10 (fun _ h9 => h9) rfl dX3_numberOf_21 ?_
  refine va_get (D := G.1) (ci := 1) (v := .ref (a 1)) (C := RX1) (T := TX1) (N := 15) hx hb hts hinX1 hown hKK.1 hP 5 rfl rfl 0 (by decide) fl_70 (fun _ h9 => h9) rfl dX3_numberOf_24 ?_
  refine lv_iload_n hx hb dX3_numberOf_27 rfl (lv_at hl 1 rfl) ?_
  refine z_iald (n := 40) (f := v 0) (v := v 0 n) hx hb hKK hP 6 rfl (by omega) (by decide) rfl dX3_numberOf_28 ?_
  refine lv_if_eq (tgt := 36) hx hb dX3_numberOf_29 (by decide) (fun c_3 => ?_) (fun c_3 => ?_)
  · skip
    refine lv_iconst (v := nI 0) hx hb dX3_numberOf_36 (by decide) ?_
    refine lv_istore_n (lv' := [(3, .int (nI 0)), (0, .ref o), (1, .int (nI n)), (2, .int (nI 1))]) hx hb dX3_numberOf_37 rfl hl (by decide) rfl (fun ls hl => ?_)
    refine lv_iload_n hx hb dX3_numberOf_38 rfl (lv_at hl 3 rfl) ?_
    refine lv_tableIn (off := 48) (tgt := 87) hx hb dX3_numberOf_39 (by decide) (by decide) rfl (by decide) ?_
    refine lv_aload_n hx hb dX3_numberOf_87 rfl (lv_at hl 1 rfl) ?_
    refine va_get (D := G.1) (ci := 3) (v := .ref (a 0)) (C := RX3) (T := TX3) (N := 5) hx hb hts hinX3 hown hKK.1 hP 0 rfl rfl 0 (by decide) fl_10 (fun _ h9 => h9) rfl dX3_numberOf_88 ?_
    refine va_get (D := G.1) (ci := 1) (v := .ref (a 2)) (C := RX1) (T := TX1) (N := 15) hx hb hts hinX1 hown hKK.1 hP 5 rfl rfl 1 (by decide) fl_102 (fun _ h9 => h9) rfl dX3_numberOf_91 ?_
    refine lv_iload_n hx hb dX3_numberOf_94 rfl (lv_at hl 2 rfl) ?_
    refine z_iald (n := 40) (f := v 1) (v := v 1 n) hx hb hKK hP 7 rfl (by omega) (by decide) rfl dX3_numberOf_95 ?_
    exact z_iret hx hb hr hlk hP hD hS dX3_numberOf_96 rfl rfl
  · skip
    refine lv_iconst (v := nI 1) hx hb dX3_numberOf_32 (by decide) ?_
    refine lv_goto (tgt := 37) hx hb dX3_numberOf_33 (by decide) ?_
    refine lv_istore_n (lv' := [(3, .int (nI 1)), (0, .ref o), (1, .int (nI n)), (2, .int (nI 1))]) hx hb dX3_numberOf_37 rfl hl (by decide) rfl (fun ls hl => ?_)
    refine lv_iload_n hx hb dX3_numberOf_38 rfl (lv_at hl 3 rfl) ?_
    refine lv_tableIn (off := 48) (tgt := 87) hx hb dX3_numberOf_39 (by decide) (by decide) rfl (by decide) ?_
    refine lv_aload_n hx hb dX3_numberOf_87 rfl (lv_at hl 1 rfl) ?_
    refine va_get (D := G.1) (ci := 3) (v := .ref (a 0)) (C := RX3) (T := TX3) (N := 5) hx hb hts hinX3 hown hKK.1 hP 0 rfl rfl 0 (by decide) fl_10 (fun _ h9 => h9) rfl dX3_numberOf_88 ?_
    refine va_get (D := G.1) (ci := 1) (v := .ref (a 2)) (C := RX1) (T := TX1) (N := 15) hx hb hts hinX1 hown hKK.1 hP 5 rfl rfl 1 (by decide) fl_102 (fun _ h9 => h9) rfl dX3_numberOf_91 ?_
    refine lv_iload_n hx hb dX3_numberOf_94 rfl (lv_at hl 2 rfl) ?_
    refine z_iald (n := 40) (f := v 1) (v := v 1 n) hx hb hKK hP 7 rfl (by omega) (by decide) rfl dX3_numberOf_95 ?_
    exact z_iret hx hb hr hlk hP hD hS dX3_numberOf_96 rfl rfl

set_option maxHeartbeats 4000000 in
set_option maxRecDepth 100000 in
theorem c_X3_numberOf_w2 (l : Launch) (G : ZG) (o pr q : Nat) (a b d : Nat → Nat) (pa : Nat → Nat → Nat) (S P L : Nat → Nat) (t v u : Mem) (pv : Nat → Mem) (n : Nat) (hn : n < 40)  : CI l G yX3_numberOf wsX3_numberOf (zRm 2 43) [.ref o, .int (nI n), .int (nI 2)] (headW G o pr (prF pa) a b q S ++ (playW G q (d 0) P ++ (textW G b t L ++ (rollW G a v ++ (rollW G d u ++ pastW G pa pv))))) (nI (zCells (v 3) (nI n))) (headW G o pr (prF pa) a b q S ++ (playW G q (d 0) P ++ (textW G b t L ++ (rollW G a v ++ (rollW G d u ++ pastW G pa pv))))) := by
  refine CI.ent (cc := cX3_numberOf) (maxL := 4) (ty := .int) (own := RX3) (by decide) rfl rfl (Nat.le_of_ble_eq_true rfl) ?_
  intro p ee s m args below meth c A ls F hr hlk hKK hP hD hA hS hl
  obtain ⟨hx, hb, hml, hown, hts⟩ := id F
  have hl : lv_has ls 4 [(0, .ref o), (1, .int (nI n)), (2, .int (nI 2))] := hl
  have fl_10 := hts (.fieldLink RX3 10 "NameRolls" "now" "LNameRolls$Roll;") (by decide +kernel)
  have fl_70 := hts (.fieldLink RX3 70 "NameRolls$Roll" "names" "[I") (by decide +kernel)
  have hinX1 : ∀ w ∈ wsX10, w ∈ wsX3_numberOf := by decide +kernel
  have hinX3 : ∀ w ∈ wsX30, w ∈ wsX3_numberOf := by decide +kernel
  refine lv_iload_n hx hb dX3_numberOf_0 rfl (lv_at hl 1 rfl) ?_
  refine lv_bipush (v := nI 40) hx hb dX3_numberOf_1 (by decide) ?_
  refine z_callSI (As := [.int (nI n), .int (nI 40)]) (rest := []) F (c_X3_isBelow_b l G (nI n) 40 (by decide) true (bel_ok hn (by decide))) (va_cwS 2 hts gX3_numberOf_X3_isBelow rfl rfl rfl (by decide +kernel) ⟨Nat.le_of_ble_eq_true rfl, Nat.le_of_ble_eq_true rfl⟩) hKK hP hD hS hA rfl hl.1 rfl (Nat.le_of_ble_eq_true rfl) ⟨Nat.zero_le _, Nat.zero_le _⟩ dX3_numberOf_3 (fun H locs hP hD hS => ?_)
  refine z_ifBeq (tgt := 17) hx hb dX3_numberOf_6 (by decide) (fun c_1 => absurd c_1 (by decide)) (fun c_1 => ?_)
  refine lv_iload_n hx hb dX3_numberOf_9 rfl (lv_at hl 2 rfl) ?_
  refine lv_iconst (v := nI 5) hx hb dX3_numberOf_10 (by decide) ?_
  refine z_callSI (As := [.int (nI 2), .int (nI 5)]) (rest := []) F (c_X3_isBelow_b l G (nI 2) 5 (by decide) true (bel_ok (by decide) (by decide))) (va_cwS 2 hts gX3_numberOf_X3_isBelow rfl rfl rfl (by decide +kernel) ⟨Nat.le_of_ble_eq_true rfl, Nat.le_of_ble_eq_true rfl⟩) hKK hP hD hS hA rfl hl.1 rfl (Nat.le_of_ble_eq_true rfl) ⟨Nat.zero_le _, Nat.zero_le _⟩ dX3_numberOf_11 (fun H locs hP hD hS => ?_)
  refine z_ifBne (tgt := 20) hx hb dX3_numberOf_14 (by decide) (fun c_2 => ?_) (fun c_2 => absurd c_2 (by decide))
  refine lv_aload_n hx hb dX3_numberOf_20 rfl (lv_at hl 0 rfl) ?_
  refine va_get (D := G.1) (ci := 3) (v := .ref (a 0)) (C := RX3) (T := TX3) (N := 5) hx hb hts hinX3 hown hKK.1 hP 0 rfl rfl 0 (by decide) fl_10 (fun _ h9 => h9) rfl dX3_numberOf_21 ?_
  refine va_get (D := G.1) (ci := 1) (v := .ref (a 1)) (C := RX1) (T := TX1) (N := 15) hx hb hts hinX1 hown hKK.1 hP 5 rfl rfl 0 (by decide) fl_70 (fun _ h9 => h9) rfl dX3_numberOf_24 ?_
  refine lv_iload_n hx hb dX3_numberOf_27 rfl (lv_at hl 1 rfl) ?_
  refine z_iald (n := 40) (f := v 0) (v := v 0 n) hx hb hKK hP 6 rfl (by omega) (by decide) rfl dX3_numberOf_28 ?_
  refine lv_if_eq (tgt := 36) hx hb dX3_numberOf_29 (by decide) (fun c_3 => ?_) (fun c_3 => ?_)
  · skip
    refine lv_iconst (v := nI 0) hx hb dX3_numberOf_36 (by decide) ?_
    refine lv_istore_n (lv' := [(3, .int (nI 0)), (0, .ref o), (1, .int (nI n)), (2, .int (nI 2))]) hx hb dX3_numberOf_37 rfl hl (by decide) rfl (fun ls hl => ?_)
    refine lv_iload_n hx hb dX3_numberOf_38 rfl (lv_at hl 3 rfl) ?_
    refine lv_tableIn (off := 58) (tgt := 97) hx hb dX3_numberOf_39 (by decide) (by decide) rfl (by decide) ?_
    refine lv_aload_n hx hb dX3_numberOf_97 rfl (lv_at hl 1 rfl) ?_
    refine va_get (D := G.1) (ci := 3) (v := .ref (a 0)) (C := RX3) (T := TX3) (N := 5) hx hb hts hinX3 hown hKK.1 hP 0 rfl rfl 0 (by decide) fl_10 (fun _ h9 => h9) rfl dX3_numberOf_98 ?_
    refine lv_iload_n hx hb dX3_numberOf_101 rfl (lv_at hl 2 rfl) ?_
    refine z_callVI (As := [.int (nI n)]) (rest := []) (wr := (headW G o pr (prF pa) a b q S ++ (playW G q (d 0) P ++ (textW G b t L ++ (rollW G d u ++ pastW G pa pv))))) (C := RX1) F (c_X1_cellsWith l G a v (nI n)) (cwV 1 hts gX3_numberOf_X1_cellsWith rfl rfl rfl (by decide +kernel) ⟨Nat.le_of_ble_eq_true rfl, Nat.le_of_ble_eq_true rfl⟩) hKK (z_recv hKK hP (q0 := 5) (ci := 1) rfl rfl) (z_perm (pn_a _ _ _ _ _) hP) (z_permD (pn_a _ _ _ _ _) hD) hS hA rfl hl.1 rfl (Nat.le_of_ble_eq_true rfl) ⟨Nat.zero_le _, Nat.zero_le _⟩ dX3_numberOf_102 (fun H locs hP hD hS => ?_)
    have hP : va_P G.1 vwCl (headW G o pr (prF pa) a b q S ++ (playW G q (d 0) P ++ (textW G b t L ++ (rollW G a v ++ (rollW G d u ++ pastW G pa pv))))) H := (z_perm (pn_a _ _ _ _ _).symm hP)
    have hD : va_D A (headW G o pr (prF pa) a b q S ++ (playW G q (d 0) P ++ (textW G b t L ++ (rollW G a v ++ (rollW G d u ++ pastW G pa pv))))) := (z_permD (pn_a _ _ _ _ _).symm hD)
    exact z_iret hx hb hr hlk hP hD hS dX3_numberOf_105 rfl rfl
  · skip
    refine lv_iconst (v := nI 1) hx hb dX3_numberOf_32 (by decide) ?_
    refine lv_goto (tgt := 37) hx hb dX3_numberOf_33 (by decide) ?_
    refine lv_istore_n (lv' := [(3, .int (nI 1)), (0, .ref o), (1, .int (nI n)), (2, .int (nI 2))]) hx hb dX3_numberOf_37 rfl hl (by decide) rfl (fun ls hl => ?_)
    refine lv_iload_n hx hb dX3_numberOf_38 rfl (lv_at hl 3 rfl) ?_
    refine lv_tableIn (off := 58) (tgt := 97) hx hb dX3_numberOf_39 (by decide) (by decide) rfl (by decide) ?_
    refine lv_aload_n hx hb dX3_numberOf_97 rfl (lv_at hl 1 rfl) ?_
    refine va_get (D := G.1) (ci := 3) (v := .ref (a 0)) (C := RX3) (T := TX3) (N := 5) hx hb hts hinX3 hown hKK.1 hP 0 rfl rfl 0 (by decide) fl_10 (fun _ h9 => h9) rfl dX3_numberOf_98 ?_
    refine lv_iload_n hx hb dX3_numberOf_101 rfl (lv_at hl 2 rfl) ?_
    refine z_callVI (As := [.int (nI n)]) (rest := []) (wr := (headW G o pr (prF pa) a b q S ++ (playW G q (d 0) P ++ (textW G b t L ++ (rollW G d u ++ pastW G pa pv))))) (C := RX1) F (c_X1_cellsWith l G a v (nI n)) (cwV 1 hts gX3_numberOf_X1_cellsWith rfl rfl rfl (by decide +kernel) ⟨Nat.le_of_ble_eq_true rfl, Nat.le_of_ble_eq_true rfl⟩) hKK (z_recv hKK hP (q0 := 5) (ci := 1) rfl rfl) (z_perm (pn_a _ _ _ _ _) hP) (z_permD (pn_a _ _ _ _ _) hD) hS hA rfl hl.1 rfl (Nat.le_of_ble_eq_true rfl) ⟨Nat.zero_le _, Nat.zero_le _⟩ dX3_numberOf_102 (fun H locs hP hD hS => ?_)
    have hP : va_P G.1 vwCl (headW G o pr (prF pa) a b q S ++ (playW G q (d 0) P ++ (textW G b t L ++ (rollW G a v ++ (rollW G d u ++ pastW G pa pv))))) H := (z_perm (pn_a _ _ _ _ _).symm hP)
    have hD : va_D A (headW G o pr (prF pa) a b q S ++ (playW G q (d 0) P ++ (textW G b t L ++ (rollW G a v ++ (rollW G d u ++ pastW G pa pv))))) := (z_permD (pn_a _ _ _ _ _).symm hD)
    exact z_iret hx hb hr hlk hP hD hS dX3_numberOf_105 rfl rfl

set_option maxHeartbeats 4000000 in
set_option maxRecDepth 100000 in
theorem c_X3_numberOf_w3 (l : Launch) (G : ZG) (o pr q : Nat) (a b d : Nat → Nat) (pa : Nat → Nat → Nat) (S P L : Nat → Nat) (t v u : Mem) (pv : Nat → Mem) (n : Nat) (hn : n < 40)  : CI l G yX3_numberOf wsX3_numberOf (zRm 2 43) [.ref o, .int (nI n), .int (nI 3)] (headW G o pr (prF pa) a b q S ++ (playW G q (d 0) P ++ (textW G b t L ++ (rollW G a v ++ (rollW G d u ++ pastW G pa pv))))) (v 2 n) (headW G o pr (prF pa) a b q S ++ (playW G q (d 0) P ++ (textW G b t L ++ (rollW G a v ++ (rollW G d u ++ pastW G pa pv))))) := by
  refine CI.ent (cc := cX3_numberOf) (maxL := 4) (ty := .int) (own := RX3) (by decide) rfl rfl (Nat.le_of_ble_eq_true rfl) ?_
  intro p ee s m args below meth c A ls F hr hlk hKK hP hD hA hS hl
  obtain ⟨hx, hb, hml, hown, hts⟩ := id F
  have hl : lv_has ls 4 [(0, .ref o), (1, .int (nI n)), (2, .int (nI 3))] := hl
  have fl_10 := hts (.fieldLink RX3 10 "NameRolls" "now" "LNameRolls$Roll;") (by decide +kernel)
  have fl_70 := hts (.fieldLink RX3 70 "NameRolls$Roll" "names" "[I") (by decide +kernel)
  have fl_108 := hts (.fieldLink RX3 108 "NameRolls$Roll" "years" "[I") (by decide +kernel)
  have hinX1 : ∀ w ∈ wsX10, w ∈ wsX3_numberOf := by decide +kernel
  have hinX3 : ∀ w ∈ wsX30, w ∈ wsX3_numberOf := by decide +kernel
  refine lv_iload_n hx hb dX3_numberOf_0 rfl (lv_at hl 1 rfl) ?_
  refine lv_bipush (v := nI 40) hx hb dX3_numberOf_1 (by decide) ?_
  refine z_callSI (As := [.int (nI n), .int (nI 40)]) (rest := []) F (c_X3_isBelow_b l G (nI n) 40 (by decide) true (bel_ok hn (by decide))) (va_cwS 2 hts gX3_numberOf_X3_isBelow rfl rfl rfl (by decide +kernel) ⟨Nat.le_of_ble_eq_true rfl, Nat.le_of_ble_eq_true rfl⟩) hKK hP hD hS hA rfl hl.1 rfl (Nat.le_of_ble_eq_true rfl) ⟨Nat.zero_le _, Nat.zero_le _⟩ dX3_numberOf_3 (fun H locs hP hD hS => ?_)
  refine z_ifBeq (tgt := 17) hx hb dX3_numberOf_6 (by decide) (fun c_1 => absurd c_1 (by decide)) (fun c_1 => ?_)
  refine lv_iload_n hx hb dX3_numberOf_9 rfl (lv_at hl 2 rfl) ?_
  refine lv_iconst (v := nI 5) hx hb dX3_numberOf_10 (by decide) ?_
  refine z_callSI (As := [.int (nI 3), .int (nI 5)]) (rest := []) F (c_X3_isBelow_b l G (nI 3) 5 (by decide) true (bel_ok (by decide) (by decide))) (va_cwS 2 hts gX3_numberOf_X3_isBelow rfl rfl rfl (by decide +kernel) ⟨Nat.le_of_ble_eq_true rfl, Nat.le_of_ble_eq_true rfl⟩) hKK hP hD hS hA rfl hl.1 rfl (Nat.le_of_ble_eq_true rfl) ⟨Nat.zero_le _, Nat.zero_le _⟩ dX3_numberOf_11 (fun H locs hP hD hS => ?_)
  refine z_ifBne (tgt := 20) hx hb dX3_numberOf_14 (by decide) (fun c_2 => ?_) (fun c_2 => absurd c_2 (by decide))
  refine lv_aload_n hx hb dX3_numberOf_20 rfl (lv_at hl 0 rfl) ?_
  refine va_get (D := G.1) (ci := 3) (v := .ref (a 0)) (C := RX3) (T := TX3) (N := 5) hx hb hts hinX3 hown hKK.1 hP 0 rfl rfl 0 (by decide) fl_10 (fun _ h9 => h9) rfl dX3_numberOf_21 ?_
  refine va_get (D := G.1) (ci := 1) (v := .ref (a 1)) (C := RX1) (T := TX1) (N := 15) hx hb hts hinX1 hown hKK.1 hP 5 rfl rfl 0 (by decide) fl_70 (fun _ h9 => h9) rfl dX3_numberOf_24 ?_
  refine lv_iload_n hx hb dX3_numberOf_27 rfl (lv_at hl 1 rfl) ?_
  refine z_iald (n := 40) (f := v 0) (v := v 0 n) hx hb hKK hP 6 rfl (by omega) (by decide) rfl dX3_numberOf_28 ?_
  refine lv_if_eq (tgt := 36) hx hb dX3_numberOf_29 (by decide) (fun c_3 => ?_) (fun c_3 => ?_)
  · skip
    refine lv_iconst (v := nI 0) hx hb dX3_numberOf_36 (by decide) ?_
    refine lv_istore_n (lv' := [(3, .int (nI 0)), (0, .ref o), (1, .int (nI n)), (2, .int (nI 3))]) hx hb dX3_numberOf_37 rfl hl (by decide) rfl (fun ls hl => ?_)
    refine lv_iload_n hx hb dX3_numberOf_38 rfl (lv_at hl 3 rfl) ?_
    refine lv_tableIn (off := 67) (tgt := 106) hx hb dX3_numberOf_39 (by decide) (by decide) rfl (by decide) ?_
    refine lv_aload_n hx hb dX3_numberOf_106 rfl (lv_at hl 1 rfl) ?_
    refine va_get (D := G.1) (ci := 3) (v := .ref (a 0)) (C := RX3) (T := TX3) (N := 5) hx hb hts hinX3 hown hKK.1 hP 0 rfl rfl 0 (by decide) fl_10 (fun _ h9 => h9) rfl dX3_numberOf_107 ?_
    refine va_get (D := G.1) (ci := 1) (v := .ref (a 3)) (C := RX1) (T := TX1) (N := 15) hx hb hts hinX1 hown hKK.1 hP 5 rfl rfl 2 (by decide) fl_108 (fun _ h9 => h9) rfl dX3_numberOf_110 ?_
    refine lv_iload_n hx hb dX3_numberOf_113 rfl (lv_at hl 2 rfl) ?_
    refine z_iald (n := 40) (f := v 2) (v := v 2 n) hx hb hKK hP 8 rfl (by omega) (by decide) rfl dX3_numberOf_114 ?_
    exact z_iret hx hb hr hlk hP hD hS dX3_numberOf_115 rfl rfl
  · skip
    refine lv_iconst (v := nI 1) hx hb dX3_numberOf_32 (by decide) ?_
    refine lv_goto (tgt := 37) hx hb dX3_numberOf_33 (by decide) ?_
    refine lv_istore_n (lv' := [(3, .int (nI 1)), (0, .ref o), (1, .int (nI n)), (2, .int (nI 3))]) hx hb dX3_numberOf_37 rfl hl (by decide) rfl (fun ls hl => ?_)
    refine lv_iload_n hx hb dX3_numberOf_38 rfl (lv_at hl 3 rfl) ?_
    refine lv_tableIn (off := 67) (tgt := 106) hx hb dX3_numberOf_39 (by decide) (by decide) rfl (by decide) ?_
    refine lv_aload_n hx hb dX3_numberOf_106 rfl (lv_at hl 1 rfl) ?_
    refine va_get (D := G.1) (ci := 3) (v := .ref (a 0)) (C := RX3) (T := TX3) (N := 5) hx hb hts hinX3 hown hKK.1 hP 0 rfl rfl 0 (by decide) fl_10 (fun _ h9 => h9) rfl dX3_numberOf_107 ?_
    refine va_get (D := G.1) (ci := 1) (v := .ref (a 3)) (C := RX1) (T := TX1) (N := 15) hx hb hts hinX1 hown hKK.1 hP 5 rfl rfl 2 (by decide) fl_108 (fun _ h9 => h9) rfl dX3_numberOf_110 ?_
    refine lv_iload_n hx hb dX3_numberOf_113 rfl (lv_at hl 2 rfl) ?_
    refine z_iald (n := 40) (f := v 2) (v := v 2 n) hx hb hKK hP 8 rfl (by omega) (by decide) rfl dX3_numberOf_114 ?_
    exact z_iret hx hb hr hlk hP hD hS dX3_numberOf_115 rfl rfl

set_option maxHeartbeats 4000000 in
set_option maxRecDepth 100000 in
theorem c_X3_numberOf_w4y (l : Launch) (G : ZG) (o pr q : Nat) (a b d : Nat → Nat) (pa : Nat → Nat → Nat) (S P L : Nat → Nat) (t v u : Mem) (pv : Nat → Mem) (n : Nat) (hn : n < 40) (h0 : ¬ v 0 n = 0) : CI l G yX3_numberOf wsX3_numberOf (zRm 2 43) [.ref o, .int (nI n), .int (nI 4)] (headW G o pr (prF pa) a b q S ++ (playW G q (d 0) P ++ (textW G b t L ++ (rollW G a v ++ (rollW G d u ++ pastW G pa pv))))) (nI 1000000 * v 12 0 + nI 100 * v 2 n + nI n) (headW G o pr (prF pa) a b q S ++ (playW G q (d 0) P ++ (textW G b t L ++ (rollW G a v ++ (rollW G d u ++ pastW G pa pv))))) := by
  refine CI.ent (cc := cX3_numberOf) (maxL := 4) (ty := .int) (own := RX3) (by decide) rfl rfl (Nat.le_of_ble_eq_true rfl) ?_
  intro p ee s m args below meth c A ls F hr hlk hKK hP hD hA hS hl
  obtain ⟨hx, hb, hml, hown, hts⟩ := id F
  have hl : lv_has ls 4 [(0, .ref o), (1, .int (nI n)), (2, .int (nI 4))] := hl
  have fl_10 := hts (.fieldLink RX3 10 "NameRolls" "now" "LNameRolls$Roll;") (by decide +kernel)
  have fl_70 := hts (.fieldLink RX3 70 "NameRolls$Roll" "names" "[I") (by decide +kernel)
  have hinX1 : ∀ w ∈ wsX10, w ∈ wsX3_numberOf := by decide +kernel
  have hinX3 : ∀ w ∈ wsX30, w ∈ wsX3_numberOf := by decide +kernel
  refine lv_iload_n hx hb dX3_numberOf_0 rfl (lv_at hl 1 rfl) ?_
  refine lv_bipush (v := nI 40) hx hb dX3_numberOf_1 (by decide) ?_
  refine z_callSI (As := [.int (nI n), .int (nI 40)]) (rest := []) F (c_X3_isBelow_b l G (nI n) 40 (by decide) true (bel_ok hn (by decide))) (va_cwS 2 hts gX3_numberOf_X3_isBelow rfl rfl rfl (by decide +kernel) ⟨Nat.le_of_ble_eq_true rfl, Nat.le_of_ble_eq_true rfl⟩) hKK hP hD hS hA rfl hl.1 rfl (Nat.le_of_ble_eq_true rfl) ⟨Nat.zero_le _, Nat.zero_le _⟩ dX3_numberOf_3 (fun H locs hP hD hS => ?_)
  refine z_ifBeq (tgt := 17) hx hb dX3_numberOf_6 (by decide) (fun c_1 => absurd c_1 (by decide)) (fun c_1 => ?_)
  refine lv_iload_n hx hb dX3_numberOf_9 rfl (lv_at hl 2 rfl) ?_
  refine lv_iconst (v := nI 5) hx hb dX3_numberOf_10 (by decide) ?_
  refine z_callSI (As := [.int (nI 4), .int (nI 5)]) (rest := []) F (c_X3_isBelow_b l G (nI 4) 5 (by decide) true (bel_ok (by decide) (by decide))) (va_cwS 2 hts gX3_numberOf_X3_isBelow rfl rfl rfl (by decide +kernel) ⟨Nat.le_of_ble_eq_true rfl, Nat.le_of_ble_eq_true rfl⟩) hKK hP hD hS hA rfl hl.1 rfl (Nat.le_of_ble_eq_true rfl) ⟨Nat.zero_le _, Nat.zero_le _⟩ dX3_numberOf_11 (fun H locs hP hD hS => ?_)
  refine z_ifBne (tgt := 20) hx hb dX3_numberOf_14 (by decide) (fun c_2 => ?_) (fun c_2 => absurd c_2 (by decide))
  refine lv_aload_n hx hb dX3_numberOf_20 rfl (lv_at hl 0 rfl) ?_
  refine va_get (D := G.1) (ci := 3) (v := .ref (a 0)) (C := RX3) (T := TX3) (N := 5) hx hb hts hinX3 hown hKK.1 hP 0 rfl rfl 0 (by decide) fl_10 (fun _ h9 => h9) rfl dX3_numberOf_21 ?_
  refine va_get (D := G.1) (ci := 1) (v := .ref (a 1)) (C := RX1) (T := TX1) (N := 15) hx hb hts hinX1 hown hKK.1 hP 5 rfl rfl 0 (by decide) fl_70 (fun _ h9 => h9) rfl dX3_numberOf_24 ?_
  refine lv_iload_n hx hb dX3_numberOf_27 rfl (lv_at hl 1 rfl) ?_
  refine z_iald (n := 40) (f := v 0) (v := v 0 n) hx hb hKK hP 6 rfl (by omega) (by decide) rfl dX3_numberOf_28 ?_
  refine lv_if_eq (tgt := 36) hx hb dX3_numberOf_29 (by decide) (fun c_3 => absurd c_3 h0) (fun c_3 => ?_)
  refine lv_iconst (v := nI 1) hx hb dX3_numberOf_32 (by decide) ?_
  refine lv_goto (tgt := 37) hx hb dX3_numberOf_33 (by decide) ?_
  refine lv_istore_n (lv' := [(3, .int (nI 1)), (0, .ref o), (1, .int (nI n)), (2, .int (nI 4))]) hx hb dX3_numberOf_37 rfl hl (by decide) rfl (fun ls hl => ?_)
  refine lv_iload_n hx hb dX3_numberOf_38 rfl (lv_at hl 3 rfl) ?_
  refine lv_tableOut (tgt := 116) hx hb dX3_numberOf_39 (by decide) (by decide) ?_
  refine lv_iload_n hx hb dX3_numberOf_116 rfl (lv_at hl 0 rfl) ?_
  refine z_ifNeq (tgt := 131) hx hb dX3_numberOf_117 (by decide) (by omega) (fun c_4 => absurd c_4 (by decide)) (fun c_4 => ?_)
  refine lv_aload_n hx hb dX3_numberOf_120 rfl (lv_at hl 1 rfl) ?_
  refine va_get (D := G.1) (ci := 3) (v := .ref (a 0)) (C := RX3) (T := TX3) (N := 5) hx hb hts hinX3 hown hKK.1 hP 0 rfl rfl 0 (by decide) fl_10 (fun _ h9 => h9) rfl dX3_numberOf_121 ?_
  refine lv_iload_n hx hb dX3_numberOf_124 rfl (lv_at hl 2 rfl) ?_
  refine z_callVI (As := [.int (nI n)]) (rest := []) (wr := (headW G o pr (prF pa) a b q S ++ (playW G q (d 0) P ++ (textW G b t L ++ (rollW G d u ++ pastW G pa pv))))) (C := RX1) F (c_X1_tagOf l G a v n hn) (cwV 1 hts gX3_numberOf_X1_tagOf rfl rfl rfl (by decide +kernel) ⟨Nat.le_of_ble_eq_true rfl, Nat.le_of_ble_eq_true rfl⟩) hKK (z_recv hKK hP (q0 := 5) (ci := 1) rfl rfl) (z_perm (pn_a _ _ _ _ _) hP) (z_permD (pn_a _ _ _ _ _) hD) hS hA rfl hl.1 rfl (Nat.le_of_ble_eq_true rfl) ⟨Nat.zero_le _, Nat.zero_le _⟩ dX3_numberOf_125 (fun H locs hP hD hS => ?_)
  have hP : va_P G.1 vwCl (headW G o pr (prF pa) a b q S ++ (playW G q (d 0) P ++ (textW G b t L ++ (rollW G a v ++ (rollW G d u ++ pastW G pa pv))))) H := (z_perm (pn_a _ _ _ _ _).symm hP)
  have hD : va_D A (headW G o pr (prF pa) a b q S ++ (playW G q (d 0) P ++ (textW G b t L ++ (rollW G a v ++ (rollW G d u ++ pastW G pa pv))))) := (z_permD (pn_a _ _ _ _ _).symm hD)
  refine lv_goto (tgt := 133) hx hb dX3_numberOf_128 (by decide) ?_
  exact z_iret hx hb hr hlk hP hD hS dX3_numberOf_133 rfl rfl

set_option maxHeartbeats 4000000 in
set_option maxRecDepth 100000 in
theorem c_X3_numberOf_w4n (l : Launch) (G : ZG) (o pr q : Nat) (a b d : Nat → Nat) (pa : Nat → Nat → Nat) (S P L : Nat → Nat) (t v u : Mem) (pv : Nat → Mem) (n : Nat) (hn : n < 40) (h0 : v 0 n = 0) : CI l G yX3_numberOf wsX3_numberOf (zRm 2 43) [.ref o, .int (nI n), .int (nI 4)] (headW G o pr (prF pa) a b q S ++ (playW G q (d 0) P ++ (textW G b t L ++ (rollW G a v ++ (rollW G d u ++ pastW G pa pv))))) ((-1000004)) (headW G o pr (prF pa) a b q S ++ (playW G q (d 0) P ++ (textW G b t L ++ (rollW G a v ++ (rollW G d u ++ pastW G pa pv))))) := by
  refine CI.ent (cc := cX3_numberOf) (maxL := 4) (ty := .int) (own := RX3) (by decide) rfl rfl (Nat.le_of_ble_eq_true rfl) ?_
  intro p ee s m args below meth c A ls F hr hlk hKK hP hD hA hS hl
  obtain ⟨hx, hb, hml, hown, hts⟩ := id F
  have hl : lv_has ls 4 [(0, .ref o), (1, .int (nI n)), (2, .int (nI 4))] := hl
  have ct_91 := hts (.constant RX3 91 (-1000004)) (by decide +kernel)
  have fl_10 := hts (.fieldLink RX3 10 "NameRolls" "now" "LNameRolls$Roll;") (by decide +kernel)
  have fl_70 := hts (.fieldLink RX3 70 "NameRolls$Roll" "names" "[I") (by decide +kernel)
  have hinX1 : ∀ w ∈ wsX10, w ∈ wsX3_numberOf := by decide +kernel
  have hinX3 : ∀ w ∈ wsX30, w ∈ wsX3_numberOf := by decide +kernel
  refine lv_iload_n hx hb dX3_numberOf_0 rfl (lv_at hl 1 rfl) ?_
  refine lv_bipush (v := nI 40) hx hb dX3_numberOf_1 (by decide) ?_
  refine z_callSI (As := [.int (nI n), .int (nI 40)]) (rest := []) F (c_X3_isBelow_b l G (nI n) 40 (by decide) true (bel_ok hn (by decide))) (va_cwS 2 hts gX3_numberOf_X3_isBelow rfl rfl rfl (by decide +kernel) ⟨Nat.le_of_ble_eq_true rfl, Nat.le_of_ble_eq_true rfl⟩) hKK hP hD hS hA rfl hl.1 rfl (Nat.le_of_ble_eq_true rfl) ⟨Nat.zero_le _, Nat.zero_le _⟩ dX3_numberOf_3 (fun H locs hP hD hS => ?_)
  refine z_ifBeq (tgt := 17) hx hb dX3_numberOf_6 (by decide) (fun c_1 => absurd c_1 (by decide)) (fun c_1 => ?_)
  refine lv_iload_n hx hb dX3_numberOf_9 rfl (lv_at hl 2 rfl) ?_
  refine lv_iconst (v := nI 5) hx hb dX3_numberOf_10 (by decide) ?_
  refine z_callSI (As := [.int (nI 4), .int (nI 5)]) (rest := []) F (c_X3_isBelow_b l G (nI 4) 5 (by decide) true (bel_ok (by decide) (by decide))) (va_cwS 2 hts gX3_numberOf_X3_isBelow rfl rfl rfl (by decide +kernel) ⟨Nat.le_of_ble_eq_true rfl, Nat.le_of_ble_eq_true rfl⟩) hKK hP hD hS hA rfl hl.1 rfl (Nat.le_of_ble_eq_true rfl) ⟨Nat.zero_le _, Nat.zero_le _⟩ dX3_numberOf_11 (fun H locs hP hD hS => ?_)
  refine z_ifBne (tgt := 20) hx hb dX3_numberOf_14 (by decide) (fun c_2 => ?_) (fun c_2 => absurd c_2 (by decide))
  refine lv_aload_n hx hb dX3_numberOf_20 rfl (lv_at hl 0 rfl) ?_
  refine va_get (D := G.1) (ci := 3) (v := .ref (a 0)) (C := RX3) (T := TX3) (N := 5) hx hb hts hinX3 hown hKK.1 hP 0 rfl rfl 0 (by decide) fl_10 (fun _ h9 => h9) rfl dX3_numberOf_21 ?_
  refine va_get (D := G.1) (ci := 1) (v := .ref (a 1)) (C := RX1) (T := TX1) (N := 15) hx hb hts hinX1 hown hKK.1 hP 5 rfl rfl 0 (by decide) fl_70 (fun _ h9 => h9) rfl dX3_numberOf_24 ?_
  refine lv_iload_n hx hb dX3_numberOf_27 rfl (lv_at hl 1 rfl) ?_
  refine z_iald (n := 40) (f := v 0) (v := v 0 n) hx hb hKK hP 6 rfl (by omega) (by decide) rfl dX3_numberOf_28 ?_
  refine lv_if_eq (tgt := 36) hx hb dX3_numberOf_29 (by decide) (fun c_3 => ?_) (fun c_3 => absurd h0 c_3)
  refine lv_iconst (v := nI 0) hx hb dX3_numberOf_36 (by decide) ?_
  refine lv_istore_n (lv' := [(3, .int (nI 0)), (0, .ref o), (1, .int (nI n)), (2, .int (nI 4))]) hx hb dX3_numberOf_37 rfl hl (by decide) rfl (fun ls hl => ?_)
  refine lv_iload_n hx hb dX3_numberOf_38 rfl (lv_at hl 3 rfl) ?_
  refine lv_tableOut (tgt := 116) hx hb dX3_numberOf_39 (by decide) (by decide) ?_
  refine lv_iload_n hx hb dX3_numberOf_116 rfl (lv_at hl 0 rfl) ?_
  refine z_ifNeq (tgt := 131) hx hb dX3_numberOf_117 (by decide) (by omega) (fun c_4 => ?_) (fun c_4 => absurd c_4 (by decide))
  refine z_ldc (v' := (-1000004)) hx hb hown ct_91 dX3_numberOf_131 rfl ?_
  exact z_iret hx hb hr hlk hP hD hS dX3_numberOf_133 rfl rfl

set_option maxHeartbeats 4000000 in
set_option maxRecDepth 100000 in
theorem c_X3_find_bad (l : Launch) (G : ZG) (o pr q : Nat) (a b d : Nat → Nat) (pa : Nat → Nat → Nat) (S P L : Nat → Nat) (t v u : Mem) (pv : Nat → Mem) (x : Int32) (h9 : zName x = false) : CI l G yX3_find wsX3_find (zRm 1 22) [.ref o, .int x] (headW G o pr (prF pa) a b q S ++ (playW G q (d 0) P ++ (textW G b t L ++ (rollW G a v ++ (rollW G d u ++ pastW G pa pv))))) ((-1000001)) (headW G o pr (prF pa) a b q S ++ (playW G q (d 0) P ++ (textW G b t L ++ (rollW G a v ++ (rollW G d u ++ pastW G pa pv))))) := by
  refine CI.ent (cc := cX3_find) (maxL := 3) (ty := .int) (own := RX3) (by decide) rfl rfl (Nat.le_of_ble_eq_true rfl) ?_
  intro p ee s m args below meth c A ls F hr hlk hKK hP hD hA hS hl
  obtain ⟨hx, hb, hml, hown, hts⟩ := id F
  have hl : lv_has ls 3 [(0, .ref o), (1, .int x)] := hl
  have ct_38 := hts (.constant RX3 38 (-1000001)) (by decide +kernel)
  refine lv_iload_n hx hb dX3_find_0 rfl (lv_at hl 1 rfl) ?_
  refine z_callSI (As := [.int x]) (rest := []) F (c_X3_isName_b l G x false h9) (va_cwS 1 hts gX3_find_X3_isName rfl rfl rfl (by decide +kernel) ⟨Nat.le_of_ble_eq_true rfl, Nat.le_of_ble_eq_true rfl⟩) hKK hP hD hS hA rfl hl.1 rfl (Nat.le_of_ble_eq_true rfl) ⟨Nat.zero_le _, Nat.zero_le _⟩ dX3_find_1 (fun H locs hP hD hS => ?_)
  refine z_ifBne (tgt := 10) hx hb dX3_find_4 (by decide) (fun c_1 => absurd c_1 (by decide)) (fun c_1 => ?_)
  refine z_ldc (v' := (-1000001)) hx hb hown ct_38 dX3_find_7 rfl ?_
  exact z_iret hx hb hr hlk hP hD hS dX3_find_9 rfl rfl

set_option maxHeartbeats 4000000 in
set_option maxRecDepth 100000 in
theorem c_X3_find_no (l : Launch) (G : ZG) (o pr q : Nat) (a b d : Nat → Nat) (pa : Nat → Nat → Nat) (S P L : Nat → Nat) (t v u : Mem) (pv : Nat → Mem) (x : Int32) (h9 : zName x = true) (he : zNum (v 0) x = -1) : CI l G yX3_find wsX3_find (zRm 1 22) [.ref o, .int x] (headW G o pr (prF pa) a b q S ++ (playW G q (d 0) P ++ (textW G b t L ++ (rollW G a v ++ (rollW G d u ++ pastW G pa pv))))) ((-1000004)) (headW G o pr (prF pa) a b q S ++ (playW G q (d 0) P ++ (textW G b t L ++ (rollW G a v ++ (rollW G d u ++ pastW G pa pv))))) := by
  refine CI.ent (cc := cX3_find) (maxL := 3) (ty := .int) (own := RX3) (by decide) rfl rfl (Nat.le_of_ble_eq_true rfl) ?_
  intro p ee s m args below meth c A ls F hr hlk hKK hP hD hA hS hl
  obtain ⟨hx, hb, hml, hown, hts⟩ := id F
  have hl : lv_has ls 3 [(0, .ref o), (1, .int x)] := hl
  have ct_91 := hts (.constant RX3 91 (-1000004)) (by decide +kernel)
  have fl_10 := hts (.fieldLink RX3 10 "NameRolls" "now" "LNameRolls$Roll;") (by decide +kernel)
  have hinX3 : ∀ w ∈ wsX30, w ∈ wsX3_find := by decide +kernel
  refine lv_iload_n hx hb dX3_find_0 rfl (lv_at hl 1 rfl) ?_
  refine z_callSI (As := [.int x]) (rest := []) F (c_X3_isName_b l G x true h9) (va_cwS 1 hts gX3_find_X3_isName rfl rfl rfl (by decide +kernel) ⟨Nat.le_of_ble_eq_true rfl, Nat.le_of_ble_eq_true rfl⟩) hKK hP hD hS hA rfl hl.1 rfl (Nat.le_of_ble_eq_true rfl) ⟨Nat.zero_le _, Nat.zero_le _⟩ dX3_find_1 (fun H locs hP hD hS => ?_)
  refine z_ifBne (tgt := 10) hx hb dX3_find_4 (by decide) (fun c_1 => ?_) (fun c_1 => absurd c_1 (by decide))
  refine lv_aload_n hx hb dX3_find_10 rfl (lv_at hl 0 rfl) ?_
  refine va_get (D := G.1) (ci := 3) (v := .ref (a 0)) (C := RX3) (T := TX3) (N := 5) hx hb hts hinX3 hown hKK.1 hP 0 rfl rfl 0 (by decide) fl_10 (fun _ h9 => h9) rfl dX3_find_11 ?_
  refine lv_iload_n hx hb dX3_find_14 rfl (lv_at hl 1 rfl) ?_
  refine z_callVI (As := [.int x]) (rest := []) (wr := (headW G o pr (prF pa) a b q S ++ (playW G q (d 0) P ++ (textW G b t L ++ (rollW G d u ++ pastW G pa pv))))) (C := RX1) F (c_X1_numberWith l G a v x) (cwV 1 hts gX3_find_X1_numberWith rfl rfl rfl (by decide +kernel) ⟨Nat.le_of_ble_eq_true rfl, Nat.le_of_ble_eq_true rfl⟩) hKK (z_recv hKK hP (q0 := 5) (ci := 1) rfl rfl) (z_perm (pn_a _ _ _ _ _) hP) (z_permD (pn_a _ _ _ _ _) hD) hS hA rfl hl.1 rfl (Nat.le_of_ble_eq_true rfl) ⟨Nat.zero_le _, Nat.zero_le _⟩ dX3_find_15 (fun H locs hP hD hS => ?_)
  have hP : va_P G.1 vwCl (headW G o pr (prF pa) a b q S ++ (playW G q (d 0) P ++ (textW G b t L ++ (rollW G a v ++ (rollW G d u ++ pastW G pa pv))))) H := (z_perm (pn_a _ _ _ _ _).symm hP)
  have hD : va_D A (headW G o pr (prF pa) a b q S ++ (playW G q (d 0) P ++ (textW G b t L ++ (rollW G a v ++ (rollW G d u ++ pastW G pa pv))))) := (z_permD (pn_a _ _ _ _ _).symm hD)
  refine lv_istore_n (lv' := [(2, .int (zNum (v 0) x)), (0, .ref o), (1, .int x)]) hx hb dX3_find_18 rfl hl (by decide) rfl (fun ls hl => ?_)
  refine lv_iload_n hx hb dX3_find_19 rfl (lv_at hl 0 rfl) ?_
  refine lv_iconst (v := (-1)) hx hb dX3_find_20 (by decide) ?_
  refine lv_icmp_ne (tgt := 29) hx hb dX3_find_21 (by decide) (fun c_2 => absurd he c_2) (fun c_2 => ?_)
  refine z_ldc (v' := (-1000004)) hx hb hown ct_91 dX3_find_24 rfl ?_
  refine lv_goto (tgt := 30) hx hb dX3_find_26 (by decide) ?_
  exact z_iret hx hb hr hlk hP hD hS dX3_find_30 rfl rfl

set_option maxHeartbeats 4000000 in
set_option maxRecDepth 100000 in
theorem c_X3_find_ok (l : Launch) (G : ZG) (o pr q : Nat) (a b d : Nat → Nat) (pa : Nat → Nat → Nat) (S P L : Nat → Nat) (t v u : Mem) (pv : Nat → Mem) (x : Int32) (n : Nat) (h9 : zName x = true) (he : zNum (v 0) x = nI n) (hn : n < 40) : CI l G yX3_find wsX3_find (zRm 1 22) [.ref o, .int x] (headW G o pr (prF pa) a b q S ++ (playW G q (d 0) P ++ (textW G b t L ++ (rollW G a v ++ (rollW G d u ++ pastW G pa pv))))) (nI n) (headW G o pr (prF pa) a b q S ++ (playW G q (d 0) P ++ (textW G b t L ++ (rollW G a v ++ (rollW G d u ++ pastW G pa pv))))) := by
  refine CI.ent (cc := cX3_find) (maxL := 3) (ty := .int) (own := RX3) (by decide) rfl rfl (Nat.le_of_ble_eq_true rfl) ?_
  intro p ee s m args below meth c A ls F hr hlk hKK hP hD hA hS hl
  obtain ⟨hx, hb, hml, hown, hts⟩ := id F
  have hl : lv_has ls 3 [(0, .ref o), (1, .int x)] := hl
  have fl_10 := hts (.fieldLink RX3 10 "NameRolls" "now" "LNameRolls$Roll;") (by decide +kernel)
  have hinX3 : ∀ w ∈ wsX30, w ∈ wsX3_find := by decide +kernel
  refine lv_iload_n hx hb dX3_find_0 rfl (lv_at hl 1 rfl) ?_
  refine z_callSI (As := [.int x]) (rest := []) F (c_X3_isName_b l G x true h9) (va_cwS 1 hts gX3_find_X3_isName rfl rfl rfl (by decide +kernel) ⟨Nat.le_of_ble_eq_true rfl, Nat.le_of_ble_eq_true rfl⟩) hKK hP hD hS hA rfl hl.1 rfl (Nat.le_of_ble_eq_true rfl) ⟨Nat.zero_le _, Nat.zero_le _⟩ dX3_find_1 (fun H locs hP hD hS => ?_)
  refine z_ifBne (tgt := 10) hx hb dX3_find_4 (by decide) (fun c_1 => ?_) (fun c_1 => absurd c_1 (by decide))
  refine lv_aload_n hx hb dX3_find_10 rfl (lv_at hl 0 rfl) ?_
  refine va_get (D := G.1) (ci := 3) (v := .ref (a 0)) (C := RX3) (T := TX3) (N := 5) hx hb hts hinX3 hown hKK.1 hP 0 rfl rfl 0 (by decide) fl_10 (fun _ h9 => h9) rfl dX3_find_11 ?_
  refine lv_iload_n hx hb dX3_find_14 rfl (lv_at hl 1 rfl) ?_
  refine z_callVI (As := [.int x]) (rest := []) (wr := (headW G o pr (prF pa) a b q S ++ (playW G q (d 0) P ++ (textW G b t L ++ (rollW G d u ++ pastW G pa pv))))) (C := RX1) F (c_X1_numberWith l G a v x) (cwV 1 hts gX3_find_X1_numberWith rfl rfl rfl (by decide +kernel) ⟨Nat.le_of_ble_eq_true rfl, Nat.le_of_ble_eq_true rfl⟩) hKK (z_recv hKK hP (q0 := 5) (ci := 1) rfl rfl) (z_perm (pn_a _ _ _ _ _) hP) (z_permD (pn_a _ _ _ _ _) hD) hS hA rfl hl.1 rfl (Nat.le_of_ble_eq_true rfl) ⟨Nat.zero_le _, Nat.zero_le _⟩ dX3_find_15 (fun H locs hP hD hS => ?_)
  have hP : va_P G.1 vwCl (headW G o pr (prF pa) a b q S ++ (playW G q (d 0) P ++ (textW G b t L ++ (rollW G a v ++ (rollW G d u ++ pastW G pa pv))))) H := (z_perm (pn_a _ _ _ _ _).symm hP)
  have hD : va_D A (headW G o pr (prF pa) a b q S ++ (playW G q (d 0) P ++ (textW G b t L ++ (rollW G a v ++ (rollW G d u ++ pastW G pa pv))))) := (z_permD (pn_a _ _ _ _ _).symm hD)
  refine z_top (v := nI n) he ?_
  refine lv_istore_n (lv' := [(2, .int (nI n)), (0, .ref o), (1, .int x)]) hx hb dX3_find_18 rfl hl (by decide) rfl (fun ls hl => ?_)
  refine lv_iload_n hx hb dX3_find_19 rfl (lv_at hl 0 rfl) ?_
  refine lv_iconst (v := (-1)) hx hb dX3_find_20 (by decide) ?_
  refine lv_icmp_ne (tgt := 29) hx hb dX3_find_21 (by decide) (fun c_2 => ?_) (fun c_2 => absurd c_2 (nI_nm1 (by omega)))
  refine lv_iload_n hx hb dX3_find_29 rfl (lv_at hl 0 rfl) ?_
  exact z_iret hx hb hr hlk hP hD hS dX3_find_30 rfl rfl

set_option maxHeartbeats 4000000 in
set_option maxRecDepth 100000 in
theorem c_X3_wouldBe_b1 (l : Launch) (G : ZG) (o pr q : Nat) (a b d : Nat → Nat) (pa : Nat → Nat → Nat) (S P L : Nat → Nat) (t v u : Mem) (pv : Nat → Mem) (x y : Int32) (h9 : zBel x 40 = false) : CI l G yX3_wouldBe wsX3_wouldBe (zRm 3 69) [.ref o, .int x, .int y] (headW G o pr (prF pa) a b q S ++ (playW G q (d 0) P ++ (textW G b t L ++ (rollW G a v ++ (rollW G d u ++ pastW G pa pv))))) ((-1000001)) (headW G o pr (prF pa) a b q S ++ (playW G q (d 0) P ++ (textW G b t L ++ (rollW G a v ++ (rollW G d u ++ pastW G pa pv))))) := by
  refine CI.ent (cc := cX3_wouldBe) (maxL := 3) (ty := .int) (own := RX3) (by decide) rfl rfl (Nat.le_of_ble_eq_true rfl) ?_
  intro p ee s m args below meth c A ls F hr hlk hKK hP hD hA hS hl
  obtain ⟨hx, hb, hml, hown, hts⟩ := id F
  have hl : lv_has ls 3 [(0, .ref o), (1, .int x), (2, .int y)] := hl
  have ct_38 := hts (.constant RX3 38 (-1000001)) (by decide +kernel)
  refine lv_iload_n hx hb dX3_wouldBe_0 rfl (lv_at hl 1 rfl) ?_
  refine lv_bipush (v := nI 40) hx hb dX3_wouldBe_1 (by decide) ?_
  refine z_callSI (As := [.int x, .int (nI 40)]) (rest := []) F (c_X3_isBelow_b l G x 40 (by decide) false h9) (va_cwS 2 hts gX3_wouldBe_X3_isBelow rfl rfl rfl (by decide +kernel) ⟨Nat.le_of_ble_eq_true rfl, Nat.le_of_ble_eq_true rfl⟩) hKK hP hD hS hA rfl hl.1 rfl (Nat.le_of_ble_eq_true rfl) ⟨Nat.zero_le _, Nat.zero_le _⟩ dX3_wouldBe_3 (fun H locs hP hD hS => ?_)
  refine z_ifBeq (tgt := 17) hx hb dX3_wouldBe_6 (by decide) (fun c_1 => ?_) (fun c_1 => absurd c_1 (by decide))
  refine z_ldc (v' := (-1000001)) hx hb hown ct_38 dX3_wouldBe_17 rfl ?_
  exact z_iret hx hb hr hlk hP hD hS dX3_wouldBe_19 rfl rfl

set_option maxHeartbeats 4000000 in
set_option maxRecDepth 100000 in
theorem c_X3_wouldBe_b2 (l : Launch) (G : ZG) (o pr q : Nat) (a b d : Nat → Nat) (pa : Nat → Nat → Nat) (S P L : Nat → Nat) (t v u : Mem) (pv : Nat → Mem) (x y : Int32) (h8 : zBel x 40 = true) (h9 : zBel y 3 = false) : CI l G yX3_wouldBe wsX3_wouldBe (zRm 3 69) [.ref o, .int x, .int y] (headW G o pr (prF pa) a b q S ++ (playW G q (d 0) P ++ (textW G b t L ++ (rollW G a v ++ (rollW G d u ++ pastW G pa pv))))) ((-1000001)) (headW G o pr (prF pa) a b q S ++ (playW G q (d 0) P ++ (textW G b t L ++ (rollW G a v ++ (rollW G d u ++ pastW G pa pv))))) := by
  refine CI.ent (cc := cX3_wouldBe) (maxL := 3) (ty := .int) (own := RX3) (by decide) rfl rfl (Nat.le_of_ble_eq_true rfl) ?_
  intro p ee s m args below meth c A ls F hr hlk hKK hP hD hA hS hl
  obtain ⟨hx, hb, hml, hown, hts⟩ := id F
  have hl : lv_has ls 3 [(0, .ref o), (1, .int x), (2, .int y)] := hl
  have ct_38 := hts (.constant RX3 38 (-1000001)) (by decide +kernel)
  refine lv_iload_n hx hb dX3_wouldBe_0 rfl (lv_at hl 1 rfl) ?_
  refine lv_bipush (v := nI 40) hx hb dX3_wouldBe_1 (by decide) ?_
  refine z_callSI (As := [.int x, .int (nI 40)]) (rest := []) F (c_X3_isBelow_b l G x 40 (by decide) true h8) (va_cwS 2 hts gX3_wouldBe_X3_isBelow rfl rfl rfl (by decide +kernel) ⟨Nat.le_of_ble_eq_true rfl, Nat.le_of_ble_eq_true rfl⟩) hKK hP hD hS hA rfl hl.1 rfl (Nat.le_of_ble_eq_true rfl) ⟨Nat.zero_le _, Nat.zero_le _⟩ dX3_wouldBe_3 (fun H locs hP hD hS => ?_)
  refine z_ifBeq (tgt := 17) hx hb dX3_wouldBe_6 (by decide) (fun c_1 => absurd c_1 (by decide)) (fun c_1 => ?_)
  refine lv_iload_n hx hb dX3_wouldBe_9 rfl (lv_at hl 2 rfl) ?_
  refine lv_iconst (v := nI 3) hx hb dX3_wouldBe_10 (by decide) ?_
  refine z_callSI (As := [.int y, .int (nI 3)]) (rest := []) F (c_X3_isBelow_b l G y 3 (by decide) false h9) (va_cwS 2 hts gX3_wouldBe_X3_isBelow rfl rfl rfl (by decide +kernel) ⟨Nat.le_of_ble_eq_true rfl, Nat.le_of_ble_eq_true rfl⟩) hKK hP hD hS hA rfl hl.1 rfl (Nat.le_of_ble_eq_true rfl) ⟨Nat.zero_le _, Nat.zero_le _⟩ dX3_wouldBe_11 (fun H locs hP hD hS => ?_)
  refine z_ifBne (tgt := 20) hx hb dX3_wouldBe_14 (by decide) (fun c_2 => absurd c_2 (by decide)) (fun c_2 => ?_)
  refine z_ldc (v' := (-1000001)) hx hb hown ct_38 dX3_wouldBe_17 rfl ?_
  exact z_iret hx hb hr hlk hP hD hS dX3_wouldBe_19 rfl rfl

set_option maxHeartbeats 4000000 in
set_option maxRecDepth 100000 in
theorem c_X3_wouldBe_no (l : Launch) (G : ZG) (o pr q : Nat) (a b d : Nat → Nat) (pa : Nat → Nat → Nat) (S P L : Nat → Nat) (t v u : Mem) (pv : Nat → Mem) (n x : Nat) (hn : n < 40) (hr9 : x < 3) (h0 : v 0 n = 0) : CI l G yX3_wouldBe wsX3_wouldBe (zRm 3 69) [.ref o, .int (nI n), .int (nI x)] (headW G o pr (prF pa) a b q S ++ (playW G q (d 0) P ++ (textW G b t L ++ (rollW G a v ++ (rollW G d u ++ pastW G pa pv))))) ((-1000004)) (headW G o pr (prF pa) a b q S ++ (playW G q (d 0) P ++ (textW G b t L ++ (rollW G a v ++ (rollW G d u ++ pastW G pa pv))))) := by
  refine CI.ent (cc := cX3_wouldBe) (maxL := 3) (ty := .int) (own := RX3) (by decide) rfl rfl (Nat.le_of_ble_eq_true rfl) ?_
  intro p ee s m args below meth c A ls F hr hlk hKK hP hD hA hS hl
  obtain ⟨hx, hb, hml, hown, hts⟩ := id F
  have hl : lv_has ls 3 [(0, .ref o), (1, .int (nI n)), (2, .int (nI x))] := hl
  have ct_91 := hts (.constant RX3 91 (-1000004)) (by decide +kernel)
  have fl_10 := hts (.fieldLink RX3 10 "NameRolls" "now" "LNameRolls$Roll;") (by decide +kernel)
  have fl_70 := hts (.fieldLink RX3 70 "NameRolls$Roll" "names" "[I") (by decide +kernel)
  have hinX1 : ∀ w ∈ wsX10, w ∈ wsX3_wouldBe := by decide +kernel
  have hinX3 : ∀ w ∈ wsX30, w ∈ wsX3_wouldBe := by decide +kernel
  refine lv_iload_n hx hb dX3_wouldBe_0 rfl (lv_at hl 1 rfl) ?_
  refine lv_bipush (v := nI 40) hx hb dX3_wouldBe_1 (by decide) ?_
  refine z_callSI (As := [.int (nI n), .int (nI 40)]) (rest := []) F (c_X3_isBelow_b l G (nI n) 40 (by decide) true (bel_ok hn (by decide))) (va_cwS 2 hts gX3_wouldBe_X3_isBelow rfl rfl rfl (by decide +kernel) ⟨Nat.le_of_ble_eq_true rfl, Nat.le_of_ble_eq_true rfl⟩) hKK hP hD hS hA rfl hl.1 rfl (Nat.le_of_ble_eq_true rfl) ⟨Nat.zero_le _, Nat.zero_le _⟩ dX3_wouldBe_3 (fun H locs hP hD hS => ?_)
  refine z_ifBeq (tgt := 17) hx hb dX3_wouldBe_6 (by decide) (fun c_1 => absurd c_1 (by decide)) (fun c_1 => ?_)
  refine lv_iload_n hx hb dX3_wouldBe_9 rfl (lv_at hl 2 rfl) ?_
  refine lv_iconst (v := nI 3) hx hb dX3_wouldBe_10 (by decide) ?_
  refine z_callSI (As := [.int (nI x), .int (nI 3)]) (rest := []) F (c_X3_isBelow_b l G (nI x) 3 (by decide) true (bel_ok hr9 (by decide))) (va_cwS 2 hts gX3_wouldBe_X3_isBelow rfl rfl rfl (by decide +kernel) ⟨Nat.le_of_ble_eq_true rfl, Nat.le_of_ble_eq_true rfl⟩) hKK hP hD hS hA rfl hl.1 rfl (Nat.le_of_ble_eq_true rfl) ⟨Nat.zero_le _, Nat.zero_le _⟩ dX3_wouldBe_11 (fun H locs hP hD hS => ?_)
  refine z_ifBne (tgt := 20) hx hb dX3_wouldBe_14 (by decide) (fun c_2 => ?_) (fun c_2 => absurd c_2 (by decide))
  refine lv_aload_n hx hb dX3_wouldBe_20 rfl (lv_at hl 0 rfl) ?_
  refine va_get (D := G.1) (ci := 3) (v := .ref (a 0)) (C := RX3) (T := TX3) (N := 5) hx hb hts hinX3 hown hKK.1 hP 0 rfl rfl 0 (by decide) fl_10 (fun _ h9 => h9) rfl dX3_wouldBe_21 ?_
  refine va_get (D := G.1) (ci := 1) (v := .ref (a 1)) (C := RX1) (T := TX1) (N := 15) hx hb hts hinX1 hown hKK.1 hP 5 rfl rfl 0 (by decide) fl_70 (fun _ h9 => h9) rfl dX3_wouldBe_24 ?_
  refine lv_iload_n hx hb dX3_wouldBe_27 rfl (lv_at hl 1 rfl) ?_
  refine z_iald (n := 40) (f := v 0) (v := v 0 n) hx hb hKK hP 6 rfl (by omega) (by decide) rfl dX3_wouldBe_28 ?_
  refine lv_if_ne (tgt := 37) hx hb dX3_wouldBe_29 (by decide) (fun c_3 => absurd h0 c_3) (fun c_3 => ?_)
  refine z_ldc (v' := (-1000004)) hx hb hown ct_91 dX3_wouldBe_32 rfl ?_
  refine lv_goto (tgt := 46) hx hb dX3_wouldBe_34 (by decide) ?_
  exact z_iret hx hb hr hlk hP hD hS dX3_wouldBe_46 rfl rfl

set_option maxHeartbeats 4000000 in
set_option maxRecDepth 100000 in
theorem c_X3_wouldBe_ok (l : Launch) (G : ZG) (o pr q : Nat) (a b d : Nat → Nat) (pa : Nat → Nat → Nat) (S P L : Nat → Nat) (t v u : Mem) (pv : Nat → Mem) (n x : Nat) (hn : n < 40) (hr9 : x < 3) (h0 : ¬ v 0 n = 0) (hN : okN v) : CI l G yX3_wouldBe wsX3_wouldBe (zRm 3 69) [.ref o, .int (nI n), .int (nI x)] (headW G o pr (prF pa) a b q S ++ (playW G q (d 0) P ++ (textW G b t L ++ (rollW G a v ++ (rollW G d u ++ pastW G pa pv))))) (nI (zPl v x n)) (headW G o pr (prF pa) a b q S ++ (playW G q (d 0) P ++ (textW G b t L ++ (rollW G a v ++ (rollW G d u ++ pastW G pa pv))))) := by
  refine CI.ent (cc := cX3_wouldBe) (maxL := 3) (ty := .int) (own := RX3) (by decide) rfl rfl (Nat.le_of_ble_eq_true rfl) ?_
  intro p ee s m args below meth c A ls F hr hlk hKK hP hD hA hS hl
  obtain ⟨hx, hb, hml, hown, hts⟩ := id F
  have hl : lv_has ls 3 [(0, .ref o), (1, .int (nI n)), (2, .int (nI x))] := hl
  have fl_10 := hts (.fieldLink RX3 10 "NameRolls" "now" "LNameRolls$Roll;") (by decide +kernel)
  have fl_70 := hts (.fieldLink RX3 70 "NameRolls$Roll" "names" "[I") (by decide +kernel)
  have hinX1 : ∀ w ∈ wsX10, w ∈ wsX3_wouldBe := by decide +kernel
  have hinX3 : ∀ w ∈ wsX30, w ∈ wsX3_wouldBe := by decide +kernel
  refine lv_iload_n hx hb dX3_wouldBe_0 rfl (lv_at hl 1 rfl) ?_
  refine lv_bipush (v := nI 40) hx hb dX3_wouldBe_1 (by decide) ?_
  refine z_callSI (As := [.int (nI n), .int (nI 40)]) (rest := []) F (c_X3_isBelow_b l G (nI n) 40 (by decide) true (bel_ok hn (by decide))) (va_cwS 2 hts gX3_wouldBe_X3_isBelow rfl rfl rfl (by decide +kernel) ⟨Nat.le_of_ble_eq_true rfl, Nat.le_of_ble_eq_true rfl⟩) hKK hP hD hS hA rfl hl.1 rfl (Nat.le_of_ble_eq_true rfl) ⟨Nat.zero_le _, Nat.zero_le _⟩ dX3_wouldBe_3 (fun H locs hP hD hS => ?_)
  refine z_ifBeq (tgt := 17) hx hb dX3_wouldBe_6 (by decide) (fun c_1 => absurd c_1 (by decide)) (fun c_1 => ?_)
  refine lv_iload_n hx hb dX3_wouldBe_9 rfl (lv_at hl 2 rfl) ?_
  refine lv_iconst (v := nI 3) hx hb dX3_wouldBe_10 (by decide) ?_
  refine z_callSI (As := [.int (nI x), .int (nI 3)]) (rest := []) F (c_X3_isBelow_b l G (nI x) 3 (by decide) true (bel_ok hr9 (by decide))) (va_cwS 2 hts gX3_wouldBe_X3_isBelow rfl rfl rfl (by decide +kernel) ⟨Nat.le_of_ble_eq_true rfl, Nat.le_of_ble_eq_true rfl⟩) hKK hP hD hS hA rfl hl.1 rfl (Nat.le_of_ble_eq_true rfl) ⟨Nat.zero_le _, Nat.zero_le _⟩ dX3_wouldBe_11 (fun H locs hP hD hS => ?_)
  refine z_ifBne (tgt := 20) hx hb dX3_wouldBe_14 (by decide) (fun c_2 => ?_) (fun c_2 => absurd c_2 (by decide))
  refine lv_aload_n hx hb dX3_wouldBe_20 rfl (lv_at hl 0 rfl) ?_
  refine va_get (D := G.1) (ci := 3) (v := .ref (a 0)) (C := RX3) (T := TX3) (N := 5) hx hb hts hinX3 hown hKK.1 hP 0 rfl rfl 0 (by decide) fl_10 (fun _ h9 => h9) rfl dX3_wouldBe_21 ?_
  refine va_get (D := G.1) (ci := 1) (v := .ref (a 1)) (C := RX1) (T := TX1) (N := 15) hx hb hts hinX1 hown hKK.1 hP 5 rfl rfl 0 (by decide) fl_70 (fun _ h9 => h9) rfl dX3_wouldBe_24 ?_
  refine lv_iload_n hx hb dX3_wouldBe_27 rfl (lv_at hl 1 rfl) ?_
  refine z_iald (n := 40) (f := v 0) (v := v 0 n) hx hb hKK hP 6 rfl (by omega) (by decide) rfl dX3_wouldBe_28 ?_
  refine lv_if_ne (tgt := 37) hx hb dX3_wouldBe_29 (by decide) (fun c_3 => ?_) (fun c_3 => absurd c_3 h0)
  refine lv_aload_n hx hb dX3_wouldBe_37 rfl (lv_at hl 0 rfl) ?_
  refine va_get (D := G.1) (ci := 3) (v := .ref (a 0)) (C := RX3) (T := TX3) (N := 5) hx hb hts hinX3 hown hKK.1 hP 0 rfl rfl 0 (by decide) fl_10 (fun _ h9 => h9) rfl dX3_wouldBe_38 ?_
  refine lv_iload_n hx hb dX3_wouldBe_41 rfl (lv_at hl 1 rfl) ?_
  refine lv_iload_n hx hb dX3_wouldBe_42 rfl (lv_at hl 2 rfl) ?_
  refine z_callVI (As := [.int (nI n), .int (nI x)]) (rest := []) (wr := (headW G o pr (prF pa) a b q S ++ (playW G q (d 0) P ++ (textW G b t L ++ (rollW G d u ++ pastW G pa pv))))) (C := RX1) F (c_X1_placeOf l G a v n x hn (by omega) hN) (cwV 2 hts gX3_wouldBe_X1_placeOf rfl rfl rfl (by decide +kernel) ⟨Nat.le_of_ble_eq_true rfl, Nat.le_of_ble_eq_true rfl⟩) hKK (z_recv hKK hP (q0 := 5) (ci := 1) rfl rfl) (z_perm (pn_a _ _ _ _ _) hP) (z_permD (pn_a _ _ _ _ _) hD) hS hA rfl hl.1 rfl (Nat.le_of_ble_eq_true rfl) ⟨Nat.zero_le _, Nat.zero_le _⟩ dX3_wouldBe_43 (fun H locs hP hD hS => ?_)
  have hP : va_P G.1 vwCl (headW G o pr (prF pa) a b q S ++ (playW G q (d 0) P ++ (textW G b t L ++ (rollW G a v ++ (rollW G d u ++ pastW G pa pv))))) H := (z_perm (pn_a _ _ _ _ _).symm hP)
  have hD : va_D A (headW G o pr (prF pa) a b q S ++ (playW G q (d 0) P ++ (textW G b t L ++ (rollW G a v ++ (rollW G d u ++ pastW G pa pv))))) := (z_permD (pn_a _ _ _ _ _).symm hD)
  exact z_iret hx hb hr hlk hP hD hS dX3_wouldBe_46 rfl rfl

set_option maxHeartbeats 4000000 in
set_option maxRecDepth 100000 in
theorem c_X3_compaction_b1 (l : Launch) (G : ZG) (o pr q : Nat) (a b d : Nat → Nat) (pa : Nat → Nat → Nat) (S P L : Nat → Nat) (t v u : Mem) (pv : Nat → Mem) (x y : Int32) (h9 : zBel x 3 = false) : CI l G yX3_compaction wsX3_compaction (zRm 3 73) [.ref o, .int x, .int y] (headW G o pr (prF pa) a b q S ++ (playW G q (d 0) P ++ (textW G b t L ++ (rollW G a v ++ (rollW G d u ++ pastW G pa pv))))) ((-1000001)) (headW G o pr (prF pa) a b q S ++ (playW G q (d 0) P ++ (textW G b t L ++ (rollW G a v ++ (rollW G d u ++ pastW G pa pv))))) := by
  refine CI.ent (cc := cX3_compaction) (maxL := 4) (ty := .int) (own := RX3) (by decide) rfl rfl (Nat.le_of_ble_eq_true rfl) ?_
  intro p ee s m args below meth c A ls F hr hlk hKK hP hD hA hS hl
  obtain ⟨hx, hb, hml, hown, hts⟩ := id F
  have hl : lv_has ls 4 [(0, .ref o), (1, .int x), (2, .int y)] := hl
  have ct_38 := hts (.constant RX3 38 (-1000001)) (by decide +kernel)
  refine lv_iload_n hx hb dX3_compaction_0 rfl (lv_at hl 1 rfl) ?_
  refine lv_iconst (v := nI 3) hx hb dX3_compaction_1 (by decide) ?_
  refine z_callSI (As := [.int x, .int (nI 3)]) (rest := []) F (c_X3_isBelow_b l G x 3 (by decide) false h9) (va_cwS 2 hts gX3_compaction_X3_isBelow rfl rfl rfl (by decide +kernel) ⟨Nat.le_of_ble_eq_true rfl, Nat.le_of_ble_eq_true rfl⟩) hKK hP hD hS hA rfl hl.1 rfl (Nat.le_of_ble_eq_true rfl) ⟨Nat.zero_le _, Nat.zero_le _⟩ dX3_compaction_2 (fun H locs hP hD hS => ?_)
  refine z_ifBeq (tgt := 16) hx hb dX3_compaction_5 (by decide) (fun c_1 => ?_) (fun c_1 => absurd c_1 (by decide))
  refine z_ldc (v' := (-1000001)) hx hb hown ct_38 dX3_compaction_16 rfl ?_
  exact z_iret hx hb hr hlk hP hD hS dX3_compaction_18 rfl rfl

set_option maxHeartbeats 4000000 in
set_option maxRecDepth 100000 in
theorem c_X3_compaction_b2 (l : Launch) (G : ZG) (o pr q : Nat) (a b d : Nat → Nat) (pa : Nat → Nat → Nat) (S P L : Nat → Nat) (t v u : Mem) (pv : Nat → Mem) (x y : Int32) (h8 : zBel x 3 = true) (h9 : zBel y 4 = false) : CI l G yX3_compaction wsX3_compaction (zRm 3 73) [.ref o, .int x, .int y] (headW G o pr (prF pa) a b q S ++ (playW G q (d 0) P ++ (textW G b t L ++ (rollW G a v ++ (rollW G d u ++ pastW G pa pv))))) ((-1000001)) (headW G o pr (prF pa) a b q S ++ (playW G q (d 0) P ++ (textW G b t L ++ (rollW G a v ++ (rollW G d u ++ pastW G pa pv))))) := by
  refine CI.ent (cc := cX3_compaction) (maxL := 4) (ty := .int) (own := RX3) (by decide) rfl rfl (Nat.le_of_ble_eq_true rfl) ?_
  intro p ee s m args below meth c A ls F hr hlk hKK hP hD hA hS hl
  obtain ⟨hx, hb, hml, hown, hts⟩ := id F
  have hl : lv_has ls 4 [(0, .ref o), (1, .int x), (2, .int y)] := hl
  have ct_38 := hts (.constant RX3 38 (-1000001)) (by decide +kernel)
  refine lv_iload_n hx hb dX3_compaction_0 rfl (lv_at hl 1 rfl) ?_
  refine lv_iconst (v := nI 3) hx hb dX3_compaction_1 (by decide) ?_
  refine z_callSI (As := [.int x, .int (nI 3)]) (rest := []) F (c_X3_isBelow_b l G x 3 (by decide) true h8) (va_cwS 2 hts gX3_compaction_X3_isBelow rfl rfl rfl (by decide +kernel) ⟨Nat.le_of_ble_eq_true rfl, Nat.le_of_ble_eq_true rfl⟩) hKK hP hD hS hA rfl hl.1 rfl (Nat.le_of_ble_eq_true rfl) ⟨Nat.zero_le _, Nat.zero_le _⟩ dX3_compaction_2 (fun H locs hP hD hS => ?_)
  refine z_ifBeq (tgt := 16) hx hb dX3_compaction_5 (by decide) (fun c_1 => absurd c_1 (by decide)) (fun c_1 => ?_)
  refine lv_iload_n hx hb dX3_compaction_8 rfl (lv_at hl 2 rfl) ?_
  refine lv_iconst (v := nI 4) hx hb dX3_compaction_9 (by decide) ?_
  refine z_callSI (As := [.int y, .int (nI 4)]) (rest := []) F (c_X3_isBelow_b l G y 4 (by decide) false h9) (va_cwS 2 hts gX3_compaction_X3_isBelow rfl rfl rfl (by decide +kernel) ⟨Nat.le_of_ble_eq_true rfl, Nat.le_of_ble_eq_true rfl⟩) hKK hP hD hS hA rfl hl.1 rfl (Nat.le_of_ble_eq_true rfl) ⟨Nat.zero_le _, Nat.zero_le _⟩ dX3_compaction_10 (fun H locs hP hD hS => ?_)
  refine z_ifBne (tgt := 19) hx hb dX3_compaction_13 (by decide) (fun c_2 => absurd c_2 (by decide)) (fun c_2 => ?_)
  refine z_ldc (v' := (-1000001)) hx hb hown ct_38 dX3_compaction_16 rfl ?_
  exact z_iret hx hb hr hlk hP hD hS dX3_compaction_18 rfl rfl

set_option maxHeartbeats 4000000 in
set_option maxRecDepth 100000 in
theorem c_X3_compaction_no (l : Launch) (G : ZG) (o pr q : Nat) (a b d : Nat → Nat) (pa : Nat → Nat → Nat) (S P L : Nat → Nat) (t v u : Mem) (pv : Nat → Mem) (n w e0 : Nat) (hn : n < 3) (hw9 : w < 4) (he : v 12 0 = nI e0) (he9 : e0 ≤ 999) (hie : ¬ n < e0) : CI l G yX3_compaction wsX3_compaction (zRm 3 73) [.ref o, .int (nI n), .int (nI w)] (headW G o pr (prF pa) a b q S ++ (playW G q (d 0) P ++ (textW G b t L ++ (rollW G a v ++ (rollW G d u ++ pastW G pa pv))))) ((-1000004)) (headW G o pr (prF pa) a b q S ++ (playW G q (d 0) P ++ (textW G b t L ++ (rollW G a v ++ (rollW G d u ++ pastW G pa pv))))) := by
  refine CI.ent (cc := cX3_compaction) (maxL := 4) (ty := .int) (own := RX3) (by decide) rfl rfl (Nat.le_of_ble_eq_true rfl) ?_
  intro p ee s m args below meth c A ls F hr hlk hKK hP hD hA hS hl
  obtain ⟨hx, hb, hml, hown, hts⟩ := id F
  have hl : lv_has ls 4 [(0, .ref o), (1, .int (nI n)), (2, .int (nI w))] := hl
  have ct_91 := hts (.constant RX3 91 (-1000004)) (by decide +kernel)
  have fl_10 := hts (.fieldLink RX3 10 "NameRolls" "now" "LNameRolls$Roll;") (by decide +kernel)
  have fl_123 := hts (.fieldLink RX3 123 "NameRolls$Roll" "epoch" "I") (by decide +kernel)
  have hinX1 : ∀ w ∈ wsX10, w ∈ wsX3_compaction := by decide +kernel
  have hinX3 : ∀ w ∈ wsX30, w ∈ wsX3_compaction := by decide +kernel
  refine lv_iload_n hx hb dX3_compaction_0 rfl (lv_at hl 1 rfl) ?_
  refine lv_iconst (v := nI 3) hx hb dX3_compaction_1 (by decide) ?_
  refine z_callSI (As := [.int (nI n), .int (nI 3)]) (rest := []) F (c_X3_isBelow_b l G (nI n) 3 (by decide) true (bel_ok hn (by decide))) (va_cwS 2 hts gX3_compaction_X3_isBelow rfl rfl rfl (by decide +kernel) ⟨Nat.le_of_ble_eq_true rfl, Nat.le_of_ble_eq_true rfl⟩) hKK hP hD hS hA rfl hl.1 rfl (Nat.le_of_ble_eq_true rfl) ⟨Nat.zero_le _, Nat.zero_le _⟩ dX3_compaction_2 (fun H locs hP hD hS => ?_)
  refine z_ifBeq (tgt := 16) hx hb dX3_compaction_5 (by decide) (fun c_1 => absurd c_1 (by decide)) (fun c_1 => ?_)
  refine lv_iload_n hx hb dX3_compaction_8 rfl (lv_at hl 2 rfl) ?_
  refine lv_iconst (v := nI 4) hx hb dX3_compaction_9 (by decide) ?_
  refine z_callSI (As := [.int (nI w), .int (nI 4)]) (rest := []) F (c_X3_isBelow_b l G (nI w) 4 (by decide) true (bel_ok hw9 (by decide))) (va_cwS 2 hts gX3_compaction_X3_isBelow rfl rfl rfl (by decide +kernel) ⟨Nat.le_of_ble_eq_true rfl, Nat.le_of_ble_eq_true rfl⟩) hKK hP hD hS hA rfl hl.1 rfl (Nat.le_of_ble_eq_true rfl) ⟨Nat.zero_le _, Nat.zero_le _⟩ dX3_compaction_10 (fun H locs hP hD hS => ?_)
  refine z_ifBne (tgt := 19) hx hb dX3_compaction_13 (by decide) (fun c_2 => ?_) (fun c_2 => absurd c_2 (by decide))
  refine lv_iload_n hx hb dX3_compaction_19 rfl (lv_at hl 1 rfl) ?_
  refine lv_aload_n hx hb dX3_compaction_20 rfl (lv_at hl 0 rfl) ?_
  refine va_get (D := G.1) (ci := 3) (v := .ref (a 0)) (C := RX3) (T := TX3) (N := 5) hx hb hts hinX3 hown hKK.1 hP 0 rfl rfl 0 (by decide) fl_10 (fun _ h9 => h9) rfl dX3_compaction_21 ?_
  refine va_get (D := G.1) (ci := 1) (v := .int (v 12 0)) (C := RX1) (T := TX1) (N := 15) hx hb hts hinX1 hown hKK.1 hP 5 rfl rfl 4 (by decide) fl_123 (fun _ h9 => h9) rfl dX3_compaction_24 ?_
  refine z_top (v := nI e0) he ?_
  refine z_lt (tgt := 33) hx hb dX3_compaction_27 (by decide) (by omega) (by omega) (fun c_3 => absurd c_3 hie) (fun c_3 => ?_)
  refine z_ldc (v' := (-1000004)) hx hb hown ct_91 dX3_compaction_30 rfl ?_
  exact z_iret hx hb hr hlk hP hD hS dX3_compaction_32 rfl rfl

set_option maxHeartbeats 4000000 in
set_option maxRecDepth 100000 in
theorem c_X3_compaction_w0 (l : Launch) (G : ZG) (o pr q : Nat) (a b d : Nat → Nat) (pa : Nat → Nat → Nat) (S P L : Nat → Nat) (t v u : Mem) (pv : Nat → Mem) (n e0 : Nat) (hn : n < 3) (he : v 12 0 = nI e0) (he9 : e0 ≤ 999) (hie : n < e0) : CI l G yX3_compaction wsX3_compaction (zRm 3 73) [.ref o, .int (nI n), .int (nI 0)] (headW G o pr (prF pa) a b q S ++ (playW G q (d 0) P ++ (textW G b t L ++ (rollW G a v ++ (rollW G d u ++ pastW G pa pv))))) (v 4 ((e0 - 1 - n) % 3)) (headW G o pr (prF pa) a b q S ++ (playW G q (d 0) P ++ (textW G b t L ++ (rollW G a v ++ (rollW G d u ++ pastW G pa pv))))) := by
  refine CI.ent (cc := cX3_compaction) (maxL := 4) (ty := .int) (own := RX3) (by decide) rfl rfl (Nat.le_of_ble_eq_true rfl) ?_
  intro p ee s m args below meth c A ls F hr hlk hKK hP hD hA hS hl
  obtain ⟨hx, hb, hml, hown, hts⟩ := id F
  have hl : lv_has ls 4 [(0, .ref o), (1, .int (nI n)), (2, .int (nI 0))] := hl
  have fl_10 := hts (.fieldLink RX3 10 "NameRolls" "now" "LNameRolls$Roll;") (by decide +kernel)
  have fl_123 := hts (.fieldLink RX3 123 "NameRolls$Roll" "epoch" "I") (by decide +kernel)
  have fl_127 := hts (.fieldLink RX3 127 "NameRolls$Roll" "rules" "[I") (by decide +kernel)
  have hinX1 : ∀ w ∈ wsX10, w ∈ wsX3_compaction := by decide +kernel
  have hinX3 : ∀ w ∈ wsX30, w ∈ wsX3_compaction := by decide +kernel
  refine lv_iload_n hx hb dX3_compaction_0 rfl (lv_at hl 1 rfl) ?_
  refine lv_iconst (v := nI 3) hx hb dX3_compaction_1 (by decide) ?_
  refine z_callSI (As := [.int (nI n), .int (nI 3)]) (rest := []) F (c_X3_isBelow_b l G (nI n) 3 (by decide) true (bel_ok hn (by decide))) (va_cwS 2 hts gX3_compaction_X3_isBelow rfl rfl rfl (by decide +kernel) ⟨Nat.le_of_ble_eq_true rfl, Nat.le_of_ble_eq_true rfl⟩) hKK hP hD hS hA rfl hl.1 rfl (Nat.le_of_ble_eq_true rfl) ⟨Nat.zero_le _, Nat.zero_le _⟩ dX3_compaction_2 (fun H locs hP hD hS => ?_)
  refine z_ifBeq (tgt := 16) hx hb dX3_compaction_5 (by decide) (fun c_1 => absurd c_1 (by decide)) (fun c_1 => ?_)
  refine lv_iload_n hx hb dX3_compaction_8 rfl (lv_at hl 2 rfl) ?_
  refine lv_iconst (v := nI 4) hx hb dX3_compaction_9 (by decide) ?_
  refine z_callSI (As := [.int (nI 0), .int (nI 4)]) (rest := []) F (c_X3_isBelow_b l G (nI 0) 4 (by decide) true (bel_ok (by decide) (by decide))) (va_cwS 2 hts gX3_compaction_X3_isBelow rfl rfl rfl (by decide +kernel) ⟨Nat.le_of_ble_eq_true rfl, Nat.le_of_ble_eq_true rfl⟩) hKK hP hD hS hA rfl hl.1 rfl (Nat.le_of_ble_eq_true rfl) ⟨Nat.zero_le _, Nat.zero_le _⟩ dX3_compaction_10 (fun H locs hP hD hS => ?_)
  refine z_ifBne (tgt := 19) hx hb dX3_compaction_13 (by decide) (fun c_2 => ?_) (fun c_2 => absurd c_2 (by decide))
  refine lv_iload_n hx hb dX3_compaction_19 rfl (lv_at hl 1 rfl) ?_
  refine lv_aload_n hx hb dX3_compaction_20 rfl (lv_at hl 0 rfl) ?_
  refine va_get (D := G.1) (ci := 3) (v := .ref (a 0)) (C := RX3) (T := TX3) (N := 5) hx hb hts hinX3 hown hKK.1 hP 0 rfl rfl 0 (by decide) fl_10 (fun _ h9 => h9) rfl dX3_compaction_21 ?_
  refine va_get (D := G.1) (ci := 1) (v := .int (v 12 0)) (C := RX1) (T := TX1) (N := 15) hx hb hts hinX1 hown hKK.1 hP 5 rfl rfl 4 (by decide) fl_123 (fun _ h9 => h9) rfl dX3_compaction_24 ?_
  refine z_top (v := nI e0) he ?_
  refine z_lt (tgt := 33) hx hb dX3_compaction_27 (by decide) (by omega) (by omega) (fun c_3 => ?_) (fun c_3 => absurd hie (by omega))
  refine lv_aload_n hx hb dX3_compaction_33 rfl (lv_at hl 0 rfl) ?_
  refine va_get (D := G.1) (ci := 3) (v := .ref (a 0)) (C := RX3) (T := TX3) (N := 5) hx hb hts hinX3 hown hKK.1 hP 0 rfl rfl 0 (by decide) fl_10 (fun _ h9 => h9) rfl dX3_compaction_34 ?_
  refine va_get (D := G.1) (ci := 1) (v := .int (v 12 0)) (C := RX1) (T := TX1) (N := 15) hx hb hts hinX1 hown hKK.1 hP 5 rfl rfl 4 (by decide) fl_123 (fun _ h9 => h9) rfl dX3_compaction_37 ?_
  refine z_top (v := nI e0) he ?_
  refine lv_iconst (v := nI 1) hx hb dX3_compaction_40 (by decide) ?_
  refine z_sub (v := nI (e0 - 1)) hx hb dX3_compaction_41 (pk_sub (by omega)) ?_
  refine lv_iload_n hx hb dX3_compaction_42 rfl (lv_at hl 1 rfl) ?_
  refine z_sub (v := nI ((e0 - 1) - n)) hx hb dX3_compaction_43 (pk_sub (by omega)) ?_
  refine lv_istore_n (lv' := [(3, .int (nI ((e0 - 1) - n))), (0, .ref o), (1, .int (nI n)), (2, .int (nI 0))]) hx hb dX3_compaction_44 rfl hl (by decide) rfl (fun ls hl => ?_)
  refine lv_iload_n hx hb dX3_compaction_45 rfl (lv_at hl 3 rfl) ?_
  refine lv_tableIn (off := 26) (tgt := 72) hx hb dX3_compaction_46 (by decide) (by decide) rfl (by decide) ?_
  refine lv_aload_n hx hb dX3_compaction_72 rfl (lv_at hl 1 rfl) ?_
  refine va_get (D := G.1) (ci := 3) (v := .ref (a 0)) (C := RX3) (T := TX3) (N := 5) hx hb hts hinX3 hown hKK.1 hP 0 rfl rfl 0 (by decide) fl_10 (fun _ h9 => h9) rfl dX3_compaction_73 ?_
  refine va_get (D := G.1) (ci := 1) (v := .ref (a 5)) (C := RX1) (T := TX1) (N := 15) hx hb hts hinX1 hown hKK.1 hP 5 rfl rfl 7 (by decide) fl_127 (fun _ h9 => h9) rfl dX3_compaction_76 ?_
  refine lv_iload_n hx hb dX3_compaction_79 rfl (lv_at hl 0 rfl) ?_
  refine lv_iconst (v := nI 3) hx hb dX3_compaction_80 (by decide) ?_
  refine z_rem (v := nI (((e0 - 1) - n) % 3)) hx hb dX3_compaction_81 (by decide) (pk_rem (by omega) (by decide) (by decide)) ?_
  refine z_iald (n := 3) (f := v 4) (v := v 4 (((e0 - 1) - n) % 3)) hx hb hKK hP 10 rfl (by omega) (by decide) rfl dX3_compaction_82 ?_
  exact z_iret hx hb hr hlk hP hD hS dX3_compaction_83 rfl rfl

set_option maxHeartbeats 4000000 in
set_option maxRecDepth 100000 in
theorem c_X3_compaction_w1 (l : Launch) (G : ZG) (o pr q : Nat) (a b d : Nat → Nat) (pa : Nat → Nat → Nat) (S P L : Nat → Nat) (t v u : Mem) (pv : Nat → Mem) (n e0 : Nat) (hn : n < 3) (he : v 12 0 = nI e0) (he9 : e0 ≤ 999) (hie : n < e0) : CI l G yX3_compaction wsX3_compaction (zRm 3 73) [.ref o, .int (nI n), .int (nI 1)] (headW G o pr (prF pa) a b q S ++ (playW G q (d 0) P ++ (textW G b t L ++ (rollW G a v ++ (rollW G d u ++ pastW G pa pv))))) (v 5 ((e0 - 1 - n) % 3)) (headW G o pr (prF pa) a b q S ++ (playW G q (d 0) P ++ (textW G b t L ++ (rollW G a v ++ (rollW G d u ++ pastW G pa pv))))) := by
  refine CI.ent (cc := cX3_compaction) (maxL := 4) (ty := .int) (own := RX3) (by decide) rfl rfl (Nat.le_of_ble_eq_true rfl) ?_
  intro p ee s m args below meth c A ls F hr hlk hKK hP hD hA hS hl
  obtain ⟨hx, hb, hml, hown, hts⟩ := id F
  have hl : lv_has ls 4 [(0, .ref o), (1, .int (nI n)), (2, .int (nI 1))] := hl
  have fl_10 := hts (.fieldLink RX3 10 "NameRolls" "now" "LNameRolls$Roll;") (by decide +kernel)
  have fl_123 := hts (.fieldLink RX3 123 "NameRolls$Roll" "epoch" "I") (by decide +kernel)
  have fl_130 := hts (.fieldLink RX3 130 "NameRolls$Roll" "namesThen" "[I") (by decide +kernel)
  have hinX1 : ∀ w ∈ wsX10, w ∈ wsX3_compaction := by decide +kernel
  have hinX3 : ∀ w ∈ wsX30, w ∈ wsX3_compaction := by decide +kernel
  refine lv_iload_n hx hb dX3_compaction_0 rfl (lv_at hl 1 rfl) ?_
  refine lv_iconst (v := nI 3) hx hb dX3_compaction_1 (by decide) ?_
  refine z_callSI (As := [.int (nI n), .int (nI 3)]) (rest := []) F (c_X3_isBelow_b l G (nI n) 3 (by decide) true (bel_ok hn (by decide))) (va_cwS 2 hts gX3_compaction_X3_isBelow rfl rfl rfl (by decide +kernel) ⟨Nat.le_of_ble_eq_true rfl, Nat.le_of_ble_eq_true rfl⟩) hKK hP hD hS hA rfl hl.1 rfl (Nat.le_of_ble_eq_true rfl) ⟨Nat.zero_le _, Nat.zero_le _⟩ dX3_compaction_2 (fun H locs hP hD hS => ?_)
  refine z_ifBeq (tgt := 16) hx hb dX3_compaction_5 (by decide) (fun c_1 => absurd c_1 (by decide)) (fun c_1 => ?_)
  refine lv_iload_n hx hb dX3_compaction_8 rfl (lv_at hl 2 rfl) ?_
  refine lv_iconst (v := nI 4) hx hb dX3_compaction_9 (by decide) ?_
  refine z_callSI (As := [.int (nI 1), .int (nI 4)]) (rest := []) F (c_X3_isBelow_b l G (nI 1) 4 (by decide) true (bel_ok (by decide) (by decide))) (va_cwS 2 hts gX3_compaction_X3_isBelow rfl rfl rfl (by decide +kernel) ⟨Nat.le_of_ble_eq_true rfl, Nat.le_of_ble_eq_true rfl⟩) hKK hP hD hS hA rfl hl.1 rfl (Nat.le_of_ble_eq_true rfl) ⟨Nat.zero_le _, Nat.zero_le _⟩ dX3_compaction_10 (fun H locs hP hD hS => ?_)
  refine z_ifBne (tgt := 19) hx hb dX3_compaction_13 (by decide) (fun c_2 => ?_) (fun c_2 => absurd c_2 (by decide))
  refine lv_iload_n hx hb dX3_compaction_19 rfl (lv_at hl 1 rfl) ?_
  refine lv_aload_n hx hb dX3_compaction_20 rfl (lv_at hl 0 rfl) ?_
  refine va_get (D := G.1) (ci := 3) (v := .ref (a 0)) (C := RX3) (T := TX3) (N := 5) hx hb hts hinX3 hown hKK.1 hP 0 rfl rfl 0 (by decide) fl_10 (fun _ h9 => h9) rfl dX3_compaction_21 ?_
  refine va_get (D := G.1) (ci := 1) (v := .int (v 12 0)) (C := RX1) (T := TX1) (N := 15) hx hb hts hinX1 hown hKK.1 hP 5 rfl rfl 4 (by decide) fl_123 (fun _ h9 => h9) rfl dX3_compaction_24 ?_
  refine z_top (v := nI e0) he ?_
  refine z_lt (tgt := 33) hx hb dX3_compaction_27 (by decide) (by omega) (by omega) (fun c_3 => ?_) (fun c_3 => absurd hie (by omega))
  refine lv_aload_n hx hb dX3_compaction_33 rfl (lv_at hl 0 rfl) ?_
  refine va_get (D := G.1) (ci := 3) (v := .ref (a 0)) (C := RX3) (T := TX3) (N := 5) hx hb hts hinX3 hown hKK.1 hP 0 rfl rfl 0 (by decide) fl_10 (fun _ h9 => h9) rfl dX3_compaction_34 ?_
  refine va_get (D := G.1) (ci := 1) (v := .int (v 12 0)) (C := RX1) (T := TX1) (N := 15) hx hb hts hinX1 hown hKK.1 hP 5 rfl rfl 4 (by decide) fl_123 (fun _ h9 => h9) rfl dX3_compaction_37 ?_
  refine z_top (v := nI e0) he ?_
  refine lv_iconst (v := nI 1) hx hb dX3_compaction_40 (by decide) ?_
  refine z_sub (v := nI (e0 - 1)) hx hb dX3_compaction_41 (pk_sub (by omega)) ?_
  refine lv_iload_n hx hb dX3_compaction_42 rfl (lv_at hl 1 rfl) ?_
  refine z_sub (v := nI ((e0 - 1) - n)) hx hb dX3_compaction_43 (pk_sub (by omega)) ?_
  refine lv_istore_n (lv' := [(3, .int (nI ((e0 - 1) - n))), (0, .ref o), (1, .int (nI n)), (2, .int (nI 1))]) hx hb dX3_compaction_44 rfl hl (by decide) rfl (fun ls hl => ?_)
  refine lv_iload_n hx hb dX3_compaction_45 rfl (lv_at hl 3 rfl) ?_
  refine lv_tableIn (off := 38) (tgt := 84) hx hb dX3_compaction_46 (by decide) (by decide) rfl (by decide) ?_
  refine lv_aload_n hx hb dX3_compaction_84 rfl (lv_at hl 1 rfl) ?_
  refine va_get (D := G.1) (ci := 3) (v := .ref (a 0)) (C := RX3) (T := TX3) (N := 5) hx hb hts hinX3 hown hKK.1 hP 0 rfl rfl 0 (by decide) fl_10 (fun _ h9 => h9) rfl dX3_compaction_85 ?_
  refine va_get (D := G.1) (ci := 1) (v := .ref (a 6)) (C := RX1) (T := TX1) (N := 15) hx hb hts hinX1 hown hKK.1 hP 5 rfl rfl 8 (by decide) fl_130 (fun _ h9 => h9) rfl dX3_compaction_88 ?_
  refine lv_iload_n hx hb dX3_compaction_91 rfl (lv_at hl 0 rfl) ?_
  refine lv_iconst (v := nI 3) hx hb dX3_compaction_92 (by decide) ?_
  refine z_rem (v := nI (((e0 - 1) - n) % 3)) hx hb dX3_compaction_93 (by decide) (pk_rem (by omega) (by decide) (by decide)) ?_
  refine z_iald (n := 3) (f := v 5) (v := v 5 (((e0 - 1) - n) % 3)) hx hb hKK hP 11 rfl (by omega) (by decide) rfl dX3_compaction_94 ?_
  exact z_iret hx hb hr hlk hP hD hS dX3_compaction_95 rfl rfl

set_option maxHeartbeats 4000000 in
set_option maxRecDepth 100000 in
theorem c_X3_compaction_w2 (l : Launch) (G : ZG) (o pr q : Nat) (a b d : Nat → Nat) (pa : Nat → Nat → Nat) (S P L : Nat → Nat) (t v u : Mem) (pv : Nat → Mem) (n e0 : Nat) (hn : n < 3) (he : v 12 0 = nI e0) (he9 : e0 ≤ 999) (hie : n < e0) : CI l G yX3_compaction wsX3_compaction (zRm 3 73) [.ref o, .int (nI n), .int (nI 2)] (headW G o pr (prF pa) a b q S ++ (playW G q (d 0) P ++ (textW G b t L ++ (rollW G a v ++ (rollW G d u ++ pastW G pa pv))))) (v 6 ((e0 - 1 - n) % 3)) (headW G o pr (prF pa) a b q S ++ (playW G q (d 0) P ++ (textW G b t L ++ (rollW G a v ++ (rollW G d u ++ pastW G pa pv))))) := by
  refine CI.ent (cc := cX3_compaction) (maxL := 4) (ty := .int) (own := RX3) (by decide) rfl rfl (Nat.le_of_ble_eq_true rfl) ?_
  intro p ee s m args below meth c A ls F hr hlk hKK hP hD hA hS hl
  obtain ⟨hx, hb, hml, hown, hts⟩ := id F
  have hl : lv_has ls 4 [(0, .ref o), (1, .int (nI n)), (2, .int (nI 2))] := hl
  have fl_10 := hts (.fieldLink RX3 10 "NameRolls" "now" "LNameRolls$Roll;") (by decide +kernel)
  have fl_123 := hts (.fieldLink RX3 123 "NameRolls$Roll" "epoch" "I") (by decide +kernel)
  have fl_133 := hts (.fieldLink RX3 133 "NameRolls$Roll" "movedThen" "[I") (by decide +kernel)
  have hinX1 : ∀ w ∈ wsX10, w ∈ wsX3_compaction := by decide +kernel
  have hinX3 : ∀ w ∈ wsX30, w ∈ wsX3_compaction := by decide +kernel
  refine lv_iload_n hx hb dX3_compaction_0 rfl (lv_at hl 1 rfl) ?_
  refine lv_iconst (v := nI 3) hx hb dX3_compaction_1 (by decide) ?_
  refine z_callSI (As := [.int (nI n), .int (nI 3)]) (rest := []) F (c_X3_isBelow_b l G (nI n) 3 (by decide) true (bel_ok hn (by decide))) (va_cwS 2 hts gX3_compaction_X3_isBelow rfl rfl rfl (by decide +kernel) ⟨Nat.le_of_ble_eq_true rfl, Nat.le_of_ble_eq_true rfl⟩) hKK hP hD hS hA rfl hl.1 rfl (Nat.le_of_ble_eq_true rfl) ⟨Nat.zero_le _, Nat.zero_le _⟩ dX3_compaction_2 (fun H locs hP hD hS => ?_)
  refine z_ifBeq (tgt := 16) hx hb dX3_compaction_5 (by decide) (fun c_1 => absurd c_1 (by decide)) (fun c_1 => ?_)
  refine lv_iload_n hx hb dX3_compaction_8 rfl (lv_at hl 2 rfl) ?_
  refine lv_iconst (v := nI 4) hx hb dX3_compaction_9 (by decide) ?_
  refine z_callSI (As := [.int (nI 2), .int (nI 4)]) (rest := []) F (c_X3_isBelow_b l G (nI 2) 4 (by decide) true (bel_ok (by decide) (by decide))) (va_cwS 2 hts gX3_compaction_X3_isBelow rfl rfl rfl (by decide +kernel) ⟨Nat.le_of_ble_eq_true rfl, Nat.le_of_ble_eq_true rfl⟩) hKK hP hD hS hA rfl hl.1 rfl (Nat.le_of_ble_eq_true rfl) ⟨Nat.zero_le _, Nat.zero_le _⟩ dX3_compaction_10 (fun H locs hP hD hS => ?_)
  refine z_ifBne (tgt := 19) hx hb dX3_compaction_13 (by decide) (fun c_2 => ?_) (fun c_2 => absurd c_2 (by decide))
  refine lv_iload_n hx hb dX3_compaction_19 rfl (lv_at hl 1 rfl) ?_
  refine lv_aload_n hx hb dX3_compaction_20 rfl (lv_at hl 0 rfl) ?_
  refine va_get (D := G.1) (ci := 3) (v := .ref (a 0)) (C := RX3) (T := TX3) (N := 5) hx hb hts hinX3 hown hKK.1 hP 0 rfl rfl 0 (by decide) fl_10 (fun _ h9 => h9) rfl dX3_compaction_21 ?_
  refine va_get (D := G.1) (ci := 1) (v := .int (v 12 0)) (C := RX1) (T := TX1) (N := 15) hx hb hts hinX1 hown hKK.1 hP 5 rfl rfl 4 (by decide) fl_123 (fun _ h9 => h9) rfl dX3_compaction_24 ?_
  refine z_top (v := nI e0) he ?_
  refine z_lt (tgt := 33) hx hb dX3_compaction_27 (by decide) (by omega) (by omega) (fun c_3 => ?_) (fun c_3 => absurd hie (by omega))
  refine lv_aload_n hx hb dX3_compaction_33 rfl (lv_at hl 0 rfl) ?_
  refine va_get (D := G.1) (ci := 3) (v := .ref (a 0)) (C := RX3) (T := TX3) (N := 5) hx hb hts hinX3 hown hKK.1 hP 0 rfl rfl 0 (by decide) fl_10 (fun _ h9 => h9) rfl dX3_compaction_34 ?_
  refine va_get (D := G.1) (ci := 1) (v := .int (v 12 0)) (C := RX1) (T := TX1) (N := 15) hx hb hts hinX1 hown hKK.1 hP 5 rfl rfl 4 (by decide) fl_123 (fun _ h9 => h9) rfl dX3_compaction_37 ?_
  refine z_top (v := nI e0) he ?_
  refine lv_iconst (v := nI 1) hx hb dX3_compaction_40 (by decide) ?_
  refine z_sub (v := nI (e0 - 1)) hx hb dX3_compaction_41 (pk_sub (by omega)) ?_
  refine lv_iload_n hx hb dX3_compaction_42 rfl (lv_at hl 1 rfl) ?_
  refine z_sub (v := nI ((e0 - 1) - n)) hx hb dX3_compaction_43 (pk_sub (by omega)) ?_
  refine lv_istore_n (lv' := [(3, .int (nI ((e0 - 1) - n))), (0, .ref o), (1, .int (nI n)), (2, .int (nI 2))]) hx hb dX3_compaction_44 rfl hl (by decide) rfl (fun ls hl => ?_)
  refine lv_iload_n hx hb dX3_compaction_45 rfl (lv_at hl 3 rfl) ?_
  refine lv_tableIn (off := 50) (tgt := 96) hx hb dX3_compaction_46 (by decide) (by decide) rfl (by decide) ?_
  refine lv_aload_n hx hb dX3_compaction_96 rfl (lv_at hl 1 rfl) ?_
  refine va_get (D := G.1) (ci := 3) (v := .ref (a 0)) (C := RX3) (T := TX3) (N := 5) hx hb hts hinX3 hown hKK.1 hP 0 rfl rfl 0 (by decide) fl_10 (fun _ h9 => h9) rfl dX3_compaction_97 ?_
  refine va_get (D := G.1) (ci := 1) (v := .ref (a 7)) (C := RX1) (T := TX1) (N := 15) hx hb hts hinX1 hown hKK.1 hP 5 rfl rfl 9 (by decide) fl_133 (fun _ h9 => h9) rfl dX3_compaction_100 ?_
  refine lv_iload_n hx hb dX3_compaction_103 rfl (lv_at hl 0 rfl) ?_
  refine lv_iconst (v := nI 3) hx hb dX3_compaction_104 (by decide) ?_
  refine z_rem (v := nI (((e0 - 1) - n) % 3)) hx hb dX3_compaction_105 (by decide) (pk_rem (by omega) (by decide) (by decide)) ?_
  refine z_iald (n := 3) (f := v 6) (v := v 6 (((e0 - 1) - n) % 3)) hx hb hKK hP 12 rfl (by omega) (by decide) rfl dX3_compaction_106 ?_
  exact z_iret hx hb hr hlk hP hD hS dX3_compaction_107 rfl rfl

set_option maxHeartbeats 4000000 in
set_option maxRecDepth 100000 in
theorem c_X3_compaction_w3 (l : Launch) (G : ZG) (o pr q : Nat) (a b d : Nat → Nat) (pa : Nat → Nat → Nat) (S P L : Nat → Nat) (t v u : Mem) (pv : Nat → Mem) (n e0 : Nat) (hn : n < 3) (he : v 12 0 = nI e0) (he9 : e0 ≤ 999) (hie : n < e0) : CI l G yX3_compaction wsX3_compaction (zRm 3 73) [.ref o, .int (nI n), .int (nI 3)] (headW G o pr (prF pa) a b q S ++ (playW G q (d 0) P ++ (textW G b t L ++ (rollW G a v ++ (rollW G d u ++ pastW G pa pv))))) (nI (fb_ct (pSt v e0 (e0 - 1 - n)) 40)) (headW G o pr (prF pa) a b q S ++ (playW G q (d 0) P ++ (textW G b t L ++ (rollW G a v ++ (rollW G d u ++ pastW G pa pv))))) := by
  refine CI.ent (cc := cX3_compaction) (maxL := 4) (ty := .int) (own := RX3) (by decide) rfl rfl (Nat.le_of_ble_eq_true rfl) ?_
  intro p ee s m args below meth c A ls F hr hlk hKK hP hD hA hS hl
  obtain ⟨hx, hb, hml, hown, hts⟩ := id F
  have hl : lv_has ls 4 [(0, .ref o), (1, .int (nI n)), (2, .int (nI 3))] := hl
  have fl_10 := hts (.fieldLink RX3 10 "NameRolls" "now" "LNameRolls$Roll;") (by decide +kernel)
  have fl_123 := hts (.fieldLink RX3 123 "NameRolls$Roll" "epoch" "I") (by decide +kernel)
  have hinX1 : ∀ w ∈ wsX10, w ∈ wsX3_compaction := by decide +kernel
  have hinX3 : ∀ w ∈ wsX30, w ∈ wsX3_compaction := by decide +kernel
  refine lv_iload_n hx hb dX3_compaction_0 rfl (lv_at hl 1 rfl) ?_
  refine lv_iconst (v := nI 3) hx hb dX3_compaction_1 (by decide) ?_
  refine z_callSI (As := [.int (nI n), .int (nI 3)]) (rest := []) F (c_X3_isBelow_b l G (nI n) 3 (by decide) true (bel_ok hn (by decide))) (va_cwS 2 hts gX3_compaction_X3_isBelow rfl rfl rfl (by decide +kernel) ⟨Nat.le_of_ble_eq_true rfl, Nat.le_of_ble_eq_true rfl⟩) hKK hP hD hS hA rfl hl.1 rfl (Nat.le_of_ble_eq_true rfl) ⟨Nat.zero_le _, Nat.zero_le _⟩ dX3_compaction_2 (fun H locs hP hD hS => ?_)
  refine z_ifBeq (tgt := 16) hx hb dX3_compaction_5 (by decide) (fun c_1 => absurd c_1 (by decide)) (fun c_1 => ?_)
  refine lv_iload_n hx hb dX3_compaction_8 rfl (lv_at hl 2 rfl) ?_
  refine lv_iconst (v := nI 4) hx hb dX3_compaction_9 (by decide) ?_
  refine z_callSI (As := [.int (nI 3), .int (nI 4)]) (rest := []) F (c_X3_isBelow_b l G (nI 3) 4 (by decide) true (bel_ok (by decide) (by decide))) (va_cwS 2 hts gX3_compaction_X3_isBelow rfl rfl rfl (by decide +kernel) ⟨Nat.le_of_ble_eq_true rfl, Nat.le_of_ble_eq_true rfl⟩) hKK hP hD hS hA rfl hl.1 rfl (Nat.le_of_ble_eq_true rfl) ⟨Nat.zero_le _, Nat.zero_le _⟩ dX3_compaction_10 (fun H locs hP hD hS => ?_)
  refine z_ifBne (tgt := 19) hx hb dX3_compaction_13 (by decide) (fun c_2 => ?_) (fun c_2 => absurd c_2 (by decide))
  refine lv_iload_n hx hb dX3_compaction_19 rfl (lv_at hl 1 rfl) ?_
  refine lv_aload_n hx hb dX3_compaction_20 rfl (lv_at hl 0 rfl) ?_
  refine va_get (D := G.1) (ci := 3) (v := .ref (a 0)) (C := RX3) (T := TX3) (N := 5) hx hb hts hinX3 hown hKK.1 hP 0 rfl rfl 0 (by decide) fl_10 (fun _ h9 => h9) rfl dX3_compaction_21 ?_
  refine va_get (D := G.1) (ci := 1) (v := .int (v 12 0)) (C := RX1) (T := TX1) (N := 15) hx hb hts hinX1 hown hKK.1 hP 5 rfl rfl 4 (by decide) fl_123 (fun _ h9 => h9) rfl dX3_compaction_24 ?_
  refine z_top (v := nI e0) he ?_
  refine z_lt (tgt := 33) hx hb dX3_compaction_27 (by decide) (by omega) (by omega) (fun c_3 => ?_) (fun c_3 => absurd hie (by omega))
  refine lv_aload_n hx hb dX3_compaction_33 rfl (lv_at hl 0 rfl) ?_
  refine va_get (D := G.1) (ci := 3) (v := .ref (a 0)) (C := RX3) (T := TX3) (N := 5) hx hb hts hinX3 hown hKK.1 hP 0 rfl rfl 0 (by decide) fl_10 (fun _ h9 => h9) rfl dX3_compaction_34 ?_
  refine va_get (D := G.1) (ci := 1) (v := .int (v 12 0)) (C := RX1) (T := TX1) (N := 15) hx hb hts hinX1 hown hKK.1 hP 5 rfl rfl 4 (by decide) fl_123 (fun _ h9 => h9) rfl dX3_compaction_37 ?_
  refine z_top (v := nI e0) he ?_
  refine lv_iconst (v := nI 1) hx hb dX3_compaction_40 (by decide) ?_
  refine z_sub (v := nI (e0 - 1)) hx hb dX3_compaction_41 (pk_sub (by omega)) ?_
  refine lv_iload_n hx hb dX3_compaction_42 rfl (lv_at hl 1 rfl) ?_
  refine z_sub (v := nI ((e0 - 1) - n)) hx hb dX3_compaction_43 (pk_sub (by omega)) ?_
  refine lv_istore_n (lv' := [(3, .int (nI ((e0 - 1) - n))), (0, .ref o), (1, .int (nI n)), (2, .int (nI 3))]) hx hb dX3_compaction_44 rfl hl (by decide) rfl (fun ls hl => ?_)
  refine lv_iload_n hx hb dX3_compaction_45 rfl (lv_at hl 3 rfl) ?_
  refine lv_tableOut (tgt := 108) hx hb dX3_compaction_46 (by decide) (by decide) ?_
  refine lv_aload_n hx hb dX3_compaction_108 rfl (lv_at hl 1 rfl) ?_
  refine va_get (D := G.1) (ci := 3) (v := .ref (a 0)) (C := RX3) (T := TX3) (N := 5) hx hb hts hinX3 hown hKK.1 hP 0 rfl rfl 0 (by decide) fl_10 (fun _ h9 => h9) rfl dX3_compaction_109 ?_
  refine lv_iload_n hx hb dX3_compaction_112 rfl (lv_at hl 0 rfl) ?_
  refine z_callVI (As := [.int (nI ((e0 - 1) - n))]) (rest := []) (wr := (headW G o pr (prF pa) a b q S ++ (playW G q (d 0) P ++ (textW G b t L ++ (rollW G d u ++ pastW G pa pv))))) (C := RX1) F (c_X1_stillStanding l G a v (e0 - 1 - n) e0 (by omega) he he9) (cwV 1 hts gX3_compaction_X1_stillStanding rfl rfl rfl (by decide +kernel) ⟨Nat.le_of_ble_eq_true rfl, Nat.le_of_ble_eq_true rfl⟩) hKK (z_recv hKK hP (q0 := 5) (ci := 1) rfl rfl) (z_perm (pn_a _ _ _ _ _) hP) (z_permD (pn_a _ _ _ _ _) hD) hS hA rfl hl.1 rfl (Nat.le_of_ble_eq_true rfl) ⟨Nat.zero_le _, Nat.zero_le _⟩ dX3_compaction_113 (fun H locs hP hD hS => ?_)
  have hP : va_P G.1 vwCl (headW G o pr (prF pa) a b q S ++ (playW G q (d 0) P ++ (textW G b t L ++ (rollW G a v ++ (rollW G d u ++ pastW G pa pv))))) H := (z_perm (pn_a _ _ _ _ _).symm hP)
  have hD : va_D A (headW G o pr (prF pa) a b q S ++ (playW G q (d 0) P ++ (textW G b t L ++ (rollW G a v ++ (rollW G d u ++ pastW G pa pv))))) := (z_permD (pn_a _ _ _ _ _).symm hD)
  exact z_iret hx hb hr hlk hP hD hS dX3_compaction_116 rfl rfl

set_option maxHeartbeats 4000000 in
set_option maxRecDepth 100000 in
theorem c_X3_count_0 (l : Launch) (G : ZG) (o pr q : Nat) (a b d : Nat → Nat) (pa : Nat → Nat → Nat) (S P L : Nat → Nat) (t v u : Mem) (pv : Nat → Mem)  : CI l G yX3_count wsX3_count (zRm 1 24) [.ref o, .int (nI 0)] (headW G o pr (prF pa) a b q S ++ (playW G q (d 0) P ++ (textW G b t L ++ (rollW G a v ++ (rollW G d u ++ pastW G pa pv))))) (nI (fb_ct (pNm v) 40)) (headW G o pr (prF pa) a b q S ++ (playW G q (d 0) P ++ (textW G b t L ++ (rollW G a v ++ (rollW G d u ++ pastW G pa pv))))) := by
  refine CI.ent (cc := cX3_count) (maxL := 2) (ty := .int) (own := RX3) (by decide) rfl rfl (Nat.le_of_ble_eq_true rfl) ?_
  intro p ee s m args below meth c A ls F hr hlk hKK hP hD hA hS hl
  obtain ⟨hx, hb, hml, hown, hts⟩ := id F
  have hl : lv_has ls 2 [(0, .ref o), (1, .int (nI 0))] := hl
  have fl_10 := hts (.fieldLink RX3 10 "NameRolls" "now" "LNameRolls$Roll;") (by decide +kernel)
  have hinX3 : ∀ w ∈ wsX30, w ∈ wsX3_count := by decide +kernel
  refine lv_iload_n hx hb dX3_count_0 rfl (lv_at hl 1 rfl) ?_
  refine lv_tableIn (off := 59) (tgt := 60) hx hb dX3_count_1 (by decide) (by decide) rfl (by decide) ?_
  refine lv_aload_n hx hb dX3_count_60 rfl (lv_at hl 0 rfl) ?_
  refine va_get (D := G.1) (ci := 3) (v := .ref (a 0)) (C := RX3) (T := TX3) (N := 5) hx hb hts hinX3 hown hKK.1 hP 0 rfl rfl 0 (by decide) fl_10 (fun _ h9 => h9) rfl dX3_count_61 ?_
  refine lv_bipush (v := nI 40) hx hb dX3_count_64 (by decide) ?_
  refine z_callVI (As := [.int (nI 40)]) (rest := []) (wr := (headW G o pr (prF pa) a b q S ++ (playW G q (d 0) P ++ (textW G b t L ++ (rollW G d u ++ pastW G pa pv))))) (C := RX1) F (c_X1_namesBelow l G a v (40) (by decide)) (cwV 1 hts gX3_count_X1_namesBelow rfl rfl rfl (by decide +kernel) ⟨Nat.le_of_ble_eq_true rfl, Nat.le_of_ble_eq_true rfl⟩) hKK (z_recv hKK hP (q0 := 5) (ci := 1) rfl rfl) (z_perm (pn_a _ _ _ _ _) hP) (z_permD (pn_a _ _ _ _ _) hD) hS hA rfl hl.1 rfl (Nat.le_of_ble_eq_true rfl) ⟨Nat.zero_le _, Nat.zero_le _⟩ dX3_count_66 (fun H locs hP hD hS => ?_)
  have hP : va_P G.1 vwCl (headW G o pr (prF pa) a b q S ++ (playW G q (d 0) P ++ (textW G b t L ++ (rollW G a v ++ (rollW G d u ++ pastW G pa pv))))) H := (z_perm (pn_a _ _ _ _ _).symm hP)
  have hD : va_D A (headW G o pr (prF pa) a b q S ++ (playW G q (d 0) P ++ (textW G b t L ++ (rollW G a v ++ (rollW G d u ++ pastW G pa pv))))) := (z_permD (pn_a _ _ _ _ _).symm hD)
  exact z_iret hx hb hr hlk hP hD hS dX3_count_69 rfl rfl

set_option maxHeartbeats 4000000 in
set_option maxRecDepth 100000 in
theorem c_X3_count_1 (l : Launch) (G : ZG) (o pr q : Nat) (a b d : Nat → Nat) (pa : Nat → Nat → Nat) (S P L : Nat → Nat) (t v u : Mem) (pv : Nat → Mem)  : CI l G yX3_count wsX3_count (zRm 1 24) [.ref o, .int (nI 1)] (headW G o pr (prF pa) a b q S ++ (playW G q (d 0) P ++ (textW G b t L ++ (rollW G a v ++ (rollW G d u ++ pastW G pa pv))))) (zSm (v 1) 40) (headW G o pr (prF pa) a b q S ++ (playW G q (d 0) P ++ (textW G b t L ++ (rollW G a v ++ (rollW G d u ++ pastW G pa pv))))) := by
  refine CI.ent (cc := cX3_count) (maxL := 2) (ty := .int) (own := RX3) (by decide) rfl rfl (Nat.le_of_ble_eq_true rfl) ?_
  intro p ee s m args below meth c A ls F hr hlk hKK hP hD hA hS hl
  obtain ⟨hx, hb, hml, hown, hts⟩ := id F
  have hl : lv_has ls 2 [(0, .ref o), (1, .int (nI 1))] := hl
  have fl_10 := hts (.fieldLink RX3 10 "NameRolls" "now" "LNameRolls$Roll;") (by decide +kernel)
  have hinX3 : ∀ w ∈ wsX30, w ∈ wsX3_count := by decide +kernel
  refine lv_iload_n hx hb dX3_count_0 rfl (lv_at hl 1 rfl) ?_
  refine lv_tableIn (off := 69) (tgt := 70) hx hb dX3_count_1 (by decide) (by decide) rfl (by decide) ?_
  refine lv_aload_n hx hb dX3_count_70 rfl (lv_at hl 0 rfl) ?_
  refine va_get (D := G.1) (ci := 3) (v := .ref (a 0)) (C := RX3) (T := TX3) (N := 5) hx hb hts hinX3 hown hKK.1 hP 0 rfl rfl 0 (by decide) fl_10 (fun _ h9 => h9) rfl dX3_count_71 ?_
  refine z_callVI (As := []) (rest := []) (wr := (headW G o pr (prF pa) a b q S ++ (playW G q (d 0) P ++ (textW G b t L ++ (rollW G d u ++ pastW G pa pv))))) (C := RX1) F (c_X1_usersOfAll l G a v) (cwV 0 hts gX3_count_X1_usersOfAll rfl rfl rfl (by decide +kernel) ⟨Nat.le_of_ble_eq_true rfl, Nat.le_of_ble_eq_true rfl⟩) hKK (z_recv hKK hP (q0 := 5) (ci := 1) rfl rfl) (z_perm (pn_a _ _ _ _ _) hP) (z_permD (pn_a _ _ _ _ _) hD) hS hA rfl hl.1 rfl (Nat.le_of_ble_eq_true rfl) ⟨Nat.zero_le _, Nat.zero_le _⟩ dX3_count_74 (fun H locs hP hD hS => ?_)
  have hP : va_P G.1 vwCl (headW G o pr (prF pa) a b q S ++ (playW G q (d 0) P ++ (textW G b t L ++ (rollW G a v ++ (rollW G d u ++ pastW G pa pv))))) H := (z_perm (pn_a _ _ _ _ _).symm hP)
  have hD : va_D A (headW G o pr (prF pa) a b q S ++ (playW G q (d 0) P ++ (textW G b t L ++ (rollW G a v ++ (rollW G d u ++ pastW G pa pv))))) := (z_permD (pn_a _ _ _ _ _).symm hD)
  exact z_iret hx hb hr hlk hP hD hS dX3_count_77 rfl rfl

set_option maxHeartbeats 4000000 in
set_option maxRecDepth 100000 in
theorem c_X3_count_2 (l : Launch) (G : ZG) (o pr q : Nat) (a b d : Nat → Nat) (pa : Nat → Nat → Nat) (S P L : Nat → Nat) (t v u : Mem) (pv : Nat → Mem)  : CI l G yX3_count wsX3_count (zRm 1 24) [.ref o, .int (nI 2)] (headW G o pr (prF pa) a b q S ++ (playW G q (d 0) P ++ (textW G b t L ++ (rollW G a v ++ (rollW G d u ++ pastW G pa pv))))) (nI 18 - nI (zCells (v 3) (-1))) (headW G o pr (prF pa) a b q S ++ (playW G q (d 0) P ++ (textW G b t L ++ (rollW G a v ++ (rollW G d u ++ pastW G pa pv))))) := by
  refine CI.ent (cc := cX3_count) (maxL := 2) (ty := .int) (own := RX3) (by decide) rfl rfl (Nat.le_of_ble_eq_true rfl) ?_
  intro p ee s m args below meth c A ls F hr hlk hKK hP hD hA hS hl
  obtain ⟨hx, hb, hml, hown, hts⟩ := id F
  have hl : lv_has ls 2 [(0, .ref o), (1, .int (nI 2))] := hl
  have fl_10 := hts (.fieldLink RX3 10 "NameRolls" "now" "LNameRolls$Roll;") (by decide +kernel)
  have fl_85 := hts (.fieldLink RX3 85 "NameRolls$Roll" "cells" "[I") (by decide +kernel)
  have hinX1 : ∀ w ∈ wsX10, w ∈ wsX3_count := by decide +kernel
  have hinX3 : ∀ w ∈ wsX30, w ∈ wsX3_count := by decide +kernel
  refine lv_iload_n hx hb dX3_count_0 rfl (lv_at hl 1 rfl) ?_
  refine lv_tableIn (off := 77) (tgt := 78) hx hb dX3_count_1 (by decide) (by decide) rfl (by decide) ?_
  refine lv_aload_n hx hb dX3_count_78 rfl (lv_at hl 0 rfl) ?_
  refine va_get (D := G.1) (ci := 3) (v := .ref (a 0)) (C := RX3) (T := TX3) (N := 5) hx hb hts hinX3 hown hKK.1 hP 0 rfl rfl 0 (by decide) fl_10 (fun _ h9 => h9) rfl dX3_count_79 ?_
  refine va_get (D := G.1) (ci := 1) (v := .ref (a 4)) (C := RX1) (T := TX1) (N := 15) hx hb hts hinX1 hown hKK.1 hP 5 rfl rfl 3 (by decide) fl_85 (fun _ h9 => h9) rfl dX3_count_82 ?_
  refine z_alen (n := 18) hx hb hKK hP 9 rfl dX3_count_85 ?_
  refine lv_aload_n hx hb dX3_count_86 rfl (lv_at hl 0 rfl) ?_
  refine va_get (D := G.1) (ci := 3) (v := .ref (a 0)) (C := RX3) (T := TX3) (N := 5) hx hb hts hinX3 hown hKK.1 hP 0 rfl rfl 0 (by decide) fl_10 (fun _ h9 => h9) rfl dX3_count_87 ?_
  refine lv_iconst (v := (-1)) hx hb dX3_count_90 (by decide) ?_
  refine z_callVI (As := [.int ((-1))]) (rest := [.int (nI 18)]) (wr := (headW G o pr (prF pa) a b q S ++ (playW G q (d 0) P ++ (textW G b t L ++ (rollW G d u ++ pastW G pa pv))))) (C := RX1) F (c_X1_cellsWith l G a v (-1)) (cwV 1 hts gX3_count_X1_cellsWith rfl rfl rfl (by decide +kernel) ⟨Nat.le_of_ble_eq_true rfl, Nat.le_of_ble_eq_true rfl⟩) hKK (z_recv hKK hP (q0 := 5) (ci := 1) rfl rfl) (z_perm (pn_a _ _ _ _ _) hP) (z_permD (pn_a _ _ _ _ _) hD) hS hA rfl hl.1 rfl (Nat.le_of_ble_eq_true rfl) ⟨Nat.zero_le _, Nat.zero_le _⟩ dX3_count_91 (fun H locs hP hD hS => ?_)
  have hP : va_P G.1 vwCl (headW G o pr (prF pa) a b q S ++ (playW G q (d 0) P ++ (textW G b t L ++ (rollW G a v ++ (rollW G d u ++ pastW G pa pv))))) H := (z_perm (pn_a _ _ _ _ _).symm hP)
  have hD : va_D A (headW G o pr (prF pa) a b q S ++ (playW G q (d 0) P ++ (textW G b t L ++ (rollW G a v ++ (rollW G d u ++ pastW G pa pv))))) := (z_permD (pn_a _ _ _ _ _).symm hD)
  refine z_sub (v := nI 18 - nI (zCells (v 3) (-1))) hx hb dX3_count_94 rfl ?_
  exact z_iret hx hb hr hlk hP hD hS dX3_count_95 rfl rfl

set_option maxHeartbeats 4000000 in
set_option maxRecDepth 100000 in
theorem c_X3_count_3 (l : Launch) (G : ZG) (o pr q : Nat) (a b d : Nat → Nat) (pa : Nat → Nat → Nat) (S P L : Nat → Nat) (t v u : Mem) (pv : Nat → Mem)  : CI l G yX3_count wsX3_count (zRm 1 24) [.ref o, .int (nI 3)] (headW G o pr (prF pa) a b q S ++ (playW G q (d 0) P ++ (textW G b t L ++ (rollW G a v ++ (rollW G d u ++ pastW G pa pv))))) (v 12 0) (headW G o pr (prF pa) a b q S ++ (playW G q (d 0) P ++ (textW G b t L ++ (rollW G a v ++ (rollW G d u ++ pastW G pa pv))))) := by
  refine CI.ent (cc := cX3_count) (maxL := 2) (ty := .int) (own := RX3) (by decide) rfl rfl (Nat.le_of_ble_eq_true rfl) ?_
  intro p ee s m args below meth c A ls F hr hlk hKK hP hD hA hS hl
  obtain ⟨hx, hb, hml, hown, hts⟩ := id F
  have hl : lv_has ls 2 [(0, .ref o), (1, .int (nI 3))] := hl
  have fl_10 := hts (.fieldLink RX3 10 "NameRolls" "now" "LNameRolls$Roll;") (by decide +kernel)
  have fl_123 := hts (.fieldLink RX3 123 "NameRolls$Roll" "epoch" "I") (by decide +kernel)
  have hinX1 : ∀ w ∈ wsX10, w ∈ wsX3_count := by decide +kernel
  have hinX3 : ∀ w ∈ wsX30, w ∈ wsX3_count := by decide +kernel
  refine lv_iload_n hx hb dX3_count_0 rfl (lv_at hl 1 rfl) ?_
  refine lv_tableIn (off := 95) (tgt := 96) hx hb dX3_count_1 (by decide) (by decide) rfl (by decide) ?_
  refine lv_aload_n hx hb dX3_count_96 rfl (lv_at hl 0 rfl) ?_
  refine va_get (D := G.1) (ci := 3) (v := .ref (a 0)) (C := RX3) (T := TX3) (N := 5) hx hb hts hinX3 hown hKK.1 hP 0 rfl rfl 0 (by decide) fl_10 (fun _ h9 => h9) rfl dX3_count_97 ?_
  refine va_get (D := G.1) (ci := 1) (v := .int (v 12 0)) (C := RX1) (T := TX1) (N := 15) hx hb hts hinX1 hown hKK.1 hP 5 rfl rfl 4 (by decide) fl_123 (fun _ h9 => h9) rfl dX3_count_100 ?_
  exact z_iret hx hb hr hlk hP hD hS dX3_count_103 rfl rfl

set_option maxHeartbeats 4000000 in
set_option maxRecDepth 100000 in
theorem c_X3_count_4 (l : Launch) (G : ZG) (o pr q : Nat) (a b d : Nat → Nat) (pa : Nat → Nat → Nat) (S P L : Nat → Nat) (t v u : Mem) (pv : Nat → Mem)  : CI l G yX3_count wsX3_count (zRm 1 24) [.ref o, .int (nI 4)] (headW G o pr (prF pa) a b q S ++ (playW G q (d 0) P ++ (textW G b t L ++ (rollW G a v ++ (rollW G d u ++ pastW G pa pv))))) (nI (zTp v 40)) (headW G o pr (prF pa) a b q S ++ (playW G q (d 0) P ++ (textW G b t L ++ (rollW G a v ++ (rollW G d u ++ pastW G pa pv))))) := by
  refine CI.ent (cc := cX3_count) (maxL := 2) (ty := .int) (own := RX3) (by decide) rfl rfl (Nat.le_of_ble_eq_true rfl) ?_
  intro p ee s m args below meth c A ls F hr hlk hKK hP hD hA hS hl
  obtain ⟨hx, hb, hml, hown, hts⟩ := id F
  have hl : lv_has ls 2 [(0, .ref o), (1, .int (nI 4))] := hl
  have fl_10 := hts (.fieldLink RX3 10 "NameRolls" "now" "LNameRolls$Roll;") (by decide +kernel)
  have hinX3 : ∀ w ∈ wsX30, w ∈ wsX3_count := by decide +kernel
  refine lv_iload_n hx hb dX3_count_0 rfl (lv_at hl 1 rfl) ?_
  refine lv_tableIn (off := 103) (tgt := 104) hx hb dX3_count_1 (by decide) (by decide) rfl (by decide) ?_
  refine lv_aload_n hx hb dX3_count_104 rfl (lv_at hl 0 rfl) ?_
  refine va_get (D := G.1) (ci := 3) (v := .ref (a 0)) (C := RX3) (T := TX3) (N := 5) hx hb hts hinX3 hown hKK.1 hP 0 rfl rfl 0 (by decide) fl_10 (fun _ h9 => h9) rfl dX3_count_105 ?_
  refine z_callVI (As := []) (rest := []) (wr := (headW G o pr (prF pa) a b q S ++ (playW G q (d 0) P ++ (textW G b t L ++ (rollW G d u ++ pastW G pa pv))))) (C := RX1) F (c_X1_top l G a v) (cwV 0 hts gX3_count_X1_top rfl rfl rfl (by decide +kernel) ⟨Nat.le_of_ble_eq_true rfl, Nat.le_of_ble_eq_true rfl⟩) hKK (z_recv hKK hP (q0 := 5) (ci := 1) rfl rfl) (z_perm (pn_a _ _ _ _ _) hP) (z_permD (pn_a _ _ _ _ _) hD) hS hA rfl hl.1 rfl (Nat.le_of_ble_eq_true rfl) ⟨Nat.zero_le _, Nat.zero_le _⟩ dX3_count_108 (fun H locs hP hD hS => ?_)
  have hP : va_P G.1 vwCl (headW G o pr (prF pa) a b q S ++ (playW G q (d 0) P ++ (textW G b t L ++ (rollW G a v ++ (rollW G d u ++ pastW G pa pv))))) H := (z_perm (pn_a _ _ _ _ _).symm hP)
  have hD : va_D A (headW G o pr (prF pa) a b q S ++ (playW G q (d 0) P ++ (textW G b t L ++ (rollW G a v ++ (rollW G d u ++ pastW G pa pv))))) := (z_permD (pn_a _ _ _ _ _).symm hD)
  exact z_iret hx hb hr hlk hP hD hS dX3_count_111 rfl rfl

set_option maxHeartbeats 4000000 in
set_option maxRecDepth 100000 in
theorem c_X3_count_5 (l : Launch) (G : ZG) (o pr q : Nat) (a b d : Nat → Nat) (pa : Nat → Nat → Nat) (S P L : Nat → Nat) (t v u : Mem) (pv : Nat → Mem)  : CI l G yX3_count wsX3_count (zRm 1 24) [.ref o, .int (nI 5)] (headW G o pr (prF pa) a b q S ++ (playW G q (d 0) P ++ (textW G b t L ++ (rollW G a v ++ (rollW G d u ++ pastW G pa pv))))) (nI (zTp v 40) - nI (fb_ct (pNm v) (zTp v 40))) (headW G o pr (prF pa) a b q S ++ (playW G q (d 0) P ++ (textW G b t L ++ (rollW G a v ++ (rollW G d u ++ pastW G pa pv))))) := by
  refine CI.ent (cc := cX3_count) (maxL := 2) (ty := .int) (own := RX3) (by decide) rfl rfl (Nat.le_of_ble_eq_true rfl) ?_
  intro p ee s m args below meth c A ls F hr hlk hKK hP hD hA hS hl
  obtain ⟨hx, hb, hml, hown, hts⟩ := id F
  have hl : lv_has ls 2 [(0, .ref o), (1, .int (nI 5))] := hl
  have fl_10 := hts (.fieldLink RX3 10 "NameRolls" "now" "LNameRolls$Roll;") (by decide +kernel)
  have hinX3 : ∀ w ∈ wsX30, w ∈ wsX3_count := by decide +kernel
  refine lv_iload_n hx hb dX3_count_0 rfl (lv_at hl 1 rfl) ?_
  refine lv_tableIn (off := 111) (tgt := 112) hx hb dX3_count_1 (by decide) (by decide) rfl (by decide) ?_
  refine lv_aload_n hx hb dX3_count_112 rfl (lv_at hl 0 rfl) ?_
  refine va_get (D := G.1) (ci := 3) (v := .ref (a 0)) (C := RX3) (T := TX3) (N := 5) hx hb hts hinX3 hown hKK.1 hP 0 rfl rfl 0 (by decide) fl_10 (fun _ h9 => h9) rfl dX3_count_113 ?_
  refine z_callVI (As := []) (rest := []) (wr := (headW G o pr (prF pa) a b q S ++ (playW G q (d 0) P ++ (textW G b t L ++ (rollW G d u ++ pastW G pa pv))))) (C := RX1) F (c_X1_top l G a v) (cwV 0 hts gX3_count_X1_top rfl rfl rfl (by decide +kernel) ⟨Nat.le_of_ble_eq_true rfl, Nat.le_of_ble_eq_true rfl⟩) hKK (z_recv hKK hP (q0 := 5) (ci := 1) rfl rfl) (z_perm (pn_a _ _ _ _ _) hP) (z_permD (pn_a _ _ _ _ _) hD) hS hA rfl hl.1 rfl (Nat.le_of_ble_eq_true rfl) ⟨Nat.zero_le _, Nat.zero_le _⟩ dX3_count_116 (fun H locs hP hD hS => ?_)
  have hP : va_P G.1 vwCl (headW G o pr (prF pa) a b q S ++ (playW G q (d 0) P ++ (textW G b t L ++ (rollW G a v ++ (rollW G d u ++ pastW G pa pv))))) H := (z_perm (pn_a _ _ _ _ _).symm hP)
  have hD : va_D A (headW G o pr (prF pa) a b q S ++ (playW G q (d 0) P ++ (textW G b t L ++ (rollW G a v ++ (rollW G d u ++ pastW G pa pv))))) := (z_permD (pn_a _ _ _ _ _).symm hD)
  refine lv_aload_n hx hb dX3_count_119 rfl (lv_at hl 0 rfl) ?_
  refine va_get (D := G.1) (ci := 3) (v := .ref (a 0)) (C := RX3) (T := TX3) (N := 5) hx hb hts hinX3 hown hKK.1 hP 0 rfl rfl 0 (by decide) fl_10 (fun _ h9 => h9) rfl dX3_count_120 ?_
  refine lv_aload_n hx hb dX3_count_123 rfl (lv_at hl 0 rfl) ?_
  refine va_get (D := G.1) (ci := 3) (v := .ref (a 0)) (C := RX3) (T := TX3) (N := 5) hx hb hts hinX3 hown hKK.1 hP 0 rfl rfl 0 (by decide) fl_10 (fun _ h9 => h9) rfl dX3_count_124 ?_
  refine z_callVI (As := []) (rest := [.ref (a 0), .int (nI (zTp v 40))]) (wr := (headW G o pr (prF pa) a b q S ++ (playW G q (d 0) P ++ (textW G b t L ++ (rollW G d u ++ pastW G pa pv))))) (C := RX1) F (c_X1_top l G a v) (cwV 0 hts gX3_count_X1_top rfl rfl rfl (by decide +kernel) ⟨Nat.le_of_ble_eq_true rfl, Nat.le_of_ble_eq_true rfl⟩) hKK (z_recv hKK hP (q0 := 5) (ci := 1) rfl rfl) (z_perm (pn_a _ _ _ _ _) hP) (z_permD (pn_a _ _ _ _ _) hD) hS hA rfl hl.1 rfl (Nat.le_of_ble_eq_true rfl) ⟨Nat.zero_le _, Nat.zero_le _⟩ dX3_count_127 (fun H locs hP hD hS => ?_)
  have hP : va_P G.1 vwCl (headW G o pr (prF pa) a b q S ++ (playW G q (d 0) P ++ (textW G b t L ++ (rollW G a v ++ (rollW G d u ++ pastW G pa pv))))) H := (z_perm (pn_a _ _ _ _ _).symm hP)
  have hD : va_D A (headW G o pr (prF pa) a b q S ++ (playW G q (d 0) P ++ (textW G b t L ++ (rollW G a v ++ (rollW G d u ++ pastW G pa pv))))) := (z_permD (pn_a _ _ _ _ _).symm hD)
  refine z_callVI (As := [.int (nI (zTp v 40))]) (rest := [.int (nI (zTp v 40))]) (wr := (headW G o pr (prF pa) a b q S ++ (playW G q (d 0) P ++ (textW G b t L ++ (rollW G d u ++ pastW G pa pv))))) (C := RX1) F (c_X1_namesBelow l G a v (zTp v 40) (zTp_le v 40)) (cwV 1 hts gX3_count_X1_namesBelow rfl rfl rfl (by decide +kernel) ⟨Nat.le_of_ble_eq_true rfl, Nat.le_of_ble_eq_true rfl⟩) hKK (z_recv hKK hP (q0 := 5) (ci := 1) rfl rfl) (z_perm (pn_a _ _ _ _ _) hP) (z_permD (pn_a _ _ _ _ _) hD) hS hA rfl hl.1 rfl (Nat.le_of_ble_eq_true rfl) ⟨Nat.zero_le _, Nat.zero_le _⟩ dX3_count_130 (fun H locs hP hD hS => ?_)
  have hP : va_P G.1 vwCl (headW G o pr (prF pa) a b q S ++ (playW G q (d 0) P ++ (textW G b t L ++ (rollW G a v ++ (rollW G d u ++ pastW G pa pv))))) H := (z_perm (pn_a _ _ _ _ _).symm hP)
  have hD : va_D A (headW G o pr (prF pa) a b q S ++ (playW G q (d 0) P ++ (textW G b t L ++ (rollW G a v ++ (rollW G d u ++ pastW G pa pv))))) := (z_permD (pn_a _ _ _ _ _).symm hD)
  refine z_sub (v := nI (zTp v 40) - nI (fb_ct (pNm v) (zTp v 40))) hx hb dX3_count_133 rfl ?_
  exact z_iret hx hb hr hlk hP hD hS dX3_count_134 rfl rfl

set_option maxHeartbeats 4000000 in
set_option maxRecDepth 100000 in
theorem c_X3_count_6 (l : Launch) (G : ZG) (o pr q : Nat) (a b d : Nat → Nat) (pa : Nat → Nat → Nat) (S P L : Nat → Nat) (t v u : Mem) (pv : Nat → Mem)  : CI l G yX3_count wsX3_count (zRm 1 24) [.ref o, .int (nI 6)] (headW G o pr (prF pa) a b q S ++ (playW G q (d 0) P ++ (textW G b t L ++ (rollW G a v ++ (rollW G d u ++ pastW G pa pv))))) (v 12 1) (headW G o pr (prF pa) a b q S ++ (playW G q (d 0) P ++ (textW G b t L ++ (rollW G a v ++ (rollW G d u ++ pastW G pa pv))))) := by
  refine CI.ent (cc := cX3_count) (maxL := 2) (ty := .int) (own := RX3) (by decide) rfl rfl (Nat.le_of_ble_eq_true rfl) ?_
  intro p ee s m args below meth c A ls F hr hlk hKK hP hD hA hS hl
  obtain ⟨hx, hb, hml, hown, hts⟩ := id F
  have hl : lv_has ls 2 [(0, .ref o), (1, .int (nI 6))] := hl
  have fl_10 := hts (.fieldLink RX3 10 "NameRolls" "now" "LNameRolls$Roll;") (by decide +kernel)
  have fl_149 := hts (.fieldLink RX3 149 "NameRolls$Roll" "gained" "I") (by decide +kernel)
  have hinX1 : ∀ w ∈ wsX10, w ∈ wsX3_count := by decide +kernel
  have hinX3 : ∀ w ∈ wsX30, w ∈ wsX3_count := by decide +kernel
  refine lv_iload_n hx hb dX3_count_0 rfl (lv_at hl 1 rfl) ?_
  refine lv_tableIn (off := 134) (tgt := 135) hx hb dX3_count_1 (by decide) (by decide) rfl (by decide) ?_
  refine lv_aload_n hx hb dX3_count_135 rfl (lv_at hl 0 rfl) ?_
  refine va_get (D := G.1) (ci := 3) (v := .ref (a 0)) (C := RX3) (T := TX3) (N := 5) hx hb hts hinX3 hown hKK.1 hP 0 rfl rfl 0 (by decide) fl_10 (fun _ h9 => h9) rfl dX3_count_136 ?_
  refine va_get (D := G.1) (ci := 1) (v := .int (v 12 1)) (C := RX1) (T := TX1) (N := 15) hx hb hts hinX1 hown hKK.1 hP 5 rfl rfl 5 (by decide) fl_149 (fun _ h9 => h9) rfl dX3_count_139 ?_
  exact z_iret hx hb hr hlk hP hD hS dX3_count_142 rfl rfl

set_option maxHeartbeats 4000000 in
set_option maxRecDepth 100000 in
theorem c_X3_count_7 (l : Launch) (G : ZG) (o pr q : Nat) (a b d : Nat → Nat) (pa : Nat → Nat → Nat) (S P L : Nat → Nat) (t v u : Mem) (pv : Nat → Mem)  : CI l G yX3_count wsX3_count (zRm 1 24) [.ref o, .int (nI 7)] (headW G o pr (prF pa) a b q S ++ (playW G q (d 0) P ++ (textW G b t L ++ (rollW G a v ++ (rollW G d u ++ pastW G pa pv))))) (v 12 2) (headW G o pr (prF pa) a b q S ++ (playW G q (d 0) P ++ (textW G b t L ++ (rollW G a v ++ (rollW G d u ++ pastW G pa pv))))) := by
  refine CI.ent (cc := cX3_count) (maxL := 2) (ty := .int) (own := RX3) (by decide) rfl rfl (Nat.le_of_ble_eq_true rfl) ?_
  intro p ee s m args below meth c A ls F hr hlk hKK hP hD hA hS hl
  obtain ⟨hx, hb, hml, hown, hts⟩ := id F
  have hl : lv_has ls 2 [(0, .ref o), (1, .int (nI 7))] := hl
  have fl_10 := hts (.fieldLink RX3 10 "NameRolls" "now" "LNameRolls$Roll;") (by decide +kernel)
  have fl_152 := hts (.fieldLink RX3 152 "NameRolls$Roll" "lost" "I") (by decide +kernel)
  have hinX1 : ∀ w ∈ wsX10, w ∈ wsX3_count := by decide +kernel
  have hinX3 : ∀ w ∈ wsX30, w ∈ wsX3_count := by decide +kernel
  refine lv_iload_n hx hb dX3_count_0 rfl (lv_at hl 1 rfl) ?_
  refine lv_tableIn (off := 142) (tgt := 143) hx hb dX3_count_1 (by decide) (by decide) rfl (by decide) ?_
  refine lv_aload_n hx hb dX3_count_143 rfl (lv_at hl 0 rfl) ?_
  refine va_get (D := G.1) (ci := 3) (v := .ref (a 0)) (C := RX3) (T := TX3) (N := 5) hx hb hts hinX3 hown hKK.1 hP 0 rfl rfl 0 (by decide) fl_10 (fun _ h9 => h9) rfl dX3_count_144 ?_
  refine va_get (D := G.1) (ci := 1) (v := .int (v 12 2)) (C := RX1) (T := TX1) (N := 15) hx hb hts hinX1 hown hKK.1 hP 5 rfl rfl 6 (by decide) fl_152 (fun _ h9 => h9) rfl dX3_count_147 ?_
  exact z_iret hx hb hr hlk hP hD hS dX3_count_150 rfl rfl

set_option maxHeartbeats 4000000 in
set_option maxRecDepth 100000 in
theorem c_X3_count_8 (l : Launch) (G : ZG) (o pr q : Nat) (a b d : Nat → Nat) (pa : Nat → Nat → Nat) (S P L : Nat → Nat) (t v u : Mem) (pv : Nat → Mem) (e0 : Nat) (he : v 12 0 = nI e0) (he9 : e0 ≤ 999) : CI l G yX3_count wsX3_count (zRm 1 24) [.ref o, .int (nI 8)] (headW G o pr (prF pa) a b q S ++ (playW G q (d 0) P ++ (textW G b t L ++ (rollW G a v ++ (rollW G d u ++ pastW G pa pv))))) (nI (min e0 3)) (headW G o pr (prF pa) a b q S ++ (playW G q (d 0) P ++ (textW G b t L ++ (rollW G a v ++ (rollW G d u ++ pastW G pa pv))))) := by
  refine CI.ent (cc := cX3_count) (maxL := 2) (ty := .int) (own := RX3) (by decide) rfl rfl (Nat.le_of_ble_eq_true rfl) ?_
  intro p ee s m args below meth c A ls F hr hlk hKK hP hD hA hS hl
  obtain ⟨hx, hb, hml, hown, hts⟩ := id F
  have hl : lv_has ls 2 [(0, .ref o), (1, .int (nI 8))] := hl
  have fl_10 := hts (.fieldLink RX3 10 "NameRolls" "now" "LNameRolls$Roll;") (by decide +kernel)
  have fl_123 := hts (.fieldLink RX3 123 "NameRolls$Roll" "epoch" "I") (by decide +kernel)
  have hinX1 : ∀ w ∈ wsX10, w ∈ wsX3_count := by decide +kernel
  have hinX3 : ∀ w ∈ wsX30, w ∈ wsX3_count := by decide +kernel
  have mmc := hts (.code Lib.Math.min.name Lib.Math.min.code 2 (some .int)) (by decide +kernel)
  have mmi := hts (.initialized "java/lang/Math") (by decide +kernel)
  have mml := hts (.methodLink RX3 155 Lib.Math.min.name) (by decide +kernel)
  have mms := hts (.static Lib.Math.min.name) (by decide +kernel)
  refine lv_iload_n hx hb dX3_count_0 rfl (lv_at hl 1 rfl) ?_
  refine lv_tableIn (off := 150) (tgt := 151) hx hb dX3_count_1 (by decide) (by decide) rfl (by decide) ?_
  refine lv_aload_n hx hb dX3_count_151 rfl (lv_at hl 0 rfl) ?_
  refine va_get (D := G.1) (ci := 3) (v := .ref (a 0)) (C := RX3) (T := TX3) (N := 5) hx hb hts hinX3 hown hKK.1 hP 0 rfl rfl 0 (by decide) fl_10 (fun _ h9 => h9) rfl dX3_count_152 ?_
  refine va_get (D := G.1) (ci := 1) (v := .int (v 12 0)) (C := RX1) (T := TX1) (N := 15) hx hb hts hinX1 hown hKK.1 hP 5 rfl rfl 4 (by decide) fl_123 (fun _ h9 => h9) rfl dX3_count_155 ?_
  refine z_top (v := nI e0) he ?_
  refine lv_iconst (v := nI 3) hx hb dX3_count_158 (by decide) ?_
  refine va_mmin hx hb (hml.trans hl.1.symm) hown mml mms mmi mmc (Nat.le_of_ble_eq_true rfl) (Nat.le_of_ble_eq_true rfl) (Nat.zero_le _) (Nat.zero_le _) dX3_count_159 ?_
  refine z_top (v := nI (min e0 3)) (min_nI (by omega)) ?_
  exact z_iret hx hb hr hlk hP hD hS dX3_count_162 rfl rfl

set_option maxHeartbeats 4000000 in
set_option maxRecDepth 100000 in
theorem c_X3_count_9 (l : Launch) (G : ZG) (o pr q : Nat) (a b d : Nat → Nat) (pa : Nat → Nat → Nat) (S P L : Nat → Nat) (t v u : Mem) (pv : Nat → Mem)  : CI l G yX3_count wsX3_count (zRm 1 24) [.ref o, .int (nI 9)] (headW G o pr (prF pa) a b q S ++ (playW G q (d 0) P ++ (textW G b t L ++ (rollW G a v ++ (rollW G d u ++ pastW G pa pv))))) (nI (S 0)) (headW G o pr (prF pa) a b q S ++ (playW G q (d 0) P ++ (textW G b t L ++ (rollW G a v ++ (rollW G d u ++ pastW G pa pv))))) := by
  refine CI.ent (cc := cX3_count) (maxL := 2) (ty := .int) (own := RX3) (by decide) rfl rfl (Nat.le_of_ble_eq_true rfl) ?_
  intro p ee s m args below meth c A ls F hr hlk hKK hP hD hA hS hl
  obtain ⟨hx, hb, hml, hown, hts⟩ := id F
  have hl : lv_has ls 2 [(0, .ref o), (1, .int (nI 9))] := hl
  have fl_160 := hts (.fieldLink RX3 160 "NameRolls" "states" "I") (by decide +kernel)
  have hinX3 : ∀ w ∈ wsX30, w ∈ wsX3_count := by decide +kernel
  refine lv_iload_n hx hb dX3_count_0 rfl (lv_at hl 1 rfl) ?_
  refine lv_tableIn (off := 162) (tgt := 163) hx hb dX3_count_1 (by decide) (by decide) rfl (by decide) ?_
  refine lv_aload_n hx hb dX3_count_163 rfl (lv_at hl 0 rfl) ?_
  refine va_get (D := G.1) (ci := 3) (v := .int (nI (S 0))) (C := RX3) (T := TX3) (N := 5) hx hb hts hinX3 hown hKK.1 hP 0 rfl rfl 2 (by decide) fl_160 (fun _ h9 => h9) rfl dX3_count_164 ?_
  exact z_iret hx hb hr hlk hP hD hS dX3_count_167 rfl rfl

set_option maxHeartbeats 4000000 in
set_option maxRecDepth 100000 in
theorem c_X3_count_10 (l : Launch) (G : ZG) (o pr q : Nat) (a b d : Nat → Nat) (pa : Nat → Nat → Nat) (S P L : Nat → Nat) (t v u : Mem) (pv : Nat → Mem)  : CI l G yX3_count wsX3_count (zRm 1 24) [.ref o, .int (nI 10)] (headW G o pr (prF pa) a b q S ++ (playW G q (d 0) P ++ (textW G b t L ++ (rollW G a v ++ (rollW G d u ++ pastW G pa pv))))) (nI (L 0)) (headW G o pr (prF pa) a b q S ++ (playW G q (d 0) P ++ (textW G b t L ++ (rollW G a v ++ (rollW G d u ++ pastW G pa pv))))) := by
  refine CI.ent (cc := cX3_count) (maxL := 2) (ty := .int) (own := RX3) (by decide) rfl rfl (Nat.le_of_ble_eq_true rfl) ?_
  intro p ee s m args below meth c A ls F hr hlk hKK hP hD hA hS hl
  obtain ⟨hx, hb, hml, hown, hts⟩ := id F
  have hl : lv_has ls 2 [(0, .ref o), (1, .int (nI 10))] := hl
  have fl_23 := hts (.fieldLink RX3 23 "NameRolls" "text" "LNameRolls$Text;") (by decide +kernel)
  have fl_163 := hts (.fieldLink RX3 163 "NameRolls$Text" "length" "I") (by decide +kernel)
  have hinX2 : ∀ w ∈ wsX20, w ∈ wsX3_count := by decide +kernel
  have hinX3 : ∀ w ∈ wsX30, w ∈ wsX3_count := by decide +kernel
  refine lv_iload_n hx hb dX3_count_0 rfl (lv_at hl 1 rfl) ?_
  refine lv_tableIn (off := 167) (tgt := 168) hx hb dX3_count_1 (by decide) (by decide) rfl (by decide) ?_
  refine lv_aload_n hx hb dX3_count_168 rfl (lv_at hl 0 rfl) ?_
  refine va_get (D := G.1) (ci := 3) (v := .ref (b 0)) (C := RX3) (T := TX3) (N := 5) hx hb hts hinX3 hown hKK.1 hP 0 rfl rfl 3 (by decide) fl_23 (fun _ h9 => h9) rfl dX3_count_169 ?_
  refine va_get (D := G.1) (ci := 2) (v := .int (nI (L 0))) (C := RX2) (T := TX2) (N := 2) hx hb hts hinX2 hown hKK.1 hP 3 rfl rfl 1 (by decide) fl_163 (fun _ h9 => h9) rfl dX3_count_172 ?_
  exact z_iret hx hb hr hlk hP hD hS dX3_count_175 rfl rfl

set_option maxHeartbeats 4000000 in
set_option maxRecDepth 100000 in
theorem c_X3_count_out (l : Launch) (G : ZG) (o pr q : Nat) (a b d : Nat → Nat) (pa : Nat → Nat → Nat) (S P L : Nat → Nat) (t v u : Mem) (pv : Nat → Mem) (x : Int32) (h9 : x.toInt < 0 ∨ (10 : Int) < x.toInt) : CI l G yX3_count wsX3_count (zRm 1 24) [.ref o, .int x] (headW G o pr (prF pa) a b q S ++ (playW G q (d 0) P ++ (textW G b t L ++ (rollW G a v ++ (rollW G d u ++ pastW G pa pv))))) ((-1000001)) (headW G o pr (prF pa) a b q S ++ (playW G q (d 0) P ++ (textW G b t L ++ (rollW G a v ++ (rollW G d u ++ pastW G pa pv))))) := by
  refine CI.ent (cc := cX3_count) (maxL := 2) (ty := .int) (own := RX3) (by decide) rfl rfl (Nat.le_of_ble_eq_true rfl) ?_
  intro p ee s m args below meth c A ls F hr hlk hKK hP hD hA hS hl
  obtain ⟨hx, hb, hml, hown, hts⟩ := id F
  have hl : lv_has ls 2 [(0, .ref o), (1, .int x)] := hl
  have ct_38 := hts (.constant RX3 38 (-1000001)) (by decide +kernel)
  refine lv_iload_n hx hb dX3_count_0 rfl (lv_at hl 1 rfl) ?_
  refine lv_tableOut (tgt := 176) hx hb dX3_count_1 (by omega) (by decide) ?_
  refine z_ldc (v' := (-1000001)) hx hb hown ct_38 dX3_count_176 rfl ?_
  exact z_iret hx hb hr hlk hP hD hS dX3_count_178 rfl rfl

set_option maxHeartbeats 4000000 in
set_option maxRecDepth 100000 in
theorem c_X3_type_lo (l : Launch) (G : ZG) (o pr q : Nat) (a b d : Nat → Nat) (pa : Nat → Nat → Nat) (S P L : Nat → Nat) (t v u : Mem) (pv : Nat → Mem) (x : Int32) (h9 : x < nI 32) : CI l G yX3_type wsX3_type (zRm 2 42) [.ref o, .int x] (headW G o pr (prF pa) a b q S ++ (playW G q (d 0) P ++ (textW G b t L ++ (rollW G a v ++ (rollW G d u ++ pastW G pa pv))))) ((-1000001)) (headW G o pr (prF pa) a b q S ++ (playW G q (d 0) P ++ (textW G b t L ++ (rollW G a v ++ (rollW G d u ++ pastW G pa pv))))) := by
  refine CI.ent (cc := cX3_type) (maxL := 2) (ty := .int) (own := RX3) (by decide) rfl rfl (Nat.le_of_ble_eq_true rfl) ?_
  intro p ee s m args below meth c A ls F hr hlk hKK hP hD hA hS hl
  obtain ⟨hx, hb, hml, hown, hts⟩ := id F
  have hl : lv_has ls 2 [(0, .ref o), (1, .int x)] := hl
  have ct_38 := hts (.constant RX3 38 (-1000001)) (by decide +kernel)
  refine lv_iload_n hx hb dX3_type_0 rfl (lv_at hl 1 rfl) ?_
  refine lv_bipush (v := nI 32) hx hb dX3_type_1 (by decide) ?_
  refine lv_icmp_lt (tgt := 12) hx hb dX3_type_3 (by decide) (fun c_1 => ?_) (fun c_1 => absurd h9 c_1)
  refine z_ldc (v' := (-1000001)) hx hb hown ct_38 dX3_type_12 rfl ?_
  exact z_iret hx hb hr hlk hP hD hS dX3_type_14 rfl rfl

set_option maxHeartbeats 4000000 in
set_option maxRecDepth 100000 in
theorem c_X3_type_hi (l : Launch) (G : ZG) (o pr q : Nat) (a b d : Nat → Nat) (pa : Nat → Nat → Nat) (S P L : Nat → Nat) (t v u : Mem) (pv : Nat → Mem) (x : Int32) (h8 : ¬ x < nI 32) (h9 : nI 126 < x) : CI l G yX3_type wsX3_type (zRm 2 42) [.ref o, .int x] (headW G o pr (prF pa) a b q S ++ (playW G q (d 0) P ++ (textW G b t L ++ (rollW G a v ++ (rollW G d u ++ pastW G pa pv))))) ((-1000001)) (headW G o pr (prF pa) a b q S ++ (playW G q (d 0) P ++ (textW G b t L ++ (rollW G a v ++ (rollW G d u ++ pastW G pa pv))))) := by
  refine CI.ent (cc := cX3_type) (maxL := 2) (ty := .int) (own := RX3) (by decide) rfl rfl (Nat.le_of_ble_eq_true rfl) ?_
  intro p ee s m args below meth c A ls F hr hlk hKK hP hD hA hS hl
  obtain ⟨hx, hb, hml, hown, hts⟩ := id F
  have hl : lv_has ls 2 [(0, .ref o), (1, .int x)] := hl
  have ct_38 := hts (.constant RX3 38 (-1000001)) (by decide +kernel)
  refine lv_iload_n hx hb dX3_type_0 rfl (lv_at hl 1 rfl) ?_
  refine lv_bipush (v := nI 32) hx hb dX3_type_1 (by decide) ?_
  refine lv_icmp_lt (tgt := 12) hx hb dX3_type_3 (by decide) (fun c_1 => absurd c_1 h8) (fun c_1 => ?_)
  refine lv_iload_n hx hb dX3_type_6 rfl (lv_at hl 1 rfl) ?_
  refine lv_bipush (v := nI 126) hx hb dX3_type_7 (by decide) ?_
  refine lv_icmp_le (tgt := 15) hx hb dX3_type_9 (by decide) (fun c_2 => absurd h9 (i32_nlt c_2)) (fun c_2 => ?_)
  refine z_ldc (v' := (-1000001)) hx hb hown ct_38 dX3_type_12 rfl ?_
  exact z_iret hx hb hr hlk hP hD hS dX3_type_14 rfl rfl

set_option maxHeartbeats 4000000 in
set_option maxRecDepth 100000 in
theorem c_X3_type_full (l : Launch) (G : ZG) (o pr q : Nat) (a b d : Nat → Nat) (pa : Nat → Nat → Nat) (S P L : Nat → Nat) (t v u : Mem) (pv : Nat → Mem) (ch : Nat) (h1 : 32 ≤ ch) (h2 : ch ≤ 126) (hL : L 0 = 60) : CI l G yX3_type wsX3_type (zRm 2 42) [.ref o, .int (nI ch)] (headW G o pr (prF pa) a b q S ++ (playW G q (d 0) P ++ (textW G b t L ++ (rollW G a v ++ (rollW G d u ++ pastW G pa pv))))) ((-1000003)) (headW G o pr (prF pa) a b q S ++ (playW G q (d 0) P ++ (textW G b t L ++ (rollW G a v ++ (rollW G d u ++ pastW G pa pv))))) := by
  refine CI.ent (cc := cX3_type) (maxL := 2) (ty := .int) (own := RX3) (by decide) rfl rfl (Nat.le_of_ble_eq_true rfl) ?_
  intro p ee s m args below meth c A ls F hr hlk hKK hP hD hA hS hl
  obtain ⟨hx, hb, hml, hown, hts⟩ := id F
  have hl : lv_has ls 2 [(0, .ref o), (1, .int (nI ch))] := hl
  have ct_42 := hts (.constant RX3 42 (-1000003)) (by decide +kernel)
  have fl_23 := hts (.fieldLink RX3 23 "NameRolls" "text" "LNameRolls$Text;") (by decide +kernel)
  have fl_163 := hts (.fieldLink RX3 163 "NameRolls$Text" "length" "I") (by decide +kernel)
  have hinX2 : ∀ w ∈ wsX20, w ∈ wsX3_type := by decide +kernel
  have hinX3 : ∀ w ∈ wsX30, w ∈ wsX3_type := by decide +kernel
  refine lv_iload_n hx hb dX3_type_0 rfl (lv_at hl 1 rfl) ?_
  refine lv_bipush (v := nI 32) hx hb dX3_type_1 (by decide) ?_
  refine z_lt (tgt := 12) hx hb dX3_type_3 (by decide) (by omega) (by omega) (fun c_1 => absurd c_1 (by omega)) (fun c_1 => ?_)
  refine lv_iload_n hx hb dX3_type_6 rfl (lv_at hl 1 rfl) ?_
  refine lv_bipush (v := nI 126) hx hb dX3_type_7 (by decide) ?_
  refine z_le (tgt := 15) hx hb dX3_type_9 (by decide) (by omega) (by omega) (fun c_2 => ?_) (fun c_2 => absurd c_2 (by omega))
  refine lv_aload_n hx hb dX3_type_15 rfl (lv_at hl 0 rfl) ?_
  refine va_get (D := G.1) (ci := 3) (v := .ref (b 0)) (C := RX3) (T := TX3) (N := 5) hx hb hts hinX3 hown hKK.1 hP 0 rfl rfl 3 (by decide) fl_23 (fun _ h9 => h9) rfl dX3_type_16 ?_
  refine va_get (D := G.1) (ci := 2) (v := .int (nI (L 0))) (C := RX2) (T := TX2) (N := 2) hx hb hts hinX2 hown hKK.1 hP 3 rfl rfl 1 (by decide) fl_163 (fun _ h9 => h9) rfl dX3_type_19 ?_
  refine z_top (v := nI 60) (by rw [hL]) ?_
  refine lv_bipush (v := nI 60) hx hb dX3_type_22 (by decide) ?_
  refine z_lt (tgt := 30) hx hb dX3_type_24 (by decide) (by omega) (by omega) (fun c_3 => absurd c_3 (by decide)) (fun c_3 => ?_)
  refine z_ldc (v' := (-1000003)) hx hb hown ct_42 dX3_type_27 rfl ?_
  exact z_iret hx hb hr hlk hP hD hS dX3_type_29 rfl rfl

set_option maxHeartbeats 4000000 in
set_option maxRecDepth 100000 in
theorem c_X3_type_ok (l : Launch) (G : ZG) (o pr q : Nat) (a b d : Nat → Nat) (pa : Nat → Nat → Nat) (S P L : Nat → Nat) (t v u : Mem) (pv : Nat → Mem) (ch tl : Nat) (h1 : 32 ≤ ch) (h2 : ch ≤ 126) (hL : L 0 = tl) (hL6 : tl < 60) : CI l G yX3_type wsX3_type (zRm 2 42) [.ref o, .int (nI ch)] (headW G o pr (prF pa) a b q S ++ (playW G q (d 0) P ++ (textW G b t L ++ (rollW G a v ++ (rollW G d u ++ pastW G pa pv))))) (nI (tl + 1)) (headW G o pr (prF pa) a b q S ++ (playW G q (d 0) P ++ (textW G b (mrow t 0 (upd (t 0) tl (nI ch))) (nup L 0 (tl + 1)) ++ (rollW G a v ++ (rollW G d u ++ pastW G pa pv))))) := by
  refine CI.ent (cc := cX3_type) (maxL := 2) (ty := .int) (own := RX3) (by decide) rfl rfl (Nat.le_of_ble_eq_true rfl) ?_
  intro p ee s m args below meth c A ls F hr hlk hKK hP hD hA hS hl
  obtain ⟨hx, hb, hml, hown, hts⟩ := id F
  have hl : lv_has ls 2 [(0, .ref o), (1, .int (nI ch))] := hl
  have fl_23 := hts (.fieldLink RX3 23 "NameRolls" "text" "LNameRolls$Text;") (by decide +kernel)
  have fl_163 := hts (.fieldLink RX3 163 "NameRolls$Text" "length" "I") (by decide +kernel)
  have hinX2 : ∀ w ∈ wsX20, w ∈ wsX3_type := by decide +kernel
  have hinX3 : ∀ w ∈ wsX30, w ∈ wsX3_type := by decide +kernel
  refine lv_iload_n hx hb dX3_type_0 rfl (lv_at hl 1 rfl) ?_
  refine lv_bipush (v := nI 32) hx hb dX3_type_1 (by decide) ?_
  refine z_lt (tgt := 12) hx hb dX3_type_3 (by decide) (by omega) (by omega) (fun c_1 => absurd c_1 (by omega)) (fun c_1 => ?_)
  refine lv_iload_n hx hb dX3_type_6 rfl (lv_at hl 1 rfl) ?_
  refine lv_bipush (v := nI 126) hx hb dX3_type_7 (by decide) ?_
  refine z_le (tgt := 15) hx hb dX3_type_9 (by decide) (by omega) (by omega) (fun c_2 => ?_) (fun c_2 => absurd c_2 (by omega))
  refine lv_aload_n hx hb dX3_type_15 rfl (lv_at hl 0 rfl) ?_
  refine va_get (D := G.1) (ci := 3) (v := .ref (b 0)) (C := RX3) (T := TX3) (N := 5) hx hb hts hinX3 hown hKK.1 hP 0 rfl rfl 3 (by decide) fl_23 (fun _ h9 => h9) rfl dX3_type_16 ?_
  refine va_get (D := G.1) (ci := 2) (v := .int (nI (L 0))) (C := RX2) (T := TX2) (N := 2) hx hb hts hinX2 hown hKK.1 hP 3 rfl rfl 1 (by decide) fl_163 (fun _ h9 => h9) rfl dX3_type_19 ?_
  refine z_top (v := nI tl) (by rw [hL]) ?_
  refine lv_bipush (v := nI 60) hx hb dX3_type_22 (by decide) ?_
  refine z_lt (tgt := 30) hx hb dX3_type_24 (by decide) (by omega) (by omega) (fun c_3 => ?_) (fun c_3 => absurd c_3 (by omega))
  refine lv_aload_n hx hb dX3_type_30 rfl (lv_at hl 0 rfl) ?_
  refine va_get (D := G.1) (ci := 3) (v := .ref (b 0)) (C := RX3) (T := TX3) (N := 5) hx hb hts hinX3 hown hKK.1 hP 0 rfl rfl 3 (by decide) fl_23 (fun _ h9 => h9) rfl dX3_type_31 ?_
  refine lv_iload_n hx hb dX3_type_34 rfl (lv_at hl 1 rfl) ?_
  refine lv_i2c (v := nI ch) hx hb dX3_type_35 (i2c_N (by omega)) ?_
  refine z_callVI (As := [.int (nI ch)]) (rest := []) (wr := (headW G o pr (prF pa) a b q S ++ (playW G q (d 0) P ++ (rollW G a v ++ (rollW G d u ++ pastW G pa pv))))) (C := RX2) F (c_X2_append l G b t L ch tl (by omega) hL hL6) (cwV 1 hts gX3_type_X2_append rfl rfl rfl (by decide +kernel) ⟨Nat.le_of_ble_eq_true rfl, Nat.le_of_ble_eq_true rfl⟩) hKK (z_recv hKK hP (q0 := 3) (ci := 2) rfl rfl) (z_perm (pn_t _ _ _ _) hP) (z_permD (pn_t _ _ _ _) hD) hS hA rfl hl.1 rfl (Nat.le_of_ble_eq_true rfl) ⟨Nat.zero_le _, Nat.zero_le _⟩ dX3_type_36 (fun H locs hP hD hS => ?_)
  have hP : va_P G.1 vwCl (headW G o pr (prF pa) a b q S ++ (playW G q (d 0) P ++ (textW G b (mrow t 0 (upd (t 0) tl (nI ch))) (nup L 0 (tl + 1)) ++ (rollW G a v ++ (rollW G d u ++ pastW G pa pv))))) H := (z_perm (pn_t _ _ _ _).symm hP)
  have hD : va_D A (headW G o pr (prF pa) a b q S ++ (playW G q (d 0) P ++ (textW G b (mrow t 0 (upd (t 0) tl (nI ch))) (nup L 0 (tl + 1)) ++ (rollW G a v ++ (rollW G d u ++ pastW G pa pv))))) := (z_permD (pn_t _ _ _ _).symm hD)
  exact z_iret hx hb hr hlk hP hD hS dX3_type_39 rfl rfl

set_option maxHeartbeats 4000000 in
set_option maxRecDepth 100000 in
theorem c_X3_clearText (l : Launch) (G : ZG) (o pr q : Nat) (a b d : Nat → Nat) (pa : Nat → Nat → Nat) (S P L : Nat → Nat) (t v u : Mem) (pv : Nat → Mem)  : CI l G yX3_clearText wsX3_clearText (zRm 0 0) [.ref o] (headW G o pr (prF pa) a b q S ++ (playW G q (d 0) P ++ (textW G b t L ++ (rollW G a v ++ (rollW G d u ++ pastW G pa pv))))) (nI (L 0)) (headW G o pr (prF pa) a b q S ++ (playW G q (d 0) P ++ (textW G b t (nup L 0 0) ++ (rollW G a v ++ (rollW G d u ++ pastW G pa pv))))) := by
  refine CI.ent (cc := cX3_clearText) (maxL := 2) (ty := .int) (own := RX3) (by decide) rfl rfl (Nat.le_of_ble_eq_true rfl) ?_
  intro p ee s m args below meth c A ls F hr hlk hKK hP hD hA hS hl
  obtain ⟨hx, hb, hml, hown, hts⟩ := id F
  have hl : lv_has ls 2 [(0, .ref o)] := hl
  have fl_23 := hts (.fieldLink RX3 23 "NameRolls" "text" "LNameRolls$Text;") (by decide +kernel)
  have fl_163 := hts (.fieldLink RX3 163 "NameRolls$Text" "length" "I") (by decide +kernel)
  have hinX2 : ∀ w ∈ wsX20, w ∈ wsX3_clearText := by decide +kernel
  have hinX3 : ∀ w ∈ wsX30, w ∈ wsX3_clearText := by decide +kernel
  refine lv_aload_n hx hb dX3_clearText_0 rfl (lv_at hl 0 rfl) ?_
  refine va_get (D := G.1) (ci := 3) (v := .ref (b 0)) (C := RX3) (T := TX3) (N := 5) hx hb hts hinX3 hown hKK.1 hP 0 rfl rfl 3 (by decide) fl_23 (fun _ h9 => h9) rfl dX3_clearText_1 ?_
  refine va_get (D := G.1) (ci := 2) (v := .int (nI (L 0))) (C := RX2) (T := TX2) (N := 2) hx hb hts hinX2 hown hKK.1 hP 3 rfl rfl 1 (by decide) fl_163 (fun _ h9 => h9) rfl dX3_clearText_4 ?_
  refine lv_istore_n (lv' := [(1, .int (nI (L 0))), (0, .ref o)]) hx hb dX3_clearText_7 rfl hl (by decide) rfl (fun ls hl => ?_)
  refine lv_aload_n hx hb dX3_clearText_8 rfl (lv_at hl 1 rfl) ?_
  refine va_get (D := G.1) (ci := 3) (v := .ref (b 0)) (C := RX3) (T := TX3) (N := 5) hx hb hts hinX3 hown hKK.1 hP 0 rfl rfl 3 (by decide) fl_23 (fun _ h9 => h9) rfl dX3_clearText_9 ?_
  refine lv_iconst (v := nI 0) hx hb dX3_clearText_12 (by decide) ?_
  refine z_put (w2 := headW G o pr (prF pa) a b q S ++ (playW G q (d 0) P ++ (textW G b t (nup L 0 0) ++ (rollW G a v ++ (rollW G d u ++ pastW G pa pv))))) hx hb hts hinX2 tyX2 tyX2_ok nmX2 hown hKK hP hD hS 3 (ci := 2) (C := RX2) (T := TX2) (N := 2) rfl rfl 1 (by decide) fl_163 rfl rfl rfl (Nat.le_of_ble_eq_true rfl) rfl dX3_clearText_13 (fun H locs hP hD hS => ?_)
  refine lv_iload_n hx hb dX3_clearText_16 rfl (lv_at hl 0 rfl) ?_
  exact z_iret hx hb hr hlk hP hD hS dX3_clearText_17 rfl rfl
