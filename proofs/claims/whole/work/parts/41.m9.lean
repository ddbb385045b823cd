theorem da_le {w v V : Mem} {y Y : Nat → Nat} {B tl n : Nat} (h : daInv w v y B tl n V Y) : Y 7 ≤ 3 := by
  rcases h.2.2 with q | q
  · rw [q.1]; decide
  · exact q.2.1

set_option maxHeartbeats 4000000 in
set_option maxRecDepth 100000 in
theorem c_X4_doesAll (l : Launch) (G : ZG) (a : Nat → Nat) (v : Mem) (y : Nat → Nat) (w : Mem) (e B : Nat) (hR : RR w (v 0) e B) (hdg : okDg v) (tl : Nat) (hL : y 1 = tl) (hL6 : tl ≤ 60) (hT : okTx (v 3)) : CIE l G yX4_doesAll wsX4_doesAll (zRm 5 115) [.ref (a 0)] (modW G a v y) (S := Mem × (Nat → Nat)) (daPost w v y B tl) (fun u => modW G a u.1 u.2) := by
  refine CIE.ent (cc := cX4_doesAll) (maxL := 3) (ty := .int) (own := RX4) (by decide) rfl rfl (Nat.le_of_ble_eq_true rfl) ?_
  intro p ee s m args below meth c A ls F hr hlk hKK hP hD hA hS hl
  obtain ⟨hx, hb, hml, hown, hts⟩ := id F
  have hl : lv_has ls 3 [(0, .ref (a 0))] := hl
  have fl_131 := hts (.fieldLink RX4 131 "NameRollsModel" "length" "I") (by decide +kernel)
  have fl_134 := hts (.fieldLink RX4 134 "NameRollsModel" "end" "I") (by decide +kernel)
  have fl_156 := hts (.fieldLink RX4 156 "NameRollsModel" "reason" "I") (by decide +kernel)
  have fl_159 := hts (.fieldLink RX4 159 "NameRollsModel" "place" "I") (by decide +kernel)
  have fl_165 := hts (.fieldLink RX4 165 "NameRollsModel" "cause" "I") (by decide +kernel)
  have hinX4 : ∀ w ∈ wsX40, w ∈ wsX4_doesAll := by decide +kernel
  refine lv_iconst (v := nI 0) hx hb dX4_doesAll_0 (by decide) ?_
  refine lv_istore_n (lv' := [(1, .int (nI 0)), (0, .ref (a 0))]) hx hb dX4_doesAll_1 rfl hl (by decide) rfl (fun ls hl => ?_)
  refine lv_aload_n hx hb dX4_doesAll_2 rfl (lv_at hl 1 rfl) ?_
  refine lv_iconst (v := nI 0) hx hb dX4_doesAll_3 (by decide) ?_
  refine z_put (w2 := modW G a v (nup y 7 0)) hx hb hts hinX4 tyX4 tyX4_ok nmX4 hown hKK hP hD hS 0 (ci := 4) (C := RX4) (T := TX4) (N := 17) rfl rfl 14 (by decide) fl_156 rfl rfl rfl (Nat.le_of_ble_eq_true rfl) rfl dX4_doesAll_4 (fun H locs hP hD hS => ?_)
  refine lv_aload_n hx hb dX4_doesAll_7 rfl (lv_at hl 1 rfl) ?_
  refine lv_iconst (v := nI 0) hx hb dX4_doesAll_8 (by decide) ?_
  refine z_put (w2 := modW G a v (nup (nup y 4 0) 7 0)) hx hb hts hinX4 tyX4 tyX4_ok nmX4 hown hKK hP hD hS 0 (ci := 4) (C := RX4) (T := TX4) (N := 17) rfl rfl 10 (by decide) fl_134 rfl rfl rfl (Nat.le_of_ble_eq_true rfl) rfl dX4_doesAll_9 (fun H locs hP hD hS => ?_)
  have key_1 : ∀ (nn : Nat) (n : Nat) (V : Mem) (Y : Nat → Nat), daInv w v y B tl n V Y → daM tl Y < nn → ∀ (H : Heap) (locs : List Loc) (ls : Array Slot), va_P G.1 vwCl (modW G a V Y) H → va_D A (modW G a V Y) → va_S A s.heap H locs → lv_has ls 3 [(0, .ref (a 0)), (1, .int (nI n))] → W p l ee (zRm 5 115) s m args below meth c H locs 0 0 (MQ below (ZQie G A (S := Mem × (Nat → Nat)) (daPost w v y B tl) (fun u => modW G a u.1 u.2)) args s 0 0 A) (F0 m 12 ls []) := by
    intro nn
    induction nn with
    | zero => intro n V Y _ hm; exact absurd hm (Nat.not_lt_zero _)
    | succ nn ih_1 =>
      intro n V Y hI hm H locs ls hP hD hS hl
      have hYL : Y 1 = tl := hI.1.2.2.2.2.2.trans hL
      have hT3 : okTx (V 3) := by rw [hI.1.2.2.1]; exact hT
      have hY4 := hI.2.1
      have hdg9 := hI.1.2.2.2.1
      refine lv_aload_n hx hb dX4_doesAll_12 rfl (lv_at hl 0 rfl) ?_
      refine va_get (D := G.1) (ci := 4) (v := .int (nI (Y 4))) (C := RX4) (T := TX4) (N := 17) hx hb hts hinX4 hown hKK.1 hP 0 rfl rfl 10 (by decide) fl_134 (fun _ h9 => h9) rfl dX4_doesAll_13 ?_
      refine lv_aload_n hx hb dX4_doesAll_16 rfl (lv_at hl 0 rfl) ?_
      refine va_get (D := G.1) (ci := 4) (v := .int (nI (Y 1))) (C := RX4) (T := TX4) (N := 17) hx hb hts hinX4 hown hKK.1 hP 0 rfl rfl 5 (by decide) fl_131 (fun _ h9 => h9) rfl dX4_doesAll_17 ?_
      refine z_top (v := nI tl) (by rw [hYL]) ?_
      refine z_ge (tgt := 122) hx hb dX4_doesAll_20 (by decide) (by omega) (by omega) (fun c_2 => ?_) (fun c_2 => ?_)
      · skip
        refine lv_iload_n hx hb dX4_doesAll_122 rfl (lv_at hl 1 rfl) ?_
        exact z_iretE (V, Y) hx hb hr hlk hP hD hS dX4_doesAll_123 rfl (da_end hI (by omega) hL6)
      · skip
        refine lv_aload_n hx hb dX4_doesAll_23 rfl (lv_at hl 0 rfl) ?_
        refine va_get (D := G.1) (ci := 4) (v := .int (nI (Y 7))) (C := RX4) (T := TX4) (N := 17) hx hb hts hinX4 hown hKK.1 hP 0 rfl rfl 14 (by decide) fl_156 (fun _ h9 => h9) rfl dX4_doesAll_24 ?_
        refine z_ifNne (tgt := 122) hx hb dX4_doesAll_27 (by decide) (by have h7 : Y 7 ≤ 3 := (da_le hI); omega) (fun c_3 => ?_) (fun c_3 => ?_)
        · skip
          refine lv_iload_n hx hb dX4_doesAll_122 rfl (lv_at hl 1 rfl) ?_
          exact z_iretE (V, Y) hx hb hr hlk hP hD hS dX4_doesAll_123 rfl (da_fin hI (by omega))
        · skip
          have h70 : Y 7 = 0 := by omega
          obtain ⟨W, e9, f9, hrun⟩ := da_run hI h70
          have hlt : Y 4 < tl := by omega
          refine lv_aload_n hx hb dX4_doesAll_30 rfl (lv_at hl 0 rfl) ?_
          refine lv_aload_n hx hb dX4_doesAll_31 rfl (lv_at hl 0 rfl) ?_
          refine va_get (D := G.1) (ci := 4) (v := .int (nI (Y 4))) (C := RX4) (T := TX4) (N := 17) hx hb hts hinX4 hown hKK.1 hP 0 rfl rfl 10 (by decide) fl_134 (fun _ h9 => h9) rfl dX4_doesAll_32 ?_
          refine z_put (w2 := modW G a V (nup Y 9 (Y 4))) hx hb hts hinX4 tyX4 tyX4_ok nmX4 hown hKK hP hD hS 0 (ci := 4) (C := RX4) (T := TX4) (N := 17) rfl rfl 16 (by decide) fl_159 rfl rfl rfl (Nat.le_of_ble_eq_true rfl) rfl dX4_doesAll_35 (fun H locs hP hD hS => ?_)
          refine lv_aload_n hx hb dX4_doesAll_38 rfl (lv_at hl 0 rfl) ?_
          refine lv_aload_n hx hb dX4_doesAll_39 rfl (lv_at hl 0 rfl) ?_
          refine va_get (D := G.1) (ci := 4) (v := .int (nI (Y 4))) (C := RX4) (T := TX4) (N := 17) hx hb hts hinX4 hown hKK.1 hP 0 rfl rfl 16 (by decide) fl_159 (fun _ h9 => h9) rfl dX4_doesAll_40 ?_
          refine z_callVI (As := [.int (nI (Y 4))]) (rest := []) (wr := []) (C := RX4) F (c_X4_letter l G a V (nup Y 9 (Y 4)) (Y 4) (by omega) tl hYL hL6 hT3) (cwV 1 hts gX4_doesAll_X4_letter rfl rfl rfl (by decide +kernel) ⟨Nat.le_of_ble_eq_true rfl, Nat.le_of_ble_eq_true rfl⟩) hKK (z_recv hKK hP (q0 := 0) (ci := 4) rfl rfl) hP hD hS hA rfl hl.1 rfl (Nat.le_of_ble_eq_true rfl) ⟨Nat.zero_le _, Nat.zero_le _⟩ dX4_doesAll_43 (fun H locs hP hD hS => ?_)
          have hP : va_P G.1 vwCl (modW G a V (nup Y 9 (Y 4))) H := hP
          have hD : va_D A (modW G a V (nup Y 9 (Y 4))) := hD
          refine lv_istore_n (lv' := [(2, .int (nI (sgT (V 3) tl (Y 4)))), (0, .ref (a 0)), (1, .int (nI n))]) hx hb dX4_doesAll_46 rfl hl (by decide) rfl (fun ls hl => ?_)
          refine lv_aload_n hx hb dX4_doesAll_47 rfl (lv_at hl 1 rfl) ?_
          rcases da_cases (sgT (V 3) tl) (Y 4) W with ⟨q, hpr⟩ | ⟨q, d0, d1, k, wd, z, hpr, hrg⟩ | ⟨q, d0, d1, k, wd, hpr, hrg, hcan⟩ | ⟨q, d0, d1, k, wd, hpr, hrg, hcan⟩
          · skip
            refine z_callVIE (As := []) (rest := []) (wr := []) (C := RX4) F (c_X4_reads l G a V (nup Y 9 (Y 4)) hdg9 (show Y 4 ≤ 60 by omega) tl hYL hL6 hT3) (cwV 0 hts gX4_doesAll_X4_reads rfl rfl rfl (by decide +kernel) ⟨Nat.le_of_ble_eq_true rfl, Nat.le_of_ble_eq_true rfl⟩) hKK (z_recv hKK hP (q0 := 0) (ci := 4) rfl rfl) hP hD hS hA rfl hl.1 rfl (Nat.le_of_ble_eq_true rfl) ⟨Nat.zero_le _, Nat.zero_le _⟩ dX4_doesAll_48 (fun r_4 u_4 H locs hq_4 hP hD hS => ?_)
            have hp4 : prs (sgT (V 3) tl) ((nup Y 9 (Y 4)) 4) = (q, none) := hpr
            have hrr : r_4 = bI false := by have := hq_4.2.2.2.2.1; rw [hp4] at this; exact this
            have hrd := hq_4
            have hrk := da_rd hI hrd
            subst hrr
            have hb1 := da_b1 hI hrun hL6 hlt hpr hrd
            have hP : va_P G.1 vwCl (modW G a u_4.1 u_4.2) H := hP
            have hD : va_D A (modW G a u_4.1 u_4.2) := hD
            refine z_ifBne (tgt := 75) hx hb dX4_doesAll_51 (by decide) (fun c_5 => absurd c_5 (by decide)) (fun c_5 => ?_)
            refine lv_aload_n hx hb dX4_doesAll_54 rfl (lv_at hl 1 rfl) ?_
            refine lv_iconst (v := nI 1) hx hb dX4_doesAll_55 (by decide) ?_
            refine z_put (w2 := modW G a u_4.1 (nup u_4.2 7 1)) hx hb hts hinX4 tyX4 tyX4_ok nmX4 hown hKK hP hD hS 0 (ci := 4) (C := RX4) (T := TX4) (N := 17) rfl rfl 14 (by decide) fl_156 rfl rfl rfl (Nat.le_of_ble_eq_true rfl) rfl dX4_doesAll_56 (fun H locs hP hD hS => ?_)
            refine lv_aload_n hx hb dX4_doesAll_59 rfl (lv_at hl 1 rfl) ?_
            refine lv_aload_n hx hb dX4_doesAll_60 rfl (lv_at hl 1 rfl) ?_
            refine va_get (D := G.1) (ci := 4) (v := .int (nI (u_4.2 4))) (C := RX4) (T := TX4) (N := 17) hx hb hts hinX4 hown hKK.1 hP 0 rfl rfl 10 (by decide) fl_134 (fun _ h9 => h9) rfl dX4_doesAll_61 ?_
            refine lv_aload_n hx hb dX4_doesAll_64 rfl (lv_at hl 1 rfl) ?_
            refine va_get (D := G.1) (ci := 4) (v := .int (nI (u_4.2 9))) (C := RX4) (T := TX4) (N := 17) hx hb hts hinX4 hown hKK.1 hP 0 rfl rfl 16 (by decide) fl_159 (fun _ h9 => h9) rfl dX4_doesAll_65 ?_
            refine z_sub (v := nI (u_4.2 4 - u_4.2 9)) hx hb dX4_doesAll_68 (pk_sub hb1.2) ?_
            refine z_put (w2 := modW G a u_4.1 (nup (nup u_4.2 7 1) 8 (u_4.2 4 - u_4.2 9))) hx hb hts hinX4 tyX4 tyX4_ok nmX4 hown hKK hP hD hS 0 (ci := 4) (C := RX4) (T := TX4) (N := 17) rfl rfl 15 (by decide) fl_165 rfl rfl rfl (Nat.le_of_ble_eq_true rfl) rfl dX4_doesAll_69 (fun H locs hP hD hS => ?_)
            refine lv_goto (tgt := 119) hx hb dX4_doesAll_72 (by decide) ?_
            refine lv_goto (tgt := 12) hx hb dX4_doesAll_119 (by decide) ?_
            have hM9 : daM tl (nup (nup u_4.2 7 1) 8 (u_4.2 4 - u_4.2 9)) = 0 := daM_0 (by show ¬ 1 = 0; decide)
            have hM8 := daM_1 (tl := tl) h70
            exact ih_1 n u_4.1 (nup (nup u_4.2 7 1) 8 (u_4.2 4 - u_4.2 9)) hb1.1 (by omega) _ _ _ hP hD hS (lv_sub hl [1, 2] rfl)
          · skip
            refine z_callVIE (As := []) (rest := []) (wr := []) (C := RX4) F (c_X4_reads l G a V (nup Y 9 (Y 4)) hdg9 (show Y 4 ≤ 60 by omega) tl hYL hL6 hT3) (cwV 0 hts gX4_doesAll_X4_reads rfl rfl rfl (by decide +kernel) ⟨Nat.le_of_ble_eq_true rfl, Nat.le_of_ble_eq_true rfl⟩) hKK (z_recv hKK hP (q0 := 0) (ci := 4) rfl rfl) hP hD hS hA rfl hl.1 rfl (Nat.le_of_ble_eq_true rfl) ⟨Nat.zero_le _, Nat.zero_le _⟩ dX4_doesAll_48 (fun r_6 u_6 H locs hq_6 hP hD hS => ?_)
            have hp4 : prs (sgT (V 3) tl) ((nup Y 9 (Y 4)) 4) = (q, some (d0, d1, k, wd)) := hpr
            have hrr : r_6 = bI true := by have := hq_6.2.2.2.2.1; rw [hp4] at this; exact this
            have hrd := hq_6
            have hrk := da_rd hI hrd
            subst hrr
            have hdg9 := da_digits hpr hrd
            have hz3 := rngF_le hrg
            have hP : va_P G.1 vwCl (modW G a u_6.1 u_6.2) H := hP
            have hD : va_D A (modW G a u_6.1 u_6.2) := hD
            refine z_ifBne (tgt := 75) hx hb dX4_doesAll_51 (by decide) (fun c_7 => ?_) (fun c_7 => absurd c_7 (by decide))
            refine lv_aload_n hx hb dX4_doesAll_75 rfl (lv_at hl 1 rfl) ?_
            refine lv_iload_n hx hb dX4_doesAll_76 rfl (lv_at hl 0 rfl) ?_
            refine z_callVI (As := [.int (nI (sgT (V 3) tl (Y 4)))]) (rest := []) (wr := []) (C := RX4) F (c_X4_wrong_g l G a u_6.1 u_6.2 (sgT (V 3) tl (Y 4)) d0 d1 k (sgT_lt hT3 hL6 _) hdg9 (some z) hrg) (cwV 1 hts gX4_doesAll_X4_wrong rfl rfl rfl (by decide +kernel) ⟨Nat.le_of_ble_eq_true rfl, Nat.le_of_ble_eq_true rfl⟩) hKK (z_recv hKK hP (q0 := 0) (ci := 4) rfl rfl) hP hD hS hA rfl hl.1 rfl (Nat.le_of_ble_eq_true rfl) ⟨Nat.zero_le _, Nat.zero_le _⟩ dX4_doesAll_77 (fun H locs hP hD hS => ?_)
            have hP : va_P G.1 vwCl (modW G a u_6.1 u_6.2) H := hP
            have hD : va_D A (modW G a u_6.1 u_6.2) := hD
            refine z_top (v := nI z) rfl ?_
            refine z_ifNlt (tgt := 100) hx hb dX4_doesAll_80 (by decide) (by omega) (fun c_8 => absurd c_8 (Nat.not_lt_zero _)) (fun c_8 => ?_)
            refine lv_aload_n hx hb dX4_doesAll_83 rfl (lv_at hl 1 rfl) ?_
            refine lv_iconst (v := nI 2) hx hb dX4_doesAll_84 (by decide) ?_
            refine z_put (w2 := modW G a u_6.1 (nup u_6.2 7 2)) hx hb hts hinX4 tyX4 tyX4_ok nmX4 hown hKK hP hD hS 0 (ci := 4) (C := RX4) (T := TX4) (N := 17) rfl rfl 14 (by decide) fl_156 rfl rfl rfl (Nat.le_of_ble_eq_true rfl) rfl dX4_doesAll_85 (fun H locs hP hD hS => ?_)
            refine lv_aload_n hx hb dX4_doesAll_88 rfl (lv_at hl 1 rfl) ?_
            refine lv_aload_n hx hb dX4_doesAll_89 rfl (lv_at hl 1 rfl) ?_
            refine lv_iload_n hx hb dX4_doesAll_90 rfl (lv_at hl 0 rfl) ?_
            refine z_callVI (As := [.int (nI (sgT (V 3) tl (Y 4)))]) (rest := [.ref (a 0)]) (wr := []) (C := RX4) F (c_X4_wrong_g l G a u_6.1 (nup u_6.2 7 2) (sgT (V 3) tl (Y 4)) d0 d1 k (sgT_lt hT3 hL6 _) hdg9 (some z) hrg) (cwV 1 hts gX4_doesAll_X4_wrong rfl rfl rfl (by decide +kernel) ⟨Nat.le_of_ble_eq_true rfl, Nat.le_of_ble_eq_true rfl⟩) hKK (z_recv hKK hP (q0 := 0) (ci := 4) rfl rfl) hP hD hS hA rfl hl.1 rfl (Nat.le_of_ble_eq_true rfl) ⟨Nat.zero_le _, Nat.zero_le _⟩ dX4_doesAll_91 (fun H locs hP hD hS => ?_)
            have hP : va_P G.1 vwCl (modW G a u_6.1 (nup u_6.2 7 2)) H := hP
            have hD : va_D A (modW G a u_6.1 (nup u_6.2 7 2)) := hD
            refine z_top (v := nI z) rfl ?_
            refine z_put (w2 := modW G a u_6.1 (nup (nup u_6.2 7 2) 8 z)) hx hb hts hinX4 tyX4 tyX4_ok nmX4 hown hKK hP hD hS 0 (ci := 4) (C := RX4) (T := TX4) (N := 17) rfl rfl 15 (by decide) fl_165 rfl rfl rfl (Nat.le_of_ble_eq_true rfl) rfl dX4_doesAll_94 (fun H locs hP hD hS => ?_)
            refine lv_goto (tgt := 119) hx hb dX4_doesAll_97 (by decide) ?_
            refine lv_goto (tgt := 12) hx hb dX4_doesAll_119 (by decide) ?_
            have hM9 : daM tl (nup (nup u_6.2 7 2) 8 z) = 0 := daM_0 (by show ¬ 2 = 0; decide)
            have hM8 := daM_1 (tl := tl) h70
            exact ih_1 n u_6.1 (nup (nup u_6.2 7 2) 8 z) (da_b2 hI hrun hL6 hlt hpr hrg hrd) (by omega) _ _ _ hP hD hS (lv_sub hl [1, 2] rfl)
          · skip
            refine z_callVIE (As := []) (rest := []) (wr := []) (C := RX4) F (c_X4_reads l G a V (nup Y 9 (Y 4)) hdg9 (show Y 4 ≤ 60 by omega) tl hYL hL6 hT3) (cwV 0 hts gX4_doesAll_X4_reads rfl rfl rfl (by decide +kernel) ⟨Nat.le_of_ble_eq_true rfl, Nat.le_of_ble_eq_true rfl⟩) hKK (z_recv hKK hP (q0 := 0) (ci := 4) rfl rfl) hP hD hS hA rfl hl.1 rfl (Nat.le_of_ble_eq_true rfl) ⟨Nat.zero_le _, Nat.zero_le _⟩ dX4_doesAll_48 (fun r_9 u_9 H locs hq_9 hP hD hS => ?_)
            have hp4 : prs (sgT (V 3) tl) ((nup Y 9 (Y 4)) 4) = (q, some (d0, d1, k, wd)) := hpr
            have hrr : r_9 = bI true := by have := hq_9.2.2.2.2.1; rw [hp4] at this; exact this
            have hrd := hq_9
            have hrk := da_rd hI hrd
            subst hrr
            have hdg9 := da_digits hpr hrd
            have hask := da_ask hpr hrg hrd
            have hP : va_P G.1 vwCl (modW G a u_9.1 u_9.2) H := hP
            have hD : va_D A (modW G a u_9.1 u_9.2) := hD
            refine z_ifBne (tgt := 75) hx hb dX4_doesAll_51 (by decide) (fun c_10 => ?_) (fun c_10 => absurd c_10 (by decide))
            refine lv_aload_n hx hb dX4_doesAll_75 rfl (lv_at hl 1 rfl) ?_
            refine lv_iload_n hx hb dX4_doesAll_76 rfl (lv_at hl 0 rfl) ?_
            refine z_callVI (As := [.int (nI (sgT (V 3) tl (Y 4)))]) (rest := []) (wr := []) (C := RX4) F (c_X4_wrong_g l G a u_9.1 u_9.2 (sgT (V 3) tl (Y 4)) d0 d1 k (sgT_lt hT3 hL6 _) hdg9 none hrg) (cwV 1 hts gX4_doesAll_X4_wrong rfl rfl rfl (by decide +kernel) ⟨Nat.le_of_ble_eq_true rfl, Nat.le_of_ble_eq_true rfl⟩) hKK (z_recv hKK hP (q0 := 0) (ci := 4) rfl rfl) hP hD hS hA rfl hl.1 rfl (Nat.le_of_ble_eq_true rfl) ⟨Nat.zero_le _, Nat.zero_le _⟩ dX4_doesAll_77 (fun H locs hP hD hS => ?_)
            have hP : va_P G.1 vwCl (modW G a u_9.1 u_9.2) H := hP
            have hD : va_D A (modW G a u_9.1 u_9.2) := hD
            refine z_top (v := (-1)) rfl ?_
            refine lv_if_lt (tgt := 100) hx hb dX4_doesAll_80 (by decide) (fun c_11 => ?_) (fun c_11 => absurd c_11 (by decide))
            refine lv_aload_n hx hb dX4_doesAll_100 rfl (lv_at hl 1 rfl) ?_
            refine lv_iload_n hx hb dX4_doesAll_101 rfl (lv_at hl 0 rfl) ?_
            refine z_callVIE (As := [.int (nI (sgT (V 3) tl (Y 4)))]) (rest := []) (wr := []) (C := RX4) F (c_X4_does l G a u_9.1 u_9.2 (sgT (V 3) tl (Y 4)) d0 d1 wd W e9 (B + Y 4) (by rw [hrk.2.1]; exact hrun.2.2.2) hask.1 hask.2.1 hask.2.2.1 hask.2.2.2) (cwV 1 hts gX4_doesAll_X4_does rfl rfl rfl (by decide +kernel) ⟨Nat.le_of_ble_eq_true rfl, Nat.le_of_ble_eq_true rfl⟩) hKK (z_recv hKK hP (q0 := 0) (ci := 4) rfl rfl) hP hD hS hA rfl hl.1 rfl (Nat.le_of_ble_eq_true rfl) ⟨Nat.zero_le _, Nat.zero_le _⟩ dX4_doesAll_102 (fun r_12 u_12 H locs hq_12 hP hD hS => ?_)
            have hdo := hq_12
            have hr2 : r_12 = bI true := by have := hdo.1; rw [hcan] at this; exact this
            subst hr2
            have hb3 := da_b3 hI hrun hL6 hlt h70 hpr hrg hcan hrd hdo
            have hP : va_P G.1 vwCl (modW G a u_12.1 u_12.2) H := hP
            have hD : va_D A (modW G a u_12.1 u_12.2) := hD
            refine z_ifBne (tgt := 116) hx hb dX4_doesAll_105 (by decide) (fun c_13 => ?_) (fun c_13 => absurd c_13 (by decide))
            refine lv_iinc (v := nI (n + 1)) (lv' := [(1, .int (nI (n + 1))), (2, .int (nI (sgT (V 3) tl (Y 4)))), (0, .ref (a 0))]) hx hb dX4_doesAll_116 hl (k := 2) rfl (nI_1 _) (by decide) rfl (fun ls hl => ?_)
            refine lv_goto (tgt := 12) hx hb dX4_doesAll_119 (by decide) ?_
            have hM9 := daM_1 (tl := tl) hb3.2.1
            have hM8 := daM_1 (tl := tl) h70
            have hM7 := hb3.2.2
            exact ih_1 (n + 1) u_12.1 u_12.2 hb3.1 (by omega) _ _ _ hP hD hS (lv_sub hl [2, 0] rfl)
          · skip
            refine z_callVIE (As := []) (rest := []) (wr := []) (C := RX4) F (c_X4_reads l G a V (nup Y 9 (Y 4)) hdg9 (show Y 4 ≤ 60 by omega) tl hYL hL6 hT3) (cwV 0 hts gX4_doesAll_X4_reads rfl rfl rfl (by decide +kernel) ⟨Nat.le_of_ble_eq_true rfl, Nat.le_of_ble_eq_true rfl⟩) hKK (z_recv hKK hP (q0 := 0) (ci := 4) rfl rfl) hP hD hS hA rfl hl.1 rfl (Nat.le_of_ble_eq_true rfl) ⟨Nat.zero_le _, Nat.zero_le _⟩ dX4_doesAll_48 (fun r_14 u_14 H locs hq_14 hP hD hS => ?_)
            have hp4 : prs (sgT (V 3) tl) ((nup Y 9 (Y 4)) 4) = (q, some (d0, d1, k, wd)) := hpr
            have hrr : r_14 = bI true := by have := hq_14.2.2.2.2.1; rw [hp4] at this; exact this
            have hrd := hq_14
            have hrk := da_rd hI hrd
            subst hrr
            have hdg9 := da_digits hpr hrd
            have hask := da_ask hpr hrg hrd
            have hP : va_P G.1 vwCl (modW G a u_14.1 u_14.2) H := hP
            have hD : va_D A (modW G a u_14.1 u_14.2) := hD
            refine z_ifBne (tgt := 75) hx hb dX4_doesAll_51 (by decide) (fun c_15 => ?_) (fun c_15 => absurd c_15 (by decide))
            refine lv_aload_n hx hb dX4_doesAll_75 rfl (lv_at hl 1 rfl) ?_
            refine lv_iload_n hx hb dX4_doesAll_76 rfl (lv_at hl 0 rfl) ?_
            refine z_callVI (As := [.int (nI (sgT (V 3) tl (Y 4)))]) (rest := []) (wr := []) (C := RX4) F (c_X4_wrong_g l G a u_14.1 u_14.2 (sgT (V 3) tl (Y 4)) d0 d1 k (sgT_lt hT3 hL6 _) hdg9 none hrg) (cwV 1 hts gX4_doesAll_X4_wrong rfl rfl rfl (by decide +kernel) ⟨Nat.le_of_ble_eq_true rfl, Nat.le_of_ble_eq_true rfl⟩) hKK (z_recv hKK hP (q0 := 0) (ci := 4) rfl rfl) hP hD hS hA rfl hl.1 rfl (Nat.le_of_ble_eq_true rfl) ⟨Nat.zero_le _, Nat.zero_le _⟩ dX4_doesAll_77 (fun H locs hP hD hS => ?_)
            have hP : va_P G.1 vwCl (modW G a u_14.1 u_14.2) H := hP
            have hD : va_D A (modW G a u_14.1 u_14.2) := hD
            refine z_top (v := (-1)) rfl ?_
            refine lv_if_lt (tgt := 100) hx hb dX4_doesAll_80 (by decide) (fun c_16 => ?_) (fun c_16 => absurd c_16 (by decide))
            refine lv_aload_n hx hb dX4_doesAll_100 rfl (lv_at hl 1 rfl) ?_
            refine lv_iload_n hx hb dX4_doesAll_101 rfl (lv_at hl 0 rfl) ?_
            refine z_callVIE (As := [.int (nI (sgT (V 3) tl (Y 4)))]) (rest := []) (wr := []) (C := RX4) F (c_X4_does l G a u_14.1 u_14.2 (sgT (V 3) tl (Y 4)) d0 d1 wd W e9 (B + Y 4) (by rw [hrk.2.1]; exact hrun.2.2.2) hask.1 hask.2.1 hask.2.2.1 hask.2.2.2) (cwV 1 hts gX4_doesAll_X4_does rfl rfl rfl (by decide +kernel) ⟨Nat.le_of_ble_eq_true rfl, Nat.le_of_ble_eq_true rfl⟩) hKK (z_recv hKK hP (q0 := 0) (ci := 4) rfl rfl) hP hD hS hA rfl hl.1 rfl (Nat.le_of_ble_eq_true rfl) ⟨Nat.zero_le _, Nat.zero_le _⟩ dX4_doesAll_102 (fun r_17 u_17 H locs hq_17 hP hD hS => ?_)
            have hdo := hq_17
            have hr2 : r_17 = bI false := by have := hdo.1; rw [hcan] at this; exact this
            subst hr2
            have hb4 := da_b4 hI hrun hL6 hlt hpr hrg hcan hrd hdo
            have hP : va_P G.1 vwCl (modW G a u_17.1 u_17.2) H := hP
            have hD : va_D A (modW G a u_17.1 u_17.2) := hD
            refine z_ifBne (tgt := 116) hx hb dX4_doesAll_105 (by decide) (fun c_18 => absurd c_18 (by decide)) (fun c_18 => ?_)
            refine lv_aload_n hx hb dX4_doesAll_108 rfl (lv_at hl 1 rfl) ?_
            refine lv_iconst (v := nI 3) hx hb dX4_doesAll_109 (by decide) ?_
            refine z_put (w2 := modW G a u_17.1 (nup u_17.2 7 3)) hx hb hts hinX4 tyX4 tyX4_ok nmX4 hown hKK hP hD hS 0 (ci := 4) (C := RX4) (T := TX4) (N := 17) rfl rfl 14 (by decide) fl_156 rfl rfl rfl (Nat.le_of_ble_eq_true rfl) rfl dX4_doesAll_110 (fun H locs hP hD hS => ?_)
            refine lv_goto (tgt := 119) hx hb dX4_doesAll_113 (by decide) ?_
            refine lv_goto (tgt := 12) hx hb dX4_doesAll_119 (by decide) ?_
            have hM9 : daM tl (nup u_17.2 7 3) = 0 := daM_0 (by show ¬ 3 = 0; decide)
            have hM8 := daM_1 (tl := tl) h70
            exact ih_1 n u_17.1 (nup u_17.2 7 3) hb4 (by omega) _ _ _ hP hD hS (lv_sub hl [1, 2] rfl)
  exact key_1 _ 0 v (nup (nup y 4 0) 7 0) (da_0 hR hdg hL6) (Nat.lt_succ_self _) _ _ _ hP hD hS (lv_sub hl [1, 0] rfl)
