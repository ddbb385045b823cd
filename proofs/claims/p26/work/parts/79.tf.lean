section WF
variable {v : Mem} {e B : Nat} {x : Int32}
theorem wfn_neg {k : Nat} (h : zSta v e x = -nI k) (h1 : 1 ≤ k) (h4 : k ≤ 4) : whyA v e x = nI k ∧ folA v e x = -1000005 ∧ namA v e x = -1000005 := by
  obtain ⟨a, b⟩ := neg_k h1 h4
  rw [whyA, folA, namA, h, if_pos a, if_pos a, if_pos a]
  exact ⟨b, rfl, rfl⟩
theorem wfn_pos (hv : okV v e B) (hB : B < 10000) {n : Nat} (hn : n < 40) (h : zSta v e x = nI n) : whyA v e x = nI 0 ∧ folA v e x = nI (tgK v e n) ∧ namA v e x = v 0 n := by
  have h9 : ¬ nI n < 0 := nI_pos (by omega)
  rw [whyA, folA, namA, h, if_neg h9, if_neg h9, if_neg h9, nI_clamp (by omega)]
  exact ⟨rfl, tag_is hv hB hn, rfl⟩
end WF

set_option maxHeartbeats 4000000 in
set_option maxRecDepth 100000 in
theorem c_L_tagsFit_neg (l : Launch) (G : ZG) (o : Nat) (w : va_W) (v : Mem) (e B : Nat) (hQ : QS l G o w v e) (hX : okX v e B) (hB : B < 10000) (x : Int32) (hx0 : x < 0) (hw : whyA v e x = nI 1) (hf : folA v e x = -1000005) (hnm : namA v e x = -1000005) : CI l G yL_tagsFit wsL_tagsFit (zRm 3 70) [.ref o, .int x] w (nI 1) w := by
  refine CI.ent (cc := cL_tagsFit) (maxL := 6) (ty := .boolean) (own := RL) (by decide) rfl rfl (Nat.le_of_ble_eq_true rfl) ?_
  intro p ee s m args below meth c A ls F hr hlk hKK hP hD hA hS hl
  obtain ⟨hx, hb, hml, hown, hts⟩ := id F
  have hl : lv_has ls 6 [(0, .ref o), (1, .int x)] := hl
  obtain ⟨⟨fs, hw0⟩, q_cnt, q_num, q_cel, q_cmp, q_cm3, q_fnd, q_why, q_fol, q_nam, q_beg, q_wb, q_nat, q_bh⟩ := id hQ
  have hv := hX.1
  have hC := hX.2.1
  have he9 := hv.1.2
  refine lv_aload_n hx hb dL_tagsFit_0 rfl (lv_at hl 0 rfl) ?_
  refine lv_iload_n hx hb dL_tagsFit_1 rfl (lv_at hl 1 rfl) ?_
  refine z_qV (As := [.int x]) (rest := []) F (q_why _) (cwV 1 hts gL_tagsFit_X3_why rfl rfl rfl (by decide +kernel) ⟨Nat.le_of_ble_eq_true rfl, Nat.le_of_ble_eq_true rfl⟩) hKK hw0 hP hD hS hA rfl hl.1 rfl (Nat.le_of_ble_eq_true rfl) ⟨Nat.zero_le _, Nat.zero_le _⟩ dL_tagsFit_2 (fun H locs hP hD hS => ?_)
  refine z_top (v := nI 1) hw ?_
  refine lv_istore_n (lv' := [(2, .int (nI 1)), (0, .ref o), (1, .int x)]) hx hb dL_tagsFit_5 rfl hl (by decide) rfl (fun ls hl => ?_)
  refine lv_aload_n hx hb dL_tagsFit_6 rfl (lv_at hl 1 rfl) ?_
  refine lv_iload_n hx hb dL_tagsFit_7 rfl (lv_at hl 2 rfl) ?_
  refine z_qV (As := [.int x]) (rest := []) F (q_fol _) (cwV 1 hts gL_tagsFit_X3_follow rfl rfl rfl (by decide +kernel) ⟨Nat.le_of_ble_eq_true rfl, Nat.le_of_ble_eq_true rfl⟩) hKK hw0 hP hD hS hA rfl hl.1 rfl (Nat.le_of_ble_eq_true rfl) ⟨Nat.zero_le _, Nat.zero_le _⟩ dL_tagsFit_8 (fun H locs hP hD hS => ?_)
  refine z_top (v := (-1000005)) hf ?_
  refine lv_istore_n (lv' := [(3, .int (-1000005)), (2, .int (nI 1)), (0, .ref o), (1, .int x)]) hx hb dL_tagsFit_11 rfl hl (by decide) rfl (fun ls hl => ?_)
  refine lv_iload_n hx hb dL_tagsFit_12 rfl (lv_at hl 3 rfl) ?_
  refine lv_if_lt (tgt := 37) hx hb dL_tagsFit_13 (by decide) (fun _ => ?_) (fun h => absurd hx0 h)
  refine lv_iconst (v := nI 1) hx hb dL_tagsFit_37 (by decide) ?_
  refine lv_goto (tgt := 42) hx hb dL_tagsFit_38 (by decide) ?_
  refine lv_istore (lv' := [(4, .int (nI 1)), (3, .int (-1000005)), (2, .int (nI 1)), (0, .ref o), (1, .int x)]) hx hb dL_tagsFit_42 hl (by decide) rfl (fun ls hl => ?_)
  refine lv_iload_n hx hb dL_tagsFit_44 rfl (lv_at hl 2 rfl) ?_
  refine lv_if_lt (tgt := 103) hx hb dL_tagsFit_45 (by decide) (fun h => absurd h (nI_pos (by omega))) (fun _ => ?_)
  refine lv_iload_n hx hb dL_tagsFit_48 rfl (lv_at hl 2 rfl) ?_
  refine lv_iconst (v := nI 4) hx hb dL_tagsFit_49 (by decide) ?_
  refine lv_icmp_gt (tgt := 103) hx hb dL_tagsFit_50 (by decide) (fun h => absurd h (nI_nlt (show 1 ≤ 4 by omega) (by omega))) (fun _ => ?_)
  refine lv_iload_n hx hb dL_tagsFit_53 rfl (lv_at hl 2 rfl) ?_
  refine lv_iconst (v := nI 1) hx hb dL_tagsFit_54 (by decide) ?_
  refine lv_icmp_ne (tgt := 62) hx hb dL_tagsFit_55 (by decide) (fun h => absurd h (fun z => z rfl)) (fun _ => ?_)
  refine lv_iconst (v := nI 1) hx hb dL_tagsFit_58 (by decide) ?_
  refine lv_goto (tgt := 63) hx hb dL_tagsFit_59 (by decide) ?_
  refine lv_iload hx hb dL_tagsFit_63 (lv_at hl 0 rfl) ?_
  refine lv_icmp_ne (tgt := 103) hx hb dL_tagsFit_65 (by decide) (fun h => absurd h (fun z => z rfl)) (fun _ => ?_)
  refine lv_iload_n hx hb dL_tagsFit_68 rfl (lv_at hl 2 rfl) ?_
  refine lv_if_ne (tgt := 76) hx hb dL_tagsFit_69 (by decide) (fun _ => ?_) (fun h => absurd h (nI_ne0 (by omega) (by omega)))
  refine lv_iconst (v := nI 0) hx hb dL_tagsFit_76 (by decide) ?_
  refine lv_iload_n hx hb dL_tagsFit_77 rfl (lv_at hl 1 rfl) ?_
  refine lv_if_lt (tgt := 85) hx hb dL_tagsFit_78 (by decide) (fun _ => ?_) (fun h => absurd (by decide) h)
  refine lv_iconst (v := nI 0) hx hb dL_tagsFit_85 (by decide) ?_
  refine lv_icmp_ne (tgt := 103) hx hb dL_tagsFit_86 (by decide) (fun h => absurd h (fun z => z rfl)) (fun _ => ?_)
  refine lv_iload_n hx hb dL_tagsFit_89 rfl (lv_at hl 1 rfl) ?_
  refine lv_if_ge (tgt := 99) hx hb dL_tagsFit_90 (by decide) (fun h => absurd h (by decide)) (fun _ => ?_)
  refine lv_iload_n hx hb dL_tagsFit_93 rfl (lv_at hl 1 rfl) ?_
  refine z_ldc (v := (-1000005)) (v' := (-1000005)) hx hb hown (hts (.constant RL 16 (-1000005)) (by decide +kernel)) dL_tagsFit_94 rfl ?_
  refine lv_icmp_ne (tgt := 103) hx hb dL_tagsFit_96 (by decide) (fun h => absurd h (fun z => z rfl)) (fun _ => ?_)
  refine lv_iconst (v := nI 1) hx hb dL_tagsFit_99 (by decide) ?_
  refine lv_goto (tgt := 104) hx hb dL_tagsFit_100 (by decide) ?_
  refine lv_istore (lv' := [(5, .int (nI 1)), (4, .int (nI 1)), (3, .int (-1000005)), (2, .int (nI 1)), (0, .ref o), (1, .int x)]) hx hb dL_tagsFit_104 hl (by decide) rfl (fun ls hl => ?_)
  refine lv_iload hx hb dL_tagsFit_106 (lv_at hl 0 rfl) ?_
  refine lv_if_eq (tgt := 182) hx hb dL_tagsFit_108 (by decide) (fun h => absurd h (by decide)) (fun _ => ?_)
  refine lv_aload_n hx hb dL_tagsFit_111 rfl (lv_at hl 4 rfl) ?_
  refine lv_iload_n hx hb dL_tagsFit_112 rfl (lv_at hl 5 rfl) ?_
  refine z_qV (As := [.int x]) (rest := []) F (q_nam _) (cwV 1 hts gL_tagsFit_X3_nameOf rfl rfl rfl (by decide +kernel) ⟨Nat.le_of_ble_eq_true rfl, Nat.le_of_ble_eq_true rfl⟩) hKK hw0 hP hD hS hA rfl hl.1 rfl (Nat.le_of_ble_eq_true rfl) ⟨Nat.zero_le _, Nat.zero_le _⟩ dL_tagsFit_113 (fun H locs hP hD hS => ?_)
  refine z_top (v := (-1000005)) hnm ?_
  refine lv_if_lt (tgt := 123) hx hb dL_tagsFit_116 (by decide) (fun _ => ?_) (fun h => absurd (by decide) h)
  refine lv_iconst (v := nI 0) hx hb dL_tagsFit_123 (by decide) ?_
  refine lv_iload_n hx hb dL_tagsFit_124 rfl (lv_at hl 3 rfl) ?_
  refine lv_if_ne (tgt := 132) hx hb dL_tagsFit_125 (by decide) (fun _ => ?_) (fun h => absurd h (nI_ne0 (by omega) (by omega)))
  refine lv_iconst (v := nI 0) hx hb dL_tagsFit_132 (by decide) ?_
  refine lv_icmp_ne (tgt := 182) hx hb dL_tagsFit_133 (by decide) (fun h => absurd h (fun z => z rfl)) (fun _ => ?_)
  refine lv_iload hx hb dL_tagsFit_136 (lv_at hl 1 rfl) ?_
  refine lv_if_ne (tgt := 178) hx hb dL_tagsFit_138 (by decide) (fun _ => ?_) (fun h => absurd h (by decide))
  refine lv_iconst (v := nI 1) hx hb dL_tagsFit_178 (by decide) ?_
  refine lv_goto (tgt := 183) hx hb dL_tagsFit_179 (by decide) ?_
  refine lv_istore (lv' := [(5, .int (nI 1)), (4, .int (nI 1)), (3, .int (-1000005)), (2, .int (nI 1)), (0, .ref o), (1, .int x)]) hx hb dL_tagsFit_183 hl (by decide) rfl (fun ls hl => ?_)
  refine lv_iload hx hb dL_tagsFit_185 (lv_at hl 0 rfl) ?_
  refine lv_if_eq (tgt := 242) hx hb dL_tagsFit_187 (by decide) (fun h => absurd h (by decide)) (fun _ => ?_)
  refine lv_iload_n hx hb dL_tagsFit_190 rfl (lv_at hl 3 rfl) ?_
  refine lv_if_ne (tgt := 228) hx hb dL_tagsFit_191 (by decide) (fun _ => ?_) (fun h => absurd h (nI_ne0 (by omega) (by omega)))
  refine lv_iload_n hx hb dL_tagsFit_228 rfl (lv_at hl 3 rfl) ?_
  refine lv_iconst (v := nI 4) hx hb dL_tagsFit_229 (by decide) ?_
  refine lv_icmp_ne (tgt := 238) hx hb dL_tagsFit_230 (by decide) (fun _ => ?_) (fun h => absurd h (by decide))
  refine lv_iconst (v := nI 1) hx hb dL_tagsFit_238 (by decide) ?_
  refine lv_goto (tgt := 243) hx hb dL_tagsFit_239 (by decide) ?_
  exact z_zret hx hb hr hlk hP hD hS dL_tagsFit_243 rfl rfl rfl

set_option maxHeartbeats 4000000 in
set_option maxRecDepth 100000 in
theorem c_L_tagsFit_no (l : Launch) (G : ZG) (o : Nat) (w : va_W) (v : Mem) (e B : Nat) (hQ : QS l G o w v e) (hX : okX v e B) (hB : B < 10000) (t : Nat) (ht : t < 2 ^ 31) (hno : noTg e t) (hw : whyA v e (nI t) = nI 1) (hf : folA v e (nI t) = -1000005) (hnm : namA v e (nI t) = -1000005) : CI l G yL_tagsFit wsL_tagsFit (zRm 3 70) [.ref o, .int (nI t)] w (nI 1) w := by
  refine CI.ent (cc := cL_tagsFit) (maxL := 6) (ty := .boolean) (own := RL) (by decide) rfl rfl (Nat.le_of_ble_eq_true rfl) ?_
  intro p ee s m args below meth c A ls F hr hlk hKK hP hD hA hS hl
  obtain ⟨hx, hb, hml, hown, hts⟩ := id F
  have hl : lv_has ls 6 [(0, .ref o), (1, .int (nI t))] := hl
  obtain ⟨⟨fs, hw0⟩, q_cnt, q_num, q_cel, q_cmp, q_cm3, q_fnd, q_why, q_fol, q_nam, q_beg, q_wb, q_nat, q_bh⟩ := id hQ
  have hv := hX.1
  have hC := hX.2.1
  have he9 := hv.1.2
  refine lv_aload_n hx hb dL_tagsFit_0 rfl (lv_at hl 0 rfl) ?_
  refine lv_iload_n hx hb dL_tagsFit_1 rfl (lv_at hl 1 rfl) ?_
  refine z_qV (As := [.int (nI t)]) (rest := []) F (q_why _) (cwV 1 hts gL_tagsFit_X3_why rfl rfl rfl (by decide +kernel) ⟨Nat.le_of_ble_eq_true rfl, Nat.le_of_ble_eq_true rfl⟩) hKK hw0 hP hD hS hA rfl hl.1 rfl (Nat.le_of_ble_eq_true rfl) ⟨Nat.zero_le _, Nat.zero_le _⟩ dL_tagsFit_2 (fun H locs hP hD hS => ?_)
  refine z_top (v := nI 1) hw ?_
  refine lv_istore_n (lv' := [(2, .int (nI 1)), (0, .ref o), (1, .int (nI t))]) hx hb dL_tagsFit_5 rfl hl (by decide) rfl (fun ls hl => ?_)
  refine lv_aload_n hx hb dL_tagsFit_6 rfl (lv_at hl 1 rfl) ?_
  refine lv_iload_n hx hb dL_tagsFit_7 rfl (lv_at hl 2 rfl) ?_
  refine z_qV (As := [.int (nI t)]) (rest := []) F (q_fol _) (cwV 1 hts gL_tagsFit_X3_follow rfl rfl rfl (by decide +kernel) ⟨Nat.le_of_ble_eq_true rfl, Nat.le_of_ble_eq_true rfl⟩) hKK hw0 hP hD hS hA rfl hl.1 rfl (Nat.le_of_ble_eq_true rfl) ⟨Nat.zero_le _, Nat.zero_le _⟩ dL_tagsFit_8 (fun H locs hP hD hS => ?_)
  refine z_top (v := (-1000005)) hf ?_
  refine lv_istore_n (lv' := [(3, .int (-1000005)), (2, .int (nI 1)), (0, .ref o), (1, .int (nI t))]) hx hb dL_tagsFit_11 rfl hl (by decide) rfl (fun ls hl => ?_)
  refine lv_iload_n hx hb dL_tagsFit_12 rfl (lv_at hl 3 rfl) ?_
  refine lv_if_lt (tgt := 37) hx hb dL_tagsFit_13 (by decide) (fun h => absurd h (nI_pos (by omega))) (fun _ => ?_)
  refine lv_iload_n hx hb dL_tagsFit_16 rfl (lv_at hl 3 rfl) ?_
  refine lv_bipush (v := nI 100) hx hb dL_tagsFit_17 (by decide) ?_
  refine z_rem (v := nI (t % 100)) hx hb dL_tagsFit_19 (by decide) (pk_rem (by omega) (by decide) (by decide)) ?_
  refine lv_bipush (v := nI 39) hx hb dL_tagsFit_20 (by decide) ?_
  refine z_gt (tgt := 37) hx hb dL_tagsFit_22 (by decide) (by omega) (by omega) (fun c_a => ?_) (fun c_a => ?_)
  · skip
    refine lv_iconst (v := nI 1) hx hb dL_tagsFit_37 (by decide) ?_
    refine lv_goto (tgt := 42) hx hb dL_tagsFit_38 (by decide) ?_
    refine lv_istore (lv' := [(4, .int (nI 1)), (3, .int (-1000005)), (2, .int (nI 1)), (0, .ref o), (1, .int (nI t))]) hx hb dL_tagsFit_42 hl (by decide) rfl (fun ls hl => ?_)
    refine lv_iload_n hx hb dL_tagsFit_44 rfl (lv_at hl 2 rfl) ?_
    refine lv_if_lt (tgt := 103) hx hb dL_tagsFit_45 (by decide) (fun h => absurd h (nI_pos (by omega))) (fun _ => ?_)
    refine lv_iload_n hx hb dL_tagsFit_48 rfl (lv_at hl 2 rfl) ?_
    refine lv_iconst (v := nI 4) hx hb dL_tagsFit_49 (by decide) ?_
    refine lv_icmp_gt (tgt := 103) hx hb dL_tagsFit_50 (by decide) (fun h => absurd h (nI_nlt (show 1 ≤ 4 by omega) (by omega))) (fun _ => ?_)
    refine lv_iload_n hx hb dL_tagsFit_53 rfl (lv_at hl 2 rfl) ?_
    refine lv_iconst (v := nI 1) hx hb dL_tagsFit_54 (by decide) ?_
    refine lv_icmp_ne (tgt := 62) hx hb dL_tagsFit_55 (by decide) (fun h => absurd h (fun z => z rfl)) (fun _ => ?_)
    refine lv_iconst (v := nI 1) hx hb dL_tagsFit_58 (by decide) ?_
    refine lv_goto (tgt := 63) hx hb dL_tagsFit_59 (by decide) ?_
    refine lv_iload hx hb dL_tagsFit_63 (lv_at hl 0 rfl) ?_
    refine lv_icmp_ne (tgt := 103) hx hb dL_tagsFit_65 (by decide) (fun h => absurd h (fun z => z rfl)) (fun _ => ?_)
    refine lv_iload_n hx hb dL_tagsFit_68 rfl (lv_at hl 2 rfl) ?_
    refine lv_if_ne (tgt := 76) hx hb dL_tagsFit_69 (by decide) (fun _ => ?_) (fun h => absurd h (nI_ne0 (by omega) (by omega)))
    refine lv_iconst (v := nI 0) hx hb dL_tagsFit_76 (by decide) ?_
    refine lv_iload_n hx hb dL_tagsFit_77 rfl (lv_at hl 1 rfl) ?_
    refine lv_if_lt (tgt := 85) hx hb dL_tagsFit_78 (by decide) (fun _ => ?_) (fun h => absurd (by decide) h)
    refine lv_iconst (v := nI 0) hx hb dL_tagsFit_85 (by decide) ?_
    refine lv_icmp_ne (tgt := 103) hx hb dL_tagsFit_86 (by decide) (fun h => absurd h (fun z => z rfl)) (fun _ => ?_)
    refine lv_iload_n hx hb dL_tagsFit_89 rfl (lv_at hl 1 rfl) ?_
    refine lv_if_ge (tgt := 99) hx hb dL_tagsFit_90 (by decide) (fun h => absurd h (by decide)) (fun _ => ?_)
    refine lv_iload_n hx hb dL_tagsFit_93 rfl (lv_at hl 1 rfl) ?_
    refine z_ldc (v := (-1000005)) (v' := (-1000005)) hx hb hown (hts (.constant RL 16 (-1000005)) (by decide +kernel)) dL_tagsFit_94 rfl ?_
    refine lv_icmp_ne (tgt := 103) hx hb dL_tagsFit_96 (by decide) (fun h => absurd h (fun z => z rfl)) (fun _ => ?_)
    refine lv_iconst (v := nI 1) hx hb dL_tagsFit_99 (by decide) ?_
    refine lv_goto (tgt := 104) hx hb dL_tagsFit_100 (by decide) ?_
    refine lv_istore (lv' := [(5, .int (nI 1)), (4, .int (nI 1)), (3, .int (-1000005)), (2, .int (nI 1)), (0, .ref o), (1, .int (nI t))]) hx hb dL_tagsFit_104 hl (by decide) rfl (fun ls hl => ?_)
    refine lv_iload hx hb dL_tagsFit_106 (lv_at hl 0 rfl) ?_
    refine lv_if_eq (tgt := 182) hx hb dL_tagsFit_108 (by decide) (fun h => absurd h (by decide)) (fun _ => ?_)
    refine lv_aload_n hx hb dL_tagsFit_111 rfl (lv_at hl 4 rfl) ?_
    refine lv_iload_n hx hb dL_tagsFit_112 rfl (lv_at hl 5 rfl) ?_
    refine z_qV (As := [.int (nI t)]) (rest := []) F (q_nam _) (cwV 1 hts gL_tagsFit_X3_nameOf rfl rfl rfl (by decide +kernel) ⟨Nat.le_of_ble_eq_true rfl, Nat.le_of_ble_eq_true rfl⟩) hKK hw0 hP hD hS hA rfl hl.1 rfl (Nat.le_of_ble_eq_true rfl) ⟨Nat.zero_le _, Nat.zero_le _⟩ dL_tagsFit_113 (fun H locs hP hD hS => ?_)
    refine z_top (v := (-1000005)) hnm ?_
    refine lv_if_lt (tgt := 123) hx hb dL_tagsFit_116 (by decide) (fun _ => ?_) (fun h => absurd (by decide) h)
    refine lv_iconst (v := nI 0) hx hb dL_tagsFit_123 (by decide) ?_
    refine lv_iload_n hx hb dL_tagsFit_124 rfl (lv_at hl 3 rfl) ?_
    refine lv_if_ne (tgt := 132) hx hb dL_tagsFit_125 (by decide) (fun _ => ?_) (fun h => absurd h (nI_ne0 (by omega) (by omega)))
    refine lv_iconst (v := nI 0) hx hb dL_tagsFit_132 (by decide) ?_
    refine lv_icmp_ne (tgt := 182) hx hb dL_tagsFit_133 (by decide) (fun h => absurd h (fun z => z rfl)) (fun _ => ?_)
    refine lv_iload hx hb dL_tagsFit_136 (lv_at hl 1 rfl) ?_
    refine lv_if_ne (tgt := 178) hx hb dL_tagsFit_138 (by decide) (fun _ => ?_) (fun h => absurd h (by decide))
    refine lv_iconst (v := nI 1) hx hb dL_tagsFit_178 (by decide) ?_
    refine lv_goto (tgt := 183) hx hb dL_tagsFit_179 (by decide) ?_
    refine lv_istore (lv' := [(5, .int (nI 1)), (4, .int (nI 1)), (3, .int (-1000005)), (2, .int (nI 1)), (0, .ref o), (1, .int (nI t))]) hx hb dL_tagsFit_183 hl (by decide) rfl (fun ls hl => ?_)
    refine lv_iload hx hb dL_tagsFit_185 (lv_at hl 0 rfl) ?_
    refine lv_if_eq (tgt := 242) hx hb dL_tagsFit_187 (by decide) (fun h => absurd h (by decide)) (fun _ => ?_)
    refine lv_iload_n hx hb dL_tagsFit_190 rfl (lv_at hl 3 rfl) ?_
    refine lv_if_ne (tgt := 228) hx hb dL_tagsFit_191 (by decide) (fun _ => ?_) (fun h => absurd h (nI_ne0 (by omega) (by omega)))
    refine lv_iload_n hx hb dL_tagsFit_228 rfl (lv_at hl 3 rfl) ?_
    refine lv_iconst (v := nI 4) hx hb dL_tagsFit_229 (by decide) ?_
    refine lv_icmp_ne (tgt := 238) hx hb dL_tagsFit_230 (by decide) (fun _ => ?_) (fun h => absurd h (by decide))
    refine lv_iconst (v := nI 1) hx hb dL_tagsFit_238 (by decide) ?_
    refine lv_goto (tgt := 243) hx hb dL_tagsFit_239 (by decide) ?_
    exact z_zret hx hb hr hlk hP hD hS dL_tagsFit_243 rfl rfl rfl
  · skip
    refine lv_iload_n hx hb dL_tagsFit_25 rfl (lv_at hl 3 rfl) ?_
    refine z_ldc (v := (1000000)) (v' := nI 1000000) hx hb hown (hts (.constant RL 38 (1000000)) (by decide +kernel)) dL_tagsFit_26 rfl ?_
    refine z_div (v := nI (t / 1000000)) hx hb dL_tagsFit_28 (by decide) (pk_div (by omega) (by decide) (by decide)) ?_
    refine lv_aload_n hx hb dL_tagsFit_29 rfl (lv_at hl 2 rfl) ?_
    refine lv_iconst (v := nI 3) hx hb dL_tagsFit_30 (by decide) ?_
    refine z_qV (As := [.int (nI 3)]) (rest := [.int (nI (t / 1000000))]) F (q_cnt 3 (by omega)) (cwV 1 hts gL_tagsFit_X3_count rfl rfl rfl (by decide +kernel) ⟨Nat.le_of_ble_eq_true rfl, Nat.le_of_ble_eq_true rfl⟩) hKK hw0 hP hD hS hA rfl hl.1 rfl (Nat.le_of_ble_eq_true rfl) ⟨Nat.zero_le _, Nat.zero_le _⟩ dL_tagsFit_31 (fun H locs hP hD hS => ?_)
    refine z_top (v := nI e) rfl ?_
    refine lv_icmp_le (tgt := 41) hx hb dL_tagsFit_34 (by decide) (fun h => absurd h (fun z => by have h9 := (nI_leI (by omega) (by omega)).mp z; rcases hno with h | h <;> omega)) (fun _ => ?_)
    refine lv_iconst (v := nI 1) hx hb dL_tagsFit_37 (by decide) ?_
    refine lv_goto (tgt := 42) hx hb dL_tagsFit_38 (by decide) ?_
    refine lv_istore (lv' := [(4, .int (nI 1)), (3, .int (-1000005)), (2, .int (nI 1)), (0, .ref o), (1, .int (nI t))]) hx hb dL_tagsFit_42 hl (by decide) rfl (fun ls hl => ?_)
    refine lv_iload_n hx hb dL_tagsFit_44 rfl (lv_at hl 2 rfl) ?_
    refine lv_if_lt (tgt := 103) hx hb dL_tagsFit_45 (by decide) (fun h => absurd h (nI_pos (by omega))) (fun _ => ?_)
    refine lv_iload_n hx hb dL_tagsFit_48 rfl (lv_at hl 2 rfl) ?_
    refine lv_iconst (v := nI 4) hx hb dL_tagsFit_49 (by decide) ?_
    refine lv_icmp_gt (tgt := 103) hx hb dL_tagsFit_50 (by decide) (fun h => absurd h (nI_nlt (show 1 ≤ 4 by omega) (by omega))) (fun _ => ?_)
    refine lv_iload_n hx hb dL_tagsFit_53 rfl (lv_at hl 2 rfl) ?_
    refine lv_iconst (v := nI 1) hx hb dL_tagsFit_54 (by decide) ?_
    refine lv_icmp_ne (tgt := 62) hx hb dL_tagsFit_55 (by decide) (fun h => absurd h (fun z => z rfl)) (fun _ => ?_)
    refine lv_iconst (v := nI 1) hx hb dL_tagsFit_58 (by decide) ?_
    refine lv_goto (tgt := 63) hx hb dL_tagsFit_59 (by decide) ?_
    refine lv_iload hx hb dL_tagsFit_63 (lv_at hl 0 rfl) ?_
    refine lv_icmp_ne (tgt := 103) hx hb dL_tagsFit_65 (by decide) (fun h => absurd h (fun z => z rfl)) (fun _ => ?_)
    refine lv_iload_n hx hb dL_tagsFit_68 rfl (lv_at hl 2 rfl) ?_
    refine lv_if_ne (tgt := 76) hx hb dL_tagsFit_69 (by decide) (fun _ => ?_) (fun h => absurd h (nI_ne0 (by omega) (by omega)))
    refine lv_iconst (v := nI 0) hx hb dL_tagsFit_76 (by decide) ?_
    refine lv_iload_n hx hb dL_tagsFit_77 rfl (lv_at hl 1 rfl) ?_
    refine lv_if_lt (tgt := 85) hx hb dL_tagsFit_78 (by decide) (fun _ => ?_) (fun h => absurd (by decide) h)
    refine lv_iconst (v := nI 0) hx hb dL_tagsFit_85 (by decide) ?_
    refine lv_icmp_ne (tgt := 103) hx hb dL_tagsFit_86 (by decide) (fun h => absurd h (fun z => z rfl)) (fun _ => ?_)
    refine lv_iload_n hx hb dL_tagsFit_89 rfl (lv_at hl 1 rfl) ?_
    refine lv_if_ge (tgt := 99) hx hb dL_tagsFit_90 (by decide) (fun h => absurd h (by decide)) (fun _ => ?_)
    refine lv_iload_n hx hb dL_tagsFit_93 rfl (lv_at hl 1 rfl) ?_
    refine z_ldc (v := (-1000005)) (v' := (-1000005)) hx hb hown (hts (.constant RL 16 (-1000005)) (by decide +kernel)) dL_tagsFit_94 rfl ?_
    refine lv_icmp_ne (tgt := 103) hx hb dL_tagsFit_96 (by decide) (fun h => absurd h (fun z => z rfl)) (fun _ => ?_)
    refine lv_iconst (v := nI 1) hx hb dL_tagsFit_99 (by decide) ?_
    refine lv_goto (tgt := 104) hx hb dL_tagsFit_100 (by decide) ?_
    refine lv_istore (lv' := [(5, .int (nI 1)), (4, .int (nI 1)), (3, .int (-1000005)), (2, .int (nI 1)), (0, .ref o), (1, .int (nI t))]) hx hb dL_tagsFit_104 hl (by decide) rfl (fun ls hl => ?_)
    refine lv_iload hx hb dL_tagsFit_106 (lv_at hl 0 rfl) ?_
    refine lv_if_eq (tgt := 182) hx hb dL_tagsFit_108 (by decide) (fun h => absurd h (by decide)) (fun _ => ?_)
    refine lv_aload_n hx hb dL_tagsFit_111 rfl (lv_at hl 4 rfl) ?_
    refine lv_iload_n hx hb dL_tagsFit_112 rfl (lv_at hl 5 rfl) ?_
    refine z_qV (As := [.int (nI t)]) (rest := []) F (q_nam _) (cwV 1 hts gL_tagsFit_X3_nameOf rfl rfl rfl (by decide +kernel) ⟨Nat.le_of_ble_eq_true rfl, Nat.le_of_ble_eq_true rfl⟩) hKK hw0 hP hD hS hA rfl hl.1 rfl (Nat.le_of_ble_eq_true rfl) ⟨Nat.zero_le _, Nat.zero_le _⟩ dL_tagsFit_113 (fun H locs hP hD hS => ?_)
    refine z_top (v := (-1000005)) hnm ?_
    refine lv_if_lt (tgt := 123) hx hb dL_tagsFit_116 (by decide) (fun _ => ?_) (fun h => absurd (by decide) h)
    refine lv_iconst (v := nI 0) hx hb dL_tagsFit_123 (by decide) ?_
    refine lv_iload_n hx hb dL_tagsFit_124 rfl (lv_at hl 3 rfl) ?_
    refine lv_if_ne (tgt := 132) hx hb dL_tagsFit_125 (by decide) (fun _ => ?_) (fun h => absurd h (nI_ne0 (by omega) (by omega)))
    refine lv_iconst (v := nI 0) hx hb dL_tagsFit_132 (by decide) ?_
    refine lv_icmp_ne (tgt := 182) hx hb dL_tagsFit_133 (by decide) (fun h => absurd h (fun z => z rfl)) (fun _ => ?_)
    refine lv_iload hx hb dL_tagsFit_136 (lv_at hl 1 rfl) ?_
    refine lv_if_ne (tgt := 178) hx hb dL_tagsFit_138 (by decide) (fun _ => ?_) (fun h => absurd h (by decide))
    refine lv_iconst (v := nI 1) hx hb dL_tagsFit_178 (by decide) ?_
    refine lv_goto (tgt := 183) hx hb dL_tagsFit_179 (by decide) ?_
    refine lv_istore (lv' := [(5, .int (nI 1)), (4, .int (nI 1)), (3, .int (-1000005)), (2, .int (nI 1)), (0, .ref o), (1, .int (nI t))]) hx hb dL_tagsFit_183 hl (by decide) rfl (fun ls hl => ?_)
    refine lv_iload hx hb dL_tagsFit_185 (lv_at hl 0 rfl) ?_
    refine lv_if_eq (tgt := 242) hx hb dL_tagsFit_187 (by decide) (fun h => absurd h (by decide)) (fun _ => ?_)
    refine lv_iload_n hx hb dL_tagsFit_190 rfl (lv_at hl 3 rfl) ?_
    refine lv_if_ne (tgt := 228) hx hb dL_tagsFit_191 (by decide) (fun _ => ?_) (fun h => absurd h (nI_ne0 (by omega) (by omega)))
    refine lv_iload_n hx hb dL_tagsFit_228 rfl (lv_at hl 3 rfl) ?_
    refine lv_iconst (v := nI 4) hx hb dL_tagsFit_229 (by decide) ?_
    refine lv_icmp_ne (tgt := 238) hx hb dL_tagsFit_230 (by decide) (fun _ => ?_) (fun h => absurd h (by decide))
    refine lv_iconst (v := nI 1) hx hb dL_tagsFit_238 (by decide) ?_
    refine lv_goto (tgt := 243) hx hb dL_tagsFit_239 (by decide) ?_
    exact z_zret hx hb hr hlk hP hD hS dL_tagsFit_243 rfl rfl rfl

set_option maxHeartbeats 4000000 in
set_option maxRecDepth 100000 in
theorem c_L_tagsFit_s2 (l : Launch) (G : ZG) (o : Nat) (w : va_W) (v : Mem) (e B : Nat) (hQ : QS l G o w v e) (hX : okX v e B) (hB : B < 10000) (t : Nat) (ht : t < 2 ^ 31) (h40 : t % 100 < 40) (hep : t / 1000000 ≤ e) (h2 : t / 1000000 + 3 < e) (hw : whyA v e (nI t) = nI 2) (hf : folA v e (nI t) = -1000005) (hnm : namA v e (nI t) = -1000005) : CI l G yL_tagsFit wsL_tagsFit (zRm 3 70) [.ref o, .int (nI t)] w (nI 1) w := by
  refine CI.ent (cc := cL_tagsFit) (maxL := 6) (ty := .boolean) (own := RL) (by decide) rfl rfl (Nat.le_of_ble_eq_true rfl) ?_
  intro p ee s m args below meth c A ls F hr hlk hKK hP hD hA hS hl
  obtain ⟨hx, hb, hml, hown, hts⟩ := id F
  have hl : lv_has ls 6 [(0, .ref o), (1, .int (nI t))] := hl
  obtain ⟨⟨fs, hw0⟩, q_cnt, q_num, q_cel, q_cmp, q_cm3, q_fnd, q_why, q_fol, q_nam, q_beg, q_wb, q_nat, q_bh⟩ := id hQ
  have hv := hX.1
  have hC := hX.2.1
  have he9 := hv.1.2
  refine lv_aload_n hx hb dL_tagsFit_0 rfl (lv_at hl 0 rfl) ?_
  refine lv_iload_n hx hb dL_tagsFit_1 rfl (lv_at hl 1 rfl) ?_
  refine z_qV (As := [.int (nI t)]) (rest := []) F (q_why _) (cwV 1 hts gL_tagsFit_X3_why rfl rfl rfl (by decide +kernel) ⟨Nat.le_of_ble_eq_true rfl, Nat.le_of_ble_eq_true rfl⟩) hKK hw0 hP hD hS hA rfl hl.1 rfl (Nat.le_of_ble_eq_true rfl) ⟨Nat.zero_le _, Nat.zero_le _⟩ dL_tagsFit_2 (fun H locs hP hD hS => ?_)
  refine z_top (v := nI 2) hw ?_
  refine lv_istore_n (lv' := [(2, .int (nI 2)), (0, .ref o), (1, .int (nI t))]) hx hb dL_tagsFit_5 rfl hl (by decide) rfl (fun ls hl => ?_)
  refine lv_aload_n hx hb dL_tagsFit_6 rfl (lv_at hl 1 rfl) ?_
  refine lv_iload_n hx hb dL_tagsFit_7 rfl (lv_at hl 2 rfl) ?_
  refine z_qV (As := [.int (nI t)]) (rest := []) F (q_fol _) (cwV 1 hts gL_tagsFit_X3_follow rfl rfl rfl (by decide +kernel) ⟨Nat.le_of_ble_eq_true rfl, Nat.le_of_ble_eq_true rfl⟩) hKK hw0 hP hD hS hA rfl hl.1 rfl (Nat.le_of_ble_eq_true rfl) ⟨Nat.zero_le _, Nat.zero_le _⟩ dL_tagsFit_8 (fun H locs hP hD hS => ?_)
  refine z_top (v := (-1000005)) hf ?_
  refine lv_istore_n (lv' := [(3, .int (-1000005)), (2, .int (nI 2)), (0, .ref o), (1, .int (nI t))]) hx hb dL_tagsFit_11 rfl hl (by decide) rfl (fun ls hl => ?_)
  refine lv_iload_n hx hb dL_tagsFit_12 rfl (lv_at hl 3 rfl) ?_
  refine lv_if_lt (tgt := 37) hx hb dL_tagsFit_13 (by decide) (fun h => absurd h (nI_pos (by omega))) (fun _ => ?_)
  refine lv_iload_n hx hb dL_tagsFit_16 rfl (lv_at hl 3 rfl) ?_
  refine lv_bipush (v := nI 100) hx hb dL_tagsFit_17 (by decide) ?_
  refine z_rem (v := nI (t % 100)) hx hb dL_tagsFit_19 (by decide) (pk_rem (by omega) (by decide) (by decide)) ?_
  refine lv_bipush (v := nI 39) hx hb dL_tagsFit_20 (by decide) ?_
  refine lv_icmp_gt (tgt := 37) hx hb dL_tagsFit_22 (by decide) (fun h => absurd h (nI_nlt (show t % 100 ≤ 39 by omega) (by omega))) (fun _ => ?_)
  refine lv_iload_n hx hb dL_tagsFit_25 rfl (lv_at hl 3 rfl) ?_
  refine z_ldc (v := (1000000)) (v' := nI 1000000) hx hb hown (hts (.constant RL 38 (1000000)) (by decide +kernel)) dL_tagsFit_26 rfl ?_
  refine z_div (v := nI (t / 1000000)) hx hb dL_tagsFit_28 (by decide) (pk_div (by omega) (by decide) (by decide)) ?_
  refine lv_aload_n hx hb dL_tagsFit_29 rfl (lv_at hl 2 rfl) ?_
  refine lv_iconst (v := nI 3) hx hb dL_tagsFit_30 (by decide) ?_
  refine z_qV (As := [.int (nI 3)]) (rest := [.int (nI (t / 1000000))]) F (q_cnt 3 (by omega)) (cwV 1 hts gL_tagsFit_X3_count rfl rfl rfl (by decide +kernel) ⟨Nat.le_of_ble_eq_true rfl, Nat.le_of_ble_eq_true rfl⟩) hKK hw0 hP hD hS hA rfl hl.1 rfl (Nat.le_of_ble_eq_true rfl) ⟨Nat.zero_le _, Nat.zero_le _⟩ dL_tagsFit_31 (fun H locs hP hD hS => ?_)
  refine z_top (v := nI e) rfl ?_
  refine lv_icmp_le (tgt := 41) hx hb dL_tagsFit_34 (by decide) (fun _ => ?_) (fun h => absurd ((nI_leI (by omega) (by omega)).mpr hep) h)
  refine lv_iconst (v := nI 0) hx hb dL_tagsFit_41 (by decide) ?_
  refine lv_istore (lv' := [(4, .int (nI 0)), (3, .int (-1000005)), (2, .int (nI 2)), (0, .ref o), (1, .int (nI t))]) hx hb dL_tagsFit_42 hl (by decide) rfl (fun ls hl => ?_)
  refine lv_iload_n hx hb dL_tagsFit_44 rfl (lv_at hl 2 rfl) ?_
  refine lv_if_lt (tgt := 103) hx hb dL_tagsFit_45 (by decide) (fun h => absurd h (nI_pos (by omega))) (fun _ => ?_)
  refine lv_iload_n hx hb dL_tagsFit_48 rfl (lv_at hl 2 rfl) ?_
  refine lv_iconst (v := nI 4) hx hb dL_tagsFit_49 (by decide) ?_
  refine lv_icmp_gt (tgt := 103) hx hb dL_tagsFit_50 (by decide) (fun h => absurd h (nI_nlt (show 2 ≤ 4 by omega) (by omega))) (fun _ => ?_)
  refine lv_iload_n hx hb dL_tagsFit_53 rfl (lv_at hl 2 rfl) ?_
  refine lv_iconst (v := nI 1) hx hb dL_tagsFit_54 (by decide) ?_
  refine lv_icmp_ne (tgt := 62) hx hb dL_tagsFit_55 (by decide) (fun _ => ?_) (fun h => absurd h (by decide))
  refine lv_iconst (v := nI 0) hx hb dL_tagsFit_62 (by decide) ?_
  refine lv_iload hx hb dL_tagsFit_63 (lv_at hl 0 rfl) ?_
  refine lv_icmp_ne (tgt := 103) hx hb dL_tagsFit_65 (by decide) (fun h => absurd h (fun z => z rfl)) (fun _ => ?_)
  refine lv_iload_n hx hb dL_tagsFit_68 rfl (lv_at hl 2 rfl) ?_
  refine lv_if_ne (tgt := 76) hx hb dL_tagsFit_69 (by decide) (fun _ => ?_) (fun h => absurd h (nI_ne0 (by omega) (by omega)))
  refine lv_iconst (v := nI 0) hx hb dL_tagsFit_76 (by decide) ?_
  refine lv_iload_n hx hb dL_tagsFit_77 rfl (lv_at hl 1 rfl) ?_
  refine lv_if_lt (tgt := 85) hx hb dL_tagsFit_78 (by decide) (fun _ => ?_) (fun h => absurd (by decide) h)
  refine lv_iconst (v := nI 0) hx hb dL_tagsFit_85 (by decide) ?_
  refine lv_icmp_ne (tgt := 103) hx hb dL_tagsFit_86 (by decide) (fun h => absurd h (fun z => z rfl)) (fun _ => ?_)
  refine lv_iload_n hx hb dL_tagsFit_89 rfl (lv_at hl 1 rfl) ?_
  refine lv_if_ge (tgt := 99) hx hb dL_tagsFit_90 (by decide) (fun h => absurd h (by decide)) (fun _ => ?_)
  refine lv_iload_n hx hb dL_tagsFit_93 rfl (lv_at hl 1 rfl) ?_
  refine z_ldc (v := (-1000005)) (v' := (-1000005)) hx hb hown (hts (.constant RL 16 (-1000005)) (by decide +kernel)) dL_tagsFit_94 rfl ?_
  refine lv_icmp_ne (tgt := 103) hx hb dL_tagsFit_96 (by decide) (fun h => absurd h (fun z => z rfl)) (fun _ => ?_)
  refine lv_iconst (v := nI 1) hx hb dL_tagsFit_99 (by decide) ?_
  refine lv_goto (tgt := 104) hx hb dL_tagsFit_100 (by decide) ?_
  refine lv_istore (lv' := [(5, .int (nI 1)), (4, .int (nI 0)), (3, .int (-1000005)), (2, .int (nI 2)), (0, .ref o), (1, .int (nI t))]) hx hb dL_tagsFit_104 hl (by decide) rfl (fun ls hl => ?_)
  refine lv_iload hx hb dL_tagsFit_106 (lv_at hl 0 rfl) ?_
  refine lv_if_eq (tgt := 182) hx hb dL_tagsFit_108 (by decide) (fun h => absurd h (by decide)) (fun _ => ?_)
  refine lv_aload_n hx hb dL_tagsFit_111 rfl (lv_at hl 4 rfl) ?_
  refine lv_iload_n hx hb dL_tagsFit_112 rfl (lv_at hl 5 rfl) ?_
  refine z_qV (As := [.int (nI t)]) (rest := []) F (q_nam _) (cwV 1 hts gL_tagsFit_X3_nameOf rfl rfl rfl (by decide +kernel) ⟨Nat.le_of_ble_eq_true rfl, Nat.le_of_ble_eq_true rfl⟩) hKK hw0 hP hD hS hA rfl hl.1 rfl (Nat.le_of_ble_eq_true rfl) ⟨Nat.zero_le _, Nat.zero_le _⟩ dL_tagsFit_113 (fun H locs hP hD hS => ?_)
  refine z_top (v := (-1000005)) hnm ?_
  refine lv_if_lt (tgt := 123) hx hb dL_tagsFit_116 (by decide) (fun _ => ?_) (fun h => absurd (by decide) h)
  refine lv_iconst (v := nI 0) hx hb dL_tagsFit_123 (by decide) ?_
  refine lv_iload_n hx hb dL_tagsFit_124 rfl (lv_at hl 3 rfl) ?_
  refine lv_if_ne (tgt := 132) hx hb dL_tagsFit_125 (by decide) (fun _ => ?_) (fun h => absurd h (nI_ne0 (by omega) (by omega)))
  refine lv_iconst (v := nI 0) hx hb dL_tagsFit_132 (by decide) ?_
  refine lv_icmp_ne (tgt := 182) hx hb dL_tagsFit_133 (by decide) (fun h => absurd h (fun z => z rfl)) (fun _ => ?_)
  refine lv_iload hx hb dL_tagsFit_136 (lv_at hl 1 rfl) ?_
  refine lv_if_ne (tgt := 178) hx hb dL_tagsFit_138 (by decide) (fun h => absurd h (fun z => z rfl)) (fun _ => ?_)
  refine lv_iload_n hx hb dL_tagsFit_141 rfl (lv_at hl 3 rfl) ?_
  refine lv_iconst (v := nI 2) hx hb dL_tagsFit_142 (by decide) ?_
  refine lv_icmp_ne (tgt := 150) hx hb dL_tagsFit_143 (by decide) (fun h => absurd h (fun z => z rfl)) (fun _ => ?_)
  refine lv_iconst (v := nI 1) hx hb dL_tagsFit_146 (by decide) ?_
  refine lv_goto (tgt := 151) hx hb dL_tagsFit_147 (by decide) ?_
  refine lv_iload_n hx hb dL_tagsFit_151 rfl (lv_at hl 5 rfl) ?_
  refine z_ldc (v := (1000000)) (v' := nI 1000000) hx hb hown (hts (.constant RL 38 (1000000)) (by decide +kernel)) dL_tagsFit_152 rfl ?_
  refine z_div (v := nI (t / 1000000)) hx hb dL_tagsFit_154 (by decide) (pk_div (by omega) (by decide) (by decide)) ?_
  refine lv_aload_n hx hb dL_tagsFit_155 rfl (lv_at hl 4 rfl) ?_
  refine lv_iconst (v := nI 3) hx hb dL_tagsFit_156 (by decide) ?_
  refine z_qV (As := [.int (nI 3)]) (rest := [.int (nI (t / 1000000)), .int (nI 1)]) F (q_cnt 3 (by omega)) (cwV 1 hts gL_tagsFit_X3_count rfl rfl rfl (by decide +kernel) ⟨Nat.le_of_ble_eq_true rfl, Nat.le_of_ble_eq_true rfl⟩) hKK hw0 hP hD hS hA rfl hl.1 rfl (Nat.le_of_ble_eq_true rfl) ⟨Nat.zero_le _, Nat.zero_le _⟩ dL_tagsFit_157 (fun H locs hP hD hS => ?_)
  refine z_top (v := nI e) rfl ?_
  refine lv_aload_n hx hb dL_tagsFit_160 rfl (lv_at hl 4 rfl) ?_
  refine lv_bipush (v := nI 8) hx hb dL_tagsFit_161 (by decide) ?_
  refine z_qV (As := [.int (nI 8)]) (rest := [.int (nI e), .int (nI (t / 1000000)), .int (nI 1)]) F (q_cnt 8 (by omega)) (cwV 1 hts gL_tagsFit_X3_count rfl rfl rfl (by decide +kernel) ⟨Nat.le_of_ble_eq_true rfl, Nat.le_of_ble_eq_true rfl⟩) hKK hw0 hP hD hS hA rfl hl.1 rfl (Nat.le_of_ble_eq_true rfl) ⟨Nat.zero_le _, Nat.zero_le _⟩ dL_tagsFit_163 (fun H locs hP hD hS => ?_)
  refine z_top (v := nI (min e 3)) rfl ?_
  refine z_sub (v := nI (e - min e 3)) hx hb dL_tagsFit_166 (pk_sub (by omega)) ?_
  refine lv_icmp_ge (tgt := 174) hx hb dL_tagsFit_167 (by decide) (fun h => absurd h (fun z => absurd ((nI_leI (by omega) (by omega)).mp z) (by omega))) (fun _ => ?_)
  refine lv_iconst (v := nI 1) hx hb dL_tagsFit_170 (by decide) ?_
  refine lv_goto (tgt := 175) hx hb dL_tagsFit_171 (by decide) ?_
  refine lv_icmp_ne (tgt := 182) hx hb dL_tagsFit_175 (by decide) (fun h => absurd h (fun z => z rfl)) (fun _ => ?_)
  refine lv_iconst (v := nI 1) hx hb dL_tagsFit_178 (by decide) ?_
  refine lv_goto (tgt := 183) hx hb dL_tagsFit_179 (by decide) ?_
  refine lv_istore (lv' := [(5, .int (nI 1)), (4, .int (nI 0)), (3, .int (-1000005)), (2, .int (nI 2)), (0, .ref o), (1, .int (nI t))]) hx hb dL_tagsFit_183 hl (by decide) rfl (fun ls hl => ?_)
  refine lv_iload hx hb dL_tagsFit_185 (lv_at hl 0 rfl) ?_
  refine lv_if_eq (tgt := 242) hx hb dL_tagsFit_187 (by decide) (fun h => absurd h (by decide)) (fun _ => ?_)
  refine lv_iload_n hx hb dL_tagsFit_190 rfl (lv_at hl 3 rfl) ?_
  refine lv_if_ne (tgt := 228) hx hb dL_tagsFit_191 (by decide) (fun _ => ?_) (fun h => absurd h (nI_ne0 (by omega) (by omega)))
  refine lv_iload_n hx hb dL_tagsFit_228 rfl (lv_at hl 3 rfl) ?_
  refine lv_iconst (v := nI 4) hx hb dL_tagsFit_229 (by decide) ?_
  refine lv_icmp_ne (tgt := 238) hx hb dL_tagsFit_230 (by decide) (fun _ => ?_) (fun h => absurd h (by decide))
  refine lv_iconst (v := nI 1) hx hb dL_tagsFit_238 (by decide) ?_
  refine lv_goto (tgt := 243) hx hb dL_tagsFit_239 (by decide) ?_
  exact z_zret hx hb hr hlk hP hD hS dL_tagsFit_243 rfl rfl rfl

set_option maxHeartbeats 4000000 in
set_option maxRecDepth 100000 in
theorem c_L_tagsFit_s34 (l : Launch) (G : ZG) (o : Nat) (w : va_W) (v : Mem) (e B : Nat) (hQ : QS l G o w v e) (hX : okX v e B) (hB : B < 10000) (t : Nat) (ht : t < 2 ^ 31) (h40 : t % 100 < 40) (hep : t / 1000000 ≤ e) (h2 : ¬ t / 1000000 + 3 < e) (k : Nat) (hk3 : 3 ≤ k) (hk4 : k ≤ 4) (hw : whyA v e (nI t) = nI k) (hf : folA v e (nI t) = -1000005) (hnm : namA v e (nI t) = -1000005) : CI l G yL_tagsFit wsL_tagsFit (zRm 3 70) [.ref o, .int (nI t)] w (nI 1) w := by
  refine CI.ent (cc := cL_tagsFit) (maxL := 6) (ty := .boolean) (own := RL) (by decide) rfl rfl (Nat.le_of_ble_eq_true rfl) ?_
  intro p ee s m args below meth c A ls F hr hlk hKK hP hD hA hS hl
  obtain ⟨hx, hb, hml, hown, hts⟩ := id F
  have hl : lv_has ls 6 [(0, .ref o), (1, .int (nI t))] := hl
  obtain ⟨⟨fs, hw0⟩, q_cnt, q_num, q_cel, q_cmp, q_cm3, q_fnd, q_why, q_fol, q_nam, q_beg, q_wb, q_nat, q_bh⟩ := id hQ
  have hv := hX.1
  have hC := hX.2.1
  have he9 := hv.1.2
  refine lv_aload_n hx hb dL_tagsFit_0 rfl (lv_at hl 0 rfl) ?_
  refine lv_iload_n hx hb dL_tagsFit_1 rfl (lv_at hl 1 rfl) ?_
  refine z_qV (As := [.int (nI t)]) (rest := []) F (q_why _) (cwV 1 hts gL_tagsFit_X3_why rfl rfl rfl (by decide +kernel) ⟨Nat.le_of_ble_eq_true rfl, Nat.le_of_ble_eq_true rfl⟩) hKK hw0 hP hD hS hA rfl hl.1 rfl (Nat.le_of_ble_eq_true rfl) ⟨Nat.zero_le _, Nat.zero_le _⟩ dL_tagsFit_2 (fun H locs hP hD hS => ?_)
  refine z_top (v := nI k) hw ?_
  refine lv_istore_n (lv' := [(2, .int (nI k)), (0, .ref o), (1, .int (nI t))]) hx hb dL_tagsFit_5 rfl hl (by decide) rfl (fun ls hl => ?_)
  refine lv_aload_n hx hb dL_tagsFit_6 rfl (lv_at hl 1 rfl) ?_
  refine lv_iload_n hx hb dL_tagsFit_7 rfl (lv_at hl 2 rfl) ?_
  refine z_qV (As := [.int (nI t)]) (rest := []) F (q_fol _) (cwV 1 hts gL_tagsFit_X3_follow rfl rfl rfl (by decide +kernel) ⟨Nat.le_of_ble_eq_true rfl, Nat.le_of_ble_eq_true rfl⟩) hKK hw0 hP hD hS hA rfl hl.1 rfl (Nat.le_of_ble_eq_true rfl) ⟨Nat.zero_le _, Nat.zero_le _⟩ dL_tagsFit_8 (fun H locs hP hD hS => ?_)
  refine z_top (v := (-1000005)) hf ?_
  refine lv_istore_n (lv' := [(3, .int (-1000005)), (2, .int (nI k)), (0, .ref o), (1, .int (nI t))]) hx hb dL_tagsFit_11 rfl hl (by decide) rfl (fun ls hl => ?_)
  refine lv_iload_n hx hb dL_tagsFit_12 rfl (lv_at hl 3 rfl) ?_
  refine lv_if_lt (tgt := 37) hx hb dL_tagsFit_13 (by decide) (fun h => absurd h (nI_pos (by omega))) (fun _ => ?_)
  refine lv_iload_n hx hb dL_tagsFit_16 rfl (lv_at hl 3 rfl) ?_
  refine lv_bipush (v := nI 100) hx hb dL_tagsFit_17 (by decide) ?_
  refine z_rem (v := nI (t % 100)) hx hb dL_tagsFit_19 (by decide) (pk_rem (by omega) (by decide) (by decide)) ?_
  refine lv_bipush (v := nI 39) hx hb dL_tagsFit_20 (by decide) ?_
  refine lv_icmp_gt (tgt := 37) hx hb dL_tagsFit_22 (by decide) (fun h => absurd h (nI_nlt (show t % 100 ≤ 39 by omega) (by omega))) (fun _ => ?_)
  refine lv_iload_n hx hb dL_tagsFit_25 rfl (lv_at hl 3 rfl) ?_
  refine z_ldc (v := (1000000)) (v' := nI 1000000) hx hb hown (hts (.constant RL 38 (1000000)) (by decide +kernel)) dL_tagsFit_26 rfl ?_
  refine z_div (v := nI (t / 1000000)) hx hb dL_tagsFit_28 (by decide) (pk_div (by omega) (by decide) (by decide)) ?_
  refine lv_aload_n hx hb dL_tagsFit_29 rfl (lv_at hl 2 rfl) ?_
  refine lv_iconst (v := nI 3) hx hb dL_tagsFit_30 (by decide) ?_
  refine z_qV (As := [.int (nI 3)]) (rest := [.int (nI (t / 1000000))]) F (q_cnt 3 (by omega)) (cwV 1 hts gL_tagsFit_X3_count rfl rfl rfl (by decide +kernel) ⟨Nat.le_of_ble_eq_true rfl, Nat.le_of_ble_eq_true rfl⟩) hKK hw0 hP hD hS hA rfl hl.1 rfl (Nat.le_of_ble_eq_true rfl) ⟨Nat.zero_le _, Nat.zero_le _⟩ dL_tagsFit_31 (fun H locs hP hD hS => ?_)
  refine z_top (v := nI e) rfl ?_
  refine lv_icmp_le (tgt := 41) hx hb dL_tagsFit_34 (by decide) (fun _ => ?_) (fun h => absurd ((nI_leI (by omega) (by omega)).mpr hep) h)
  refine lv_iconst (v := nI 0) hx hb dL_tagsFit_41 (by decide) ?_
  refine lv_istore (lv' := [(4, .int (nI 0)), (3, .int (-1000005)), (2, .int (nI k)), (0, .ref o), (1, .int (nI t))]) hx hb dL_tagsFit_42 hl (by decide) rfl (fun ls hl => ?_)
  refine lv_iload_n hx hb dL_tagsFit_44 rfl (lv_at hl 2 rfl) ?_
  refine lv_if_lt (tgt := 103) hx hb dL_tagsFit_45 (by decide) (fun h => absurd h (nI_pos (by omega))) (fun _ => ?_)
  refine lv_iload_n hx hb dL_tagsFit_48 rfl (lv_at hl 2 rfl) ?_
  refine lv_iconst (v := nI 4) hx hb dL_tagsFit_49 (by decide) ?_
  refine lv_icmp_gt (tgt := 103) hx hb dL_tagsFit_50 (by decide) (fun h => absurd h (nI_nlt (show k ≤ 4 by omega) (by omega))) (fun _ => ?_)
  refine lv_iload_n hx hb dL_tagsFit_53 rfl (lv_at hl 2 rfl) ?_
  refine lv_iconst (v := nI 1) hx hb dL_tagsFit_54 (by decide) ?_
  refine lv_icmp_ne (tgt := 62) hx hb dL_tagsFit_55 (by decide) (fun _ => ?_) (fun h => absurd h (fun z => by have h9 := nI_inj (by omega) (by omega) z; omega))
  refine lv_iconst (v := nI 0) hx hb dL_tagsFit_62 (by decide) ?_
  refine lv_iload hx hb dL_tagsFit_63 (lv_at hl 0 rfl) ?_
  refine lv_icmp_ne (tgt := 103) hx hb dL_tagsFit_65 (by decide) (fun h => absurd h (fun z => z rfl)) (fun _ => ?_)
  refine lv_iload_n hx hb dL_tagsFit_68 rfl (lv_at hl 2 rfl) ?_
  refine lv_if_ne (tgt := 76) hx hb dL_tagsFit_69 (by decide) (fun _ => ?_) (fun h => absurd h (nI_ne0 (by omega) (by omega)))
  refine lv_iconst (v := nI 0) hx hb dL_tagsFit_76 (by decide) ?_
  refine lv_iload_n hx hb dL_tagsFit_77 rfl (lv_at hl 1 rfl) ?_
  refine lv_if_lt (tgt := 85) hx hb dL_tagsFit_78 (by decide) (fun _ => ?_) (fun h => absurd (by decide) h)
  refine lv_iconst (v := nI 0) hx hb dL_tagsFit_85 (by decide) ?_
  refine lv_icmp_ne (tgt := 103) hx hb dL_tagsFit_86 (by decide) (fun h => absurd h (fun z => z rfl)) (fun _ => ?_)
  refine lv_iload_n hx hb dL_tagsFit_89 rfl (lv_at hl 1 rfl) ?_
  refine lv_if_ge (tgt := 99) hx hb dL_tagsFit_90 (by decide) (fun h => absurd h (by decide)) (fun _ => ?_)
  refine lv_iload_n hx hb dL_tagsFit_93 rfl (lv_at hl 1 rfl) ?_
  refine z_ldc (v := (-1000005)) (v' := (-1000005)) hx hb hown (hts (.constant RL 16 (-1000005)) (by decide +kernel)) dL_tagsFit_94 rfl ?_
  refine lv_icmp_ne (tgt := 103) hx hb dL_tagsFit_96 (by decide) (fun h => absurd h (fun z => z rfl)) (fun _ => ?_)
  refine lv_iconst (v := nI 1) hx hb dL_tagsFit_99 (by decide) ?_
  refine lv_goto (tgt := 104) hx hb dL_tagsFit_100 (by decide) ?_
  refine lv_istore (lv' := [(5, .int (nI 1)), (4, .int (nI 0)), (3, .int (-1000005)), (2, .int (nI k)), (0, .ref o), (1, .int (nI t))]) hx hb dL_tagsFit_104 hl (by decide) rfl (fun ls hl => ?_)
  refine lv_iload hx hb dL_tagsFit_106 (lv_at hl 0 rfl) ?_
  refine lv_if_eq (tgt := 182) hx hb dL_tagsFit_108 (by decide) (fun h => absurd h (by decide)) (fun _ => ?_)
  refine lv_aload_n hx hb dL_tagsFit_111 rfl (lv_at hl 4 rfl) ?_
  refine lv_iload_n hx hb dL_tagsFit_112 rfl (lv_at hl 5 rfl) ?_
  refine z_qV (As := [.int (nI t)]) (rest := []) F (q_nam _) (cwV 1 hts gL_tagsFit_X3_nameOf rfl rfl rfl (by decide +kernel) ⟨Nat.le_of_ble_eq_true rfl, Nat.le_of_ble_eq_true rfl⟩) hKK hw0 hP hD hS hA rfl hl.1 rfl (Nat.le_of_ble_eq_true rfl) ⟨Nat.zero_le _, Nat.zero_le _⟩ dL_tagsFit_113 (fun H locs hP hD hS => ?_)
  refine z_top (v := (-1000005)) hnm ?_
  refine lv_if_lt (tgt := 123) hx hb dL_tagsFit_116 (by decide) (fun _ => ?_) (fun h => absurd (by decide) h)
  refine lv_iconst (v := nI 0) hx hb dL_tagsFit_123 (by decide) ?_
  refine lv_iload_n hx hb dL_tagsFit_124 rfl (lv_at hl 3 rfl) ?_
  refine lv_if_ne (tgt := 132) hx hb dL_tagsFit_125 (by decide) (fun _ => ?_) (fun h => absurd h (nI_ne0 (by omega) (by omega)))
  refine lv_iconst (v := nI 0) hx hb dL_tagsFit_132 (by decide) ?_
  refine lv_icmp_ne (tgt := 182) hx hb dL_tagsFit_133 (by decide) (fun h => absurd h (fun z => z rfl)) (fun _ => ?_)
  refine lv_iload hx hb dL_tagsFit_136 (lv_at hl 1 rfl) ?_
  refine lv_if_ne (tgt := 178) hx hb dL_tagsFit_138 (by decide) (fun h => absurd h (fun z => z rfl)) (fun _ => ?_)
  refine lv_iload_n hx hb dL_tagsFit_141 rfl (lv_at hl 3 rfl) ?_
  refine lv_iconst (v := nI 2) hx hb dL_tagsFit_142 (by decide) ?_
  refine lv_icmp_ne (tgt := 150) hx hb dL_tagsFit_143 (by decide) (fun _ => ?_) (fun h => absurd h (fun z => by have h9 := nI_inj (by omega) (by omega) z; omega))
  refine lv_iconst (v := nI 0) hx hb dL_tagsFit_150 (by decide) ?_
  refine lv_iload_n hx hb dL_tagsFit_151 rfl (lv_at hl 5 rfl) ?_
  refine z_ldc (v := (1000000)) (v' := nI 1000000) hx hb hown (hts (.constant RL 38 (1000000)) (by decide +kernel)) dL_tagsFit_152 rfl ?_
  refine z_div (v := nI (t / 1000000)) hx hb dL_tagsFit_154 (by decide) (pk_div (by omega) (by decide) (by decide)) ?_
  refine lv_aload_n hx hb dL_tagsFit_155 rfl (lv_at hl 4 rfl) ?_
  refine lv_iconst (v := nI 3) hx hb dL_tagsFit_156 (by decide) ?_
  refine z_qV (As := [.int (nI 3)]) (rest := [.int (nI (t / 1000000)), .int (nI 0)]) F (q_cnt 3 (by omega)) (cwV 1 hts gL_tagsFit_X3_count rfl rfl rfl (by decide +kernel) ⟨Nat.le_of_ble_eq_true rfl, Nat.le_of_ble_eq_true rfl⟩) hKK hw0 hP hD hS hA rfl hl.1 rfl (Nat.le_of_ble_eq_true rfl) ⟨Nat.zero_le _, Nat.zero_le _⟩ dL_tagsFit_157 (fun H locs hP hD hS => ?_)
  refine z_top (v := nI e) rfl ?_
  refine lv_aload_n hx hb dL_tagsFit_160 rfl (lv_at hl 4 rfl) ?_
  refine lv_bipush (v := nI 8) hx hb dL_tagsFit_161 (by decide) ?_
  refine z_qV (As := [.int (nI 8)]) (rest := [.int (nI e), .int (nI (t / 1000000)), .int (nI 0)]) F (q_cnt 8 (by omega)) (cwV 1 hts gL_tagsFit_X3_count rfl rfl rfl (by decide +kernel) ⟨Nat.le_of_ble_eq_true rfl, Nat.le_of_ble_eq_true rfl⟩) hKK hw0 hP hD hS hA rfl hl.1 rfl (Nat.le_of_ble_eq_true rfl) ⟨Nat.zero_le _, Nat.zero_le _⟩ dL_tagsFit_163 (fun H locs hP hD hS => ?_)
  refine z_top (v := nI (min e 3)) rfl ?_
  refine z_sub (v := nI (e - min e 3)) hx hb dL_tagsFit_166 (pk_sub (by omega)) ?_
  refine lv_icmp_ge (tgt := 174) hx hb dL_tagsFit_167 (by decide) (fun _ => ?_) (fun h => absurd ((nI_leI (by omega) (by omega)).mpr (by omega)) h)
  refine lv_iconst (v := nI 0) hx hb dL_tagsFit_174 (by decide) ?_
  refine lv_icmp_ne (tgt := 182) hx hb dL_tagsFit_175 (by decide) (fun h => absurd h (fun z => z rfl)) (fun _ => ?_)
  refine lv_iconst (v := nI 1) hx hb dL_tagsFit_178 (by decide) ?_
  refine lv_goto (tgt := 183) hx hb dL_tagsFit_179 (by decide) ?_
  refine lv_istore (lv' := [(5, .int (nI 1)), (4, .int (nI 0)), (3, .int (-1000005)), (2, .int (nI k)), (0, .ref o), (1, .int (nI t))]) hx hb dL_tagsFit_183 hl (by decide) rfl (fun ls hl => ?_)
  refine lv_iload hx hb dL_tagsFit_185 (lv_at hl 0 rfl) ?_
  refine lv_if_eq (tgt := 242) hx hb dL_tagsFit_187 (by decide) (fun h => absurd h (by decide)) (fun _ => ?_)
  refine lv_iload_n hx hb dL_tagsFit_190 rfl (lv_at hl 3 rfl) ?_
  refine lv_if_ne (tgt := 228) hx hb dL_tagsFit_191 (by decide) (fun _ => ?_) (fun h => absurd h (nI_ne0 (by omega) (by omega)))
  refine lv_iload_n hx hb dL_tagsFit_228 rfl (lv_at hl 3 rfl) ?_
  refine lv_iconst (v := nI 4) hx hb dL_tagsFit_229 (by decide) ?_
  refine lv_icmp_ne (tgt := 238) hx hb dL_tagsFit_230 (by decide) (fun c_1 => ?_) (fun c_1 => ?_)
  · skip
    refine lv_iconst (v := nI 1) hx hb dL_tagsFit_238 (by decide) ?_
    refine lv_goto (tgt := 243) hx hb dL_tagsFit_239 (by decide) ?_
    exact z_zret hx hb hr hlk hP hD hS dL_tagsFit_243 rfl rfl rfl
  · skip
    refine lv_iload hx hb dL_tagsFit_233 (lv_at hl 1 rfl) ?_
    refine lv_if_ne (tgt := 242) hx hb dL_tagsFit_235 (by decide) (fun h => absurd h (fun z => z rfl)) (fun _ => ?_)
    refine lv_iconst (v := nI 1) hx hb dL_tagsFit_238 (by decide) ?_
    refine lv_goto (tgt := 243) hx hb dL_tagsFit_239 (by decide) ?_
    exact z_zret hx hb hr hlk hP hD hS dL_tagsFit_243 rfl rfl rfl

set_option maxHeartbeats 4000000 in
set_option maxRecDepth 100000 in
theorem c_L_tagsFit_st (l : Launch) (G : ZG) (o : Nat) (w : va_W) (v : Mem) (e B : Nat) (hQ : QS l G o w v e) (hX : okX v e B) (hB : B < 10000) (t : Nat) (ht : t < 2 ^ 31) (h40 : t % 100 < 40) (hep : t / 1000000 ≤ e) (h2 : ¬ t / 1000000 + 3 < e) (n : Nat) (hn : n < 40) (h0 : ¬ v 0 n = 0) (hw : whyA v e (nI t) = nI 0) (hf : folA v e (nI t) = nI (tgK v e n)) (hnm : namA v e (nI t) = v 0 n) : CI l G yL_tagsFit wsL_tagsFit (zRm 3 70) [.ref o, .int (nI t)] w (nI 1) w := by
  refine CI.ent (cc := cL_tagsFit) (maxL := 6) (ty := .boolean) (own := RL) (by decide) rfl rfl (Nat.le_of_ble_eq_true rfl) ?_
  intro p ee s m args below meth c A ls F hr hlk hKK hP hD hA hS hl
  obtain ⟨hx, hb, hml, hown, hts⟩ := id F
  have hl : lv_has ls 6 [(0, .ref o), (1, .int (nI t))] := hl
  obtain ⟨⟨fs, hw0⟩, q_cnt, q_num, q_cel, q_cmp, q_cm3, q_fnd, q_why, q_fol, q_nam, q_beg, q_wb, q_nat, q_bh⟩ := id hQ
  have hv := hX.1
  have hC := hX.2.1
  have he9 := hv.1.2
  have ht9 := tgK_lt hv hB hn
  obtain ⟨nm1, nm2, nm3, -⟩ := nm_is hv hn h0
  refine lv_aload_n hx hb dL_tagsFit_0 rfl (lv_at hl 0 rfl) ?_
  refine lv_iload_n hx hb dL_tagsFit_1 rfl (lv_at hl 1 rfl) ?_
  refine z_qV (As := [.int (nI t)]) (rest := []) F (q_why _) (cwV 1 hts gL_tagsFit_X3_why rfl rfl rfl (by decide +kernel) ⟨Nat.le_of_ble_eq_true rfl, Nat.le_of_ble_eq_true rfl⟩) hKK hw0 hP hD hS hA rfl hl.1 rfl (Nat.le_of_ble_eq_true rfl) ⟨Nat.zero_le _, Nat.zero_le _⟩ dL_tagsFit_2 (fun H locs hP hD hS => ?_)
  refine z_top (v := nI 0) hw ?_
  refine lv_istore_n (lv' := [(2, .int (nI 0)), (0, .ref o), (1, .int (nI t))]) hx hb dL_tagsFit_5 rfl hl (by decide) rfl (fun ls hl => ?_)
  refine lv_aload_n hx hb dL_tagsFit_6 rfl (lv_at hl 1 rfl) ?_
  refine lv_iload_n hx hb dL_tagsFit_7 rfl (lv_at hl 2 rfl) ?_
  refine z_qV (As := [.int (nI t)]) (rest := []) F (q_fol _) (cwV 1 hts gL_tagsFit_X3_follow rfl rfl rfl (by decide +kernel) ⟨Nat.le_of_ble_eq_true rfl, Nat.le_of_ble_eq_true rfl⟩) hKK hw0 hP hD hS hA rfl hl.1 rfl (Nat.le_of_ble_eq_true rfl) ⟨Nat.zero_le _, Nat.zero_le _⟩ dL_tagsFit_8 (fun H locs hP hD hS => ?_)
  refine z_top (v := nI (tgK v e n)) hf ?_
  refine lv_istore_n (lv' := [(3, .int (nI (tgK v e n))), (2, .int (nI 0)), (0, .ref o), (1, .int (nI t))]) hx hb dL_tagsFit_11 rfl hl (by decide) rfl (fun ls hl => ?_)
  refine lv_iload_n hx hb dL_tagsFit_12 rfl (lv_at hl 3 rfl) ?_
  refine lv_if_lt (tgt := 37) hx hb dL_tagsFit_13 (by decide) (fun h => absurd h (nI_pos (by omega))) (fun _ => ?_)
  refine lv_iload_n hx hb dL_tagsFit_16 rfl (lv_at hl 3 rfl) ?_
  refine lv_bipush (v := nI 100) hx hb dL_tagsFit_17 (by decide) ?_
  refine z_rem (v := nI (t % 100)) hx hb dL_tagsFit_19 (by decide) (pk_rem (by omega) (by decide) (by decide)) ?_
  refine lv_bipush (v := nI 39) hx hb dL_tagsFit_20 (by decide) ?_
  refine lv_icmp_gt (tgt := 37) hx hb dL_tagsFit_22 (by decide) (fun h => absurd h (nI_nlt (show t % 100 ≤ 39 by omega) (by omega))) (fun _ => ?_)
  refine lv_iload_n hx hb dL_tagsFit_25 rfl (lv_at hl 3 rfl) ?_
  refine z_ldc (v := (1000000)) (v' := nI 1000000) hx hb hown (hts (.constant RL 38 (1000000)) (by decide +kernel)) dL_tagsFit_26 rfl ?_
  refine z_div (v := nI (t / 1000000)) hx hb dL_tagsFit_28 (by decide) (pk_div (by omega) (by decide) (by decide)) ?_
  refine lv_aload_n hx hb dL_tagsFit_29 rfl (lv_at hl 2 rfl) ?_
  refine lv_iconst (v := nI 3) hx hb dL_tagsFit_30 (by decide) ?_
  refine z_qV (As := [.int (nI 3)]) (rest := [.int (nI (t / 1000000))]) F (q_cnt 3 (by omega)) (cwV 1 hts gL_tagsFit_X3_count rfl rfl rfl (by decide +kernel) ⟨Nat.le_of_ble_eq_true rfl, Nat.le_of_ble_eq_true rfl⟩) hKK hw0 hP hD hS hA rfl hl.1 rfl (Nat.le_of_ble_eq_true rfl) ⟨Nat.zero_le _, Nat.zero_le _⟩ dL_tagsFit_31 (fun H locs hP hD hS => ?_)
  refine z_top (v := nI e) rfl ?_
  refine lv_icmp_le (tgt := 41) hx hb dL_tagsFit_34 (by decide) (fun _ => ?_) (fun h => absurd ((nI_leI (by omega) (by omega)).mpr hep) h)
  refine lv_iconst (v := nI 0) hx hb dL_tagsFit_41 (by decide) ?_
  refine lv_istore (lv' := [(4, .int (nI 0)), (3, .int (nI (tgK v e n))), (2, .int (nI 0)), (0, .ref o), (1, .int (nI t))]) hx hb dL_tagsFit_42 hl (by decide) rfl (fun ls hl => ?_)
  refine lv_iload_n hx hb dL_tagsFit_44 rfl (lv_at hl 2 rfl) ?_
  refine lv_if_lt (tgt := 103) hx hb dL_tagsFit_45 (by decide) (fun h => absurd h (nI_pos (by omega))) (fun _ => ?_)
  refine lv_iload_n hx hb dL_tagsFit_48 rfl (lv_at hl 2 rfl) ?_
  refine lv_iconst (v := nI 4) hx hb dL_tagsFit_49 (by decide) ?_
  refine lv_icmp_gt (tgt := 103) hx hb dL_tagsFit_50 (by decide) (fun h => absurd h (nI_nlt (show 0 ≤ 4 by omega) (by omega))) (fun _ => ?_)
  refine lv_iload_n hx hb dL_tagsFit_53 rfl (lv_at hl 2 rfl) ?_
  refine lv_iconst (v := nI 1) hx hb dL_tagsFit_54 (by decide) ?_
  refine lv_icmp_ne (tgt := 62) hx hb dL_tagsFit_55 (by decide) (fun _ => ?_) (fun h => absurd h (by decide))
  refine lv_iconst (v := nI 0) hx hb dL_tagsFit_62 (by decide) ?_
  refine lv_iload hx hb dL_tagsFit_63 (lv_at hl 0 rfl) ?_
  refine lv_icmp_ne (tgt := 103) hx hb dL_tagsFit_65 (by decide) (fun h => absurd h (fun z => z rfl)) (fun _ => ?_)
  refine lv_iload_n hx hb dL_tagsFit_68 rfl (lv_at hl 2 rfl) ?_
  refine lv_if_ne (tgt := 76) hx hb dL_tagsFit_69 (by decide) (fun h => absurd h (fun z => z rfl)) (fun _ => ?_)
  refine lv_iconst (v := nI 1) hx hb dL_tagsFit_72 (by decide) ?_
  refine lv_goto (tgt := 77) hx hb dL_tagsFit_73 (by decide) ?_
  refine lv_iload_n hx hb dL_tagsFit_77 rfl (lv_at hl 1 rfl) ?_
  refine lv_if_lt (tgt := 85) hx hb dL_tagsFit_78 (by decide) (fun h => absurd h (nI_pos (by omega))) (fun _ => ?_)
  refine lv_iconst (v := nI 1) hx hb dL_tagsFit_81 (by decide) ?_
  refine lv_goto (tgt := 86) hx hb dL_tagsFit_82 (by decide) ?_
  refine lv_icmp_ne (tgt := 103) hx hb dL_tagsFit_86 (by decide) (fun h => absurd h (fun z => z rfl)) (fun _ => ?_)
  refine lv_iload_n hx hb dL_tagsFit_89 rfl (lv_at hl 1 rfl) ?_
  refine lv_if_ge (tgt := 99) hx hb dL_tagsFit_90 (by decide) (fun _ => ?_) (fun h => absurd (nI_pos' (by omega)) h)
  refine lv_iconst (v := nI 1) hx hb dL_tagsFit_99 (by decide) ?_
  refine lv_goto (tgt := 104) hx hb dL_tagsFit_100 (by decide) ?_
  refine lv_istore (lv' := [(5, .int (nI 1)), (4, .int (nI 0)), (3, .int (nI (tgK v e n))), (2, .int (nI 0)), (0, .ref o), (1, .int (nI t))]) hx hb dL_tagsFit_104 hl (by decide) rfl (fun ls hl => ?_)
  refine lv_iload hx hb dL_tagsFit_106 (lv_at hl 0 rfl) ?_
  refine lv_if_eq (tgt := 182) hx hb dL_tagsFit_108 (by decide) (fun h => absurd h (by decide)) (fun _ => ?_)
  refine lv_aload_n hx hb dL_tagsFit_111 rfl (lv_at hl 4 rfl) ?_
  refine lv_iload_n hx hb dL_tagsFit_112 rfl (lv_at hl 5 rfl) ?_
  refine z_qV (As := [.int (nI t)]) (rest := []) F (q_nam _) (cwV 1 hts gL_tagsFit_X3_nameOf rfl rfl rfl (by decide +kernel) ⟨Nat.le_of_ble_eq_true rfl, Nat.le_of_ble_eq_true rfl⟩) hKK hw0 hP hD hS hA rfl hl.1 rfl (Nat.le_of_ble_eq_true rfl) ⟨Nat.zero_le _, Nat.zero_le _⟩ dL_tagsFit_113 (fun H locs hP hD hS => ?_)
  refine z_top (v := nI (nmK v n)) (hnm.trans nm1) ?_
  refine lv_if_lt (tgt := 123) hx hb dL_tagsFit_116 (by decide) (fun h => absurd h (nI_pos (by omega))) (fun _ => ?_)
  refine lv_iconst (v := nI 1) hx hb dL_tagsFit_119 (by decide) ?_
  refine lv_goto (tgt := 124) hx hb dL_tagsFit_120 (by decide) ?_
  refine lv_iload_n hx hb dL_tagsFit_124 rfl (lv_at hl 3 rfl) ?_
  refine lv_if_ne (tgt := 132) hx hb dL_tagsFit_125 (by decide) (fun h => absurd h (fun z => z rfl)) (fun _ => ?_)
  refine lv_iconst (v := nI 1) hx hb dL_tagsFit_128 (by decide) ?_
  refine lv_goto (tgt := 133) hx hb dL_tagsFit_129 (by decide) ?_
  refine lv_icmp_ne (tgt := 182) hx hb dL_tagsFit_133 (by decide) (fun h => absurd h (fun z => z rfl)) (fun _ => ?_)
  refine lv_iload hx hb dL_tagsFit_136 (lv_at hl 1 rfl) ?_
  refine lv_if_ne (tgt := 178) hx hb dL_tagsFit_138 (by decide) (fun h => absurd h (fun z => z rfl)) (fun _ => ?_)
  refine lv_iload_n hx hb dL_tagsFit_141 rfl (lv_at hl 3 rfl) ?_
  refine lv_iconst (v := nI 2) hx hb dL_tagsFit_142 (by decide) ?_
  refine lv_icmp_ne (tgt := 150) hx hb dL_tagsFit_143 (by decide) (fun _ => ?_) (fun h => absurd h (by decide))
  refine lv_iconst (v := nI 0) hx hb dL_tagsFit_150 (by decide) ?_
  refine lv_iload_n hx hb dL_tagsFit_151 rfl (lv_at hl 5 rfl) ?_
  refine z_ldc (v := (1000000)) (v' := nI 1000000) hx hb hown (hts (.constant RL 38 (1000000)) (by decide +kernel)) dL_tagsFit_152 rfl ?_
  refine z_div (v := nI (t / 1000000)) hx hb dL_tagsFit_154 (by decide) (pk_div (by omega) (by decide) (by decide)) ?_
  refine lv_aload_n hx hb dL_tagsFit_155 rfl (lv_at hl 4 rfl) ?_
  refine lv_iconst (v := nI 3) hx hb dL_tagsFit_156 (by decide) ?_
  refine z_qV (As := [.int (nI 3)]) (rest := [.int (nI (t / 1000000)), .int (nI 0)]) F (q_cnt 3 (by omega)) (cwV 1 hts gL_tagsFit_X3_count rfl rfl rfl (by decide +kernel) ⟨Nat.le_of_ble_eq_true rfl, Nat.le_of_ble_eq_true rfl⟩) hKK hw0 hP hD hS hA rfl hl.1 rfl (Nat.le_of_ble_eq_true rfl) ⟨Nat.zero_le _, Nat.zero_le _⟩ dL_tagsFit_157 (fun H locs hP hD hS => ?_)
  refine z_top (v := nI e) rfl ?_
  refine lv_aload_n hx hb dL_tagsFit_160 rfl (lv_at hl 4 rfl) ?_
  refine lv_bipush (v := nI 8) hx hb dL_tagsFit_161 (by decide) ?_
  refine z_qV (As := [.int (nI 8)]) (rest := [.int (nI e), .int (nI (t / 1000000)), .int (nI 0)]) F (q_cnt 8 (by omega)) (cwV 1 hts gL_tagsFit_X3_count rfl rfl rfl (by decide +kernel) ⟨Nat.le_of_ble_eq_true rfl, Nat.le_of_ble_eq_true rfl⟩) hKK hw0 hP hD hS hA rfl hl.1 rfl (Nat.le_of_ble_eq_true rfl) ⟨Nat.zero_le _, Nat.zero_le _⟩ dL_tagsFit_163 (fun H locs hP hD hS => ?_)
  refine z_top (v := nI (min e 3)) rfl ?_
  refine z_sub (v := nI (e - min e 3)) hx hb dL_tagsFit_166 (pk_sub (by omega)) ?_
  refine lv_icmp_ge (tgt := 174) hx hb dL_tagsFit_167 (by decide) (fun _ => ?_) (fun h => absurd ((nI_leI (by omega) (by omega)).mpr (by omega)) h)
  refine lv_iconst (v := nI 0) hx hb dL_tagsFit_174 (by decide) ?_
  refine lv_icmp_ne (tgt := 182) hx hb dL_tagsFit_175 (by decide) (fun h => absurd h (fun z => z rfl)) (fun _ => ?_)
  refine lv_iconst (v := nI 1) hx hb dL_tagsFit_178 (by decide) ?_
  refine lv_goto (tgt := 183) hx hb dL_tagsFit_179 (by decide) ?_
  refine lv_istore (lv' := [(5, .int (nI 1)), (4, .int (nI 0)), (3, .int (nI (tgK v e n))), (2, .int (nI 0)), (0, .ref o), (1, .int (nI t))]) hx hb dL_tagsFit_183 hl (by decide) rfl (fun ls hl => ?_)
  refine lv_iload hx hb dL_tagsFit_185 (lv_at hl 0 rfl) ?_
  refine lv_if_eq (tgt := 242) hx hb dL_tagsFit_187 (by decide) (fun h => absurd h (by decide)) (fun _ => ?_)
  refine lv_iload_n hx hb dL_tagsFit_190 rfl (lv_at hl 3 rfl) ?_
  refine lv_if_ne (tgt := 228) hx hb dL_tagsFit_191 (by decide) (fun h => absurd h (fun z => z rfl)) (fun _ => ?_)
  refine lv_iload_n hx hb dL_tagsFit_194 rfl (lv_at hl 2 rfl) ?_
  refine z_ldc (v := (1000000)) (v' := nI 1000000) hx hb hown (hts (.constant RL 38 (1000000)) (by decide +kernel)) dL_tagsFit_195 rfl ?_
  refine z_div (v := nI e) hx hb dL_tagsFit_197 (by decide) (by rw [pk_div (by omega) (by decide) (by decide), tgK_ep hv hB hn]) ?_
  refine lv_aload_n hx hb dL_tagsFit_198 rfl (lv_at hl 4 rfl) ?_
  refine lv_iconst (v := nI 3) hx hb dL_tagsFit_199 (by decide) ?_
  refine z_qV (As := [.int (nI 3)]) (rest := [.int (nI e)]) F (q_cnt 3 (by omega)) (cwV 1 hts gL_tagsFit_X3_count rfl rfl rfl (by decide +kernel) ⟨Nat.le_of_ble_eq_true rfl, Nat.le_of_ble_eq_true rfl⟩) hKK hw0 hP hD hS hA rfl hl.1 rfl (Nat.le_of_ble_eq_true rfl) ⟨Nat.zero_le _, Nat.zero_le _⟩ dL_tagsFit_200 (fun H locs hP hD hS => ?_)
  refine z_top (v := nI e) rfl ?_
  refine lv_icmp_ne (tgt := 242) hx hb dL_tagsFit_203 (by decide) (fun h => absurd h (fun z => z rfl)) (fun _ => ?_)
  refine lv_aload_n hx hb dL_tagsFit_206 rfl (lv_at hl 4 rfl) ?_
  refine lv_iload_n hx hb dL_tagsFit_207 rfl (lv_at hl 2 rfl) ?_
  refine z_qV (As := [.int (nI (tgK v e n))]) (rest := []) F (q_fol _) (cwV 1 hts gL_tagsFit_X3_follow rfl rfl rfl (by decide +kernel) ⟨Nat.le_of_ble_eq_true rfl, Nat.le_of_ble_eq_true rfl⟩) hKK hw0 hP hD hS hA rfl hl.1 rfl (Nat.le_of_ble_eq_true rfl) ⟨Nat.zero_le _, Nat.zero_le _⟩ dL_tagsFit_208 (fun H locs hP hD hS => ?_)
  refine z_top (v := nI (tgK v e n)) (fol_y hv hB hn h0) ?_
  refine lv_iload_n hx hb dL_tagsFit_211 rfl (lv_at hl 2 rfl) ?_
  refine lv_icmp_ne (tgt := 242) hx hb dL_tagsFit_212 (by decide) (fun h => absurd h (fun z => z rfl)) (fun _ => ?_)
  refine lv_aload_n hx hb dL_tagsFit_215 rfl (lv_at hl 4 rfl) ?_
  refine lv_iload_n hx hb dL_tagsFit_216 rfl (lv_at hl 2 rfl) ?_
  refine z_qV (As := [.int (nI (tgK v e n))]) (rest := []) F (q_nam _) (cwV 1 hts gL_tagsFit_X3_nameOf rfl rfl rfl (by decide +kernel) ⟨Nat.le_of_ble_eq_true rfl, Nat.le_of_ble_eq_true rfl⟩) hKK hw0 hP hD hS hA rfl hl.1 rfl (Nat.le_of_ble_eq_true rfl) ⟨Nat.zero_le _, Nat.zero_le _⟩ dL_tagsFit_217 (fun H locs hP hD hS => ?_)
  refine z_top (v := v 0 n) (nam_y hv hB hn h0) ?_
  refine lv_aload_n hx hb dL_tagsFit_220 rfl (lv_at hl 4 rfl) ?_
  refine lv_iload_n hx hb dL_tagsFit_221 rfl (lv_at hl 5 rfl) ?_
  refine z_qV (As := [.int (nI t)]) (rest := [.int (v 0 n)]) F (q_nam _) (cwV 1 hts gL_tagsFit_X3_nameOf rfl rfl rfl (by decide +kernel) ⟨Nat.le_of_ble_eq_true rfl, Nat.le_of_ble_eq_true rfl⟩) hKK hw0 hP hD hS hA rfl hl.1 rfl (Nat.le_of_ble_eq_true rfl) ⟨Nat.zero_le _, Nat.zero_le _⟩ dL_tagsFit_222 (fun H locs hP hD hS => ?_)
  refine z_top (v := v 0 n) hnm ?_
  refine lv_icmp_ne (tgt := 242) hx hb dL_tagsFit_225 (by decide) (fun h => absurd h (fun z => z rfl)) (fun _ => ?_)
  refine lv_iload_n hx hb dL_tagsFit_228 rfl (lv_at hl 3 rfl) ?_
  refine lv_iconst (v := nI 4) hx hb dL_tagsFit_229 (by decide) ?_
  refine lv_icmp_ne (tgt := 238) hx hb dL_tagsFit_230 (by decide) (fun _ => ?_) (fun h => absurd h (by decide))
  refine lv_iconst (v := nI 1) hx hb dL_tagsFit_238 (by decide) ?_
  refine lv_goto (tgt := 243) hx hb dL_tagsFit_239 (by decide) ?_
  exact z_zret hx hb hr hlk hP hD hS dL_tagsFit_243 rfl rfl rfl

theorem c_L_tagsFit (l : Launch) (G : ZG) (o : Nat) (w : va_W) (v : Mem) (e B : Nat) (hQ : QS l G o w v e) (hX : okX v e B) (hB : B < 10000) (x : Int32) : CI l G yL_tagsFit wsL_tagsFit (zRm 3 70) [.ref o, .int x] w (nI 1) w := by
  have hv := hX.1
  have hC := hX.2.1
  by_cases hx0 : x < 0
  · obtain ⟨h1, h2, h3⟩ := wfn_neg (k := 1) (show zSta v e x = -nI 1 from sta_neg hx0) (by omega) (by omega)
    exact c_L_tagsFit_neg l G o w v e B hQ hX hB x hx0 h1 h2 h3
  · obtain ⟨t, ht, rfl⟩ := nI_of hx0
    by_cases hno : noTg e t
    · obtain ⟨h1, h2, h3⟩ := wfn_neg (k := 1) (show zSta v e (nI t) = -nI 1 from sta_1 ht hno) (by omega) (by omega)
      exact c_L_tagsFit_no l G o w v e B hQ hX hB t ht hno h1 h2 h3
    · have h40 : t % 100 < 40 := Nat.lt_of_not_le (fun z => hno (Or.inl z))
      have hep : t / 1000000 ≤ e := Nat.le_of_not_lt (fun z => hno (Or.inr z))
      by_cases h2 : t / 1000000 + 3 < e
      · obtain ⟨h3, h4, h5⟩ := wfn_neg (k := 2) (show zSta v e (nI t) = -nI 2 from sta_2 ht hno h2) (by omega) (by omega)
        exact c_L_tagsFit_s2 l G o w v e B hQ hX hB t ht h40 hep h2 h3 h4 h5
      · obtain ⟨n1, n2⟩ := sta_3 (v := v) ht hno h2
        rcases sta_cases hv hC hB (nI t) with ⟨n, hn, hz, h0⟩ | ⟨k, hk1, hk4, hz⟩
        · obtain ⟨h3, h4, h5⟩ := wfn_pos hv hB hn hz
          exact c_L_tagsFit_st l G o w v e B hQ hX hB t ht h40 hep h2 n hn h0 h3 h4 h5
        · have hk3 : 3 ≤ k := by
            rcases (show k = 1 ∨ k = 2 ∨ 3 ≤ k by omega) with r | r | r
            · subst r; exact absurd hz n1
            · subst r; exact absurd hz n2
            · exact r
          obtain ⟨h3, h4, h5⟩ := wfn_neg hz hk1 hk4
          exact c_L_tagsFit_s34 l G o w v e B hQ hX hB t ht h40 hep h2 k hk3 hk4 h3 h4 h5
