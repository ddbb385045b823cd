/-- the trace of an object -/
def trF (h : Int64) (f : Nat → Int32) : Nat → Int64
  | 0 => h
  | k + 1 => 31 * trF h f k + (f k).toInt64
def trN (v : Mem) (h : Int64) : Nat → Int64
  | 0 => h
  | n + 1 => trF (trN v h n) (numA v n) 5
def tA (v : Mem) (e : Nat) : Nat → Int64 := trF 3 (cnA v e)
def tB (v : Mem) (e : Nat) : Nat → Int64 := trN v (tA v e 9)
def tI (v : Mem) (e n : Nat) : Nat → Int64 := trF (tB v e n) (numA v n)
def tC (v : Mem) (e : Nat) : Nat → Int64 := trF (tB v e 40) (celA v)
def tD (v : Mem) (e : Nat) : Nat → Int64 := trF (tC v e 18) (fun k => cmpA v e (k / 4) (k % 4))
def trK (v : Mem) (e : Nat) : Int64 := tD v e 12
section TE
variable (v : Mem) (e : Nat)
theorem tA_0 : tA v e 0 = 3 := by rw [tA, trF]
theorem tA_s (i : Nat) : tA v e (i + 1) = 31 * tA v e i + (cnA v e i).toInt64 := by rw [tA, trF]
theorem tB_0 : tB v e 0 = tA v e 9 := by rw [tB, trN]
theorem tI_0 (n : Nat) : tI v e n 0 = tB v e n := by rw [tI, trF]
theorem tI_s (n k : Nat) : tI v e n (k + 1) = 31 * tI v e n k + (numA v n k).toInt64 := by rw [tI, trF]
theorem tB_s (n : Nat) : tB v e (n + 1) = tI v e n 5 := by rw [tB, trN, tI, tB]
theorem tC_0 : tC v e 0 = tB v e 40 := by rw [tC, trF]
theorem tC_s (k : Nat) : tC v e (k + 1) = 31 * tC v e k + (celA v k).toInt64 := by rw [tC, trF]
theorem tD_0 : tD v e 0 = tC v e 18 := by rw [tD, trF]
theorem tD_s (k : Nat) : tD v e (k + 1) = 31 * tD v e k + (cmpA v e (k / 4) (k % 4)).toInt64 := by rw [tD, trF]
end TE
theorem trF_cong {h h' : Int64} {f g : Nat → Int32} : ∀ (n : Nat), h = h' → (∀ k, k < n → f k = g k) → trF h f n = trF h' g n
  | 0, e, _ => e
  | n + 1, e, q => by rw [trF, trF, trF_cong n e (fun k hk => q k (by omega)), q n (by omega)]
theorem trN_cong {v w : Mem} {h h' : Int64} : ∀ (n : Nat), h = h' → (∀ m k, m < n → k < 5 → numA v m k = numA w m k) → trN v h n = trN w h' n
  | 0, e, _ => e
  | n + 1, e, q => by
    rw [trN, trN]
    exact trF_cong 5 (trN_cong n e (fun m k hm hk => q m k (by omega) hk)) (fun k hk => q n k (by omega) hk)
section TS
variable {v w : Mem}
theorem tgA_same (h : same v w) {n : Nat} (hn : n < 40) : tgA v n = tgA w n := by
  unfold tgA
  rw [same_12 h (show 0 < 3 by omega), (h.1 n hn).2.2]
theorem zTp_same (h : same v w) : ∀ n, n ≤ 40 → zTp v n = zTp w n
  | 0, _ => rfl
  | n + 1, hn => by rw [zTp, zTp, (h.1 n (by omega)).1, zTp_same h n (by omega)]
theorem zTp_40 (v : Mem) : ∀ n, zTp v n ≤ n
  | 0 => Nat.le_refl 0
  | n + 1 => by
    have := zTp_40 v n
    rw [zTp]
    split <;> omega
theorem cntA_same (h : same v w) (e k : Nat) : cnA v e k = cnA w e k := by
  unfold cnA
  rw [ct_same h (Nat.le_refl 40), zSm_cong 40 (fun i hi => (h.1 i hi).2.1), zCells_same h, zTp_same h 40 (Nat.le_refl 40), ct_same h (zTp_40 w 40), same_12 h (show 1 < 3 by omega), same_12 h (show 2 < 3 by omega)]
theorem numA_same (h : same v w) {n : Nat} (hn : n < 40) (k : Nat) : numA v n k = numA w n k := by
  unfold numA
  rw [(h.1 n hn).1, (h.1 n hn).2.1, (h.1 n hn).2.2, zCells_same h, tgA_same h hn]
theorem celA_same {e B : Nat} (hv : okV w e B) (h : same v w) {k : Nat} (hk : k < 18) : celA v k = celA w k := by
  unfold celA
  rw [h.2.1 k hk]
  rcases hv.2.2.2.2.1 k hk with z | ⟨n, hn, z⟩
  · rw [if_pos z, if_pos z]
  · rw [z, if_neg (nI_nm1 (by omega)), if_neg (nI_nm1 (by omega)), nI_clamp (by omega)]
    exact tgA_same h hn
theorem zFol_same (h : same v w) : ∀ (k d n : Nat) (y : Int32), n < 40 → zFol v k d n y = zFol w k d n y
  | 0, d, n, y, hn => by rw [zFol, zFol, (h.1 n hn).1, (h.1 n hn).2.2]
  | k + 1, d, n, y, hn => by
    have h3 : d % 3 < 3 := Nat.mod_lt _ (by decide)
    obtain ⟨a7, a8, -⟩ := h.2.2.2 (d % 3 * 40 + n) (by omega)
    rw [zFol, zFol, a7, a8]
    by_cases z : zBel (w 8 (d % 3 * 40 + n)) 40 = true
    · obtain ⟨q, hq, hqe⟩ := zBel_of (by decide) z
      rw [if_pos z, if_pos z, hqe, nI_clamp (by omega), (h.2.2.2 (d % 3 * 40 + q) (by omega)).2.2, zFol_same h k (d + 1) q _ hq]
    · rw [if_neg z, if_neg z]
theorem zSta_same (h : same v w) (e : Nat) (x : Int32) : zSta v e x = zSta w e x := by
  unfold zSta zStaN
  by_cases h0 : x < 0
  · rw [if_pos h0, if_pos h0]
  · rw [if_neg h0, if_neg h0]
    by_cases h1 : 40 ≤ x.toNatClampNeg % 100
    · rw [if_pos h1, if_pos h1]
    · rw [if_neg h1, if_neg h1, zFol_same h _ _ _ _ (by omega)]
theorem cmpA_same (h : same v w) (e n k : Nat) : cmpA v e n k = cmpA w e n k := by
  unfold cmpA
  have h3 : (e - 1 - n) % 3 < 3 := Nat.mod_lt _ (by decide)
  obtain ⟨a4, a5, a6, -⟩ := h.2.2.1 _ h3
  have hc : fb_ct (pSt v e (e - 1 - n)) 40 = fb_ct (pSt w e (e - 1 - n)) 40 := by
    refine fb_ct_cong (fun i hi => ?_)
    obtain ⟨a7, a8, -⟩ := h.2.2.2 ((e - 1 - n) % 3 * 40 + i) (by omega)
    unfold pSt
    rw [a7, a8, zSta_same h]
  rw [a4, a5, a6, hc]
theorem trK_same {e B : Nat} (hv : okV w e B) (h : same v w) : trK v e = trK w e := by
  unfold trK tD tC tB tA
  refine trF_cong 12 (trF_cong 18 (trN_cong 40 (trF_cong 9 rfl (fun k _ => cntA_same h e k)) (fun m k hm _ => numA_same h hm k)) (fun k hk => celA_same hv h hk)) (fun k _ => cmpA_same h e _ _)
end TS

set_option maxHeartbeats 4000000 in
set_option maxRecDepth 100000 in
theorem c_L_trace (l : Launch) (G : ZG) (o : Nat) (w : va_W) (v : Mem) (e B : Nat) (hQ : QS l G o w v e) (hX : okX v e B) (hB : B < 10000) : CL l G yL_trace wsL_trace (zRm 4 96) [.ref o] w (trK v e) := by
  refine CL.ent (cc := cL_trace) (maxL := 5) (own := RL) (by decide) rfl rfl (Nat.le_of_ble_eq_true rfl) ?_
  intro p ee s m args below meth c A ls F hr hlk hKK hP hD hA hS hl
  obtain ⟨hx, hb, hml, hown, hts⟩ := id F
  have hl : lv_has ls 5 [(0, .ref o)] := hl
  obtain ⟨⟨fs, hw0⟩, q_cnt, q_num, q_cel, q_cmp, q_cm3, q_fnd, q_why, q_fol, q_nam, q_beg, q_wb, q_nat, q_bh⟩ := id hQ
  have hv := hX.1
  have hC := hX.2.1
  have he9 := hv.1.2
  refine lv_ldc2 (v := 3) hx hb hown (hts (.constantLong RL 17 3) (by decide +kernel)) dL_trace_0 ?_
  refine lv_lstore_n (lv' := [(1, .long 3), (0, .ref o)]) hx hb dL_trace_3 rfl hl (by decide) rfl (fun ls hl => ?_)
  refine lv_iconst (v := nI 0) hx hb dL_trace_4 (by decide) ?_
  refine lv_istore_n (lv' := [(3, .int (nI 0)), (1, .long 3), (0, .ref o)]) hx hb dL_trace_5 rfl hl (by decide) rfl (fun ls hl => ?_)
  have key_6 : ∀ (nn : Nat) (i : Nat), (i ≤ 9) → 9 - i < nn → ∀ (H : Heap) (locs : List Loc) (ls : Array Slot), va_P G.1 vwCl w H → va_D A w → va_S A s.heap H locs → lv_has ls 5 [(1, .long (tA v e i)), (3, .int (nI i)), (0, .ref o)] → W p l ee (zRm 4 96) s m args below meth c H locs 0 0 (MQ below (ZQl G A w (trK v e)) args s 0 0 A) (F0 m 6 ls []) := by
    intro nn
    induction nn with
    | zero => intro i _ h; exact absurd h (Nat.not_lt_zero _)
    | succ nn ih_6 =>
      intro i hi hm_6 H locs ls hP hD hS hl
      refine lv_iload_n hx hb dL_trace_6 rfl (lv_at hl 1 rfl) ?_
      refine lv_bipush (v := nI 9) hx hb dL_trace_7 (by decide) ?_
      refine z_ge (tgt := 31) hx hb dL_trace_9 (by decide) (by omega) (by omega) (fun c_a => ?_) (fun c_a => ?_)
      · skip
        have e9 : i = 9 := by omega
        subst e9
        refine lv_iconst (v := nI 0) hx hb dL_trace_31 (by decide) ?_
        refine lv_istore_n (lv' := [(3, .int (nI 0)), (1, .long (tA v e 9)), (0, .ref o)]) hx hb dL_trace_32 rfl hl (by decide) rfl (fun ls hl => ?_)
        have key_33 : ∀ (nn : Nat) (n : Nat), (n ≤ 40) → 40 - n < nn → ∀ (H : Heap) (locs : List Loc) (ls : Array Slot), va_P G.1 vwCl w H → va_D A w → va_S A s.heap H locs → lv_has ls 5 [(1, .long (tB v e n)), (3, .int (nI n)), (0, .ref o)] → W p l ee (zRm 4 96) s m args below meth c H locs 0 0 (MQ below (ZQl G A w (trK v e)) args s 0 0 A) (F0 m 33 ls []) := by
          intro nn
          induction nn with
          | zero => intro n _ h; exact absurd h (Nat.not_lt_zero _)
          | succ nn ih_33 =>
            intro n hn hm_33 H locs ls hP hD hS hl
            refine lv_iload_n hx hb dL_trace_33 rfl (lv_at hl 1 rfl) ?_
            refine lv_bipush (v := nI 40) hx hb dL_trace_34 (by decide) ?_
            refine z_ge (tgt := 75) hx hb dL_trace_36 (by decide) (by omega) (by omega) (fun c_b => ?_) (fun c_b => ?_)
            · skip
              have e9 : n = 40 := by omega
              subst e9
              refine lv_iconst (v := nI 0) hx hb dL_trace_75 (by decide) ?_
              refine lv_istore_n (lv' := [(3, .int (nI 0)), (1, .long (tB v e 40)), (0, .ref o)]) hx hb dL_trace_76 rfl hl (by decide) rfl (fun ls hl => ?_)
              have key_77 : ∀ (nn : Nat) (j : Nat), (j ≤ 18) → 18 - j < nn → ∀ (H : Heap) (locs : List Loc) (ls : Array Slot), va_P G.1 vwCl w H → va_D A w → va_S A s.heap H locs → lv_has ls 5 [(1, .long (tC v e j)), (3, .int (nI j)), (0, .ref o)] → W p l ee (zRm 4 96) s m args below meth c H locs 0 0 (MQ below (ZQl G A w (trK v e)) args s 0 0 A) (F0 m 77 ls []) := by
                intro nn
                induction nn with
                | zero => intro j _ h; exact absurd h (Nat.not_lt_zero _)
                | succ nn ih_77 =>
                  intro j hj hm_77 H locs ls hP hD hS hl
                  refine lv_iload_n hx hb dL_trace_77 rfl (lv_at hl 1 rfl) ?_
                  refine lv_bipush (v := nI 18) hx hb dL_trace_78 (by decide) ?_
                  refine z_ge (tgt := 109) hx hb dL_trace_80 (by decide) (by omega) (by omega) (fun c_f => ?_) (fun c_f => ?_)
                  · skip
                    have e9 : j = 18 := by omega
                    subst e9
                    refine lv_iconst (v := nI 0) hx hb dL_trace_109 (by decide) ?_
                    refine lv_istore_n (lv' := [(3, .int (nI 0)), (1, .long (tC v e 18)), (0, .ref o)]) hx hb dL_trace_110 rfl hl (by decide) rfl (fun ls hl => ?_)
                    have key_111 : ∀ (nn : Nat) (x : Nat), (x ≤ 12) → 12 - x < nn → ∀ (H : Heap) (locs : List Loc) (ls : Array Slot), va_P G.1 vwCl w H → va_D A w → va_S A s.heap H locs → lv_has ls 5 [(1, .long (tD v e x)), (3, .int (nI x)), (0, .ref o)] → W p l ee (zRm 4 96) s m args below meth c H locs 0 0 (MQ below (ZQl G A w (trK v e)) args s 0 0 A) (F0 m 111 ls []) := by
                      intro nn
                      induction nn with
                      | zero => intro x _ h; exact absurd h (Nat.not_lt_zero _)
                      | succ nn ih_111 =>
                        intro x hx9 hm_111 H locs ls hP hD hS hl
                        refine lv_iload_n hx hb dL_trace_111 rfl (lv_at hl 1 rfl) ?_
                        refine lv_bipush (v := nI 12) hx hb dL_trace_112 (by decide) ?_
                        refine z_ge (tgt := 141) hx hb dL_trace_114 (by decide) (by omega) (by omega) (fun c_g => ?_) (fun c_g => ?_)
                        · skip
                          have e9 : x = 12 := by omega
                          subst e9
                          refine lv_lload_n hx hb dL_trace_141 rfl (lv_at hl 0 rfl) ?_
                          exact z_lret hx hb hr hlk hP hD hS dL_trace_142 (by rw [trK]) rfl
                        · skip
                          refine lv_ldc2 (v := 31) hx hb hown (hts (.constantLong RL 19 31) (by decide +kernel)) dL_trace_117 ?_
                          refine lv_lload_n hx hb dL_trace_120 rfl (lv_at hl 0 rfl) ?_
                          refine lv_lmul hx hb dL_trace_121 ?_
                          refine lv_aload_n hx hb dL_trace_122 rfl (lv_at hl 2 rfl) ?_
                          refine lv_iload_n hx hb dL_trace_123 rfl (lv_at hl 1 rfl) ?_
                          refine lv_iconst (v := nI 4) hx hb dL_trace_124 (by decide) ?_
                          refine z_div (v := nI (x / 4)) hx hb dL_trace_125 (by decide) (pk_div (by omega) (by decide) (by decide)) ?_
                          refine lv_iload_n hx hb dL_trace_126 rfl (lv_at hl 1 rfl) ?_
                          refine lv_iconst (v := nI 4) hx hb dL_trace_127 (by decide) ?_
                          refine z_rem (v := nI (x % 4)) hx hb dL_trace_128 (by decide) (pk_rem (by omega) (by decide) (by decide)) ?_
                          refine z_qV (As := [.int (nI (x / 4)), .int (nI (x % 4))]) (rest := [.long (31 * (tD v e x))]) F (q_cmp (x / 4) (x % 4) (by omega) (by omega)) (cwV 2 hts gL_trace_X3_compaction rfl rfl rfl (by decide +kernel) ⟨Nat.le_of_ble_eq_true rfl, Nat.le_of_ble_eq_true rfl⟩) hKK hw0 hP hD hS hA rfl hl.1 rfl (Nat.le_of_ble_eq_true rfl) ⟨Nat.zero_le _, Nat.zero_le _⟩ dL_trace_129 (fun H locs hP hD hS => ?_)
                          refine lv_i2l (v := (cmpA v e (x / 4) (x % 4)).toInt64) hx hb dL_trace_132 rfl ?_
                          refine lv_ladd hx hb dL_trace_133 ?_
                          refine lv_lstore_n (lv' := [(1, .long ((31 * (tD v e x)) + ((cmpA v e (x / 4) (x % 4)).toInt64))), (3, .int (nI x)), (0, .ref o)]) hx hb dL_trace_134 rfl hl (by decide) rfl (fun ls hl => ?_)
                          refine lv_iinc (v := nI (x + 1)) (lv' := [(3, .int (nI (x + 1))), (1, .long ((31 * (tD v e x)) + ((cmpA v e (x / 4) (x % 4)).toInt64))), (0, .ref o)]) hx hb dL_trace_135 hl (k := 1) rfl (nI_add _ _) (by decide) rfl (fun ls hl => ?_)
                          refine lv_goto (tgt := 111) hx hb dL_trace_138 (by decide) ?_
                          rw [← tD_s] at hl
                          exact ih_111 (x + 1) (by omega) (by omega) H locs ls hP hD hS (lv_sub hl [1, 0, 2] rfl)
                    rw [← tD_0] at hl
                    exact key_111 13 0 (by omega) (by omega) _ _ _ hP hD hS (lv_sub hl [1, 0, 2] rfl)
                  · skip
                    refine lv_ldc2 (v := 31) hx hb hown (hts (.constantLong RL 19 31) (by decide +kernel)) dL_trace_83 ?_
                    refine lv_lload_n hx hb dL_trace_86 rfl (lv_at hl 0 rfl) ?_
                    refine lv_lmul hx hb dL_trace_87 ?_
                    refine lv_aload_n hx hb dL_trace_88 rfl (lv_at hl 2 rfl) ?_
                    refine lv_iload_n hx hb dL_trace_89 rfl (lv_at hl 1 rfl) ?_
                    refine lv_bipush (v := nI 6) hx hb dL_trace_90 (by decide) ?_
                    refine z_div (v := nI (j / 6)) hx hb dL_trace_92 (by decide) (pk_div (by omega) (by decide) (by decide)) ?_
                    refine lv_iload_n hx hb dL_trace_93 rfl (lv_at hl 1 rfl) ?_
                    refine lv_bipush (v := nI 6) hx hb dL_trace_94 (by decide) ?_
                    refine z_rem (v := nI (j % 6)) hx hb dL_trace_96 (by decide) (pk_rem (by omega) (by decide) (by decide)) ?_
                    refine z_qV (As := [.int (nI (j / 6)), .int (nI (j % 6))]) (rest := [.long (31 * (tC v e j))]) F (q_cel j (by omega)) (cwV 2 hts gL_trace_X3_cellOf rfl rfl rfl (by decide +kernel) ⟨Nat.le_of_ble_eq_true rfl, Nat.le_of_ble_eq_true rfl⟩) hKK hw0 hP hD hS hA rfl hl.1 rfl (Nat.le_of_ble_eq_true rfl) ⟨Nat.zero_le _, Nat.zero_le _⟩ dL_trace_97 (fun H locs hP hD hS => ?_)
                    refine lv_i2l (v := (celA v j).toInt64) hx hb dL_trace_100 rfl ?_
                    refine lv_ladd hx hb dL_trace_101 ?_
                    refine lv_lstore_n (lv' := [(1, .long ((31 * (tC v e j)) + ((celA v j).toInt64))), (3, .int (nI j)), (0, .ref o)]) hx hb dL_trace_102 rfl hl (by decide) rfl (fun ls hl => ?_)
                    refine lv_iinc (v := nI (j + 1)) (lv' := [(3, .int (nI (j + 1))), (1, .long ((31 * (tC v e j)) + ((celA v j).toInt64))), (0, .ref o)]) hx hb dL_trace_103 hl (k := 1) rfl (nI_add _ _) (by decide) rfl (fun ls hl => ?_)
                    refine lv_goto (tgt := 77) hx hb dL_trace_106 (by decide) ?_
                    rw [← tC_s] at hl
                    exact ih_77 (j + 1) (by omega) (by omega) H locs ls hP hD hS (lv_sub hl [1, 0, 2] rfl)
              rw [← tC_0] at hl
              exact key_77 19 0 (by omega) (by omega) _ _ _ hP hD hS (lv_sub hl [1, 0, 2] rfl)
            · skip
              refine lv_iconst (v := nI 0) hx hb dL_trace_39 (by decide) ?_
              refine lv_istore (lv' := [(4, .int (nI 0)), (1, .long (tB v e n)), (3, .int (nI n)), (0, .ref o)]) hx hb dL_trace_40 hl (by decide) rfl (fun ls hl => ?_)
              have key_42 : ∀ (nn : Nat) (k : Nat), (k ≤ 5) → 5 - k < nn → ∀ (H : Heap) (locs : List Loc) (ls : Array Slot), va_P G.1 vwCl w H → va_D A w → va_S A s.heap H locs → lv_has ls 5 [(1, .long (tI v e n k)), (3, .int (nI n)), (4, .int (nI k)), (0, .ref o)] → W p l ee (zRm 4 96) s m args below meth c H locs 0 0 (MQ below (ZQl G A w (trK v e)) args s 0 0 A) (F0 m 42 ls []) := by
                intro nn
                induction nn with
                | zero => intro k _ h; exact absurd h (Nat.not_lt_zero _)
                | succ nn ih_42 =>
                  intro k hk hm_42 H locs ls hP hD hS hl
                  refine lv_iload hx hb dL_trace_42 (lv_at hl 2 rfl) ?_
                  refine lv_iconst (v := nI 5) hx hb dL_trace_44 (by decide) ?_
                  refine z_ge (tgt := 69) hx hb dL_trace_45 (by decide) (by omega) (by omega) (fun c_d => ?_) (fun c_d => ?_)
                  · skip
                    have e9 : k = 5 := by omega
                    subst e9
                    refine lv_iinc (v := nI (n + 1)) (lv' := [(3, .int (nI (n + 1))), (1, .long (tI v e n 5)), (4, .int (nI 5)), (0, .ref o)]) hx hb dL_trace_69 hl (k := 1) rfl (nI_add _ _) (by decide) rfl (fun ls hl => ?_)
                    refine lv_goto (tgt := 33) hx hb dL_trace_72 (by decide) ?_
                    rw [← tB_s] at hl
                    exact ih_33 (n + 1) (by omega) (by omega) H locs ls hP hD hS (lv_sub hl [1, 0, 3] rfl)
                  · skip
                    refine lv_ldc2 (v := 31) hx hb hown (hts (.constantLong RL 19 31) (by decide +kernel)) dL_trace_48 ?_
                    refine lv_lload_n hx hb dL_trace_51 rfl (lv_at hl 0 rfl) ?_
                    refine lv_lmul hx hb dL_trace_52 ?_
                    refine lv_aload_n hx hb dL_trace_53 rfl (lv_at hl 3 rfl) ?_
                    refine lv_iload_n hx hb dL_trace_54 rfl (lv_at hl 1 rfl) ?_
                    refine lv_iload hx hb dL_trace_55 (lv_at hl 2 rfl) ?_
                    refine z_qV (As := [.int (nI n), .int (nI k)]) (rest := [.long (31 * (tI v e n k))]) F (q_num n k (by omega) (by omega)) (cwV 2 hts gL_trace_X3_numberOf rfl rfl rfl (by decide +kernel) ⟨Nat.le_of_ble_eq_true rfl, Nat.le_of_ble_eq_true rfl⟩) hKK hw0 hP hD hS hA rfl hl.1 rfl (Nat.le_of_ble_eq_true rfl) ⟨Nat.zero_le _, Nat.zero_le _⟩ dL_trace_57 (fun H locs hP hD hS => ?_)
                    refine lv_i2l (v := (numA v n k).toInt64) hx hb dL_trace_60 rfl ?_
                    refine lv_ladd hx hb dL_trace_61 ?_
                    refine lv_lstore_n (lv' := [(1, .long ((31 * (tI v e n k)) + ((numA v n k).toInt64))), (3, .int (nI n)), (4, .int (nI k)), (0, .ref o)]) hx hb dL_trace_62 rfl hl (by decide) rfl (fun ls hl => ?_)
                    refine lv_iinc (v := nI (k + 1)) (lv' := [(4, .int (nI (k + 1))), (1, .long ((31 * (tI v e n k)) + ((numA v n k).toInt64))), (3, .int (nI n)), (0, .ref o)]) hx hb dL_trace_63 hl (k := 2) rfl (nI_add _ _) (by decide) rfl (fun ls hl => ?_)
                    refine lv_goto (tgt := 42) hx hb dL_trace_66 (by decide) ?_
                    rw [← tI_s] at hl
                    exact ih_42 (k + 1) (by omega) (by omega) H locs ls hP hD hS (lv_sub hl [1, 2, 0, 3] rfl)
              rw [← tI_0] at hl
              exact key_42 6 0 (by omega) (by omega) _ _ _ hP hD hS (lv_sub hl [1, 2, 0, 3] rfl)
        rw [← tB_0] at hl
        exact key_33 41 0 (by omega) (by omega) _ _ _ hP hD hS (lv_sub hl [1, 0, 2] rfl)
      · skip
        refine lv_ldc2 (v := 31) hx hb hown (hts (.constantLong RL 19 31) (by decide +kernel)) dL_trace_12 ?_
        refine lv_lload_n hx hb dL_trace_15 rfl (lv_at hl 0 rfl) ?_
        refine lv_lmul hx hb dL_trace_16 ?_
        refine lv_aload_n hx hb dL_trace_17 rfl (lv_at hl 2 rfl) ?_
        refine lv_iload_n hx hb dL_trace_18 rfl (lv_at hl 1 rfl) ?_
        refine z_qV (As := [.int (nI i)]) (rest := [.long (31 * (tA v e i))]) F (q_cnt i (by omega)) (cwV 1 hts gL_trace_X3_count rfl rfl rfl (by decide +kernel) ⟨Nat.le_of_ble_eq_true rfl, Nat.le_of_ble_eq_true rfl⟩) hKK hw0 hP hD hS hA rfl hl.1 rfl (Nat.le_of_ble_eq_true rfl) ⟨Nat.zero_le _, Nat.zero_le _⟩ dL_trace_19 (fun H locs hP hD hS => ?_)
        refine lv_i2l (v := (cnA v e i).toInt64) hx hb dL_trace_22 rfl ?_
        refine lv_ladd hx hb dL_trace_23 ?_
        refine lv_lstore_n (lv' := [(1, .long ((31 * (tA v e i)) + ((cnA v e i).toInt64))), (3, .int (nI i)), (0, .ref o)]) hx hb dL_trace_24 rfl hl (by decide) rfl (fun ls hl => ?_)
        refine lv_iinc (v := nI (i + 1)) (lv' := [(3, .int (nI (i + 1))), (1, .long ((31 * (tA v e i)) + ((cnA v e i).toInt64))), (0, .ref o)]) hx hb dL_trace_25 hl (k := 1) rfl (nI_add _ _) (by decide) rfl (fun ls hl => ?_)
        refine lv_goto (tgt := 6) hx hb dL_trace_28 (by decide) ?_
        rw [← tA_s] at hl
        exact ih_6 (i + 1) (by omega) (by omega) H locs ls hP hD hS (lv_sub hl [1, 0, 2] rfl)
  rw [← tA_0] at hl
  exact key_6 10 0 (by omega) (by omega) _ _ _ hP hD hS (lv_sub hl [1, 0, 2] rfl)
