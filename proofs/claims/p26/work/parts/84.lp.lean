set_option maxHeartbeats 4000000 in
set_option maxRecDepth 100000 in
theorem law_loop {p : Program} {e : Env} {s : State} {m : MethodId} {below : List Frame} {meth : Method} {c : Code} (l : Launch) (G : ZG) {bs Ls : Nat} {xs : Nat → Int32} (F : CallFix p m c cL_law 10 s #[Value.ref bs] wsL_law RL) (hr : meth.sig.returnType = ret) (hlk : meth.locks = false) (hKK : KK G s) (hX9 : va_X bs Ls xs s s.heap) (hbl : bs < s.heap.size) (hLs : Ls ≤ 260) (o pr q : Nat) (a b d : Nat → Nat) (pa : Nat → Nat → Nat) (S P L : Nat → Nat) (t v u : Mem) (pv : Nat → Mem) (hi : Inv 0 S L t v pv) (H : Heap) (locs : List Loc) (ls : Array Slot) (hP : va_P G.1 vwCl (clW G o pr q a b d (pa, S, P, L, t, v, u, pv)) H) (hD : va_D (fun q : Nat => s.heap.size ≤ q) (clW G o pr q a b d (pa, S, P, L, t, v, u, pv))) (hS : va_S (fun q : Nat => s.heap.size ≤ q) s.heap H locs) (hl : lv_has ls 10 [(0, .ref bs), (1, .ref o), (2, .int (nI 1)), (3, .int (nI 0))]) : W p l e room_1 s m #[Value.ref bs] below meth c H locs 83 3695 (lw_Z below #[Value.ref bs] s) (F0 m 16 ls []) := by
  obtain ⟨hx, hb, hml, hown, hts⟩ := id F
  have hA : ∀ q : Nat, s.heap.size ≤ q → (fun q : Nat => s.heap.size ≤ q) q := fun _ h => h
  have key_16 : ∀ (nn : Nat) (i : Nat) (pa : Nat → Nat → Nat) (S P L : Nat → Nat) (t v u : Mem) (pv : Nat → Mem), (i ≤ 40) → (Inv (122 * i) S L t v pv) → 40 - i < nn → ∀ (H : Heap) (locs : List Loc) (ls : Array Slot), va_P G.1 vwCl (clW G o pr q a b d (pa, S, P, L, t, v, u, pv)) H → va_D (fun q : Nat => s.heap.size ≤ q) (clW G o pr q a b d (pa, S, P, L, t, v, u, pv)) → va_S (fun q : Nat => s.heap.size ≤ q) s.heap H locs → lv_has ls 10 [(0, .ref bs), (1, .ref o), (2, .int (nI 1)), (3, .int (nI i))] → W p l e room_1 s m #[Value.ref bs] below meth c H locs 83 3695 (lw_Z below #[Value.ref bs] s) (F0 m 16 ls []) := by
    intro nn
    induction nn with
    | zero => intro i pa S P L t v u pv _ _ h; exact absurd h (Nat.not_lt_zero _)
    | succ nn ih_16 =>
      intro i pa S P L t v u pv hi40 hi hm_16 H locs ls hP hD hS hl
      obtain ⟨⟨e0, hX⟩, hS4, -⟩ := id hi
      have hQ := qs_mk l G o pr q a b d pa S P L t v u pv hX.1 hX.2.1 (show 122 * i < 10000 by omega)
      refine lv_iload_n hx hb dL_law_16 rfl (lv_at hl 3 rfl) ?_
      refine lv_bipush (v := nI 40) hx hb dL_law_17 (by decide) ?_
      refine z_ge (tgt := 233) hx hb dL_law_19 (by decide) (by omega) (by omega) (fun c_a => ?_) (fun c_a => ?_)
      · skip
        refine lv_iload_n hx hb dL_law_233 rfl (lv_at hl 2 rfl) ?_
        refine z_top (v := 1) rfl ?_
        refine va_forget (fun q hq => hS.2.2 q hq) ?_
        refine W.widen (k := 600000) (n := 7302250) (Nat.le_of_ble_eq_true rfl) (Nat.le_of_ble_eq_true rfl) ?_
        exact lw_ret hx hb hr hlk dL_law_234
      · skip
        refine lv_iload_n hx hb dL_law_22 rfl (lv_at hl 2 rfl) ?_
        refine lv_if_eq (tgt := 233) hx hb dL_law_23 (by decide) (fun h => absurd h (by decide)) (fun _ => ?_)
        refine lv_aload_n hx hb dL_law_26 rfl (lv_at hl 0 rfl) ?_
        refine lv_iconst (v := nI 2) hx hb dL_law_27 (by decide) ?_
        refine lv_iload_n hx hb dL_law_28 rfl (lv_at hl 3 rfl) ?_
        refine z_mul (v := nI (2 * i)) hx hb dL_law_29 (pk_mul _ _) ?_
        refine z_cellX (As := [.ref bs, .int (nI (2 * i))]) (rest := []) F (c_L_cell l G bs Ls xs (by omega) (2 * i) (by omega)) (va_cwS 2 hts gL_law_L_cell rfl rfl rfl (by decide +kernel) ⟨Nat.le_of_ble_eq_true rfl, Nat.le_of_ble_eq_true rfl⟩) hKK hX9 hbl (Nat.not_le.mpr hbl) rfl hP hD hS hA rfl hl.1 rfl (Nat.le_of_ble_eq_true rfl) ⟨Nat.le_of_ble_eq_true rfl, Nat.le_of_ble_eq_true rfl⟩ dL_law_30 (fun r_1 u_1 H locs hq_1 hP hD hS => ?_)
        have hP : va_P G.1 vwCl (clW G o pr q a b d (pa, S, P, L, t, v, u, pv)) H := hP
        have hD : va_D (fun q : Nat => s.heap.size ≤ q) (clW G o pr q a b d (pa, S, P, L, t, v, u, pv)) := hD
        refine lv_istore (lv' := [(4, .int r_1), (0, .ref bs), (1, .ref o), (2, .int (nI 1)), (3, .int (nI i))]) hx hb dL_law_33 hl (by decide) rfl (fun ls hl => ?_)
        refine lv_aload_n hx hb dL_law_35 rfl (lv_at hl 1 rfl) ?_
        refine lv_iconst (v := nI 2) hx hb dL_law_36 (by decide) ?_
        refine lv_iload_n hx hb dL_law_37 rfl (lv_at hl 4 rfl) ?_
        refine z_mul (v := nI (2 * i)) hx hb dL_law_38 (pk_mul _ _) ?_
        refine lv_iconst (v := nI 1) hx hb dL_law_39 (by decide) ?_
        refine z_add (v := nI (2 * i + 1)) hx hb dL_law_40 (nI_add _ _) ?_
        refine z_cellX (As := [.ref bs, .int (nI (2 * i + 1))]) (rest := []) F (c_L_cell l G bs Ls xs (by omega) (2 * i + 1) (by omega)) (va_cwS 2 hts gL_law_L_cell rfl rfl rfl (by decide +kernel) ⟨Nat.le_of_ble_eq_true rfl, Nat.le_of_ble_eq_true rfl⟩) hKK hX9 hbl (Nat.not_le.mpr hbl) rfl hP hD hS hA rfl hl.1 rfl (Nat.le_of_ble_eq_true rfl) ⟨Nat.le_of_ble_eq_true rfl, Nat.le_of_ble_eq_true rfl⟩ dL_law_41 (fun r_2 u_2 H locs hq_2 hP hD hS => ?_)
        have hP : va_P G.1 vwCl (clW G o pr q a b d (pa, S, P, L, t, v, u, pv)) H := hP
        have hD : va_D (fun q : Nat => s.heap.size ≤ q) (clW G o pr q a b d (pa, S, P, L, t, v, u, pv)) := hD
        refine lv_istore (lv' := [(5, .int r_2), (4, .int r_1), (0, .ref bs), (1, .ref o), (2, .int (nI 1)), (3, .int (nI i))]) hx hb dL_law_44 hl (by decide) rfl (fun ls hl => ?_)
        refine lv_aload_n hx hb dL_law_46 rfl (lv_at hl 3 rfl) ?_
        refine z_qSL (As := [.ref o]) (rest := []) F (c_L_trace l G o (clW G o pr q a b d (pa, S, P, L, t, v, u, pv)) v e0 (122 * i) hQ hX (by omega)) (va_cwS 1 hts gL_law_L_trace rfl rfl rfl (by decide +kernel) ⟨Nat.le_of_ble_eq_true rfl, Nat.le_of_ble_eq_true rfl⟩) hKK hP hD hS hA rfl hl.1 rfl (Nat.le_of_ble_eq_true rfl) ⟨Nat.le_of_ble_eq_true rfl, Nat.le_of_ble_eq_true rfl⟩ dL_law_47 (fun H locs hP hD hS => ?_)
        refine lv_lstore (lv' := [(6, .long (trK v e0)), (5, .int r_2), (4, .int r_1), (0, .ref bs), (1, .ref o), (2, .int (nI 1)), (3, .int (nI i))]) hx hb dL_law_50 hl (by decide) rfl (fun ls hl => ?_)
        refine lv_aload_n hx hb dL_law_52 rfl (lv_at hl 4 rfl) ?_
        refine lv_bipush (v := nI 9) hx hb dL_law_53 (by decide) ?_
        refine z_qV (As := [.int (nI 9)]) (rest := []) F (c_X3_count_9 l G o pr q a b d pa S P L t v u pv) (cwV 1 hts gL_law_X3_count rfl rfl rfl (by decide +kernel) ⟨Nat.le_of_ble_eq_true rfl, Nat.le_of_ble_eq_true rfl⟩) hKK rfl hP hD hS hA rfl hl.1 rfl (Nat.le_of_ble_eq_true rfl) ⟨Nat.le_of_ble_eq_true rfl, Nat.le_of_ble_eq_true rfl⟩ dL_law_55 (fun H locs hP hD hS => ?_)
        refine lv_istore (lv' := [(8, .int (nI (S 0))), (6, .long (trK v e0)), (5, .int r_2), (4, .int r_1), (0, .ref bs), (1, .ref o), (2, .int (nI 1)), (3, .int (nI i))]) hx hb dL_law_58 hl (by decide) rfl (fun ls hl => ?_)
        refine lv_aload_n hx hb dL_law_60 rfl (lv_at hl 5 rfl) ?_
        refine lv_iload hx hb dL_law_61 (lv_at hl 3 rfl) ?_
        refine lv_iload hx hb dL_law_63 (lv_at hl 2 rfl) ?_
        refine z_qSE (As := [.ref o, .int r_1, .int r_2]) (rest := []) F (c_L_goes l G o pr q a b d pa S P L t v u pv (122 * i) hi (by omega) r_1 r_2) (va_cwS 3 hts gL_law_L_goes rfl rfl rfl (by decide +kernel) ⟨Nat.le_of_ble_eq_true rfl, Nat.le_of_ble_eq_true rfl⟩) hKK hP hD hS hA rfl hl.1 rfl (Nat.le_of_ble_eq_true rfl) ⟨Nat.le_of_ble_eq_true rfl, Nat.le_of_ble_eq_true rfl⟩ dL_law_65 (fun r_91 u_91 H locs hq_91 hP hD hS => ?_)
        obtain ⟨hi1, hgo⟩ := hq_91
        obtain ⟨pa1, S1, P1, L1, t1, v1, u1, pv1⟩ := u_91
        have hi1 : Inv (122 * i + 61) S1 L1 t1 v1 pv1 := hi1
        have hgo : (erB r_91 = true ∧ same v1 v ∧ S1 0 = S 0) ∨ (erB r_91 = false ∧ ¬ r_91 = nI 1073741824 ∧ S1 0 = svN (S 0) ∧ same (pv1 (svN (S 0) - 1)) v) := hgo
        obtain ⟨⟨e1, hX1⟩, hS41, -⟩ := id hi1
        have hQ1 := qs_mk l G o pr q a b d pa1 S1 P1 L1 t1 v1 u1 pv1 hX1.1 hX1.2.1 (show (122 * i + 61) < 10000 by omega)
        have hP : va_P G.1 vwCl (clW G o pr q a b d (pa1, S1, P1, L1, t1, v1, u1, pv1)) H := hP
        have hD : va_D (fun q : Nat => s.heap.size ≤ q) (clW G o pr q a b d (pa1, S1, P1, L1, t1, v1, u1, pv1)) := hD
        rcases hgo with ⟨her, hsm, hs0⟩ | ⟨her, hbig, hs0, hsm⟩
        · skip
          refine lv_istore (lv' := [(9, .int r_91), (8, .int (nI (S 0))), (6, .long (trK v e0)), (5, .int r_2), (4, .int r_1), (0, .ref bs), (1, .ref o), (2, .int (nI 1)), (3, .int (nI i))]) hx hb dL_law_68 hl (by decide) rfl (fun ls hl => ?_)
          refine lv_iload hx hb dL_law_70 (lv_at hl 0 rfl) ?_
          refine z_ldc (v := (1073741824)) (v' := nI 1073741824) hx hb hown (hts (.constant RL 102 (1073741824)) (by decide +kernel)) dL_law_72 rfl ?_
          refine lv_icmp_eq (tgt := 136) hx hb dL_law_74 (by decide) (fun h => absurd h (fun z => by rw [z, er_nI (by omega)] at her; cases her)) (fun _ => ?_)
          refine lv_iload hx hb dL_law_77 (lv_at hl 0 rfl) ?_
          refine z_qS (As := [.int r_91]) (rest := []) F (c_L_isError l G (clW G o pr q a b d (pa1, S1, P1, L1, t1, v1, u1, pv1)) r_91) (va_cwS 1 hts gL_law_L_isError rfl rfl rfl (by decide +kernel) ⟨Nat.le_of_ble_eq_true rfl, Nat.le_of_ble_eq_true rfl⟩) hKK hP hD hS hA rfl hl.1 rfl (Nat.le_of_ble_eq_true rfl) ⟨Nat.le_of_ble_eq_true rfl, Nat.le_of_ble_eq_true rfl⟩ dL_law_79 (fun H locs hP hD hS => ?_)
          refine z_top (v := nI 1) (by rw [her]; rfl) ?_
          refine lv_if_eq (tgt := 109) hx hb dL_law_82 (by decide) (fun h => absurd h (by decide)) (fun _ => ?_)
          refine lv_aload_n hx hb dL_law_85 rfl (lv_at hl 6 rfl) ?_
          refine z_qSL (As := [.ref o]) (rest := []) F (c_L_trace l G o (clW G o pr q a b d (pa1, S1, P1, L1, t1, v1, u1, pv1)) v1 e1 (122 * i + 61) hQ1 hX1 (by omega)) (va_cwS 1 hts gL_law_L_trace rfl rfl rfl (by decide +kernel) ⟨Nat.le_of_ble_eq_true rfl, Nat.le_of_ble_eq_true rfl⟩) hKK hP hD hS hA rfl hl.1 rfl (Nat.le_of_ble_eq_true rfl) ⟨Nat.le_of_ble_eq_true rfl, Nat.le_of_ble_eq_true rfl⟩ dL_law_86 (fun H locs hP hD hS => ?_)
          refine lv_lload hx hb dL_law_89 (lv_at hl 2 rfl) ?_
          refine W.lcmp hx hb dL_law_91 ?_
          refine z_top (v := nI 0) (lg_eq (tr_eq hX1 hX hsm)) ?_
          refine lv_if_ne (tgt := 136) hx hb dL_law_92 (by decide) (fun h => absurd h (fun z => z rfl)) (fun _ => ?_)
          refine lv_aload_n hx hb dL_law_95 rfl (lv_at hl 6 rfl) ?_
          refine lv_bipush (v := nI 9) hx hb dL_law_96 (by decide) ?_
          refine z_qV (As := [.int (nI 9)]) (rest := []) F (c_X3_count_9 l G o pr q a b d pa1 S1 P1 L1 t1 v1 u1 pv1) (cwV 1 hts gL_law_X3_count rfl rfl rfl (by decide +kernel) ⟨Nat.le_of_ble_eq_true rfl, Nat.le_of_ble_eq_true rfl⟩) hKK rfl hP hD hS hA rfl hl.1 rfl (Nat.le_of_ble_eq_true rfl) ⟨Nat.le_of_ble_eq_true rfl, Nat.le_of_ble_eq_true rfl⟩ dL_law_98 (fun H locs hP hD hS => ?_)
          refine z_top (v := nI (S 0)) (by rw [hs0]) ?_
          refine lv_iload hx hb dL_law_101 (lv_at hl 1 rfl) ?_
          refine lv_icmp_ne (tgt := 136) hx hb dL_law_103 (by decide) (fun h => absurd h (fun z => z rfl)) (fun _ => ?_)
          refine lv_goto (tgt := 132) hx hb dL_law_106 (by decide) ?_
          refine lv_iconst (v := nI 1) hx hb dL_law_132 (by decide) ?_
          refine lv_goto (tgt := 137) hx hb dL_law_133 (by decide) ?_
          refine lv_istore_n (lv' := [(2, .int (nI 1)), (9, .int r_91), (8, .int (nI (S 0))), (6, .long (trK v e0)), (5, .int r_2), (4, .int r_1), (0, .ref bs), (1, .ref o), (3, .int (nI i))]) hx hb dL_law_137 rfl hl (by decide) rfl (fun ls hl => ?_)
          refine lv_iload_n hx hb dL_law_138 rfl (lv_at hl 0 rfl) ?_
          refine lv_if_eq (tgt := 205) hx hb dL_law_139 (by decide) (fun h => absurd h (by decide)) (fun _ => ?_)
          refine lv_iload hx hb dL_law_142 (lv_at hl 1 rfl) ?_
          refine z_qS (As := [.int r_91]) (rest := []) F (c_L_isError l G (clW G o pr q a b d (pa1, S1, P1, L1, t1, v1, u1, pv1)) r_91) (va_cwS 1 hts gL_law_L_isError rfl rfl rfl (by decide +kernel) ⟨Nat.le_of_ble_eq_true rfl, Nat.le_of_ble_eq_true rfl⟩) hKK hP hD hS hA rfl hl.1 rfl (Nat.le_of_ble_eq_true rfl) ⟨Nat.le_of_ble_eq_true rfl, Nat.le_of_ble_eq_true rfl⟩ dL_law_144 (fun H locs hP hD hS => ?_)
          refine z_top (v := nI 1) (by rw [her]; rfl) ?_
          refine lv_if_ne (tgt := 205) hx hb dL_law_147 (by decide) (fun _ => ?_) (fun h => absurd h (nI_ne0 (by omega) (by omega)))
          refine lv_iload_n hx hb dL_law_205 rfl (lv_at hl 0 rfl) ?_
          refine lv_if_eq (tgt := 225) hx hb dL_law_206 (by decide) (fun h => absurd h (by decide)) (fun _ => ?_)
          refine lv_aload_n hx hb dL_law_209 rfl (lv_at hl 7 rfl) ?_
          refine lv_iload hx hb dL_law_210 (lv_at hl 5 rfl) ?_
          refine lv_iload hx hb dL_law_212 (lv_at hl 4 rfl) ?_
          refine lv_ixor hx hb dL_law_214 ?_
          refine z_qS (As := [.ref o, .int (r_1 ^^^ r_2)]) (rest := []) F (c_L_fits l G o (clW G o pr q a b d (pa1, S1, P1, L1, t1, v1, u1, pv1)) v1 e1 (122 * i + 61) hQ1 hX1 (by omega) (r_1 ^^^ r_2)) (va_cwS 2 hts gL_law_L_fits rfl rfl rfl (by decide +kernel) ⟨Nat.le_of_ble_eq_true rfl, Nat.le_of_ble_eq_true rfl⟩) hKK hP hD hS hA rfl hl.1 rfl (Nat.le_of_ble_eq_true rfl) ⟨Nat.le_of_ble_eq_true rfl, Nat.le_of_ble_eq_true rfl⟩ dL_law_215 (fun H locs hP hD hS => ?_)
          refine lv_if_eq (tgt := 225) hx hb dL_law_218 (by decide) (fun h => absurd h (by decide)) (fun _ => ?_)
          refine lv_iconst (v := nI 1) hx hb dL_law_221 (by decide) ?_
          refine lv_goto (tgt := 226) hx hb dL_law_222 (by decide) ?_
          refine lv_istore_n (lv' := [(2, .int (nI 1)), (9, .int r_91), (8, .int (nI (S 0))), (6, .long (trK v e0)), (5, .int r_2), (4, .int r_1), (0, .ref bs), (1, .ref o), (3, .int (nI i))]) hx hb dL_law_226 rfl hl (by decide) rfl (fun ls hl => ?_)
          refine lv_iinc (v := nI (i + 1)) (lv' := [(3, .int (nI (i + 1))), (2, .int (nI 1)), (9, .int r_91), (8, .int (nI (S 0))), (6, .long (trK v e0)), (5, .int r_2), (4, .int r_1), (0, .ref bs), (1, .ref o)]) hx hb dL_law_227 hl (k := 8) rfl (nI_add _ _) (by decide) rfl (fun ls hl => ?_)
          refine lv_goto (tgt := 16) hx hb dL_law_230 (by decide) ?_
          exact ih_16 (i + 1) pa1 S1 P1 L1 t1 v1 u1 pv1 (by omega) (Inv_mono hi1 (by omega)) (by omega) H locs ls hP hD hS (lv_sub hl [7, 8, 1, 0] rfl)
        · skip
          refine lv_istore (lv' := [(9, .int r_91), (8, .int (nI (S 0))), (6, .long (trK v e0)), (5, .int r_2), (4, .int r_1), (0, .ref bs), (1, .ref o), (2, .int (nI 1)), (3, .int (nI i))]) hx hb dL_law_68 hl (by decide) rfl (fun ls hl => ?_)
          refine lv_iload hx hb dL_law_70 (lv_at hl 0 rfl) ?_
          refine z_ldc (v := (1073741824)) (v' := nI 1073741824) hx hb hown (hts (.constant RL 102 (1073741824)) (by decide +kernel)) dL_law_72 rfl ?_
          refine lv_icmp_eq (tgt := 136) hx hb dL_law_74 (by decide) (fun h => absurd h hbig) (fun _ => ?_)
          refine lv_iload hx hb dL_law_77 (lv_at hl 0 rfl) ?_
          refine z_qS (As := [.int r_91]) (rest := []) F (c_L_isError l G (clW G o pr q a b d (pa1, S1, P1, L1, t1, v1, u1, pv1)) r_91) (va_cwS 1 hts gL_law_L_isError rfl rfl rfl (by decide +kernel) ⟨Nat.le_of_ble_eq_true rfl, Nat.le_of_ble_eq_true rfl⟩) hKK hP hD hS hA rfl hl.1 rfl (Nat.le_of_ble_eq_true rfl) ⟨Nat.le_of_ble_eq_true rfl, Nat.le_of_ble_eq_true rfl⟩ dL_law_79 (fun H locs hP hD hS => ?_)
          refine z_top (v := nI 0) (by rw [her]; rfl) ?_
          refine lv_if_eq (tgt := 109) hx hb dL_law_82 (by decide) (fun _ => ?_) (fun h => absurd (by decide) h)
          by_cases hs4 : S 0 = 4
          · skip
            refine lv_aload_n hx hb dL_law_109 rfl (lv_at hl 6 rfl) ?_
            refine lv_bipush (v := nI 9) hx hb dL_law_110 (by decide) ?_
            refine z_qV (As := [.int (nI 9)]) (rest := []) F (c_X3_count_9 l G o pr q a b d pa1 S1 P1 L1 t1 v1 u1 pv1) (cwV 1 hts gL_law_X3_count rfl rfl rfl (by decide +kernel) ⟨Nat.le_of_ble_eq_true rfl, Nat.le_of_ble_eq_true rfl⟩) hKK rfl hP hD hS hA rfl hl.1 rfl (Nat.le_of_ble_eq_true rfl) ⟨Nat.le_of_ble_eq_true rfl, Nat.le_of_ble_eq_true rfl⟩ dL_law_112 (fun H locs hP hD hS => ?_)
            refine z_top (v := nI 4) (by rw [hs0, hs4]; rfl) ?_
            refine lv_iload hx hb dL_law_115 (lv_at hl 1 rfl) ?_
            refine lv_iconst (v := nI 4) hx hb dL_law_117 (by decide) ?_
            refine lv_icmp_ge (tgt := 128) hx hb dL_law_118 (by decide) (fun _ => ?_) (fun h => absurd ((nI_leI (by omega) (by omega)).mpr (by omega)) h)
            refine lv_iconst (v := nI 4) hx hb dL_law_128 (by decide) ?_
            refine lv_icmp_ne (tgt := 136) hx hb dL_law_129 (by decide) (fun h => absurd h (fun z => z rfl)) (fun _ => ?_)
            refine lv_iconst (v := nI 1) hx hb dL_law_132 (by decide) ?_
            refine lv_goto (tgt := 137) hx hb dL_law_133 (by decide) ?_
            refine lv_istore_n (lv' := [(2, .int (nI 1)), (9, .int r_91), (8, .int (nI (S 0))), (6, .long (trK v e0)), (5, .int r_2), (4, .int r_1), (0, .ref bs), (1, .ref o), (3, .int (nI i))]) hx hb dL_law_137 rfl hl (by decide) rfl (fun ls hl => ?_)
            refine lv_iload_n hx hb dL_law_138 rfl (lv_at hl 0 rfl) ?_
            refine lv_if_eq (tgt := 205) hx hb dL_law_139 (by decide) (fun h => absurd h (by decide)) (fun _ => ?_)
            refine lv_iload hx hb dL_law_142 (lv_at hl 1 rfl) ?_
            refine z_qS (As := [.int r_91]) (rest := []) F (c_L_isError l G (clW G o pr q a b d (pa1, S1, P1, L1, t1, v1, u1, pv1)) r_91) (va_cwS 1 hts gL_law_L_isError rfl rfl rfl (by decide +kernel) ⟨Nat.le_of_ble_eq_true rfl, Nat.le_of_ble_eq_true rfl⟩) hKK hP hD hS hA rfl hl.1 rfl (Nat.le_of_ble_eq_true rfl) ⟨Nat.le_of_ble_eq_true rfl, Nat.le_of_ble_eq_true rfl⟩ dL_law_144 (fun H locs hP hD hS => ?_)
            refine z_top (v := nI 0) (by rw [her]; rfl) ?_
            refine lv_if_ne (tgt := 205) hx hb dL_law_147 (by decide) (fun h => absurd h (fun z => z rfl)) (fun _ => ?_)
            refine lv_iload hx hb dL_law_150 (lv_at hl 4 rfl) ?_
            refine lv_iconst (v := nI 3) hx hb dL_law_152 (by decide) ?_
            refine lv_ishr hx hb dL_law_153 ?_
            refine lv_iconst (v := nI 4) hx hb dL_law_154 (by decide) ?_
            refine z_qS (As := [.int (r_2 >>> ((nI 3) &&& 31)), .int (nI 4)]) (rest := []) F (c_L_low l G (clW G o pr q a b d (pa1, S1, P1, L1, t1, v1, u1, pv1)) (r_2 >>> ((nI 3) &&& 31)) 4 (by omega) (by omega)) (va_cwS 2 hts gL_law_L_low rfl rfl rfl (by decide +kernel) ⟨Nat.le_of_ble_eq_true rfl, Nat.le_of_ble_eq_true rfl⟩) hKK hP hD hS hA rfl hl.1 rfl (Nat.le_of_ble_eq_true rfl) ⟨Nat.le_of_ble_eq_true rfl, Nat.le_of_ble_eq_true rfl⟩ dL_law_155 (fun H locs hP hD hS => ?_)
            refine lv_if_ne (tgt := 205) hx hb dL_law_158 (by decide) (fun c_z => ?_) (fun c_z => ?_)
            · skip
              refine lv_iload_n hx hb dL_law_205 rfl (lv_at hl 0 rfl) ?_
              refine lv_if_eq (tgt := 225) hx hb dL_law_206 (by decide) (fun h => absurd h (by decide)) (fun _ => ?_)
              refine lv_aload_n hx hb dL_law_209 rfl (lv_at hl 7 rfl) ?_
              refine lv_iload hx hb dL_law_210 (lv_at hl 5 rfl) ?_
              refine lv_iload hx hb dL_law_212 (lv_at hl 4 rfl) ?_
              refine lv_ixor hx hb dL_law_214 ?_
              refine z_qS (As := [.ref o, .int (r_1 ^^^ r_2)]) (rest := []) F (c_L_fits l G o (clW G o pr q a b d (pa1, S1, P1, L1, t1, v1, u1, pv1)) v1 e1 (122 * i + 61) hQ1 hX1 (by omega) (r_1 ^^^ r_2)) (va_cwS 2 hts gL_law_L_fits rfl rfl rfl (by decide +kernel) ⟨Nat.le_of_ble_eq_true rfl, Nat.le_of_ble_eq_true rfl⟩) hKK hP hD hS hA rfl hl.1 rfl (Nat.le_of_ble_eq_true rfl) ⟨Nat.le_of_ble_eq_true rfl, Nat.le_of_ble_eq_true rfl⟩ dL_law_215 (fun H locs hP hD hS => ?_)
              refine lv_if_eq (tgt := 225) hx hb dL_law_218 (by decide) (fun h => absurd h (by decide)) (fun _ => ?_)
              refine lv_iconst (v := nI 1) hx hb dL_law_221 (by decide) ?_
              refine lv_goto (tgt := 226) hx hb dL_law_222 (by decide) ?_
              refine lv_istore_n (lv' := [(2, .int (nI 1)), (9, .int r_91), (8, .int (nI (S 0))), (6, .long (trK v e0)), (5, .int r_2), (4, .int r_1), (0, .ref bs), (1, .ref o), (3, .int (nI i))]) hx hb dL_law_226 rfl hl (by decide) rfl (fun ls hl => ?_)
              refine lv_iinc (v := nI (i + 1)) (lv' := [(3, .int (nI (i + 1))), (2, .int (nI 1)), (9, .int r_91), (8, .int (nI (S 0))), (6, .long (trK v e0)), (5, .int r_2), (4, .int r_1), (0, .ref bs), (1, .ref o)]) hx hb dL_law_227 hl (k := 8) rfl (nI_add _ _) (by decide) rfl (fun ls hl => ?_)
              refine lv_goto (tgt := 16) hx hb dL_law_230 (by decide) ?_
              exact ih_16 (i + 1) pa1 S1 P1 L1 t1 v1 u1 pv1 (by omega) (Inv_mono hi1 (by omega)) (by omega) H locs ls hP hD hS (lv_sub hl [7, 8, 1, 0] rfl)
            · skip
              refine lv_aload_n hx hb dL_law_161 rfl (lv_at hl 7 rfl) ?_
              refine z_qVE (As := []) (rest := []) F (q_undo2 l G o pr q a b d pa1 S1 P1 L1 t1 v1 u1 pv1 (122 * i + 61) hi1 3 (by rw [hs0, hs4]; rfl)) (cwV 0 hts gL_law_X3_undo rfl rfl rfl (by decide +kernel) ⟨Nat.le_of_ble_eq_true rfl, Nat.le_of_ble_eq_true rfl⟩) hKK rfl hP hD hS hA rfl hl.1 rfl (Nat.le_of_ble_eq_true rfl) ⟨Nat.le_of_ble_eq_true rfl, Nat.le_of_ble_eq_true rfl⟩ dL_law_162 (fun r_92 u_92 H locs hq_92 hP hD hS => ?_)
              obtain ⟨hr92, hi2, hsm2⟩ := hq_92
              obtain ⟨pa2, S2, P2, L2, t2, v2, u2, pv2⟩ := u_92
              have hi2 : Inv (122 * i + 61) S2 L2 t2 v2 pv2 := hi2
              have hsm2 : same v2 (pv1 3) := hsm2
              have hsm3 : same v2 v := same_trans hsm2 (by have h9 := hsm; rw [hs4, show svN 4 - 1 = 3 from rfl] at h9; exact h9)
              obtain ⟨⟨e2, hX2⟩, hS42, -⟩ := id hi2
              have hQ2 := qs_mk l G o pr q a b d pa2 S2 P2 L2 t2 v2 u2 pv2 hX2.1 hX2.2.1 (show (122 * i + 61) < 10000 by omega)
              have hP : va_P G.1 vwCl (clW G o pr q a b d (pa2, S2, P2, L2, t2, v2, u2, pv2)) H := hP
              have hD : va_D (fun q : Nat => s.heap.size ≤ q) (clW G o pr q a b d (pa2, S2, P2, L2, t2, v2, u2, pv2)) := hD
              refine z_top (v := nI 3) hr92 ?_
              refine lv_iload hx hb dL_law_165 (lv_at hl 2 rfl) ?_
              refine lv_iconst (v := nI 4) hx hb dL_law_167 (by decide) ?_
              refine lv_icmp_ge (tgt := 176) hx hb dL_law_168 (by decide) (fun _ => ?_) (fun h => absurd ((nI_leI (by omega) (by omega)).mpr (by omega)) h)
              refine lv_iconst (v := nI 3) hx hb dL_law_176 (by decide) ?_
              refine lv_icmp_ne (tgt := 194) hx hb dL_law_177 (by decide) (fun h => absurd h (fun z => z rfl)) (fun _ => ?_)
              refine lv_aload_n hx hb dL_law_180 rfl (lv_at hl 7 rfl) ?_
              refine z_qSL (As := [.ref o]) (rest := []) F (c_L_trace l G o (clW G o pr q a b d (pa2, S2, P2, L2, t2, v2, u2, pv2)) v2 e2 (122 * i + 61) hQ2 hX2 (by omega)) (va_cwS 1 hts gL_law_L_trace rfl rfl rfl (by decide +kernel) ⟨Nat.le_of_ble_eq_true rfl, Nat.le_of_ble_eq_true rfl⟩) hKK hP hD hS hA rfl hl.1 rfl (Nat.le_of_ble_eq_true rfl) ⟨Nat.le_of_ble_eq_true rfl, Nat.le_of_ble_eq_true rfl⟩ dL_law_181 (fun H locs hP hD hS => ?_)
              refine lv_lload hx hb dL_law_184 (lv_at hl 3 rfl) ?_
              refine W.lcmp hx hb dL_law_186 ?_
              refine z_top (v := nI 0) (lg_eq (tr_eq hX2 hX hsm3)) ?_
              refine lv_if_ne (tgt := 194) hx hb dL_law_187 (by decide) (fun h => absurd h (fun z => z rfl)) (fun _ => ?_)
              refine lv_iconst (v := nI 1) hx hb dL_law_190 (by decide) ?_
              refine lv_goto (tgt := 195) hx hb dL_law_191 (by decide) ?_
              refine lv_istore_n (lv' := [(2, .int (nI 1)), (9, .int r_91), (8, .int (nI (S 0))), (6, .long (trK v e0)), (5, .int r_2), (4, .int r_1), (0, .ref bs), (1, .ref o), (3, .int (nI i))]) hx hb dL_law_195 rfl hl (by decide) rfl (fun ls hl => ?_)
              refine lv_aload_n hx hb dL_law_196 rfl (lv_at hl 7 rfl) ?_
              refine lv_iload hx hb dL_law_197 (lv_at hl 5 rfl) ?_
              refine lv_iload hx hb dL_law_199 (lv_at hl 4 rfl) ?_
              refine z_qSE (As := [.ref o, .int r_1, .int r_2]) (rest := []) F (c_L_goes l G o pr q a b d pa2 S2 P2 L2 t2 v2 u2 pv2 (122 * i + 61) hi2 (by omega) r_1 r_2) (va_cwS 3 hts gL_law_L_goes rfl rfl rfl (by decide +kernel) ⟨Nat.le_of_ble_eq_true rfl, Nat.le_of_ble_eq_true rfl⟩) hKK hP hD hS hA rfl hl.1 rfl (Nat.le_of_ble_eq_true rfl) ⟨Nat.le_of_ble_eq_true rfl, Nat.le_of_ble_eq_true rfl⟩ dL_law_201 (fun r_93 u_93 H locs hq_93 hP hD hS => ?_)
              obtain ⟨hi3, -⟩ := hq_93
              obtain ⟨pa3, S3, P3, L3, t3, v3, u3, pv3⟩ := u_93
              have hi3 : Inv (122 * i + 61 + 61) S3 L3 t3 v3 pv3 := hi3
              obtain ⟨⟨e3, hX3⟩, hS43, -⟩ := id hi3
              have hQ3 := qs_mk l G o pr q a b d pa3 S3 P3 L3 t3 v3 u3 pv3 hX3.1 hX3.2.1 (show (122 * i + 61 + 61) < 10000 by omega)
              have hP : va_P G.1 vwCl (clW G o pr q a b d (pa3, S3, P3, L3, t3, v3, u3, pv3)) H := hP
              have hD : va_D (fun q : Nat => s.heap.size ≤ q) (clW G o pr q a b d (pa3, S3, P3, L3, t3, v3, u3, pv3)) := hD
              refine lv_pop hx hb dL_law_204 rfl ?_
              refine lv_iload_n hx hb dL_law_205 rfl (lv_at hl 0 rfl) ?_
              refine lv_if_eq (tgt := 225) hx hb dL_law_206 (by decide) (fun h => absurd h (by decide)) (fun _ => ?_)
              refine lv_aload_n hx hb dL_law_209 rfl (lv_at hl 7 rfl) ?_
              refine lv_iload hx hb dL_law_210 (lv_at hl 5 rfl) ?_
              refine lv_iload hx hb dL_law_212 (lv_at hl 4 rfl) ?_
              refine lv_ixor hx hb dL_law_214 ?_
              refine z_qS (As := [.ref o, .int (r_1 ^^^ r_2)]) (rest := []) F (c_L_fits l G o (clW G o pr q a b d (pa3, S3, P3, L3, t3, v3, u3, pv3)) v3 e3 (122 * i + 61 + 61) hQ3 hX3 (by omega) (r_1 ^^^ r_2)) (va_cwS 2 hts gL_law_L_fits rfl rfl rfl (by decide +kernel) ⟨Nat.le_of_ble_eq_true rfl, Nat.le_of_ble_eq_true rfl⟩) hKK hP hD hS hA rfl hl.1 rfl (Nat.le_of_ble_eq_true rfl) ⟨Nat.le_of_ble_eq_true rfl, Nat.le_of_ble_eq_true rfl⟩ dL_law_215 (fun H locs hP hD hS => ?_)
              refine lv_if_eq (tgt := 225) hx hb dL_law_218 (by decide) (fun h => absurd h (by decide)) (fun _ => ?_)
              refine lv_iconst (v := nI 1) hx hb dL_law_221 (by decide) ?_
              refine lv_goto (tgt := 226) hx hb dL_law_222 (by decide) ?_
              refine lv_istore_n (lv' := [(2, .int (nI 1)), (9, .int r_91), (8, .int (nI (S 0))), (6, .long (trK v e0)), (5, .int r_2), (4, .int r_1), (0, .ref bs), (1, .ref o), (3, .int (nI i))]) hx hb dL_law_226 rfl hl (by decide) rfl (fun ls hl => ?_)
              refine lv_iinc (v := nI (i + 1)) (lv' := [(3, .int (nI (i + 1))), (2, .int (nI 1)), (9, .int r_91), (8, .int (nI (S 0))), (6, .long (trK v e0)), (5, .int r_2), (4, .int r_1), (0, .ref bs), (1, .ref o)]) hx hb dL_law_227 hl (k := 8) rfl (nI_add _ _) (by decide) rfl (fun ls hl => ?_)
              refine lv_goto (tgt := 16) hx hb dL_law_230 (by decide) ?_
              exact ih_16 (i + 1) pa3 S3 P3 L3 t3 v3 u3 pv3 (by omega) (Inv_mono hi3 (by omega)) (by omega) H locs ls hP hD hS (lv_sub hl [7, 8, 1, 0] rfl)
          · skip
            refine lv_aload_n hx hb dL_law_109 rfl (lv_at hl 6 rfl) ?_
            refine lv_bipush (v := nI 9) hx hb dL_law_110 (by decide) ?_
            refine z_qV (As := [.int (nI 9)]) (rest := []) F (c_X3_count_9 l G o pr q a b d pa1 S1 P1 L1 t1 v1 u1 pv1) (cwV 1 hts gL_law_X3_count rfl rfl rfl (by decide +kernel) ⟨Nat.le_of_ble_eq_true rfl, Nat.le_of_ble_eq_true rfl⟩) hKK rfl hP hD hS hA rfl hl.1 rfl (Nat.le_of_ble_eq_true rfl) ⟨Nat.le_of_ble_eq_true rfl, Nat.le_of_ble_eq_true rfl⟩ dL_law_112 (fun H locs hP hD hS => ?_)
            refine z_top (v := nI (S 0 + 1)) (by rw [hs0, svN, if_neg hs4]) ?_
            refine lv_iload hx hb dL_law_115 (lv_at hl 1 rfl) ?_
            refine lv_iconst (v := nI 4) hx hb dL_law_117 (by decide) ?_
            refine lv_icmp_ge (tgt := 128) hx hb dL_law_118 (by decide) (fun h => absurd h (fun z => absurd ((nI_leI (by omega) (by omega)).mp z) (by omega))) (fun _ => ?_)
            refine lv_iload hx hb dL_law_121 (lv_at hl 1 rfl) ?_
            refine lv_iconst (v := nI 1) hx hb dL_law_123 (by decide) ?_
            refine z_add (v := nI (S 0 + 1)) hx hb dL_law_124 (nI_add _ _) ?_
            refine lv_goto (tgt := 129) hx hb dL_law_125 (by decide) ?_
            refine lv_icmp_ne (tgt := 136) hx hb dL_law_129 (by decide) (fun h => absurd h (fun z => z rfl)) (fun _ => ?_)
            refine lv_iconst (v := nI 1) hx hb dL_law_132 (by decide) ?_
            refine lv_goto (tgt := 137) hx hb dL_law_133 (by decide) ?_
            refine lv_istore_n (lv' := [(2, .int (nI 1)), (9, .int r_91), (8, .int (nI (S 0))), (6, .long (trK v e0)), (5, .int r_2), (4, .int r_1), (0, .ref bs), (1, .ref o), (3, .int (nI i))]) hx hb dL_law_137 rfl hl (by decide) rfl (fun ls hl => ?_)
            refine lv_iload_n hx hb dL_law_138 rfl (lv_at hl 0 rfl) ?_
            refine lv_if_eq (tgt := 205) hx hb dL_law_139 (by decide) (fun h => absurd h (by decide)) (fun _ => ?_)
            refine lv_iload hx hb dL_law_142 (lv_at hl 1 rfl) ?_
            refine z_qS (As := [.int r_91]) (rest := []) F (c_L_isError l G (clW G o pr q a b d (pa1, S1, P1, L1, t1, v1, u1, pv1)) r_91) (va_cwS 1 hts gL_law_L_isError rfl rfl rfl (by decide +kernel) ⟨Nat.le_of_ble_eq_true rfl, Nat.le_of_ble_eq_true rfl⟩) hKK hP hD hS hA rfl hl.1 rfl (Nat.le_of_ble_eq_true rfl) ⟨Nat.le_of_ble_eq_true rfl, Nat.le_of_ble_eq_true rfl⟩ dL_law_144 (fun H locs hP hD hS => ?_)
            refine z_top (v := nI 0) (by rw [her]; rfl) ?_
            refine lv_if_ne (tgt := 205) hx hb dL_law_147 (by decide) (fun h => absurd h (fun z => z rfl)) (fun _ => ?_)
            refine lv_iload hx hb dL_law_150 (lv_at hl 4 rfl) ?_
            refine lv_iconst (v := nI 3) hx hb dL_law_152 (by decide) ?_
            refine lv_ishr hx hb dL_law_153 ?_
            refine lv_iconst (v := nI 4) hx hb dL_law_154 (by decide) ?_
            refine z_qS (As := [.int (r_2 >>> ((nI 3) &&& 31)), .int (nI 4)]) (rest := []) F (c_L_low l G (clW G o pr q a b d (pa1, S1, P1, L1, t1, v1, u1, pv1)) (r_2 >>> ((nI 3) &&& 31)) 4 (by omega) (by omega)) (va_cwS 2 hts gL_law_L_low rfl rfl rfl (by decide +kernel) ⟨Nat.le_of_ble_eq_true rfl, Nat.le_of_ble_eq_true rfl⟩) hKK hP hD hS hA rfl hl.1 rfl (Nat.le_of_ble_eq_true rfl) ⟨Nat.le_of_ble_eq_true rfl, Nat.le_of_ble_eq_true rfl⟩ dL_law_155 (fun H locs hP hD hS => ?_)
            refine lv_if_ne (tgt := 205) hx hb dL_law_158 (by decide) (fun c_z => ?_) (fun c_z => ?_)
            · skip
              refine lv_iload_n hx hb dL_law_205 rfl (lv_at hl 0 rfl) ?_
              refine lv_if_eq (tgt := 225) hx hb dL_law_206 (by decide) (fun h => absurd h (by decide)) (fun _ => ?_)
              refine lv_aload_n hx hb dL_law_209 rfl (lv_at hl 7 rfl) ?_
              refine lv_iload hx hb dL_law_210 (lv_at hl 5 rfl) ?_
              refine lv_iload hx hb dL_law_212 (lv_at hl 4 rfl) ?_
              refine lv_ixor hx hb dL_law_214 ?_
              refine z_qS (As := [.ref o, .int (r_1 ^^^ r_2)]) (rest := []) F (c_L_fits l G o (clW G o pr q a b d (pa1, S1, P1, L1, t1, v1, u1, pv1)) v1 e1 (122 * i + 61) hQ1 hX1 (by omega) (r_1 ^^^ r_2)) (va_cwS 2 hts gL_law_L_fits rfl rfl rfl (by decide +kernel) ⟨Nat.le_of_ble_eq_true rfl, Nat.le_of_ble_eq_true rfl⟩) hKK hP hD hS hA rfl hl.1 rfl (Nat.le_of_ble_eq_true rfl) ⟨Nat.le_of_ble_eq_true rfl, Nat.le_of_ble_eq_true rfl⟩ dL_law_215 (fun H locs hP hD hS => ?_)
              refine lv_if_eq (tgt := 225) hx hb dL_law_218 (by decide) (fun h => absurd h (by decide)) (fun _ => ?_)
              refine lv_iconst (v := nI 1) hx hb dL_law_221 (by decide) ?_
              refine lv_goto (tgt := 226) hx hb dL_law_222 (by decide) ?_
              refine lv_istore_n (lv' := [(2, .int (nI 1)), (9, .int r_91), (8, .int (nI (S 0))), (6, .long (trK v e0)), (5, .int r_2), (4, .int r_1), (0, .ref bs), (1, .ref o), (3, .int (nI i))]) hx hb dL_law_226 rfl hl (by decide) rfl (fun ls hl => ?_)
              refine lv_iinc (v := nI (i + 1)) (lv' := [(3, .int (nI (i + 1))), (2, .int (nI 1)), (9, .int r_91), (8, .int (nI (S 0))), (6, .long (trK v e0)), (5, .int r_2), (4, .int r_1), (0, .ref bs), (1, .ref o)]) hx hb dL_law_227 hl (k := 8) rfl (nI_add _ _) (by decide) rfl (fun ls hl => ?_)
              refine lv_goto (tgt := 16) hx hb dL_law_230 (by decide) ?_
              exact ih_16 (i + 1) pa1 S1 P1 L1 t1 v1 u1 pv1 (by omega) (Inv_mono hi1 (by omega)) (by omega) H locs ls hP hD hS (lv_sub hl [7, 8, 1, 0] rfl)
            · skip
              refine lv_aload_n hx hb dL_law_161 rfl (lv_at hl 7 rfl) ?_
              refine z_qVE (As := []) (rest := []) F (q_undo2 l G o pr q a b d pa1 S1 P1 L1 t1 v1 u1 pv1 (122 * i + 61) hi1 (S 0) (by rw [hs0, svN, if_neg hs4])) (cwV 0 hts gL_law_X3_undo rfl rfl rfl (by decide +kernel) ⟨Nat.le_of_ble_eq_true rfl, Nat.le_of_ble_eq_true rfl⟩) hKK rfl hP hD hS hA rfl hl.1 rfl (Nat.le_of_ble_eq_true rfl) ⟨Nat.le_of_ble_eq_true rfl, Nat.le_of_ble_eq_true rfl⟩ dL_law_162 (fun r_92 u_92 H locs hq_92 hP hD hS => ?_)
              obtain ⟨hr92, hi2, hsm2⟩ := hq_92
              obtain ⟨pa2, S2, P2, L2, t2, v2, u2, pv2⟩ := u_92
              have hi2 : Inv (122 * i + 61) S2 L2 t2 v2 pv2 := hi2
              have hsm2 : same v2 (pv1 (S 0)) := hsm2
              have hsm3 : same v2 v := same_trans hsm2 (by have h9 := hsm; rw [svN, if_neg hs4, Nat.add_sub_cancel] at h9; exact h9)
              obtain ⟨⟨e2, hX2⟩, hS42, -⟩ := id hi2
              have hQ2 := qs_mk l G o pr q a b d pa2 S2 P2 L2 t2 v2 u2 pv2 hX2.1 hX2.2.1 (show (122 * i + 61) < 10000 by omega)
              have hP : va_P G.1 vwCl (clW G o pr q a b d (pa2, S2, P2, L2, t2, v2, u2, pv2)) H := hP
              have hD : va_D (fun q : Nat => s.heap.size ≤ q) (clW G o pr q a b d (pa2, S2, P2, L2, t2, v2, u2, pv2)) := hD
              refine z_top (v := nI (S 0)) hr92 ?_
              refine lv_iload hx hb dL_law_165 (lv_at hl 2 rfl) ?_
              refine lv_iconst (v := nI 4) hx hb dL_law_167 (by decide) ?_
              refine lv_icmp_ge (tgt := 176) hx hb dL_law_168 (by decide) (fun h => absurd h (fun z => absurd ((nI_leI (by omega) (by omega)).mp z) (by omega))) (fun _ => ?_)
              refine lv_iload hx hb dL_law_171 (lv_at hl 2 rfl) ?_
              refine lv_goto (tgt := 177) hx hb dL_law_173 (by decide) ?_
              refine lv_icmp_ne (tgt := 194) hx hb dL_law_177 (by decide) (fun h => absurd h (fun z => z rfl)) (fun _ => ?_)
              refine lv_aload_n hx hb dL_law_180 rfl (lv_at hl 7 rfl) ?_
              refine z_qSL (As := [.ref o]) (rest := []) F (c_L_trace l G o (clW G o pr q a b d (pa2, S2, P2, L2, t2, v2, u2, pv2)) v2 e2 (122 * i + 61) hQ2 hX2 (by omega)) (va_cwS 1 hts gL_law_L_trace rfl rfl rfl (by decide +kernel) ⟨Nat.le_of_ble_eq_true rfl, Nat.le_of_ble_eq_true rfl⟩) hKK hP hD hS hA rfl hl.1 rfl (Nat.le_of_ble_eq_true rfl) ⟨Nat.le_of_ble_eq_true rfl, Nat.le_of_ble_eq_true rfl⟩ dL_law_181 (fun H locs hP hD hS => ?_)
              refine lv_lload hx hb dL_law_184 (lv_at hl 3 rfl) ?_
              refine W.lcmp hx hb dL_law_186 ?_
              refine z_top (v := nI 0) (lg_eq (tr_eq hX2 hX hsm3)) ?_
              refine lv_if_ne (tgt := 194) hx hb dL_law_187 (by decide) (fun h => absurd h (fun z => z rfl)) (fun _ => ?_)
              refine lv_iconst (v := nI 1) hx hb dL_law_190 (by decide) ?_
              refine lv_goto (tgt := 195) hx hb dL_law_191 (by decide) ?_
              refine lv_istore_n (lv' := [(2, .int (nI 1)), (9, .int r_91), (8, .int (nI (S 0))), (6, .long (trK v e0)), (5, .int r_2), (4, .int r_1), (0, .ref bs), (1, .ref o), (3, .int (nI i))]) hx hb dL_law_195 rfl hl (by decide) rfl (fun ls hl => ?_)
              refine lv_aload_n hx hb dL_law_196 rfl (lv_at hl 7 rfl) ?_
              refine lv_iload hx hb dL_law_197 (lv_at hl 5 rfl) ?_
              refine lv_iload hx hb dL_law_199 (lv_at hl 4 rfl) ?_
              refine z_qSE (As := [.ref o, .int r_1, .int r_2]) (rest := []) F (c_L_goes l G o pr q a b d pa2 S2 P2 L2 t2 v2 u2 pv2 (122 * i + 61) hi2 (by omega) r_1 r_2) (va_cwS 3 hts gL_law_L_goes rfl rfl rfl (by decide +kernel) ⟨Nat.le_of_ble_eq_true rfl, Nat.le_of_ble_eq_true rfl⟩) hKK hP hD hS hA rfl hl.1 rfl (Nat.le_of_ble_eq_true rfl) ⟨Nat.le_of_ble_eq_true rfl, Nat.le_of_ble_eq_true rfl⟩ dL_law_201 (fun r_93 u_93 H locs hq_93 hP hD hS => ?_)
              obtain ⟨hi3, -⟩ := hq_93
              obtain ⟨pa3, S3, P3, L3, t3, v3, u3, pv3⟩ := u_93
              have hi3 : Inv (122 * i + 61 + 61) S3 L3 t3 v3 pv3 := hi3
              obtain ⟨⟨e3, hX3⟩, hS43, -⟩ := id hi3
              have hQ3 := qs_mk l G o pr q a b d pa3 S3 P3 L3 t3 v3 u3 pv3 hX3.1 hX3.2.1 (show (122 * i + 61 + 61) < 10000 by omega)
              have hP : va_P G.1 vwCl (clW G o pr q a b d (pa3, S3, P3, L3, t3, v3, u3, pv3)) H := hP
              have hD : va_D (fun q : Nat => s.heap.size ≤ q) (clW G o pr q a b d (pa3, S3, P3, L3, t3, v3, u3, pv3)) := hD
              refine lv_pop hx hb dL_law_204 rfl ?_
              refine lv_iload_n hx hb dL_law_205 rfl (lv_at hl 0 rfl) ?_
              refine lv_if_eq (tgt := 225) hx hb dL_law_206 (by decide) (fun h => absurd h (by decide)) (fun _ => ?_)
              refine lv_aload_n hx hb dL_law_209 rfl (lv_at hl 7 rfl) ?_
              refine lv_iload hx hb dL_law_210 (lv_at hl 5 rfl) ?_
              refine lv_iload hx hb dL_law_212 (lv_at hl 4 rfl) ?_
              refine lv_ixor hx hb dL_law_214 ?_
              refine z_qS (As := [.ref o, .int (r_1 ^^^ r_2)]) (rest := []) F (c_L_fits l G o (clW G o pr q a b d (pa3, S3, P3, L3, t3, v3, u3, pv3)) v3 e3 (122 * i + 61 + 61) hQ3 hX3 (by omega) (r_1 ^^^ r_2)) (va_cwS 2 hts gL_law_L_fits rfl rfl rfl (by decide +kernel) ⟨Nat.le_of_ble_eq_true rfl, Nat.le_of_ble_eq_true rfl⟩) hKK hP hD hS hA rfl hl.1 rfl (Nat.le_of_ble_eq_true rfl) ⟨Nat.le_of_ble_eq_true rfl, Nat.le_of_ble_eq_true rfl⟩ dL_law_215 (fun H locs hP hD hS => ?_)
              refine lv_if_eq (tgt := 225) hx hb dL_law_218 (by decide) (fun h => absurd h (by decide)) (fun _ => ?_)
              refine lv_iconst (v := nI 1) hx hb dL_law_221 (by decide) ?_
              refine lv_goto (tgt := 226) hx hb dL_law_222 (by decide) ?_
              refine lv_istore_n (lv' := [(2, .int (nI 1)), (9, .int r_91), (8, .int (nI (S 0))), (6, .long (trK v e0)), (5, .int r_2), (4, .int r_1), (0, .ref bs), (1, .ref o), (3, .int (nI i))]) hx hb dL_law_226 rfl hl (by decide) rfl (fun ls hl => ?_)
              refine lv_iinc (v := nI (i + 1)) (lv' := [(3, .int (nI (i + 1))), (2, .int (nI 1)), (9, .int r_91), (8, .int (nI (S 0))), (6, .long (trK v e0)), (5, .int r_2), (4, .int r_1), (0, .ref bs), (1, .ref o)]) hx hb dL_law_227 hl (k := 8) rfl (nI_add _ _) (by decide) rfl (fun ls hl => ?_)
              refine lv_goto (tgt := 16) hx hb dL_law_230 (by decide) ?_
              exact ih_16 (i + 1) pa3 S3 P3 L3 t3 v3 u3 pv3 (by omega) (Inv_mono hi3 (by omega)) (by omega) H locs ls hP hD hS (lv_sub hl [7, 8, 1, 0] rfl)
  exact key_16 41 0 pa S P L t v u pv (by omega) hi (by omega) _ _ _ hP hD hS (lv_sub hl [0, 1, 2, 3] rfl)
