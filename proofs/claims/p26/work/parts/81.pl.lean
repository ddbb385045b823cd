theorem xr_info (c : CS) : (xR c).1 ≤ 61 ∧ ((xR c).2.1 = 0 ∨ (¬ (xR c).2.1 = 0 ∧ (xR c).2.2.2.1 < c.2.2.2.1 0 ∧ (xR c).2.1 ≤ 3 ∧ (xR c).2.2.1 ≤ 66)) := by
  obtain ⟨h1, h2⟩ := xRun_info (sg := sgT (c.2.2.2.2.1 0) (c.2.2.2.1 0)) (L := c.2.2.2.1 0) 61 0 0 c.2.2.2.2.2.1
  refine ⟨by show (xRun _ _ 61 0 0 _).1 ≤ 61; omega, ?_⟩
  by_cases hz : (xR c).2.1 = 0
  · exact Or.inl hz
  · rcases h2 with q | ⟨a, b, d⟩
    · exact absurd q hz
    · exact Or.inr ⟨hz, a, b, d⟩
section FT
variable {X : Nat × Nat × Nat × Nat × Mem}
theorem flt_z (h : X.2.1 = 0) (k : Nat) : fltR X k = -1000004 := if_pos (Or.inl h)
theorem flt_0 (h : ¬ X.2.1 = 0) : fltR X 0 = nI X.2.2.2.1 := by
  rw [fltR, if_neg (fun z => z.elim h (fun q => absurd q.1 (by decide))), if_pos rfl]
theorem flt_1 (h : ¬ X.2.1 = 0) : fltR X 1 = nI X.2.1 := by
  rw [fltR, if_neg (fun z => z.elim h (fun q => absurd q.1 (by decide))), if_neg (by decide), if_pos rfl]
theorem flt_23 (h : X.2.1 = 3) : fltR X 2 = -1000004 := if_pos (Or.inr ⟨rfl, h⟩)
theorem flt_2 (h : ¬ X.2.1 = 0) (h3 : ¬ X.2.1 = 3) : fltR X 2 = nI X.2.2.1 := by
  rw [fltR, if_neg (fun z => z.elim h (fun q => h3 q.2)), if_neg (by decide), if_neg (by decide)]
end FT

set_option maxHeartbeats 4000000 in
set_option maxRecDepth 100000 in
theorem c_L_plays (l : Launch) (G : ZG) (o pr q : Nat) (a b d : Nat → Nat) (pa : Nat → Nat → Nat) (S P L : Nat → Nat) (t v u : Mem) (pv : Nat → Mem) (B : Nat) (h : Inv B S L t v pv) (hB : B < 9900) (x : Int32) : CIE l G yL_plays wsL_plays (zRm 7 160) [.ref o, .int x] (clW G o pr q a b d (pa, S, P, L, t, v, u, pv)) (S := CS) (fun r c' => goP B (pa, S, P, L, t, v, u, pv) r c') (fun c' => clW G o pr q a b d c') := by
  refine CIE.ent (cc := cL_plays) (maxL := 7) (ty := .int) (own := RL) (by decide) rfl rfl (Nat.le_of_ble_eq_true rfl) ?_
  intro p ee s m args below meth c A ls F hr hlk hKK hP hD hA hS hl
  obtain ⟨hx, hb, hml, hown, hts⟩ := id F
  have hl : lv_has ls 7 [(0, .ref o), (1, .int x)] := hl
  have hlo := lowN_lt x (show 0 < 4 by omega)
  refine lv_aload_n hx hb dL_plays_0 rfl (lv_at hl 0 rfl) ?_
  refine z_qVE (As := []) (rest := []) F (q_clear l G o pr q a b d pa S P L t v u pv B h) (cwV 0 hts gL_plays_X3_clearText rfl rfl rfl (by decide +kernel) ⟨Nat.le_of_ble_eq_true rfl, Nat.le_of_ble_eq_true rfl⟩) hKK rfl hP hD hS hA rfl hl.1 rfl (Nat.le_of_ble_eq_true rfl) ⟨Nat.zero_le _, Nat.zero_le _⟩ dL_plays_1 (fun r_1 u_1 H locs hq_1 hP hD hS => ?_)
  have hP : va_P G.1 vwCl (clW G o pr q a b d (pa, S, P, u_1.2, u_1.1, v, u, pv)) H := hP
  have hD : va_D A (clW G o pr q a b d (pa, S, P, u_1.2, u_1.1, v, u, pv)) := hD
  refine lv_pop hx hb dL_plays_4 rfl ?_
  refine lv_iload_n hx hb dL_plays_5 rfl (lv_at hl 1 rfl) ?_
  refine lv_istore_n (lv' := [(2, .int x), (0, .ref o), (1, .int x)]) hx hb dL_plays_6 rfl hl (by decide) rfl (fun ls hl => ?_)
  refine lv_iconst (v := nI 0) hx hb dL_plays_7 (by decide) ?_
  refine lv_istore_n (lv' := [(3, .int (nI 0)), (2, .int x), (0, .ref o), (1, .int x)]) hx hb dL_plays_8 rfl hl (by decide) rfl (fun ls hl => ?_)
  have key_9 : ∀ (nn : Nat) (k : Nat) (y : Int32) (t9 : Mem) (L9 : Nat → Nat), (k ≤ 1 + lowN x 4) → (Inv B S L9 t9 v pv) → (1 + lowN x 4) - k < nn → ∀ (H : Heap) (locs : List Loc) (ls : Array Slot), va_P G.1 vwCl (clW G o pr q a b d (pa, S, P, L9, t9, v, u, pv)) H → va_D A (clW G o pr q a b d (pa, S, P, L9, t9, v, u, pv)) → va_S A s.heap H locs → lv_has ls 7 [(0, .ref o), (1, .int x), (2, .int y), (3, .int (nI k))] → W p l ee (zRm 7 160) s m args below meth c H locs 0 0 (MQ below (ZQie G A (S := CS) (fun r c' => goP B (pa, S, P, L, t, v, u, pv) r c') (fun c' => clW G o pr q a b d c')) args s 0 0 A) (F0 m 9 ls []) := by
    intro nn
    induction nn with
    | zero => intro k y t9 L9 _ _ h; exact absurd h (Nat.not_lt_zero _)
    | succ nn ih_9 =>
      intro k y t9 L9 hk h9 hm_9 H locs ls hP hD hS hl
      have hL9 := h9.2.2.2.1
      obtain ⟨hin1, hinf⟩ := xr_info (pa, S, P, L9, t9, v, u, pv)
      have hinf : (xR (pa, S, P, L9, t9, v, u, pv)).2.1 = 0 ∨ (¬ (xR (pa, S, P, L9, t9, v, u, pv)).2.1 = 0 ∧ (xR (pa, S, P, L9, t9, v, u, pv)).2.2.2.1 < L9 0 ∧ (xR (pa, S, P, L9, t9, v, u, pv)).2.1 ≤ 3 ∧ (xR (pa, S, P, L9, t9, v, u, pv)).2.2.1 ≤ 66) := hinf
      have hin1 : (xR (pa, S, P, L9, t9, v, u, pv)).1 ≤ 61 := hin1
      refine lv_iload_n hx hb dL_plays_9 rfl (lv_at hl 3 rfl) ?_
      refine lv_iconst (v := nI 1) hx hb dL_plays_10 (by decide) ?_
      refine lv_iload_n hx hb dL_plays_11 rfl (lv_at hl 1 rfl) ?_
      refine lv_iconst (v := nI 4) hx hb dL_plays_12 (by decide) ?_
      refine z_qS (As := [.int x, .int (nI 4)]) (rest := [.int (nI 1), .int (nI k)]) F (c_L_low l G (clW G o pr q a b d (pa, S, P, L9, t9, v, u, pv)) x 4 (by omega) (by omega)) (va_cwS 2 hts gL_plays_L_low rfl rfl rfl (by decide +kernel) ⟨Nat.le_of_ble_eq_true rfl, Nat.le_of_ble_eq_true rfl⟩) hKK hP hD hS hA rfl hl.1 rfl (Nat.le_of_ble_eq_true rfl) ⟨Nat.zero_le _, Nat.zero_le _⟩ dL_plays_13 (fun H locs hP hD hS => ?_)
      refine z_add (v := nI (1 + lowN x 4)) hx hb dL_plays_16 (nI_add _ _) ?_
      refine z_ge (tgt := 239) hx hb dL_plays_17 (by decide) (by omega) (by omega) (fun c_e => ?_) (fun c_e => ?_)
      · skip
        rcases hinf with hz | ⟨hz, hpl, hre, hca⟩
        · skip
          refine lv_aload_n hx hb dL_plays_239 rfl (lv_at hl 0 rfl) ?_
          refine lv_iconst (v := nI 0) hx hb dL_plays_240 (by decide) ?_
          refine z_qVE (As := [.int (nI 0)]) (rest := []) F (q_fault l G o pr q a b d pa S P L9 t9 v u pv B h9 0 (by omega)) (cwV 1 hts gL_plays_X3_fault rfl rfl rfl (by decide +kernel) ⟨Nat.le_of_ble_eq_true rfl, Nat.le_of_ble_eq_true rfl⟩) hKK rfl hP hD hS hA rfl hl.1 rfl (Nat.le_of_ble_eq_true rfl) ⟨Nat.zero_le _, Nat.zero_le _⟩ dL_plays_241 (fun r_2 u_2 H locs hq_2 hP hD hS => ?_)
          have r9_0 : r_2 = (-1000004) := (hq_2.trans (flt_z (X := (xR (pa, S, P, L9, t9, v, u, pv))) hz 0))
          have hP : va_P G.1 vwCl (clW G o pr q a b d (pa, S, u_2.1, L9, t9, v, u_2.2, pv)) H := hP
          have hD : va_D A (clW G o pr q a b d (pa, S, u_2.1, L9, t9, v, u_2.2, pv)) := hD
          refine z_top (v := (-1000004)) r9_0 ?_
          refine lv_istore_n (lv' := [(3, .int (-1000004)), (0, .ref o), (1, .int x), (2, .int y)]) hx hb dL_plays_244 rfl hl (by decide) rfl (fun ls hl => ?_)
          refine lv_aload_n hx hb dL_plays_245 rfl (lv_at hl 1 rfl) ?_
          refine lv_iconst (v := nI 1) hx hb dL_plays_246 (by decide) ?_
          refine z_qVE (As := [.int (nI 1)]) (rest := []) F (q_fault l G o pr q a b d pa S u_2.1 L9 t9 v u_2.2 pv B h9 1 (by omega)) (cwV 1 hts gL_plays_X3_fault rfl rfl rfl (by decide +kernel) ⟨Nat.le_of_ble_eq_true rfl, Nat.le_of_ble_eq_true rfl⟩) hKK rfl hP hD hS hA rfl hl.1 rfl (Nat.le_of_ble_eq_true rfl) ⟨Nat.zero_le _, Nat.zero_le _⟩ dL_plays_247 (fun r_3 u_3 H locs hq_3 hP hD hS => ?_)
          have r9_1 : r_3 = (-1000004) := (hq_3.trans (flt_z (X := (xR (pa, S, P, L9, t9, v, u, pv))) hz 1))
          have hP : va_P G.1 vwCl (clW G o pr q a b d (pa, S, u_3.1, L9, t9, v, u_3.2, pv)) H := hP
          have hD : va_D A (clW G o pr q a b d (pa, S, u_3.1, L9, t9, v, u_3.2, pv)) := hD
          refine z_top (v := (-1000004)) r9_1 ?_
          refine lv_istore (lv' := [(4, .int (-1000004)), (3, .int (-1000004)), (0, .ref o), (1, .int x), (2, .int y)]) hx hb dL_plays_250 hl (by decide) rfl (fun ls hl => ?_)
          refine lv_aload_n hx hb dL_plays_252 rfl (lv_at hl 2 rfl) ?_
          refine z_qVE (As := []) (rest := []) F (sc_play l G o pr q a b d pa S u_3.1 L9 t9 v u_3.2 pv B h9) (cwV 0 hts gL_plays_X3_play rfl rfl rfl (by decide +kernel) ⟨Nat.le_of_ble_eq_true rfl, Nat.le_of_ble_eq_true rfl⟩) hKK rfl hP hD hS hA rfl hl.1 rfl (Nat.le_of_ble_eq_true rfl) ⟨Nat.zero_le _, Nat.zero_le _⟩ dL_plays_253 (fun r_99 u_99 H locs hq_99 hP hD hS => ?_)
          obtain ⟨hg, hok, -⟩ := hq_99
          have r9 : r_99 = nI (xR (pa, S, P, L9, t9, v, u, pv)).1 := hok hz
          have hP : va_P G.1 vwCl (clW G o pr q a b d u_99) H := hP
          have hD : va_D A (clW G o pr q a b d u_99) := hD
          refine z_top (v := nI (xR (pa, S, P, L9, t9, v, u, pv)).1) r9 ?_
          refine lv_istore (lv' := [(5, .int (nI (xR (pa, S, P, L9, t9, v, u, pv)).1)), (4, .int (-1000004)), (3, .int (-1000004)), (0, .ref o), (1, .int x), (2, .int y)]) hx hb dL_plays_256 hl (by decide) rfl (fun ls hl => ?_)
          refine lv_iload_n hx hb dL_plays_258 rfl (lv_at hl 2 rfl) ?_
          refine z_ldc (v := (-1000004)) (v' := (-1000004)) hx hb hown (hts (.constant RL 37 (-1000004)) (by decide +kernel)) dL_plays_259 rfl ?_
          refine lv_icmp_ne (tgt := 284) hx hb dL_plays_261 (by decide) (fun h => absurd h (fun z => z rfl)) (fun _ => ?_)
          refine lv_iload hx hb dL_plays_264 (lv_at hl 1 rfl) ?_
          refine z_ldc (v := (-1000004)) (v' := (-1000004)) hx hb hown (hts (.constant RL 37 (-1000004)) (by decide +kernel)) dL_plays_266 rfl ?_
          refine lv_icmp_ne (tgt := 280) hx hb dL_plays_268 (by decide) (fun h => absurd h (fun z => z rfl)) (fun _ => ?_)
          refine lv_iload hx hb dL_plays_271 (lv_at hl 0 rfl) ?_
          refine lv_if_lt (tgt := 280) hx hb dL_plays_273 (by decide) (fun h => absurd h (nI_pos (by omega))) (fun _ => ?_)
          refine lv_iconst (v := nI 1) hx hb dL_plays_276 (by decide) ?_
          refine lv_goto (tgt := 350) hx hb dL_plays_277 (by decide) ?_
          refine lv_istore (lv' := [(6, .int (nI 1)), (5, .int (nI (xR (pa, S, P, L9, t9, v, u, pv)).1)), (4, .int (-1000004)), (3, .int (-1000004)), (0, .ref o), (1, .int x), (2, .int y)]) hx hb dL_plays_350 hl (by decide) rfl (fun ls hl => ?_)
          refine lv_iload hx hb dL_plays_352 (lv_at hl 0 rfl) ?_
          refine lv_if_eq (tgt := 362) hx hb dL_plays_354 (by decide) (fun h => absurd h (by decide)) (fun _ => ?_)
          refine lv_iload hx hb dL_plays_357 (lv_at hl 1 rfl) ?_
          refine lv_goto (tgt := 364) hx hb dL_plays_359 (by decide) ?_
          exact z_iretE u_99 hx hb hr hlk hP hD hS dL_plays_364 rfl (by rw [← r9]; exact hg)
        · skip
          refine lv_aload_n hx hb dL_plays_239 rfl (lv_at hl 0 rfl) ?_
          refine lv_iconst (v := nI 0) hx hb dL_plays_240 (by decide) ?_
          refine z_qVE (As := [.int (nI 0)]) (rest := []) F (q_fault l G o pr q a b d pa S P L9 t9 v u pv B h9 0 (by omega)) (cwV 1 hts gL_plays_X3_fault rfl rfl rfl (by decide +kernel) ⟨Nat.le_of_ble_eq_true rfl, Nat.le_of_ble_eq_true rfl⟩) hKK rfl hP hD hS hA rfl hl.1 rfl (Nat.le_of_ble_eq_true rfl) ⟨Nat.zero_le _, Nat.zero_le _⟩ dL_plays_241 (fun r_4 u_4 H locs hq_4 hP hD hS => ?_)
          have r9_0 : r_4 = nI (xR (pa, S, P, L9, t9, v, u, pv)).2.2.2.1 := (hq_4.trans (flt_0 (X := (xR (pa, S, P, L9, t9, v, u, pv))) hz))
          have hP : va_P G.1 vwCl (clW G o pr q a b d (pa, S, u_4.1, L9, t9, v, u_4.2, pv)) H := hP
          have hD : va_D A (clW G o pr q a b d (pa, S, u_4.1, L9, t9, v, u_4.2, pv)) := hD
          refine z_top (v := nI (xR (pa, S, P, L9, t9, v, u, pv)).2.2.2.1) r9_0 ?_
          refine lv_istore_n (lv' := [(3, .int (nI (xR (pa, S, P, L9, t9, v, u, pv)).2.2.2.1)), (0, .ref o), (1, .int x), (2, .int y)]) hx hb dL_plays_244 rfl hl (by decide) rfl (fun ls hl => ?_)
          refine lv_aload_n hx hb dL_plays_245 rfl (lv_at hl 1 rfl) ?_
          refine lv_iconst (v := nI 1) hx hb dL_plays_246 (by decide) ?_
          refine z_qVE (As := [.int (nI 1)]) (rest := []) F (q_fault l G o pr q a b d pa S u_4.1 L9 t9 v u_4.2 pv B h9 1 (by omega)) (cwV 1 hts gL_plays_X3_fault rfl rfl rfl (by decide +kernel) ⟨Nat.le_of_ble_eq_true rfl, Nat.le_of_ble_eq_true rfl⟩) hKK rfl hP hD hS hA rfl hl.1 rfl (Nat.le_of_ble_eq_true rfl) ⟨Nat.zero_le _, Nat.zero_le _⟩ dL_plays_247 (fun r_5 u_5 H locs hq_5 hP hD hS => ?_)
          have r9_1 : r_5 = nI (xR (pa, S, P, L9, t9, v, u, pv)).2.1 := (hq_5.trans (flt_1 (X := (xR (pa, S, P, L9, t9, v, u, pv))) hz))
          have hP : va_P G.1 vwCl (clW G o pr q a b d (pa, S, u_5.1, L9, t9, v, u_5.2, pv)) H := hP
          have hD : va_D A (clW G o pr q a b d (pa, S, u_5.1, L9, t9, v, u_5.2, pv)) := hD
          refine z_top (v := nI (xR (pa, S, P, L9, t9, v, u, pv)).2.1) r9_1 ?_
          refine lv_istore (lv' := [(4, .int (nI (xR (pa, S, P, L9, t9, v, u, pv)).2.1)), (3, .int (nI (xR (pa, S, P, L9, t9, v, u, pv)).2.2.2.1)), (0, .ref o), (1, .int x), (2, .int y)]) hx hb dL_plays_250 hl (by decide) rfl (fun ls hl => ?_)
          refine lv_aload_n hx hb dL_plays_252 rfl (lv_at hl 2 rfl) ?_
          refine z_qVE (As := []) (rest := []) F (sc_play l G o pr q a b d pa S u_5.1 L9 t9 v u_5.2 pv B h9) (cwV 0 hts gL_plays_X3_play rfl rfl rfl (by decide +kernel) ⟨Nat.le_of_ble_eq_true rfl, Nat.le_of_ble_eq_true rfl⟩) hKK rfl hP hD hS hA rfl hl.1 rfl (Nat.le_of_ble_eq_true rfl) ⟨Nat.zero_le _, Nat.zero_le _⟩ dL_plays_253 (fun r_6 u_6 H locs hq_6 hP hD hS => ?_)
          obtain ⟨hg, -, hno⟩ := hq_6
          obtain ⟨r9, P1, u1, rfl⟩ := hno hz
          have hP : va_P G.1 vwCl (clW G o pr q a b d (pa, S, P1, L9, t9, v, u1, pv)) H := hP
          have hD : va_D A (clW G o pr q a b d (pa, S, P1, L9, t9, v, u1, pv)) := hD
          refine z_top (v := (-1000002)) r9 ?_
          refine lv_istore (lv' := [(5, .int (-1000002)), (4, .int (nI (xR (pa, S, P, L9, t9, v, u, pv)).2.1)), (3, .int (nI (xR (pa, S, P, L9, t9, v, u, pv)).2.2.2.1)), (0, .ref o), (1, .int x), (2, .int y)]) hx hb dL_plays_256 hl (by decide) rfl (fun ls hl => ?_)
          refine lv_iload_n hx hb dL_plays_258 rfl (lv_at hl 2 rfl) ?_
          refine z_ldc (v := (-1000004)) (v' := (-1000004)) hx hb hown (hts (.constant RL 37 (-1000004)) (by decide +kernel)) dL_plays_259 rfl ?_
          refine lv_icmp_ne (tgt := 284) hx hb dL_plays_261 (by decide) (fun _ => ?_) (fun h => absurd h (nI_ne4 (by omega)))
          refine lv_iload_n hx hb dL_plays_284 rfl (lv_at hl 2 rfl) ?_
          refine lv_if_lt (tgt := 349) hx hb dL_plays_285 (by decide) (fun h => absurd h (nI_pos (by omega))) (fun _ => ?_)
          refine lv_iload_n hx hb dL_plays_288 rfl (lv_at hl 2 rfl) ?_
          refine lv_aload_n hx hb dL_plays_289 rfl (lv_at hl 3 rfl) ?_
          refine lv_bipush (v := nI 10) hx hb dL_plays_290 (by decide) ?_
          refine z_qV (As := [.int (nI 10)]) (rest := [.int (nI (xR (pa, S, P, L9, t9, v, u, pv)).2.2.2.1)]) F (c_X3_count_10 l G o pr q a b d pa S P1 L9 t9 v u1 pv) (cwV 1 hts gL_plays_X3_count rfl rfl rfl (by decide +kernel) ⟨Nat.le_of_ble_eq_true rfl, Nat.le_of_ble_eq_true rfl⟩) hKK rfl hP hD hS hA rfl hl.1 rfl (Nat.le_of_ble_eq_true rfl) ⟨Nat.zero_le _, Nat.zero_le _⟩ dL_plays_292 (fun H locs hP hD hS => ?_)
          refine lv_icmp_ge (tgt := 349) hx hb dL_plays_295 (by decide) (fun h => absurd h (fun z => absurd ((nI_leI (by omega) (by omega)).mp z) (by omega))) (fun _ => ?_)
          refine lv_iload hx hb dL_plays_298 (lv_at hl 1 rfl) ?_
          refine lv_if_le (tgt := 349) hx hb dL_plays_300 (by decide) (fun h => absurd h (nI_nle (by omega) (by omega))) (fun _ => ?_)
          refine lv_iload hx hb dL_plays_303 (lv_at hl 1 rfl) ?_
          refine lv_iconst (v := nI 4) hx hb dL_plays_305 (by decide) ?_
          refine lv_icmp_ge (tgt := 349) hx hb dL_plays_306 (by decide) (fun h => absurd h (fun z => absurd ((nI_leI (by omega) (by omega)).mp z) (by omega))) (fun _ => ?_)
          refine lv_iload hx hb dL_plays_309 (lv_at hl 0 rfl) ?_
          refine z_ldc (v := (-1000002)) (v' := (-1000002)) hx hb hown (hts (.constant RL 101 (-1000002)) (by decide +kernel)) dL_plays_311 rfl ?_
          refine lv_icmp_ne (tgt := 349) hx hb dL_plays_313 (by decide) (fun h => absurd h (fun z => z rfl)) (fun _ => ?_)
          by_cases h3 : (xR (pa, S, P, L9, t9, v, u, pv)).2.1 = 3
          · skip
            refine lv_aload_n hx hb dL_plays_316 rfl (lv_at hl 3 rfl) ?_
            refine lv_iconst (v := nI 2) hx hb dL_plays_317 (by decide) ?_
            refine z_qVE (As := [.int (nI 2)]) (rest := []) F (q_fault l G o pr q a b d pa S P1 L9 t9 v u1 pv B h9 2 (by omega)) (cwV 1 hts gL_plays_X3_fault rfl rfl rfl (by decide +kernel) ⟨Nat.le_of_ble_eq_true rfl, Nat.le_of_ble_eq_true rfl⟩) hKK rfl hP hD hS hA rfl hl.1 rfl (Nat.le_of_ble_eq_true rfl) ⟨Nat.zero_le _, Nat.zero_le _⟩ dL_plays_318 (fun r_7 u_7 H locs hq_7 hP hD hS => ?_)
            have r9_2 : r_7 = (-1000004) := (hq_7.trans (flt_23 (X := (xR (pa, S, P, L9, t9, v, u, pv))) h3))
            have hP : va_P G.1 vwCl (clW G o pr q a b d (pa, S, u_7.1, L9, t9, v, u_7.2, pv)) H := hP
            have hD : va_D A (clW G o pr q a b d (pa, S, u_7.1, L9, t9, v, u_7.2, pv)) := hD
            refine z_top (v := (-1000004)) r9_2 ?_
            refine z_ldc (v := (-1000004)) (v' := (-1000004)) hx hb hown (hts (.constant RL 37 (-1000004)) (by decide +kernel)) dL_plays_321 rfl ?_
            refine lv_icmp_ne (tgt := 330) hx hb dL_plays_323 (by decide) (fun h => absurd h (fun z => z rfl)) (fun _ => ?_)
            refine lv_iconst (v := nI 1) hx hb dL_plays_326 (by decide) ?_
            refine lv_goto (tgt := 331) hx hb dL_plays_327 (by decide) ?_
            refine lv_iload hx hb dL_plays_331 (lv_at hl 1 rfl) ?_
            refine lv_iconst (v := nI 3) hx hb dL_plays_333 (by decide) ?_
            refine z_ne (tgt := 341) hx hb dL_plays_334 (by decide) (by omega) (by omega) (fun h => absurd h (by omega)) (fun _ => ?_)
            refine lv_iconst (v := nI 1) hx hb dL_plays_337 (by decide) ?_
            refine lv_goto (tgt := 342) hx hb dL_plays_338 (by decide) ?_
            refine lv_icmp_ne (tgt := 349) hx hb dL_plays_342 (by decide) (fun h => absurd h (fun z => z rfl)) (fun _ => ?_)
            refine lv_iconst (v := nI 1) hx hb dL_plays_345 (by decide) ?_
            refine lv_goto (tgt := 350) hx hb dL_plays_346 (by decide) ?_
            refine lv_istore (lv' := [(6, .int (nI 1)), (5, .int (-1000002)), (4, .int (nI (xR (pa, S, P, L9, t9, v, u, pv)).2.1)), (3, .int (nI (xR (pa, S, P, L9, t9, v, u, pv)).2.2.2.1)), (0, .ref o), (1, .int x), (2, .int y)]) hx hb dL_plays_350 hl (by decide) rfl (fun ls hl => ?_)
            refine lv_iload hx hb dL_plays_352 (lv_at hl 0 rfl) ?_
            refine lv_if_eq (tgt := 362) hx hb dL_plays_354 (by decide) (fun h => absurd h (by decide)) (fun _ => ?_)
            refine lv_iload hx hb dL_plays_357 (lv_at hl 1 rfl) ?_
            refine lv_goto (tgt := 364) hx hb dL_plays_359 (by decide) ?_
            exact z_iretE (pa, S, u_7.1, L9, t9, v, u_7.2, pv) hx hb hr hlk hP hD hS dL_plays_364 rfl (⟨Inv_mono h9 (by omega), Or.inl ⟨by decide, same_refl v, rfl⟩⟩ : goP B (pa, S, P, L, t, v, u, pv) (-1000002) (pa, S, u_7.1, L9, t9, v, u_7.2, pv))
          · skip
            refine lv_aload_n hx hb dL_plays_316 rfl (lv_at hl 3 rfl) ?_
            refine lv_iconst (v := nI 2) hx hb dL_plays_317 (by decide) ?_
            refine z_qVE (As := [.int (nI 2)]) (rest := []) F (q_fault l G o pr q a b d pa S P1 L9 t9 v u1 pv B h9 2 (by omega)) (cwV 1 hts gL_plays_X3_fault rfl rfl rfl (by decide +kernel) ⟨Nat.le_of_ble_eq_true rfl, Nat.le_of_ble_eq_true rfl⟩) hKK rfl hP hD hS hA rfl hl.1 rfl (Nat.le_of_ble_eq_true rfl) ⟨Nat.zero_le _, Nat.zero_le _⟩ dL_plays_318 (fun r_8 u_8 H locs hq_8 hP hD hS => ?_)
            have r9_2 : r_8 = nI (xR (pa, S, P, L9, t9, v, u, pv)).2.2.1 := (hq_8.trans (flt_2 (X := (xR (pa, S, P, L9, t9, v, u, pv))) hz h3))
            have hP : va_P G.1 vwCl (clW G o pr q a b d (pa, S, u_8.1, L9, t9, v, u_8.2, pv)) H := hP
            have hD : va_D A (clW G o pr q a b d (pa, S, u_8.1, L9, t9, v, u_8.2, pv)) := hD
            refine z_top (v := nI (xR (pa, S, P, L9, t9, v, u, pv)).2.2.1) r9_2 ?_
            refine z_ldc (v := (-1000004)) (v' := (-1000004)) hx hb hown (hts (.constant RL 37 (-1000004)) (by decide +kernel)) dL_plays_321 rfl ?_
            refine lv_icmp_ne (tgt := 330) hx hb dL_plays_323 (by decide) (fun _ => ?_) (fun h => absurd h (nI_ne4 (by omega)))
            refine lv_iconst (v := nI 0) hx hb dL_plays_330 (by decide) ?_
            refine lv_iload hx hb dL_plays_331 (lv_at hl 1 rfl) ?_
            refine lv_iconst (v := nI 3) hx hb dL_plays_333 (by decide) ?_
            refine z_ne (tgt := 341) hx hb dL_plays_334 (by decide) (by omega) (by omega) (fun _ => ?_) (fun h => absurd h (by omega))
            refine lv_iconst (v := nI 0) hx hb dL_plays_341 (by decide) ?_
            refine lv_icmp_ne (tgt := 349) hx hb dL_plays_342 (by decide) (fun h => absurd h (fun z => z rfl)) (fun _ => ?_)
            refine lv_iconst (v := nI 1) hx hb dL_plays_345 (by decide) ?_
            refine lv_goto (tgt := 350) hx hb dL_plays_346 (by decide) ?_
            refine lv_istore (lv' := [(6, .int (nI 1)), (5, .int (-1000002)), (4, .int (nI (xR (pa, S, P, L9, t9, v, u, pv)).2.1)), (3, .int (nI (xR (pa, S, P, L9, t9, v, u, pv)).2.2.2.1)), (0, .ref o), (1, .int x), (2, .int y)]) hx hb dL_plays_350 hl (by decide) rfl (fun ls hl => ?_)
            refine lv_iload hx hb dL_plays_352 (lv_at hl 0 rfl) ?_
            refine lv_if_eq (tgt := 362) hx hb dL_plays_354 (by decide) (fun h => absurd h (by decide)) (fun _ => ?_)
            refine lv_iload hx hb dL_plays_357 (lv_at hl 1 rfl) ?_
            refine lv_goto (tgt := 364) hx hb dL_plays_359 (by decide) ?_
            exact z_iretE (pa, S, u_8.1, L9, t9, v, u_8.2, pv) hx hb hr hlk hP hD hS dL_plays_364 rfl (⟨Inv_mono h9 (by omega), Or.inl ⟨by decide, same_refl v, rfl⟩⟩ : goP B (pa, S, P, L, t, v, u, pv) (-1000002) (pa, S, u_8.1, L9, t9, v, u_8.2, pv))
      · skip
        refine z_ldc (v := (1103515245)) (v' := nI 1103515245) hx hb hown (hts (.constant RL 91 (1103515245)) (by decide +kernel)) dL_plays_20 rfl ?_
        refine lv_iload_n hx hb dL_plays_22 rfl (lv_at hl 2 rfl) ?_
        refine z_mul (v := ((nI 1103515245) * y)) hx hb dL_plays_23 rfl ?_
        refine lv_sipush (v := nI 12345) hx hb dL_plays_24 (by decide) ?_
        refine z_add (v := (((nI 1103515245) * y) + (nI 12345))) hx hb dL_plays_27 rfl ?_
        refine lv_istore_n (lv' := [(2, .int (((nI 1103515245) * y) + (nI 12345))), (0, .ref o), (1, .int x), (3, .int (nI k))]) hx hb dL_plays_28 rfl hl (by decide) rfl (fun ls hl => ?_)
        refine lv_iload_n hx hb dL_plays_29 rfl (lv_at hl 0 rfl) ?_
        refine lv_bipush (v := nI 9) hx hb dL_plays_30 (by decide) ?_
        refine lv_ishr hx hb dL_plays_32 ?_
        refine lv_bipush (v := nI 7) hx hb dL_plays_33 (by decide) ?_
        refine z_qS (As := [.int ((((nI 1103515245) * y) + (nI 12345)) >>> ((nI 9) &&& 31)), .int (nI 7)]) (rest := []) F (c_L_low l G (clW G o pr q a b d (pa, S, P, L9, t9, v, u, pv)) ((((nI 1103515245) * y) + (nI 12345)) >>> ((nI 9) &&& 31)) 7 (by omega) (by omega)) (va_cwS 2 hts gL_plays_L_low rfl rfl rfl (by decide +kernel) ⟨Nat.le_of_ble_eq_true rfl, Nat.le_of_ble_eq_true rfl⟩) hKK hP hD hS hA rfl hl.1 rfl (Nat.le_of_ble_eq_true rfl) ⟨Nat.zero_le _, Nat.zero_le _⟩ dL_plays_35 (fun H locs hP hD hS => ?_)
        refine lv_istore (lv' := [(4, .int (nI (lowN ((((nI 1103515245) * y) + (nI 12345)) >>> ((nI 9) &&& 31)) 7))), (2, .int (((nI 1103515245) * y) + (nI 12345))), (0, .ref o), (1, .int x), (3, .int (nI k))]) hx hb dL_plays_38 hl (by decide) rfl (fun ls hl => ?_)
        have := lowN_lt ((((nI 1103515245) * y) + (nI 12345)) >>> ((nI 9) &&& 31)) (show 0 < 7 by omega)
        refine lv_aload_n hx hb dL_plays_40 rfl (lv_at hl 2 rfl) ?_
        refine lv_iload hx hb dL_plays_41 (lv_at hl 0 rfl) ?_
        refine lv_iconst (v := nI 3) hx hb dL_plays_43 (by decide) ?_
        refine z_ge (tgt := 52) hx hb dL_plays_44 (by decide) (by omega) (by omega) (fun c_a => ?_) (fun c_a => ?_)
        · skip
          refine lv_iload hx hb dL_plays_52 (lv_at hl 0 rfl) ?_
          refine lv_iconst (v := nI 5) hx hb dL_plays_54 (by decide) ?_
          refine z_ge (tgt := 63) hx hb dL_plays_55 (by decide) (by omega) (by omega) (fun c_b => ?_) (fun c_b => ?_)
          · skip
            refine lv_iload hx hb dL_plays_63 (lv_at hl 0 rfl) ?_
            refine lv_iconst (v := nI 5) hx hb dL_plays_65 (by decide) ?_
            refine z_ne (tgt := 74) hx hb dL_plays_66 (by decide) (by omega) (by omega) (fun c_d => ?_) (fun c_d => ?_)
            · skip
              refine lv_bipush (v := nI 33) hx hb dL_plays_74 (by decide) ?_
              refine z_qVE (As := [.int (nI 33)]) (rest := []) F (q_type l G o pr q a b d pa S P L9 t9 v u pv B h9 33 (by omega) (by omega)) (cwV 1 hts gL_plays_X3_type rfl rfl rfl (by decide +kernel) ⟨Nat.le_of_ble_eq_true rfl, Nat.le_of_ble_eq_true rfl⟩) hKK rfl hP hD hS hA rfl hl.1 rfl (Nat.le_of_ble_eq_true rfl) ⟨Nat.zero_le _, Nat.zero_le _⟩ dL_plays_76 (fun r_9 u_9 H locs hq_9 hP hD hS => ?_)
              have hP : va_P G.1 vwCl (clW G o pr q a b d (pa, S, P, u_9.2, u_9.1, v, u, pv)) H := hP
              have hD : va_D A (clW G o pr q a b d (pa, S, P, u_9.2, u_9.1, v, u, pv)) := hD
              refine lv_pop hx hb dL_plays_79 rfl ?_
              refine lv_iload hx hb dL_plays_80 (lv_at hl 0 rfl) ?_
              refine lv_iconst (v := nI 5) hx hb dL_plays_82 (by decide) ?_
              refine z_ne (tgt := 133) hx hb dL_plays_83 (by decide) (by omega) (by omega) (fun _ => ?_) (fun h => absurd h (by omega))
              refine lv_iload hx hb dL_plays_133 (lv_at hl 0 rfl) ?_
              refine lv_bipush (v := nI 6) hx hb dL_plays_135 (by decide) ?_
              refine z_ne (tgt := 171) hx hb dL_plays_137 (by decide) (by omega) (by omega) (fun h => absurd h (by omega)) (fun _ => ?_)
              refine lv_aload_n hx hb dL_plays_140 rfl (lv_at hl 2 rfl) ?_
              refine lv_bipush (v := nI 48) hx hb dL_plays_141 (by decide) ?_
              refine lv_iload_n hx hb dL_plays_143 rfl (lv_at hl 1 rfl) ?_
              refine lv_bipush (v := nI 12) hx hb dL_plays_144 (by decide) ?_
              refine lv_ishr hx hb dL_plays_146 ?_
              refine lv_iload_n hx hb dL_plays_147 rfl (lv_at hl 1 rfl) ?_
              refine lv_iconst (v := nI 5) hx hb dL_plays_148 (by decide) ?_
              refine z_qS (As := [.int (((nI 1103515245) * y) + (nI 12345)), .int (nI 5)]) (rest := [.int ((((nI 1103515245) * y) + (nI 12345)) >>> ((nI 12) &&& 31)), .int (nI 48), .ref o]) F (c_L_low l G (clW G o pr q a b d (pa, S, P, u_9.2, u_9.1, v, u, pv)) (((nI 1103515245) * y) + (nI 12345)) 5 (by omega) (by omega)) (va_cwS 2 hts gL_plays_L_low rfl rfl rfl (by decide +kernel) ⟨Nat.le_of_ble_eq_true rfl, Nat.le_of_ble_eq_true rfl⟩) hKK hP hD hS hA rfl hl.1 rfl (Nat.le_of_ble_eq_true rfl) ⟨Nat.zero_le _, Nat.zero_le _⟩ dL_plays_149 (fun H locs hP hD hS => ?_)
              refine lv_if_ne (tgt := 159) hx hb dL_plays_152 (by decide) (fun c_10 => ?_) (fun c_10 => ?_)
              · skip
                refine lv_iconst (v := nI 3) hx hb dL_plays_159 (by decide) ?_
                refine z_qS (As := [.int ((((nI 1103515245) * y) + (nI 12345)) >>> ((nI 12) &&& 31)), .int (nI 3)]) (rest := [.int (nI 48), .ref o]) F (c_L_low l G (clW G o pr q a b d (pa, S, P, u_9.2, u_9.1, v, u, pv)) ((((nI 1103515245) * y) + (nI 12345)) >>> ((nI 12) &&& 31)) 3 (by omega) (by omega)) (va_cwS 2 hts gL_plays_L_low rfl rfl rfl (by decide +kernel) ⟨Nat.le_of_ble_eq_true rfl, Nat.le_of_ble_eq_true rfl⟩) hKK hP hD hS hA rfl hl.1 rfl (Nat.le_of_ble_eq_true rfl) ⟨Nat.zero_le _, Nat.zero_le _⟩ dL_plays_160 (fun H locs hP hD hS => ?_)
                refine z_add (v := nI (48 + lowN ((((nI 1103515245) * y) + (nI 12345)) >>> ((nI 12) &&& 31)) 3)) hx hb dL_plays_163 (nI_add _ _) ?_
                refine z_qVE (As := [.int (nI (48 + lowN ((((nI 1103515245) * y) + (nI 12345)) >>> ((nI 12) &&& 31)) 3))]) (rest := []) F (q_type l G o pr q a b d pa S P u_9.2 u_9.1 v u pv B hq_9 (48 + lowN ((((nI 1103515245) * y) + (nI 12345)) >>> ((nI 12) &&& 31)) 3) (by have := lowN_lt ((((nI 1103515245) * y) + (nI 12345)) >>> ((nI 12) &&& 31)) (show 0 < 3 by omega); omega) (by have := lowN_lt ((((nI 1103515245) * y) + (nI 12345)) >>> ((nI 12) &&& 31)) (show 0 < 3 by omega); omega)) (cwV 1 hts gL_plays_X3_type rfl rfl rfl (by decide +kernel) ⟨Nat.le_of_ble_eq_true rfl, Nat.le_of_ble_eq_true rfl⟩) hKK rfl hP hD hS hA rfl hl.1 rfl (Nat.le_of_ble_eq_true rfl) ⟨Nat.zero_le _, Nat.zero_le _⟩ dL_plays_164 (fun r_11 u_11 H locs hq_11 hP hD hS => ?_)
                have hP : va_P G.1 vwCl (clW G o pr q a b d (pa, S, P, u_11.2, u_11.1, v, u, pv)) H := hP
                have hD : va_D A (clW G o pr q a b d (pa, S, P, u_11.2, u_11.1, v, u, pv)) := hD
                refine lv_pop hx hb dL_plays_167 rfl ?_
                refine lv_goto (tgt := 214) hx hb dL_plays_168 (by decide) ?_
                refine lv_iload_n hx hb dL_plays_214 rfl (lv_at hl 1 rfl) ?_
                refine lv_bipush (v := nI 22) hx hb dL_plays_215 (by decide) ?_
                refine lv_ishr hx hb dL_plays_217 ?_
                refine lv_bipush (v := nI 20) hx hb dL_plays_218 (by decide) ?_
                refine z_qS (As := [.int ((((nI 1103515245) * y) + (nI 12345)) >>> ((nI 22) &&& 31)), .int (nI 20)]) (rest := []) F (c_L_low l G (clW G o pr q a b d (pa, S, P, u_11.2, u_11.1, v, u, pv)) ((((nI 1103515245) * y) + (nI 12345)) >>> ((nI 22) &&& 31)) 20 (by omega) (by omega)) (va_cwS 2 hts gL_plays_L_low rfl rfl rfl (by decide +kernel) ⟨Nat.le_of_ble_eq_true rfl, Nat.le_of_ble_eq_true rfl⟩) hKK hP hD hS hA rfl hl.1 rfl (Nat.le_of_ble_eq_true rfl) ⟨Nat.zero_le _, Nat.zero_le _⟩ dL_plays_220 (fun H locs hP hD hS => ?_)
                refine lv_if_le (tgt := 233) hx hb dL_plays_223 (by decide) (fun c_12 => ?_) (fun c_12 => ?_)
                · skip
                  refine lv_iinc (v := nI (k + 1)) (lv' := [(3, .int (nI (k + 1))), (4, .int (nI (lowN ((((nI 1103515245) * y) + (nI 12345)) >>> ((nI 9) &&& 31)) 7))), (2, .int (((nI 1103515245) * y) + (nI 12345))), (0, .ref o), (1, .int x)]) hx hb dL_plays_233 hl (k := 4) rfl (nI_add _ _) (by decide) rfl (fun ls hl => ?_)
                  refine lv_goto (tgt := 9) hx hb dL_plays_236 (by decide) ?_
                  exact ih_9 (k + 1) (((nI 1103515245) * y) + (nI 12345)) u_11.1 u_11.2 (by omega) hq_11 (by omega) H locs ls hP hD hS (lv_sub hl [3, 4, 2, 0] rfl)
                · skip
                  refine lv_aload_n hx hb dL_plays_226 rfl (lv_at hl 2 rfl) ?_
                  refine lv_bipush (v := nI 59) hx hb dL_plays_227 (by decide) ?_
                  refine z_qVE (As := [.int (nI 59)]) (rest := []) F (q_type l G o pr q a b d pa S P u_11.2 u_11.1 v u pv B hq_11 59 (by omega) (by omega)) (cwV 1 hts gL_plays_X3_type rfl rfl rfl (by decide +kernel) ⟨Nat.le_of_ble_eq_true rfl, Nat.le_of_ble_eq_true rfl⟩) hKK rfl hP hD hS hA rfl hl.1 rfl (Nat.le_of_ble_eq_true rfl) ⟨Nat.zero_le _, Nat.zero_le _⟩ dL_plays_229 (fun r_13 u_13 H locs hq_13 hP hD hS => ?_)
                  have hP : va_P G.1 vwCl (clW G o pr q a b d (pa, S, P, u_13.2, u_13.1, v, u, pv)) H := hP
                  have hD : va_D A (clW G o pr q a b d (pa, S, P, u_13.2, u_13.1, v, u, pv)) := hD
                  refine lv_pop hx hb dL_plays_232 rfl ?_
                  refine lv_iinc (v := nI (k + 1)) (lv' := [(3, .int (nI (k + 1))), (4, .int (nI (lowN ((((nI 1103515245) * y) + (nI 12345)) >>> ((nI 9) &&& 31)) 7))), (2, .int (((nI 1103515245) * y) + (nI 12345))), (0, .ref o), (1, .int x)]) hx hb dL_plays_233 hl (k := 4) rfl (nI_add _ _) (by decide) rfl (fun ls hl => ?_)
                  refine lv_goto (tgt := 9) hx hb dL_plays_236 (by decide) ?_
                  exact ih_9 (k + 1) (((nI 1103515245) * y) + (nI 12345)) u_13.1 u_13.2 (by omega) hq_13 (by omega) H locs ls hP hD hS (lv_sub hl [3, 4, 2, 0] rfl)
              · skip
                refine lv_iconst (v := nI 5) hx hb dL_plays_155 (by decide) ?_
                refine lv_goto (tgt := 160) hx hb dL_plays_156 (by decide) ?_
                refine z_qS (As := [.int ((((nI 1103515245) * y) + (nI 12345)) >>> ((nI 12) &&& 31)), .int (nI 5)]) (rest := [.int (nI 48), .ref o]) F (c_L_low l G (clW G o pr q a b d (pa, S, P, u_9.2, u_9.1, v, u, pv)) ((((nI 1103515245) * y) + (nI 12345)) >>> ((nI 12) &&& 31)) 5 (by omega) (by omega)) (va_cwS 2 hts gL_plays_L_low rfl rfl rfl (by decide +kernel) ⟨Nat.le_of_ble_eq_true rfl, Nat.le_of_ble_eq_true rfl⟩) hKK hP hD hS hA rfl hl.1 rfl (Nat.le_of_ble_eq_true rfl) ⟨Nat.zero_le _, Nat.zero_le _⟩ dL_plays_160 (fun H locs hP hD hS => ?_)
                refine z_add (v := nI (48 + lowN ((((nI 1103515245) * y) + (nI 12345)) >>> ((nI 12) &&& 31)) 5)) hx hb dL_plays_163 (nI_add _ _) ?_
                refine z_qVE (As := [.int (nI (48 + lowN ((((nI 1103515245) * y) + (nI 12345)) >>> ((nI 12) &&& 31)) 5))]) (rest := []) F (q_type l G o pr q a b d pa S P u_9.2 u_9.1 v u pv B hq_9 (48 + lowN ((((nI 1103515245) * y) + (nI 12345)) >>> ((nI 12) &&& 31)) 5) (by have := lowN_lt ((((nI 1103515245) * y) + (nI 12345)) >>> ((nI 12) &&& 31)) (show 0 < 5 by omega); omega) (by have := lowN_lt ((((nI 1103515245) * y) + (nI 12345)) >>> ((nI 12) &&& 31)) (show 0 < 5 by omega); omega)) (cwV 1 hts gL_plays_X3_type rfl rfl rfl (by decide +kernel) ⟨Nat.le_of_ble_eq_true rfl, Nat.le_of_ble_eq_true rfl⟩) hKK rfl hP hD hS hA rfl hl.1 rfl (Nat.le_of_ble_eq_true rfl) ⟨Nat.zero_le _, Nat.zero_le _⟩ dL_plays_164 (fun r_14 u_14 H locs hq_14 hP hD hS => ?_)
                have hP : va_P G.1 vwCl (clW G o pr q a b d (pa, S, P, u_14.2, u_14.1, v, u, pv)) H := hP
                have hD : va_D A (clW G o pr q a b d (pa, S, P, u_14.2, u_14.1, v, u, pv)) := hD
                refine lv_pop hx hb dL_plays_167 rfl ?_
                refine lv_goto (tgt := 214) hx hb dL_plays_168 (by decide) ?_
                refine lv_iload_n hx hb dL_plays_214 rfl (lv_at hl 1 rfl) ?_
                refine lv_bipush (v := nI 22) hx hb dL_plays_215 (by decide) ?_
                refine lv_ishr hx hb dL_plays_217 ?_
                refine lv_bipush (v := nI 20) hx hb dL_plays_218 (by decide) ?_
                refine z_qS (As := [.int ((((nI 1103515245) * y) + (nI 12345)) >>> ((nI 22) &&& 31)), .int (nI 20)]) (rest := []) F (c_L_low l G (clW G o pr q a b d (pa, S, P, u_14.2, u_14.1, v, u, pv)) ((((nI 1103515245) * y) + (nI 12345)) >>> ((nI 22) &&& 31)) 20 (by omega) (by omega)) (va_cwS 2 hts gL_plays_L_low rfl rfl rfl (by decide +kernel) ⟨Nat.le_of_ble_eq_true rfl, Nat.le_of_ble_eq_true rfl⟩) hKK hP hD hS hA rfl hl.1 rfl (Nat.le_of_ble_eq_true rfl) ⟨Nat.zero_le _, Nat.zero_le _⟩ dL_plays_220 (fun H locs hP hD hS => ?_)
                refine lv_if_le (tgt := 233) hx hb dL_plays_223 (by decide) (fun c_15 => ?_) (fun c_15 => ?_)
                · skip
                  refine lv_iinc (v := nI (k + 1)) (lv' := [(3, .int (nI (k + 1))), (4, .int (nI (lowN ((((nI 1103515245) * y) + (nI 12345)) >>> ((nI 9) &&& 31)) 7))), (2, .int (((nI 1103515245) * y) + (nI 12345))), (0, .ref o), (1, .int x)]) hx hb dL_plays_233 hl (k := 4) rfl (nI_add _ _) (by decide) rfl (fun ls hl => ?_)
                  refine lv_goto (tgt := 9) hx hb dL_plays_236 (by decide) ?_
                  exact ih_9 (k + 1) (((nI 1103515245) * y) + (nI 12345)) u_14.1 u_14.2 (by omega) hq_14 (by omega) H locs ls hP hD hS (lv_sub hl [3, 4, 2, 0] rfl)
                · skip
                  refine lv_aload_n hx hb dL_plays_226 rfl (lv_at hl 2 rfl) ?_
                  refine lv_bipush (v := nI 59) hx hb dL_plays_227 (by decide) ?_
                  refine z_qVE (As := [.int (nI 59)]) (rest := []) F (q_type l G o pr q a b d pa S P u_14.2 u_14.1 v u pv B hq_14 59 (by omega) (by omega)) (cwV 1 hts gL_plays_X3_type rfl rfl rfl (by decide +kernel) ⟨Nat.le_of_ble_eq_true rfl, Nat.le_of_ble_eq_true rfl⟩) hKK rfl hP hD hS hA rfl hl.1 rfl (Nat.le_of_ble_eq_true rfl) ⟨Nat.zero_le _, Nat.zero_le _⟩ dL_plays_229 (fun r_16 u_16 H locs hq_16 hP hD hS => ?_)
                  have hP : va_P G.1 vwCl (clW G o pr q a b d (pa, S, P, u_16.2, u_16.1, v, u, pv)) H := hP
                  have hD : va_D A (clW G o pr q a b d (pa, S, P, u_16.2, u_16.1, v, u, pv)) := hD
                  refine lv_pop hx hb dL_plays_232 rfl ?_
                  refine lv_iinc (v := nI (k + 1)) (lv' := [(3, .int (nI (k + 1))), (4, .int (nI (lowN ((((nI 1103515245) * y) + (nI 12345)) >>> ((nI 9) &&& 31)) 7))), (2, .int (((nI 1103515245) * y) + (nI 12345))), (0, .ref o), (1, .int x)]) hx hb dL_plays_233 hl (k := 4) rfl (nI_add _ _) (by decide) rfl (fun ls hl => ?_)
                  refine lv_goto (tgt := 9) hx hb dL_plays_236 (by decide) ?_
                  exact ih_9 (k + 1) (((nI 1103515245) * y) + (nI 12345)) u_16.1 u_16.2 (by omega) hq_16 (by omega) H locs ls hP hD hS (lv_sub hl [3, 4, 2, 0] rfl)
            · skip
              refine lv_bipush (v := nI 61) hx hb dL_plays_69 (by decide) ?_
              refine lv_goto (tgt := 76) hx hb dL_plays_71 (by decide) ?_
              refine z_qVE (As := [.int (nI 61)]) (rest := []) F (q_type l G o pr q a b d pa S P L9 t9 v u pv B h9 61 (by omega) (by omega)) (cwV 1 hts gL_plays_X3_type rfl rfl rfl (by decide +kernel) ⟨Nat.le_of_ble_eq_true rfl, Nat.le_of_ble_eq_true rfl⟩) hKK rfl hP hD hS hA rfl hl.1 rfl (Nat.le_of_ble_eq_true rfl) ⟨Nat.zero_le _, Nat.zero_le _⟩ dL_plays_76 (fun r_17 u_17 H locs hq_17 hP hD hS => ?_)
              have hP : va_P G.1 vwCl (clW G o pr q a b d (pa, S, P, u_17.2, u_17.1, v, u, pv)) H := hP
              have hD : va_D A (clW G o pr q a b d (pa, S, P, u_17.2, u_17.1, v, u, pv)) := hD
              refine lv_pop hx hb dL_plays_79 rfl ?_
              refine lv_iload hx hb dL_plays_80 (lv_at hl 0 rfl) ?_
              refine lv_iconst (v := nI 5) hx hb dL_plays_82 (by decide) ?_
              refine z_ne (tgt := 133) hx hb dL_plays_83 (by decide) (by omega) (by omega) (fun h => absurd h (by omega)) (fun _ => ?_)
              refine lv_aload_n hx hb dL_plays_86 rfl (lv_at hl 2 rfl) ?_
              refine lv_bipush (v := nI 48) hx hb dL_plays_87 (by decide) ?_
              refine lv_iload_n hx hb dL_plays_89 rfl (lv_at hl 1 rfl) ?_
              refine lv_bipush (v := nI 12) hx hb dL_plays_90 (by decide) ?_
              refine lv_ishr hx hb dL_plays_92 ?_
              refine lv_iconst (v := nI 3) hx hb dL_plays_93 (by decide) ?_
              refine z_qS (As := [.int ((((nI 1103515245) * y) + (nI 12345)) >>> ((nI 12) &&& 31)), .int (nI 3)]) (rest := [.int (nI 48), .ref o]) F (c_L_low l G (clW G o pr q a b d (pa, S, P, u_17.2, u_17.1, v, u, pv)) ((((nI 1103515245) * y) + (nI 12345)) >>> ((nI 12) &&& 31)) 3 (by omega) (by omega)) (va_cwS 2 hts gL_plays_L_low rfl rfl rfl (by decide +kernel) ⟨Nat.le_of_ble_eq_true rfl, Nat.le_of_ble_eq_true rfl⟩) hKK hP hD hS hA rfl hl.1 rfl (Nat.le_of_ble_eq_true rfl) ⟨Nat.zero_le _, Nat.zero_le _⟩ dL_plays_94 (fun H locs hP hD hS => ?_)
              refine z_add (v := nI (48 + lowN ((((nI 1103515245) * y) + (nI 12345)) >>> ((nI 12) &&& 31)) 3)) hx hb dL_plays_97 (nI_add _ _) ?_
              refine z_qVE (As := [.int (nI (48 + lowN ((((nI 1103515245) * y) + (nI 12345)) >>> ((nI 12) &&& 31)) 3))]) (rest := []) F (q_type l G o pr q a b d pa S P u_17.2 u_17.1 v u pv B hq_17 (48 + lowN ((((nI 1103515245) * y) + (nI 12345)) >>> ((nI 12) &&& 31)) 3) (by have := lowN_lt ((((nI 1103515245) * y) + (nI 12345)) >>> ((nI 12) &&& 31)) (show 0 < 3 by omega); omega) (by have := lowN_lt ((((nI 1103515245) * y) + (nI 12345)) >>> ((nI 12) &&& 31)) (show 0 < 3 by omega); omega)) (cwV 1 hts gL_plays_X3_type rfl rfl rfl (by decide +kernel) ⟨Nat.le_of_ble_eq_true rfl, Nat.le_of_ble_eq_true rfl⟩) hKK rfl hP hD hS hA rfl hl.1 rfl (Nat.le_of_ble_eq_true rfl) ⟨Nat.zero_le _, Nat.zero_le _⟩ dL_plays_98 (fun r_18 u_18 H locs hq_18 hP hD hS => ?_)
              have hP : va_P G.1 vwCl (clW G o pr q a b d (pa, S, P, u_18.2, u_18.1, v, u, pv)) H := hP
              have hD : va_D A (clW G o pr q a b d (pa, S, P, u_18.2, u_18.1, v, u, pv)) := hD
              refine lv_pop hx hb dL_plays_101 rfl ?_
              refine lv_aload_n hx hb dL_plays_102 rfl (lv_at hl 2 rfl) ?_
              refine lv_bipush (v := nI 44) hx hb dL_plays_103 (by decide) ?_
              refine z_qVE (As := [.int (nI 44)]) (rest := []) F (q_type l G o pr q a b d pa S P u_18.2 u_18.1 v u pv B hq_18 44 (by omega) (by omega)) (cwV 1 hts gL_plays_X3_type rfl rfl rfl (by decide +kernel) ⟨Nat.le_of_ble_eq_true rfl, Nat.le_of_ble_eq_true rfl⟩) hKK rfl hP hD hS hA rfl hl.1 rfl (Nat.le_of_ble_eq_true rfl) ⟨Nat.zero_le _, Nat.zero_le _⟩ dL_plays_105 (fun r_19 u_19 H locs hq_19 hP hD hS => ?_)
              have hP : va_P G.1 vwCl (clW G o pr q a b d (pa, S, P, u_19.2, u_19.1, v, u, pv)) H := hP
              have hD : va_D A (clW G o pr q a b d (pa, S, P, u_19.2, u_19.1, v, u, pv)) := hD
              refine lv_pop hx hb dL_plays_108 rfl ?_
              refine lv_aload_n hx hb dL_plays_109 rfl (lv_at hl 2 rfl) ?_
              refine lv_bipush (v := nI 48) hx hb dL_plays_110 (by decide) ?_
              refine lv_iload_n hx hb dL_plays_112 rfl (lv_at hl 1 rfl) ?_
              refine lv_bipush (v := nI 14) hx hb dL_plays_113 (by decide) ?_
              refine lv_ishr hx hb dL_plays_115 ?_
              refine lv_bipush (v := nI 6) hx hb dL_plays_116 (by decide) ?_
              refine z_qS (As := [.int ((((nI 1103515245) * y) + (nI 12345)) >>> ((nI 14) &&& 31)), .int (nI 6)]) (rest := [.int (nI 48), .ref o]) F (c_L_low l G (clW G o pr q a b d (pa, S, P, u_19.2, u_19.1, v, u, pv)) ((((nI 1103515245) * y) + (nI 12345)) >>> ((nI 14) &&& 31)) 6 (by omega) (by omega)) (va_cwS 2 hts gL_plays_L_low rfl rfl rfl (by decide +kernel) ⟨Nat.le_of_ble_eq_true rfl, Nat.le_of_ble_eq_true rfl⟩) hKK hP hD hS hA rfl hl.1 rfl (Nat.le_of_ble_eq_true rfl) ⟨Nat.zero_le _, Nat.zero_le _⟩ dL_plays_118 (fun H locs hP hD hS => ?_)
              refine z_add (v := nI (48 + lowN ((((nI 1103515245) * y) + (nI 12345)) >>> ((nI 14) &&& 31)) 6)) hx hb dL_plays_121 (nI_add _ _) ?_
              refine z_qVE (As := [.int (nI (48 + lowN ((((nI 1103515245) * y) + (nI 12345)) >>> ((nI 14) &&& 31)) 6))]) (rest := []) F (q_type l G o pr q a b d pa S P u_19.2 u_19.1 v u pv B hq_19 (48 + lowN ((((nI 1103515245) * y) + (nI 12345)) >>> ((nI 14) &&& 31)) 6) (by have := lowN_lt ((((nI 1103515245) * y) + (nI 12345)) >>> ((nI 14) &&& 31)) (show 0 < 6 by omega); omega) (by have := lowN_lt ((((nI 1103515245) * y) + (nI 12345)) >>> ((nI 14) &&& 31)) (show 0 < 6 by omega); omega)) (cwV 1 hts gL_plays_X3_type rfl rfl rfl (by decide +kernel) ⟨Nat.le_of_ble_eq_true rfl, Nat.le_of_ble_eq_true rfl⟩) hKK rfl hP hD hS hA rfl hl.1 rfl (Nat.le_of_ble_eq_true rfl) ⟨Nat.zero_le _, Nat.zero_le _⟩ dL_plays_122 (fun r_20 u_20 H locs hq_20 hP hD hS => ?_)
              have hP : va_P G.1 vwCl (clW G o pr q a b d (pa, S, P, u_20.2, u_20.1, v, u, pv)) H := hP
              have hD : va_D A (clW G o pr q a b d (pa, S, P, u_20.2, u_20.1, v, u, pv)) := hD
              refine lv_pop hx hb dL_plays_125 rfl ?_
              refine lv_aload_n hx hb dL_plays_126 rfl (lv_at hl 2 rfl) ?_
              refine lv_bipush (v := nI 44) hx hb dL_plays_127 (by decide) ?_
              refine z_qVE (As := [.int (nI 44)]) (rest := []) F (q_type l G o pr q a b d pa S P u_20.2 u_20.1 v u pv B hq_20 44 (by omega) (by omega)) (cwV 1 hts gL_plays_X3_type rfl rfl rfl (by decide +kernel) ⟨Nat.le_of_ble_eq_true rfl, Nat.le_of_ble_eq_true rfl⟩) hKK rfl hP hD hS hA rfl hl.1 rfl (Nat.le_of_ble_eq_true rfl) ⟨Nat.zero_le _, Nat.zero_le _⟩ dL_plays_129 (fun r_21 u_21 H locs hq_21 hP hD hS => ?_)
              have hP : va_P G.1 vwCl (clW G o pr q a b d (pa, S, P, u_21.2, u_21.1, v, u, pv)) H := hP
              have hD : va_D A (clW G o pr q a b d (pa, S, P, u_21.2, u_21.1, v, u, pv)) := hD
              refine lv_pop hx hb dL_plays_132 rfl ?_
              refine lv_iload hx hb dL_plays_133 (lv_at hl 0 rfl) ?_
              refine lv_bipush (v := nI 6) hx hb dL_plays_135 (by decide) ?_
              refine z_ne (tgt := 171) hx hb dL_plays_137 (by decide) (by omega) (by omega) (fun _ => ?_) (fun h => absurd h (by omega))
              refine lv_aload_n hx hb dL_plays_171 rfl (lv_at hl 2 rfl) ?_
              refine lv_bipush (v := nI 97) hx hb dL_plays_172 (by decide) ?_
              refine lv_iload_n hx hb dL_plays_174 rfl (lv_at hl 1 rfl) ?_
              refine lv_bipush (v := nI 17) hx hb dL_plays_175 (by decide) ?_
              refine lv_ishr hx hb dL_plays_177 ?_
              refine lv_iconst (v := nI 3) hx hb dL_plays_178 (by decide) ?_
              refine z_qS (As := [.int ((((nI 1103515245) * y) + (nI 12345)) >>> ((nI 17) &&& 31)), .int (nI 3)]) (rest := [.int (nI 97), .ref o]) F (c_L_low l G (clW G o pr q a b d (pa, S, P, u_21.2, u_21.1, v, u, pv)) ((((nI 1103515245) * y) + (nI 12345)) >>> ((nI 17) &&& 31)) 3 (by omega) (by omega)) (va_cwS 2 hts gL_plays_L_low rfl rfl rfl (by decide +kernel) ⟨Nat.le_of_ble_eq_true rfl, Nat.le_of_ble_eq_true rfl⟩) hKK hP hD hS hA rfl hl.1 rfl (Nat.le_of_ble_eq_true rfl) ⟨Nat.zero_le _, Nat.zero_le _⟩ dL_plays_179 (fun H locs hP hD hS => ?_)
              refine z_add (v := nI (97 + lowN ((((nI 1103515245) * y) + (nI 12345)) >>> ((nI 17) &&& 31)) 3)) hx hb dL_plays_182 (nI_add _ _) ?_
              refine z_qVE (As := [.int (nI (97 + lowN ((((nI 1103515245) * y) + (nI 12345)) >>> ((nI 17) &&& 31)) 3))]) (rest := []) F (q_type l G o pr q a b d pa S P u_21.2 u_21.1 v u pv B hq_21 (97 + lowN ((((nI 1103515245) * y) + (nI 12345)) >>> ((nI 17) &&& 31)) 3) (by have := lowN_lt ((((nI 1103515245) * y) + (nI 12345)) >>> ((nI 17) &&& 31)) (show 0 < 3 by omega); omega) (by have := lowN_lt ((((nI 1103515245) * y) + (nI 12345)) >>> ((nI 17) &&& 31)) (show 0 < 3 by omega); omega)) (cwV 1 hts gL_plays_X3_type rfl rfl rfl (by decide +kernel) ⟨Nat.le_of_ble_eq_true rfl, Nat.le_of_ble_eq_true rfl⟩) hKK rfl hP hD hS hA rfl hl.1 rfl (Nat.le_of_ble_eq_true rfl) ⟨Nat.zero_le _, Nat.zero_le _⟩ dL_plays_183 (fun r_22 u_22 H locs hq_22 hP hD hS => ?_)
              have hP : va_P G.1 vwCl (clW G o pr q a b d (pa, S, P, u_22.2, u_22.1, v, u, pv)) H := hP
              have hD : va_D A (clW G o pr q a b d (pa, S, P, u_22.2, u_22.1, v, u, pv)) := hD
              refine lv_pop hx hb dL_plays_186 rfl ?_
              refine lv_iload_n hx hb dL_plays_187 rfl (lv_at hl 1 rfl) ?_
              refine lv_bipush (v := nI 19) hx hb dL_plays_188 (by decide) ?_
              refine lv_ishr hx hb dL_plays_190 ?_
              refine lv_iconst (v := nI 2) hx hb dL_plays_191 (by decide) ?_
              refine z_qS (As := [.int ((((nI 1103515245) * y) + (nI 12345)) >>> ((nI 19) &&& 31)), .int (nI 2)]) (rest := []) F (c_L_low l G (clW G o pr q a b d (pa, S, P, u_22.2, u_22.1, v, u, pv)) ((((nI 1103515245) * y) + (nI 12345)) >>> ((nI 19) &&& 31)) 2 (by omega) (by omega)) (va_cwS 2 hts gL_plays_L_low rfl rfl rfl (by decide +kernel) ⟨Nat.le_of_ble_eq_true rfl, Nat.le_of_ble_eq_true rfl⟩) hKK hP hD hS hA rfl hl.1 rfl (Nat.le_of_ble_eq_true rfl) ⟨Nat.zero_le _, Nat.zero_le _⟩ dL_plays_192 (fun H locs hP hD hS => ?_)
              refine lv_if_ne (tgt := 214) hx hb dL_plays_195 (by decide) (fun c_23 => ?_) (fun c_23 => ?_)
              · skip
                refine lv_iload_n hx hb dL_plays_214 rfl (lv_at hl 1 rfl) ?_
                refine lv_bipush (v := nI 22) hx hb dL_plays_215 (by decide) ?_
                refine lv_ishr hx hb dL_plays_217 ?_
                refine lv_bipush (v := nI 20) hx hb dL_plays_218 (by decide) ?_
                refine z_qS (As := [.int ((((nI 1103515245) * y) + (nI 12345)) >>> ((nI 22) &&& 31)), .int (nI 20)]) (rest := []) F (c_L_low l G (clW G o pr q a b d (pa, S, P, u_22.2, u_22.1, v, u, pv)) ((((nI 1103515245) * y) + (nI 12345)) >>> ((nI 22) &&& 31)) 20 (by omega) (by omega)) (va_cwS 2 hts gL_plays_L_low rfl rfl rfl (by decide +kernel) ⟨Nat.le_of_ble_eq_true rfl, Nat.le_of_ble_eq_true rfl⟩) hKK hP hD hS hA rfl hl.1 rfl (Nat.le_of_ble_eq_true rfl) ⟨Nat.zero_le _, Nat.zero_le _⟩ dL_plays_220 (fun H locs hP hD hS => ?_)
                refine lv_if_le (tgt := 233) hx hb dL_plays_223 (by decide) (fun c_24 => ?_) (fun c_24 => ?_)
                · skip
                  refine lv_iinc (v := nI (k + 1)) (lv' := [(3, .int (nI (k + 1))), (4, .int (nI (lowN ((((nI 1103515245) * y) + (nI 12345)) >>> ((nI 9) &&& 31)) 7))), (2, .int (((nI 1103515245) * y) + (nI 12345))), (0, .ref o), (1, .int x)]) hx hb dL_plays_233 hl (k := 4) rfl (nI_add _ _) (by decide) rfl (fun ls hl => ?_)
                  refine lv_goto (tgt := 9) hx hb dL_plays_236 (by decide) ?_
                  exact ih_9 (k + 1) (((nI 1103515245) * y) + (nI 12345)) u_22.1 u_22.2 (by omega) hq_22 (by omega) H locs ls hP hD hS (lv_sub hl [3, 4, 2, 0] rfl)
                · skip
                  refine lv_aload_n hx hb dL_plays_226 rfl (lv_at hl 2 rfl) ?_
                  refine lv_bipush (v := nI 59) hx hb dL_plays_227 (by decide) ?_
                  refine z_qVE (As := [.int (nI 59)]) (rest := []) F (q_type l G o pr q a b d pa S P u_22.2 u_22.1 v u pv B hq_22 59 (by omega) (by omega)) (cwV 1 hts gL_plays_X3_type rfl rfl rfl (by decide +kernel) ⟨Nat.le_of_ble_eq_true rfl, Nat.le_of_ble_eq_true rfl⟩) hKK rfl hP hD hS hA rfl hl.1 rfl (Nat.le_of_ble_eq_true rfl) ⟨Nat.zero_le _, Nat.zero_le _⟩ dL_plays_229 (fun r_25 u_25 H locs hq_25 hP hD hS => ?_)
                  have hP : va_P G.1 vwCl (clW G o pr q a b d (pa, S, P, u_25.2, u_25.1, v, u, pv)) H := hP
                  have hD : va_D A (clW G o pr q a b d (pa, S, P, u_25.2, u_25.1, v, u, pv)) := hD
                  refine lv_pop hx hb dL_plays_232 rfl ?_
                  refine lv_iinc (v := nI (k + 1)) (lv' := [(3, .int (nI (k + 1))), (4, .int (nI (lowN ((((nI 1103515245) * y) + (nI 12345)) >>> ((nI 9) &&& 31)) 7))), (2, .int (((nI 1103515245) * y) + (nI 12345))), (0, .ref o), (1, .int x)]) hx hb dL_plays_233 hl (k := 4) rfl (nI_add _ _) (by decide) rfl (fun ls hl => ?_)
                  refine lv_goto (tgt := 9) hx hb dL_plays_236 (by decide) ?_
                  exact ih_9 (k + 1) (((nI 1103515245) * y) + (nI 12345)) u_25.1 u_25.2 (by omega) hq_25 (by omega) H locs ls hP hD hS (lv_sub hl [3, 4, 2, 0] rfl)
              · skip
                refine lv_aload_n hx hb dL_plays_198 rfl (lv_at hl 2 rfl) ?_
                refine lv_bipush (v := nI 97) hx hb dL_plays_199 (by decide) ?_
                refine lv_iload_n hx hb dL_plays_201 rfl (lv_at hl 1 rfl) ?_
                refine lv_bipush (v := nI 20) hx hb dL_plays_202 (by decide) ?_
                refine lv_ishr hx hb dL_plays_204 ?_
                refine lv_iconst (v := nI 2) hx hb dL_plays_205 (by decide) ?_
                refine z_qS (As := [.int ((((nI 1103515245) * y) + (nI 12345)) >>> ((nI 20) &&& 31)), .int (nI 2)]) (rest := [.int (nI 97), .ref o]) F (c_L_low l G (clW G o pr q a b d (pa, S, P, u_22.2, u_22.1, v, u, pv)) ((((nI 1103515245) * y) + (nI 12345)) >>> ((nI 20) &&& 31)) 2 (by omega) (by omega)) (va_cwS 2 hts gL_plays_L_low rfl rfl rfl (by decide +kernel) ⟨Nat.le_of_ble_eq_true rfl, Nat.le_of_ble_eq_true rfl⟩) hKK hP hD hS hA rfl hl.1 rfl (Nat.le_of_ble_eq_true rfl) ⟨Nat.zero_le _, Nat.zero_le _⟩ dL_plays_206 (fun H locs hP hD hS => ?_)
                refine z_add (v := nI (97 + lowN ((((nI 1103515245) * y) + (nI 12345)) >>> ((nI 20) &&& 31)) 2)) hx hb dL_plays_209 (nI_add _ _) ?_
                refine z_qVE (As := [.int (nI (97 + lowN ((((nI 1103515245) * y) + (nI 12345)) >>> ((nI 20) &&& 31)) 2))]) (rest := []) F (q_type l G o pr q a b d pa S P u_22.2 u_22.1 v u pv B hq_22 (97 + lowN ((((nI 1103515245) * y) + (nI 12345)) >>> ((nI 20) &&& 31)) 2) (by have := lowN_lt ((((nI 1103515245) * y) + (nI 12345)) >>> ((nI 20) &&& 31)) (show 0 < 2 by omega); omega) (by have := lowN_lt ((((nI 1103515245) * y) + (nI 12345)) >>> ((nI 20) &&& 31)) (show 0 < 2 by omega); omega)) (cwV 1 hts gL_plays_X3_type rfl rfl rfl (by decide +kernel) ⟨Nat.le_of_ble_eq_true rfl, Nat.le_of_ble_eq_true rfl⟩) hKK rfl hP hD hS hA rfl hl.1 rfl (Nat.le_of_ble_eq_true rfl) ⟨Nat.zero_le _, Nat.zero_le _⟩ dL_plays_210 (fun r_26 u_26 H locs hq_26 hP hD hS => ?_)
                have hP : va_P G.1 vwCl (clW G o pr q a b d (pa, S, P, u_26.2, u_26.1, v, u, pv)) H := hP
                have hD : va_D A (clW G o pr q a b d (pa, S, P, u_26.2, u_26.1, v, u, pv)) := hD
                refine lv_pop hx hb dL_plays_213 rfl ?_
                refine lv_iload_n hx hb dL_plays_214 rfl (lv_at hl 1 rfl) ?_
                refine lv_bipush (v := nI 22) hx hb dL_plays_215 (by decide) ?_
                refine lv_ishr hx hb dL_plays_217 ?_
                refine lv_bipush (v := nI 20) hx hb dL_plays_218 (by decide) ?_
                refine z_qS (As := [.int ((((nI 1103515245) * y) + (nI 12345)) >>> ((nI 22) &&& 31)), .int (nI 20)]) (rest := []) F (c_L_low l G (clW G o pr q a b d (pa, S, P, u_26.2, u_26.1, v, u, pv)) ((((nI 1103515245) * y) + (nI 12345)) >>> ((nI 22) &&& 31)) 20 (by omega) (by omega)) (va_cwS 2 hts gL_plays_L_low rfl rfl rfl (by decide +kernel) ⟨Nat.le_of_ble_eq_true rfl, Nat.le_of_ble_eq_true rfl⟩) hKK hP hD hS hA rfl hl.1 rfl (Nat.le_of_ble_eq_true rfl) ⟨Nat.zero_le _, Nat.zero_le _⟩ dL_plays_220 (fun H locs hP hD hS => ?_)
                refine lv_if_le (tgt := 233) hx hb dL_plays_223 (by decide) (fun c_27 => ?_) (fun c_27 => ?_)
                · skip
                  refine lv_iinc (v := nI (k + 1)) (lv' := [(3, .int (nI (k + 1))), (4, .int (nI (lowN ((((nI 1103515245) * y) + (nI 12345)) >>> ((nI 9) &&& 31)) 7))), (2, .int (((nI 1103515245) * y) + (nI 12345))), (0, .ref o), (1, .int x)]) hx hb dL_plays_233 hl (k := 4) rfl (nI_add _ _) (by decide) rfl (fun ls hl => ?_)
                  refine lv_goto (tgt := 9) hx hb dL_plays_236 (by decide) ?_
                  exact ih_9 (k + 1) (((nI 1103515245) * y) + (nI 12345)) u_26.1 u_26.2 (by omega) hq_26 (by omega) H locs ls hP hD hS (lv_sub hl [3, 4, 2, 0] rfl)
                · skip
                  refine lv_aload_n hx hb dL_plays_226 rfl (lv_at hl 2 rfl) ?_
                  refine lv_bipush (v := nI 59) hx hb dL_plays_227 (by decide) ?_
                  refine z_qVE (As := [.int (nI 59)]) (rest := []) F (q_type l G o pr q a b d pa S P u_26.2 u_26.1 v u pv B hq_26 59 (by omega) (by omega)) (cwV 1 hts gL_plays_X3_type rfl rfl rfl (by decide +kernel) ⟨Nat.le_of_ble_eq_true rfl, Nat.le_of_ble_eq_true rfl⟩) hKK rfl hP hD hS hA rfl hl.1 rfl (Nat.le_of_ble_eq_true rfl) ⟨Nat.zero_le _, Nat.zero_le _⟩ dL_plays_229 (fun r_28 u_28 H locs hq_28 hP hD hS => ?_)
                  have hP : va_P G.1 vwCl (clW G o pr q a b d (pa, S, P, u_28.2, u_28.1, v, u, pv)) H := hP
                  have hD : va_D A (clW G o pr q a b d (pa, S, P, u_28.2, u_28.1, v, u, pv)) := hD
                  refine lv_pop hx hb dL_plays_232 rfl ?_
                  refine lv_iinc (v := nI (k + 1)) (lv' := [(3, .int (nI (k + 1))), (4, .int (nI (lowN ((((nI 1103515245) * y) + (nI 12345)) >>> ((nI 9) &&& 31)) 7))), (2, .int (((nI 1103515245) * y) + (nI 12345))), (0, .ref o), (1, .int x)]) hx hb dL_plays_233 hl (k := 4) rfl (nI_add _ _) (by decide) rfl (fun ls hl => ?_)
                  refine lv_goto (tgt := 9) hx hb dL_plays_236 (by decide) ?_
                  exact ih_9 (k + 1) (((nI 1103515245) * y) + (nI 12345)) u_28.1 u_28.2 (by omega) hq_28 (by omega) H locs ls hP hD hS (lv_sub hl [3, 4, 2, 0] rfl)
          · skip
            refine lv_bipush (v := nI 45) hx hb dL_plays_58 (by decide) ?_
            refine lv_goto (tgt := 76) hx hb dL_plays_60 (by decide) ?_
            refine z_qVE (As := [.int (nI 45)]) (rest := []) F (q_type l G o pr q a b d pa S P L9 t9 v u pv B h9 45 (by omega) (by omega)) (cwV 1 hts gL_plays_X3_type rfl rfl rfl (by decide +kernel) ⟨Nat.le_of_ble_eq_true rfl, Nat.le_of_ble_eq_true rfl⟩) hKK rfl hP hD hS hA rfl hl.1 rfl (Nat.le_of_ble_eq_true rfl) ⟨Nat.zero_le _, Nat.zero_le _⟩ dL_plays_76 (fun r_29 u_29 H locs hq_29 hP hD hS => ?_)
            have hP : va_P G.1 vwCl (clW G o pr q a b d (pa, S, P, u_29.2, u_29.1, v, u, pv)) H := hP
            have hD : va_D A (clW G o pr q a b d (pa, S, P, u_29.2, u_29.1, v, u, pv)) := hD
            refine lv_pop hx hb dL_plays_79 rfl ?_
            refine lv_iload hx hb dL_plays_80 (lv_at hl 0 rfl) ?_
            refine lv_iconst (v := nI 5) hx hb dL_plays_82 (by decide) ?_
            refine z_ne (tgt := 133) hx hb dL_plays_83 (by decide) (by omega) (by omega) (fun _ => ?_) (fun h => absurd h (by omega))
            refine lv_iload hx hb dL_plays_133 (lv_at hl 0 rfl) ?_
            refine lv_bipush (v := nI 6) hx hb dL_plays_135 (by decide) ?_
            refine z_ne (tgt := 171) hx hb dL_plays_137 (by decide) (by omega) (by omega) (fun _ => ?_) (fun h => absurd h (by omega))
            refine lv_aload_n hx hb dL_plays_171 rfl (lv_at hl 2 rfl) ?_
            refine lv_bipush (v := nI 97) hx hb dL_plays_172 (by decide) ?_
            refine lv_iload_n hx hb dL_plays_174 rfl (lv_at hl 1 rfl) ?_
            refine lv_bipush (v := nI 17) hx hb dL_plays_175 (by decide) ?_
            refine lv_ishr hx hb dL_plays_177 ?_
            refine lv_iconst (v := nI 3) hx hb dL_plays_178 (by decide) ?_
            refine z_qS (As := [.int ((((nI 1103515245) * y) + (nI 12345)) >>> ((nI 17) &&& 31)), .int (nI 3)]) (rest := [.int (nI 97), .ref o]) F (c_L_low l G (clW G o pr q a b d (pa, S, P, u_29.2, u_29.1, v, u, pv)) ((((nI 1103515245) * y) + (nI 12345)) >>> ((nI 17) &&& 31)) 3 (by omega) (by omega)) (va_cwS 2 hts gL_plays_L_low rfl rfl rfl (by decide +kernel) ⟨Nat.le_of_ble_eq_true rfl, Nat.le_of_ble_eq_true rfl⟩) hKK hP hD hS hA rfl hl.1 rfl (Nat.le_of_ble_eq_true rfl) ⟨Nat.zero_le _, Nat.zero_le _⟩ dL_plays_179 (fun H locs hP hD hS => ?_)
            refine z_add (v := nI (97 + lowN ((((nI 1103515245) * y) + (nI 12345)) >>> ((nI 17) &&& 31)) 3)) hx hb dL_plays_182 (nI_add _ _) ?_
            refine z_qVE (As := [.int (nI (97 + lowN ((((nI 1103515245) * y) + (nI 12345)) >>> ((nI 17) &&& 31)) 3))]) (rest := []) F (q_type l G o pr q a b d pa S P u_29.2 u_29.1 v u pv B hq_29 (97 + lowN ((((nI 1103515245) * y) + (nI 12345)) >>> ((nI 17) &&& 31)) 3) (by have := lowN_lt ((((nI 1103515245) * y) + (nI 12345)) >>> ((nI 17) &&& 31)) (show 0 < 3 by omega); omega) (by have := lowN_lt ((((nI 1103515245) * y) + (nI 12345)) >>> ((nI 17) &&& 31)) (show 0 < 3 by omega); omega)) (cwV 1 hts gL_plays_X3_type rfl rfl rfl (by decide +kernel) ⟨Nat.le_of_ble_eq_true rfl, Nat.le_of_ble_eq_true rfl⟩) hKK rfl hP hD hS hA rfl hl.1 rfl (Nat.le_of_ble_eq_true rfl) ⟨Nat.zero_le _, Nat.zero_le _⟩ dL_plays_183 (fun r_30 u_30 H locs hq_30 hP hD hS => ?_)
            have hP : va_P G.1 vwCl (clW G o pr q a b d (pa, S, P, u_30.2, u_30.1, v, u, pv)) H := hP
            have hD : va_D A (clW G o pr q a b d (pa, S, P, u_30.2, u_30.1, v, u, pv)) := hD
            refine lv_pop hx hb dL_plays_186 rfl ?_
            refine lv_iload_n hx hb dL_plays_187 rfl (lv_at hl 1 rfl) ?_
            refine lv_bipush (v := nI 19) hx hb dL_plays_188 (by decide) ?_
            refine lv_ishr hx hb dL_plays_190 ?_
            refine lv_iconst (v := nI 2) hx hb dL_plays_191 (by decide) ?_
            refine z_qS (As := [.int ((((nI 1103515245) * y) + (nI 12345)) >>> ((nI 19) &&& 31)), .int (nI 2)]) (rest := []) F (c_L_low l G (clW G o pr q a b d (pa, S, P, u_30.2, u_30.1, v, u, pv)) ((((nI 1103515245) * y) + (nI 12345)) >>> ((nI 19) &&& 31)) 2 (by omega) (by omega)) (va_cwS 2 hts gL_plays_L_low rfl rfl rfl (by decide +kernel) ⟨Nat.le_of_ble_eq_true rfl, Nat.le_of_ble_eq_true rfl⟩) hKK hP hD hS hA rfl hl.1 rfl (Nat.le_of_ble_eq_true rfl) ⟨Nat.zero_le _, Nat.zero_le _⟩ dL_plays_192 (fun H locs hP hD hS => ?_)
            refine lv_if_ne (tgt := 214) hx hb dL_plays_195 (by decide) (fun c_31 => ?_) (fun c_31 => ?_)
            · skip
              refine lv_iload_n hx hb dL_plays_214 rfl (lv_at hl 1 rfl) ?_
              refine lv_bipush (v := nI 22) hx hb dL_plays_215 (by decide) ?_
              refine lv_ishr hx hb dL_plays_217 ?_
              refine lv_bipush (v := nI 20) hx hb dL_plays_218 (by decide) ?_
              refine z_qS (As := [.int ((((nI 1103515245) * y) + (nI 12345)) >>> ((nI 22) &&& 31)), .int (nI 20)]) (rest := []) F (c_L_low l G (clW G o pr q a b d (pa, S, P, u_30.2, u_30.1, v, u, pv)) ((((nI 1103515245) * y) + (nI 12345)) >>> ((nI 22) &&& 31)) 20 (by omega) (by omega)) (va_cwS 2 hts gL_plays_L_low rfl rfl rfl (by decide +kernel) ⟨Nat.le_of_ble_eq_true rfl, Nat.le_of_ble_eq_true rfl⟩) hKK hP hD hS hA rfl hl.1 rfl (Nat.le_of_ble_eq_true rfl) ⟨Nat.zero_le _, Nat.zero_le _⟩ dL_plays_220 (fun H locs hP hD hS => ?_)
              refine lv_if_le (tgt := 233) hx hb dL_plays_223 (by decide) (fun c_32 => ?_) (fun c_32 => ?_)
              · skip
                refine lv_iinc (v := nI (k + 1)) (lv' := [(3, .int (nI (k + 1))), (4, .int (nI (lowN ((((nI 1103515245) * y) + (nI 12345)) >>> ((nI 9) &&& 31)) 7))), (2, .int (((nI 1103515245) * y) + (nI 12345))), (0, .ref o), (1, .int x)]) hx hb dL_plays_233 hl (k := 4) rfl (nI_add _ _) (by decide) rfl (fun ls hl => ?_)
                refine lv_goto (tgt := 9) hx hb dL_plays_236 (by decide) ?_
                exact ih_9 (k + 1) (((nI 1103515245) * y) + (nI 12345)) u_30.1 u_30.2 (by omega) hq_30 (by omega) H locs ls hP hD hS (lv_sub hl [3, 4, 2, 0] rfl)
              · skip
                refine lv_aload_n hx hb dL_plays_226 rfl (lv_at hl 2 rfl) ?_
                refine lv_bipush (v := nI 59) hx hb dL_plays_227 (by decide) ?_
                refine z_qVE (As := [.int (nI 59)]) (rest := []) F (q_type l G o pr q a b d pa S P u_30.2 u_30.1 v u pv B hq_30 59 (by omega) (by omega)) (cwV 1 hts gL_plays_X3_type rfl rfl rfl (by decide +kernel) ⟨Nat.le_of_ble_eq_true rfl, Nat.le_of_ble_eq_true rfl⟩) hKK rfl hP hD hS hA rfl hl.1 rfl (Nat.le_of_ble_eq_true rfl) ⟨Nat.zero_le _, Nat.zero_le _⟩ dL_plays_229 (fun r_33 u_33 H locs hq_33 hP hD hS => ?_)
                have hP : va_P G.1 vwCl (clW G o pr q a b d (pa, S, P, u_33.2, u_33.1, v, u, pv)) H := hP
                have hD : va_D A (clW G o pr q a b d (pa, S, P, u_33.2, u_33.1, v, u, pv)) := hD
                refine lv_pop hx hb dL_plays_232 rfl ?_
                refine lv_iinc (v := nI (k + 1)) (lv' := [(3, .int (nI (k + 1))), (4, .int (nI (lowN ((((nI 1103515245) * y) + (nI 12345)) >>> ((nI 9) &&& 31)) 7))), (2, .int (((nI 1103515245) * y) + (nI 12345))), (0, .ref o), (1, .int x)]) hx hb dL_plays_233 hl (k := 4) rfl (nI_add _ _) (by decide) rfl (fun ls hl => ?_)
                refine lv_goto (tgt := 9) hx hb dL_plays_236 (by decide) ?_
                exact ih_9 (k + 1) (((nI 1103515245) * y) + (nI 12345)) u_33.1 u_33.2 (by omega) hq_33 (by omega) H locs ls hP hD hS (lv_sub hl [3, 4, 2, 0] rfl)
            · skip
              refine lv_aload_n hx hb dL_plays_198 rfl (lv_at hl 2 rfl) ?_
              refine lv_bipush (v := nI 97) hx hb dL_plays_199 (by decide) ?_
              refine lv_iload_n hx hb dL_plays_201 rfl (lv_at hl 1 rfl) ?_
              refine lv_bipush (v := nI 20) hx hb dL_plays_202 (by decide) ?_
              refine lv_ishr hx hb dL_plays_204 ?_
              refine lv_iconst (v := nI 2) hx hb dL_plays_205 (by decide) ?_
              refine z_qS (As := [.int ((((nI 1103515245) * y) + (nI 12345)) >>> ((nI 20) &&& 31)), .int (nI 2)]) (rest := [.int (nI 97), .ref o]) F (c_L_low l G (clW G o pr q a b d (pa, S, P, u_30.2, u_30.1, v, u, pv)) ((((nI 1103515245) * y) + (nI 12345)) >>> ((nI 20) &&& 31)) 2 (by omega) (by omega)) (va_cwS 2 hts gL_plays_L_low rfl rfl rfl (by decide +kernel) ⟨Nat.le_of_ble_eq_true rfl, Nat.le_of_ble_eq_true rfl⟩) hKK hP hD hS hA rfl hl.1 rfl (Nat.le_of_ble_eq_true rfl) ⟨Nat.zero_le _, Nat.zero_le _⟩ dL_plays_206 (fun H locs hP hD hS => ?_)
              refine z_add (v := nI (97 + lowN ((((nI 1103515245) * y) + (nI 12345)) >>> ((nI 20) &&& 31)) 2)) hx hb dL_plays_209 (nI_add _ _) ?_
              refine z_qVE (As := [.int (nI (97 + lowN ((((nI 1103515245) * y) + (nI 12345)) >>> ((nI 20) &&& 31)) 2))]) (rest := []) F (q_type l G o pr q a b d pa S P u_30.2 u_30.1 v u pv B hq_30 (97 + lowN ((((nI 1103515245) * y) + (nI 12345)) >>> ((nI 20) &&& 31)) 2) (by have := lowN_lt ((((nI 1103515245) * y) + (nI 12345)) >>> ((nI 20) &&& 31)) (show 0 < 2 by omega); omega) (by have := lowN_lt ((((nI 1103515245) * y) + (nI 12345)) >>> ((nI 20) &&& 31)) (show 0 < 2 by omega); omega)) (cwV 1 hts gL_plays_X3_type rfl rfl rfl (by decide +kernel) ⟨Nat.le_of_ble_eq_true rfl, Nat.le_of_ble_eq_true rfl⟩) hKK rfl hP hD hS hA rfl hl.1 rfl (Nat.le_of_ble_eq_true rfl) ⟨Nat.zero_le _, Nat.zero_le _⟩ dL_plays_210 (fun r_34 u_34 H locs hq_34 hP hD hS => ?_)
              have hP : va_P G.1 vwCl (clW G o pr q a b d (pa, S, P, u_34.2, u_34.1, v, u, pv)) H := hP
              have hD : va_D A (clW G o pr q a b d (pa, S, P, u_34.2, u_34.1, v, u, pv)) := hD
              refine lv_pop hx hb dL_plays_213 rfl ?_
              refine lv_iload_n hx hb dL_plays_214 rfl (lv_at hl 1 rfl) ?_
              refine lv_bipush (v := nI 22) hx hb dL_plays_215 (by decide) ?_
              refine lv_ishr hx hb dL_plays_217 ?_
              refine lv_bipush (v := nI 20) hx hb dL_plays_218 (by decide) ?_
              refine z_qS (As := [.int ((((nI 1103515245) * y) + (nI 12345)) >>> ((nI 22) &&& 31)), .int (nI 20)]) (rest := []) F (c_L_low l G (clW G o pr q a b d (pa, S, P, u_34.2, u_34.1, v, u, pv)) ((((nI 1103515245) * y) + (nI 12345)) >>> ((nI 22) &&& 31)) 20 (by omega) (by omega)) (va_cwS 2 hts gL_plays_L_low rfl rfl rfl (by decide +kernel) ⟨Nat.le_of_ble_eq_true rfl, Nat.le_of_ble_eq_true rfl⟩) hKK hP hD hS hA rfl hl.1 rfl (Nat.le_of_ble_eq_true rfl) ⟨Nat.zero_le _, Nat.zero_le _⟩ dL_plays_220 (fun H locs hP hD hS => ?_)
              refine lv_if_le (tgt := 233) hx hb dL_plays_223 (by decide) (fun c_35 => ?_) (fun c_35 => ?_)
              · skip
                refine lv_iinc (v := nI (k + 1)) (lv' := [(3, .int (nI (k + 1))), (4, .int (nI (lowN ((((nI 1103515245) * y) + (nI 12345)) >>> ((nI 9) &&& 31)) 7))), (2, .int (((nI 1103515245) * y) + (nI 12345))), (0, .ref o), (1, .int x)]) hx hb dL_plays_233 hl (k := 4) rfl (nI_add _ _) (by decide) rfl (fun ls hl => ?_)
                refine lv_goto (tgt := 9) hx hb dL_plays_236 (by decide) ?_
                exact ih_9 (k + 1) (((nI 1103515245) * y) + (nI 12345)) u_34.1 u_34.2 (by omega) hq_34 (by omega) H locs ls hP hD hS (lv_sub hl [3, 4, 2, 0] rfl)
              · skip
                refine lv_aload_n hx hb dL_plays_226 rfl (lv_at hl 2 rfl) ?_
                refine lv_bipush (v := nI 59) hx hb dL_plays_227 (by decide) ?_
                refine z_qVE (As := [.int (nI 59)]) (rest := []) F (q_type l G o pr q a b d pa S P u_34.2 u_34.1 v u pv B hq_34 59 (by omega) (by omega)) (cwV 1 hts gL_plays_X3_type rfl rfl rfl (by decide +kernel) ⟨Nat.le_of_ble_eq_true rfl, Nat.le_of_ble_eq_true rfl⟩) hKK rfl hP hD hS hA rfl hl.1 rfl (Nat.le_of_ble_eq_true rfl) ⟨Nat.zero_le _, Nat.zero_le _⟩ dL_plays_229 (fun r_36 u_36 H locs hq_36 hP hD hS => ?_)
                have hP : va_P G.1 vwCl (clW G o pr q a b d (pa, S, P, u_36.2, u_36.1, v, u, pv)) H := hP
                have hD : va_D A (clW G o pr q a b d (pa, S, P, u_36.2, u_36.1, v, u, pv)) := hD
                refine lv_pop hx hb dL_plays_232 rfl ?_
                refine lv_iinc (v := nI (k + 1)) (lv' := [(3, .int (nI (k + 1))), (4, .int (nI (lowN ((((nI 1103515245) * y) + (nI 12345)) >>> ((nI 9) &&& 31)) 7))), (2, .int (((nI 1103515245) * y) + (nI 12345))), (0, .ref o), (1, .int x)]) hx hb dL_plays_233 hl (k := 4) rfl (nI_add _ _) (by decide) rfl (fun ls hl => ?_)
                refine lv_goto (tgt := 9) hx hb dL_plays_236 (by decide) ?_
                exact ih_9 (k + 1) (((nI 1103515245) * y) + (nI 12345)) u_36.1 u_36.2 (by omega) hq_36 (by omega) H locs ls hP hD hS (lv_sub hl [3, 4, 2, 0] rfl)
        · skip
          refine lv_bipush (v := nI 43) hx hb dL_plays_47 (by decide) ?_
          refine lv_goto (tgt := 76) hx hb dL_plays_49 (by decide) ?_
          refine z_qVE (As := [.int (nI 43)]) (rest := []) F (q_type l G o pr q a b d pa S P L9 t9 v u pv B h9 43 (by omega) (by omega)) (cwV 1 hts gL_plays_X3_type rfl rfl rfl (by decide +kernel) ⟨Nat.le_of_ble_eq_true rfl, Nat.le_of_ble_eq_true rfl⟩) hKK rfl hP hD hS hA rfl hl.1 rfl (Nat.le_of_ble_eq_true rfl) ⟨Nat.zero_le _, Nat.zero_le _⟩ dL_plays_76 (fun r_37 u_37 H locs hq_37 hP hD hS => ?_)
          have hP : va_P G.1 vwCl (clW G o pr q a b d (pa, S, P, u_37.2, u_37.1, v, u, pv)) H := hP
          have hD : va_D A (clW G o pr q a b d (pa, S, P, u_37.2, u_37.1, v, u, pv)) := hD
          refine lv_pop hx hb dL_plays_79 rfl ?_
          refine lv_iload hx hb dL_plays_80 (lv_at hl 0 rfl) ?_
          refine lv_iconst (v := nI 5) hx hb dL_plays_82 (by decide) ?_
          refine z_ne (tgt := 133) hx hb dL_plays_83 (by decide) (by omega) (by omega) (fun _ => ?_) (fun h => absurd h (by omega))
          refine lv_iload hx hb dL_plays_133 (lv_at hl 0 rfl) ?_
          refine lv_bipush (v := nI 6) hx hb dL_plays_135 (by decide) ?_
          refine z_ne (tgt := 171) hx hb dL_plays_137 (by decide) (by omega) (by omega) (fun _ => ?_) (fun h => absurd h (by omega))
          refine lv_aload_n hx hb dL_plays_171 rfl (lv_at hl 2 rfl) ?_
          refine lv_bipush (v := nI 97) hx hb dL_plays_172 (by decide) ?_
          refine lv_iload_n hx hb dL_plays_174 rfl (lv_at hl 1 rfl) ?_
          refine lv_bipush (v := nI 17) hx hb dL_plays_175 (by decide) ?_
          refine lv_ishr hx hb dL_plays_177 ?_
          refine lv_iconst (v := nI 3) hx hb dL_plays_178 (by decide) ?_
          refine z_qS (As := [.int ((((nI 1103515245) * y) + (nI 12345)) >>> ((nI 17) &&& 31)), .int (nI 3)]) (rest := [.int (nI 97), .ref o]) F (c_L_low l G (clW G o pr q a b d (pa, S, P, u_37.2, u_37.1, v, u, pv)) ((((nI 1103515245) * y) + (nI 12345)) >>> ((nI 17) &&& 31)) 3 (by omega) (by omega)) (va_cwS 2 hts gL_plays_L_low rfl rfl rfl (by decide +kernel) ⟨Nat.le_of_ble_eq_true rfl, Nat.le_of_ble_eq_true rfl⟩) hKK hP hD hS hA rfl hl.1 rfl (Nat.le_of_ble_eq_true rfl) ⟨Nat.zero_le _, Nat.zero_le _⟩ dL_plays_179 (fun H locs hP hD hS => ?_)
          refine z_add (v := nI (97 + lowN ((((nI 1103515245) * y) + (nI 12345)) >>> ((nI 17) &&& 31)) 3)) hx hb dL_plays_182 (nI_add _ _) ?_
          refine z_qVE (As := [.int (nI (97 + lowN ((((nI 1103515245) * y) + (nI 12345)) >>> ((nI 17) &&& 31)) 3))]) (rest := []) F (q_type l G o pr q a b d pa S P u_37.2 u_37.1 v u pv B hq_37 (97 + lowN ((((nI 1103515245) * y) + (nI 12345)) >>> ((nI 17) &&& 31)) 3) (by have := lowN_lt ((((nI 1103515245) * y) + (nI 12345)) >>> ((nI 17) &&& 31)) (show 0 < 3 by omega); omega) (by have := lowN_lt ((((nI 1103515245) * y) + (nI 12345)) >>> ((nI 17) &&& 31)) (show 0 < 3 by omega); omega)) (cwV 1 hts gL_plays_X3_type rfl rfl rfl (by decide +kernel) ⟨Nat.le_of_ble_eq_true rfl, Nat.le_of_ble_eq_true rfl⟩) hKK rfl hP hD hS hA rfl hl.1 rfl (Nat.le_of_ble_eq_true rfl) ⟨Nat.zero_le _, Nat.zero_le _⟩ dL_plays_183 (fun r_38 u_38 H locs hq_38 hP hD hS => ?_)
          have hP : va_P G.1 vwCl (clW G o pr q a b d (pa, S, P, u_38.2, u_38.1, v, u, pv)) H := hP
          have hD : va_D A (clW G o pr q a b d (pa, S, P, u_38.2, u_38.1, v, u, pv)) := hD
          refine lv_pop hx hb dL_plays_186 rfl ?_
          refine lv_iload_n hx hb dL_plays_187 rfl (lv_at hl 1 rfl) ?_
          refine lv_bipush (v := nI 19) hx hb dL_plays_188 (by decide) ?_
          refine lv_ishr hx hb dL_plays_190 ?_
          refine lv_iconst (v := nI 2) hx hb dL_plays_191 (by decide) ?_
          refine z_qS (As := [.int ((((nI 1103515245) * y) + (nI 12345)) >>> ((nI 19) &&& 31)), .int (nI 2)]) (rest := []) F (c_L_low l G (clW G o pr q a b d (pa, S, P, u_38.2, u_38.1, v, u, pv)) ((((nI 1103515245) * y) + (nI 12345)) >>> ((nI 19) &&& 31)) 2 (by omega) (by omega)) (va_cwS 2 hts gL_plays_L_low rfl rfl rfl (by decide +kernel) ⟨Nat.le_of_ble_eq_true rfl, Nat.le_of_ble_eq_true rfl⟩) hKK hP hD hS hA rfl hl.1 rfl (Nat.le_of_ble_eq_true rfl) ⟨Nat.zero_le _, Nat.zero_le _⟩ dL_plays_192 (fun H locs hP hD hS => ?_)
          refine lv_if_ne (tgt := 214) hx hb dL_plays_195 (by decide) (fun c_39 => ?_) (fun c_39 => ?_)
          · skip
            refine lv_iload_n hx hb dL_plays_214 rfl (lv_at hl 1 rfl) ?_
            refine lv_bipush (v := nI 22) hx hb dL_plays_215 (by decide) ?_
            refine lv_ishr hx hb dL_plays_217 ?_
            refine lv_bipush (v := nI 20) hx hb dL_plays_218 (by decide) ?_
            refine z_qS (As := [.int ((((nI 1103515245) * y) + (nI 12345)) >>> ((nI 22) &&& 31)), .int (nI 20)]) (rest := []) F (c_L_low l G (clW G o pr q a b d (pa, S, P, u_38.2, u_38.1, v, u, pv)) ((((nI 1103515245) * y) + (nI 12345)) >>> ((nI 22) &&& 31)) 20 (by omega) (by omega)) (va_cwS 2 hts gL_plays_L_low rfl rfl rfl (by decide +kernel) ⟨Nat.le_of_ble_eq_true rfl, Nat.le_of_ble_eq_true rfl⟩) hKK hP hD hS hA rfl hl.1 rfl (Nat.le_of_ble_eq_true rfl) ⟨Nat.zero_le _, Nat.zero_le _⟩ dL_plays_220 (fun H locs hP hD hS => ?_)
            refine lv_if_le (tgt := 233) hx hb dL_plays_223 (by decide) (fun c_40 => ?_) (fun c_40 => ?_)
            · skip
              refine lv_iinc (v := nI (k + 1)) (lv' := [(3, .int (nI (k + 1))), (4, .int (nI (lowN ((((nI 1103515245) * y) + (nI 12345)) >>> ((nI 9) &&& 31)) 7))), (2, .int (((nI 1103515245) * y) + (nI 12345))), (0, .ref o), (1, .int x)]) hx hb dL_plays_233 hl (k := 4) rfl (nI_add _ _) (by decide) rfl (fun ls hl => ?_)
              refine lv_goto (tgt := 9) hx hb dL_plays_236 (by decide) ?_
              exact ih_9 (k + 1) (((nI 1103515245) * y) + (nI 12345)) u_38.1 u_38.2 (by omega) hq_38 (by omega) H locs ls hP hD hS (lv_sub hl [3, 4, 2, 0] rfl)
            · skip
              refine lv_aload_n hx hb dL_plays_226 rfl (lv_at hl 2 rfl) ?_
              refine lv_bipush (v := nI 59) hx hb dL_plays_227 (by decide) ?_
              refine z_qVE (As := [.int (nI 59)]) (rest := []) F (q_type l G o pr q a b d pa S P u_38.2 u_38.1 v u pv B hq_38 59 (by omega) (by omega)) (cwV 1 hts gL_plays_X3_type rfl rfl rfl (by decide +kernel) ⟨Nat.le_of_ble_eq_true rfl, Nat.le_of_ble_eq_true rfl⟩) hKK rfl hP hD hS hA rfl hl.1 rfl (Nat.le_of_ble_eq_true rfl) ⟨Nat.zero_le _, Nat.zero_le _⟩ dL_plays_229 (fun r_41 u_41 H locs hq_41 hP hD hS => ?_)
              have hP : va_P G.1 vwCl (clW G o pr q a b d (pa, S, P, u_41.2, u_41.1, v, u, pv)) H := hP
              have hD : va_D A (clW G o pr q a b d (pa, S, P, u_41.2, u_41.1, v, u, pv)) := hD
              refine lv_pop hx hb dL_plays_232 rfl ?_
              refine lv_iinc (v := nI (k + 1)) (lv' := [(3, .int (nI (k + 1))), (4, .int (nI (lowN ((((nI 1103515245) * y) + (nI 12345)) >>> ((nI 9) &&& 31)) 7))), (2, .int (((nI 1103515245) * y) + (nI 12345))), (0, .ref o), (1, .int x)]) hx hb dL_plays_233 hl (k := 4) rfl (nI_add _ _) (by decide) rfl (fun ls hl => ?_)
              refine lv_goto (tgt := 9) hx hb dL_plays_236 (by decide) ?_
              exact ih_9 (k + 1) (((nI 1103515245) * y) + (nI 12345)) u_41.1 u_41.2 (by omega) hq_41 (by omega) H locs ls hP hD hS (lv_sub hl [3, 4, 2, 0] rfl)
          · skip
            refine lv_aload_n hx hb dL_plays_198 rfl (lv_at hl 2 rfl) ?_
            refine lv_bipush (v := nI 97) hx hb dL_plays_199 (by decide) ?_
            refine lv_iload_n hx hb dL_plays_201 rfl (lv_at hl 1 rfl) ?_
            refine lv_bipush (v := nI 20) hx hb dL_plays_202 (by decide) ?_
            refine lv_ishr hx hb dL_plays_204 ?_
            refine lv_iconst (v := nI 2) hx hb dL_plays_205 (by decide) ?_
            refine z_qS (As := [.int ((((nI 1103515245) * y) + (nI 12345)) >>> ((nI 20) &&& 31)), .int (nI 2)]) (rest := [.int (nI 97), .ref o]) F (c_L_low l G (clW G o pr q a b d (pa, S, P, u_38.2, u_38.1, v, u, pv)) ((((nI 1103515245) * y) + (nI 12345)) >>> ((nI 20) &&& 31)) 2 (by omega) (by omega)) (va_cwS 2 hts gL_plays_L_low rfl rfl rfl (by decide +kernel) ⟨Nat.le_of_ble_eq_true rfl, Nat.le_of_ble_eq_true rfl⟩) hKK hP hD hS hA rfl hl.1 rfl (Nat.le_of_ble_eq_true rfl) ⟨Nat.zero_le _, Nat.zero_le _⟩ dL_plays_206 (fun H locs hP hD hS => ?_)
            refine z_add (v := nI (97 + lowN ((((nI 1103515245) * y) + (nI 12345)) >>> ((nI 20) &&& 31)) 2)) hx hb dL_plays_209 (nI_add _ _) ?_
            refine z_qVE (As := [.int (nI (97 + lowN ((((nI 1103515245) * y) + (nI 12345)) >>> ((nI 20) &&& 31)) 2))]) (rest := []) F (q_type l G o pr q a b d pa S P u_38.2 u_38.1 v u pv B hq_38 (97 + lowN ((((nI 1103515245) * y) + (nI 12345)) >>> ((nI 20) &&& 31)) 2) (by have := lowN_lt ((((nI 1103515245) * y) + (nI 12345)) >>> ((nI 20) &&& 31)) (show 0 < 2 by omega); omega) (by have := lowN_lt ((((nI 1103515245) * y) + (nI 12345)) >>> ((nI 20) &&& 31)) (show 0 < 2 by omega); omega)) (cwV 1 hts gL_plays_X3_type rfl rfl rfl (by decide +kernel) ⟨Nat.le_of_ble_eq_true rfl, Nat.le_of_ble_eq_true rfl⟩) hKK rfl hP hD hS hA rfl hl.1 rfl (Nat.le_of_ble_eq_true rfl) ⟨Nat.zero_le _, Nat.zero_le _⟩ dL_plays_210 (fun r_42 u_42 H locs hq_42 hP hD hS => ?_)
            have hP : va_P G.1 vwCl (clW G o pr q a b d (pa, S, P, u_42.2, u_42.1, v, u, pv)) H := hP
            have hD : va_D A (clW G o pr q a b d (pa, S, P, u_42.2, u_42.1, v, u, pv)) := hD
            refine lv_pop hx hb dL_plays_213 rfl ?_
            refine lv_iload_n hx hb dL_plays_214 rfl (lv_at hl 1 rfl) ?_
            refine lv_bipush (v := nI 22) hx hb dL_plays_215 (by decide) ?_
            refine lv_ishr hx hb dL_plays_217 ?_
            refine lv_bipush (v := nI 20) hx hb dL_plays_218 (by decide) ?_
            refine z_qS (As := [.int ((((nI 1103515245) * y) + (nI 12345)) >>> ((nI 22) &&& 31)), .int (nI 20)]) (rest := []) F (c_L_low l G (clW G o pr q a b d (pa, S, P, u_42.2, u_42.1, v, u, pv)) ((((nI 1103515245) * y) + (nI 12345)) >>> ((nI 22) &&& 31)) 20 (by omega) (by omega)) (va_cwS 2 hts gL_plays_L_low rfl rfl rfl (by decide +kernel) ⟨Nat.le_of_ble_eq_true rfl, Nat.le_of_ble_eq_true rfl⟩) hKK hP hD hS hA rfl hl.1 rfl (Nat.le_of_ble_eq_true rfl) ⟨Nat.zero_le _, Nat.zero_le _⟩ dL_plays_220 (fun H locs hP hD hS => ?_)
            refine lv_if_le (tgt := 233) hx hb dL_plays_223 (by decide) (fun c_43 => ?_) (fun c_43 => ?_)
            · skip
              refine lv_iinc (v := nI (k + 1)) (lv' := [(3, .int (nI (k + 1))), (4, .int (nI (lowN ((((nI 1103515245) * y) + (nI 12345)) >>> ((nI 9) &&& 31)) 7))), (2, .int (((nI 1103515245) * y) + (nI 12345))), (0, .ref o), (1, .int x)]) hx hb dL_plays_233 hl (k := 4) rfl (nI_add _ _) (by decide) rfl (fun ls hl => ?_)
              refine lv_goto (tgt := 9) hx hb dL_plays_236 (by decide) ?_
              exact ih_9 (k + 1) (((nI 1103515245) * y) + (nI 12345)) u_42.1 u_42.2 (by omega) hq_42 (by omega) H locs ls hP hD hS (lv_sub hl [3, 4, 2, 0] rfl)
            · skip
              refine lv_aload_n hx hb dL_plays_226 rfl (lv_at hl 2 rfl) ?_
              refine lv_bipush (v := nI 59) hx hb dL_plays_227 (by decide) ?_
              refine z_qVE (As := [.int (nI 59)]) (rest := []) F (q_type l G o pr q a b d pa S P u_42.2 u_42.1 v u pv B hq_42 59 (by omega) (by omega)) (cwV 1 hts gL_plays_X3_type rfl rfl rfl (by decide +kernel) ⟨Nat.le_of_ble_eq_true rfl, Nat.le_of_ble_eq_true rfl⟩) hKK rfl hP hD hS hA rfl hl.1 rfl (Nat.le_of_ble_eq_true rfl) ⟨Nat.zero_le _, Nat.zero_le _⟩ dL_plays_229 (fun r_44 u_44 H locs hq_44 hP hD hS => ?_)
              have hP : va_P G.1 vwCl (clW G o pr q a b d (pa, S, P, u_44.2, u_44.1, v, u, pv)) H := hP
              have hD : va_D A (clW G o pr q a b d (pa, S, P, u_44.2, u_44.1, v, u, pv)) := hD
              refine lv_pop hx hb dL_plays_232 rfl ?_
              refine lv_iinc (v := nI (k + 1)) (lv' := [(3, .int (nI (k + 1))), (4, .int (nI (lowN ((((nI 1103515245) * y) + (nI 12345)) >>> ((nI 9) &&& 31)) 7))), (2, .int (((nI 1103515245) * y) + (nI 12345))), (0, .ref o), (1, .int x)]) hx hb dL_plays_233 hl (k := 4) rfl (nI_add _ _) (by decide) rfl (fun ls hl => ?_)
              refine lv_goto (tgt := 9) hx hb dL_plays_236 (by decide) ?_
              exact ih_9 (k + 1) (((nI 1103515245) * y) + (nI 12345)) u_44.1 u_44.2 (by omega) hq_44 (by omega) H locs ls hP hD hS (lv_sub hl [3, 4, 2, 0] rfl)
  exact key_9 6 0 x u_1.1 u_1.2 (by omega) hq_1 (by omega) _ _ _ hP hD hS (lv_sub hl [2, 3, 1, 0] rfl)
