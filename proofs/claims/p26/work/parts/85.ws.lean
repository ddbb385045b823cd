theorem arr_int {s : State} {args : Array Value} {ty : FieldType} (hty : ∀ C, ty ≠ .object C) (hty2 : ∀ C, ty ≠ .array C) (h : (Cond.arrayClass ty).before args s = true) : ∃ cA, ArrOfT s cA ty ∧ va_RA s cA ty := by
  obtain ⟨cA, kA, comp, h1, h2, h3⟩ := Cond.arrayClass_spec h
  refine ⟨cA, fun n z => ⟨fun k w => (by cases w), kA, h2, comp, h3⟩, ?_⟩
  cases ty with
  | object C => exact absurd rfl (hty C)
  | _ => exact h1
theorem arr_obj {s : State} {args : Array Value} {C : String} (h : (Cond.arrayOver (.object C)).before args s = true) : ∃ cA, ArrOfT s cA (.object C) ∧ va_RA s cA (.object C) := by
  obtain ⟨comp, cA, kA, h1, -, h3, h4, h5⟩ := Cond.arrayOver_spec h
  exact ⟨cA, fun n z => ⟨fun k w => (by cases w), kA, h3, comp, h4⟩, kA, comp, h3, h4, h1, h5⟩
theorem kk_start {s : State} {bs : Nat} (hts : ∀ w ∈ lw_tbl, w.before #[Value.ref bs] s = true) : ∃ G : ZG, KK G s := by
  have htsL : ∀ w ∈ wsL_law, w.before #[Value.ref bs] s = true := fun w h => hts w (wsL_law_in w h)
  obtain ⟨c0, iS0, hKn0⟩ := u_known (C := RX0) (T := TX0) (N := 12) (n := 12) htsL inlX0 (hts (.instantiable RX0 12) (List.mem_of_getElem? (i := 112) (by decide +kernel)))
  obtain ⟨c1, iS1, hKn1⟩ := u_known (C := RX1) (T := TX1) (N := 15) (n := 15) htsL inlX1 (hts (.instantiable RX1 15) (List.mem_of_getElem? (i := 29) (by decide +kernel)))
  obtain ⟨c2, iS2, hKn2⟩ := u_known (C := RX2) (T := TX2) (N := 2) (n := 2) htsL inlX2 (hts (.instantiable RX2 2) (List.mem_of_getElem? (i := 96) (by decide +kernel)))
  obtain ⟨c3, iS3, hKn3⟩ := u_known (C := RX3) (T := TX3) (N := 5) (n := 5) htsL inlX3 (hts (.instantiable RX3 5) (List.mem_of_getElem? (i := 21) (by decide +kernel)))
  obtain ⟨a0, a1, a2⟩ := arr_int (ty := .int) (fun C h => by cases h) (fun C h => by cases h) (hts (.arrayClass .int) (List.mem_of_getElem? (i := 93) (by decide +kernel)))
  obtain ⟨b0, b1, b2⟩ := arr_int (ty := .char) (fun C h => by cases h) (fun C h => by cases h) (hts (.arrayClass .char) (List.mem_of_getElem? (i := 110) (by decide +kernel)))
  obtain ⟨d0, d1, d2⟩ := arr_obj (C := RX1) (hts (.arrayOver (.object RX1)) (List.mem_of_getElem? (i := 94) (by decide +kernel)))
  refine ⟨((fun k => if k = 0 then c0 else if k = 1 then c1 else if k = 2 then c2 else c3, fun k => if k = 0 then iS0 else if k = 1 then iS1 else if k = 2 then iS2 else iS3), a0, b0, d0), ⟨?_, ?_⟩, va_Nw.of rfl (hts (.methodLinkNest RX1 70 yX3_isBelow RX3) (List.mem_of_getElem? (i := 243) (by decide +kernel))), va_Nw.of rfl (hts (.methodLinkNest RX2 19 yX3_isBelow RX3) (List.mem_of_getElem? (i := 462) (by decide +kernel))), va_Nw.of rfl (hts (.methodLinkNest RX1 101 yX3_orderKey RX3) (List.mem_of_getElem? (i := 327) (by decide +kernel))), va_Nw.of rfl (hts (.methodLinkNest RX0 102 yX3_cellIndex RX3) (List.mem_of_getElem? (i := 515) (by decide +kernel))), va_Nw.of rfl (hts (.methodLinkNest RX3 22 yX2_init RX3) (List.mem_of_getElem? (i := 97) (by decide +kernel))), va_Nw.of rfl (hts (.methodLinkNest RX3 29 yX0_init RX3) (List.mem_of_getElem? (i := 113) (by decide +kernel)))⟩
  · intro k q hq
    match k, hq with
    | 0, hq => cases hq; exact hKn0
    | 1, hq => cases hq; exact hKn1
    | 2, hq => cases hq; exact hKn2
    | 3, hq => cases hq; exact hKn3
    | k + 4, hq => simp [vwCl] at hq
  · intro k q hq
    match k, hq with
    | 0, hq => cases hq; exact ⟨a1, a2⟩
    | 1, hq => cases hq; exact ⟨b1, b2⟩
    | 2, hq => cases hq; exact ⟨d1, d2⟩
    | k + 3, hq => simp [zTys] at hq
set_option maxHeartbeats 4000000 in
set_option maxRecDepth 100000 in
theorem whole_start {p : Program} {e : Env} {s : State} {m : MethodId} {below : List Frame} {meth : Method} {c : Code} (l : Launch) (hflags : l.flags = flags0) {b L : Nat} {xs : Nat → Int32} (hL : L ≤ 260) (C0 : lw_At p s m meth c b L xs) : W p l e room_1 s m #[Value.ref b] below meth c s.heap [] 0 0 (lw_Z below #[Value.ref b] s) (entryFrame m ([Value.ref b] : List Value).toArray 10) := by
  obtain ⟨hx, hb, hr, hml, hown, hts, hX, hbl, hlocks, hgv⟩ := id C0
  have hown : s.vm.findClass RL = some m.cls := hown
  have htsL : ∀ w ∈ wsL_law, w.before #[Value.ref b] s = true := fun w h => hts w (wsL_law_in w h)
  have hA : ∀ q : Nat, s.heap.size ≤ q → (fun q : Nat => s.heap.size ≤ q) q := fun _ h => h
  obtain ⟨G, hKK⟩ := kk_start hts
  have F : CallFix p m c cL_law 10 s #[Value.ref b] wsL_law RL := ⟨hx, hb, hml, hown, htsL⟩
  have hS : va_S (fun q : Nat => s.heap.size ≤ q) s.heap s.heap [] := va_S.rf
  have hP : va_P G.1 vwCl [] s.heap := fun k q h => by simp at h
  have hD : va_D (fun q : Nat => s.heap.size ≤ q) [] := ⟨fun i j p q h => by simp at h, fun k q h => by simp at h⟩
  have hl := lv_entry ([.ref b]) (n := 10) (Nat.le_of_ble_eq_true rfl)
  rw [lg_entry_eq]
  generalize (lg_sl ([.ref b]) ++ List.replicate (10 - (lg_sl ([.ref b])).length) Slot.unset).toArray = ls at hl ⊢
  have hl : lv_has ls 10 [(0, .ref b)] := hl
  refine va_new (ci := 3) (fs := [.null, .null, .int 0, .null, .null]) (C := RX3) (T := TX3) (N := 5) hx hb htsL inlX3 tyX3 tyX3_ok hown (hts (.classLink RL 22 RX3) (List.mem_of_getElem? (i := 20) (by decide +kernel))) (hts (.instantiable RX3 5) (List.mem_of_getElem? (i := 21) (by decide +kernel))) (hts (.initialized RX3) (List.mem_of_getElem? (i := 13) (by decide +kernel))) hKK.1 hP hD hS hA rfl dflX3 (Nat.le_of_ble_eq_true rfl) (Nat.le_of_ble_eq_true rfl) dL_law_0 (fun q0 H hP hD hS => ?_)
  refine W.widen (k := 1) (n := 5) (Nat.le_of_ble_eq_true rfl) (Nat.le_of_ble_eq_true rfl) ?_
  refine lv_dup hx hb dL_law_3 rfl ?_
  refine z_callNA (As := []) (rest := [.ref q0]) (wr := []) F (c_X3_init l G q0) (cwI 0 htsL gL_law_X3_init rfl rfl rfl (hts (.initialized RX3) (List.mem_of_getElem? (i := 13) (by decide +kernel))) (hts (.methodLink RL 132 yX3_init) (List.mem_of_getElem? (i := 22) (by decide +kernel))) (hts (.instanceMethod yX3_init) (List.mem_of_getElem? (i := 23) (by decide +kernel))) rfl (by decide +kernel) ⟨Nat.le_of_ble_eq_true rfl, Nat.le_of_ble_eq_true rfl⟩) hKK (va_AO.of (hts (.arrayOver (.object RX1)) (List.mem_of_getElem? (i := 94) (by decide +kernel)))) hP hD hS hA rfl hl.1 rfl (Nat.le_of_ble_eq_true rfl) (k9 := 83) (n9 := 3695) rfl rfl (Nat.le_of_ble_eq_true rfl) (Nat.le_of_ble_eq_true rfl) dL_law_4 (fun x H locs hq hP hD hS => ?_)
  obtain ⟨pr, q, a, tb, d, pa⟩ := x
  have hP : va_P G.1 vwCl (clW G q0 pr q a tb d (pa, zeroN, zeroN, zeroN, zeroM, rollZ, rollZ, fun _ => rollZ)) H := hP
  have hD : va_D (fun q : Nat => s.heap.size ≤ q) (clW G q0 pr q a tb d (pa, zeroN, zeroN, zeroN, zeroM, rollZ, rollZ, fun _ => rollZ)) := hD
  obtain ⟨⟨e0, hX0⟩, -⟩ := inv_z
  have hQ := qs_mk l G q0 pr q a tb d pa zeroN zeroN zeroN zeroM rollZ rollZ (fun _ => rollZ) hX0.1 hX0.2.1 (show 0 < 10000 by omega)
  refine lv_astore_n (lv' := [(1, .ref q0), (0, .ref b)]) hx hb dL_law_7 rfl hl (by decide) rfl (fun ls hl => ?_)
  refine lv_aload_n hx hb dL_law_8 rfl (lv_at hl 0 rfl) ?_
  refine lv_iconst (v := nI 0) hx hb dL_law_9 (by decide) ?_
  refine z_qS (As := [.ref q0, .int (nI 0)]) (rest := []) F (c_L_fits l G q0 _ rollZ e0 0 hQ hX0 (by omega) (nI 0)) (va_cwS 2 htsL gL_law_L_fits rfl rfl rfl (by decide +kernel) ⟨Nat.le_of_ble_eq_true rfl, Nat.le_of_ble_eq_true rfl⟩) hKK hP hD hS hA rfl hl.1 rfl (Nat.le_of_ble_eq_true rfl) ⟨Nat.le_of_ble_eq_true rfl, Nat.le_of_ble_eq_true rfl⟩ dL_law_10 (fun H locs hP hD hS => ?_)
  refine lv_istore_n (lv' := [(2, .int (nI 1)), (1, .ref q0), (0, .ref b)]) hx hb dL_law_13 rfl hl (by decide) rfl (fun ls hl => ?_)
  refine lv_iconst (v := nI 0) hx hb dL_law_14 (by decide) ?_
  refine lv_istore_n (lv' := [(3, .int (nI 0)), (2, .int (nI 1)), (1, .ref q0), (0, .ref b)]) hx hb dL_law_15 rfl hl (by decide) rfl (fun ls hl => ?_)
  exact law_loop l G F hr hlocks hKK hX hbl hL q0 pr q a tb d pa zeroN zeroN zeroN zeroM rollZ rollZ (fun _ => rollZ) inv_z H locs ls hP hD hS (lv_sub hl [3, 2, 1, 0] rfl)
