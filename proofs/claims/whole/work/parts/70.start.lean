theorem arr_int {s : State} {args : Array Value} {ty : FieldType} (hty : ∀ C, ty ≠ .object C) (hty2 : ∀ C, ty ≠ .array C) (h : (Cond.arrayClass ty).before args s = true) : ∃ cA, ArrOfT s cA ty ∧ va_RA s cA ty := by
  obtain ⟨cA, kA, comp, h1, h2, h3⟩ := Cond.arrayClass_spec h
  refine ⟨cA, fun n z => ⟨fun k w => (by cases w), kA, h2, comp, h3⟩, ?_⟩
  cases ty with
  | object C => exact absurd rfl (hty C)
  | _ => exact h1
theorem arr_obj {s : State} {args : Array Value} {C : String} (h : (Cond.arrayOver (.object C)).before args s = true) : ∃ cA, ArrOfT s cA (.object C) ∧ va_RA s cA (.object C) := by
  obtain ⟨comp, cA, kA, h1, -, h3, h4, h5⟩ := Cond.arrayOver_spec h
  exact ⟨cA, fun n z => ⟨fun k w => (by cases w), kA, h3, comp, h4⟩, kA, comp, h3, h4, h1, h5⟩
theorem kk_start {s : State} {bs : Nat} (hts : ∀ w ∈ lw_tbl, w.before #[Value.ref bs] s = true) : ∃ G : ZG, KK G s := by
  have htsL : ∀ w ∈ wsL_law, w.before #[Value.ref bs] s = true := fun w h => hts w (wsL_law_in w h)
  obtain ⟨c0, iS0, hKn0⟩ := u_known (C := RX0) (T := TX0) (N := 12) (n := 12) htsL inlX0 (hts (.instantiable RX0 12) (List.mem_of_getElem? (i := 143) (by decide +kernel)))
  obtain ⟨c1, iS1, hKn1⟩ := u_known (C := RX1) (T := TX1) (N := 15) (n := 15) htsL inlX1 (hts (.instantiable RX1 15) (List.mem_of_getElem? (i := 60) (by decide +kernel)))
  obtain ⟨c2, iS2, hKn2⟩ := u_known (C := RX2) (T := TX2) (N := 2) (n := 2) htsL inlX2 (hts (.instantiable RX2 2) (List.mem_of_getElem? (i := 127) (by decide +kernel)))
  obtain ⟨c3, iS3, hKn3⟩ := u_known (C := RX3) (T := TX3) (N := 5) (n := 5) htsL inlX3 (hts (.instantiable RX3 5) (List.mem_of_getElem? (i := 52) (by decide +kernel)))
  obtain ⟨c4, iS4, hKn4⟩ := u_known (C := RX4) (T := TX4) (N := 17) (n := 17) htsL inlX4 (hts (.instantiable RX4 17) (List.mem_of_getElem? (i := 499) (by decide +kernel)))
  obtain ⟨a0, a1, a2⟩ := arr_int (ty := .int) (fun C h => by cases h) (fun C h => by cases h) (hts (.arrayClass .int) (List.mem_of_getElem? (i := 124) (by decide +kernel)))
  obtain ⟨b0, b1, b2⟩ := arr_int (ty := .char) (fun C h => by cases h) (fun C h => by cases h) (hts (.arrayClass .char) (List.mem_of_getElem? (i := 141) (by decide +kernel)))
  obtain ⟨d0, d1, d2⟩ := arr_obj (C := RX1) (hts (.arrayOver (.object RX1)) (List.mem_of_getElem? (i := 125) (by decide +kernel)))
  refine ⟨((fun k => if k = 0 then c0 else if k = 1 then c1 else if k = 2 then c2 else if k = 3 then c3 else c4, fun k => if k = 0 then iS0 else if k = 1 then iS1 else if k = 2 then iS2 else if k = 3 then iS3 else iS4), a0, b0, d0), ⟨?_, ?_⟩, va_Nw.of rfl (hts (.methodLinkNest RX1 70 yX3_isBelow RX3) (List.mem_of_getElem? (i := 229) (by decide +kernel))), va_Nw.of rfl (hts (.methodLinkNest RX2 19 yX3_isBelow RX3) (List.mem_of_getElem? (i := 434) (by decide +kernel))), va_Nw.of rfl (hts (.methodLinkNest RX1 101 yX3_orderKey RX3) (List.mem_of_getElem? (i := 350) (by decide +kernel))), va_Nw.of rfl (hts (.methodLinkNest RX0 102 yX3_cellIndex RX3) (List.mem_of_getElem? (i := 491) (by decide +kernel))), va_Nw.of rfl (hts (.methodLinkNest RX3 22 yX2_init RX3) (List.mem_of_getElem? (i := 128) (by decide +kernel))), va_Nw.of rfl (hts (.methodLinkNest RX3 29 yX0_init RX3) (List.mem_of_getElem? (i := 144) (by decide +kernel)))⟩
  · intro k q hq
    match k, hq with
    | 0, hq => cases hq; exact hKn0
    | 1, hq => cases hq; exact hKn1
    | 2, hq => cases hq; exact hKn2
    | 3, hq => cases hq; exact hKn3
    | 4, hq => cases hq; exact hKn4
    | k + 5, hq => simp [vwCl] at hq
  · intro k q hq
    match k, hq with
    | 0, hq => cases hq; exact ⟨a1, a2⟩
    | 1, hq => cases hq; exact ⟨b1, b2⟩
    | 2, hq => cases hq; exact ⟨d1, d2⟩
    | k + 3, hq => simp [zTys] at hq
theorem okV_z : okV rollZ 0 0 := by
  refine ⟨⟨rfl, by omega⟩, fun i hi => Or.inl rfl, fun i j hi hj h => absurd rfl h, fun i hi => ⟨rfl, by show 0 ≤ 999; omega, ⟨fun _ => rfl, fun _ => rfl⟩⟩, fun k hk => Or.inl ?_, fun i hi => ⟨0, Nat.le_refl _, rfl⟩, fun i hi hie => absurd hie (Nat.not_lt_zero _)⟩
  show zFillA 18 (-1) (fun _ => 0) k = -1
  exact if_pos hk
theorem okC_z : okC rollZ := by
  intro i hi
  have h1 : zCells (rollZ 3) (nI i) = 0 := by
    refine fb_ct_zero.mpr (fun k hk => decide_eq_false ?_)
    show ¬ zFillA 18 (-1) (fun _ => 0) k = nI i
    rw [show zFillA 18 (-1) (fun _ => 0) k = -1 from if_pos hk]
    exact fun z => nI_nm1 (by omega) z.symm
  rw [h1]
  exact Nat.zero_le _
theorem modZ_0 {x : Nat} (h : x < 124 ∨ 142 ≤ x) : modZ 0 x = 0 := by
  show fb_put (fun _ => (0 : Int32)) (fun _ => -1) 124 18 x = 0
  rw [fb_put_out (by omega)]
theorem RE_z : RE rollZ (modZ 0) 0 := by
  refine ⟨⟨modZ_0 (by omega), modZ_0 (by omega), modZ_0 (by omega), modZ_0 (by omega)⟩, fun i hi => ⟨modZ_0 (by omega), modZ_0 (by omega), modZ_0 (by omega)⟩, fun k hk => ?_, fun i hi hie => absurd hie (Nat.not_lt_zero _)⟩
  show fb_put (fun _ => 0) (fun _ => -1) 124 18 (124 + k) = zFillA 18 (-1) (fun _ => 0) k
  rw [fb_put_in (by omega) (by omega)]
  exact (if_pos hk).symm
theorem rel_z : Rel (61 * 0) zeroN zeroN zeroM rollZ (fun _ => rollZ) modZ zeroN := by
  refine ⟨⟨0, okV_z, okC_z, RE_z⟩, ⟨Nat.zero_le _, rfl⟩, fun j hj => absurd hj (Nat.not_lt_zero _), ⟨Nat.zero_le _, rfl⟩, fun j hj => ⟨rfl, by show 0 < 65536; omega⟩, fun j hj => ⟨rfl, by show 0 < 65536; omega⟩, fun j hj => absurd hj (Nat.not_lt_zero _), 0, 0, by omega, by omega, rfl, rfl⟩
