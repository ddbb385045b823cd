theorem law_sub {Ls i : Nat} (hLs : Ls ≤ 2048) (hi : 4 * i ≤ 2048) (h : ¬ (nI Ls - nI 4 < nI (4 * i))) : 4 * i + 3 < Ls := by
  rw [Int32.lt_iff_toInt_lt] at h
  rw [nI_toInt (by omega)] at h
  have h1 : (nI Ls - nI 4).toInt = (Ls : Int) - 4 := by
    rw [Int32.toInt_sub, nI_toInt (by omega), nI_toInt (by omega)]
    have : ((Ls : Int) - ((4 : Nat) : Int)).bmod (2 ^ 32) = (Ls : Int) - ((4 : Nat) : Int) := Int.bmod_eq_of_le (by omega) (by omega)
    exact this
  rw [h1] at h
  omega
set_option maxHeartbeats 4000000 in
set_option maxRecDepth 100000 in
theorem law_loop {p : Program} {e : Env} {s : State} {m : MethodId} {below : List Frame} {meth : Method} {c : Code} (l : Launch) (G : ZG) {bs Ls : Nat} {xs : Nat → Int32} (F : CallFix p m c cL_law 4 s #[Value.ref bs] wsL_law RL) (hKK : KK G s) (hX : va_X bs Ls xs s s.heap) (hbl : bs < s.heap.size) (hLs : Ls ≤ 2048) (o pr q : Nat) (a b d ma : Nat → Nat) (Z : State → Prop) (kend : ∀ (H : Heap) (locs : List Loc) (ls : Array Slot), va_S (fun q : Nat => s.heap.size ≤ q) s.heap H locs → ls.size = 4 → W p l e room_1 s m #[Value.ref bs] below meth c H locs 91 6960 Z (F0 m 725 ls [])) : ∀ (nn i : Nat), 4 * i ≤ 2048 → 513 - i < nn → ∀ (pa : Nat → Nat → Nat) (S P L : Nat → Nat) (t v u : Mem) (pv : Nat → Mem) (mv : Mem) (my : Nat → Nat), Rel (61 * i) S L t v pv mv my → ∀ (H : Heap) (locs : List Loc) (ls : Array Slot), va_P G.1 vwCl (nrW G o pr q a b d pa S P L t v u pv ++ modW G ma mv my) H → va_D (fun q : Nat => s.heap.size ≤ q) (nrW G o pr q a b d pa S P L t v u pv ++ modW G ma mv my) → va_S (fun q : Nat => s.heap.size ≤ q) s.heap H locs → lv_has ls 4 [(0, .ref bs), (1, .ref o), (2, .ref (ma 0)), (3, .int (nI (4 * i)))] → W p l e room_1 s m #[Value.ref bs] below meth c H locs 91 6960 Z (F0 m 18 ls []) := by
  obtain ⟨hx, hb, hml, hown, hts⟩ := id F
  have hA : ∀ q : Nat, s.heap.size ≤ q → (fun q : Nat => s.heap.size ≤ q) q := fun _ h => h
  intro nn
  induction nn with
  | zero => intro i _ h; exact absurd h (Nat.not_lt_zero _)
  | succ nn ih =>
    intro i hi hm pa S P L t v u pv mv my hrel H locs ls hP hD hS hl
    refine lv_iload_n hx hb dL_law_18 rfl (lv_at hl 3 rfl) ?_
    refine lv_aload_n hx hb dL_law_19 rfl (lv_at hl 0 rfl) ?_
    refine va_slen hx hb hX hbl (Nat.not_le.mpr hbl) hS dL_law_20 ?_
    refine lv_iconst (v := nI 4) hx hb dL_law_21 (by decide) ?_
    refine z_sub (v := nI Ls - nI 4) hx hb dL_law_22 rfl ?_
    refine lv_icmp_gt (tgt := 725) hx hb dL_law_23 (by decide) (fun c1 => kend H locs ls hS hl.1) (fun c1 => ?_)
    have hlt := law_sub hLs hi c1
    refine lv_aload_n hx hb dL_law_26 rfl (lv_at hl 0 rfl) ?_
    refine lv_iload_n hx hb dL_law_27 rfl (lv_at hl 3 rfl) ?_
    refine z_sld hx hb hX hbl (Nat.not_le.mpr hbl) hS (i := 4 * i) (by omega) hLs dL_law_28 ?_
    refine lv_bipush (v := nI 31) hx hb dL_law_29 (by decide) ?_
    refine lv_iand hx hb dL_law_31 ?_
    obtain ⟨k, hk, hke⟩ := pk_andE (xs (4 * i)) (m := nI 31) 5 rfl
    refine z_top hke ?_
    have hkk : ∀ (cs : CS) (ms : Mem × (Nat → Nat)) (H : Heap) (locs : List Loc), RelC (61 * i + 61) cs ms → va_P G.1 vwCl (clW G o pr q a b d cs ++ modW G ma ms.1 ms.2) H → va_D (fun q : Nat => s.heap.size ≤ q) (clW G o pr q a b d cs ++ modW G ma ms.1 ms.2) → va_S (fun q : Nat => s.heap.size ≤ q) s.heap H locs → W p l e room_1 s m #[Value.ref bs] below meth c H locs 91 6960 Z (F0 m 719 ls []) := by
      intro cs ms H locs hr hP hD hS
      refine lv_iinc (v := nI (4 * (i + 1))) (lv' := [(3, .int (nI (4 * (i + 1)))), (0, .ref bs), (1, .ref o), (2, .ref (ma 0))]) hx hb dL_law_719 hl (k := 3) rfl (nI_add (4 * i) 4) (by decide) rfl (fun ls hl => ?_)
      refine lv_goto (tgt := 18) hx hb dL_law_722 (by decide) ?_
      exact ih (i + 1) (by omega) (by omega) cs.1 cs.2.1 cs.2.2.1 cs.2.2.2.1 cs.2.2.2.2.1 cs.2.2.2.2.2.1 cs.2.2.2.2.2.2.1 cs.2.2.2.2.2.2.2 ms.1 ms.2 hr H locs ls hP hD hS (lv_sub hl [1, 2, 3, 0] rfl)
    rcases (show k = 0 ∨ k = 1 ∨ k = 2 ∨ k = 3 ∨ k = 4 ∨ k = 5 ∨ k = 6 ∨ k = 7 ∨ k = 8 ∨ k = 9 ∨ k = 10 ∨ k = 11 ∨ k = 12 ∨ k = 13 ∨ k = 14 ∨ k = 15 ∨ k = 16 ∨ k = 17 ∨ k = 18 ∨ k = 19 ∨ k = 20 ∨ k = 21 ∨ k = 22 ∨ 23 ≤ k by omega) with z | z | z | z | z | z | z | z | z | z | z | z | z | z | z | z | z | z | z | z | z | z | z | z
    all_goals first | subst z | skip
    · refine lv_tableIn (off := 108) (tgt := 140) hx hb dL_law_32 (by decide) (by decide) rfl (by decide) ?_
      exact lk_0 l G F hKK hX hbl hLs o pr q a b d ma Z i (61 * i) (by omega) (by omega) pa S P L t v u pv mv my hrel H locs ls hP hD hS hl hkk
    · refine lv_tableIn (off := 131) (tgt := 163) hx hb dL_law_32 (by decide) (by decide) rfl (by decide) ?_
      exact lk_1 l G F hKK hX hbl hLs o pr q a b d ma Z i (61 * i) (by omega) (by omega) pa S P L t v u pv mv my hrel H locs ls hP hD hS hl hkk
    · refine lv_tableIn (off := 154) (tgt := 186) hx hb dL_law_32 (by decide) (by decide) rfl (by decide) ?_
      exact lk_2 l G F hKK hX hbl hLs o pr q a b d ma Z i (61 * i) (by omega) (by omega) pa S P L t v u pv mv my hrel H locs ls hP hD hS hl hkk
    · refine lv_tableIn (off := 177) (tgt := 209) hx hb dL_law_32 (by decide) (by decide) rfl (by decide) ?_
      exact lk_3 l G F hKK hX hbl hLs o pr q a b d ma Z i (61 * i) (by omega) (by omega) pa S P L t v u pv mv my hrel H locs ls hP hD hS hl hkk
    · refine lv_tableIn (off := 200) (tgt := 232) hx hb dL_law_32 (by decide) (by decide) rfl (by decide) ?_
      exact lk_4 l G F hKK hX hbl hLs o pr q a b d ma Z i (61 * i) (by omega) (by omega) pa S P L t v u pv mv my hrel H locs ls hP hD hS hl hkk
    · refine lv_tableIn (off := 223) (tgt := 255) hx hb dL_law_32 (by decide) (by decide) rfl (by decide) ?_
      exact lk_5 l G F hKK hX hbl hLs o pr q a b d ma Z i (61 * i) (by omega) (by omega) pa S P L t v u pv mv my hrel H locs ls hP hD hS hl hkk
    · refine lv_tableIn (off := 246) (tgt := 278) hx hb dL_law_32 (by decide) (by decide) rfl (by decide) ?_
      exact lk_6 l G F hKK hX hbl hLs o pr q a b d ma Z i (61 * i) (by omega) (by omega) pa S P L t v u pv mv my hrel H locs ls hP hD hS hl hkk
    · refine lv_tableIn (off := 289) (tgt := 321) hx hb dL_law_32 (by decide) (by decide) rfl (by decide) ?_
      exact lk_7 l G F hKK hX hbl hLs o pr q a b d ma Z i (61 * i) (by omega) (by omega) pa S P L t v u pv mv my hrel H locs ls hP hD hS hl hkk
    · refine lv_tableIn (off := 322) (tgt := 354) hx hb dL_law_32 (by decide) (by decide) rfl (by decide) ?_
      exact lk_8 l G F hKK hX hbl hLs o pr q a b d ma Z i (61 * i) (by omega) (by omega) pa S P L t v u pv mv my hrel H locs ls hP hD hS hl hkk
    · refine lv_tableIn (off := 355) (tgt := 387) hx hb dL_law_32 (by decide) (by decide) rfl (by decide) ?_
      exact lk_9 l G F hKK hX hbl hLs o pr q a b d ma Z i (61 * i) (by omega) (by omega) pa S P L t v u pv mv my hrel H locs ls hP hD hS hl hkk
    · refine lv_tableIn (off := 378) (tgt := 410) hx hb dL_law_32 (by decide) (by decide) rfl (by decide) ?_
      exact lk_10 l G F hKK hX hbl hLs o pr q a b d ma Z i (61 * i) (by omega) (by omega) pa S P L t v u pv mv my hrel H locs ls hP hD hS hl hkk
    · refine lv_tableIn (off := 411) (tgt := 443) hx hb dL_law_32 (by decide) (by decide) rfl (by decide) ?_
      exact lk_11 l G F hKK hX hbl hLs o pr q a b d ma Z i (61 * i) (by omega) (by omega) pa S P L t v u pv mv my hrel H locs ls hP hD hS hl hkk
    · refine lv_tableIn (off := 434) (tgt := 466) hx hb dL_law_32 (by decide) (by decide) rfl (by decide) ?_
      exact lk_12 l G F hKK hX hbl hLs o pr q a b d ma Z i (61 * i) (by omega) (by omega) pa S P L t v u pv mv my hrel H locs ls hP hD hS hl hkk
    · refine lv_tableIn (off := 467) (tgt := 499) hx hb dL_law_32 (by decide) (by decide) rfl (by decide) ?_
      exact lk_13 l G F hKK hX hbl hLs o pr q a b d ma Z i (61 * i) (by omega) (by omega) pa S P L t v u pv mv my hrel H locs ls hP hD hS hl hkk
    · refine lv_tableIn (off := 490) (tgt := 522) hx hb dL_law_32 (by decide) (by decide) rfl (by decide) ?_
      exact lk_14 l G F hKK hX hbl hLs o pr q a b d ma Z i (61 * i) (by omega) (by omega) pa S P L t v u pv mv my hrel H locs ls hP hD hS hl hkk
    · refine lv_tableIn (off := 513) (tgt := 545) hx hb dL_law_32 (by decide) (by decide) rfl (by decide) ?_
      exact lk_15 l G F hKK hX hbl hLs o pr q a b d ma Z i (61 * i) (by omega) (by omega) pa S P L t v u pv mv my hrel H locs ls hP hD hS hl hkk
    · refine lv_tableIn (off := 546) (tgt := 578) hx hb dL_law_32 (by decide) (by decide) rfl (by decide) ?_
      exact lk_16 l G F hKK hX hbl hLs o pr q a b d ma Z i (61 * i) (by omega) (by omega) pa S P L t v u pv mv my hrel H locs ls hP hD hS hl hkk
    · refine lv_tableIn (off := 579) (tgt := 611) hx hb dL_law_32 (by decide) (by decide) rfl (by decide) ?_
      exact lk_17 l G F hKK hX hbl hLs o pr q a b d ma Z i (61 * i) (by omega) (by omega) pa S P L t v u pv mv my hrel H locs ls hP hD hS hl hkk
    · refine lv_tableIn (off := 602) (tgt := 634) hx hb dL_law_32 (by decide) (by decide) rfl (by decide) ?_
      exact lk_18 l G F hKK hX hbl hLs o pr q a b d ma Z i (61 * i) (by omega) (by omega) pa S P L t v u pv mv my hrel H locs ls hP hD hS hl hkk
    · refine lv_tableIn (off := 615) (tgt := 647) hx hb dL_law_32 (by decide) (by decide) rfl (by decide) ?_
      exact lk_19 l G F hKK hX hbl hLs o pr q a b d ma Z i (61 * i) (by omega) (by omega) pa S P L t v u pv mv my hrel H locs ls hP hD hS hl hkk
    · refine lv_tableIn (off := 638) (tgt := 670) hx hb dL_law_32 (by decide) (by decide) rfl (by decide) ?_
      exact lk_20 l G F hKK hX hbl hLs o pr q a b d ma Z i (61 * i) (by omega) (by omega) pa S P L t v u pv mv my hrel H locs ls hP hD hS hl hkk
    · refine lv_tableIn (off := 651) (tgt := 683) hx hb dL_law_32 (by decide) (by decide) rfl (by decide) ?_
      exact lk_21 l G F hKK hX hbl hLs o pr q a b d ma Z i (61 * i) (by omega) (by omega) pa S P L t v u pv mv my hrel H locs ls hP hD hS hl hkk
    · refine lv_tableIn (off := 674) (tgt := 706) hx hb dL_law_32 (by decide) (by decide) rfl (by decide) ?_
      exact lk_22 l G F hKK hX hbl hLs o pr q a b d ma Z i (61 * i) (by omega) (by omega) pa S P L t v u pv mv my hrel H locs ls hP hD hS hl hkk
    · refine lv_tableOut (tgt := 719) hx hb dL_law_32 (Or.inr ?_) (by decide) ?_
      · rw [nI_toInt (by omega)]
        omega
      · exact hkk (pa, S, P, L, t, v, u, pv) (mv, my) H locs (rel_same hrel) hP hD hS
