set_option maxHeartbeats 4000000 in
set_option maxRecDepth 100000 in
theorem lk_11 {p : Program} {e : Env} {s : State} {m : MethodId} {below : List Frame} {meth : Method} {c : Code} (l : Launch) (G : ZG) {bs Ls : Nat} {xs : Nat → Int32} (F : CallFix p m c cL_law 4 s #[Value.ref bs] wsL_law RL) (hKK : KK G s) (hX : va_X bs Ls xs s s.heap) (hbl : bs < s.heap.size) (hLs : Ls ≤ 2048) (o pr q : Nat) (a b d ma : Nat → Nat) (Z : State → Prop) (i B : Nat) (hi : 4 * i + 3 < Ls) (hB : B < 2 ^ 30) (pa : Nat → Nat → Nat) (S P L : Nat → Nat) (t v u : Mem) (pv : Nat → Mem) (mv : Mem) (my : Nat → Nat) (hrel : Rel B S L t v pv mv my) (H : Heap) (locs : List Loc) (ls : Array Slot) (hP : va_P G.1 vwCl (nrW G o pr q a b d pa S P L t v u pv ++ modW G ma mv my) H) (hD : va_D (fun q : Nat => s.heap.size ≤ q) (nrW G o pr q a b d pa S P L t v u pv ++ modW G ma mv my)) (hS : va_S (fun q : Nat => s.heap.size ≤ q) s.heap H locs) (hl : lv_has ls 4 [(0, .ref bs), (1, .ref o), (2, .ref (ma 0)), (3, .int (nI (4 * i)))]) (kk : ∀ (cs : CS) (ms : Mem × (Nat → Nat)) (H : Heap) (locs : List Loc), RelC (B + 61) cs ms → va_P G.1 vwCl (clW G o pr q a b d cs ++ modW G ma ms.1 ms.2) H → va_D (fun q : Nat => s.heap.size ≤ q) (clW G o pr q a b d cs ++ modW G ma ms.1 ms.2) → va_S (fun q : Nat => s.heap.size ≤ q) s.heap H locs → W p l e room_1 s m #[Value.ref bs] below meth c H locs 91 6960 Z (F0 m 719 ls [])) : W p l e room_1 s m #[Value.ref bs] below meth c H locs 91 6960 Z (F0 m 443 ls []) := by
  obtain ⟨hx, hb, hml, hown, hts⟩ := id F
  have hA : ∀ q : Nat, s.heap.size ≤ q → (fun q : Nat => s.heap.size ≤ q) q := fun _ h => h
  obtain ⟨R, Q, hC, hM⟩ := st_find l G o pr q a b d pa S P L t v u pv ma mv my B hrel hB (xs (4 * i + 1))
  refine lv_aload_n hx hb dL_law_443 rfl (lv_at hl 1 rfl) ?_
  refine lv_aload_n hx hb dL_law_444 rfl (lv_at hl 0 rfl) ?_
  refine lv_iload_n hx hb dL_law_445 rfl (lv_at hl 3 rfl) ?_
  refine lv_iconst (v := nI 1) hx hb dL_law_446 (by decide) ?_
  refine z_add (v := nI (4 * i + 1)) hx hb dL_law_447 (nI_add _ _) ?_
  refine z_sld hx hb hX hbl (Nat.not_le.mpr hbl) hS (i := 4 * i + 1) (by omega) hLs dL_law_448 ?_
  refine z_callVIE (As := [.int (xs (4 * i + 1))]) (rest := []) (wr := modW G ma mv my) (C := RX3) F hC (cwV 1 hts gL_law_X3_find rfl rfl rfl (by decide +kernel) ⟨Nat.le_of_ble_eq_true rfl, Nat.le_of_ble_eq_true rfl⟩) hKK (z_recv hKK hP (q0 := 0) (ci := 3) rfl rfl) (z_perm List.perm_append_comm hP) (z_permD List.perm_append_comm hD) hS hA rfl hl.1 rfl (Nat.le_of_ble_eq_true rfl) ⟨Nat.le_of_ble_eq_true rfl, Nat.le_of_ble_eq_true rfl⟩ dL_law_449 (fun r1 cs H locs hq hP hD hS => ?_)
  obtain ⟨e1, hQ⟩ := hq
  subst e1
  refine lv_aload_n hx hb dL_law_452 rfl (lv_at hl 2 rfl) ?_
  refine lv_aload_n hx hb dL_law_453 rfl (lv_at hl 0 rfl) ?_
  refine lv_iload_n hx hb dL_law_454 rfl (lv_at hl 3 rfl) ?_
  refine lv_iconst (v := nI 1) hx hb dL_law_455 (by decide) ?_
  refine z_add (v := nI (4 * i + 1)) hx hb dL_law_456 (nI_add _ _) ?_
  refine z_sld hx hb hX hbl (Nat.not_le.mpr hbl) hS (i := 4 * i + 1) (by omega) hLs dL_law_457 ?_
  refine z_callVIE (As := [.int (xs (4 * i + 1))]) (rest := [.int r1]) (wr := clW G o pr q a b d cs) (C := RX4) F hM (cwV 1 hts gL_law_X4_find rfl rfl rfl (by decide +kernel) ⟨Nat.le_of_ble_eq_true rfl, Nat.le_of_ble_eq_true rfl⟩) hKK (z_recv hKK hP (q0 := 0) (ci := 4) rfl rfl) (z_perm List.perm_append_comm hP) (z_permD List.perm_append_comm hD) hS hA rfl hl.1 rfl (Nat.le_of_ble_eq_true rfl) ⟨Nat.le_of_ble_eq_true rfl, Nat.le_of_ble_eq_true rfl⟩ dL_law_458 (fun r2 ms H locs hq hP hD hS => ?_)
  obtain ⟨e2, hR2⟩ := hq
  subst e2
  exact lv_icmp_eq (tgt := 719) hx hb dL_law_461 (by decide) (fun _ => kk cs ms H locs (hR2 cs hQ) hP hD hS) (fun h => absurd rfl h)

set_option maxHeartbeats 4000000 in
set_option maxRecDepth 100000 in
theorem lk_12 {p : Program} {e : Env} {s : State} {m : MethodId} {below : List Frame} {meth : Method} {c : Code} (l : Launch) (G : ZG) {bs Ls : Nat} {xs : Nat → Int32} (F : CallFix p m c cL_law 4 s #[Value.ref bs] wsL_law RL) (hKK : KK G s) (hX : va_X bs Ls xs s s.heap) (hbl : bs < s.heap.size) (hLs : Ls ≤ 2048) (o pr q : Nat) (a b d ma : Nat → Nat) (Z : State → Prop) (i B : Nat) (hi : 4 * i + 3 < Ls) (hB : B < 2 ^ 30) (pa : Nat → Nat → Nat) (S P L : Nat → Nat) (t v u : Mem) (pv : Nat → Mem) (mv : Mem) (my : Nat → Nat) (hrel : Rel B S L t v pv mv my) (H : Heap) (locs : List Loc) (ls : Array Slot) (hP : va_P G.1 vwCl (nrW G o pr q a b d pa S P L t v u pv ++ modW G ma mv my) H) (hD : va_D (fun q : Nat => s.heap.size ≤ q) (nrW G o pr q a b d pa S P L t v u pv ++ modW G ma mv my)) (hS : va_S (fun q : Nat => s.heap.size ≤ q) s.heap H locs) (hl : lv_has ls 4 [(0, .ref bs), (1, .ref o), (2, .ref (ma 0)), (3, .int (nI (4 * i)))]) (kk : ∀ (cs : CS) (ms : Mem × (Nat → Nat)) (H : Heap) (locs : List Loc), RelC (B + 61) cs ms → va_P G.1 vwCl (clW G o pr q a b d cs ++ modW G ma ms.1 ms.2) H → va_D (fun q : Nat => s.heap.size ≤ q) (clW G o pr q a b d cs ++ modW G ma ms.1 ms.2) → va_S (fun q : Nat => s.heap.size ≤ q) s.heap H locs → W p l e room_1 s m #[Value.ref bs] below meth c H locs 91 6960 Z (F0 m 719 ls [])) : W p l e room_1 s m #[Value.ref bs] below meth c H locs 91 6960 Z (F0 m 466 ls []) := by
  obtain ⟨hx, hb, hml, hown, hts⟩ := id F
  have hA : ∀ q : Nat, s.heap.size ≤ q → (fun q : Nat => s.heap.size ≤ q) q := fun _ h => h
  obtain ⟨R, Q, hC, hM⟩ := st_nameAt l G o pr q a b d pa S P L t v u pv ma mv my B hrel hB (xs (4 * i + 1)) (xs (4 * i + 2))
  refine lv_aload_n hx hb dL_law_466 rfl (lv_at hl 1 rfl) ?_
  refine lv_aload_n hx hb dL_law_467 rfl (lv_at hl 0 rfl) ?_
  refine lv_iload_n hx hb dL_law_468 rfl (lv_at hl 3 rfl) ?_
  refine lv_iconst (v := nI 1) hx hb dL_law_469 (by decide) ?_
  refine z_add (v := nI (4 * i + 1)) hx hb dL_law_470 (nI_add _ _) ?_
  refine z_sld hx hb hX hbl (Nat.not_le.mpr hbl) hS (i := 4 * i + 1) (by omega) hLs dL_law_471 ?_
  refine lv_aload_n hx hb dL_law_472 rfl (lv_at hl 0 rfl) ?_
  refine lv_iload_n hx hb dL_law_473 rfl (lv_at hl 3 rfl) ?_
  refine lv_iconst (v := nI 2) hx hb dL_law_474 (by decide) ?_
  refine z_add (v := nI (4 * i + 2)) hx hb dL_law_475 (nI_add _ _) ?_
  refine z_sld hx hb hX hbl (Nat.not_le.mpr hbl) hS (i := 4 * i + 2) (by omega) hLs dL_law_476 ?_
  refine z_callVIE (As := [.int (xs (4 * i + 1)), .int (xs (4 * i + 2))]) (rest := []) (wr := modW G ma mv my) (C := RX3) F hC (cwV 2 hts gL_law_X3_nameAt rfl rfl rfl (by decide +kernel) ⟨Nat.le_of_ble_eq_true rfl, Nat.le_of_ble_eq_true rfl⟩) hKK (z_recv hKK hP (q0 := 0) (ci := 3) rfl rfl) (z_perm List.perm_append_comm hP) (z_permD List.perm_append_comm hD) hS hA rfl hl.1 rfl (Nat.le_of_ble_eq_true rfl) ⟨Nat.le_of_ble_eq_true rfl, Nat.le_of_ble_eq_true rfl⟩ dL_law_477 (fun r1 cs H locs hq hP hD hS => ?_)
  obtain ⟨e1, hQ⟩ := hq
  subst e1
  refine lv_aload_n hx hb dL_law_480 rfl (lv_at hl 2 rfl) ?_
  refine lv_aload_n hx hb dL_law_481 rfl (lv_at hl 0 rfl) ?_
  refine lv_iload_n hx hb dL_law_482 rfl (lv_at hl 3 rfl) ?_
  refine lv_iconst (v := nI 1) hx hb dL_law_483 (by decide) ?_
  refine z_add (v := nI (4 * i + 1)) hx hb dL_law_484 (nI_add _ _) ?_
  refine z_sld hx hb hX hbl (Nat.not_le.mpr hbl) hS (i := 4 * i + 1) (by omega) hLs dL_law_485 ?_
  refine lv_aload_n hx hb dL_law_486 rfl (lv_at hl 0 rfl) ?_
  refine lv_iload_n hx hb dL_law_487 rfl (lv_at hl 3 rfl) ?_
  refine lv_iconst (v := nI 2) hx hb dL_law_488 (by decide) ?_
  refine z_add (v := nI (4 * i + 2)) hx hb dL_law_489 (nI_add _ _) ?_
  refine z_sld hx hb hX hbl (Nat.not_le.mpr hbl) hS (i := 4 * i + 2) (by omega) hLs dL_law_490 ?_
  refine z_callVIE (As := [.int (xs (4 * i + 1)), .int (xs (4 * i + 2))]) (rest := [.int r1]) (wr := clW G o pr q a b d cs) (C := RX4) F hM (cwV 2 hts gL_law_X4_nameAt rfl rfl rfl (by decide +kernel) ⟨Nat.le_of_ble_eq_true rfl, Nat.le_of_ble_eq_true rfl⟩) hKK (z_recv hKK hP (q0 := 0) (ci := 4) rfl rfl) (z_perm List.perm_append_comm hP) (z_permD List.perm_append_comm hD) hS hA rfl hl.1 rfl (Nat.le_of_ble_eq_true rfl) ⟨Nat.le_of_ble_eq_true rfl, Nat.le_of_ble_eq_true rfl⟩ dL_law_491 (fun r2 ms H locs hq hP hD hS => ?_)
  obtain ⟨e2, hR2⟩ := hq
  subst e2
  exact lv_icmp_eq (tgt := 719) hx hb dL_law_494 (by decide) (fun _ => kk cs ms H locs (hR2 cs hQ) hP hD hS) (fun h => absurd rfl h)

set_option maxHeartbeats 4000000 in
set_option maxRecDepth 100000 in
theorem lk_13 {p : Program} {e : Env} {s : State} {m : MethodId} {below : List Frame} {meth : Method} {c : Code} (l : Launch) (G : ZG) {bs Ls : Nat} {xs : Nat → Int32} (F : CallFix p m c cL_law 4 s #[Value.ref bs] wsL_law RL) (hKK : KK G s) (hX : va_X bs Ls xs s s.heap) (hbl : bs < s.heap.size) (hLs : Ls ≤ 2048) (o pr q : Nat) (a b d ma : Nat → Nat) (Z : State → Prop) (i B : Nat) (hi : 4 * i + 3 < Ls) (hB : B < 2 ^ 30) (pa : Nat → Nat → Nat) (S P L : Nat → Nat) (t v u : Mem) (pv : Nat → Mem) (mv : Mem) (my : Nat → Nat) (hrel : Rel B S L t v pv mv my) (H : Heap) (locs : List Loc) (ls : Array Slot) (hP : va_P G.1 vwCl (nrW G o pr q a b d pa S P L t v u pv ++ modW G ma mv my) H) (hD : va_D (fun q : Nat => s.heap.size ≤ q) (nrW G o pr q a b d pa S P L t v u pv ++ modW G ma mv my)) (hS : va_S (fun q : Nat => s.heap.size ≤ q) s.heap H locs) (hl : lv_has ls 4 [(0, .ref bs), (1, .ref o), (2, .ref (ma 0)), (3, .int (nI (4 * i)))]) (kk : ∀ (cs : CS) (ms : Mem × (Nat → Nat)) (H : Heap) (locs : List Loc), RelC (B + 61) cs ms → va_P G.1 vwCl (clW G o pr q a b d cs ++ modW G ma ms.1 ms.2) H → va_D (fun q : Nat => s.heap.size ≤ q) (clW G o pr q a b d cs ++ modW G ma ms.1 ms.2) → va_S (fun q : Nat => s.heap.size ≤ q) s.heap H locs → W p l e room_1 s m #[Value.ref bs] below meth c H locs 91 6960 Z (F0 m 719 ls [])) : W p l e room_1 s m #[Value.ref bs] below meth c H locs 91 6960 Z (F0 m 499 ls []) := by
  obtain ⟨hx, hb, hml, hown, hts⟩ := id F
  have hA : ∀ q : Nat, s.heap.size ≤ q → (fun q : Nat => s.heap.size ≤ q) q := fun _ h => h
  obtain ⟨R, Q, hC, hM⟩ := st_beginning l G o pr q a b d pa S P L t v u pv ma mv my B hrel hB (xs (4 * i + 1))
  refine lv_aload_n hx hb dL_law_499 rfl (lv_at hl 1 rfl) ?_
  refine lv_aload_n hx hb dL_law_500 rfl (lv_at hl 0 rfl) ?_
  refine lv_iload_n hx hb dL_law_501 rfl (lv_at hl 3 rfl) ?_
  refine lv_iconst (v := nI 1) hx hb dL_law_502 (by decide) ?_
  refine z_add (v := nI (4 * i + 1)) hx hb dL_law_503 (nI_add _ _) ?_
  refine z_sld hx hb hX hbl (Nat.not_le.mpr hbl) hS (i := 4 * i + 1) (by omega) hLs dL_law_504 ?_
  refine z_callVIE (As := [.int (xs (4 * i + 1))]) (rest := []) (wr := modW G ma mv my) (C := RX3) F hC (cwV 1 hts gL_law_X3_beginning rfl rfl rfl (by decide +kernel) ⟨Nat.le_of_ble_eq_true rfl, Nat.le_of_ble_eq_true rfl⟩) hKK (z_recv hKK hP (q0 := 0) (ci := 3) rfl rfl) (z_perm List.perm_append_comm hP) (z_permD List.perm_append_comm hD) hS hA rfl hl.1 rfl (Nat.le_of_ble_eq_true rfl) ⟨Nat.le_of_ble_eq_true rfl, Nat.le_of_ble_eq_true rfl⟩ dL_law_505 (fun r1 cs H locs hq hP hD hS => ?_)
  obtain ⟨e1, hQ⟩ := hq
  subst e1
  refine lv_aload_n hx hb dL_law_508 rfl (lv_at hl 2 rfl) ?_
  refine lv_aload_n hx hb dL_law_509 rfl (lv_at hl 0 rfl) ?_
  refine lv_iload_n hx hb dL_law_510 rfl (lv_at hl 3 rfl) ?_
  refine lv_iconst (v := nI 1) hx hb dL_law_511 (by decide) ?_
  refine z_add (v := nI (4 * i + 1)) hx hb dL_law_512 (nI_add _ _) ?_
  refine z_sld hx hb hX hbl (Nat.not_le.mpr hbl) hS (i := 4 * i + 1) (by omega) hLs dL_law_513 ?_
  refine z_callVIE (As := [.int (xs (4 * i + 1))]) (rest := [.int r1]) (wr := clW G o pr q a b d cs) (C := RX4) F hM (cwV 1 hts gL_law_X4_beginning rfl rfl rfl (by decide +kernel) ⟨Nat.le_of_ble_eq_true rfl, Nat.le_of_ble_eq_true rfl⟩) hKK (z_recv hKK hP (q0 := 0) (ci := 4) rfl rfl) (z_perm List.perm_append_comm hP) (z_permD List.perm_append_comm hD) hS hA rfl hl.1 rfl (Nat.le_of_ble_eq_true rfl) ⟨Nat.le_of_ble_eq_true rfl, Nat.le_of_ble_eq_true rfl⟩ dL_law_514 (fun r2 ms H locs hq hP hD hS => ?_)
  obtain ⟨e2, hR2⟩ := hq
  subst e2
  exact lv_icmp_eq (tgt := 719) hx hb dL_law_517 (by decide) (fun _ => kk cs ms H locs (hR2 cs hQ) hP hD hS) (fun h => absurd rfl h)

set_option maxHeartbeats 4000000 in
set_option maxRecDepth 100000 in
theorem lk_14 {p : Program} {e : Env} {s : State} {m : MethodId} {below : List Frame} {meth : Method} {c : Code} (l : Launch) (G : ZG) {bs Ls : Nat} {xs : Nat → Int32} (F : CallFix p m c cL_law 4 s #[Value.ref bs] wsL_law RL) (hKK : KK G s) (hX : va_X bs Ls xs s s.heap) (hbl : bs < s.heap.size) (hLs : Ls ≤ 2048) (o pr q : Nat) (a b d ma : Nat → Nat) (Z : State → Prop) (i B : Nat) (hi : 4 * i + 3 < Ls) (hB : B < 2 ^ 30) (pa : Nat → Nat → Nat) (S P L : Nat → Nat) (t v u : Mem) (pv : Nat → Mem) (mv : Mem) (my : Nat → Nat) (hrel : Rel B S L t v pv mv my) (H : Heap) (locs : List Loc) (ls : Array Slot) (hP : va_P G.1 vwCl (nrW G o pr q a b d pa S P L t v u pv ++ modW G ma mv my) H) (hD : va_D (fun q : Nat => s.heap.size ≤ q) (nrW G o pr q a b d pa S P L t v u pv ++ modW G ma mv my)) (hS : va_S (fun q : Nat => s.heap.size ≤ q) s.heap H locs) (hl : lv_has ls 4 [(0, .ref bs), (1, .ref o), (2, .ref (ma 0)), (3, .int (nI (4 * i)))]) (kk : ∀ (cs : CS) (ms : Mem × (Nat → Nat)) (H : Heap) (locs : List Loc), RelC (B + 61) cs ms → va_P G.1 vwCl (clW G o pr q a b d cs ++ modW G ma ms.1 ms.2) H → va_D (fun q : Nat => s.heap.size ≤ q) (clW G o pr q a b d cs ++ modW G ma ms.1 ms.2) → va_S (fun q : Nat => s.heap.size ≤ q) s.heap H locs → W p l e room_1 s m #[Value.ref bs] below meth c H locs 91 6960 Z (F0 m 719 ls [])) : W p l e room_1 s m #[Value.ref bs] below meth c H locs 91 6960 Z (F0 m 522 ls []) := by
  obtain ⟨hx, hb, hml, hown, hts⟩ := id F
  have hA : ∀ q : Nat, s.heap.size ≤ q → (fun q : Nat => s.heap.size ≤ q) q := fun _ h => h
  obtain ⟨R, Q, hC, hM⟩ := st_behind l G o pr q a b d pa S P L t v u pv ma mv my B hrel hB (xs (4 * i + 1))
  refine lv_aload_n hx hb dL_law_522 rfl (lv_at hl 1 rfl) ?_
  refine lv_aload_n hx hb dL_law_523 rfl (lv_at hl 0 rfl) ?_
  refine lv_iload_n hx hb dL_law_524 rfl (lv_at hl 3 rfl) ?_
  refine lv_iconst (v := nI 1) hx hb dL_law_525 (by decide) ?_
  refine z_add (v := nI (4 * i + 1)) hx hb dL_law_526 (nI_add _ _) ?_
  refine z_sld hx hb hX hbl (Nat.not_le.mpr hbl) hS (i := 4 * i + 1) (by omega) hLs dL_law_527 ?_
  refine z_callVIE (As := [.int (xs (4 * i + 1))]) (rest := []) (wr := modW G ma mv my) (C := RX3) F hC (cwV 1 hts gL_law_X3_behind rfl rfl rfl (by decide +kernel) ⟨Nat.le_of_ble_eq_true rfl, Nat.le_of_ble_eq_true rfl⟩) hKK (z_recv hKK hP (q0 := 0) (ci := 3) rfl rfl) (z_perm List.perm_append_comm hP) (z_permD List.perm_append_comm hD) hS hA rfl hl.1 rfl (Nat.le_of_ble_eq_true rfl) ⟨Nat.le_of_ble_eq_true rfl, Nat.le_of_ble_eq_true rfl⟩ dL_law_528 (fun r1 cs H locs hq hP hD hS => ?_)
  obtain ⟨e1, hQ⟩ := hq
  subst e1
  refine lv_aload_n hx hb dL_law_531 rfl (lv_at hl 2 rfl) ?_
  refine lv_aload_n hx hb dL_law_532 rfl (lv_at hl 0 rfl) ?_
  refine lv_iload_n hx hb dL_law_533 rfl (lv_at hl 3 rfl) ?_
  refine lv_iconst (v := nI 1) hx hb dL_law_534 (by decide) ?_
  refine z_add (v := nI (4 * i + 1)) hx hb dL_law_535 (nI_add _ _) ?_
  refine z_sld hx hb hX hbl (Nat.not_le.mpr hbl) hS (i := 4 * i + 1) (by omega) hLs dL_law_536 ?_
  refine z_callVIE (As := [.int (xs (4 * i + 1))]) (rest := [.int r1]) (wr := clW G o pr q a b d cs) (C := RX4) F hM (cwV 1 hts gL_law_X4_behind rfl rfl rfl (by decide +kernel) ⟨Nat.le_of_ble_eq_true rfl, Nat.le_of_ble_eq_true rfl⟩) hKK (z_recv hKK hP (q0 := 0) (ci := 4) rfl rfl) (z_perm List.perm_append_comm hP) (z_permD List.perm_append_comm hD) hS hA rfl hl.1 rfl (Nat.le_of_ble_eq_true rfl) ⟨Nat.le_of_ble_eq_true rfl, Nat.le_of_ble_eq_true rfl⟩ dL_law_537 (fun r2 ms H locs hq hP hD hS => ?_)
  obtain ⟨e2, hR2⟩ := hq
  subst e2
  exact lv_icmp_eq (tgt := 719) hx hb dL_law_540 (by decide) (fun _ => kk cs ms H locs (hR2 cs hQ) hP hD hS) (fun h => absurd rfl h)

set_option maxHeartbeats 4000000 in
set_option maxRecDepth 100000 in
theorem lk_15 {p : Program} {e : Env} {s : State} {m : MethodId} {below : List Frame} {meth : Method} {c : Code} (l : Launch) (G : ZG) {bs Ls : Nat} {xs : Nat → Int32} (F : CallFix p m c cL_law 4 s #[Value.ref bs] wsL_law RL) (hKK : KK G s) (hX : va_X bs Ls xs s s.heap) (hbl : bs < s.heap.size) (hLs : Ls ≤ 2048) (o pr q : Nat) (a b d ma : Nat → Nat) (Z : State → Prop) (i B : Nat) (hi : 4 * i + 3 < Ls) (hB : B < 2 ^ 30) (pa : Nat → Nat → Nat) (S P L : Nat → Nat) (t v u : Mem) (pv : Nat → Mem) (mv : Mem) (my : Nat → Nat) (hrel : Rel B S L t v pv mv my) (H : Heap) (locs : List Loc) (ls : Array Slot) (hP : va_P G.1 vwCl (nrW G o pr q a b d pa S P L t v u pv ++ modW G ma mv my) H) (hD : va_D (fun q : Nat => s.heap.size ≤ q) (nrW G o pr q a b d pa S P L t v u pv ++ modW G ma mv my)) (hS : va_S (fun q : Nat => s.heap.size ≤ q) s.heap H locs) (hl : lv_has ls 4 [(0, .ref bs), (1, .ref o), (2, .ref (ma 0)), (3, .int (nI (4 * i)))]) (kk : ∀ (cs : CS) (ms : Mem × (Nat → Nat)) (H : Heap) (locs : List Loc), RelC (B + 61) cs ms → va_P G.1 vwCl (clW G o pr q a b d cs ++ modW G ma ms.1 ms.2) H → va_D (fun q : Nat => s.heap.size ≤ q) (clW G o pr q a b d cs ++ modW G ma ms.1 ms.2) → va_S (fun q : Nat => s.heap.size ≤ q) s.heap H locs → W p l e room_1 s m #[Value.ref bs] below meth c H locs 91 6960 Z (F0 m 719 ls [])) : W p l e room_1 s m #[Value.ref bs] below meth c H locs 91 6960 Z (F0 m 545 ls []) := by
  obtain ⟨hx, hb, hml, hown, hts⟩ := id F
  have hA : ∀ q : Nat, s.heap.size ≤ q → (fun q : Nat => s.heap.size ≤ q) q := fun _ h => h
  obtain ⟨R, Q, hC, hM⟩ := st_wouldBe l G o pr q a b d pa S P L t v u pv ma mv my B hrel hB (xs (4 * i + 1)) (xs (4 * i + 2))
  refine lv_aload_n hx hb dL_law_545 rfl (lv_at hl 1 rfl) ?_
  refine lv_aload_n hx hb dL_law_546 rfl (lv_at hl 0 rfl) ?_
  refine lv_iload_n hx hb dL_law_547 rfl (lv_at hl 3 rfl) ?_
  refine lv_iconst (v := nI 1) hx hb dL_law_548 (by decide) ?_
  refine z_add (v := nI (4 * i + 1)) hx hb dL_law_549 (nI_add _ _) ?_
  refine z_sld hx hb hX hbl (Nat.not_le.mpr hbl) hS (i := 4 * i + 1) (by omega) hLs dL_law_550 ?_
  refine lv_aload_n hx hb dL_law_551 rfl (lv_at hl 0 rfl) ?_
  refine lv_iload_n hx hb dL_law_552 rfl (lv_at hl 3 rfl) ?_
  refine lv_iconst (v := nI 2) hx hb dL_law_553 (by decide) ?_
  refine z_add (v := nI (4 * i + 2)) hx hb dL_law_554 (nI_add _ _) ?_
  refine z_sld hx hb hX hbl (Nat.not_le.mpr hbl) hS (i := 4 * i + 2) (by omega) hLs dL_law_555 ?_
  refine z_callVIE (As := [.int (xs (4 * i + 1)), .int (xs (4 * i + 2))]) (rest := []) (wr := modW G ma mv my) (C := RX3) F hC (cwV 2 hts gL_law_X3_wouldBe rfl rfl rfl (by decide +kernel) ⟨Nat.le_of_ble_eq_true rfl, Nat.le_of_ble_eq_true rfl⟩) hKK (z_recv hKK hP (q0 := 0) (ci := 3) rfl rfl) (z_perm List.perm_append_comm hP) (z_permD List.perm_append_comm hD) hS hA rfl hl.1 rfl (Nat.le_of_ble_eq_true rfl) ⟨Nat.le_of_ble_eq_true rfl, Nat.le_of_ble_eq_true rfl⟩ dL_law_556 (fun r1 cs H locs hq hP hD hS => ?_)
  obtain ⟨e1, hQ⟩ := hq
  subst e1
  refine lv_aload_n hx hb dL_law_559 rfl (lv_at hl 2 rfl) ?_
  refine lv_aload_n hx hb dL_law_560 rfl (lv_at hl 0 rfl) ?_
  refine lv_iload_n hx hb dL_law_561 rfl (lv_at hl 3 rfl) ?_
  refine lv_iconst (v := nI 1) hx hb dL_law_562 (by decide) ?_
  refine z_add (v := nI (4 * i + 1)) hx hb dL_law_563 (nI_add _ _) ?_
  refine z_sld hx hb hX hbl (Nat.not_le.mpr hbl) hS (i := 4 * i + 1) (by omega) hLs dL_law_564 ?_
  refine lv_aload_n hx hb dL_law_565 rfl (lv_at hl 0 rfl) ?_
  refine lv_iload_n hx hb dL_law_566 rfl (lv_at hl 3 rfl) ?_
  refine lv_iconst (v := nI 2) hx hb dL_law_567 (by decide) ?_
  refine z_add (v := nI (4 * i + 2)) hx hb dL_law_568 (nI_add _ _) ?_
  refine z_sld hx hb hX hbl (Nat.not_le.mpr hbl) hS (i := 4 * i + 2) (by omega) hLs dL_law_569 ?_
  refine z_callVIE (As := [.int (xs (4 * i + 1)), .int (xs (4 * i + 2))]) (rest := [.int r1]) (wr := clW G o pr q a b d cs) (C := RX4) F hM (cwV 2 hts gL_law_X4_wouldBe rfl rfl rfl (by decide +kernel) ⟨Nat.le_of_ble_eq_true rfl, Nat.le_of_ble_eq_true rfl⟩) hKK (z_recv hKK hP (q0 := 0) (ci := 4) rfl rfl) (z_perm List.perm_append_comm hP) (z_permD List.perm_append_comm hD) hS hA rfl hl.1 rfl (Nat.le_of_ble_eq_true rfl) ⟨Nat.le_of_ble_eq_true rfl, Nat.le_of_ble_eq_true rfl⟩ dL_law_570 (fun r2 ms H locs hq hP hD hS => ?_)
  obtain ⟨e2, hR2⟩ := hq
  subst e2
  exact lv_icmp_eq (tgt := 719) hx hb dL_law_573 (by decide) (fun _ => kk cs ms H locs (hR2 cs hQ) hP hD hS) (fun h => absurd rfl h)

set_option maxHeartbeats 4000000 in
set_option maxRecDepth 100000 in
theorem lk_16 {p : Program} {e : Env} {s : State} {m : MethodId} {below : List Frame} {meth : Method} {c : Code} (l : Launch) (G : ZG) {bs Ls : Nat} {xs : Nat → Int32} (F : CallFix p m c cL_law 4 s #[Value.ref bs] wsL_law RL) (hKK : KK G s) (hX : va_X bs Ls xs s s.heap) (hbl : bs < s.heap.size) (hLs : Ls ≤ 2048) (o pr q : Nat) (a b d ma : Nat → Nat) (Z : State → Prop) (i B : Nat) (hi : 4 * i + 3 < Ls) (hB : B < 2 ^ 30) (pa : Nat → Nat → Nat) (S P L : Nat → Nat) (t v u : Mem) (pv : Nat → Mem) (mv : Mem) (my : Nat → Nat) (hrel : Rel B S L t v pv mv my) (H : Heap) (locs : List Loc) (ls : Array Slot) (hP : va_P G.1 vwCl (nrW G o pr q a b d pa S P L t v u pv ++ modW G ma mv my) H) (hD : va_D (fun q : Nat => s.heap.size ≤ q) (nrW G o pr q a b d pa S P L t v u pv ++ modW G ma mv my)) (hS : va_S (fun q : Nat => s.heap.size ≤ q) s.heap H locs) (hl : lv_has ls 4 [(0, .ref bs), (1, .ref o), (2, .ref (ma 0)), (3, .int (nI (4 * i)))]) (kk : ∀ (cs : CS) (ms : Mem × (Nat → Nat)) (H : Heap) (locs : List Loc), RelC (B + 61) cs ms → va_P G.1 vwCl (clW G o pr q a b d cs ++ modW G ma ms.1 ms.2) H → va_D (fun q : Nat => s.heap.size ≤ q) (clW G o pr q a b d cs ++ modW G ma ms.1 ms.2) → va_S (fun q : Nat => s.heap.size ≤ q) s.heap H locs → W p l e room_1 s m #[Value.ref bs] below meth c H locs 91 6960 Z (F0 m 719 ls [])) : W p l e room_1 s m #[Value.ref bs] below meth c H locs 91 6960 Z (F0 m 578 ls []) := by
  obtain ⟨hx, hb, hml, hown, hts⟩ := id F
  have hA : ∀ q : Nat, s.heap.size ≤ q → (fun q : Nat => s.heap.size ≤ q) q := fun _ h => h
  obtain ⟨R, Q, hC, hM⟩ := st_compaction l G o pr q a b d pa S P L t v u pv ma mv my B hrel hB (xs (4 * i + 1)) (xs (4 * i + 2))
  refine lv_aload_n hx hb dL_law_578 rfl (lv_at hl 1 rfl) ?_
  refine lv_aload_n hx hb dL_law_579 rfl (lv_at hl 0 rfl) ?_
  refine lv_iload_n hx hb dL_law_580 rfl (lv_at hl 3 rfl) ?_
  refine lv_iconst (v := nI 1) hx hb dL_law_581 (by decide) ?_
  refine z_add (v := nI (4 * i + 1)) hx hb dL_law_582 (nI_add _ _) ?_
  refine z_sld hx hb hX hbl (Nat.not_le.mpr hbl) hS (i := 4 * i + 1) (by omega) hLs dL_law_583 ?_
  refine lv_aload_n hx hb dL_law_584 rfl (lv_at hl 0 rfl) ?_
  refine lv_iload_n hx hb dL_law_585 rfl (lv_at hl 3 rfl) ?_
  refine lv_iconst (v := nI 2) hx hb dL_law_586 (by decide) ?_
  refine z_add (v := nI (4 * i + 2)) hx hb dL_law_587 (nI_add _ _) ?_
  refine z_sld hx hb hX hbl (Nat.not_le.mpr hbl) hS (i := 4 * i + 2) (by omega) hLs dL_law_588 ?_
  refine z_callVIE (As := [.int (xs (4 * i + 1)), .int (xs (4 * i + 2))]) (rest := []) (wr := modW G ma mv my) (C := RX3) F hC (cwV 2 hts gL_law_X3_compaction rfl rfl rfl (by decide +kernel) ⟨Nat.le_of_ble_eq_true rfl, Nat.le_of_ble_eq_true rfl⟩) hKK (z_recv hKK hP (q0 := 0) (ci := 3) rfl rfl) (z_perm List.perm_append_comm hP) (z_permD List.perm_append_comm hD) hS hA rfl hl.1 rfl (Nat.le_of_ble_eq_true rfl) ⟨Nat.le_of_ble_eq_true rfl, Nat.le_of_ble_eq_true rfl⟩ dL_law_589 (fun r1 cs H locs hq hP hD hS => ?_)
  obtain ⟨e1, hQ⟩ := hq
  subst e1
  refine lv_aload_n hx hb dL_law_592 rfl (lv_at hl 2 rfl) ?_
  refine lv_aload_n hx hb dL_law_593 rfl (lv_at hl 0 rfl) ?_
  refine lv_iload_n hx hb dL_law_594 rfl (lv_at hl 3 rfl) ?_
  refine lv_iconst (v := nI 1) hx hb dL_law_595 (by decide) ?_
  refine z_add (v := nI (4 * i + 1)) hx hb dL_law_596 (nI_add _ _) ?_
  refine z_sld hx hb hX hbl (Nat.not_le.mpr hbl) hS (i := 4 * i + 1) (by omega) hLs dL_law_597 ?_
  refine lv_aload_n hx hb dL_law_598 rfl (lv_at hl 0 rfl) ?_
  refine lv_iload_n hx hb dL_law_599 rfl (lv_at hl 3 rfl) ?_
  refine lv_iconst (v := nI 2) hx hb dL_law_600 (by decide) ?_
  refine z_add (v := nI (4 * i + 2)) hx hb dL_law_601 (nI_add _ _) ?_
  refine z_sld hx hb hX hbl (Nat.not_le.mpr hbl) hS (i := 4 * i + 2) (by omega) hLs dL_law_602 ?_
  refine z_callVIE (As := [.int (xs (4 * i + 1)), .int (xs (4 * i + 2))]) (rest := [.int r1]) (wr := clW G o pr q a b d cs) (C := RX4) F hM (cwV 2 hts gL_law_X4_compaction rfl rfl rfl (by decide +kernel) ⟨Nat.le_of_ble_eq_true rfl, Nat.le_of_ble_eq_true rfl⟩) hKK (z_recv hKK hP (q0 := 0) (ci := 4) rfl rfl) (z_perm List.perm_append_comm hP) (z_permD List.perm_append_comm hD) hS hA rfl hl.1 rfl (Nat.le_of_ble_eq_true rfl) ⟨Nat.le_of_ble_eq_true rfl, Nat.le_of_ble_eq_true rfl⟩ dL_law_603 (fun r2 ms H locs hq hP hD hS => ?_)
  obtain ⟨e2, hR2⟩ := hq
  subst e2
  exact lv_icmp_eq (tgt := 719) hx hb dL_law_606 (by decide) (fun _ => kk cs ms H locs (hR2 cs hQ) hP hD hS) (fun h => absurd rfl h)

set_option maxHeartbeats 4000000 in
set_option maxRecDepth 100000 in
theorem lk_17 {p : Program} {e : Env} {s : State} {m : MethodId} {below : List Frame} {meth : Method} {c : Code} (l : Launch) (G : ZG) {bs Ls : Nat} {xs : Nat → Int32} (F : CallFix p m c cL_law 4 s #[Value.ref bs] wsL_law RL) (hKK : KK G s) (hX : va_X bs Ls xs s s.heap) (hbl : bs < s.heap.size) (hLs : Ls ≤ 2048) (o pr q : Nat) (a b d ma : Nat → Nat) (Z : State → Prop) (i B : Nat) (hi : 4 * i + 3 < Ls) (hB : B < 2 ^ 30) (pa : Nat → Nat → Nat) (S P L : Nat → Nat) (t v u : Mem) (pv : Nat → Mem) (mv : Mem) (my : Nat → Nat) (hrel : Rel B S L t v pv mv my) (H : Heap) (locs : List Loc) (ls : Array Slot) (hP : va_P G.1 vwCl (nrW G o pr q a b d pa S P L t v u pv ++ modW G ma mv my) H) (hD : va_D (fun q : Nat => s.heap.size ≤ q) (nrW G o pr q a b d pa S P L t v u pv ++ modW G ma mv my)) (hS : va_S (fun q : Nat => s.heap.size ≤ q) s.heap H locs) (hl : lv_has ls 4 [(0, .ref bs), (1, .ref o), (2, .ref (ma 0)), (3, .int (nI (4 * i)))]) (kk : ∀ (cs : CS) (ms : Mem × (Nat → Nat)) (H : Heap) (locs : List Loc), RelC (B + 61) cs ms → va_P G.1 vwCl (clW G o pr q a b d cs ++ modW G ma ms.1 ms.2) H → va_D (fun q : Nat => s.heap.size ≤ q) (clW G o pr q a b d cs ++ modW G ma ms.1 ms.2) → va_S (fun q : Nat => s.heap.size ≤ q) s.heap H locs → W p l e room_1 s m #[Value.ref bs] below meth c H locs 91 6960 Z (F0 m 719 ls [])) : W p l e room_1 s m #[Value.ref bs] below meth c H locs 91 6960 Z (F0 m 611 ls []) := by
  obtain ⟨hx, hb, hml, hown, hts⟩ := id F
  have hA : ∀ q : Nat, s.heap.size ≤ q → (fun q : Nat => s.heap.size ≤ q) q := fun _ h => h
  obtain ⟨R, Q, hC, hM⟩ := st_count l G o pr q a b d pa S P L t v u pv ma mv my B hrel hB (xs (4 * i + 1))
  refine lv_aload_n hx hb dL_law_611 rfl (lv_at hl 1 rfl) ?_
  refine lv_aload_n hx hb dL_law_612 rfl (lv_at hl 0 rfl) ?_
  refine lv_iload_n hx hb dL_law_613 rfl (lv_at hl 3 rfl) ?_
  refine lv_iconst (v := nI 1) hx hb dL_law_614 (by decide) ?_
  refine z_add (v := nI (4 * i + 1)) hx hb dL_law_615 (nI_add _ _) ?_
  refine z_sld hx hb hX hbl (Nat.not_le.mpr hbl) hS (i := 4 * i + 1) (by omega) hLs dL_law_616 ?_
  refine z_callVIE (As := [.int (xs (4 * i + 1))]) (rest := []) (wr := modW G ma mv my) (C := RX3) F hC (cwV 1 hts gL_law_X3_count rfl rfl rfl (by decide +kernel) ⟨Nat.le_of_ble_eq_true rfl, Nat.le_of_ble_eq_true rfl⟩) hKK (z_recv hKK hP (q0 := 0) (ci := 3) rfl rfl) (z_perm List.perm_append_comm hP) (z_permD List.perm_append_comm hD) hS hA rfl hl.1 rfl (Nat.le_of_ble_eq_true rfl) ⟨Nat.le_of_ble_eq_true rfl, Nat.le_of_ble_eq_true rfl⟩ dL_law_617 (fun r1 cs H locs hq hP hD hS => ?_)
  obtain ⟨e1, hQ⟩ := hq
  subst e1
  refine lv_aload_n hx hb dL_law_620 rfl (lv_at hl 2 rfl) ?_
  refine lv_aload_n hx hb dL_law_621 rfl (lv_at hl 0 rfl) ?_
  refine lv_iload_n hx hb dL_law_622 rfl (lv_at hl 3 rfl) ?_
  refine lv_iconst (v := nI 1) hx hb dL_law_623 (by decide) ?_
  refine z_add (v := nI (4 * i + 1)) hx hb dL_law_624 (nI_add _ _) ?_
  refine z_sld hx hb hX hbl (Nat.not_le.mpr hbl) hS (i := 4 * i + 1) (by omega) hLs dL_law_625 ?_
  refine z_callVIE (As := [.int (xs (4 * i + 1))]) (rest := [.int r1]) (wr := clW G o pr q a b d cs) (C := RX4) F hM (cwV 1 hts gL_law_X4_count rfl rfl rfl (by decide +kernel) ⟨Nat.le_of_ble_eq_true rfl, Nat.le_of_ble_eq_true rfl⟩) hKK (z_recv hKK hP (q0 := 0) (ci := 4) rfl rfl) (z_perm List.perm_append_comm hP) (z_permD List.perm_append_comm hD) hS hA rfl hl.1 rfl (Nat.le_of_ble_eq_true rfl) ⟨Nat.le_of_ble_eq_true rfl, Nat.le_of_ble_eq_true rfl⟩ dL_law_626 (fun r2 ms H locs hq hP hD hS => ?_)
  obtain ⟨e2, hR2⟩ := hq
  subst e2
  exact lv_icmp_eq (tgt := 719) hx hb dL_law_629 (by decide) (fun _ => kk cs ms H locs (hR2 cs hQ) hP hD hS) (fun h => absurd rfl h)

set_option maxHeartbeats 4000000 in
set_option maxRecDepth 100000 in
theorem lk_18 {p : Program} {e : Env} {s : State} {m : MethodId} {below : List Frame} {meth : Method} {c : Code} (l : Launch) (G : ZG) {bs Ls : Nat} {xs : Nat → Int32} (F : CallFix p m c cL_law 4 s #[Value.ref bs] wsL_law RL) (hKK : KK G s) (hX : va_X bs Ls xs s s.heap) (hbl : bs < s.heap.size) (hLs : Ls ≤ 2048) (o pr q : Nat) (a b d ma : Nat → Nat) (Z : State → Prop) (i B : Nat) (hi : 4 * i + 3 < Ls) (hB : B < 2 ^ 30) (pa : Nat → Nat → Nat) (S P L : Nat → Nat) (t v u : Mem) (pv : Nat → Mem) (mv : Mem) (my : Nat → Nat) (hrel : Rel B S L t v pv mv my) (H : Heap) (locs : List Loc) (ls : Array Slot) (hP : va_P G.1 vwCl (nrW G o pr q a b d pa S P L t v u pv ++ modW G ma mv my) H) (hD : va_D (fun q : Nat => s.heap.size ≤ q) (nrW G o pr q a b d pa S P L t v u pv ++ modW G ma mv my)) (hS : va_S (fun q : Nat => s.heap.size ≤ q) s.heap H locs) (hl : lv_has ls 4 [(0, .ref bs), (1, .ref o), (2, .ref (ma 0)), (3, .int (nI (4 * i)))]) (kk : ∀ (cs : CS) (ms : Mem × (Nat → Nat)) (H : Heap) (locs : List Loc), RelC (B + 61) cs ms → va_P G.1 vwCl (clW G o pr q a b d cs ++ modW G ma ms.1 ms.2) H → va_D (fun q : Nat => s.heap.size ≤ q) (clW G o pr q a b d cs ++ modW G ma ms.1 ms.2) → va_S (fun q : Nat => s.heap.size ≤ q) s.heap H locs → W p l e room_1 s m #[Value.ref bs] below meth c H locs 91 6960 Z (F0 m 719 ls [])) : W p l e room_1 s m #[Value.ref bs] below meth c H locs 91 6960 Z (F0 m 634 ls []) := by
  obtain ⟨hx, hb, hml, hown, hts⟩ := id F
  have hA : ∀ q : Nat, s.heap.size ≤ q → (fun q : Nat => s.heap.size ≤ q) q := fun _ h => h
  obtain ⟨R, Q, hC, hM⟩ := st_undo l G o pr q a b d pa S P L t v u pv ma mv my B hrel hB
  refine lv_aload_n hx hb dL_law_634 rfl (lv_at hl 1 rfl) ?_
  refine z_callVIE (As := []) (rest := []) (wr := modW G ma mv my) (C := RX3) F hC (cwV 0 hts gL_law_X3_undo rfl rfl rfl (by decide +kernel) ⟨Nat.le_of_ble_eq_true rfl, Nat.le_of_ble_eq_true rfl⟩) hKK (z_recv hKK hP (q0 := 0) (ci := 3) rfl rfl) (z_perm List.perm_append_comm hP) (z_permD List.perm_append_comm hD) hS hA rfl hl.1 rfl (Nat.le_of_ble_eq_true rfl) ⟨Nat.le_of_ble_eq_true rfl, Nat.le_of_ble_eq_true rfl⟩ dL_law_635 (fun r1 cs H locs hq hP hD hS => ?_)
  obtain ⟨e1, hQ⟩ := hq
  subst e1
  refine lv_aload_n hx hb dL_law_638 rfl (lv_at hl 2 rfl) ?_
  refine z_callVIE (As := []) (rest := [.int r1]) (wr := clW G o pr q a b d cs) (C := RX4) F hM (cwV 0 hts gL_law_X4_undo rfl rfl rfl (by decide +kernel) ⟨Nat.le_of_ble_eq_true rfl, Nat.le_of_ble_eq_true rfl⟩) hKK (z_recv hKK hP (q0 := 0) (ci := 4) rfl rfl) (z_perm List.perm_append_comm hP) (z_permD List.perm_append_comm hD) hS hA rfl hl.1 rfl (Nat.le_of_ble_eq_true rfl) ⟨Nat.le_of_ble_eq_true rfl, Nat.le_of_ble_eq_true rfl⟩ dL_law_639 (fun r2 ms H locs hq hP hD hS => ?_)
  obtain ⟨e2, hR2⟩ := hq
  subst e2
  exact lv_icmp_eq (tgt := 719) hx hb dL_law_642 (by decide) (fun _ => kk cs ms H locs (hR2 cs hQ) hP hD hS) (fun h => absurd rfl h)

set_option maxHeartbeats 4000000 in
set_option maxRecDepth 100000 in
theorem lk_19 {p : Program} {e : Env} {s : State} {m : MethodId} {below : List Frame} {meth : Method} {c : Code} (l : Launch) (G : ZG) {bs Ls : Nat} {xs : Nat → Int32} (F : CallFix p m c cL_law 4 s #[Value.ref bs] wsL_law RL) (hKK : KK G s) (hX : va_X bs Ls xs s s.heap) (hbl : bs < s.heap.size) (hLs : Ls ≤ 2048) (o pr q : Nat) (a b d ma : Nat → Nat) (Z : State → Prop) (i B : Nat) (hi : 4 * i + 3 < Ls) (hB : B < 2 ^ 30) (pa : Nat → Nat → Nat) (S P L : Nat → Nat) (t v u : Mem) (pv : Nat → Mem) (mv : Mem) (my : Nat → Nat) (hrel : Rel B S L t v pv mv my) (H : Heap) (locs : List Loc) (ls : Array Slot) (hP : va_P G.1 vwCl (nrW G o pr q a b d pa S P L t v u pv ++ modW G ma mv my) H) (hD : va_D (fun q : Nat => s.heap.size ≤ q) (nrW G o pr q a b d pa S P L t v u pv ++ modW G ma mv my)) (hS : va_S (fun q : Nat => s.heap.size ≤ q) s.heap H locs) (hl : lv_has ls 4 [(0, .ref bs), (1, .ref o), (2, .ref (ma 0)), (3, .int (nI (4 * i)))]) (kk : ∀ (cs : CS) (ms : Mem × (Nat → Nat)) (H : Heap) (locs : List Loc), RelC (B + 61) cs ms → va_P G.1 vwCl (clW G o pr q a b d cs ++ modW G ma ms.1 ms.2) H → va_D (fun q : Nat => s.heap.size ≤ q) (clW G o pr q a b d cs ++ modW G ma ms.1 ms.2) → va_S (fun q : Nat => s.heap.size ≤ q) s.heap H locs → W p l e room_1 s m #[Value.ref bs] below meth c H locs 91 6960 Z (F0 m 719 ls [])) : W p l e room_1 s m #[Value.ref bs] below meth c H locs 91 6960 Z (F0 m 647 ls []) := by
  obtain ⟨hx, hb, hml, hown, hts⟩ := id F
  have hA : ∀ q : Nat, s.heap.size ≤ q → (fun q : Nat => s.heap.size ≤ q) q := fun _ h => h
  obtain ⟨R, Q, hC, hM⟩ := st_type l G o pr q a b d pa S P L t v u pv ma mv my B hrel hB (xs (4 * i + 1))
  refine lv_aload_n hx hb dL_law_647 rfl (lv_at hl 1 rfl) ?_
  refine lv_aload_n hx hb dL_law_648 rfl (lv_at hl 0 rfl) ?_
  refine lv_iload_n hx hb dL_law_649 rfl (lv_at hl 3 rfl) ?_
  refine lv_iconst (v := nI 1) hx hb dL_law_650 (by decide) ?_
  refine z_add (v := nI (4 * i + 1)) hx hb dL_law_651 (nI_add _ _) ?_
  refine z_sld hx hb hX hbl (Nat.not_le.mpr hbl) hS (i := 4 * i + 1) (by omega) hLs dL_law_652 ?_
  refine z_callVIE (As := [.int (xs (4 * i + 1))]) (rest := []) (wr := modW G ma mv my) (C := RX3) F hC (cwV 1 hts gL_law_X3_type rfl rfl rfl (by decide +kernel) ⟨Nat.le_of_ble_eq_true rfl, Nat.le_of_ble_eq_true rfl⟩) hKK (z_recv hKK hP (q0 := 0) (ci := 3) rfl rfl) (z_perm List.perm_append_comm hP) (z_permD List.perm_append_comm hD) hS hA rfl hl.1 rfl (Nat.le_of_ble_eq_true rfl) ⟨Nat.le_of_ble_eq_true rfl, Nat.le_of_ble_eq_true rfl⟩ dL_law_653 (fun r1 cs H locs hq hP hD hS => ?_)
  obtain ⟨e1, hQ⟩ := hq
  subst e1
  refine lv_aload_n hx hb dL_law_656 rfl (lv_at hl 2 rfl) ?_
  refine lv_aload_n hx hb dL_law_657 rfl (lv_at hl 0 rfl) ?_
  refine lv_iload_n hx hb dL_law_658 rfl (lv_at hl 3 rfl) ?_
  refine lv_iconst (v := nI 1) hx hb dL_law_659 (by decide) ?_
  refine z_add (v := nI (4 * i + 1)) hx hb dL_law_660 (nI_add _ _) ?_
  refine z_sld hx hb hX hbl (Nat.not_le.mpr hbl) hS (i := 4 * i + 1) (by omega) hLs dL_law_661 ?_
  refine z_callVIE (As := [.int (xs (4 * i + 1))]) (rest := [.int r1]) (wr := clW G o pr q a b d cs) (C := RX4) F hM (cwV 1 hts gL_law_X4_type rfl rfl rfl (by decide +kernel) ⟨Nat.le_of_ble_eq_true rfl, Nat.le_of_ble_eq_true rfl⟩) hKK (z_recv hKK hP (q0 := 0) (ci := 4) rfl rfl) (z_perm List.perm_append_comm hP) (z_permD List.perm_append_comm hD) hS hA rfl hl.1 rfl (Nat.le_of_ble_eq_true rfl) ⟨Nat.le_of_ble_eq_true rfl, Nat.le_of_ble_eq_true rfl⟩ dL_law_662 (fun r2 ms H locs hq hP hD hS => ?_)
  obtain ⟨e2, hR2⟩ := hq
  subst e2
  exact lv_icmp_eq (tgt := 719) hx hb dL_law_665 (by decide) (fun _ => kk cs ms H locs (hR2 cs hQ) hP hD hS) (fun h => absurd rfl h)

set_option maxHeartbeats 4000000 in
set_option maxRecDepth 100000 in
theorem lk_20 {p : Program} {e : Env} {s : State} {m : MethodId} {below : List Frame} {meth : Method} {c : Code} (l : Launch) (G : ZG) {bs Ls : Nat} {xs : Nat → Int32} (F : CallFix p m c cL_law 4 s #[Value.ref bs] wsL_law RL) (hKK : KK G s) (hX : va_X bs Ls xs s s.heap) (hbl : bs < s.heap.size) (hLs : Ls ≤ 2048) (o pr q : Nat) (a b d ma : Nat → Nat) (Z : State → Prop) (i B : Nat) (hi : 4 * i + 3 < Ls) (hB : B < 2 ^ 30) (pa : Nat → Nat → Nat) (S P L : Nat → Nat) (t v u : Mem) (pv : Nat → Mem) (mv : Mem) (my : Nat → Nat) (hrel : Rel B S L t v pv mv my) (H : Heap) (locs : List Loc) (ls : Array Slot) (hP : va_P G.1 vwCl (nrW G o pr q a b d pa S P L t v u pv ++ modW G ma mv my) H) (hD : va_D (fun q : Nat => s.heap.size ≤ q) (nrW G o pr q a b d pa S P L t v u pv ++ modW G ma mv my)) (hS : va_S (fun q : Nat => s.heap.size ≤ q) s.heap H locs) (hl : lv_has ls 4 [(0, .ref bs), (1, .ref o), (2, .ref (ma 0)), (3, .int (nI (4 * i)))]) (kk : ∀ (cs : CS) (ms : Mem × (Nat → Nat)) (H : Heap) (locs : List Loc), RelC (B + 61) cs ms → va_P G.1 vwCl (clW G o pr q a b d cs ++ modW G ma ms.1 ms.2) H → va_D (fun q : Nat => s.heap.size ≤ q) (clW G o pr q a b d cs ++ modW G ma ms.1 ms.2) → va_S (fun q : Nat => s.heap.size ≤ q) s.heap H locs → W p l e room_1 s m #[Value.ref bs] below meth c H locs 91 6960 Z (F0 m 719 ls [])) : W p l e room_1 s m #[Value.ref bs] below meth c H locs 91 6960 Z (F0 m 670 ls []) := by
  obtain ⟨hx, hb, hml, hown, hts⟩ := id F
  have hA : ∀ q : Nat, s.heap.size ≤ q → (fun q : Nat => s.heap.size ≤ q) q := fun _ h => h
  obtain ⟨R, Q, hC, hM⟩ := st_clearText l G o pr q a b d pa S P L t v u pv ma mv my B hrel hB
  refine lv_aload_n hx hb dL_law_670 rfl (lv_at hl 1 rfl) ?_
  refine z_callVIE (As := []) (rest := []) (wr := modW G ma mv my) (C := RX3) F hC (cwV 0 hts gL_law_X3_clearText rfl rfl rfl (by decide +kernel) ⟨Nat.le_of_ble_eq_true rfl, Nat.le_of_ble_eq_true rfl⟩) hKK (z_recv hKK hP (q0 := 0) (ci := 3) rfl rfl) (z_perm List.perm_append_comm hP) (z_permD List.perm_append_comm hD) hS hA rfl hl.1 rfl (Nat.le_of_ble_eq_true rfl) ⟨Nat.le_of_ble_eq_true rfl, Nat.le_of_ble_eq_true rfl⟩ dL_law_671 (fun r1 cs H locs hq hP hD hS => ?_)
  obtain ⟨e1, hQ⟩ := hq
  subst e1
  refine lv_aload_n hx hb dL_law_674 rfl (lv_at hl 2 rfl) ?_
  refine z_callVIE (As := []) (rest := [.int r1]) (wr := clW G o pr q a b d cs) (C := RX4) F hM (cwV 0 hts gL_law_X4_clearText rfl rfl rfl (by decide +kernel) ⟨Nat.le_of_ble_eq_true rfl, Nat.le_of_ble_eq_true rfl⟩) hKK (z_recv hKK hP (q0 := 0) (ci := 4) rfl rfl) (z_perm List.perm_append_comm hP) (z_permD List.perm_append_comm hD) hS hA rfl hl.1 rfl (Nat.le_of_ble_eq_true rfl) ⟨Nat.le_of_ble_eq_true rfl, Nat.le_of_ble_eq_true rfl⟩ dL_law_675 (fun r2 ms H locs hq hP hD hS => ?_)
  obtain ⟨e2, hR2⟩ := hq
  subst e2
  exact lv_icmp_eq (tgt := 719) hx hb dL_law_678 (by decide) (fun _ => kk cs ms H locs (hR2 cs hQ) hP hD hS) (fun h => absurd rfl h)

set_option maxHeartbeats 4000000 in
set_option maxRecDepth 100000 in
theorem lk_21 {p : Program} {e : Env} {s : State} {m : MethodId} {below : List Frame} {meth : Method} {c : Code} (l : Launch) (G : ZG) {bs Ls : Nat} {xs : Nat → Int32} (F : CallFix p m c cL_law 4 s #[Value.ref bs] wsL_law RL) (hKK : KK G s) (hX : va_X bs Ls xs s s.heap) (hbl : bs < s.heap.size) (hLs : Ls ≤ 2048) (o pr q : Nat) (a b d ma : Nat → Nat) (Z : State → Prop) (i B : Nat) (hi : 4 * i + 3 < Ls) (hB : B < 2 ^ 30) (pa : Nat → Nat → Nat) (S P L : Nat → Nat) (t v u : Mem) (pv : Nat → Mem) (mv : Mem) (my : Nat → Nat) (hrel : Rel B S L t v pv mv my) (H : Heap) (locs : List Loc) (ls : Array Slot) (hP : va_P G.1 vwCl (nrW G o pr q a b d pa S P L t v u pv ++ modW G ma mv my) H) (hD : va_D (fun q : Nat => s.heap.size ≤ q) (nrW G o pr q a b d pa S P L t v u pv ++ modW G ma mv my)) (hS : va_S (fun q : Nat => s.heap.size ≤ q) s.heap H locs) (hl : lv_has ls 4 [(0, .ref bs), (1, .ref o), (2, .ref (ma 0)), (3, .int (nI (4 * i)))]) (kk : ∀ (cs : CS) (ms : Mem × (Nat → Nat)) (H : Heap) (locs : List Loc), RelC (B + 61) cs ms → va_P G.1 vwCl (clW G o pr q a b d cs ++ modW G ma ms.1 ms.2) H → va_D (fun q : Nat => s.heap.size ≤ q) (clW G o pr q a b d cs ++ modW G ma ms.1 ms.2) → va_S (fun q : Nat => s.heap.size ≤ q) s.heap H locs → W p l e room_1 s m #[Value.ref bs] below meth c H locs 91 6960 Z (F0 m 719 ls [])) : W p l e room_1 s m #[Value.ref bs] below meth c H locs 91 6960 Z (F0 m 683 ls []) := by
  obtain ⟨hx, hb, hml, hown, hts⟩ := id F
  have hA : ∀ q : Nat, s.heap.size ≤ q → (fun q : Nat => s.heap.size ≤ q) q := fun _ h => h
  obtain ⟨R, Q, hC, hM⟩ := st_fault l G o pr q a b d pa S P L t v u pv ma mv my B hrel hB (xs (4 * i + 1))
  refine lv_aload_n hx hb dL_law_683 rfl (lv_at hl 1 rfl) ?_
  refine lv_aload_n hx hb dL_law_684 rfl (lv_at hl 0 rfl) ?_
  refine lv_iload_n hx hb dL_law_685 rfl (lv_at hl 3 rfl) ?_
  refine lv_iconst (v := nI 1) hx hb dL_law_686 (by decide) ?_
  refine z_add (v := nI (4 * i + 1)) hx hb dL_law_687 (nI_add _ _) ?_
  refine z_sld hx hb hX hbl (Nat.not_le.mpr hbl) hS (i := 4 * i + 1) (by omega) hLs dL_law_688 ?_
  refine z_callVIE (As := [.int (xs (4 * i + 1))]) (rest := []) (wr := modW G ma mv my) (C := RX3) F hC (cwV 1 hts gL_law_X3_fault rfl rfl rfl (by decide +kernel) ⟨Nat.le_of_ble_eq_true rfl, Nat.le_of_ble_eq_true rfl⟩) hKK (z_recv hKK hP (q0 := 0) (ci := 3) rfl rfl) (z_perm List.perm_append_comm hP) (z_permD List.perm_append_comm hD) hS hA rfl hl.1 rfl (Nat.le_of_ble_eq_true rfl) ⟨Nat.le_of_ble_eq_true rfl, Nat.le_of_ble_eq_true rfl⟩ dL_law_689 (fun r1 cs H locs hq hP hD hS => ?_)
  obtain ⟨e1, hQ⟩ := hq
  subst e1
  refine lv_aload_n hx hb dL_law_692 rfl (lv_at hl 2 rfl) ?_
  refine lv_aload_n hx hb dL_law_693 rfl (lv_at hl 0 rfl) ?_
  refine lv_iload_n hx hb dL_law_694 rfl (lv_at hl 3 rfl) ?_
  refine lv_iconst (v := nI 1) hx hb dL_law_695 (by decide) ?_
  refine z_add (v := nI (4 * i + 1)) hx hb dL_law_696 (nI_add _ _) ?_
  refine z_sld hx hb hX hbl (Nat.not_le.mpr hbl) hS (i := 4 * i + 1) (by omega) hLs dL_law_697 ?_
  refine z_callVIE (As := [.int (xs (4 * i + 1))]) (rest := [.int r1]) (wr := clW G o pr q a b d cs) (C := RX4) F hM (cwV 1 hts gL_law_X4_fault rfl rfl rfl (by decide +kernel) ⟨Nat.le_of_ble_eq_true rfl, Nat.le_of_ble_eq_true rfl⟩) hKK (z_recv hKK hP (q0 := 0) (ci := 4) rfl rfl) (z_perm List.perm_append_comm hP) (z_permD List.perm_append_comm hD) hS hA rfl hl.1 rfl (Nat.le_of_ble_eq_true rfl) ⟨Nat.le_of_ble_eq_true rfl, Nat.le_of_ble_eq_true rfl⟩ dL_law_698 (fun r2 ms H locs hq hP hD hS => ?_)
  obtain ⟨e2, hR2⟩ := hq
  subst e2
  exact lv_icmp_eq (tgt := 719) hx hb dL_law_701 (by decide) (fun _ => kk cs ms H locs (hR2 cs hQ) hP hD hS) (fun h => absurd rfl h)

set_option maxHeartbeats 4000000 in
set_option maxRecDepth 100000 in
theorem lk_22 {p : Program} {e : Env} {s : State} {m : MethodId} {below : List Frame} {meth : Method} {c : Code} (l : Launch) (G : ZG) {bs Ls : Nat} {xs : Nat → Int32} (F : CallFix p m c cL_law 4 s #[Value.ref bs] wsL_law RL) (hKK : KK G s) (hX : va_X bs Ls xs s s.heap) (hbl : bs < s.heap.size) (hLs : Ls ≤ 2048) (o pr q : Nat) (a b d ma : Nat → Nat) (Z : State → Prop) (i B : Nat) (hi : 4 * i + 3 < Ls) (hB : B < 2 ^ 30) (pa : Nat → Nat → Nat) (S P L : Nat → Nat) (t v u : Mem) (pv : Nat → Mem) (mv : Mem) (my : Nat → Nat) (hrel : Rel B S L t v pv mv my) (H : Heap) (locs : List Loc) (ls : Array Slot) (hP : va_P G.1 vwCl (nrW G o pr q a b d pa S P L t v u pv ++ modW G ma mv my) H) (hD : va_D (fun q : Nat => s.heap.size ≤ q) (nrW G o pr q a b d pa S P L t v u pv ++ modW G ma mv my)) (hS : va_S (fun q : Nat => s.heap.size ≤ q) s.heap H locs) (hl : lv_has ls 4 [(0, .ref bs), (1, .ref o), (2, .ref (ma 0)), (3, .int (nI (4 * i)))]) (kk : ∀ (cs : CS) (ms : Mem × (Nat → Nat)) (H : Heap) (locs : List Loc), RelC (B + 61) cs ms → va_P G.1 vwCl (clW G o pr q a b d cs ++ modW G ma ms.1 ms.2) H → va_D (fun q : Nat => s.heap.size ≤ q) (clW G o pr q a b d cs ++ modW G ma ms.1 ms.2) → va_S (fun q : Nat => s.heap.size ≤ q) s.heap H locs → W p l e room_1 s m #[Value.ref bs] below meth c H locs 91 6960 Z (F0 m 719 ls [])) : W p l e room_1 s m #[Value.ref bs] below meth c H locs 91 6960 Z (F0 m 706 ls []) := by
  obtain ⟨hx, hb, hml, hown, hts⟩ := id F
  have hA : ∀ q : Nat, s.heap.size ≤ q → (fun q : Nat => s.heap.size ≤ q) q := fun _ h => h
  obtain ⟨R, Q, hC, hM⟩ := st_play l G o pr q a b d pa S P L t v u pv ma mv my B hrel hB
  refine lv_aload_n hx hb dL_law_706 rfl (lv_at hl 1 rfl) ?_
  refine z_callVIE (As := []) (rest := []) (wr := modW G ma mv my) (C := RX3) F hC (cwV 0 hts gL_law_X3_play rfl rfl rfl (by decide +kernel) ⟨Nat.le_of_ble_eq_true rfl, Nat.le_of_ble_eq_true rfl⟩) hKK (z_recv hKK hP (q0 := 0) (ci := 3) rfl rfl) (z_perm List.perm_append_comm hP) (z_permD List.perm_append_comm hD) hS hA rfl hl.1 rfl (Nat.le_of_ble_eq_true rfl) ⟨Nat.le_of_ble_eq_true rfl, Nat.le_of_ble_eq_true rfl⟩ dL_law_707 (fun r1 cs H locs hq hP hD hS => ?_)
  obtain ⟨e1, hQ⟩ := hq
  subst e1
  refine lv_aload_n hx hb dL_law_710 rfl (lv_at hl 2 rfl) ?_
  refine z_callVIE (As := []) (rest := [.int r1]) (wr := clW G o pr q a b d cs) (C := RX4) F hM (cwV 0 hts gL_law_X4_play rfl rfl rfl (by decide +kernel) ⟨Nat.le_of_ble_eq_true rfl, Nat.le_of_ble_eq_true rfl⟩) hKK (z_recv hKK hP (q0 := 0) (ci := 4) rfl rfl) (z_perm List.perm_append_comm hP) (z_permD List.perm_append_comm hD) hS hA rfl hl.1 rfl (Nat.le_of_ble_eq_true rfl) ⟨Nat.le_of_ble_eq_true rfl, Nat.le_of_ble_eq_true rfl⟩ dL_law_711 (fun r2 ms H locs hq hP hD hS => ?_)
  obtain ⟨e2, hR2⟩ := hq
  subst e2
  exact lv_icmp_eq (tgt := 719) hx hb dL_law_714 (by decide) (fun _ => kk cs ms H locs (hR2 cs hQ) hP hD hS) (fun h => absurd rfl h)
