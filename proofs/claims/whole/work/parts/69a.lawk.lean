theorem z_sld {p : Program} {l : Launch} {e : Env} {R : Room} {s : State} {m : MethodId} {args : Array Value} {below : List Frame} {meth : Method} {c : Code} {H : Heap} {locs : List Loc} {cells slots : Nat} {Q : State → Prop} {cc : ByteArray} {pc : Nat} {ls : Array Slot} {rest : List Value} {A : Nat → Prop} {H0 : Heap} (hx : p.tables.exec = Jvm.exec) (hb : c.code = cc) {bs Ls : Nat} {xs : Nat → Int32} (hX : va_X bs Ls xs s H0) (hbl : bs < H0.size) (hbA : ¬ A bs) (hS : va_S A H0 H locs) {i : Nat} (hi : i < Ls) (hLs : Ls ≤ 2048) (hdg : decode cc pc = .ok (.iaload, 1))
    (kk : W p l e R s m args below meth c H locs cells slots Q (F0 m (pc + 1) ls (.int (xs i) :: rest))) : W p l e R s m args below meth c H locs cells slots Q (F0 m pc ls (.int (nI i) :: .ref bs :: rest)) := by
  refine va_sld hx hb hX hbl hbA hS (vp_in_nI hi (by omega)) hdg ?_
  rw [nI_clamp (by omega)]
  exact kk

set_option maxHeartbeats 4000000 in
set_option maxRecDepth 100000 in
theorem lk_0 {p : Program} {e : Env} {s : State} {m : MethodId} {below : List Frame} {meth : Method} {c : Code} (l : Launch) (G : ZG) {bs Ls : Nat} {xs : Nat → Int32} (F : CallFix p m c cL_law 4 s #[Value.ref bs] wsL_law RL) (hKK : KK G s) (hX : va_X bs Ls xs s s.heap) (hbl : bs < s.heap.size) (hLs : Ls ≤ 2048) (o pr q : Nat) (a b d ma : Nat → Nat) (Z : State → Prop) (i B : Nat) (hi : 4 * i + 3 < Ls) (hB : B < 2 ^ 30) (pa : Nat → Nat → Nat) (S P L : Nat → Nat) (t v u : Mem) (pv : Nat → Mem) (mv : Mem) (my : Nat → Nat) (hrel : Rel B S L t v pv mv my) (H : Heap) (locs : List Loc) (ls : Array Slot) (hP : va_P G.1 vwCl (nrW G o pr q a b d pa S P L t v u pv ++ modW G ma mv my) H) (hD : va_D (fun q : Nat => s.heap.size ≤ q) (nrW G o pr q a b d pa S P L t v u pv ++ modW G ma mv my)) (hS : va_S (fun q : Nat => s.heap.size ≤ q) s.heap H locs) (hl : lv_has ls 4 [(0, .ref bs), (1, .ref o), (2, .ref (ma 0)), (3, .int (nI (4 * i)))]) (kk : ∀ (cs : CS) (ms : Mem × (Nat → Nat)) (H : Heap) (locs : List Loc), RelC (B + 61) cs ms → va_P G.1 vwCl (clW G o pr q a b d cs ++ modW G ma ms.1 ms.2) H → va_D (fun q : Nat => s.heap.size ≤ q) (clW G o pr q a b d cs ++ modW G ma ms.1 ms.2) → va_S (fun q : Nat => s.heap.size ≤ q) s.heap H locs → W p l e room_1 s m #[Value.ref bs] below meth c H locs 91 6960 Z (F0 m 719 ls [])) : W p l e room_1 s m #[Value.ref bs] below meth c H locs 91 6960 Z (F0 m 140 ls []) := by
  obtain ⟨hx, hb, hml, hown, hts⟩ := id F
  have hA : ∀ q : Nat, s.heap.size ≤ q → (fun q : Nat => s.heap.size ≤ q) q := fun _ h => h
  obtain ⟨R, Q, hC, hM⟩ := st_acquire l G o pr q a b d pa S P L t v u pv ma mv my B hrel hB (xs (4 * i + 1))
  refine lv_aload_n hx hb dL_law_140 rfl (lv_at hl 1 rfl) ?_
  refine lv_aload_n hx hb dL_law_141 rfl (lv_at hl 0 rfl) ?_
  refine lv_iload_n hx hb dL_law_142 rfl (lv_at hl 3 rfl) ?_
  refine lv_iconst (v := nI 1) hx hb dL_law_143 (by decide) ?_
  refine z_add (v := nI (4 * i + 1)) hx hb dL_law_144 (nI_add _ _) ?_
  refine z_sld hx hb hX hbl (Nat.not_le.mpr hbl) hS (i := 4 * i + 1) (by omega) hLs dL_law_145 ?_
  refine z_callVIE (As := [.int (xs (4 * i + 1))]) (rest := []) (wr := modW G ma mv my) (C := RX3) F hC (cwV 1 hts gL_law_X3_acquire rfl rfl rfl (by decide +kernel) ⟨Nat.le_of_ble_eq_true rfl, Nat.le_of_ble_eq_true rfl⟩) hKK (z_recv hKK hP (q0 := 0) (ci := 3) rfl rfl) (z_perm List.perm_append_comm hP) (z_permD List.perm_append_comm hD) hS hA rfl hl.1 rfl (Nat.le_of_ble_eq_true rfl) ⟨Nat.le_of_ble_eq_true rfl, Nat.le_of_ble_eq_true rfl⟩ dL_law_146 (fun r1 cs H locs hq hP hD hS => ?_)
  obtain ⟨e1, hQ⟩ := hq
  subst e1
  refine lv_aload_n hx hb dL_law_149 rfl (lv_at hl 2 rfl) ?_
  refine lv_aload_n hx hb dL_law_150 rfl (lv_at hl 0 rfl) ?_
  refine lv_iload_n hx hb dL_law_151 rfl (lv_at hl 3 rfl) ?_
  refine lv_iconst (v := nI 1) hx hb dL_law_152 (by decide) ?_
  refine z_add (v := nI (4 * i + 1)) hx hb dL_law_153 (nI_add _ _) ?_
  refine z_sld hx hb hX hbl (Nat.not_le.mpr hbl) hS (i := 4 * i + 1) (by omega) hLs dL_law_154 ?_
  refine z_callVIE (As := [.int (xs (4 * i + 1))]) (rest := [.int r1]) (wr := clW G o pr q a b d cs) (C := RX4) F hM (cwV 1 hts gL_law_X4_acquire rfl rfl rfl (by decide +kernel) ⟨Nat.le_of_ble_eq_true rfl, Nat.le_of_ble_eq_true rfl⟩) hKK (z_recv hKK hP (q0 := 0) (ci := 4) rfl rfl) (z_perm List.perm_append_comm hP) (z_permD List.perm_append_comm hD) hS hA rfl hl.1 rfl (Nat.le_of_ble_eq_true rfl) ⟨Nat.le_of_ble_eq_true rfl, Nat.le_of_ble_eq_true rfl⟩ dL_law_155 (fun r2 ms H locs hq hP hD hS => ?_)
  obtain ⟨e2, hR2⟩ := hq
  subst e2
  exact lv_icmp_eq (tgt := 719) hx hb dL_law_158 (by decide) (fun _ => kk cs ms H locs (hR2 cs hQ) hP hD hS) (fun h => absurd rfl h)

set_option maxHeartbeats 4000000 in
set_option maxRecDepth 100000 in
theorem lk_1 {p : Program} {e : Env} {s : State} {m : MethodId} {below : List Frame} {meth : Method} {c : Code} (l : Launch) (G : ZG) {bs Ls : Nat} {xs : Nat → Int32} (F : CallFix p m c cL_law 4 s #[Value.ref bs] wsL_law RL) (hKK : KK G s) (hX : va_X bs Ls xs s s.heap) (hbl : bs < s.heap.size) (hLs : Ls ≤ 2048) (o pr q : Nat) (a b d ma : Nat → Nat) (Z : State → Prop) (i B : Nat) (hi : 4 * i + 3 < Ls) (hB : B < 2 ^ 30) (pa : Nat → Nat → Nat) (S P L : Nat → Nat) (t v u : Mem) (pv : Nat → Mem) (mv : Mem) (my : Nat → Nat) (hrel : Rel B S L t v pv mv my) (H : Heap) (locs : List Loc) (ls : Array Slot) (hP : va_P G.1 vwCl (nrW G o pr q a b d pa S P L t v u pv ++ modW G ma mv my) H) (hD : va_D (fun q : Nat => s.heap.size ≤ q) (nrW G o pr q a b d pa S P L t v u pv ++ modW G ma mv my)) (hS : va_S (fun q : Nat => s.heap.size ≤ q) s.heap H locs) (hl : lv_has ls 4 [(0, .ref bs), (1, .ref o), (2, .ref (ma 0)), (3, .int (nI (4 * i)))]) (kk : ∀ (cs : CS) (ms : Mem × (Nat → Nat)) (H : Heap) (locs : List Loc), RelC (B + 61) cs ms → va_P G.1 vwCl (clW G o pr q a b d cs ++ modW G ma ms.1 ms.2) H → va_D (fun q : Nat => s.heap.size ≤ q) (clW G o pr q a b d cs ++ modW G ma ms.1 ms.2) → va_S (fun q : Nat => s.heap.size ≤ q) s.heap H locs → W p l e room_1 s m #[Value.ref bs] below meth c H locs 91 6960 Z (F0 m 719 ls [])) : W p l e room_1 s m #[Value.ref bs] below meth c H locs 91 6960 Z (F0 m 163 ls []) := by
  obtain ⟨hx, hb, hml, hown, hts⟩ := id F
  have hA : ∀ q : Nat, s.heap.size ≤ q → (fun q : Nat => s.heap.size ≤ q) q := fun _ h => h
  obtain ⟨R, Q, hC, hM⟩ := st_use l G o pr q a b d pa S P L t v u pv ma mv my B hrel hB (xs (4 * i + 1))
  refine lv_aload_n hx hb dL_law_163 rfl (lv_at hl 1 rfl) ?_
  refine lv_aload_n hx hb dL_law_164 rfl (lv_at hl 0 rfl) ?_
  refine lv_iload_n hx hb dL_law_165 rfl (lv_at hl 3 rfl) ?_
  refine lv_iconst (v := nI 1) hx hb dL_law_166 (by decide) ?_
  refine z_add (v := nI (4 * i + 1)) hx hb dL_law_167 (nI_add _ _) ?_
  refine z_sld hx hb hX hbl (Nat.not_le.mpr hbl) hS (i := 4 * i + 1) (by omega) hLs dL_law_168 ?_
  refine z_callVIE (As := [.int (xs (4 * i + 1))]) (rest := []) (wr := modW G ma mv my) (C := RX3) F hC (cwV 1 hts gL_law_X3_use rfl rfl rfl (by decide +kernel) ⟨Nat.le_of_ble_eq_true rfl, Nat.le_of_ble_eq_true rfl⟩) hKK (z_recv hKK hP (q0 := 0) (ci := 3) rfl rfl) (z_perm List.perm_append_comm hP) (z_permD List.perm_append_comm hD) hS hA rfl hl.1 rfl (Nat.le_of_ble_eq_true rfl) ⟨Nat.le_of_ble_eq_true rfl, Nat.le_of_ble_eq_true rfl⟩ dL_law_169 (fun r1 cs H locs hq hP hD hS => ?_)
  obtain ⟨e1, hQ⟩ := hq
  subst e1
  refine lv_aload_n hx hb dL_law_172 rfl (lv_at hl 2 rfl) ?_
  refine lv_aload_n hx hb dL_law_173 rfl (lv_at hl 0 rfl) ?_
  refine lv_iload_n hx hb dL_law_174 rfl (lv_at hl 3 rfl) ?_
  refine lv_iconst (v := nI 1) hx hb dL_law_175 (by decide) ?_
  refine z_add (v := nI (4 * i + 1)) hx hb dL_law_176 (nI_add _ _) ?_
  refine z_sld hx hb hX hbl (Nat.not_le.mpr hbl) hS (i := 4 * i + 1) (by omega) hLs dL_law_177 ?_
  refine z_callVIE (As := [.int (xs (4 * i + 1))]) (rest := [.int r1]) (wr := clW G o pr q a b d cs) (C := RX4) F hM (cwV 1 hts gL_law_X4_use rfl rfl rfl (by decide +kernel) ⟨Nat.le_of_ble_eq_true rfl, Nat.le_of_ble_eq_true rfl⟩) hKK (z_recv hKK hP (q0 := 0) (ci := 4) rfl rfl) (z_perm List.perm_append_comm hP) (z_permD List.perm_append_comm hD) hS hA rfl hl.1 rfl (Nat.le_of_ble_eq_true rfl) ⟨Nat.le_of_ble_eq_true rfl, Nat.le_of_ble_eq_true rfl⟩ dL_law_178 (fun r2 ms H locs hq hP hD hS => ?_)
  obtain ⟨e2, hR2⟩ := hq
  subst e2
  exact lv_icmp_eq (tgt := 719) hx hb dL_law_181 (by decide) (fun _ => kk cs ms H locs (hR2 cs hQ) hP hD hS) (fun h => absurd rfl h)

set_option maxHeartbeats 4000000 in
set_option maxRecDepth 100000 in
theorem lk_2 {p : Program} {e : Env} {s : State} {m : MethodId} {below : List Frame} {meth : Method} {c : Code} (l : Launch) (G : ZG) {bs Ls : Nat} {xs : Nat → Int32} (F : CallFix p m c cL_law 4 s #[Value.ref bs] wsL_law RL) (hKK : KK G s) (hX : va_X bs Ls xs s s.heap) (hbl : bs < s.heap.size) (hLs : Ls ≤ 2048) (o pr q : Nat) (a b d ma : Nat → Nat) (Z : State → Prop) (i B : Nat) (hi : 4 * i + 3 < Ls) (hB : B < 2 ^ 30) (pa : Nat → Nat → Nat) (S P L : Nat → Nat) (t v u : Mem) (pv : Nat → Mem) (mv : Mem) (my : Nat → Nat) (hrel : Rel B S L t v pv mv my) (H : Heap) (locs : List Loc) (ls : Array Slot) (hP : va_P G.1 vwCl (nrW G o pr q a b d pa S P L t v u pv ++ modW G ma mv my) H) (hD : va_D (fun q : Nat => s.heap.size ≤ q) (nrW G o pr q a b d pa S P L t v u pv ++ modW G ma mv my)) (hS : va_S (fun q : Nat => s.heap.size ≤ q) s.heap H locs) (hl : lv_has ls 4 [(0, .ref bs), (1, .ref o), (2, .ref (ma 0)), (3, .int (nI (4 * i)))]) (kk : ∀ (cs : CS) (ms : Mem × (Nat → Nat)) (H : Heap) (locs : List Loc), RelC (B + 61) cs ms → va_P G.1 vwCl (clW G o pr q a b d cs ++ modW G ma ms.1 ms.2) H → va_D (fun q : Nat => s.heap.size ≤ q) (clW G o pr q a b d cs ++ modW G ma ms.1 ms.2) → va_S (fun q : Nat => s.heap.size ≤ q) s.heap H locs → W p l e room_1 s m #[Value.ref bs] below meth c H locs 91 6960 Z (F0 m 719 ls [])) : W p l e room_1 s m #[Value.ref bs] below meth c H locs 91 6960 Z (F0 m 186 ls []) := by
  obtain ⟨hx, hb, hml, hown, hts⟩ := id F
  have hA : ∀ q : Nat, s.heap.size ≤ q → (fun q : Nat => s.heap.size ≤ q) q := fun _ h => h
  obtain ⟨R, Q, hC, hM⟩ := st_release l G o pr q a b d pa S P L t v u pv ma mv my B hrel hB (xs (4 * i + 1))
  refine lv_aload_n hx hb dL_law_186 rfl (lv_at hl 1 rfl) ?_
  refine lv_aload_n hx hb dL_law_187 rfl (lv_at hl 0 rfl) ?_
  refine lv_iload_n hx hb dL_law_188 rfl (lv_at hl 3 rfl) ?_
  refine lv_iconst (v := nI 1) hx hb dL_law_189 (by decide) ?_
  refine z_add (v := nI (4 * i + 1)) hx hb dL_law_190 (nI_add _ _) ?_
  refine z_sld hx hb hX hbl (Nat.not_le.mpr hbl) hS (i := 4 * i + 1) (by omega) hLs dL_law_191 ?_
  refine z_callVIE (As := [.int (xs (4 * i + 1))]) (rest := []) (wr := modW G ma mv my) (C := RX3) F hC (cwV 1 hts gL_law_X3_release rfl rfl rfl (by decide +kernel) ⟨Nat.le_of_ble_eq_true rfl, Nat.le_of_ble_eq_true rfl⟩) hKK (z_recv hKK hP (q0 := 0) (ci := 3) rfl rfl) (z_perm List.perm_append_comm hP) (z_permD List.perm_append_comm hD) hS hA rfl hl.1 rfl (Nat.le_of_ble_eq_true rfl) ⟨Nat.le_of_ble_eq_true rfl, Nat.le_of_ble_eq_true rfl⟩ dL_law_192 (fun r1 cs H locs hq hP hD hS => ?_)
  obtain ⟨e1, hQ⟩ := hq
  subst e1
  refine lv_aload_n hx hb dL_law_195 rfl (lv_at hl 2 rfl) ?_
  refine lv_aload_n hx hb dL_law_196 rfl (lv_at hl 0 rfl) ?_
  refine lv_iload_n hx hb dL_law_197 rfl (lv_at hl 3 rfl) ?_
  refine lv_iconst (v := nI 1) hx hb dL_law_198 (by decide) ?_
  refine z_add (v := nI (4 * i + 1)) hx hb dL_law_199 (nI_add _ _) ?_
  refine z_sld hx hb hX hbl (Nat.not_le.mpr hbl) hS (i := 4 * i + 1) (by omega) hLs dL_law_200 ?_
  refine z_callVIE (As := [.int (xs (4 * i + 1))]) (rest := [.int r1]) (wr := clW G o pr q a b d cs) (C := RX4) F hM (cwV 1 hts gL_law_X4_release rfl rfl rfl (by decide +kernel) ⟨Nat.le_of_ble_eq_true rfl, Nat.le_of_ble_eq_true rfl⟩) hKK (z_recv hKK hP (q0 := 0) (ci := 4) rfl rfl) (z_perm List.perm_append_comm hP) (z_permD List.perm_append_comm hD) hS hA rfl hl.1 rfl (Nat.le_of_ble_eq_true rfl) ⟨Nat.le_of_ble_eq_true rfl, Nat.le_of_ble_eq_true rfl⟩ dL_law_201 (fun r2 ms H locs hq hP hD hS => ?_)
  obtain ⟨e2, hR2⟩ := hq
  subst e2
  exact lv_icmp_eq (tgt := 719) hx hb dL_law_204 (by decide) (fun _ => kk cs ms H locs (hR2 cs hQ) hP hD hS) (fun h => absurd rfl h)

set_option maxHeartbeats 4000000 in
set_option maxRecDepth 100000 in
theorem lk_3 {p : Program} {e : Env} {s : State} {m : MethodId} {below : List Frame} {meth : Method} {c : Code} (l : Launch) (G : ZG) {bs Ls : Nat} {xs : Nat → Int32} (F : CallFix p m c cL_law 4 s #[Value.ref bs] wsL_law RL) (hKK : KK G s) (hX : va_X bs Ls xs s s.heap) (hbl : bs < s.heap.size) (hLs : Ls ≤ 2048) (o pr q : Nat) (a b d ma : Nat → Nat) (Z : State → Prop) (i B : Nat) (hi : 4 * i + 3 < Ls) (hB : B < 2 ^ 30) (pa : Nat → Nat → Nat) (S P L : Nat → Nat) (t v u : Mem) (pv : Nat → Mem) (mv : Mem) (my : Nat → Nat) (hrel : Rel B S L t v pv mv my) (H : Heap) (locs : List Loc) (ls : Array Slot) (hP : va_P G.1 vwCl (nrW G o pr q a b d pa S P L t v u pv ++ modW G ma mv my) H) (hD : va_D (fun q : Nat => s.heap.size ≤ q) (nrW G o pr q a b d pa S P L t v u pv ++ modW G ma mv my)) (hS : va_S (fun q : Nat => s.heap.size ≤ q) s.heap H locs) (hl : lv_has ls 4 [(0, .ref bs), (1, .ref o), (2, .ref (ma 0)), (3, .int (nI (4 * i)))]) (kk : ∀ (cs : CS) (ms : Mem × (Nat → Nat)) (H : Heap) (locs : List Loc), RelC (B + 61) cs ms → va_P G.1 vwCl (clW G o pr q a b d cs ++ modW G ma ms.1 ms.2) H → va_D (fun q : Nat => s.heap.size ≤ q) (clW G o pr q a b d cs ++ modW G ma ms.1 ms.2) → va_S (fun q : Nat => s.heap.size ≤ q) s.heap H locs → W p l e room_1 s m #[Value.ref bs] below meth c H locs 91 6960 Z (F0 m 719 ls [])) : W p l e room_1 s m #[Value.ref bs] below meth c H locs 91 6960 Z (F0 m 209 ls []) := by
  obtain ⟨hx, hb, hml, hown, hts⟩ := id F
  have hA : ∀ q : Nat, s.heap.size ≤ q → (fun q : Nat => s.heap.size ≤ q) q := fun _ h => h
  obtain ⟨R, Q, hC, hM⟩ := st_follow l G o pr q a b d pa S P L t v u pv ma mv my B hrel hB (xs (4 * i + 1))
  refine lv_aload_n hx hb dL_law_209 rfl (lv_at hl 1 rfl) ?_
  refine lv_aload_n hx hb dL_law_210 rfl (lv_at hl 0 rfl) ?_
  refine lv_iload_n hx hb dL_law_211 rfl (lv_at hl 3 rfl) ?_
  refine lv_iconst (v := nI 1) hx hb dL_law_212 (by decide) ?_
  refine z_add (v := nI (4 * i + 1)) hx hb dL_law_213 (nI_add _ _) ?_
  refine z_sld hx hb hX hbl (Nat.not_le.mpr hbl) hS (i := 4 * i + 1) (by omega) hLs dL_law_214 ?_
  refine z_callVIE (As := [.int (xs (4 * i + 1))]) (rest := []) (wr := modW G ma mv my) (C := RX3) F hC (cwV 1 hts gL_law_X3_follow rfl rfl rfl (by decide +kernel) ⟨Nat.le_of_ble_eq_true rfl, Nat.le_of_ble_eq_true rfl⟩) hKK (z_recv hKK hP (q0 := 0) (ci := 3) rfl rfl) (z_perm List.perm_append_comm hP) (z_permD List.perm_append_comm hD) hS hA rfl hl.1 rfl (Nat.le_of_ble_eq_true rfl) ⟨Nat.le_of_ble_eq_true rfl, Nat.le_of_ble_eq_true rfl⟩ dL_law_215 (fun r1 cs H locs hq hP hD hS => ?_)
  obtain ⟨e1, hQ⟩ := hq
  subst e1
  refine lv_aload_n hx hb dL_law_218 rfl (lv_at hl 2 rfl) ?_
  refine lv_aload_n hx hb dL_law_219 rfl (lv_at hl 0 rfl) ?_
  refine lv_iload_n hx hb dL_law_220 rfl (lv_at hl 3 rfl) ?_
  refine lv_iconst (v := nI 1) hx hb dL_law_221 (by decide) ?_
  refine z_add (v := nI (4 * i + 1)) hx hb dL_law_222 (nI_add _ _) ?_
  refine z_sld hx hb hX hbl (Nat.not_le.mpr hbl) hS (i := 4 * i + 1) (by omega) hLs dL_law_223 ?_
  refine z_callVIE (As := [.int (xs (4 * i + 1))]) (rest := [.int r1]) (wr := clW G o pr q a b d cs) (C := RX4) F hM (cwV 1 hts gL_law_X4_follow rfl rfl rfl (by decide +kernel) ⟨Nat.le_of_ble_eq_true rfl, Nat.le_of_ble_eq_true rfl⟩) hKK (z_recv hKK hP (q0 := 0) (ci := 4) rfl rfl) (z_perm List.perm_append_comm hP) (z_permD List.perm_append_comm hD) hS hA rfl hl.1 rfl (Nat.le_of_ble_eq_true rfl) ⟨Nat.le_of_ble_eq_true rfl, Nat.le_of_ble_eq_true rfl⟩ dL_law_224 (fun r2 ms H locs hq hP hD hS => ?_)
  obtain ⟨e2, hR2⟩ := hq
  subst e2
  exact lv_icmp_eq (tgt := 719) hx hb dL_law_227 (by decide) (fun _ => kk cs ms H locs (hR2 cs hQ) hP hD hS) (fun h => absurd rfl h)

set_option maxHeartbeats 4000000 in
set_option maxRecDepth 100000 in
theorem lk_4 {p : Program} {e : Env} {s : State} {m : MethodId} {below : List Frame} {meth : Method} {c : Code} (l : Launch) (G : ZG) {bs Ls : Nat} {xs : Nat → Int32} (F : CallFix p m c cL_law 4 s #[Value.ref bs] wsL_law RL) (hKK : KK G s) (hX : va_X bs Ls xs s s.heap) (hbl : bs < s.heap.size) (hLs : Ls ≤ 2048) (o pr q : Nat) (a b d ma : Nat → Nat) (Z : State → Prop) (i B : Nat) (hi : 4 * i + 3 < Ls) (hB : B < 2 ^ 30) (pa : Nat → Nat → Nat) (S P L : Nat → Nat) (t v u : Mem) (pv : Nat → Mem) (mv : Mem) (my : Nat → Nat) (hrel : Rel B S L t v pv mv my) (H : Heap) (locs : List Loc) (ls : Array Slot) (hP : va_P G.1 vwCl (nrW G o pr q a b d pa S P L t v u pv ++ modW G ma mv my) H) (hD : va_D (fun q : Nat => s.heap.size ≤ q) (nrW G o pr q a b d pa S P L t v u pv ++ modW G ma mv my)) (hS : va_S (fun q : Nat => s.heap.size ≤ q) s.heap H locs) (hl : lv_has ls 4 [(0, .ref bs), (1, .ref o), (2, .ref (ma 0)), (3, .int (nI (4 * i)))]) (kk : ∀ (cs : CS) (ms : Mem × (Nat → Nat)) (H : Heap) (locs : List Loc), RelC (B + 61) cs ms → va_P G.1 vwCl (clW G o pr q a b d cs ++ modW G ma ms.1 ms.2) H → va_D (fun q : Nat => s.heap.size ≤ q) (clW G o pr q a b d cs ++ modW G ma ms.1 ms.2) → va_S (fun q : Nat => s.heap.size ≤ q) s.heap H locs → W p l e room_1 s m #[Value.ref bs] below meth c H locs 91 6960 Z (F0 m 719 ls [])) : W p l e room_1 s m #[Value.ref bs] below meth c H locs 91 6960 Z (F0 m 232 ls []) := by
  obtain ⟨hx, hb, hml, hown, hts⟩ := id F
  have hA : ∀ q : Nat, s.heap.size ≤ q → (fun q : Nat => s.heap.size ≤ q) q := fun _ h => h
  obtain ⟨R, Q, hC, hM⟩ := st_nameOf l G o pr q a b d pa S P L t v u pv ma mv my B hrel hB (xs (4 * i + 1))
  refine lv_aload_n hx hb dL_law_232 rfl (lv_at hl 1 rfl) ?_
  refine lv_aload_n hx hb dL_law_233 rfl (lv_at hl 0 rfl) ?_
  refine lv_iload_n hx hb dL_law_234 rfl (lv_at hl 3 rfl) ?_
  refine lv_iconst (v := nI 1) hx hb dL_law_235 (by decide) ?_
  refine z_add (v := nI (4 * i + 1)) hx hb dL_law_236 (nI_add _ _) ?_
  refine z_sld hx hb hX hbl (Nat.not_le.mpr hbl) hS (i := 4 * i + 1) (by omega) hLs dL_law_237 ?_
  refine z_callVIE (As := [.int (xs (4 * i + 1))]) (rest := []) (wr := modW G ma mv my) (C := RX3) F hC (cwV 1 hts gL_law_X3_nameOf rfl rfl rfl (by decide +kernel) ⟨Nat.le_of_ble_eq_true rfl, Nat.le_of_ble_eq_true rfl⟩) hKK (z_recv hKK hP (q0 := 0) (ci := 3) rfl rfl) (z_perm List.perm_append_comm hP) (z_permD List.perm_append_comm hD) hS hA rfl hl.1 rfl (Nat.le_of_ble_eq_true rfl) ⟨Nat.le_of_ble_eq_true rfl, Nat.le_of_ble_eq_true rfl⟩ dL_law_238 (fun r1 cs H locs hq hP hD hS => ?_)
  obtain ⟨e1, hQ⟩ := hq
  subst e1
  refine lv_aload_n hx hb dL_law_241 rfl (lv_at hl 2 rfl) ?_
  refine lv_aload_n hx hb dL_law_242 rfl (lv_at hl 0 rfl) ?_
  refine lv_iload_n hx hb dL_law_243 rfl (lv_at hl 3 rfl) ?_
  refine lv_iconst (v := nI 1) hx hb dL_law_244 (by decide) ?_
  refine z_add (v := nI (4 * i + 1)) hx hb dL_law_245 (nI_add _ _) ?_
  refine z_sld hx hb hX hbl (Nat.not_le.mpr hbl) hS (i := 4 * i + 1) (by omega) hLs dL_law_246 ?_
  refine z_callVIE (As := [.int (xs (4 * i + 1))]) (rest := [.int r1]) (wr := clW G o pr q a b d cs) (C := RX4) F hM (cwV 1 hts gL_law_X4_nameOf rfl rfl rfl (by decide +kernel) ⟨Nat.le_of_ble_eq_true rfl, Nat.le_of_ble_eq_true rfl⟩) hKK (z_recv hKK hP (q0 := 0) (ci := 4) rfl rfl) (z_perm List.perm_append_comm hP) (z_permD List.perm_append_comm hD) hS hA rfl hl.1 rfl (Nat.le_of_ble_eq_true rfl) ⟨Nat.le_of_ble_eq_true rfl, Nat.le_of_ble_eq_true rfl⟩ dL_law_247 (fun r2 ms H locs hq hP hD hS => ?_)
  obtain ⟨e2, hR2⟩ := hq
  subst e2
  exact lv_icmp_eq (tgt := 719) hx hb dL_law_250 (by decide) (fun _ => kk cs ms H locs (hR2 cs hQ) hP hD hS) (fun h => absurd rfl h)

set_option maxHeartbeats 4000000 in
set_option maxRecDepth 100000 in
theorem lk_5 {p : Program} {e : Env} {s : State} {m : MethodId} {below : List Frame} {meth : Method} {c : Code} (l : Launch) (G : ZG) {bs Ls : Nat} {xs : Nat → Int32} (F : CallFix p m c cL_law 4 s #[Value.ref bs] wsL_law RL) (hKK : KK G s) (hX : va_X bs Ls xs s s.heap) (hbl : bs < s.heap.size) (hLs : Ls ≤ 2048) (o pr q : Nat) (a b d ma : Nat → Nat) (Z : State → Prop) (i B : Nat) (hi : 4 * i + 3 < Ls) (hB : B < 2 ^ 30) (pa : Nat → Nat → Nat) (S P L : Nat → Nat) (t v u : Mem) (pv : Nat → Mem) (mv : Mem) (my : Nat → Nat) (hrel : Rel B S L t v pv mv my) (H : Heap) (locs : List Loc) (ls : Array Slot) (hP : va_P G.1 vwCl (nrW G o pr q a b d pa S P L t v u pv ++ modW G ma mv my) H) (hD : va_D (fun q : Nat => s.heap.size ≤ q) (nrW G o pr q a b d pa S P L t v u pv ++ modW G ma mv my)) (hS : va_S (fun q : Nat => s.heap.size ≤ q) s.heap H locs) (hl : lv_has ls 4 [(0, .ref bs), (1, .ref o), (2, .ref (ma 0)), (3, .int (nI (4 * i)))]) (kk : ∀ (cs : CS) (ms : Mem × (Nat → Nat)) (H : Heap) (locs : List Loc), RelC (B + 61) cs ms → va_P G.1 vwCl (clW G o pr q a b d cs ++ modW G ma ms.1 ms.2) H → va_D (fun q : Nat => s.heap.size ≤ q) (clW G o pr q a b d cs ++ modW G ma ms.1 ms.2) → va_S (fun q : Nat => s.heap.size ≤ q) s.heap H locs → W p l e room_1 s m #[Value.ref bs] below meth c H locs 91 6960 Z (F0 m 719 ls [])) : W p l e room_1 s m #[Value.ref bs] below meth c H locs 91 6960 Z (F0 m 255 ls []) := by
  obtain ⟨hx, hb, hml, hown, hts⟩ := id F
  have hA : ∀ q : Nat, s.heap.size ≤ q → (fun q : Nat => s.heap.size ≤ q) q := fun _ h => h
  obtain ⟨R, Q, hC, hM⟩ := st_why l G o pr q a b d pa S P L t v u pv ma mv my B hrel hB (xs (4 * i + 1))
  refine lv_aload_n hx hb dL_law_255 rfl (lv_at hl 1 rfl) ?_
  refine lv_aload_n hx hb dL_law_256 rfl (lv_at hl 0 rfl) ?_
  refine lv_iload_n hx hb dL_law_257 rfl (lv_at hl 3 rfl) ?_
  refine lv_iconst (v := nI 1) hx hb dL_law_258 (by decide) ?_
  refine z_add (v := nI (4 * i + 1)) hx hb dL_law_259 (nI_add _ _) ?_
  refine z_sld hx hb hX hbl (Nat.not_le.mpr hbl) hS (i := 4 * i + 1) (by omega) hLs dL_law_260 ?_
  refine z_callVIE (As := [.int (xs (4 * i + 1))]) (rest := []) (wr := modW G ma mv my) (C := RX3) F hC (cwV 1 hts gL_law_X3_why rfl rfl rfl (by decide +kernel) ⟨Nat.le_of_ble_eq_true rfl, Nat.le_of_ble_eq_true rfl⟩) hKK (z_recv hKK hP (q0 := 0) (ci := 3) rfl rfl) (z_perm List.perm_append_comm hP) (z_permD List.perm_append_comm hD) hS hA rfl hl.1 rfl (Nat.le_of_ble_eq_true rfl) ⟨Nat.le_of_ble_eq_true rfl, Nat.le_of_ble_eq_true rfl⟩ dL_law_261 (fun r1 cs H locs hq hP hD hS => ?_)
  obtain ⟨e1, hQ⟩ := hq
  subst e1
  refine lv_aload_n hx hb dL_law_264 rfl (lv_at hl 2 rfl) ?_
  refine lv_aload_n hx hb dL_law_265 rfl (lv_at hl 0 rfl) ?_
  refine lv_iload_n hx hb dL_law_266 rfl (lv_at hl 3 rfl) ?_
  refine lv_iconst (v := nI 1) hx hb dL_law_267 (by decide) ?_
  refine z_add (v := nI (4 * i + 1)) hx hb dL_law_268 (nI_add _ _) ?_
  refine z_sld hx hb hX hbl (Nat.not_le.mpr hbl) hS (i := 4 * i + 1) (by omega) hLs dL_law_269 ?_
  refine z_callVIE (As := [.int (xs (4 * i + 1))]) (rest := [.int r1]) (wr := clW G o pr q a b d cs) (C := RX4) F hM (cwV 1 hts gL_law_X4_why rfl rfl rfl (by decide +kernel) ⟨Nat.le_of_ble_eq_true rfl, Nat.le_of_ble_eq_true rfl⟩) hKK (z_recv hKK hP (q0 := 0) (ci := 4) rfl rfl) (z_perm List.perm_append_comm hP) (z_permD List.perm_append_comm hD) hS hA rfl hl.1 rfl (Nat.le_of_ble_eq_true rfl) ⟨Nat.le_of_ble_eq_true rfl, Nat.le_of_ble_eq_true rfl⟩ dL_law_270 (fun r2 ms H locs hq hP hD hS => ?_)
  obtain ⟨e2, hR2⟩ := hq
  subst e2
  exact lv_icmp_eq (tgt := 719) hx hb dL_law_273 (by decide) (fun _ => kk cs ms H locs (hR2 cs hQ) hP hD hS) (fun h => absurd rfl h)

set_option maxHeartbeats 4000000 in
set_option maxRecDepth 100000 in
theorem lk_6 {p : Program} {e : Env} {s : State} {m : MethodId} {below : List Frame} {meth : Method} {c : Code} (l : Launch) (G : ZG) {bs Ls : Nat} {xs : Nat → Int32} (F : CallFix p m c cL_law 4 s #[Value.ref bs] wsL_law RL) (hKK : KK G s) (hX : va_X bs Ls xs s s.heap) (hbl : bs < s.heap.size) (hLs : Ls ≤ 2048) (o pr q : Nat) (a b d ma : Nat → Nat) (Z : State → Prop) (i B : Nat) (hi : 4 * i + 3 < Ls) (hB : B < 2 ^ 30) (pa : Nat → Nat → Nat) (S P L : Nat → Nat) (t v u : Mem) (pv : Nat → Mem) (mv : Mem) (my : Nat → Nat) (hrel : Rel B S L t v pv mv my) (H : Heap) (locs : List Loc) (ls : Array Slot) (hP : va_P G.1 vwCl (nrW G o pr q a b d pa S P L t v u pv ++ modW G ma mv my) H) (hD : va_D (fun q : Nat => s.heap.size ≤ q) (nrW G o pr q a b d pa S P L t v u pv ++ modW G ma mv my)) (hS : va_S (fun q : Nat => s.heap.size ≤ q) s.heap H locs) (hl : lv_has ls 4 [(0, .ref bs), (1, .ref o), (2, .ref (ma 0)), (3, .int (nI (4 * i)))]) (kk : ∀ (cs : CS) (ms : Mem × (Nat → Nat)) (H : Heap) (locs : List Loc), RelC (B + 61) cs ms → va_P G.1 vwCl (clW G o pr q a b d cs ++ modW G ma ms.1 ms.2) H → va_D (fun q : Nat => s.heap.size ≤ q) (clW G o pr q a b d cs ++ modW G ma ms.1 ms.2) → va_S (fun q : Nat => s.heap.size ≤ q) s.heap H locs → W p l e room_1 s m #[Value.ref bs] below meth c H locs 91 6960 Z (F0 m 719 ls [])) : W p l e room_1 s m #[Value.ref bs] below meth c H locs 91 6960 Z (F0 m 278 ls []) := by
  obtain ⟨hx, hb, hml, hown, hts⟩ := id F
  have hA : ∀ q : Nat, s.heap.size ≤ q → (fun q : Nat => s.heap.size ≤ q) q := fun _ h => h
  obtain ⟨R, Q, hC, hM⟩ := st_put l G o pr q a b d pa S P L t v u pv ma mv my B hrel hB (xs (4 * i + 1)) (xs (4 * i + 2)) (xs (4 * i + 3))
  refine lv_aload_n hx hb dL_law_278 rfl (lv_at hl 1 rfl) ?_
  refine lv_aload_n hx hb dL_law_279 rfl (lv_at hl 0 rfl) ?_
  refine lv_iload_n hx hb dL_law_280 rfl (lv_at hl 3 rfl) ?_
  refine lv_iconst (v := nI 1) hx hb dL_law_281 (by decide) ?_
  refine z_add (v := nI (4 * i + 1)) hx hb dL_law_282 (nI_add _ _) ?_
  refine z_sld hx hb hX hbl (Nat.not_le.mpr hbl) hS (i := 4 * i + 1) (by omega) hLs dL_law_283 ?_
  refine lv_aload_n hx hb dL_law_284 rfl (lv_at hl 0 rfl) ?_
  refine lv_iload_n hx hb dL_law_285 rfl (lv_at hl 3 rfl) ?_
  refine lv_iconst (v := nI 2) hx hb dL_law_286 (by decide) ?_
  refine z_add (v := nI (4 * i + 2)) hx hb dL_law_287 (nI_add _ _) ?_
  refine z_sld hx hb hX hbl (Nat.not_le.mpr hbl) hS (i := 4 * i + 2) (by omega) hLs dL_law_288 ?_
  refine lv_aload_n hx hb dL_law_289 rfl (lv_at hl 0 rfl) ?_
  refine lv_iload_n hx hb dL_law_290 rfl (lv_at hl 3 rfl) ?_
  refine lv_iconst (v := nI 3) hx hb dL_law_291 (by decide) ?_
  refine z_add (v := nI (4 * i + 3)) hx hb dL_law_292 (nI_add _ _) ?_
  refine z_sld hx hb hX hbl (Nat.not_le.mpr hbl) hS (i := 4 * i + 3) (by omega) hLs dL_law_293 ?_
  refine z_callVIE (As := [.int (xs (4 * i + 1)), .int (xs (4 * i + 2)), .int (xs (4 * i + 3))]) (rest := []) (wr := modW G ma mv my) (C := RX3) F hC (cwV 3 hts gL_law_X3_put rfl rfl rfl (by decide +kernel) ⟨Nat.le_of_ble_eq_true rfl, Nat.le_of_ble_eq_true rfl⟩) hKK (z_recv hKK hP (q0 := 0) (ci := 3) rfl rfl) (z_perm List.perm_append_comm hP) (z_permD List.perm_append_comm hD) hS hA rfl hl.1 rfl (Nat.le_of_ble_eq_true rfl) ⟨Nat.le_of_ble_eq_true rfl, Nat.le_of_ble_eq_true rfl⟩ dL_law_294 (fun r1 cs H locs hq hP hD hS => ?_)
  obtain ⟨e1, hQ⟩ := hq
  subst e1
  refine lv_aload_n hx hb dL_law_297 rfl (lv_at hl 2 rfl) ?_
  refine lv_aload_n hx hb dL_law_298 rfl (lv_at hl 0 rfl) ?_
  refine lv_iload_n hx hb dL_law_299 rfl (lv_at hl 3 rfl) ?_
  refine lv_iconst (v := nI 1) hx hb dL_law_300 (by decide) ?_
  refine z_add (v := nI (4 * i + 1)) hx hb dL_law_301 (nI_add _ _) ?_
  refine z_sld hx hb hX hbl (Nat.not_le.mpr hbl) hS (i := 4 * i + 1) (by omega) hLs dL_law_302 ?_
  refine lv_aload_n hx hb dL_law_303 rfl (lv_at hl 0 rfl) ?_
  refine lv_iload_n hx hb dL_law_304 rfl (lv_at hl 3 rfl) ?_
  refine lv_iconst (v := nI 2) hx hb dL_law_305 (by decide) ?_
  refine z_add (v := nI (4 * i + 2)) hx hb dL_law_306 (nI_add _ _) ?_
  refine z_sld hx hb hX hbl (Nat.not_le.mpr hbl) hS (i := 4 * i + 2) (by omega) hLs dL_law_307 ?_
  refine lv_aload_n hx hb dL_law_308 rfl (lv_at hl 0 rfl) ?_
  refine lv_iload_n hx hb dL_law_309 rfl (lv_at hl 3 rfl) ?_
  refine lv_iconst (v := nI 3) hx hb dL_law_310 (by decide) ?_
  refine z_add (v := nI (4 * i + 3)) hx hb dL_law_311 (nI_add _ _) ?_
  refine z_sld hx hb hX hbl (Nat.not_le.mpr hbl) hS (i := 4 * i + 3) (by omega) hLs dL_law_312 ?_
  refine z_callVIE (As := [.int (xs (4 * i + 1)), .int (xs (4 * i + 2)), .int (xs (4 * i + 3))]) (rest := [.int r1]) (wr := clW G o pr q a b d cs) (C := RX4) F hM (cwV 3 hts gL_law_X4_put rfl rfl rfl (by decide +kernel) ⟨Nat.le_of_ble_eq_true rfl, Nat.le_of_ble_eq_true rfl⟩) hKK (z_recv hKK hP (q0 := 0) (ci := 4) rfl rfl) (z_perm List.perm_append_comm hP) (z_permD List.perm_append_comm hD) hS hA rfl hl.1 rfl (Nat.le_of_ble_eq_true rfl) ⟨Nat.le_of_ble_eq_true rfl, Nat.le_of_ble_eq_true rfl⟩ dL_law_313 (fun r2 ms H locs hq hP hD hS => ?_)
  obtain ⟨e2, hR2⟩ := hq
  subst e2
  exact lv_icmp_eq (tgt := 719) hx hb dL_law_316 (by decide) (fun _ => kk cs ms H locs (hR2 cs hQ) hP hD hS) (fun h => absurd rfl h)

set_option maxHeartbeats 4000000 in
set_option maxRecDepth 100000 in
theorem lk_7 {p : Program} {e : Env} {s : State} {m : MethodId} {below : List Frame} {meth : Method} {c : Code} (l : Launch) (G : ZG) {bs Ls : Nat} {xs : Nat → Int32} (F : CallFix p m c cL_law 4 s #[Value.ref bs] wsL_law RL) (hKK : KK G s) (hX : va_X bs Ls xs s s.heap) (hbl : bs < s.heap.size) (hLs : Ls ≤ 2048) (o pr q : Nat) (a b d ma : Nat → Nat) (Z : State → Prop) (i B : Nat) (hi : 4 * i + 3 < Ls) (hB : B < 2 ^ 30) (pa : Nat → Nat → Nat) (S P L : Nat → Nat) (t v u : Mem) (pv : Nat → Mem) (mv : Mem) (my : Nat → Nat) (hrel : Rel B S L t v pv mv my) (H : Heap) (locs : List Loc) (ls : Array Slot) (hP : va_P G.1 vwCl (nrW G o pr q a b d pa S P L t v u pv ++ modW G ma mv my) H) (hD : va_D (fun q : Nat => s.heap.size ≤ q) (nrW G o pr q a b d pa S P L t v u pv ++ modW G ma mv my)) (hS : va_S (fun q : Nat => s.heap.size ≤ q) s.heap H locs) (hl : lv_has ls 4 [(0, .ref bs), (1, .ref o), (2, .ref (ma 0)), (3, .int (nI (4 * i)))]) (kk : ∀ (cs : CS) (ms : Mem × (Nat → Nat)) (H : Heap) (locs : List Loc), RelC (B + 61) cs ms → va_P G.1 vwCl (clW G o pr q a b d cs ++ modW G ma ms.1 ms.2) H → va_D (fun q : Nat => s.heap.size ≤ q) (clW G o pr q a b d cs ++ modW G ma ms.1 ms.2) → va_S (fun q : Nat => s.heap.size ≤ q) s.heap H locs → W p l e room_1 s m #[Value.ref bs] below meth c H locs 91 6960 Z (F0 m 719 ls [])) : W p l e room_1 s m #[Value.ref bs] below meth c H locs 91 6960 Z (F0 m 321 ls []) := by
  obtain ⟨hx, hb, hml, hown, hts⟩ := id F
  have hA : ∀ q : Nat, s.heap.size ≤ q → (fun q : Nat => s.heap.size ≤ q) q := fun _ h => h
  obtain ⟨R, Q, hC, hM⟩ := st_clear l G o pr q a b d pa S P L t v u pv ma mv my B hrel hB (xs (4 * i + 1)) (xs (4 * i + 2))
  refine lv_aload_n hx hb dL_law_321 rfl (lv_at hl 1 rfl) ?_
  refine lv_aload_n hx hb dL_law_322 rfl (lv_at hl 0 rfl) ?_
  refine lv_iload_n hx hb dL_law_323 rfl (lv_at hl 3 rfl) ?_
  refine lv_iconst (v := nI 1) hx hb dL_law_324 (by decide) ?_
  refine z_add (v := nI (4 * i + 1)) hx hb dL_law_325 (nI_add _ _) ?_
  refine z_sld hx hb hX hbl (Nat.not_le.mpr hbl) hS (i := 4 * i + 1) (by omega) hLs dL_law_326 ?_
  refine lv_aload_n hx hb dL_law_327 rfl (lv_at hl 0 rfl) ?_
  refine lv_iload_n hx hb dL_law_328 rfl (lv_at hl 3 rfl) ?_
  refine lv_iconst (v := nI 2) hx hb dL_law_329 (by decide) ?_
  refine z_add (v := nI (4 * i + 2)) hx hb dL_law_330 (nI_add _ _) ?_
  refine z_sld hx hb hX hbl (Nat.not_le.mpr hbl) hS (i := 4 * i + 2) (by omega) hLs dL_law_331 ?_
  refine z_callVIE (As := [.int (xs (4 * i + 1)), .int (xs (4 * i + 2))]) (rest := []) (wr := modW G ma mv my) (C := RX3) F hC (cwV 2 hts gL_law_X3_clear rfl rfl rfl (by decide +kernel) ⟨Nat.le_of_ble_eq_true rfl, Nat.le_of_ble_eq_true rfl⟩) hKK (z_recv hKK hP (q0 := 0) (ci := 3) rfl rfl) (z_perm List.perm_append_comm hP) (z_permD List.perm_append_comm hD) hS hA rfl hl.1 rfl (Nat.le_of_ble_eq_true rfl) ⟨Nat.le_of_ble_eq_true rfl, Nat.le_of_ble_eq_true rfl⟩ dL_law_332 (fun r1 cs H locs hq hP hD hS => ?_)
  obtain ⟨e1, hQ⟩ := hq
  subst e1
  refine lv_aload_n hx hb dL_law_335 rfl (lv_at hl 2 rfl) ?_
  refine lv_aload_n hx hb dL_law_336 rfl (lv_at hl 0 rfl) ?_
  refine lv_iload_n hx hb dL_law_337 rfl (lv_at hl 3 rfl) ?_
  refine lv_iconst (v := nI 1) hx hb dL_law_338 (by decide) ?_
  refine z_add (v := nI (4 * i + 1)) hx hb dL_law_339 (nI_add _ _) ?_
  refine z_sld hx hb hX hbl (Nat.not_le.mpr hbl) hS (i := 4 * i + 1) (by omega) hLs dL_law_340 ?_
  refine lv_aload_n hx hb dL_law_341 rfl (lv_at hl 0 rfl) ?_
  refine lv_iload_n hx hb dL_law_342 rfl (lv_at hl 3 rfl) ?_
  refine lv_iconst (v := nI 2) hx hb dL_law_343 (by decide) ?_
  refine z_add (v := nI (4 * i + 2)) hx hb dL_law_344 (nI_add _ _) ?_
  refine z_sld hx hb hX hbl (Nat.not_le.mpr hbl) hS (i := 4 * i + 2) (by omega) hLs dL_law_345 ?_
  refine z_callVIE (As := [.int (xs (4 * i + 1)), .int (xs (4 * i + 2))]) (rest := [.int r1]) (wr := clW G o pr q a b d cs) (C := RX4) F hM (cwV 2 hts gL_law_X4_clear rfl rfl rfl (by decide +kernel) ⟨Nat.le_of_ble_eq_true rfl, Nat.le_of_ble_eq_true rfl⟩) hKK (z_recv hKK hP (q0 := 0) (ci := 4) rfl rfl) (z_perm List.perm_append_comm hP) (z_permD List.perm_append_comm hD) hS hA rfl hl.1 rfl (Nat.le_of_ble_eq_true rfl) ⟨Nat.le_of_ble_eq_true rfl, Nat.le_of_ble_eq_true rfl⟩ dL_law_346 (fun r2 ms H locs hq hP hD hS => ?_)
  obtain ⟨e2, hR2⟩ := hq
  subst e2
  exact lv_icmp_eq (tgt := 719) hx hb dL_law_349 (by decide) (fun _ => kk cs ms H locs (hR2 cs hQ) hP hD hS) (fun h => absurd rfl h)

set_option maxHeartbeats 4000000 in
set_option maxRecDepth 100000 in
theorem lk_8 {p : Program} {e : Env} {s : State} {m : MethodId} {below : List Frame} {meth : Method} {c : Code} (l : Launch) (G : ZG) {bs Ls : Nat} {xs : Nat → Int32} (F : CallFix p m c cL_law 4 s #[Value.ref bs] wsL_law RL) (hKK : KK G s) (hX : va_X bs Ls xs s s.heap) (hbl : bs < s.heap.size) (hLs : Ls ≤ 2048) (o pr q : Nat) (a b d ma : Nat → Nat) (Z : State → Prop) (i B : Nat) (hi : 4 * i + 3 < Ls) (hB : B < 2 ^ 30) (pa : Nat → Nat → Nat) (S P L : Nat → Nat) (t v u : Mem) (pv : Nat → Mem) (mv : Mem) (my : Nat → Nat) (hrel : Rel B S L t v pv mv my) (H : Heap) (locs : List Loc) (ls : Array Slot) (hP : va_P G.1 vwCl (nrW G o pr q a b d pa S P L t v u pv ++ modW G ma mv my) H) (hD : va_D (fun q : Nat => s.heap.size ≤ q) (nrW G o pr q a b d pa S P L t v u pv ++ modW G ma mv my)) (hS : va_S (fun q : Nat => s.heap.size ≤ q) s.heap H locs) (hl : lv_has ls 4 [(0, .ref bs), (1, .ref o), (2, .ref (ma 0)), (3, .int (nI (4 * i)))]) (kk : ∀ (cs : CS) (ms : Mem × (Nat → Nat)) (H : Heap) (locs : List Loc), RelC (B + 61) cs ms → va_P G.1 vwCl (clW G o pr q a b d cs ++ modW G ma ms.1 ms.2) H → va_D (fun q : Nat => s.heap.size ≤ q) (clW G o pr q a b d cs ++ modW G ma ms.1 ms.2) → va_S (fun q : Nat => s.heap.size ≤ q) s.heap H locs → W p l e room_1 s m #[Value.ref bs] below meth c H locs 91 6960 Z (F0 m 719 ls [])) : W p l e room_1 s m #[Value.ref bs] below meth c H locs 91 6960 Z (F0 m 354 ls []) := by
  obtain ⟨hx, hb, hml, hown, hts⟩ := id F
  have hA : ∀ q : Nat, s.heap.size ≤ q → (fun q : Nat => s.heap.size ≤ q) q := fun _ h => h
  obtain ⟨R, Q, hC, hM⟩ := st_cellOf l G o pr q a b d pa S P L t v u pv ma mv my B hrel hB (xs (4 * i + 1)) (xs (4 * i + 2))
  refine lv_aload_n hx hb dL_law_354 rfl (lv_at hl 1 rfl) ?_
  refine lv_aload_n hx hb dL_law_355 rfl (lv_at hl 0 rfl) ?_
  refine lv_iload_n hx hb dL_law_356 rfl (lv_at hl 3 rfl) ?_
  refine lv_iconst (v := nI 1) hx hb dL_law_357 (by decide) ?_
  refine z_add (v := nI (4 * i + 1)) hx hb dL_law_358 (nI_add _ _) ?_
  refine z_sld hx hb hX hbl (Nat.not_le.mpr hbl) hS (i := 4 * i + 1) (by omega) hLs dL_law_359 ?_
  refine lv_aload_n hx hb dL_law_360 rfl (lv_at hl 0 rfl) ?_
  refine lv_iload_n hx hb dL_law_361 rfl (lv_at hl 3 rfl) ?_
  refine lv_iconst (v := nI 2) hx hb dL_law_362 (by decide) ?_
  refine z_add (v := nI (4 * i + 2)) hx hb dL_law_363 (nI_add _ _) ?_
  refine z_sld hx hb hX hbl (Nat.not_le.mpr hbl) hS (i := 4 * i + 2) (by omega) hLs dL_law_364 ?_
  refine z_callVIE (As := [.int (xs (4 * i + 1)), .int (xs (4 * i + 2))]) (rest := []) (wr := modW G ma mv my) (C := RX3) F hC (cwV 2 hts gL_law_X3_cellOf rfl rfl rfl (by decide +kernel) ⟨Nat.le_of_ble_eq_true rfl, Nat.le_of_ble_eq_true rfl⟩) hKK (z_recv hKK hP (q0 := 0) (ci := 3) rfl rfl) (z_perm List.perm_append_comm hP) (z_permD List.perm_append_comm hD) hS hA rfl hl.1 rfl (Nat.le_of_ble_eq_true rfl) ⟨Nat.le_of_ble_eq_true rfl, Nat.le_of_ble_eq_true rfl⟩ dL_law_365 (fun r1 cs H locs hq hP hD hS => ?_)
  obtain ⟨e1, hQ⟩ := hq
  subst e1
  refine lv_aload_n hx hb dL_law_368 rfl (lv_at hl 2 rfl) ?_
  refine lv_aload_n hx hb dL_law_369 rfl (lv_at hl 0 rfl) ?_
  refine lv_iload_n hx hb dL_law_370 rfl (lv_at hl 3 rfl) ?_
  refine lv_iconst (v := nI 1) hx hb dL_law_371 (by decide) ?_
  refine z_add (v := nI (4 * i + 1)) hx hb dL_law_372 (nI_add _ _) ?_
  refine z_sld hx hb hX hbl (Nat.not_le.mpr hbl) hS (i := 4 * i + 1) (by omega) hLs dL_law_373 ?_
  refine lv_aload_n hx hb dL_law_374 rfl (lv_at hl 0 rfl) ?_
  refine lv_iload_n hx hb dL_law_375 rfl (lv_at hl 3 rfl) ?_
  refine lv_iconst (v := nI 2) hx hb dL_law_376 (by decide) ?_
  refine z_add (v := nI (4 * i + 2)) hx hb dL_law_377 (nI_add _ _) ?_
  refine z_sld hx hb hX hbl (Nat.not_le.mpr hbl) hS (i := 4 * i + 2) (by omega) hLs dL_law_378 ?_
  refine z_callVIE (As := [.int (xs (4 * i + 1)), .int (xs (4 * i + 2))]) (rest := [.int r1]) (wr := clW G o pr q a b d cs) (C := RX4) F hM (cwV 2 hts gL_law_X4_cellOf rfl rfl rfl (by decide +kernel) ⟨Nat.le_of_ble_eq_true rfl, Nat.le_of_ble_eq_true rfl⟩) hKK (z_recv hKK hP (q0 := 0) (ci := 4) rfl rfl) (z_perm List.perm_append_comm hP) (z_permD List.perm_append_comm hD) hS hA rfl hl.1 rfl (Nat.le_of_ble_eq_true rfl) ⟨Nat.le_of_ble_eq_true rfl, Nat.le_of_ble_eq_true rfl⟩ dL_law_379 (fun r2 ms H locs hq hP hD hS => ?_)
  obtain ⟨e2, hR2⟩ := hq
  subst e2
  exact lv_icmp_eq (tgt := 719) hx hb dL_law_382 (by decide) (fun _ => kk cs ms H locs (hR2 cs hQ) hP hD hS) (fun h => absurd rfl h)

set_option maxHeartbeats 4000000 in
set_option maxRecDepth 100000 in
theorem lk_9 {p : Program} {e : Env} {s : State} {m : MethodId} {below : List Frame} {meth : Method} {c : Code} (l : Launch) (G : ZG) {bs Ls : Nat} {xs : Nat → Int32} (F : CallFix p m c cL_law 4 s #[Value.ref bs] wsL_law RL) (hKK : KK G s) (hX : va_X bs Ls xs s s.heap) (hbl : bs < s.heap.size) (hLs : Ls ≤ 2048) (o pr q : Nat) (a b d ma : Nat → Nat) (Z : State → Prop) (i B : Nat) (hi : 4 * i + 3 < Ls) (hB : B < 2 ^ 30) (pa : Nat → Nat → Nat) (S P L : Nat → Nat) (t v u : Mem) (pv : Nat → Mem) (mv : Mem) (my : Nat → Nat) (hrel : Rel B S L t v pv mv my) (H : Heap) (locs : List Loc) (ls : Array Slot) (hP : va_P G.1 vwCl (nrW G o pr q a b d pa S P L t v u pv ++ modW G ma mv my) H) (hD : va_D (fun q : Nat => s.heap.size ≤ q) (nrW G o pr q a b d pa S P L t v u pv ++ modW G ma mv my)) (hS : va_S (fun q : Nat => s.heap.size ≤ q) s.heap H locs) (hl : lv_has ls 4 [(0, .ref bs), (1, .ref o), (2, .ref (ma 0)), (3, .int (nI (4 * i)))]) (kk : ∀ (cs : CS) (ms : Mem × (Nat → Nat)) (H : Heap) (locs : List Loc), RelC (B + 61) cs ms → va_P G.1 vwCl (clW G o pr q a b d cs ++ modW G ma ms.1 ms.2) H → va_D (fun q : Nat => s.heap.size ≤ q) (clW G o pr q a b d cs ++ modW G ma ms.1 ms.2) → va_S (fun q : Nat => s.heap.size ≤ q) s.heap H locs → W p l e room_1 s m #[Value.ref bs] below meth c H locs 91 6960 Z (F0 m 719 ls [])) : W p l e room_1 s m #[Value.ref bs] below meth c H locs 91 6960 Z (F0 m 387 ls []) := by
  obtain ⟨hx, hb, hml, hown, hts⟩ := id F
  have hA : ∀ q : Nat, s.heap.size ≤ q → (fun q : Nat => s.heap.size ≤ q) q := fun _ h => h
  obtain ⟨R, Q, hC, hM⟩ := st_compact l G o pr q a b d pa S P L t v u pv ma mv my B hrel hB (xs (4 * i + 1))
  refine lv_aload_n hx hb dL_law_387 rfl (lv_at hl 1 rfl) ?_
  refine lv_aload_n hx hb dL_law_388 rfl (lv_at hl 0 rfl) ?_
  refine lv_iload_n hx hb dL_law_389 rfl (lv_at hl 3 rfl) ?_
  refine lv_iconst (v := nI 1) hx hb dL_law_390 (by decide) ?_
  refine z_add (v := nI (4 * i + 1)) hx hb dL_law_391 (nI_add _ _) ?_
  refine z_sld hx hb hX hbl (Nat.not_le.mpr hbl) hS (i := 4 * i + 1) (by omega) hLs dL_law_392 ?_
  refine z_callVIE (As := [.int (xs (4 * i + 1))]) (rest := []) (wr := modW G ma mv my) (C := RX3) F hC (cwV 1 hts gL_law_X3_compact rfl rfl rfl (by decide +kernel) ⟨Nat.le_of_ble_eq_true rfl, Nat.le_of_ble_eq_true rfl⟩) hKK (z_recv hKK hP (q0 := 0) (ci := 3) rfl rfl) (z_perm List.perm_append_comm hP) (z_permD List.perm_append_comm hD) hS hA rfl hl.1 rfl (Nat.le_of_ble_eq_true rfl) ⟨Nat.le_of_ble_eq_true rfl, Nat.le_of_ble_eq_true rfl⟩ dL_law_393 (fun r1 cs H locs hq hP hD hS => ?_)
  obtain ⟨e1, hQ⟩ := hq
  subst e1
  refine lv_aload_n hx hb dL_law_396 rfl (lv_at hl 2 rfl) ?_
  refine lv_aload_n hx hb dL_law_397 rfl (lv_at hl 0 rfl) ?_
  refine lv_iload_n hx hb dL_law_398 rfl (lv_at hl 3 rfl) ?_
  refine lv_iconst (v := nI 1) hx hb dL_law_399 (by decide) ?_
  refine z_add (v := nI (4 * i + 1)) hx hb dL_law_400 (nI_add _ _) ?_
  refine z_sld hx hb hX hbl (Nat.not_le.mpr hbl) hS (i := 4 * i + 1) (by omega) hLs dL_law_401 ?_
  refine z_callVIE (As := [.int (xs (4 * i + 1))]) (rest := [.int r1]) (wr := clW G o pr q a b d cs) (C := RX4) F hM (cwV 1 hts gL_law_X4_compact rfl rfl rfl (by decide +kernel) ⟨Nat.le_of_ble_eq_true rfl, Nat.le_of_ble_eq_true rfl⟩) hKK (z_recv hKK hP (q0 := 0) (ci := 4) rfl rfl) (z_perm List.perm_append_comm hP) (z_permD List.perm_append_comm hD) hS hA rfl hl.1 rfl (Nat.le_of_ble_eq_true rfl) ⟨Nat.le_of_ble_eq_true rfl, Nat.le_of_ble_eq_true rfl⟩ dL_law_402 (fun r2 ms H locs hq hP hD hS => ?_)
  obtain ⟨e2, hR2⟩ := hq
  subst e2
  exact lv_icmp_eq (tgt := 719) hx hb dL_law_405 (by decide) (fun _ => kk cs ms H locs (hR2 cs hQ) hP hD hS) (fun h => absurd rfl h)

set_option maxHeartbeats 4000000 in
set_option maxRecDepth 100000 in
theorem lk_10 {p : Program} {e : Env} {s : State} {m : MethodId} {below : List Frame} {meth : Method} {c : Code} (l : Launch) (G : ZG) {bs Ls : Nat} {xs : Nat → Int32} (F : CallFix p m c cL_law 4 s #[Value.ref bs] wsL_law RL) (hKK : KK G s) (hX : va_X bs Ls xs s s.heap) (hbl : bs < s.heap.size) (hLs : Ls ≤ 2048) (o pr q : Nat) (a b d ma : Nat → Nat) (Z : State → Prop) (i B : Nat) (hi : 4 * i + 3 < Ls) (hB : B < 2 ^ 30) (pa : Nat → Nat → Nat) (S P L : Nat → Nat) (t v u : Mem) (pv : Nat → Mem) (mv : Mem) (my : Nat → Nat) (hrel : Rel B S L t v pv mv my) (H : Heap) (locs : List Loc) (ls : Array Slot) (hP : va_P G.1 vwCl (nrW G o pr q a b d pa S P L t v u pv ++ modW G ma mv my) H) (hD : va_D (fun q : Nat => s.heap.size ≤ q) (nrW G o pr q a b d pa S P L t v u pv ++ modW G ma mv my)) (hS : va_S (fun q : Nat => s.heap.size ≤ q) s.heap H locs) (hl : lv_has ls 4 [(0, .ref bs), (1, .ref o), (2, .ref (ma 0)), (3, .int (nI (4 * i)))]) (kk : ∀ (cs : CS) (ms : Mem × (Nat → Nat)) (H : Heap) (locs : List Loc), RelC (B + 61) cs ms → va_P G.1 vwCl (clW G o pr q a b d cs ++ modW G ma ms.1 ms.2) H → va_D (fun q : Nat => s.heap.size ≤ q) (clW G o pr q a b d cs ++ modW G ma ms.1 ms.2) → va_S (fun q : Nat => s.heap.size ≤ q) s.heap H locs → W p l e room_1 s m #[Value.ref bs] below meth c H locs 91 6960 Z (F0 m 719 ls [])) : W p l e room_1 s m #[Value.ref bs] below meth c H locs 91 6960 Z (F0 m 410 ls []) := by
  obtain ⟨hx, hb, hml, hown, hts⟩ := id F
  have hA : ∀ q : Nat, s.heap.size ≤ q → (fun q : Nat => s.heap.size ≤ q) q := fun _ h => h
  obtain ⟨R, Q, hC, hM⟩ := st_numberOf l G o pr q a b d pa S P L t v u pv ma mv my B hrel hB (xs (4 * i + 1)) (xs (4 * i + 2))
  refine lv_aload_n hx hb dL_law_410 rfl (lv_at hl 1 rfl) ?_
  refine lv_aload_n hx hb dL_law_411 rfl (lv_at hl 0 rfl) ?_
  refine lv_iload_n hx hb dL_law_412 rfl (lv_at hl 3 rfl) ?_
  refine lv_iconst (v := nI 1) hx hb dL_law_413 (by decide) ?_
  refine z_add (v := nI (4 * i + 1)) hx hb dL_law_414 (nI_add _ _) ?_
  refine z_sld hx hb hX hbl (Nat.not_le.mpr hbl) hS (i := 4 * i + 1) (by omega) hLs dL_law_415 ?_
  refine lv_aload_n hx hb dL_law_416 rfl (lv_at hl 0 rfl) ?_
  refine lv_iload_n hx hb dL_law_417 rfl (lv_at hl 3 rfl) ?_
  refine lv_iconst (v := nI 2) hx hb dL_law_418 (by decide) ?_
  refine z_add (v := nI (4 * i + 2)) hx hb dL_law_419 (nI_add _ _) ?_
  refine z_sld hx hb hX hbl (Nat.not_le.mpr hbl) hS (i := 4 * i + 2) (by omega) hLs dL_law_420 ?_
  refine z_callVIE (As := [.int (xs (4 * i + 1)), .int (xs (4 * i + 2))]) (rest := []) (wr := modW G ma mv my) (C := RX3) F hC (cwV 2 hts gL_law_X3_numberOf rfl rfl rfl (by decide +kernel) ⟨Nat.le_of_ble_eq_true rfl, Nat.le_of_ble_eq_true rfl⟩) hKK (z_recv hKK hP (q0 := 0) (ci := 3) rfl rfl) (z_perm List.perm_append_comm hP) (z_permD List.perm_append_comm hD) hS hA rfl hl.1 rfl (Nat.le_of_ble_eq_true rfl) ⟨Nat.le_of_ble_eq_true rfl, Nat.le_of_ble_eq_true rfl⟩ dL_law_421 (fun r1 cs H locs hq hP hD hS => ?_)
  obtain ⟨e1, hQ⟩ := hq
  subst e1
  refine lv_aload_n hx hb dL_law_424 rfl (lv_at hl 2 rfl) ?_
  refine lv_aload_n hx hb dL_law_425 rfl (lv_at hl 0 rfl) ?_
  refine lv_iload_n hx hb dL_law_426 rfl (lv_at hl 3 rfl) ?_
  refine lv_iconst (v := nI 1) hx hb dL_law_427 (by decide) ?_
  refine z_add (v := nI (4 * i + 1)) hx hb dL_law_428 (nI_add _ _) ?_
  refine z_sld hx hb hX hbl (Nat.not_le.mpr hbl) hS (i := 4 * i + 1) (by omega) hLs dL_law_429 ?_
  refine lv_aload_n hx hb dL_law_430 rfl (lv_at hl 0 rfl) ?_
  refine lv_iload_n hx hb dL_law_431 rfl (lv_at hl 3 rfl) ?_
  refine lv_iconst (v := nI 2) hx hb dL_law_432 (by decide) ?_
  refine z_add (v := nI (4 * i + 2)) hx hb dL_law_433 (nI_add _ _) ?_
  refine z_sld hx hb hX hbl (Nat.not_le.mpr hbl) hS (i := 4 * i + 2) (by omega) hLs dL_law_434 ?_
  refine z_callVIE (As := [.int (xs (4 * i + 1)), .int (xs (4 * i + 2))]) (rest := [.int r1]) (wr := clW G o pr q a b d cs) (C := RX4) F hM (cwV 2 hts gL_law_X4_numberOf rfl rfl rfl (by decide +kernel) ⟨Nat.le_of_ble_eq_true rfl, Nat.le_of_ble_eq_true rfl⟩) hKK (z_recv hKK hP (q0 := 0) (ci := 4) rfl rfl) (z_perm List.perm_append_comm hP) (z_permD List.perm_append_comm hD) hS hA rfl hl.1 rfl (Nat.le_of_ble_eq_true rfl) ⟨Nat.le_of_ble_eq_true rfl, Nat.le_of_ble_eq_true rfl⟩ dL_law_435 (fun r2 ms H locs hq hP hD hS => ?_)
  obtain ⟨e2, hR2⟩ := hq
  subst e2
  exact lv_icmp_eq (tgt := 719) hx hb dL_law_438 (by decide) (fun _ => kk cs ms H locs (hR2 cs hQ) hP hD hS) (fun h => absurd rfl h)
