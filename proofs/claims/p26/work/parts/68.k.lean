theorem kk_arr {G : ZG} {s : State} {cA : ClassId} {ty : FieldType} (h1 : va_K G.1 vwCl (zTys G) s) (h2 : va_K G.1 vwCl (zTys G ++ [(cA, ty)]) s) (k : Nat) {c1 : ClassId} (hk : (zTys G)[k]? = some (c1, ty)) : c1 = cA := by
  have a1 := (h1.2 k _ hk).2
  have a2 := (h2.2 3 (cA, ty) rfl).2
  cases ty with
  | object C =>
    obtain ⟨-, -, -, -, -, b1⟩ := a1
    obtain ⟨-, -, -, -, -, b2⟩ := a2
    exact Option.some.inj (b1.symm.trans b2)
  | _ =>
    have b1 : s.vm.findClass _ = some c1 := a1
    have b2 : s.vm.findClass _ = some cA := a2
    exact Option.some.inj (b1.symm.trans b2)
def CN (l : Launch) (G : ZG) (y : MethodName) (ws : List Cond) (rm : Room) (av : List Value) (w0 : va_W) {S : Type} (post : S → Prop) (w1 : S → va_W) (mc ms : Nat) : Prop :=
  ∀ sz : Nat, Met l y ws rm (va_Pc av (ZPre G w0 sz)) (ZQve G (va_A w0 sz) post w1) mc ms (va_A w0 sz)
theorem CN.ent {l : Launch} {G : ZG} {y : MethodName} {ws ws' : List Cond} {rm : Room} {av : List Value} {w0 : va_W} {S : Type} {post : S → Prop} {w1 : S → va_W} {mc ms : Nat} {cc : ByteArray} {maxL : Nat} {own : String}
    (hy : plainName y.cls = true) (hw : ws = Cond.code y cc maxL none :: ws') (ho : y.cls = own) (hlen : (lg_sl av).length ≤ maxL)
    (body : ∀ (p : Program) (e : Env) (s : State) (m : MethodId) (args : Array Value) (below : List Frame) (meth : Method) (c : Code) (A : Nat → Prop) (ls : Array Slot), CallFix p m c cc maxL s args ws own → meth.sig.returnType = none → meth.locks = false → meth.name = y.name → KK G s → va_P G.1 vwCl w0 s.heap → va_D A w0 → (∀ q : Nat, s.heap.size ≤ q → A q) → va_S A s.heap s.heap [] → lv_has ls maxL (lv_args 0 av) →
      W p l e rm s m args below meth c s.heap [] 0 0 (MQ below (ZQve G A post w1) args s mc ms A) (F0 m 0 ls [])) : CN l G y ws rm av w0 post w1 mc ms := by
  intro sz
  refine Met.ofW (cc := cc) (maxL := maxL) (ret := none) hy hw ?_
  intro p e s m args below meth c s₁ B hml hv
  obtain ⟨rfl, rfl, hP, hK, hD0⟩ := hv
  have hts := atoms_spec (ws := ws) B.pre
  have hown : s.vm.findClass own = some m.cls := by rw [← ho]; exact findClass_of_methodNamed B.named
  rw [lg_entry_eq]
  exact body p e s m _ below meth c _ _ ⟨B.exec, B.bytes, hml, hown, hts⟩ B.returns B.notSynchronized (name_of_methodNamed B.named B.method).1 hK hP hD0.self (fun q h => Or.inr h) va_S.rf (lv_entry av hlen)
def CNA (l : Launch) (G : ZG) (y : MethodName) (ws : List Cond) (rm : Room) (av : List Value) (w0 : va_W) {S : Type} (post : S → Prop) (w1 : S → va_W) (mc ms : Nat) : Prop :=
  ∀ sz : Nat, Met l y ws rm (va_Pc av (fun U => ZPre G w0 sz U ∧ va_AO RX1 U)) (ZQve G (va_A w0 sz) post w1) mc ms (va_A w0 sz)
theorem ZPre.blindA {G : ZG} {w0 : va_W} {sz : Nat} {av : List Value} : FrameBlind (va_Pc av (fun U => ZPre G w0 sz U ∧ va_AO RX1 U)) := by
  intro a U g mk h
  obtain ⟨h1, ⟨h2, h3, h4, h5⟩, h6⟩ := h
  exact ⟨h1, ⟨h2, h3, h4.calling, h5⟩, va_AO.moved (u := U) (U := U.calling g mk a) (Vm.Alike.refl U.vm) h6⟩
theorem CNA.ent {l : Launch} {G : ZG} {y : MethodName} {ws ws' : List Cond} {rm : Room} {av : List Value} {w0 : va_W} {S : Type} {post : S → Prop} {w1 : S → va_W} {mc ms : Nat} {cc : ByteArray} {maxL : Nat} {own : String}
    (hy : plainName y.cls = true) (hw : ws = Cond.code y cc maxL none :: ws') (ho : y.cls = own) (hlen : (lg_sl av).length ≤ maxL)
    (body : ∀ (p : Program) (e : Env) (s : State) (m : MethodId) (args : Array Value) (below : List Frame) (meth : Method) (c : Code) (A : Nat → Prop) (ls : Array Slot), CallFix p m c cc maxL s args ws own → meth.sig.returnType = none → meth.locks = false → meth.name = y.name → KK G s → va_AO RX1 s → va_P G.1 vwCl w0 s.heap → va_D A w0 → (∀ q : Nat, s.heap.size ≤ q → A q) → va_S A s.heap s.heap [] → lv_has ls maxL (lv_args 0 av) →
      W p l e rm s m args below meth c s.heap [] 0 0 (MQ below (ZQve G A post w1) args s mc ms A) (F0 m 0 ls [])) : CNA l G y ws rm av w0 post w1 mc ms := by
  intro sz
  refine Met.ofW (cc := cc) (maxL := maxL) (ret := none) hy hw ?_
  intro p e s m args below meth c s₁ B hml hv
  obtain ⟨rfl, ⟨rfl, hP, hK, hD0⟩, hAO⟩ := hv
  have hts := atoms_spec (ws := ws) B.pre
  have hown : s.vm.findClass own = some m.cls := by rw [← ho]; exact findClass_of_methodNamed B.named
  rw [lg_entry_eq]
  exact body p e s m _ below meth c _ _ ⟨B.exec, B.bytes, hml, hown, hts⟩ B.returns B.notSynchronized (name_of_methodNamed B.named B.method).1 hK hAO hP hD0.self (fun q h => Or.inr h) va_S.rf (lv_entry av hlen)
section ZK
variable {p : Program} {l : Launch} {e : Env} {R : Room} {s : State} {m : MethodId} {args : Array Value} {below : List Frame} {meth : Method} {c : Code} {H : Heap} {locs : List Loc} {cells slots : Nat} {Q : State → Prop}
variable {cc : ByteArray} {pc : Nat} {ls : Array Slot} {rest st : List Value} {G : ZG} {A : Nat → Prop} {H0 : Heap} {nL : Nat} {Ts : List Cond} {own : String} {S : Type}
theorem z_vretN {post : S → Prop} {w1 : S → va_W} (u : S) (hx : p.tables.exec = Jvm.exec) (hb : c.code = cc) (hr : meth.sig.returnType = none) (hlk : meth.locks = false) (hP : va_P G.1 vwCl (w1 u) H) (hD : va_D A (w1 u)) (hS : va_S A s.heap H locs) (hdg : decode cc pc = .ok (.return_, 1)) (hp : post u) : W p l e R s m args below meth c H locs cells slots (MQ below (ZQve G A post w1) args s cells slots A) (F0 m pc ls []) :=
  W.vret hx hb hr (fun t ht hW => ⟨⟨u, rfl, hp, by rw [ht]; exact hP, hD⟩, hS.F ht⟩) hS.2.2 hdg hlk
theorem z_newa {w : va_W} (hx : p.tables.exec = Jvm.exec) (hb : c.code = cc) (harr : (Cond.arrayClass .int).before args s = true) (hKK : KK G s) (hP : va_P G.1 vwCl w H) (hD : va_D A w) (hS : va_S A H0 H locs) (hA : ∀ q, H0.size ≤ q → A q) {n : Nat} (hn : n < 2 ^ 20) {k9 n9 : Nat} (e1 : cells + 1 = k9) (e2 : slots + n = n9) (hcells : k9 ≤ R.cells) (hslots : n9 ≤ R.slots) (hdg : decode cc pc = .ok (.newarray .int, 2))
    (kk : ∀ (q : Nat) (H1 : Heap), va_P G.1 vwCl (w ++ [(q, .inl (G.2.1, n, .inl (fun _ => 0)))]) H1 → va_D A (w ++ [(q, .inl (G.2.1, n, .inl (fun _ => 0)))]) → va_S A H0 H1 locs → W p l e R s m args below meth c H1 locs k9 n9 Q (F0 m (pc + 2) ls (.ref q :: rest))) : W p l e R s m args below meth c H locs cells slots Q (F0 m pc ls (.int (nI n) :: rest)) := by
  subst e1; subst e2
  refine va_newa (atype := .int) (N' := n) (a0 := (n, .inl (fun _ => 0))) hx hb harr rfl hKK.1 hP hD hS hA (fun cA => rfl) (nI_pos (by omega)) (nI_clamp (by omega)) (by show n * 4 ≤ 536870912; omega) hcells hslots hdg (fun q cA H1 h0 h1 h2 h3 => ?_)
  have e := kk_arr hKK.1 h0 0 rfl
  subst e
  exact kk q H1 h1 h2 h3
theorem z_newc {w : va_W} (hx : p.tables.exec = Jvm.exec) (hb : c.code = cc) (harr : (Cond.arrayClass .char).before args s = true) (hKK : KK G s) (hP : va_P G.1 vwCl w H) (hD : va_D A w) (hS : va_S A H0 H locs) (hA : ∀ q, H0.size ≤ q → A q) {n : Nat} (hn : n < 2 ^ 20) {k9 n9 : Nat} (e1 : cells + 1 = k9) (e2 : slots + n = n9) (hcells : k9 ≤ R.cells) (hslots : n9 ≤ R.slots) (hdg : decode cc pc = .ok (.newarray .char, 2))
    (kk : ∀ (q : Nat) (H1 : Heap), va_P G.1 vwCl (w ++ [(q, .inl (G.2.2.1, n, .inl (fun _ => 0)))]) H1 → va_D A (w ++ [(q, .inl (G.2.2.1, n, .inl (fun _ => 0)))]) → va_S A H0 H1 locs → W p l e R s m args below meth c H1 locs k9 n9 Q (F0 m (pc + 2) ls (.ref q :: rest))) : W p l e R s m args below meth c H locs cells slots Q (F0 m pc ls (.int (nI n) :: rest)) := by
  subst e1; subst e2
  refine va_newa (atype := .char) (N' := n) (a0 := (n, .inl (fun _ => 0))) hx hb harr rfl hKK.1 hP hD hS hA (fun cA => rfl) (nI_pos (by omega)) (nI_clamp (by omega)) (by show n * 2 ≤ 536870912; omega) hcells hslots hdg (fun q cA H1 h0 h1 h2 h3 => ?_)
  have e := kk_arr hKK.1 h0 1 rfl
  subst e
  exact kk q H1 h1 h2 h3
theorem z_newq {w : va_W} {index : Nat} (hx : p.tables.exec = Jvm.exec) (hb : c.code = cc) (hown : s.vm.findClass own = some m.cls) (hclink : (Cond.classLink own index RX1).before args s = true) (hover : va_AO RX1 s) (hKK : KK G s) (hP : va_P G.1 vwCl w H) (hD : va_D A w) (hS : va_S A H0 H locs) (hA : ∀ q, H0.size ≤ q → A q) {n : Nat} (hn : n < 2 ^ 20) {k9 n9 : Nat} (e1 : cells + 1 = k9) (e2 : slots + n = n9) (hcells : k9 ≤ R.cells) (hslots : n9 ≤ R.slots) (hdg : decode cc pc = .ok (.anewarray index, 3))
    (kk : ∀ (q : Nat) (H1 : Heap), va_P G.1 vwCl (w ++ [(q, .inl (G.2.2.2, n, .inr (.inr (.inr (.inr (fun _ => none))))))]) H1 → va_D A (w ++ [(q, .inl (G.2.2.2, n, .inr (.inr (.inr (.inr (fun _ => none))))))]) → va_S A H0 H1 locs → W p l e R s m args below meth c H1 locs k9 n9 Q (F0 m (pc + 3) ls (.ref q :: rest))) : W p l e R s m args below meth c H locs cells slots Q (F0 m pc ls (.int (nI n) :: rest)) := by
  subst e1; subst e2
  refine va_newq (N' := n) hx hb hown hclink hover hKK.1 hP hD hS hA (nI_pos (by omega)) (nI_clamp (by omega)) (by omega) hcells hslots hdg (fun q cA H1 h0 h1 h2 h3 => ?_)
  have e := kk_arr hKK.1 h0 2 rfl
  subst e
  exact kk q H1 h1 h2 h3
theorem z_callN {y : MethodName} {bytes : ByteArray} {maxL n index b mc ms : Nat} {ws : List Cond} {rm : Room} {As : List Value} {wr wc : va_W} {post : S → Prop} {w1 : S → va_W} (F : CallFix p m c cc nL s args Ts own) (hM : CN l G y ws rm (.ref b :: As) wc post w1 mc ms) (cw : CallB R s args own index y bytes maxL none ws rm mc ms n ∧ y.name = "<init>" ∧ (Cond.instanceMethod y).before args s = true) (hKK : KK G s) (hP : va_P G.1 vwCl (wr ++ wc) H) (hD : va_D A (wr ++ wc)) (hS : va_S A H0 H locs) (hA : ∀ q, H0.size ≤ q → A q) (hn : As.length = n) (hsz : ls.size = nL) (hst : st = As.reverse ++ .ref b :: rest) (hW : (rest.map fun v => v.category).sum ≤ 8) {k9 n9 : Nat} (e1 : cells + mc = k9) (e2 : slots + ms = n9) (hcells : k9 ≤ R.cells) (hslots : n9 ≤ R.slots) (hdg : decode cc pc = .ok (.invokespecial index, 3))
    (kk : ∀ (u : S) (H1 : Heap) (locs1 : List Loc), post u → va_P G.1 vwCl (wr ++ w1 u) H1 → va_D A (wr ++ w1 u) → va_S A H0 H1 locs1 → W p l e R s m args below meth c H1 locs1 k9 n9 Q (F0 m (pc + 3) ls rest)) : W p l e R s m args below meth c H locs cells slots Q (F0 m pc ls st) := by
  subst e1; subst e2
  have hF := z_free hD hS hA
  refine va_callv (va_runI F (hM H.size) cw ⟨ZPre.blind, z_pre hKK hP hD⟩ rfl hn hsz hst (lv_room (rest := st) (ls := ls) (pc := pc) hW) hdg ⟨hcells, hslots⟩) hS (fun q _ h => hF q h) hF (fun u t H1 locs1 ht hvm hpost hB hz hk hS1 => ?_)
  obtain ⟨hP1, hD1⟩ := hB
  rw [ht] at hP1
  obtain ⟨hP2, hD2⟩ := z_join hP hD hk hF hP1 hD1
  exact kk u H1 locs1 hpost hP2 hD2 hS1
theorem z_callNA {y : MethodName} {bytes : ByteArray} {maxL n index b mc ms : Nat} {ws : List Cond} {rm : Room} {As : List Value} {wr wc : va_W} {post : S → Prop} {w1 : S → va_W} (F : CallFix p m c cc nL s args Ts own) (hM : CNA l G y ws rm (.ref b :: As) wc post w1 mc ms) (cw : CallB R s args own index y bytes maxL none ws rm mc ms n ∧ y.name = "<init>" ∧ (Cond.instanceMethod y).before args s = true) (hKK : KK G s) (hAO : va_AO RX1 s) (hP : va_P G.1 vwCl (wr ++ wc) H) (hD : va_D A (wr ++ wc)) (hS : va_S A H0 H locs) (hA : ∀ q, H0.size ≤ q → A q) (hn : As.length = n) (hsz : ls.size = nL) (hst : st = As.reverse ++ .ref b :: rest) (hW : (rest.map fun v => v.category).sum ≤ 8) {k9 n9 : Nat} (e1 : cells + mc = k9) (e2 : slots + ms = n9) (hcells : k9 ≤ R.cells) (hslots : n9 ≤ R.slots) (hdg : decode cc pc = .ok (.invokespecial index, 3))
    (kk : ∀ (u : S) (H1 : Heap) (locs1 : List Loc), post u → va_P G.1 vwCl (wr ++ w1 u) H1 → va_D A (wr ++ w1 u) → va_S A H0 H1 locs1 → W p l e R s m args below meth c H1 locs1 k9 n9 Q (F0 m (pc + 3) ls rest)) : W p l e R s m args below meth c H locs cells slots Q (F0 m pc ls st) := by
  subst e1; subst e2
  have hF := z_free hD hS hA
  refine va_callv (va_runI F (hM H.size) cw ⟨ZPre.blindA, fun U hU hW => ⟨(z_pre hKK hP hD U hU hW).1, (z_pre (av := .ref b :: As) hKK hP hD U hU hW).2, va_AO.moved hW.alike hAO⟩⟩ rfl hn hsz hst (lv_room (rest := st) (ls := ls) (pc := pc) hW) hdg ⟨hcells, hslots⟩) hS (fun q _ h => hF q h) hF (fun u t H1 locs1 ht hvm hpost hB hz hk hS1 => ?_)
  obtain ⟨hP1, hD1⟩ := hB
  rw [ht] at hP1
  obtain ⟨hP2, hD2⟩ := z_join hP hD hk hF hP1 hD1
  exact kk u H1 locs1 hpost hP2 hD2 hS1
theorem z_callNN {y : MethodName} {bytes : ByteArray} {maxL n index b mc ms : Nat} {host : String} {ws : List Cond} {rm : Room} {As : List Value} {wr wc : va_W} {post : S → Prop} {w1 : S → va_W} (F : CallFix p m c cc nL s args Ts own) (hM : CN l G y ws rm (.ref b :: As) wc post w1 mc ms) (cw : va_CN R s args own index y host bytes maxL none ws rm mc ms n ∧ y.name = "<init>" ∧ (Cond.instanceMethod y).before args s = true) (hKK : KK G s) (hP : va_P G.1 vwCl (wr ++ wc) H) (hD : va_D A (wr ++ wc)) (hS : va_S A H0 H locs) (hA : ∀ q, H0.size ≤ q → A q) (hn : As.length = n) (hsz : ls.size = nL) (hst : st = As.reverse ++ .ref b :: rest) (hW : (rest.map fun v => v.category).sum ≤ 8) {k9 n9 : Nat} (e1 : cells + mc = k9) (e2 : slots + ms = n9) (hcells : k9 ≤ R.cells) (hslots : n9 ≤ R.slots) (hdg : decode cc pc = .ok (.invokespecial index, 3))
    (kk : ∀ (u : S) (H1 : Heap) (locs1 : List Loc), post u → va_P G.1 vwCl (wr ++ w1 u) H1 → va_D A (wr ++ w1 u) → va_S A H0 H1 locs1 → W p l e R s m args below meth c H1 locs1 k9 n9 Q (F0 m (pc + 3) ls rest)) : W p l e R s m args below meth c H locs cells slots Q (F0 m pc ls st) := by
  subst e1; subst e2
  have hF := z_free hD hS hA
  refine va_callv (va_runIN F (hM H.size) cw ⟨ZPre.blind, z_pre hKK hP hD⟩ rfl hn hsz hst (lv_room (rest := st) (ls := ls) (pc := pc) hW) hdg ⟨hcells, hslots⟩) hS (fun q _ h => hF q h) hF (fun u t H1 locs1 ht hvm hpost hB hz hk hS1 => ?_)
  obtain ⟨hP1, hD1⟩ := hB
  rw [ht] at hP1
  obtain ⟨hP2, hD2⟩ := z_join hP hD hk hF hP1 hD1
  exact kk u H1 locs1 hpost hP2 hD2 hS1
end ZK
def aOf (x : List Nat) : Nat → Nat := fun j => x.getD j 0
def rollZ : Mem := fun k => if k = 3 then zFillA 18 (-1) (fun _ => 0) else fun _ => 0
def zeroM : Mem := fun _ _ => 0
def zeroN : Nat → Nat := fun _ => 0
def modZ : Mem := fun k => if k = 0 then fb_put (fun _ => 0) (fun _ => -1) 124 18 else fun _ => 0
theorem putM1 {i : Nat} : upd (fb_put (fun _ => (0 : Int32)) (fun _ => -1) 124 i) (124 + i) (-1) = fb_put (fun _ => 0) (fun _ => -1) 124 (i + 1) := by
  funext k
  unfold upd fb_put
  by_cases h : k = 124 + i
  · rw [if_pos h, if_pos (by omega)]
  · rw [if_neg h]
    by_cases h2 : 124 ≤ k ∧ k < 124 + i
    · rw [if_pos h2, if_pos (by omega)]
    · rw [if_neg h2, if_neg (by omega)]
theorem putM0 : (fun _ => (0 : Int32)) = fb_put (fun _ => (0 : Int32)) (fun _ => -1) 124 0 := by
  funext k
  unfold fb_put
  rw [if_neg (by omega)]

theorem dflX0 : ∀ j, j < 12 → defaultValue (tyX0 j) = vp_V [.null, .int 0, .int 0, .int 0, .int 0, .int 0, .int 0, .int 0, .int 0, .int 0, .int 0, .int 0] j := by
  intro j hj
  rcases (show j = 0 ∨ j = 1 ∨ j = 2 ∨ j = 3 ∨ j = 4 ∨ j = 5 ∨ j = 6 ∨ j = 7 ∨ j = 8 ∨ j = 9 ∨ j = 10 ∨ j = 11 by omega) with rfl | rfl | rfl | rfl | rfl | rfl | rfl | rfl | rfl | rfl | rfl | rfl <;> rfl

theorem dflX1 : ∀ j, j < 15 → defaultValue (tyX1 j) = vp_V [.null, .null, .null, .null, .int 0, .int 0, .int 0, .null, .null, .null, .null, .null, .null, .null, .null] j := by
  intro j hj
  rcases (show j = 0 ∨ j = 1 ∨ j = 2 ∨ j = 3 ∨ j = 4 ∨ j = 5 ∨ j = 6 ∨ j = 7 ∨ j = 8 ∨ j = 9 ∨ j = 10 ∨ j = 11 ∨ j = 12 ∨ j = 13 ∨ j = 14 by omega) with rfl | rfl | rfl | rfl | rfl | rfl | rfl | rfl | rfl | rfl | rfl | rfl | rfl | rfl | rfl <;> rfl

theorem dflX2 : ∀ j, j < 2 → defaultValue (tyX2 j) = vp_V [.null, .int 0] j := by
  intro j hj
  rcases (show j = 0 ∨ j = 1 by omega) with rfl | rfl <;> rfl

theorem dflX3 : ∀ j, j < 5 → defaultValue (tyX3 j) = vp_V [.null, .null, .int 0, .null, .null] j := by
  intro j hj
  rcases (show j = 0 ∨ j = 1 ∨ j = 2 ∨ j = 3 ∨ j = 4 by omega) with rfl | rfl | rfl | rfl | rfl <;> rfl

set_option maxHeartbeats 4000000 in
set_option maxRecDepth 100000 in
theorem c_X1_init (l : Launch) (G : ZG) (h0 : Nat) : CN l G yX1_init wsX1_init ({ frames := 1, cells := 12, slots := 587, locals := 23 } : Room) [.ref h0] [(h0, .inr (1, [.null, .null, .null, .null, .int 0, .int 0, .int 0, .null, .null, .null, .null, .null, .null, .null, .null]))] (S := Nat → Nat) (fun x => x 0 = h0) (fun x => rollW G x rollZ) 12 587 := by
  refine CN.ent (cc := cX1_init) (maxL := 1) (own := RX1) (by decide) rfl rfl (Nat.le_of_ble_eq_true rfl) ?_
  intro p ee s m args below meth c A ls F hr hlk hin hKK hP hD hA hS hl
  obtain ⟨hx, hb, hml, hown, hts⟩ := id F
  have hl : lv_has ls 1 [(0, .ref h0)] := hl
  have hinX1 : ∀ w ∈ wsX10, w ∈ wsX1_init := by decide +kernel
  refine lv_aload_n hx hb dX1_init_0 rfl (lv_at hl 0 rfl) ?_
  refine W.objInit hx hb hown (hts (.methodLink RX1 3 objectInit) (by decide +kernel)) (hts (.instanceMethod objectInit) (by decide +kernel)) (hts (.code objectInit ⟨#[0xb1]⟩ 1 none) (by decide +kernel)) rfl (hl.1.trans hml.symm) rfl dX1_init_1 (Nat.le_of_ble_eq_true rfl) (Nat.le_of_ble_eq_true rfl) ?_
  change W p l ee _ s m args below meth c _ _ _ _ _ (F0 m 4 ls [])
  refine lv_aload_n hx hb dX1_init_4 rfl (lv_at hl 0 rfl) ?_
  refine lv_bipush (v := nI 40) hx hb dX1_init_5 (by decide) ?_
  refine z_newa (n := 40) hx hb (hts (.arrayClass .int) (by decide +kernel)) hKK hP hD hS hA (by decide) (k9 := 1) (n9 := 40) rfl rfl (Nat.le_of_ble_eq_true rfl) (Nat.le_of_ble_eq_true rfl) dX1_init_7 (fun q0 H hP hD hS => ?_)
  have hP : va_P G.1 vwCl [(h0, .inr (1, [.null, .null, .null, .null, .int 0, .int 0, .int 0, .null, .null, .null, .null, .null, .null, .null, .null])), (q0, .inl (G.2.1, 40, .inl (fun _ => 0)))] H := hP
  have hD : va_D A [(h0, .inr (1, [.null, .null, .null, .null, .int 0, .int 0, .int 0, .null, .null, .null, .null, .null, .null, .null, .null])), (q0, .inl (G.2.1, 40, .inl (fun _ => 0)))] := hD
  refine va_putF (D := G.1) (ci := 1) (v := .ref q0) (ty := .array .int) (C := RX1) (T := TX1) (N := 15) hx hb hts hinX1 tyX1 tyX1_ok nmX1 hown hKK.1 hP hD hS 0 rfl rfl 0 (by decide) (hts (.fieldLink RX1 9 "NameRolls$Roll" "names" "[I") (by decide +kernel)) (fun _ h9 => h9) rfl hin rfl (by decide +kernel) rfl rfl (Nat.le_of_ble_eq_true rfl) dX1_init_9 (fun H locs hP hD hS => ?_)
  have hP : va_P G.1 vwCl [(h0, .inr (1, [.ref q0, .null, .null, .null, .int 0, .int 0, .int 0, .null, .null, .null, .null, .null, .null, .null, .null])), (q0, .inl (G.2.1, 40, .inl (fun _ => 0)))] H := hP
  have hD : va_D A [(h0, .inr (1, [.ref q0, .null, .null, .null, .int 0, .int 0, .int 0, .null, .null, .null, .null, .null, .null, .null, .null])), (q0, .inl (G.2.1, 40, .inl (fun _ => 0)))] := hD
  refine lv_aload_n hx hb dX1_init_12 rfl (lv_at hl 0 rfl) ?_
  refine lv_bipush (v := nI 40) hx hb dX1_init_13 (by decide) ?_
  refine z_newa (n := 40) hx hb (hts (.arrayClass .int) (by decide +kernel)) hKK hP hD hS hA (by decide) (k9 := 2) (n9 := 80) rfl rfl (Nat.le_of_ble_eq_true rfl) (Nat.le_of_ble_eq_true rfl) dX1_init_15 (fun q1 H hP hD hS => ?_)
  have hP : va_P G.1 vwCl [(h0, .inr (1, [.ref q0, .null, .null, .null, .int 0, .int 0, .int 0, .null, .null, .null, .null, .null, .null, .null, .null])), (q0, .inl (G.2.1, 40, .inl (fun _ => 0))), (q1, .inl (G.2.1, 40, .inl (fun _ => 0)))] H := hP
  have hD : va_D A [(h0, .inr (1, [.ref q0, .null, .null, .null, .int 0, .int 0, .int 0, .null, .null, .null, .null, .null, .null, .null, .null])), (q0, .inl (G.2.1, 40, .inl (fun _ => 0))), (q1, .inl (G.2.1, 40, .inl (fun _ => 0)))] := hD
  refine va_putF (D := G.1) (ci := 1) (v := .ref q1) (ty := .array .int) (C := RX1) (T := TX1) (N := 15) hx hb hts hinX1 tyX1 tyX1_ok nmX1 hown hKK.1 hP hD hS 0 rfl rfl 1 (by decide) (hts (.fieldLink RX1 15 "NameRolls$Roll" "users" "[I") (by decide +kernel)) (fun _ h9 => h9) rfl hin rfl (by decide +kernel) rfl rfl (Nat.le_of_ble_eq_true rfl) dX1_init_17 (fun H locs hP hD hS => ?_)
  have hP : va_P G.1 vwCl [(h0, .inr (1, [.ref q0, .ref q1, .null, .null, .int 0, .int 0, .int 0, .null, .null, .null, .null, .null, .null, .null, .null])), (q0, .inl (G.2.1, 40, .inl (fun _ => 0))), (q1, .inl (G.2.1, 40, .inl (fun _ => 0)))] H := hP
  have hD : va_D A [(h0, .inr (1, [.ref q0, .ref q1, .null, .null, .int 0, .int 0, .int 0, .null, .null, .null, .null, .null, .null, .null, .null])), (q0, .inl (G.2.1, 40, .inl (fun _ => 0))), (q1, .inl (G.2.1, 40, .inl (fun _ => 0)))] := hD
  refine lv_aload_n hx hb dX1_init_20 rfl (lv_at hl 0 rfl) ?_
  refine lv_bipush (v := nI 40) hx hb dX1_init_21 (by decide) ?_
  refine z_newa (n := 40) hx hb (hts (.arrayClass .int) (by decide +kernel)) hKK hP hD hS hA (by decide) (k9 := 3) (n9 := 120) rfl rfl (Nat.le_of_ble_eq_true rfl) (Nat.le_of_ble_eq_true rfl) dX1_init_23 (fun q2 H hP hD hS => ?_)
  have hP : va_P G.1 vwCl [(h0, .inr (1, [.ref q0, .ref q1, .null, .null, .int 0, .int 0, .int 0, .null, .null, .null, .null, .null, .null, .null, .null])), (q0, .inl (G.2.1, 40, .inl (fun _ => 0))), (q1, .inl (G.2.1, 40, .inl (fun _ => 0))), (q2, .inl (G.2.1, 40, .inl (fun _ => 0)))] H := hP
  have hD : va_D A [(h0, .inr (1, [.ref q0, .ref q1, .null, .null, .int 0, .int 0, .int 0, .null, .null, .null, .null, .null, .null, .null, .null])), (q0, .inl (G.2.1, 40, .inl (fun _ => 0))), (q1, .inl (G.2.1, 40, .inl (fun _ => 0))), (q2, .inl (G.2.1, 40, .inl (fun _ => 0)))] := hD
  refine va_putF (D := G.1) (ci := 1) (v := .ref q2) (ty := .array .int) (C := RX1) (T := TX1) (N := 15) hx hb hts hinX1 tyX1 tyX1_ok nmX1 hown hKK.1 hP hD hS 0 rfl rfl 2 (by decide) (hts (.fieldLink RX1 18 "NameRolls$Roll" "years" "[I") (by decide +kernel)) (fun _ h9 => h9) rfl hin rfl (by decide +kernel) rfl rfl (Nat.le_of_ble_eq_true rfl) dX1_init_25 (fun H locs hP hD hS => ?_)
  have hP : va_P G.1 vwCl [(h0, .inr (1, [.ref q0, .ref q1, .ref q2, .null, .int 0, .int 0, .int 0, .null, .null, .null, .null, .null, .null, .null, .null])), (q0, .inl (G.2.1, 40, .inl (fun _ => 0))), (q1, .inl (G.2.1, 40, .inl (fun _ => 0))), (q2, .inl (G.2.1, 40, .inl (fun _ => 0)))] H := hP
  have hD : va_D A [(h0, .inr (1, [.ref q0, .ref q1, .ref q2, .null, .int 0, .int 0, .int 0, .null, .null, .null, .null, .null, .null, .null, .null])), (q0, .inl (G.2.1, 40, .inl (fun _ => 0))), (q1, .inl (G.2.1, 40, .inl (fun _ => 0))), (q2, .inl (G.2.1, 40, .inl (fun _ => 0)))] := hD
  refine lv_aload_n hx hb dX1_init_28 rfl (lv_at hl 0 rfl) ?_
  refine lv_bipush (v := nI 18) hx hb dX1_init_29 (by decide) ?_
  refine z_newa (n := 18) hx hb (hts (.arrayClass .int) (by decide +kernel)) hKK hP hD hS hA (by decide) (k9 := 4) (n9 := 138) rfl rfl (Nat.le_of_ble_eq_true rfl) (Nat.le_of_ble_eq_true rfl) dX1_init_31 (fun q3 H hP hD hS => ?_)
  have hP : va_P G.1 vwCl [(h0, .inr (1, [.ref q0, .ref q1, .ref q2, .null, .int 0, .int 0, .int 0, .null, .null, .null, .null, .null, .null, .null, .null])), (q0, .inl (G.2.1, 40, .inl (fun _ => 0))), (q1, .inl (G.2.1, 40, .inl (fun _ => 0))), (q2, .inl (G.2.1, 40, .inl (fun _ => 0))), (q3, .inl (G.2.1, 18, .inl (fun _ => 0)))] H := hP
  have hD : va_D A [(h0, .inr (1, [.ref q0, .ref q1, .ref q2, .null, .int 0, .int 0, .int 0, .null, .null, .null, .null, .null, .null, .null, .null])), (q0, .inl (G.2.1, 40, .inl (fun _ => 0))), (q1, .inl (G.2.1, 40, .inl (fun _ => 0))), (q2, .inl (G.2.1, 40, .inl (fun _ => 0))), (q3, .inl (G.2.1, 18, .inl (fun _ => 0)))] := hD
  refine va_putF (D := G.1) (ci := 1) (v := .ref q3) (ty := .array .int) (C := RX1) (T := TX1) (N := 15) hx hb hts hinX1 tyX1 tyX1_ok nmX1 hown hKK.1 hP hD hS 0 rfl rfl 3 (by decide) (hts (.fieldLink RX1 21 "NameRolls$Roll" "cells" "[I") (by decide +kernel)) (fun _ h9 => h9) rfl hin rfl (by decide +kernel) rfl rfl (Nat.le_of_ble_eq_true rfl) dX1_init_33 (fun H locs hP hD hS => ?_)
  have hP : va_P G.1 vwCl [(h0, .inr (1, [.ref q0, .ref q1, .ref q2, .ref q3, .int 0, .int 0, .int 0, .null, .null, .null, .null, .null, .null, .null, .null])), (q0, .inl (G.2.1, 40, .inl (fun _ => 0))), (q1, .inl (G.2.1, 40, .inl (fun _ => 0))), (q2, .inl (G.2.1, 40, .inl (fun _ => 0))), (q3, .inl (G.2.1, 18, .inl (fun _ => 0)))] H := hP
  have hD : va_D A [(h0, .inr (1, [.ref q0, .ref q1, .ref q2, .ref q3, .int 0, .int 0, .int 0, .null, .null, .null, .null, .null, .null, .null, .null])), (q0, .inl (G.2.1, 40, .inl (fun _ => 0))), (q1, .inl (G.2.1, 40, .inl (fun _ => 0))), (q2, .inl (G.2.1, 40, .inl (fun _ => 0))), (q3, .inl (G.2.1, 18, .inl (fun _ => 0)))] := hD
  refine lv_aload_n hx hb dX1_init_36 rfl (lv_at hl 0 rfl) ?_
  refine lv_iconst (v := nI 3) hx hb dX1_init_37 (by decide) ?_
  refine z_newa (n := 3) hx hb (hts (.arrayClass .int) (by decide +kernel)) hKK hP hD hS hA (by decide) (k9 := 5) (n9 := 141) rfl rfl (Nat.le_of_ble_eq_true rfl) (Nat.le_of_ble_eq_true rfl) dX1_init_38 (fun q4 H hP hD hS => ?_)
  have hP : va_P G.1 vwCl [(h0, .inr (1, [.ref q0, .ref q1, .ref q2, .ref q3, .int 0, .int 0, .int 0, .null, .null, .null, .null, .null, .null, .null, .null])), (q0, .inl (G.2.1, 40, .inl (fun _ => 0))), (q1, .inl (G.2.1, 40, .inl (fun _ => 0))), (q2, .inl (G.2.1, 40, .inl (fun _ => 0))), (q3, .inl (G.2.1, 18, .inl (fun _ => 0))), (q4, .inl (G.2.1, 3, .inl (fun _ => 0)))] H := hP
  have hD : va_D A [(h0, .inr (1, [.ref q0, .ref q1, .ref q2, .ref q3, .int 0, .int 0, .int 0, .null, .null, .null, .null, .null, .null, .null, .null])), (q0, .inl (G.2.1, 40, .inl (fun _ => 0))), (q1, .inl (G.2.1, 40, .inl (fun _ => 0))), (q2, .inl (G.2.1, 40, .inl (fun _ => 0))), (q3, .inl (G.2.1, 18, .inl (fun _ => 0))), (q4, .inl (G.2.1, 3, .inl (fun _ => 0)))] := hD
  refine va_putF (D := G.1) (ci := 1) (v := .ref q4) (ty := .array .int) (C := RX1) (T := TX1) (N := 15) hx hb hts hinX1 tyX1 tyX1_ok nmX1 hown hKK.1 hP hD hS 0 rfl rfl 7 (by decide) (hts (.fieldLink RX1 24 "NameRolls$Roll" "rules" "[I") (by decide +kernel)) (fun _ h9 => h9) rfl hin rfl (by decide +kernel) rfl rfl (Nat.le_of_ble_eq_true rfl) dX1_init_40 (fun H locs hP hD hS => ?_)
  have hP : va_P G.1 vwCl [(h0, .inr (1, [.ref q0, .ref q1, .ref q2, .ref q3, .int 0, .int 0, .int 0, .ref q4, .null, .null, .null, .null, .null, .null, .null])), (q0, .inl (G.2.1, 40, .inl (fun _ => 0))), (q1, .inl (G.2.1, 40, .inl (fun _ => 0))), (q2, .inl (G.2.1, 40, .inl (fun _ => 0))), (q3, .inl (G.2.1, 18, .inl (fun _ => 0))), (q4, .inl (G.2.1, 3, .inl (fun _ => 0)))] H := hP
  have hD : va_D A [(h0, .inr (1, [.ref q0, .ref q1, .ref q2, .ref q3, .int 0, .int 0, .int 0, .ref q4, .null, .null, .null, .null, .null, .null, .null])), (q0, .inl (G.2.1, 40, .inl (fun _ => 0))), (q1, .inl (G.2.1, 40, .inl (fun _ => 0))), (q2, .inl (G.2.1, 40, .inl (fun _ => 0))), (q3, .inl (G.2.1, 18, .inl (fun _ => 0))), (q4, .inl (G.2.1, 3, .inl (fun _ => 0)))] := hD
  refine lv_aload_n hx hb dX1_init_43 rfl (lv_at hl 0 rfl) ?_
  refine lv_iconst (v := nI 3) hx hb dX1_init_44 (by decide) ?_
  refine z_newa (n := 3) hx hb (hts (.arrayClass .int) (by decide +kernel)) hKK hP hD hS hA (by decide) (k9 := 6) (n9 := 144) rfl rfl (Nat.le_of_ble_eq_true rfl) (Nat.le_of_ble_eq_true rfl) dX1_init_45 (fun q5 H hP hD hS => ?_)
  have hP : va_P G.1 vwCl [(h0, .inr (1, [.ref q0, .ref q1, .ref q2, .ref q3, .int 0, .int 0, .int 0, .ref q4, .null, .null, .null, .null, .null, .null, .null])), (q0, .inl (G.2.1, 40, .inl (fun _ => 0))), (q1, .inl (G.2.1, 40, .inl (fun _ => 0))), (q2, .inl (G.2.1, 40, .inl (fun _ => 0))), (q3, .inl (G.2.1, 18, .inl (fun _ => 0))), (q4, .inl (G.2.1, 3, .inl (fun _ => 0))), (q5, .inl (G.2.1, 3, .inl (fun _ => 0)))] H := hP
  have hD : va_D A [(h0, .inr (1, [.ref q0, .ref q1, .ref q2, .ref q3, .int 0, .int 0, .int 0, .ref q4, .null, .null, .null, .null, .null, .null, .null])), (q0, .inl (G.2.1, 40, .inl (fun _ => 0))), (q1, .inl (G.2.1, 40, .inl (fun _ => 0))), (q2, .inl (G.2.1, 40, .inl (fun _ => 0))), (q3, .inl (G.2.1, 18, .inl (fun _ => 0))), (q4, .inl (G.2.1, 3, .inl (fun _ => 0))), (q5, .inl (G.2.1, 3, .inl (fun _ => 0)))] := hD
  refine va_putF (D := G.1) (ci := 1) (v := .ref q5) (ty := .array .int) (C := RX1) (T := TX1) (N := 15) hx hb hts hinX1 tyX1 tyX1_ok nmX1 hown hKK.1 hP hD hS 0 rfl rfl 8 (by decide) (hts (.fieldLink RX1 27 "NameRolls$Roll" "namesThen" "[I") (by decide +kernel)) (fun _ h9 => h9) rfl hin rfl (by decide +kernel) rfl rfl (Nat.le_of_ble_eq_true rfl) dX1_init_47 (fun H locs hP hD hS => ?_)
  have hP : va_P G.1 vwCl [(h0, .inr (1, [.ref q0, .ref q1, .ref q2, .ref q3, .int 0, .int 0, .int 0, .ref q4, .ref q5, .null, .null, .null, .null, .null, .null])), (q0, .inl (G.2.1, 40, .inl (fun _ => 0))), (q1, .inl (G.2.1, 40, .inl (fun _ => 0))), (q2, .inl (G.2.1, 40, .inl (fun _ => 0))), (q3, .inl (G.2.1, 18, .inl (fun _ => 0))), (q4, .inl (G.2.1, 3, .inl (fun _ => 0))), (q5, .inl (G.2.1, 3, .inl (fun _ => 0)))] H := hP
  have hD : va_D A [(h0, .inr (1, [.ref q0, .ref q1, .ref q2, .ref q3, .int 0, .int 0, .int 0, .ref q4, .ref q5, .null, .null, .null, .null, .null, .null])), (q0, .inl (G.2.1, 40, .inl (fun _ => 0))), (q1, .inl (G.2.1, 40, .inl (fun _ => 0))), (q2, .inl (G.2.1, 40, .inl (fun _ => 0))), (q3, .inl (G.2.1, 18, .inl (fun _ => 0))), (q4, .inl (G.2.1, 3, .inl (fun _ => 0))), (q5, .inl (G.2.1, 3, .inl (fun _ => 0)))] := hD
  refine lv_aload_n hx hb dX1_init_50 rfl (lv_at hl 0 rfl) ?_
  refine lv_iconst (v := nI 3) hx hb dX1_init_51 (by decide) ?_
  refine z_newa (n := 3) hx hb (hts (.arrayClass .int) (by decide +kernel)) hKK hP hD hS hA (by decide) (k9 := 7) (n9 := 147) rfl rfl (Nat.le_of_ble_eq_true rfl) (Nat.le_of_ble_eq_true rfl) dX1_init_52 (fun q6 H hP hD hS => ?_)
  have hP : va_P G.1 vwCl [(h0, .inr (1, [.ref q0, .ref q1, .ref q2, .ref q3, .int 0, .int 0, .int 0, .ref q4, .ref q5, .null, .null, .null, .null, .null, .null])), (q0, .inl (G.2.1, 40, .inl (fun _ => 0))), (q1, .inl (G.2.1, 40, .inl (fun _ => 0))), (q2, .inl (G.2.1, 40, .inl (fun _ => 0))), (q3, .inl (G.2.1, 18, .inl (fun _ => 0))), (q4, .inl (G.2.1, 3, .inl (fun _ => 0))), (q5, .inl (G.2.1, 3, .inl (fun _ => 0))), (q6, .inl (G.2.1, 3, .inl (fun _ => 0)))] H := hP
  have hD : va_D A [(h0, .inr (1, [.ref q0, .ref q1, .ref q2, .ref q3, .int 0, .int 0, .int 0, .ref q4, .ref q5, .null, .null, .null, .null, .null, .null])), (q0, .inl (G.2.1, 40, .inl (fun _ => 0))), (q1, .inl (G.2.1, 40, .inl (fun _ => 0))), (q2, .inl (G.2.1, 40, .inl (fun _ => 0))), (q3, .inl (G.2.1, 18, .inl (fun _ => 0))), (q4, .inl (G.2.1, 3, .inl (fun _ => 0))), (q5, .inl (G.2.1, 3, .inl (fun _ => 0))), (q6, .inl (G.2.1, 3, .inl (fun _ => 0)))] := hD
  refine va_putF (D := G.1) (ci := 1) (v := .ref q6) (ty := .array .int) (C := RX1) (T := TX1) (N := 15) hx hb hts hinX1 tyX1 tyX1_ok nmX1 hown hKK.1 hP hD hS 0 rfl rfl 9 (by decide) (hts (.fieldLink RX1 30 "NameRolls$Roll" "movedThen" "[I") (by decide +kernel)) (fun _ h9 => h9) rfl hin rfl (by decide +kernel) rfl rfl (Nat.le_of_ble_eq_true rfl) dX1_init_54 (fun H locs hP hD hS => ?_)
  have hP : va_P G.1 vwCl [(h0, .inr (1, [.ref q0, .ref q1, .ref q2, .ref q3, .int 0, .int 0, .int 0, .ref q4, .ref q5, .ref q6, .null, .null, .null, .null, .null])), (q0, .inl (G.2.1, 40, .inl (fun _ => 0))), (q1, .inl (G.2.1, 40, .inl (fun _ => 0))), (q2, .inl (G.2.1, 40, .inl (fun _ => 0))), (q3, .inl (G.2.1, 18, .inl (fun _ => 0))), (q4, .inl (G.2.1, 3, .inl (fun _ => 0))), (q5, .inl (G.2.1, 3, .inl (fun _ => 0))), (q6, .inl (G.2.1, 3, .inl (fun _ => 0)))] H := hP
  have hD : va_D A [(h0, .inr (1, [.ref q0, .ref q1, .ref q2, .ref q3, .int 0, .int 0, .int 0, .ref q4, .ref q5, .ref q6, .null, .null, .null, .null, .null])), (q0, .inl (G.2.1, 40, .inl (fun _ => 0))), (q1, .inl (G.2.1, 40, .inl (fun _ => 0))), (q2, .inl (G.2.1, 40, .inl (fun _ => 0))), (q3, .inl (G.2.1, 18, .inl (fun _ => 0))), (q4, .inl (G.2.1, 3, .inl (fun _ => 0))), (q5, .inl (G.2.1, 3, .inl (fun _ => 0))), (q6, .inl (G.2.1, 3, .inl (fun _ => 0)))] := hD
  refine lv_aload_n hx hb dX1_init_57 rfl (lv_at hl 0 rfl) ?_
  refine lv_bipush (v := nI 120) hx hb dX1_init_58 (by decide) ?_
  refine z_newa (n := 120) hx hb (hts (.arrayClass .int) (by decide +kernel)) hKK hP hD hS hA (by decide) (k9 := 8) (n9 := 267) rfl rfl (Nat.le_of_ble_eq_true rfl) (Nat.le_of_ble_eq_true rfl) dX1_init_60 (fun q7 H hP hD hS => ?_)
  have hP : va_P G.1 vwCl [(h0, .inr (1, [.ref q0, .ref q1, .ref q2, .ref q3, .int 0, .int 0, .int 0, .ref q4, .ref q5, .ref q6, .null, .null, .null, .null, .null])), (q0, .inl (G.2.1, 40, .inl (fun _ => 0))), (q1, .inl (G.2.1, 40, .inl (fun _ => 0))), (q2, .inl (G.2.1, 40, .inl (fun _ => 0))), (q3, .inl (G.2.1, 18, .inl (fun _ => 0))), (q4, .inl (G.2.1, 3, .inl (fun _ => 0))), (q5, .inl (G.2.1, 3, .inl (fun _ => 0))), (q6, .inl (G.2.1, 3, .inl (fun _ => 0))), (q7, .inl (G.2.1, 120, .inl (fun _ => 0)))] H := hP
  have hD : va_D A [(h0, .inr (1, [.ref q0, .ref q1, .ref q2, .ref q3, .int 0, .int 0, .int 0, .ref q4, .ref q5, .ref q6, .null, .null, .null, .null, .null])), (q0, .inl (G.2.1, 40, .inl (fun _ => 0))), (q1, .inl (G.2.1, 40, .inl (fun _ => 0))), (q2, .inl (G.2.1, 40, .inl (fun _ => 0))), (q3, .inl (G.2.1, 18, .inl (fun _ => 0))), (q4, .inl (G.2.1, 3, .inl (fun _ => 0))), (q5, .inl (G.2.1, 3, .inl (fun _ => 0))), (q6, .inl (G.2.1, 3, .inl (fun _ => 0))), (q7, .inl (G.2.1, 120, .inl (fun _ => 0)))] := hD
  refine va_putF (D := G.1) (ci := 1) (v := .ref q7) (ty := .array .int) (C := RX1) (T := TX1) (N := 15) hx hb hts hinX1 tyX1 tyX1_ok nmX1 hown hKK.1 hP hD hS 0 rfl rfl 10 (by decide) (hts (.fieldLink RX1 33 "NameRolls$Roll" "yearsThen" "[I") (by decide +kernel)) (fun _ h9 => h9) rfl hin rfl (by decide +kernel) rfl rfl (Nat.le_of_ble_eq_true rfl) dX1_init_62 (fun H locs hP hD hS => ?_)
  have hP : va_P G.1 vwCl [(h0, .inr (1, [.ref q0, .ref q1, .ref q2, .ref q3, .int 0, .int 0, .int 0, .ref q4, .ref q5, .ref q6, .ref q7, .null, .null, .null, .null])), (q0, .inl (G.2.1, 40, .inl (fun _ => 0))), (q1, .inl (G.2.1, 40, .inl (fun _ => 0))), (q2, .inl (G.2.1, 40, .inl (fun _ => 0))), (q3, .inl (G.2.1, 18, .inl (fun _ => 0))), (q4, .inl (G.2.1, 3, .inl (fun _ => 0))), (q5, .inl (G.2.1, 3, .inl (fun _ => 0))), (q6, .inl (G.2.1, 3, .inl (fun _ => 0))), (q7, .inl (G.2.1, 120, .inl (fun _ => 0)))] H := hP
  have hD : va_D A [(h0, .inr (1, [.ref q0, .ref q1, .ref q2, .ref q3, .int 0, .int 0, .int 0, .ref q4, .ref q5, .ref q6, .ref q7, .null, .null, .null, .null])), (q0, .inl (G.2.1, 40, .inl (fun _ => 0))), (q1, .inl (G.2.1, 40, .inl (fun _ => 0))), (q2, .inl (G.2.1, 40, .inl (fun _ => 0))), (q3, .inl (G.2.1, 18, .inl (fun _ => 0))), (q4, .inl (G.2.1, 3, .inl (fun _ => 0))), (q5, .inl (G.2.1, 3, .inl (fun _ => 0))), (q6, .inl (G.2.1, 3, .inl (fun _ => 0))), (q7, .inl (G.2.1, 120, .inl (fun _ => 0)))] := hD
  refine lv_aload_n hx hb dX1_init_65 rfl (lv_at hl 0 rfl) ?_
  refine lv_bipush (v := nI 120) hx hb dX1_init_66 (by decide) ?_
  refine z_newa (n := 120) hx hb (hts (.arrayClass .int) (by decide +kernel)) hKK hP hD hS hA (by decide) (k9 := 9) (n9 := 387) rfl rfl (Nat.le_of_ble_eq_true rfl) (Nat.le_of_ble_eq_true rfl) dX1_init_68 (fun q8 H hP hD hS => ?_)
  have hP : va_P G.1 vwCl [(h0, .inr (1, [.ref q0, .ref q1, .ref q2, .ref q3, .int 0, .int 0, .int 0, .ref q4, .ref q5, .ref q6, .ref q7, .null, .null, .null, .null])), (q0, .inl (G.2.1, 40, .inl (fun _ => 0))), (q1, .inl (G.2.1, 40, .inl (fun _ => 0))), (q2, .inl (G.2.1, 40, .inl (fun _ => 0))), (q3, .inl (G.2.1, 18, .inl (fun _ => 0))), (q4, .inl (G.2.1, 3, .inl (fun _ => 0))), (q5, .inl (G.2.1, 3, .inl (fun _ => 0))), (q6, .inl (G.2.1, 3, .inl (fun _ => 0))), (q7, .inl (G.2.1, 120, .inl (fun _ => 0))), (q8, .inl (G.2.1, 120, .inl (fun _ => 0)))] H := hP
  have hD : va_D A [(h0, .inr (1, [.ref q0, .ref q1, .ref q2, .ref q3, .int 0, .int 0, .int 0, .ref q4, .ref q5, .ref q6, .ref q7, .null, .null, .null, .null])), (q0, .inl (G.2.1, 40, .inl (fun _ => 0))), (q1, .inl (G.2.1, 40, .inl (fun _ => 0))), (q2, .inl (G.2.1, 40, .inl (fun _ => 0))), (q3, .inl (G.2.1, 18, .inl (fun _ => 0))), (q4, .inl (G.2.1, 3, .inl (fun _ => 0))), (q5, .inl (G.2.1, 3, .inl (fun _ => 0))), (q6, .inl (G.2.1, 3, .inl (fun _ => 0))), (q7, .inl (G.2.1, 120, .inl (fun _ => 0))), (q8, .inl (G.2.1, 120, .inl (fun _ => 0)))] := hD
  refine va_putF (D := G.1) (ci := 1) (v := .ref q8) (ty := .array .int) (C := RX1) (T := TX1) (N := 15) hx hb hts hinX1 tyX1 tyX1_ok nmX1 hown hKK.1 hP hD hS 0 rfl rfl 11 (by decide) (hts (.fieldLink RX1 36 "NameRolls$Roll" "numbersBehind" "[I") (by decide +kernel)) (fun _ h9 => h9) rfl hin rfl (by decide +kernel) rfl rfl (Nat.le_of_ble_eq_true rfl) dX1_init_70 (fun H locs hP hD hS => ?_)
  have hP : va_P G.1 vwCl [(h0, .inr (1, [.ref q0, .ref q1, .ref q2, .ref q3, .int 0, .int 0, .int 0, .ref q4, .ref q5, .ref q6, .ref q7, .ref q8, .null, .null, .null])), (q0, .inl (G.2.1, 40, .inl (fun _ => 0))), (q1, .inl (G.2.1, 40, .inl (fun _ => 0))), (q2, .inl (G.2.1, 40, .inl (fun _ => 0))), (q3, .inl (G.2.1, 18, .inl (fun _ => 0))), (q4, .inl (G.2.1, 3, .inl (fun _ => 0))), (q5, .inl (G.2.1, 3, .inl (fun _ => 0))), (q6, .inl (G.2.1, 3, .inl (fun _ => 0))), (q7, .inl (G.2.1, 120, .inl (fun _ => 0))), (q8, .inl (G.2.1, 120, .inl (fun _ => 0)))] H := hP
  have hD : va_D A [(h0, .inr (1, [.ref q0, .ref q1, .ref q2, .ref q3, .int 0, .int 0, .int 0, .ref q4, .ref q5, .ref q6, .ref q7, .ref q8, .null, .null, .null])), (q0, .inl (G.2.1, 40, .inl (fun _ => 0))), (q1, .inl (G.2.1, 40, .inl (fun _ => 0))), (q2, .inl (G.2.1, 40, .inl (fun _ => 0))), (q3, .inl (G.2.1, 18, .inl (fun _ => 0))), (q4, .inl (G.2.1, 3, .inl (fun _ => 0))), (q5, .inl (G.2.1, 3, .inl (fun _ => 0))), (q6, .inl (G.2.1, 3, .inl (fun _ => 0))), (q7, .inl (G.2.1, 120, .inl (fun _ => 0))), (q8, .inl (G.2.1, 120, .inl (fun _ => 0)))] := hD
  refine lv_aload_n hx hb dX1_init_73 rfl (lv_at hl 0 rfl) ?_
  refine lv_bipush (v := nI 120) hx hb dX1_init_74 (by decide) ?_
  refine z_newa (n := 120) hx hb (hts (.arrayClass .int) (by decide +kernel)) hKK hP hD hS hA (by decide) (k9 := 10) (n9 := 507) rfl rfl (Nat.le_of_ble_eq_true rfl) (Nat.le_of_ble_eq_true rfl) dX1_init_76 (fun q9 H hP hD hS => ?_)
  have hP : va_P G.1 vwCl [(h0, .inr (1, [.ref q0, .ref q1, .ref q2, .ref q3, .int 0, .int 0, .int 0, .ref q4, .ref q5, .ref q6, .ref q7, .ref q8, .null, .null, .null])), (q0, .inl (G.2.1, 40, .inl (fun _ => 0))), (q1, .inl (G.2.1, 40, .inl (fun _ => 0))), (q2, .inl (G.2.1, 40, .inl (fun _ => 0))), (q3, .inl (G.2.1, 18, .inl (fun _ => 0))), (q4, .inl (G.2.1, 3, .inl (fun _ => 0))), (q5, .inl (G.2.1, 3, .inl (fun _ => 0))), (q6, .inl (G.2.1, 3, .inl (fun _ => 0))), (q7, .inl (G.2.1, 120, .inl (fun _ => 0))), (q8, .inl (G.2.1, 120, .inl (fun _ => 0))), (q9, .inl (G.2.1, 120, .inl (fun _ => 0)))] H := hP
  have hD : va_D A [(h0, .inr (1, [.ref q0, .ref q1, .ref q2, .ref q3, .int 0, .int 0, .int 0, .ref q4, .ref q5, .ref q6, .ref q7, .ref q8, .null, .null, .null])), (q0, .inl (G.2.1, 40, .inl (fun _ => 0))), (q1, .inl (G.2.1, 40, .inl (fun _ => 0))), (q2, .inl (G.2.1, 40, .inl (fun _ => 0))), (q3, .inl (G.2.1, 18, .inl (fun _ => 0))), (q4, .inl (G.2.1, 3, .inl (fun _ => 0))), (q5, .inl (G.2.1, 3, .inl (fun _ => 0))), (q6, .inl (G.2.1, 3, .inl (fun _ => 0))), (q7, .inl (G.2.1, 120, .inl (fun _ => 0))), (q8, .inl (G.2.1, 120, .inl (fun _ => 0))), (q9, .inl (G.2.1, 120, .inl (fun _ => 0)))] := hD
  refine va_putF (D := G.1) (ci := 1) (v := .ref q9) (ty := .array .int) (C := RX1) (T := TX1) (N := 15) hx hb hts hinX1 tyX1 tyX1_ok nmX1 hown hKK.1 hP hD hS 0 rfl rfl 12 (by decide) (hts (.fieldLink RX1 39 "NameRolls$Roll" "yearsBehind" "[I") (by decide +kernel)) (fun _ h9 => h9) rfl hin rfl (by decide +kernel) rfl rfl (Nat.le_of_ble_eq_true rfl) dX1_init_78 (fun H locs hP hD hS => ?_)
  have hP : va_P G.1 vwCl [(h0, .inr (1, [.ref q0, .ref q1, .ref q2, .ref q3, .int 0, .int 0, .int 0, .ref q4, .ref q5, .ref q6, .ref q7, .ref q8, .ref q9, .null, .null])), (q0, .inl (G.2.1, 40, .inl (fun _ => 0))), (q1, .inl (G.2.1, 40, .inl (fun _ => 0))), (q2, .inl (G.2.1, 40, .inl (fun _ => 0))), (q3, .inl (G.2.1, 18, .inl (fun _ => 0))), (q4, .inl (G.2.1, 3, .inl (fun _ => 0))), (q5, .inl (G.2.1, 3, .inl (fun _ => 0))), (q6, .inl (G.2.1, 3, .inl (fun _ => 0))), (q7, .inl (G.2.1, 120, .inl (fun _ => 0))), (q8, .inl (G.2.1, 120, .inl (fun _ => 0))), (q9, .inl (G.2.1, 120, .inl (fun _ => 0)))] H := hP
  have hD : va_D A [(h0, .inr (1, [.ref q0, .ref q1, .ref q2, .ref q3, .int 0, .int 0, .int 0, .ref q4, .ref q5, .ref q6, .ref q7, .ref q8, .ref q9, .null, .null])), (q0, .inl (G.2.1, 40, .inl (fun _ => 0))), (q1, .inl (G.2.1, 40, .inl (fun _ => 0))), (q2, .inl (G.2.1, 40, .inl (fun _ => 0))), (q3, .inl (G.2.1, 18, .inl (fun _ => 0))), (q4, .inl (G.2.1, 3, .inl (fun _ => 0))), (q5, .inl (G.2.1, 3, .inl (fun _ => 0))), (q6, .inl (G.2.1, 3, .inl (fun _ => 0))), (q7, .inl (G.2.1, 120, .inl (fun _ => 0))), (q8, .inl (G.2.1, 120, .inl (fun _ => 0))), (q9, .inl (G.2.1, 120, .inl (fun _ => 0)))] := hD
  refine lv_aload_n hx hb dX1_init_81 rfl (lv_at hl 0 rfl) ?_
  refine lv_bipush (v := nI 40) hx hb dX1_init_82 (by decide) ?_
  refine z_newa (n := 40) hx hb (hts (.arrayClass .int) (by decide +kernel)) hKK hP hD hS hA (by decide) (k9 := 11) (n9 := 547) rfl rfl (Nat.le_of_ble_eq_true rfl) (Nat.le_of_ble_eq_true rfl) dX1_init_84 (fun q10 H hP hD hS => ?_)
  have hP : va_P G.1 vwCl [(h0, .inr (1, [.ref q0, .ref q1, .ref q2, .ref q3, .int 0, .int 0, .int 0, .ref q4, .ref q5, .ref q6, .ref q7, .ref q8, .ref q9, .null, .null])), (q0, .inl (G.2.1, 40, .inl (fun _ => 0))), (q1, .inl (G.2.1, 40, .inl (fun _ => 0))), (q2, .inl (G.2.1, 40, .inl (fun _ => 0))), (q3, .inl (G.2.1, 18, .inl (fun _ => 0))), (q4, .inl (G.2.1, 3, .inl (fun _ => 0))), (q5, .inl (G.2.1, 3, .inl (fun _ => 0))), (q6, .inl (G.2.1, 3, .inl (fun _ => 0))), (q7, .inl (G.2.1, 120, .inl (fun _ => 0))), (q8, .inl (G.2.1, 120, .inl (fun _ => 0))), (q9, .inl (G.2.1, 120, .inl (fun _ => 0))), (q10, .inl (G.2.1, 40, .inl (fun _ => 0)))] H := hP
  have hD : va_D A [(h0, .inr (1, [.ref q0, .ref q1, .ref q2, .ref q3, .int 0, .int 0, .int 0, .ref q4, .ref q5, .ref q6, .ref q7, .ref q8, .ref q9, .null, .null])), (q0, .inl (G.2.1, 40, .inl (fun _ => 0))), (q1, .inl (G.2.1, 40, .inl (fun _ => 0))), (q2, .inl (G.2.1, 40, .inl (fun _ => 0))), (q3, .inl (G.2.1, 18, .inl (fun _ => 0))), (q4, .inl (G.2.1, 3, .inl (fun _ => 0))), (q5, .inl (G.2.1, 3, .inl (fun _ => 0))), (q6, .inl (G.2.1, 3, .inl (fun _ => 0))), (q7, .inl (G.2.1, 120, .inl (fun _ => 0))), (q8, .inl (G.2.1, 120, .inl (fun _ => 0))), (q9, .inl (G.2.1, 120, .inl (fun _ => 0))), (q10, .inl (G.2.1, 40, .inl (fun _ => 0)))] := hD
  refine va_putF (D := G.1) (ci := 1) (v := .ref q10) (ty := .array .int) (C := RX1) (T := TX1) (N := 15) hx hb hts hinX1 tyX1 tyX1_ok nmX1 hown hKK.1 hP hD hS 0 rfl rfl 13 (by decide) (hts (.fieldLink RX1 42 "NameRolls$Roll" "oldNames" "[I") (by decide +kernel)) (fun _ h9 => h9) rfl hin rfl (by decide +kernel) rfl rfl (Nat.le_of_ble_eq_true rfl) dX1_init_86 (fun H locs hP hD hS => ?_)
  have hP : va_P G.1 vwCl [(h0, .inr (1, [.ref q0, .ref q1, .ref q2, .ref q3, .int 0, .int 0, .int 0, .ref q4, .ref q5, .ref q6, .ref q7, .ref q8, .ref q9, .ref q10, .null])), (q0, .inl (G.2.1, 40, .inl (fun _ => 0))), (q1, .inl (G.2.1, 40, .inl (fun _ => 0))), (q2, .inl (G.2.1, 40, .inl (fun _ => 0))), (q3, .inl (G.2.1, 18, .inl (fun _ => 0))), (q4, .inl (G.2.1, 3, .inl (fun _ => 0))), (q5, .inl (G.2.1, 3, .inl (fun _ => 0))), (q6, .inl (G.2.1, 3, .inl (fun _ => 0))), (q7, .inl (G.2.1, 120, .inl (fun _ => 0))), (q8, .inl (G.2.1, 120, .inl (fun _ => 0))), (q9, .inl (G.2.1, 120, .inl (fun _ => 0))), (q10, .inl (G.2.1, 40, .inl (fun _ => 0)))] H := hP
  have hD : va_D A [(h0, .inr (1, [.ref q0, .ref q1, .ref q2, .ref q3, .int 0, .int 0, .int 0, .ref q4, .ref q5, .ref q6, .ref q7, .ref q8, .ref q9, .ref q10, .null])), (q0, .inl (G.2.1, 40, .inl (fun _ => 0))), (q1, .inl (G.2.1, 40, .inl (fun _ => 0))), (q2, .inl (G.2.1, 40, .inl (fun _ => 0))), (q3, .inl (G.2.1, 18, .inl (fun _ => 0))), (q4, .inl (G.2.1, 3, .inl (fun _ => 0))), (q5, .inl (G.2.1, 3, .inl (fun _ => 0))), (q6, .inl (G.2.1, 3, .inl (fun _ => 0))), (q7, .inl (G.2.1, 120, .inl (fun _ => 0))), (q8, .inl (G.2.1, 120, .inl (fun _ => 0))), (q9, .inl (G.2.1, 120, .inl (fun _ => 0))), (q10, .inl (G.2.1, 40, .inl (fun _ => 0)))] := hD
  refine lv_aload_n hx hb dX1_init_89 rfl (lv_at hl 0 rfl) ?_
  refine lv_bipush (v := nI 40) hx hb dX1_init_90 (by decide) ?_
  refine z_newa (n := 40) hx hb (hts (.arrayClass .int) (by decide +kernel)) hKK hP hD hS hA (by decide) (k9 := 12) (n9 := 587) rfl rfl (Nat.le_of_ble_eq_true rfl) (Nat.le_of_ble_eq_true rfl) dX1_init_92 (fun q11 H hP hD hS => ?_)
  have hP : va_P G.1 vwCl [(h0, .inr (1, [.ref q0, .ref q1, .ref q2, .ref q3, .int 0, .int 0, .int 0, .ref q4, .ref q5, .ref q6, .ref q7, .ref q8, .ref q9, .ref q10, .null])), (q0, .inl (G.2.1, 40, .inl (fun _ => 0))), (q1, .inl (G.2.1, 40, .inl (fun _ => 0))), (q2, .inl (G.2.1, 40, .inl (fun _ => 0))), (q3, .inl (G.2.1, 18, .inl (fun _ => 0))), (q4, .inl (G.2.1, 3, .inl (fun _ => 0))), (q5, .inl (G.2.1, 3, .inl (fun _ => 0))), (q6, .inl (G.2.1, 3, .inl (fun _ => 0))), (q7, .inl (G.2.1, 120, .inl (fun _ => 0))), (q8, .inl (G.2.1, 120, .inl (fun _ => 0))), (q9, .inl (G.2.1, 120, .inl (fun _ => 0))), (q10, .inl (G.2.1, 40, .inl (fun _ => 0))), (q11, .inl (G.2.1, 40, .inl (fun _ => 0)))] H := hP
  have hD : va_D A [(h0, .inr (1, [.ref q0, .ref q1, .ref q2, .ref q3, .int 0, .int 0, .int 0, .ref q4, .ref q5, .ref q6, .ref q7, .ref q8, .ref q9, .ref q10, .null])), (q0, .inl (G.2.1, 40, .inl (fun _ => 0))), (q1, .inl (G.2.1, 40, .inl (fun _ => 0))), (q2, .inl (G.2.1, 40, .inl (fun _ => 0))), (q3, .inl (G.2.1, 18, .inl (fun _ => 0))), (q4, .inl (G.2.1, 3, .inl (fun _ => 0))), (q5, .inl (G.2.1, 3, .inl (fun _ => 0))), (q6, .inl (G.2.1, 3, .inl (fun _ => 0))), (q7, .inl (G.2.1, 120, .inl (fun _ => 0))), (q8, .inl (G.2.1, 120, .inl (fun _ => 0))), (q9, .inl (G.2.1, 120, .inl (fun _ => 0))), (q10, .inl (G.2.1, 40, .inl (fun _ => 0))), (q11, .inl (G.2.1, 40, .inl (fun _ => 0)))] := hD
  refine va_putF (D := G.1) (ci := 1) (v := .ref q11) (ty := .array .int) (C := RX1) (T := TX1) (N := 15) hx hb hts hinX1 tyX1 tyX1_ok nmX1 hown hKK.1 hP hD hS 0 rfl rfl 14 (by decide) (hts (.fieldLink RX1 45 "NameRolls$Roll" "oldUsers" "[I") (by decide +kernel)) (fun _ h9 => h9) rfl hin rfl (by decide +kernel) rfl rfl (Nat.le_of_ble_eq_true rfl) dX1_init_94 (fun H locs hP hD hS => ?_)
  have hP : va_P G.1 vwCl [(h0, .inr (1, [.ref q0, .ref q1, .ref q2, .ref q3, .int 0, .int 0, .int 0, .ref q4, .ref q5, .ref q6, .ref q7, .ref q8, .ref q9, .ref q10, .ref q11])), (q0, .inl (G.2.1, 40, .inl (fun _ => 0))), (q1, .inl (G.2.1, 40, .inl (fun _ => 0))), (q2, .inl (G.2.1, 40, .inl (fun _ => 0))), (q3, .inl (G.2.1, 18, .inl (fun _ => 0))), (q4, .inl (G.2.1, 3, .inl (fun _ => 0))), (q5, .inl (G.2.1, 3, .inl (fun _ => 0))), (q6, .inl (G.2.1, 3, .inl (fun _ => 0))), (q7, .inl (G.2.1, 120, .inl (fun _ => 0))), (q8, .inl (G.2.1, 120, .inl (fun _ => 0))), (q9, .inl (G.2.1, 120, .inl (fun _ => 0))), (q10, .inl (G.2.1, 40, .inl (fun _ => 0))), (q11, .inl (G.2.1, 40, .inl (fun _ => 0)))] H := hP
  have hD : va_D A [(h0, .inr (1, [.ref q0, .ref q1, .ref q2, .ref q3, .int 0, .int 0, .int 0, .ref q4, .ref q5, .ref q6, .ref q7, .ref q8, .ref q9, .ref q10, .ref q11])), (q0, .inl (G.2.1, 40, .inl (fun _ => 0))), (q1, .inl (G.2.1, 40, .inl (fun _ => 0))), (q2, .inl (G.2.1, 40, .inl (fun _ => 0))), (q3, .inl (G.2.1, 18, .inl (fun _ => 0))), (q4, .inl (G.2.1, 3, .inl (fun _ => 0))), (q5, .inl (G.2.1, 3, .inl (fun _ => 0))), (q6, .inl (G.2.1, 3, .inl (fun _ => 0))), (q7, .inl (G.2.1, 120, .inl (fun _ => 0))), (q8, .inl (G.2.1, 120, .inl (fun _ => 0))), (q9, .inl (G.2.1, 120, .inl (fun _ => 0))), (q10, .inl (G.2.1, 40, .inl (fun _ => 0))), (q11, .inl (G.2.1, 40, .inl (fun _ => 0)))] := hD
  refine lv_aload_n hx hb dX1_init_97 rfl (lv_at hl 0 rfl) ?_
  refine va_get (D := G.1) (ci := 1) (v := .ref q3) (C := RX1) (T := TX1) (N := 15) hx hb hts hinX1 hown hKK.1 hP 0 rfl rfl 3 (by decide) (hts (.fieldLink RX1 21 "NameRolls$Roll" "cells" "[I") (by decide +kernel)) (fun _ h9 => h9) rfl dX1_init_98 ?_
  refine lv_iconst (v := (-1)) hx hb dX1_init_101 (by decide) ?_
  refine z_callSV_at (As := [.ref q3, .int (-1)]) (rest := []) 4 F (c_J7_fill l G _ 18 (by decide) (-1) (fun _ => 0)) (va_cwS 2 hts gX1_init_J7_fill_53178 rfl rfl rfl (by decide +kernel) ⟨Nat.le_of_ble_eq_true rfl, Nat.le_of_ble_eq_true rfl⟩) hKK hP hD hS hA rfl (w2 := [(h0, .inr (1, [.ref q0, .ref q1, .ref q2, .ref q3, .int 0, .int 0, .int 0, .ref q4, .ref q5, .ref q6, .ref q7, .ref q8, .ref q9, .ref q10, .ref q11])), (q0, .inl (G.2.1, 40, .inl (fun _ => 0))), (q1, .inl (G.2.1, 40, .inl (fun _ => 0))), (q2, .inl (G.2.1, 40, .inl (fun _ => 0))), (q3, .inl (G.2.1, 18, .inl (zFillA 18 (-1) (fun _ => 0)))), (q4, .inl (G.2.1, 3, .inl (fun _ => 0))), (q5, .inl (G.2.1, 3, .inl (fun _ => 0))), (q6, .inl (G.2.1, 3, .inl (fun _ => 0))), (q7, .inl (G.2.1, 120, .inl (fun _ => 0))), (q8, .inl (G.2.1, 120, .inl (fun _ => 0))), (q9, .inl (G.2.1, 120, .inl (fun _ => 0))), (q10, .inl (G.2.1, 40, .inl (fun _ => 0))), (q11, .inl (G.2.1, 40, .inl (fun _ => 0)))]) rfl rfl hl.1 rfl (Nat.le_of_ble_eq_true rfl) ⟨Nat.le_of_ble_eq_true rfl, Nat.le_of_ble_eq_true rfl⟩ dX1_init_102 (fun H locs hP hD hS => ?_)
  exact z_vretN (aOf [h0, q0, q1, q2, q3, q4, q5, q6, q7, q8, q9, q10, q11]) hx hb hr hlk hP hD hS dX1_init_105 rfl

set_option maxHeartbeats 4000000 in
set_option maxRecDepth 100000 in
theorem c_X2_init (l : Launch) (G : ZG) (h0 : Nat) : CN l G yX2_init wsX2_init ({ frames := 1, cells := 1, slots := 60, locals := 20 } : Room) [.ref h0] [(h0, .inr (2, [.null, .int 0]))] (S := Nat → Nat) (fun x => x 0 = h0) (fun x => textW G x zeroM zeroN) 1 60 := by
  refine CN.ent (cc := cX2_init) (maxL := 1) (own := RX2) (by decide) rfl rfl (Nat.le_of_ble_eq_true rfl) ?_
  intro p ee s m args below meth c A ls F hr hlk hin hKK hP hD hA hS hl
  obtain ⟨hx, hb, hml, hown, hts⟩ := id F
  have hl : lv_has ls 1 [(0, .ref h0)] := hl
  have hinX2 : ∀ w ∈ wsX20, w ∈ wsX2_init := by decide +kernel
  refine lv_aload_n hx hb dX2_init_0 rfl (lv_at hl 0 rfl) ?_
  refine W.objInit hx hb hown (hts (.methodLink RX2 3 objectInit) (by decide +kernel)) (hts (.instanceMethod objectInit) (by decide +kernel)) (hts (.code objectInit ⟨#[0xb1]⟩ 1 none) (by decide +kernel)) rfl (hl.1.trans hml.symm) rfl dX2_init_1 (Nat.le_of_ble_eq_true rfl) (Nat.le_of_ble_eq_true rfl) ?_
  change W p l ee _ s m args below meth c _ _ _ _ _ (F0 m 4 ls [])
  refine lv_aload_n hx hb dX2_init_4 rfl (lv_at hl 0 rfl) ?_
  refine lv_bipush (v := nI 60) hx hb dX2_init_5 (by decide) ?_
  refine z_newc (n := 60) hx hb (hts (.arrayClass .char) (by decide +kernel)) hKK hP hD hS hA (by decide) (k9 := 1) (n9 := 60) rfl rfl (Nat.le_of_ble_eq_true rfl) (Nat.le_of_ble_eq_true rfl) dX2_init_7 (fun q0 H hP hD hS => ?_)
  have hP : va_P G.1 vwCl [(h0, .inr (2, [.null, .int 0])), (q0, .inl (G.2.2.1, 60, .inl (fun _ => 0)))] H := hP
  have hD : va_D A [(h0, .inr (2, [.null, .int 0])), (q0, .inl (G.2.2.1, 60, .inl (fun _ => 0)))] := hD
  refine va_putF (D := G.1) (ci := 2) (v := .ref q0) (ty := .array .char) (C := RX2) (T := TX2) (N := 2) hx hb hts hinX2 tyX2 tyX2_ok nmX2 hown hKK.1 hP hD hS 0 rfl rfl 0 (by decide) (hts (.fieldLink RX2 9 "NameRolls$Text" "signs" "[C") (by decide +kernel)) (fun _ h9 => h9) rfl hin rfl (by decide +kernel) rfl rfl (Nat.le_of_ble_eq_true rfl) dX2_init_9 (fun H locs hP hD hS => ?_)
  have hP : va_P G.1 vwCl [(h0, .inr (2, [.ref q0, .int 0])), (q0, .inl (G.2.2.1, 60, .inl (fun _ => 0)))] H := hP
  have hD : va_D A [(h0, .inr (2, [.ref q0, .int 0])), (q0, .inl (G.2.2.1, 60, .inl (fun _ => 0)))] := hD
  exact z_vretN (aOf [h0, q0]) hx hb hr hlk hP hD hS dX2_init_12 rfl

set_option maxHeartbeats 4000000 in
set_option maxRecDepth 100000 in
theorem c_X0_init (l : Launch) (G : ZG) (h0 : Nat) : CN l G yX0_init wsX0_init ({ frames := 2, cells := 13, slots := 602, locals := 43 } : Room) [.ref h0] [(h0, .inr (0, [.null, .int 0, .int 0, .int 0, .int 0, .int 0, .int 0, .int 0, .int 0, .int 0, .int 0, .int 0]))] (S := Nat → Nat) (fun _ => True) (fun x => playW G h0 (x 0) zeroN ++ rollW G x rollZ) 13 602 := by
  refine CN.ent (cc := cX0_init) (maxL := 1) (own := RX0) (by decide) rfl rfl (Nat.le_of_ble_eq_true rfl) ?_
  intro p ee s m args below meth c A ls F hr hlk hin hKK hP hD hA hS hl
  obtain ⟨hx, hb, hml, hown, hts⟩ := id F
  have hl : lv_has ls 1 [(0, .ref h0)] := hl
  have hinX0 : ∀ w ∈ wsX00, w ∈ wsX0_init := by decide +kernel
  refine lv_aload_n hx hb dX0_init_0 rfl (lv_at hl 0 rfl) ?_
  refine W.objInit hx hb hown (hts (.methodLink RX0 3 objectInit) (by decide +kernel)) (hts (.instanceMethod objectInit) (by decide +kernel)) (hts (.code objectInit ⟨#[0xb1]⟩ 1 none) (by decide +kernel)) rfl (hl.1.trans hml.symm) rfl dX0_init_1 (Nat.le_of_ble_eq_true rfl) (Nat.le_of_ble_eq_true rfl) ?_
  change W p l ee _ s m args below meth c _ _ _ _ _ (F0 m 4 ls [])
  refine lv_aload_n hx hb dX0_init_4 rfl (lv_at hl 0 rfl) ?_
  refine va_new (ci := 1) (fs := [.null, .null, .null, .null, .int 0, .int 0, .int 0, .null, .null, .null, .null, .null, .null, .null, .null]) (C := RX1) (T := TX1) (N := 15) hx hb hts (by decide +kernel : ∀ w ∈ wsX10, w ∈ wsX0_init) tyX1 tyX1_ok hown (hts (.classLink RX0 9 RX1) (by decide +kernel)) (hts (.instantiable RX1 15) (by decide +kernel)) (hts (.initialized RX1) (by decide +kernel)) hKK.1 hP hD hS hA rfl dflX1 (Nat.le_of_ble_eq_true rfl) (Nat.le_of_ble_eq_true rfl) dX0_init_5 (fun q0 H hP hD hS => ?_)
  refine W.widen (k := 1) (n := 15) (Nat.le_of_ble_eq_true rfl) (Nat.le_of_ble_eq_true rfl) ?_
  have hP : va_P G.1 vwCl ([(h0, .inr (0, [.null, .int 0, .int 0, .int 0, .int 0, .int 0, .int 0, .int 0, .int 0, .int 0, .int 0, .int 0]))] ++ [(q0, .inr (1, [.null, .null, .null, .null, .int 0, .int 0, .int 0, .null, .null, .null, .null, .null, .null, .null, .null]))]) H := hP
  have hD : va_D A ([(h0, .inr (0, [.null, .int 0, .int 0, .int 0, .int 0, .int 0, .int 0, .int 0, .int 0, .int 0, .int 0, .int 0]))] ++ [(q0, .inr (1, [.null, .null, .null, .null, .int 0, .int 0, .int 0, .null, .null, .null, .null, .null, .null, .null, .null]))]) := hD
  refine lv_dup hx hb dX0_init_8 rfl ?_
  refine z_callN (As := []) (rest := [.ref q0, .ref h0]) (wr := [(h0, .inr (0, [.null, .int 0, .int 0, .int 0, .int 0, .int 0, .int 0, .int 0, .int 0, .int 0, .int 0, .int 0]))]) F (c_X1_init l G q0) (cwI 0 hts gX0_init_X1_init rfl rfl rfl (hts (.initialized RX1) (by decide +kernel)) (hts (.methodLink RX0 11 yX1_init) (by decide +kernel)) (hts (.instanceMethod yX1_init) (by decide +kernel)) rfl (by decide +kernel) ⟨Nat.le_of_ble_eq_true rfl, Nat.le_of_ble_eq_true rfl⟩) hKK hP hD hS hA rfl hl.1 rfl (Nat.le_of_ble_eq_true rfl) (k9 := 13) (n9 := 602) rfl rfl (Nat.le_of_ble_eq_true rfl) (Nat.le_of_ble_eq_true rfl) dX0_init_9 (fun u1 H locs hq hP9 hD9 hS9 => ?_)
  subst hq
  have hP : va_P G.1 vwCl ([(h0, .inr (0, [.null, .int 0, .int 0, .int 0, .int 0, .int 0, .int 0, .int 0, .int 0, .int 0, .int 0, .int 0]))] ++ rollW G u1 rollZ) H := hP9
  have hD : va_D A ([(h0, .inr (0, [.null, .int 0, .int 0, .int 0, .int 0, .int 0, .int 0, .int 0, .int 0, .int 0, .int 0, .int 0]))] ++ rollW G u1 rollZ) := hD9
  have hS : va_S A s.heap H locs := hS9
  refine va_putF (D := G.1) (ci := 0) (v := .ref (u1 0)) (ty := .object "NameRolls$Roll") (C := RX0) (T := TX0) (N := 12) hx hb hts hinX0 tyX0 tyX0_ok nmX0 hown hKK.1 hP hD hS 0 rfl rfl 0 (by decide) (hts (.fieldLink RX0 12 "NameRolls$Player" "trial" "LNameRolls$Roll;") (by decide +kernel)) (fun _ h9 => h9) rfl hin rfl (by decide +kernel) rfl rfl (Nat.le_of_ble_eq_true rfl) dX0_init_12 (fun H locs hP hD hS => ?_)
  have hP : va_P G.1 vwCl ([(h0, .inr (0, [.ref (u1 0), .int 0, .int 0, .int 0, .int 0, .int 0, .int 0, .int 0, .int 0, .int 0, .int 0, .int 0]))] ++ rollW G u1 rollZ) H := hP
  have hD : va_D A ([(h0, .inr (0, [.ref (u1 0), .int 0, .int 0, .int 0, .int 0, .int 0, .int 0, .int 0, .int 0, .int 0, .int 0, .int 0]))] ++ rollW G u1 rollZ) := hD
  exact z_vretN u1 hx hb hr hlk hP hD hS dX0_init_15 trivial

theorem pn_new {α : Type} (o a pr t p d x0 x1 x2 x3 : List α) : ((((((((o ++ a) ++ pr) ++ t) ++ (p ++ d)) ++ x0) ++ x1) ++ x2) ++ x3).Perm ((o ++ pr) ++ (p ++ (t ++ (a ++ (d ++ (x0 ++ (x1 ++ (x2 ++ x3)))))))) := by
  haveI : DecidableEq α := fun x y => Classical.propDecidable (x = y)
  refine List.perm_iff_count.mpr (fun z => ?_)
  simp only [List.count_append]
  omega

set_option maxHeartbeats 4000000 in
set_option maxRecDepth 100000 in
theorem c_X3_init (l : Launch) (G : ZG) (h0 : Nat) : CNA l G yX3_init wsX3_init ({ frames := 3, cells := 82, slots := 3690, locals := 63 } : Room) [.ref h0] [(h0, .inr (3, [.null, .null, .int 0, .null, .null]))] (S := Nat × Nat × (Nat → Nat) × (Nat → Nat) × (Nat → Nat) × (Nat → Nat → Nat)) (fun _ => True) (fun x => nrW G h0 x.1 x.2.1 x.2.2.1 x.2.2.2.1 x.2.2.2.2.1 x.2.2.2.2.2 zeroN zeroN zeroN zeroM rollZ rollZ (fun _ => rollZ)) 82 3690 := by
  refine CNA.ent (cc := cX3_init) (maxL := 2) (own := RX3) (by decide) rfl rfl (Nat.le_of_ble_eq_true rfl) ?_
  intro p ee s m args below meth c A ls F hr hlk hin hKK hAO hP hD hA hS hl
  obtain ⟨hx, hb, hml, hown, hts⟩ := id F
  have hl : lv_has ls 2 [(0, .ref h0)] := hl
  have hinX3 : ∀ w ∈ wsX30, w ∈ wsX3_init := by decide +kernel
  refine lv_aload_n hx hb dX3_init_0 rfl (lv_at hl 0 rfl) ?_
  refine W.objInit hx hb hown (hts (.methodLink RX3 1 objectInit) (by decide +kernel)) (hts (.instanceMethod objectInit) (by decide +kernel)) (hts (.code objectInit ⟨#[0xb1]⟩ 1 none) (by decide +kernel)) rfl (hl.1.trans hml.symm) rfl dX3_init_1 (Nat.le_of_ble_eq_true rfl) (Nat.le_of_ble_eq_true rfl) ?_
  change W p l ee _ s m args below meth c _ _ _ _ _ (F0 m 4 ls [])
  refine lv_aload_n hx hb dX3_init_4 rfl (lv_at hl 0 rfl) ?_
  refine va_new (ci := 1) (fs := [.null, .null, .null, .null, .int 0, .int 0, .int 0, .null, .null, .null, .null, .null, .null, .null, .null]) (C := RX1) (T := TX1) (N := 15) hx hb hts (by decide +kernel : ∀ w ∈ wsX10, w ∈ wsX3_init) tyX1 tyX1_ok hown (hts (.classLink RX3 7 RX1) (by decide +kernel)) (hts (.instantiable RX1 15) (by decide +kernel)) (hts (.initialized RX1) (by decide +kernel)) hKK.1 hP hD hS hA rfl dflX1 (Nat.le_of_ble_eq_true rfl) (Nat.le_of_ble_eq_true rfl) dX3_init_5 (fun q0 H hP hD hS => ?_)
  refine W.widen (k := 1) (n := 15) (Nat.le_of_ble_eq_true rfl) (Nat.le_of_ble_eq_true rfl) ?_
  have hP : va_P G.1 vwCl ([(h0, .inr (3, [.null, .null, .int 0, .null, .null]))] ++ [(q0, .inr (1, [.null, .null, .null, .null, .int 0, .int 0, .int 0, .null, .null, .null, .null, .null, .null, .null, .null]))]) H := hP
  have hD : va_D A ([(h0, .inr (3, [.null, .null, .int 0, .null, .null]))] ++ [(q0, .inr (1, [.null, .null, .null, .null, .int 0, .int 0, .int 0, .null, .null, .null, .null, .null, .null, .null, .null]))]) := hD
  refine lv_dup hx hb dX3_init_8 rfl ?_
  refine z_callN (As := []) (rest := [.ref q0, .ref h0]) (wr := [(h0, .inr (3, [.null, .null, .int 0, .null, .null]))]) F (c_X1_init l G q0) (cwI 0 hts gX3_init_X1_init rfl rfl rfl (hts (.initialized RX1) (by decide +kernel)) (hts (.methodLink RX3 9 yX1_init) (by decide +kernel)) (hts (.instanceMethod yX1_init) (by decide +kernel)) rfl (by decide +kernel) ⟨Nat.le_of_ble_eq_true rfl, Nat.le_of_ble_eq_true rfl⟩) hKK hP hD hS hA rfl hl.1 rfl (Nat.le_of_ble_eq_true rfl) (k9 := 13) (n9 := 602) rfl rfl (Nat.le_of_ble_eq_true rfl) (Nat.le_of_ble_eq_true rfl) dX3_init_9 (fun u1 H locs hq hP9 hD9 hS9 => ?_)
  subst hq
  have hP : va_P G.1 vwCl ([(h0, .inr (3, [.null, .null, .int 0, .null, .null]))] ++ rollW G u1 rollZ) H := hP9
  have hD : va_D A ([(h0, .inr (3, [.null, .null, .int 0, .null, .null]))] ++ rollW G u1 rollZ) := hD9
  have hS : va_S A s.heap H locs := hS9
  refine va_putF (D := G.1) (ci := 3) (v := .ref (u1 0)) (ty := .object "NameRolls$Roll") (C := RX3) (T := TX3) (N := 5) hx hb hts hinX3 tyX3 tyX3_ok nmX3 hown hKK.1 hP hD hS 0 rfl rfl 0 (by decide) (hts (.fieldLink RX3 10 "NameRolls" "now" "LNameRolls$Roll;") (by decide +kernel)) (fun _ h9 => h9) rfl hin rfl (by decide +kernel) rfl rfl (Nat.le_of_ble_eq_true rfl) dX3_init_12 (fun H locs hP hD hS => ?_)
  have hP : va_P G.1 vwCl ([(h0, .inr (3, [.ref (u1 0), .null, .int 0, .null, .null]))] ++ rollW G u1 rollZ) H := hP
  have hD : va_D A ([(h0, .inr (3, [.ref (u1 0), .null, .int 0, .null, .null]))] ++ rollW G u1 rollZ) := hD
  refine lv_aload_n hx hb dX3_init_15 rfl (lv_at hl 0 rfl) ?_
  refine lv_iconst (v := nI 4) hx hb dX3_init_16 (by decide) ?_
  refine z_newq (n := 4) hx hb hown (hts (.classLink RX3 7 RX1) (by decide +kernel)) hAO hKK hP hD hS hA (by decide) (k9 := 14) (n9 := 606) rfl rfl (Nat.le_of_ble_eq_true rfl) (Nat.le_of_ble_eq_true rfl) dX3_init_17 (fun q2 H hP hD hS => ?_)
  have hP : va_P G.1 vwCl (([(h0, .inr (3, [.ref (u1 0), .null, .int 0, .null, .null]))] ++ rollW G u1 rollZ) ++ [(q2, .inl (G.2.2.2, 4, .inr (.inr (.inr (.inr (fun _ => none))))))]) H := hP
  have hD : va_D A (([(h0, .inr (3, [.ref (u1 0), .null, .int 0, .null, .null]))] ++ rollW G u1 rollZ) ++ [(q2, .inl (G.2.2.2, 4, .inr (.inr (.inr (.inr (fun _ => none))))))]) := hD
  refine va_putF (D := G.1) (ci := 3) (v := .ref q2) (ty := .array (.object RX1)) (C := RX3) (T := TX3) (N := 5) hx hb hts hinX3 tyX3 tyX3_ok nmX3 hown hKK.1 hP hD hS 0 rfl rfl 1 (by decide) (hts (.fieldLink RX3 16 "NameRolls" "past" "[LNameRolls$Roll;") (by decide +kernel)) (fun _ h9 => h9) rfl hin rfl (by decide +kernel) rfl rfl (Nat.le_of_ble_eq_true rfl) dX3_init_20 (fun H locs hP hD hS => ?_)
  have hP : va_P G.1 vwCl (([(h0, .inr (3, [.ref (u1 0), .ref q2, .int 0, .null, .null]))] ++ rollW G u1 rollZ) ++ [(q2, .inl (G.2.2.2, 4, .inr (.inr (.inr (.inr (fun _ => none))))))]) H := hP
  have hD : va_D A (([(h0, .inr (3, [.ref (u1 0), .ref q2, .int 0, .null, .null]))] ++ rollW G u1 rollZ) ++ [(q2, .inl (G.2.2.2, 4, .inr (.inr (.inr (.inr (fun _ => none))))))]) := hD
  refine lv_aload_n hx hb dX3_init_23 rfl (lv_at hl 0 rfl) ?_
  refine va_new (ci := 2) (fs := [.null, .int 0]) (C := RX2) (T := TX2) (N := 2) hx hb hts (by decide +kernel : ∀ w ∈ wsX20, w ∈ wsX3_init) tyX2 tyX2_ok hown (hts (.classLink RX3 20 RX2) (by decide +kernel)) (hts (.instantiable RX2 2) (by decide +kernel)) (hts (.initialized RX2) (by decide +kernel)) hKK.1 hP hD hS hA rfl dflX2 (Nat.le_of_ble_eq_true rfl) (Nat.le_of_ble_eq_true rfl) dX3_init_24 (fun q3 H hP hD hS => ?_)
  refine W.widen (k := 15) (n := 608) (Nat.le_of_ble_eq_true rfl) (Nat.le_of_ble_eq_true rfl) ?_
  have hP : va_P G.1 vwCl ((([(h0, .inr (3, [.ref (u1 0), .ref q2, .int 0, .null, .null]))] ++ rollW G u1 rollZ) ++ [(q2, .inl (G.2.2.2, 4, .inr (.inr (.inr (.inr (fun _ => none))))))]) ++ [(q3, .inr (2, [.null, .int 0]))]) H := hP
  have hD : va_D A ((([(h0, .inr (3, [.ref (u1 0), .ref q2, .int 0, .null, .null]))] ++ rollW G u1 rollZ) ++ [(q2, .inl (G.2.2.2, 4, .inr (.inr (.inr (.inr (fun _ => none))))))]) ++ [(q3, .inr (2, [.null, .int 0]))]) := hD
  refine lv_dup hx hb dX3_init_27 rfl ?_
  refine z_callNN (As := []) (rest := [.ref q3, .ref h0]) (wr := (([(h0, .inr (3, [.ref (u1 0), .ref q2, .int 0, .null, .null]))] ++ rollW G u1 rollZ) ++ [(q2, .inl (G.2.2.2, 4, .inr (.inr (.inr (.inr (fun _ => none))))))])) F (c_X2_init l G q3) ⟨va_cnB 0 hts gX3_init_X2_init_n22 rfl rfl rfl hKK.2.2.2.2.2.1 (hts (.initialized RX2) (by decide +kernel)) (by decide +kernel) ⟨Nat.le_of_ble_eq_true rfl, Nat.le_of_ble_eq_true rfl⟩, rfl, hts (.instanceMethod yX2_init) (by decide +kernel)⟩ hKK hP hD hS hA rfl hl.1 rfl (Nat.le_of_ble_eq_true rfl) (k9 := 16) (n9 := 668) rfl rfl (Nat.le_of_ble_eq_true rfl) (Nat.le_of_ble_eq_true rfl) dX3_init_28 (fun u4 H locs hq hP9 hD9 hS9 => ?_)
  subst hq
  have hP : va_P G.1 vwCl ((([(h0, .inr (3, [.ref (u1 0), .ref q2, .int 0, .null, .null]))] ++ rollW G u1 rollZ) ++ [(q2, .inl (G.2.2.2, 4, .inr (.inr (.inr (.inr (fun _ => none))))))]) ++ textW G u4 zeroM zeroN) H := hP9
  have hD : va_D A ((([(h0, .inr (3, [.ref (u1 0), .ref q2, .int 0, .null, .null]))] ++ rollW G u1 rollZ) ++ [(q2, .inl (G.2.2.2, 4, .inr (.inr (.inr (.inr (fun _ => none))))))]) ++ textW G u4 zeroM zeroN) := hD9
  have hS : va_S A s.heap H locs := hS9
  refine va_putF (D := G.1) (ci := 3) (v := .ref (u4 0)) (ty := .object "NameRolls$Text") (C := RX3) (T := TX3) (N := 5) hx hb hts hinX3 tyX3 tyX3_ok nmX3 hown hKK.1 hP hD hS 0 rfl rfl 3 (by decide) (hts (.fieldLink RX3 23 "NameRolls" "text" "LNameRolls$Text;") (by decide +kernel)) (fun _ h9 => h9) rfl hin rfl (by decide +kernel) rfl rfl (Nat.le_of_ble_eq_true rfl) dX3_init_31 (fun H locs hP hD hS => ?_)
  have hP : va_P G.1 vwCl ((([(h0, .inr (3, [.ref (u1 0), .ref q2, .int 0, .ref (u4 0), .null]))] ++ rollW G u1 rollZ) ++ [(q2, .inl (G.2.2.2, 4, .inr (.inr (.inr (.inr (fun _ => none))))))]) ++ textW G u4 zeroM zeroN) H := hP
  have hD : va_D A ((([(h0, .inr (3, [.ref (u1 0), .ref q2, .int 0, .ref (u4 0), .null]))] ++ rollW G u1 rollZ) ++ [(q2, .inl (G.2.2.2, 4, .inr (.inr (.inr (.inr (fun _ => none))))))]) ++ textW G u4 zeroM zeroN) := hD
  refine lv_aload_n hx hb dX3_init_34 rfl (lv_at hl 0 rfl) ?_
  refine va_new (ci := 0) (fs := [.null, .int 0, .int 0, .int 0, .int 0, .int 0, .int 0, .int 0, .int 0, .int 0, .int 0, .int 0]) (C := RX0) (T := TX0) (N := 12) hx hb hts (by decide +kernel : ∀ w ∈ wsX00, w ∈ wsX3_init) tyX0 tyX0_ok hown (hts (.classLink RX3 27 RX0) (by decide +kernel)) (hts (.instantiable RX0 12) (by decide +kernel)) (hts (.initialized RX0) (by decide +kernel)) hKK.1 hP hD hS hA rfl dflX0 (Nat.le_of_ble_eq_true rfl) (Nat.le_of_ble_eq_true rfl) dX3_init_35 (fun q5 H hP hD hS => ?_)
  refine W.widen (k := 17) (n := 680) (Nat.le_of_ble_eq_true rfl) (Nat.le_of_ble_eq_true rfl) ?_
  have hP : va_P G.1 vwCl (((([(h0, .inr (3, [.ref (u1 0), .ref q2, .int 0, .ref (u4 0), .null]))] ++ rollW G u1 rollZ) ++ [(q2, .inl (G.2.2.2, 4, .inr (.inr (.inr (.inr (fun _ => none))))))]) ++ textW G u4 zeroM zeroN) ++ [(q5, .inr (0, [.null, .int 0, .int 0, .int 0, .int 0, .int 0, .int 0, .int 0, .int 0, .int 0, .int 0, .int 0]))]) H := hP
  have hD : va_D A (((([(h0, .inr (3, [.ref (u1 0), .ref q2, .int 0, .ref (u4 0), .null]))] ++ rollW G u1 rollZ) ++ [(q2, .inl (G.2.2.2, 4, .inr (.inr (.inr (.inr (fun _ => none))))))]) ++ textW G u4 zeroM zeroN) ++ [(q5, .inr (0, [.null, .int 0, .int 0, .int 0, .int 0, .int 0, .int 0, .int 0, .int 0, .int 0, .int 0, .int 0]))]) := hD
  refine lv_dup hx hb dX3_init_38 rfl ?_
  refine z_callNN (As := []) (rest := [.ref q5, .ref h0]) (wr := ((([(h0, .inr (3, [.ref (u1 0), .ref q2, .int 0, .ref (u4 0), .null]))] ++ rollW G u1 rollZ) ++ [(q2, .inl (G.2.2.2, 4, .inr (.inr (.inr (.inr (fun _ => none))))))]) ++ textW G u4 zeroM zeroN)) F (c_X0_init l G q5) ⟨va_cnB 0 hts gX3_init_X0_init_n29 rfl rfl rfl hKK.2.2.2.2.2.2 (hts (.initialized RX0) (by decide +kernel)) (by decide +kernel) ⟨Nat.le_of_ble_eq_true rfl, Nat.le_of_ble_eq_true rfl⟩, rfl, hts (.instanceMethod yX0_init) (by decide +kernel)⟩ hKK hP hD hS hA rfl hl.1 rfl (Nat.le_of_ble_eq_true rfl) (k9 := 30) (n9 := 1282) rfl rfl (Nat.le_of_ble_eq_true rfl) (Nat.le_of_ble_eq_true rfl) dX3_init_39 (fun u6 H locs hq hP9 hD9 hS9 => ?_)
  have hP : va_P G.1 vwCl (((([(h0, .inr (3, [.ref (u1 0), .ref q2, .int 0, .ref (u4 0), .null]))] ++ rollW G u1 rollZ) ++ [(q2, .inl (G.2.2.2, 4, .inr (.inr (.inr (.inr (fun _ => none))))))]) ++ textW G u4 zeroM zeroN) ++ (playW G q5 (u6 0) zeroN ++ rollW G u6 rollZ)) H := hP9
  have hD : va_D A (((([(h0, .inr (3, [.ref (u1 0), .ref q2, .int 0, .ref (u4 0), .null]))] ++ rollW G u1 rollZ) ++ [(q2, .inl (G.2.2.2, 4, .inr (.inr (.inr (.inr (fun _ => none))))))]) ++ textW G u4 zeroM zeroN) ++ (playW G q5 (u6 0) zeroN ++ rollW G u6 rollZ)) := hD9
  have hS : va_S A s.heap H locs := hS9
  refine va_putF (D := G.1) (ci := 3) (v := .ref q5) (ty := .object "NameRolls$Player") (C := RX3) (T := TX3) (N := 5) hx hb hts hinX3 tyX3 tyX3_ok nmX3 hown hKK.1 hP hD hS 0 rfl rfl 4 (by decide) (hts (.fieldLink RX3 30 "NameRolls" "player" "LNameRolls$Player;") (by decide +kernel)) (fun _ h9 => h9) rfl hin rfl (by decide +kernel) rfl rfl (Nat.le_of_ble_eq_true rfl) dX3_init_42 (fun H locs hP hD hS => ?_)
  have hP : va_P G.1 vwCl (((([(h0, .inr (3, [.ref (u1 0), .ref q2, .int 0, .ref (u4 0), .ref q5]))] ++ rollW G u1 rollZ) ++ [(q2, .inl (G.2.2.2, 4, .inr (.inr (.inr (.inr (fun _ => none))))))]) ++ textW G u4 zeroM zeroN) ++ (playW G q5 (u6 0) zeroN ++ rollW G u6 rollZ)) H := hP
  have hD : va_D A (((([(h0, .inr (3, [.ref (u1 0), .ref q2, .int 0, .ref (u4 0), .ref q5]))] ++ rollW G u1 rollZ) ++ [(q2, .inl (G.2.2.2, 4, .inr (.inr (.inr (.inr (fun _ => none))))))]) ++ textW G u4 zeroM zeroN) ++ (playW G q5 (u6 0) zeroN ++ rollW G u6 rollZ)) := hD
  refine lv_iconst (v := nI 0) hx hb dX3_init_45 (by decide) ?_
  refine lv_istore_n (lv' := [(1, .int (nI 0)), (0, .ref h0)]) hx hb dX3_init_46 rfl hl (by decide) rfl (fun ls hl => ?_)
  refine lv_iload_n hx hb dX3_init_47 rfl (lv_at hl 0 rfl) ?_
  refine lv_iconst (v := nI 4) hx hb dX3_init_48 (by decide) ?_
  refine z_ge (tgt := 71) hx hb dX3_init_49 (by decide) (by decide) (by decide) (fun h => absurd h (by decide)) (fun _ => ?_)
  refine lv_aload_n hx hb dX3_init_52 rfl (lv_at hl 1 rfl) ?_
  refine va_get (D := G.1) (ci := 3) (v := .ref q2) (C := RX3) (T := TX3) (N := 5) hx hb hts hinX3 hown hKK.1 hP 0 rfl rfl 1 (by decide) (hts (.fieldLink RX3 16 "NameRolls" "past" "[LNameRolls$Roll;") (by decide +kernel)) (fun _ h9 => h9) rfl dX3_init_53 ?_
  refine lv_iload_n hx hb dX3_init_56 rfl (lv_at hl 0 rfl) ?_
  refine va_new (ci := 1) (fs := [.null, .null, .null, .null, .int 0, .int 0, .int 0, .null, .null, .null, .null, .null, .null, .null, .null]) (C := RX1) (T := TX1) (N := 15) hx hb hts (by decide +kernel : ∀ w ∈ wsX10, w ∈ wsX3_init) tyX1 tyX1_ok hown (hts (.classLink RX3 7 RX1) (by decide +kernel)) (hts (.instantiable RX1 15) (by decide +kernel)) (hts (.initialized RX1) (by decide +kernel)) hKK.1 hP hD hS hA rfl dflX1 (Nat.le_of_ble_eq_true rfl) (Nat.le_of_ble_eq_true rfl) dX3_init_57 (fun q7 H hP hD hS => ?_)
  refine W.widen (k := 31) (n := 1297) (Nat.le_of_ble_eq_true rfl) (Nat.le_of_ble_eq_true rfl) ?_
  have hP : va_P G.1 vwCl ((((([(h0, .inr (3, [.ref (u1 0), .ref q2, .int 0, .ref (u4 0), .ref q5]))] ++ rollW G u1 rollZ) ++ [(q2, .inl (G.2.2.2, 4, .inr (.inr (.inr (.inr (fun _ => none))))))]) ++ textW G u4 zeroM zeroN) ++ (playW G q5 (u6 0) zeroN ++ rollW G u6 rollZ)) ++ [(q7, .inr (1, [.null, .null, .null, .null, .int 0, .int 0, .int 0, .null, .null, .null, .null, .null, .null, .null, .null]))]) H := hP
  have hD : va_D A ((((([(h0, .inr (3, [.ref (u1 0), .ref q2, .int 0, .ref (u4 0), .ref q5]))] ++ rollW G u1 rollZ) ++ [(q2, .inl (G.2.2.2, 4, .inr (.inr (.inr (.inr (fun _ => none))))))]) ++ textW G u4 zeroM zeroN) ++ (playW G q5 (u6 0) zeroN ++ rollW G u6 rollZ)) ++ [(q7, .inr (1, [.null, .null, .null, .null, .int 0, .int 0, .int 0, .null, .null, .null, .null, .null, .null, .null, .null]))]) := hD
  refine lv_dup hx hb dX3_init_60 rfl ?_
  refine z_callN (As := []) (rest := [.ref q7, .int (nI 0), .ref q2]) (wr := (((([(h0, .inr (3, [.ref (u1 0), .ref q2, .int 0, .ref (u4 0), .ref q5]))] ++ rollW G u1 rollZ) ++ [(q2, .inl (G.2.2.2, 4, .inr (.inr (.inr (.inr (fun _ => none))))))]) ++ textW G u4 zeroM zeroN) ++ (playW G q5 (u6 0) zeroN ++ rollW G u6 rollZ))) F (c_X1_init l G q7) (cwI 0 hts gX3_init_X1_init rfl rfl rfl (hts (.initialized RX1) (by decide +kernel)) (hts (.methodLink RX3 9 yX1_init) (by decide +kernel)) (hts (.instanceMethod yX1_init) (by decide +kernel)) rfl (by decide +kernel) ⟨Nat.le_of_ble_eq_true rfl, Nat.le_of_ble_eq_true rfl⟩) hKK hP hD hS hA rfl hl.1 rfl (Nat.le_of_ble_eq_true rfl) (k9 := 43) (n9 := 1884) rfl rfl (Nat.le_of_ble_eq_true rfl) (Nat.le_of_ble_eq_true rfl) dX3_init_61 (fun u8 H locs hq hP9 hD9 hS9 => ?_)
  subst hq
  have hP : va_P G.1 vwCl ((((([(h0, .inr (3, [.ref (u1 0), .ref q2, .int 0, .ref (u4 0), .ref q5]))] ++ rollW G u1 rollZ) ++ [(q2, .inl (G.2.2.2, 4, .inr (.inr (.inr (.inr (fun _ => none))))))]) ++ textW G u4 zeroM zeroN) ++ (playW G q5 (u6 0) zeroN ++ rollW G u6 rollZ)) ++ rollW G u8 rollZ) H := hP9
  have hD : va_D A ((((([(h0, .inr (3, [.ref (u1 0), .ref q2, .int 0, .ref (u4 0), .ref q5]))] ++ rollW G u1 rollZ) ++ [(q2, .inl (G.2.2.2, 4, .inr (.inr (.inr (.inr (fun _ => none))))))]) ++ textW G u4 zeroM zeroN) ++ (playW G q5 (u6 0) zeroN ++ rollW G u6 rollZ)) ++ rollW G u8 rollZ) := hD9
  have hS : va_S A s.heap H locs := hS9
  refine z_aast (n := 4) (f := (fun _ => none)) (i := 0) (v := u8 0) (w2 := ((((([(h0, .inr (3, [.ref (u1 0), .ref q2, .int 0, .ref (u4 0), .ref q5]))] ++ rollW G u1 rollZ) ++ [(q2, .inl (G.2.2.2, 4, .inr (.inr (.inr (.inr (va_up (fun _ => none) 0 (some (u8 0))))))))]) ++ textW G u4 zeroM zeroN) ++ (playW G q5 (u6 0) zeroN ++ rollW G u6 rollZ)) ++ rollW G u8 rollZ)) hx hb hKK hP hD hS 14 31 rfl rfl (by decide) (by decide) rfl dX3_init_64 (fun H locs hP hD hS => ?_)
  refine lv_iinc (v := nI 1) (lv' := [(1, .int (nI 1)), (0, .ref h0)]) hx hb dX3_init_65 hl (k := 0) rfl (nI_1 _) (by decide) rfl (fun ls hl => ?_)
  refine lv_goto (tgt := 47) hx hb dX3_init_68 (by decide) ?_
  refine lv_iload_n hx hb dX3_init_47 rfl (lv_at hl 0 rfl) ?_
  refine lv_iconst (v := nI 4) hx hb dX3_init_48 (by decide) ?_
  refine z_ge (tgt := 71) hx hb dX3_init_49 (by decide) (by decide) (by decide) (fun h => absurd h (by decide)) (fun _ => ?_)
  refine lv_aload_n hx hb dX3_init_52 rfl (lv_at hl 1 rfl) ?_
  refine va_get (D := G.1) (ci := 3) (v := .ref q2) (C := RX3) (T := TX3) (N := 5) hx hb hts hinX3 hown hKK.1 hP 0 rfl rfl 1 (by decide) (hts (.fieldLink RX3 16 "NameRolls" "past" "[LNameRolls$Roll;") (by decide +kernel)) (fun _ h9 => h9) rfl dX3_init_53 ?_
  refine lv_iload_n hx hb dX3_init_56 rfl (lv_at hl 0 rfl) ?_
  refine va_new (ci := 1) (fs := [.null, .null, .null, .null, .int 0, .int 0, .int 0, .null, .null, .null, .null, .null, .null, .null, .null]) (C := RX1) (T := TX1) (N := 15) hx hb hts (by decide +kernel : ∀ w ∈ wsX10, w ∈ wsX3_init) tyX1 tyX1_ok hown (hts (.classLink RX3 7 RX1) (by decide +kernel)) (hts (.instantiable RX1 15) (by decide +kernel)) (hts (.initialized RX1) (by decide +kernel)) hKK.1 hP hD hS hA rfl dflX1 (Nat.le_of_ble_eq_true rfl) (Nat.le_of_ble_eq_true rfl) dX3_init_57 (fun q9 H hP hD hS => ?_)
  refine W.widen (k := 44) (n := 1899) (Nat.le_of_ble_eq_true rfl) (Nat.le_of_ble_eq_true rfl) ?_
  have hP : va_P G.1 vwCl (((((([(h0, .inr (3, [.ref (u1 0), .ref q2, .int 0, .ref (u4 0), .ref q5]))] ++ rollW G u1 rollZ) ++ [(q2, .inl (G.2.2.2, 4, .inr (.inr (.inr (.inr (va_up (fun _ => none) 0 (some (u8 0))))))))]) ++ textW G u4 zeroM zeroN) ++ (playW G q5 (u6 0) zeroN ++ rollW G u6 rollZ)) ++ rollW G u8 rollZ) ++ [(q9, .inr (1, [.null, .null, .null, .null, .int 0, .int 0, .int 0, .null, .null, .null, .null, .null, .null, .null, .null]))]) H := hP
  have hD : va_D A (((((([(h0, .inr (3, [.ref (u1 0), .ref q2, .int 0, .ref (u4 0), .ref q5]))] ++ rollW G u1 rollZ) ++ [(q2, .inl (G.2.2.2, 4, .inr (.inr (.inr (.inr (va_up (fun _ => none) 0 (some (u8 0))))))))]) ++ textW G u4 zeroM zeroN) ++ (playW G q5 (u6 0) zeroN ++ rollW G u6 rollZ)) ++ rollW G u8 rollZ) ++ [(q9, .inr (1, [.null, .null, .null, .null, .int 0, .int 0, .int 0, .null, .null, .null, .null, .null, .null, .null, .null]))]) := hD
  refine lv_dup hx hb dX3_init_60 rfl ?_
  refine z_callN (As := []) (rest := [.ref q9, .int (nI 1), .ref q2]) (wr := ((((([(h0, .inr (3, [.ref (u1 0), .ref q2, .int 0, .ref (u4 0), .ref q5]))] ++ rollW G u1 rollZ) ++ [(q2, .inl (G.2.2.2, 4, .inr (.inr (.inr (.inr (va_up (fun _ => none) 0 (some (u8 0))))))))]) ++ textW G u4 zeroM zeroN) ++ (playW G q5 (u6 0) zeroN ++ rollW G u6 rollZ)) ++ rollW G u8 rollZ)) F (c_X1_init l G q9) (cwI 0 hts gX3_init_X1_init rfl rfl rfl (hts (.initialized RX1) (by decide +kernel)) (hts (.methodLink RX3 9 yX1_init) (by decide +kernel)) (hts (.instanceMethod yX1_init) (by decide +kernel)) rfl (by decide +kernel) ⟨Nat.le_of_ble_eq_true rfl, Nat.le_of_ble_eq_true rfl⟩) hKK hP hD hS hA rfl hl.1 rfl (Nat.le_of_ble_eq_true rfl) (k9 := 56) (n9 := 2486) rfl rfl (Nat.le_of_ble_eq_true rfl) (Nat.le_of_ble_eq_true rfl) dX3_init_61 (fun u10 H locs hq hP9 hD9 hS9 => ?_)
  subst hq
  have hP : va_P G.1 vwCl (((((([(h0, .inr (3, [.ref (u1 0), .ref q2, .int 0, .ref (u4 0), .ref q5]))] ++ rollW G u1 rollZ) ++ [(q2, .inl (G.2.2.2, 4, .inr (.inr (.inr (.inr (va_up (fun _ => none) 0 (some (u8 0))))))))]) ++ textW G u4 zeroM zeroN) ++ (playW G q5 (u6 0) zeroN ++ rollW G u6 rollZ)) ++ rollW G u8 rollZ) ++ rollW G u10 rollZ) H := hP9
  have hD : va_D A (((((([(h0, .inr (3, [.ref (u1 0), .ref q2, .int 0, .ref (u4 0), .ref q5]))] ++ rollW G u1 rollZ) ++ [(q2, .inl (G.2.2.2, 4, .inr (.inr (.inr (.inr (va_up (fun _ => none) 0 (some (u8 0))))))))]) ++ textW G u4 zeroM zeroN) ++ (playW G q5 (u6 0) zeroN ++ rollW G u6 rollZ)) ++ rollW G u8 rollZ) ++ rollW G u10 rollZ) := hD9
  have hS : va_S A s.heap H locs := hS9
  refine z_aast (n := 4) (f := (va_up (fun _ => none) 0 (some (u8 0)))) (i := 1) (v := u10 0) (w2 := (((((([(h0, .inr (3, [.ref (u1 0), .ref q2, .int 0, .ref (u4 0), .ref q5]))] ++ rollW G u1 rollZ) ++ [(q2, .inl (G.2.2.2, 4, .inr (.inr (.inr (.inr (va_up (va_up (fun _ => none) 0 (some (u8 0))) 1 (some (u10 0))))))))]) ++ textW G u4 zeroM zeroN) ++ (playW G q5 (u6 0) zeroN ++ rollW G u6 rollZ)) ++ rollW G u8 rollZ) ++ rollW G u10 rollZ)) hx hb hKK hP hD hS 14 44 rfl rfl (by decide) (by decide) rfl dX3_init_64 (fun H locs hP hD hS => ?_)
  refine lv_iinc (v := nI 2) (lv' := [(1, .int (nI 2)), (0, .ref h0)]) hx hb dX3_init_65 hl (k := 0) rfl (nI_1 _) (by decide) rfl (fun ls hl => ?_)
  refine lv_goto (tgt := 47) hx hb dX3_init_68 (by decide) ?_
  refine lv_iload_n hx hb dX3_init_47 rfl (lv_at hl 0 rfl) ?_
  refine lv_iconst (v := nI 4) hx hb dX3_init_48 (by decide) ?_
  refine z_ge (tgt := 71) hx hb dX3_init_49 (by decide) (by decide) (by decide) (fun h => absurd h (by decide)) (fun _ => ?_)
  refine lv_aload_n hx hb dX3_init_52 rfl (lv_at hl 1 rfl) ?_
  refine va_get (D := G.1) (ci := 3) (v := .ref q2) (C := RX3) (T := TX3) (N := 5) hx hb hts hinX3 hown hKK.1 hP 0 rfl rfl 1 (by decide) (hts (.fieldLink RX3 16 "NameRolls" "past" "[LNameRolls$Roll;") (by decide +kernel)) (fun _ h9 => h9) rfl dX3_init_53 ?_
  refine lv_iload_n hx hb dX3_init_56 rfl (lv_at hl 0 rfl) ?_
  refine va_new (ci := 1) (fs := [.null, .null, .null, .null, .int 0, .int 0, .int 0, .null, .null, .null, .null, .null, .null, .null, .null]) (C := RX1) (T := TX1) (N := 15) hx hb hts (by decide +kernel : ∀ w ∈ wsX10, w ∈ wsX3_init) tyX1 tyX1_ok hown (hts (.classLink RX3 7 RX1) (by decide +kernel)) (hts (.instantiable RX1 15) (by decide +kernel)) (hts (.initialized RX1) (by decide +kernel)) hKK.1 hP hD hS hA rfl dflX1 (Nat.le_of_ble_eq_true rfl) (Nat.le_of_ble_eq_true rfl) dX3_init_57 (fun q11 H hP hD hS => ?_)
  refine W.widen (k := 57) (n := 2501) (Nat.le_of_ble_eq_true rfl) (Nat.le_of_ble_eq_true rfl) ?_
  have hP : va_P G.1 vwCl ((((((([(h0, .inr (3, [.ref (u1 0), .ref q2, .int 0, .ref (u4 0), .ref q5]))] ++ rollW G u1 rollZ) ++ [(q2, .inl (G.2.2.2, 4, .inr (.inr (.inr (.inr (va_up (va_up (fun _ => none) 0 (some (u8 0))) 1 (some (u10 0))))))))]) ++ textW G u4 zeroM zeroN) ++ (playW G q5 (u6 0) zeroN ++ rollW G u6 rollZ)) ++ rollW G u8 rollZ) ++ rollW G u10 rollZ) ++ [(q11, .inr (1, [.null, .null, .null, .null, .int 0, .int 0, .int 0, .null, .null, .null, .null, .null, .null, .null, .null]))]) H := hP
  have hD : va_D A ((((((([(h0, .inr (3, [.ref (u1 0), .ref q2, .int 0, .ref (u4 0), .ref q5]))] ++ rollW G u1 rollZ) ++ [(q2, .inl (G.2.2.2, 4, .inr (.inr (.inr (.inr (va_up (va_up (fun _ => none) 0 (some (u8 0))) 1 (some (u10 0))))))))]) ++ textW G u4 zeroM zeroN) ++ (playW G q5 (u6 0) zeroN ++ rollW G u6 rollZ)) ++ rollW G u8 rollZ) ++ rollW G u10 rollZ) ++ [(q11, .inr (1, [.null, .null, .null, .null, .int 0, .int 0, .int 0, .null, .null, .null, .null, .null, .null, .null, .null]))]) := hD
  refine lv_dup hx hb dX3_init_60 rfl ?_
  refine z_callN (As := []) (rest := [.ref q11, .int (nI 2), .ref q2]) (wr := (((((([(h0, .inr (3, [.ref (u1 0), .ref q2, .int 0, .ref (u4 0), .ref q5]))] ++ rollW G u1 rollZ) ++ [(q2, .inl (G.2.2.2, 4, .inr (.inr (.inr (.inr (va_up (va_up (fun _ => none) 0 (some (u8 0))) 1 (some (u10 0))))))))]) ++ textW G u4 zeroM zeroN) ++ (playW G q5 (u6 0) zeroN ++ rollW G u6 rollZ)) ++ rollW G u8 rollZ) ++ rollW G u10 rollZ)) F (c_X1_init l G q11) (cwI 0 hts gX3_init_X1_init rfl rfl rfl (hts (.initialized RX1) (by decide +kernel)) (hts (.methodLink RX3 9 yX1_init) (by decide +kernel)) (hts (.instanceMethod yX1_init) (by decide +kernel)) rfl (by decide +kernel) ⟨Nat.le_of_ble_eq_true rfl, Nat.le_of_ble_eq_true rfl⟩) hKK hP hD hS hA rfl hl.1 rfl (Nat.le_of_ble_eq_true rfl) (k9 := 69) (n9 := 3088) rfl rfl (Nat.le_of_ble_eq_true rfl) (Nat.le_of_ble_eq_true rfl) dX3_init_61 (fun u12 H locs hq hP9 hD9 hS9 => ?_)
  subst hq
  have hP : va_P G.1 vwCl ((((((([(h0, .inr (3, [.ref (u1 0), .ref q2, .int 0, .ref (u4 0), .ref q5]))] ++ rollW G u1 rollZ) ++ [(q2, .inl (G.2.2.2, 4, .inr (.inr (.inr (.inr (va_up (va_up (fun _ => none) 0 (some (u8 0))) 1 (some (u10 0))))))))]) ++ textW G u4 zeroM zeroN) ++ (playW G q5 (u6 0) zeroN ++ rollW G u6 rollZ)) ++ rollW G u8 rollZ) ++ rollW G u10 rollZ) ++ rollW G u12 rollZ) H := hP9
  have hD : va_D A ((((((([(h0, .inr (3, [.ref (u1 0), .ref q2, .int 0, .ref (u4 0), .ref q5]))] ++ rollW G u1 rollZ) ++ [(q2, .inl (G.2.2.2, 4, .inr (.inr (.inr (.inr (va_up (va_up (fun _ => none) 0 (some (u8 0))) 1 (some (u10 0))))))))]) ++ textW G u4 zeroM zeroN) ++ (playW G q5 (u6 0) zeroN ++ rollW G u6 rollZ)) ++ rollW G u8 rollZ) ++ rollW G u10 rollZ) ++ rollW G u12 rollZ) := hD9
  have hS : va_S A s.heap H locs := hS9
  refine z_aast (n := 4) (f := (va_up (va_up (fun _ => none) 0 (some (u8 0))) 1 (some (u10 0)))) (i := 2) (v := u12 0) (w2 := ((((((([(h0, .inr (3, [.ref (u1 0), .ref q2, .int 0, .ref (u4 0), .ref q5]))] ++ rollW G u1 rollZ) ++ [(q2, .inl (G.2.2.2, 4, .inr (.inr (.inr (.inr (va_up (va_up (va_up (fun _ => none) 0 (some (u8 0))) 1 (some (u10 0))) 2 (some (u12 0))))))))]) ++ textW G u4 zeroM zeroN) ++ (playW G q5 (u6 0) zeroN ++ rollW G u6 rollZ)) ++ rollW G u8 rollZ) ++ rollW G u10 rollZ) ++ rollW G u12 rollZ)) hx hb hKK hP hD hS 14 57 rfl rfl (by decide) (by decide) rfl dX3_init_64 (fun H locs hP hD hS => ?_)
  refine lv_iinc (v := nI 3) (lv' := [(1, .int (nI 3)), (0, .ref h0)]) hx hb dX3_init_65 hl (k := 0) rfl (nI_1 _) (by decide) rfl (fun ls hl => ?_)
  refine lv_goto (tgt := 47) hx hb dX3_init_68 (by decide) ?_
  refine lv_iload_n hx hb dX3_init_47 rfl (lv_at hl 0 rfl) ?_
  refine lv_iconst (v := nI 4) hx hb dX3_init_48 (by decide) ?_
  refine z_ge (tgt := 71) hx hb dX3_init_49 (by decide) (by decide) (by decide) (fun h => absurd h (by decide)) (fun _ => ?_)
  refine lv_aload_n hx hb dX3_init_52 rfl (lv_at hl 1 rfl) ?_
  refine va_get (D := G.1) (ci := 3) (v := .ref q2) (C := RX3) (T := TX3) (N := 5) hx hb hts hinX3 hown hKK.1 hP 0 rfl rfl 1 (by decide) (hts (.fieldLink RX3 16 "NameRolls" "past" "[LNameRolls$Roll;") (by decide +kernel)) (fun _ h9 => h9) rfl dX3_init_53 ?_
  refine lv_iload_n hx hb dX3_init_56 rfl (lv_at hl 0 rfl) ?_
  refine va_new (ci := 1) (fs := [.null, .null, .null, .null, .int 0, .int 0, .int 0, .null, .null, .null, .null, .null, .null, .null, .null]) (C := RX1) (T := TX1) (N := 15) hx hb hts (by decide +kernel : ∀ w ∈ wsX10, w ∈ wsX3_init) tyX1 tyX1_ok hown (hts (.classLink RX3 7 RX1) (by decide +kernel)) (hts (.instantiable RX1 15) (by decide +kernel)) (hts (.initialized RX1) (by decide +kernel)) hKK.1 hP hD hS hA rfl dflX1 (Nat.le_of_ble_eq_true rfl) (Nat.le_of_ble_eq_true rfl) dX3_init_57 (fun q13 H hP hD hS => ?_)
  refine W.widen (k := 70) (n := 3103) (Nat.le_of_ble_eq_true rfl) (Nat.le_of_ble_eq_true rfl) ?_
  have hP : va_P G.1 vwCl (((((((([(h0, .inr (3, [.ref (u1 0), .ref q2, .int 0, .ref (u4 0), .ref q5]))] ++ rollW G u1 rollZ) ++ [(q2, .inl (G.2.2.2, 4, .inr (.inr (.inr (.inr (va_up (va_up (va_up (fun _ => none) 0 (some (u8 0))) 1 (some (u10 0))) 2 (some (u12 0))))))))]) ++ textW G u4 zeroM zeroN) ++ (playW G q5 (u6 0) zeroN ++ rollW G u6 rollZ)) ++ rollW G u8 rollZ) ++ rollW G u10 rollZ) ++ rollW G u12 rollZ) ++ [(q13, .inr (1, [.null, .null, .null, .null, .int 0, .int 0, .int 0, .null, .null, .null, .null, .null, .null, .null, .null]))]) H := hP
  have hD : va_D A (((((((([(h0, .inr (3, [.ref (u1 0), .ref q2, .int 0, .ref (u4 0), .ref q5]))] ++ rollW G u1 rollZ) ++ [(q2, .inl (G.2.2.2, 4, .inr (.inr (.inr (.inr (va_up (va_up (va_up (fun _ => none) 0 (some (u8 0))) 1 (some (u10 0))) 2 (some (u12 0))))))))]) ++ textW G u4 zeroM zeroN) ++ (playW G q5 (u6 0) zeroN ++ rollW G u6 rollZ)) ++ rollW G u8 rollZ) ++ rollW G u10 rollZ) ++ rollW G u12 rollZ) ++ [(q13, .inr (1, [.null, .null, .null, .null, .int 0, .int 0, .int 0, .null, .null, .null, .null, .null, .null, .null, .null]))]) := hD
  refine lv_dup hx hb dX3_init_60 rfl ?_
  refine z_callN (As := []) (rest := [.ref q13, .int (nI 3), .ref q2]) (wr := ((((((([(h0, .inr (3, [.ref (u1 0), .ref q2, .int 0, .ref (u4 0), .ref q5]))] ++ rollW G u1 rollZ) ++ [(q2, .inl (G.2.2.2, 4, .inr (.inr (.inr (.inr (va_up (va_up (va_up (fun _ => none) 0 (some (u8 0))) 1 (some (u10 0))) 2 (some (u12 0))))))))]) ++ textW G u4 zeroM zeroN) ++ (playW G q5 (u6 0) zeroN ++ rollW G u6 rollZ)) ++ rollW G u8 rollZ) ++ rollW G u10 rollZ) ++ rollW G u12 rollZ)) F (c_X1_init l G q13) (cwI 0 hts gX3_init_X1_init rfl rfl rfl (hts (.initialized RX1) (by decide +kernel)) (hts (.methodLink RX3 9 yX1_init) (by decide +kernel)) (hts (.instanceMethod yX1_init) (by decide +kernel)) rfl (by decide +kernel) ⟨Nat.le_of_ble_eq_true rfl, Nat.le_of_ble_eq_true rfl⟩) hKK hP hD hS hA rfl hl.1 rfl (Nat.le_of_ble_eq_true rfl) (k9 := 82) (n9 := 3690) rfl rfl (Nat.le_of_ble_eq_true rfl) (Nat.le_of_ble_eq_true rfl) dX3_init_61 (fun u14 H locs hq hP9 hD9 hS9 => ?_)
  subst hq
  have hP : va_P G.1 vwCl (((((((([(h0, .inr (3, [.ref (u1 0), .ref q2, .int 0, .ref (u4 0), .ref q5]))] ++ rollW G u1 rollZ) ++ [(q2, .inl (G.2.2.2, 4, .inr (.inr (.inr (.inr (va_up (va_up (va_up (fun _ => none) 0 (some (u8 0))) 1 (some (u10 0))) 2 (some (u12 0))))))))]) ++ textW G u4 zeroM zeroN) ++ (playW G q5 (u6 0) zeroN ++ rollW G u6 rollZ)) ++ rollW G u8 rollZ) ++ rollW G u10 rollZ) ++ rollW G u12 rollZ) ++ rollW G u14 rollZ) H := hP9
  have hD : va_D A (((((((([(h0, .inr (3, [.ref (u1 0), .ref q2, .int 0, .ref (u4 0), .ref q5]))] ++ rollW G u1 rollZ) ++ [(q2, .inl (G.2.2.2, 4, .inr (.inr (.inr (.inr (va_up (va_up (va_up (fun _ => none) 0 (some (u8 0))) 1 (some (u10 0))) 2 (some (u12 0))))))))]) ++ textW G u4 zeroM zeroN) ++ (playW G q5 (u6 0) zeroN ++ rollW G u6 rollZ)) ++ rollW G u8 rollZ) ++ rollW G u10 rollZ) ++ rollW G u12 rollZ) ++ rollW G u14 rollZ) := hD9
  have hS : va_S A s.heap H locs := hS9
  refine z_aast (n := 4) (f := (va_up (va_up (va_up (fun _ => none) 0 (some (u8 0))) 1 (some (u10 0))) 2 (some (u12 0)))) (i := 3) (v := u14 0) (w2 := (((((((([(h0, .inr (3, [.ref (u1 0), .ref q2, .int 0, .ref (u4 0), .ref q5]))] ++ rollW G u1 rollZ) ++ [(q2, .inl (G.2.2.2, 4, .inr (.inr (.inr (.inr (va_up (va_up (va_up (va_up (fun _ => none) 0 (some (u8 0))) 1 (some (u10 0))) 2 (some (u12 0))) 3 (some (u14 0))))))))]) ++ textW G u4 zeroM zeroN) ++ (playW G q5 (u6 0) zeroN ++ rollW G u6 rollZ)) ++ rollW G u8 rollZ) ++ rollW G u10 rollZ) ++ rollW G u12 rollZ) ++ rollW G u14 rollZ)) hx hb hKK hP hD hS 14 70 rfl rfl (by decide) (by decide) rfl dX3_init_64 (fun H locs hP hD hS => ?_)
  refine lv_iinc (v := nI 4) (lv' := [(1, .int (nI 4)), (0, .ref h0)]) hx hb dX3_init_65 hl (k := 0) rfl (nI_1 _) (by decide) rfl (fun ls hl => ?_)
  refine lv_goto (tgt := 47) hx hb dX3_init_68 (by decide) ?_
  refine lv_iload_n hx hb dX3_init_47 rfl (lv_at hl 0 rfl) ?_
  refine lv_iconst (v := nI 4) hx hb dX3_init_48 (by decide) ?_
  refine z_ge (tgt := 71) hx hb dX3_init_49 (by decide) (by decide) (by decide) (fun _ => ?_) (fun h => absurd h (by decide))
  have hP := z_perm (pn_new _ _ _ _ _ _ _ _ _ _) hP
  have hD := z_permD (pn_new _ _ _ _ _ _ _ _ _ _) hD
  exact z_vretN (q2, q5, u1, u4, u6, fun j => if j = 0 then u8 else if j = 1 then u10 else if j = 2 then u12 else u14) hx hb hr hlk hP hD hS dX3_init_71 trivial
