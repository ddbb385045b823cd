def R_law : String := "NameRollsLaw"
def lw_P (b : Addr) (xs : List Int32) (args : Array Value) (s : State) : Prop := args = #[.ref b] ∧ s.IntsAt b xs ∧ xs.length ≤ 260 ∧ (Jvm.Cond.and given_1 narrow_1).before args s = true
def lw_Q (_ : Array Value) (s : State) (o : Outcome) (t : State) : Prop := o = .returned (some (.int 1)) ∧ Framed s o t [] 600000 7302250
def lw_Z (below : List Frame) (a : Array Value) (s : State) : State → Prop := fun t => ∃ o, t.status = .running ∧ Ended t below o ∧ lw_Q a s o t
/-- the law's own end, with 1 on the stack, nothing written that was there before, its room as the claim has it -/
theorem lw_ret {p : Program} {l : Launch} {e : Env} {s : State} {m : MethodId} {below : List Frame} {meth : Method} {c : Code} {b : Nat} (hx : p.tables.exec = Jvm.exec) (hb : c.code = code) (hr : meth.sig.returnType = ret) (hlocks : meth.locks = false) {pc : Nat} {H : Heap} {ls : Array Slot} (hdg : decode code pc = .ok (.ireturn, 1)) : W p l e room_1 s m #[Value.ref b] below meth c H [] 600000 7302250 (lw_Z below #[Value.ref b] s) (F0 m pc ls [.int 1]) := by
  intro T hT X
  obtain ⟨fs, hret, hrun, hended, hW, hframe⟩ := X.leave (v := some (.int 1)) (hlocks := hlocks) (fun h => by rw [hr] at h; cases h)
  have hmeth' : T.vm.method? m = some meth := X.method'
  refine ⟨T.setFrames fs, ?_, .returned (some (.int 1)), hrun, hended, rfl, ⟨_, rfl⟩, hW, hframe⟩
  jvm_step X.here [X.here.top, hx, hb, hdg, hmeth', hr, ret, narrow_b1]
  (try refine ⟨rfl, ?_⟩); (try refine ⟨rfl, ?_⟩)
  first | (intro acts; rw [hret _ acts rfl rfl rfl]) | rw [hret _ _ rfl rfl rfl]
  exact Steps.refl _
/-- what holds at the law's entry: the machine, the code, the tables' words (any of lw_tbl by 'hts w (by decide +kernel)'), the script of L ints xs at the cell b, what the Statement gives of the start (any of its parts by flat_of_before) -/
def lw_At (p : Program) (s : State) (m : MethodId) (meth : Method) (c : Code) (b L : Nat) (xs : Nat → Int32) : Prop :=
  p.tables.exec = Jvm.exec ∧ c.code = code ∧ meth.sig.returnType = ret ∧ c.maxLocals = 10 ∧ s.vm.findClass R_law = some m.cls ∧ (∀ w ∈ lw_tbl, w.before #[Value.ref b] s = true) ∧ va_X b L xs s s.heap ∧ b < s.heap.size ∧ meth.locks = false ∧ (Jvm.Cond.and given_1 narrow_1).before #[Value.ref b] s = true

section CX
variable {p : Program} {l : Launch} {e : Env} {R : Room} {s : State} {m : MethodId} {args : Array Value} {below : List Frame} {meth : Method} {c : Code} {H : Heap} {locs : List Loc} {cells slots : Nat} {Q : State → Prop}
variable {cc : ByteArray} {pc : Nat} {ls : Array Slot} {rest st : List Value} {G : ZG} {A : Nat → Prop} {H0 : Heap} {nL : Nat} {Ts : List Cond} {own : String}
/-- a method that reads the script -/
def CX (l : Launch) (G : ZG) (y : MethodName) (ws : List Cond) (rm : Room) (bs Ls : Nat) (xs : Nat → Int32) (k : Int32) : Prop :=
  ∀ sz : Nat, bs < sz → Met l y ws rm (va_Pc [.ref bs, .int k] (fun U => ZPre G [] sz U ∧ va_X bs Ls xs U U.heap)) (ZQie G (va_A [] sz) (S := Unit) (fun _ _ => True) (fun _ => [])) 0 0 (va_A [] sz)
theorem z_sld {bs Ls : Nat} {xs : Nat → Int32} (hx : p.tables.exec = Jvm.exec) (hb : c.code = cc) (hX : va_X bs Ls xs s H0) (hbl : bs < H0.size) (hbA : ¬ A bs) (hS : va_S A H0 H locs) {i : Nat} (hi : i < Ls) (hLs : Ls ≤ 2048) (hdg : decode cc pc = .ok (.iaload, 1))
    (kk : W p l e R s m args below meth c H locs cells slots Q (F0 m (pc + 1) ls (.int (xs i) :: rest))) : W p l e R s m args below meth c H locs cells slots Q (F0 m pc ls (.int (nI i) :: .ref bs :: rest)) := by
  refine va_sld hx hb hX hbl hbA hS (vp_in_nI hi (by omega)) hdg ?_
  rw [nI_clamp (by omega)]
  exact kk
theorem ZPre.blindX {w0 : va_W} {sz bs Ls : Nat} {xs : Nat → Int32} {av : List Value} : FrameBlind (va_Pc av (fun U => ZPre G w0 sz U ∧ va_X bs Ls xs U U.heap)) := by
  intro a U g mk h
  obtain ⟨h1, ⟨h2, h3, h4, h5⟩, h6⟩ := h
  exact ⟨h1, ⟨h2, h3, h4.calling, h5⟩, va_X.moved (u := U) (U := U.calling g mk a) (Vm.Alike.refl U.vm) h6⟩
theorem z_cellX {y : MethodName} {bytes : ByteArray} {maxL n index bs Ls : Nat} {xs : Nat → Int32} {k : Int32} {ty : FieldType} {ws : List Cond} {rm : Room} {As : List Value} {w : va_W} (F : CallFix p m c cc nL s args Ts own) (hM : CX l G y ws rm bs Ls xs k) (cw : CallB R s args own index y bytes maxL (some ty) ws rm 0 0 n ∧ (Cond.static y).before args s = true) (hKK : KK G s) (hX : va_X bs Ls xs s H0) (hbl : bs < H0.size) (hbA : ¬ A bs) (hAs : As = [.ref bs, .int k]) (hP : va_P G.1 vwCl w H) (hD : va_D A w) (hS : va_S A H0 H locs) (hA : ∀ q, H0.size ≤ q → A q) (hn : As.length = n) (hsz : ls.size = nL) (hst : st = As.reverse ++ rest) (hW : (rest.map fun v => v.category).sum ≤ 8) (hR : cells ≤ R.cells ∧ slots ≤ R.slots) (hdg : decode cc pc = .ok (.invokestatic index, 3))
    (kk : ∀ (r : Int32) (u : Unit) (H1 : Heap) (locs1 : List Loc), True → va_P G.1 vwCl w H1 → va_D A w → va_S A H0 H1 locs1 → W p l e R s m args below meth c H1 locs1 cells slots Q (F0 m (pc + 3) ls (.int r :: rest))) : W p l e R s m args below meth c H locs cells slots Q (F0 m pc ls st) := by
  subst hAs
  have hP := z_nil hP
  have hD := z_nilD hD
  have hF := z_free hD hS hA
  have hpre : ∀ U : State, U.heap = H → s.WarmedH U.vm → va_Pc [.ref bs, .int k] (fun U => ZPre G [] H.size U ∧ va_X bs Ls xs U U.heap) ([Value.ref bs, Value.int k]).toArray U := by
    intro U hU hW
    refine ⟨rfl, ⟨by rw [hU], by rw [hU]; exact z_right hP, hKK.warm hW, z_rightD hD⟩, ?_⟩
    rw [hU]
    exact va_X.moved hW.alike (hX.kept (hS.2.1 bs hbl hbA))
  refine va_calli (va_runS F (hM H.size (Nat.lt_of_lt_of_le hbl hS.1)) cw ⟨ZPre.blindX, hpre⟩ rfl hn hsz hst (lv_room (rest := st) (ls := ls) (pc := pc) hW) hdg hR) hS (fun q _ h => hF q h) hF (fun r' u t H1 locs1 ht hvm hpost hB hz hk hS1 => ?_)
  obtain ⟨hP1, hD1⟩ := hB
  rw [ht] at hP1
  obtain ⟨hP2, hD2⟩ := z_join hP hD hk hF hP1 hD1
  rw [List.append_nil] at hP2 hD2
  exact kk r' u H1 locs1 trivial hP2 hD2 hS1
end CX
set_option maxHeartbeats 4000000 in
theorem c_L_cell (l : Launch) (G : ZG) (bs Ls : Nat) (xs : Nat → Int32) (hLs : Ls ≤ 2048) (k : Nat) (hk : k < 2 ^ 20) : CX l G yL_cell wsL_cell (zRm 0 0) bs Ls xs (nI k) := by
  intro sz hbs
  refine Met.ofW (cc := cL_cell) (maxL := 2) (ret := some .int) (by decide) rfl ?_
  intro p e s m args below meth c s₁ B hml hv
  obtain ⟨rfl, ⟨rfl, hP, hK, hD0⟩, hX⟩ := hv
  have hts := atoms_spec (ws := wsL_cell) B.pre
  have hown : s.vm.findClass RL = some m.cls := findClass_of_methodNamed B.named
  have hx := B.exec
  have hb : c.code = cL_cell := B.bytes
  have hr : meth.sig.returnType = some .int := B.returns
  have hlk := B.notSynchronized
  rw [lg_entry_eq]
  have hl := lv_entry ([.ref bs, .int (nI k)]) (n := 2) (Nat.le_of_ble_eq_true rfl)
  generalize (lg_sl ([.ref bs, .int (nI k)]) ++ List.replicate (2 - (lg_sl ([.ref bs, .int (nI k)])).length) Slot.unset).toArray = ls at hl ⊢
  have hl : lv_has ls 2 [(0, .ref bs), (1, .int (nI k))] := hl
  have hS : va_S (va_A [] s.heap.size) s.heap s.heap [] := va_S.rf
  have hD : va_D (va_A [] s.heap.size) ([] : va_W) := hD0.self
  have hbA : ¬ va_A [] s.heap.size bs := fun z => by
    rcases z with ⟨k, e, h⟩ | h
    · simp at h
    · omega
  refine lv_iload_n hx hb dL_cell_0 rfl (lv_at hl 1 rfl) ?_
  refine lv_aload_n hx hb dL_cell_1 rfl (lv_at hl 0 rfl) ?_
  refine va_slen hx hb hX hbs hbA hS dL_cell_2 ?_
  refine z_ge (a := k) (b := Ls) (tgt := 12) hx hb dL_cell_3 (by decide) (by omega) (by omega) (fun c_1 => ?_) (fun c_1 => ?_)
  · refine z_ldc (v := (461845907)) (v' := nI 461845907) hx hb hown (hts (.constant RL 7 (461845907)) (by decide +kernel)) dL_cell_12 rfl ?_
    refine lv_iload_n hx hb dL_cell_14 rfl (lv_at hl 1 rfl) ?_
    refine lv_iconst (v := nI 1) hx hb dL_cell_15 (by decide) ?_
    refine z_add (v := nI k + nI 1) hx hb dL_cell_16 rfl ?_
    refine z_mul (v := nI 461845907 * (nI k + nI 1)) hx hb dL_cell_17 rfl ?_
    exact z_iretE (w1 := fun _ => []) () hx hb hr hlk hP hD hS dL_cell_18 rfl trivial
  · refine lv_aload_n hx hb dL_cell_6 rfl (lv_at hl 0 rfl) ?_
    refine lv_iload_n hx hb dL_cell_7 rfl (lv_at hl 1 rfl) ?_
    refine z_sld hx hb hX hbs hbA hS (i := k) c_1 hLs dL_cell_8 ?_
    refine lv_goto (tgt := 18) hx hb dL_cell_9 (by decide) ?_
    exact z_iretE (w1 := fun _ => []) () hx hb hr hlk hP hD hS dL_cell_18 rfl trivial
theorem q_undo2 (l : Launch) (G : ZG) (o pr q : Nat) (a b d : Nat → Nat) (pa : Nat → Nat → Nat) (S P L : Nat → Nat) (t v u : Mem) (pv : Nat → Mem) (B : Nat) (h : Inv B S L t v pv) (k : Nat) (hk : S 0 = k + 1) : CIE l G yX3_undo wsX3_undo (zRm 2 61) [.ref o] (clW G o pr q a b d (pa, S, P, L, t, v, u, pv)) (S := CS) (fun r c' => r = nI k ∧ InvC B c' ∧ same c'.2.2.2.2.2.1 (pv k)) (fun c' => clW G o pr q a b d c') :=
  (q_undo l G o pr q a b d pa S P L t v u pv B h k hk).1.toE (pa, nup S 0 k, P, L, t, zCopy v (pv k), u, pv) rfl ⟨rfl, (q_undo l G o pr q a b d pa S P L t v u pv B h k hk).2, copy_same _ _⟩
theorem tr_eq {v w : Mem} {e e2 B B2 : Nat} (hv : okX v e B) (hw : okX w e2 B2) (h : same v w) : trK v e = trK w e2 := by
  have h1 : nI e = nI e2 := hv.1.1.1.symm.trans ((same_12 h (show 0 < 3 by omega)).trans hw.1.1.1)
  have h2 := hv.1.1.2
  have h3 := hw.1.1.2
  have h4 := nI_inj (by omega) (by omega) h1
  subst h4
  exact trK_same hw.1 h
