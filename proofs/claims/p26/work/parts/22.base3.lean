/-! contracts whose end is one of several worlds -/
def CIE (l : Launch) (G : ZG) (y : MethodName) (ws : List Cond) (rm : Room) (av : List Value) (w0 : va_W) {S : Type} (post : Int32 → S → Prop) (w1 : S → va_W) : Prop :=
  ∀ sz : Nat, Met l y ws rm (va_Pc av (ZPre G w0 sz)) (va_Qi post (fun u t => va_P G.1 vwCl (w1 u) t.heap ∧ va_D (va_A w0 sz) (w1 u)) (va_A w0 sz)) 0 0 (va_A w0 sz)
def CVE (l : Launch) (G : ZG) (y : MethodName) (ws : List Cond) (rm : Room) (av : List Value) (w0 : va_W) {S : Type} (post : S → Prop) (w1 : S → va_W) : Prop :=
  ∀ sz : Nat, Met l y ws rm (va_Pc av (ZPre G w0 sz)) (va_Qv post (fun u t => va_P G.1 vwCl (w1 u) t.heap ∧ va_D (va_A w0 sz) (w1 u)) (va_A w0 sz)) 0 0 (va_A w0 sz)
abbrev ZQie (G : ZG) (A : Nat → Prop) {S : Type} (post : Int32 → S → Prop) (w1 : S → va_W) : Array Value → State → Outcome → State → Prop := va_Qi post (fun u t => va_P G.1 vwCl (w1 u) t.heap ∧ va_D A (w1 u)) A
abbrev ZQve (G : ZG) (A : Nat → Prop) {S : Type} (post : S → Prop) (w1 : S → va_W) : Array Value → State → Outcome → State → Prop := va_Qv post (fun u t => va_P G.1 vwCl (w1 u) t.heap ∧ va_D A (w1 u)) A
theorem CIE.ent {l : Launch} {G : ZG} {y : MethodName} {ws ws' : List Cond} {rm : Room} {av : List Value} {w0 : va_W} {S : Type} {post : Int32 → S → Prop} {w1 : S → va_W} {cc : ByteArray} {maxL : Nat} {ty : FieldType} {own : String}
    (hy : plainName y.cls = true) (hw : ws = Cond.code y cc maxL (some ty) :: ws') (ho : y.cls = own) (hlen : (lg_sl av).length ≤ maxL)
    (body : ∀ (p : Program) (e : Env) (s : State) (m : MethodId) (args : Array Value) (below : List Frame) (meth : Method) (c : Code) (A : Nat → Prop) (ls : Array Slot), CallFix p m c cc maxL s args ws own → meth.sig.returnType = some ty → meth.locks = false → KK G s → va_P G.1 vwCl w0 s.heap → va_D A w0 → (∀ q : Nat, s.heap.size ≤ q → A q) → va_S A s.heap s.heap [] → lv_has ls maxL (lv_args 0 av) →
      W p l e rm s m args below meth c s.heap [] 0 0 (MQ below (ZQie G A post w1) args s 0 0 A) (F0 m 0 ls [])) : CIE l G y ws rm av w0 post w1 := by
  intro sz
  refine Met.ofW (cc := cc) (maxL := maxL) (ret := some ty) hy hw ?_
  intro p e s m args below meth c s₁ B hml hv
  obtain ⟨rfl, rfl, hP, hK, hD0⟩ := hv
  have hts := atoms_spec (ws := ws) B.pre
  have hown : s.vm.findClass own = some m.cls := by rw [← ho]; exact findClass_of_methodNamed B.named
  rw [lg_entry_eq]
  exact body p e s m _ below meth c _ _ ⟨B.exec, B.bytes, hml, hown, hts⟩ B.returns B.notSynchronized hK hP hD0.self (fun q h => Or.inr h) va_S.rf (lv_entry av hlen)
theorem CVE.ent {l : Launch} {G : ZG} {y : MethodName} {ws ws' : List Cond} {rm : Room} {av : List Value} {w0 : va_W} {S : Type} {post : S → Prop} {w1 : S → va_W} {cc : ByteArray} {maxL : Nat} {own : String}
    (hy : plainName y.cls = true) (hw : ws = Cond.code y cc maxL none :: ws') (ho : y.cls = own) (hlen : (lg_sl av).length ≤ maxL)
    (body : ∀ (p : Program) (e : Env) (s : State) (m : MethodId) (args : Array Value) (below : List Frame) (meth : Method) (c : Code) (A : Nat → Prop) (ls : Array Slot), CallFix p m c cc maxL s args ws own → meth.sig.returnType = none → meth.locks = false → KK G s → va_P G.1 vwCl w0 s.heap → va_D A w0 → (∀ q : Nat, s.heap.size ≤ q → A q) → va_S A s.heap s.heap [] → lv_has ls maxL (lv_args 0 av) →
      W p l e rm s m args below meth c s.heap [] 0 0 (MQ below (ZQve G A post w1) args s 0 0 A) (F0 m 0 ls [])) : CVE l G y ws rm av w0 post w1 := by
  intro sz
  refine Met.ofW (cc := cc) (maxL := maxL) (ret := none) hy hw ?_
  intro p e s m args below meth c s₁ B hml hv
  obtain ⟨rfl, rfl, hP, hK, hD0⟩ := hv
  have hts := atoms_spec (ws := ws) B.pre
  have hown : s.vm.findClass own = some m.cls := by rw [← ho]; exact findClass_of_methodNamed B.named
  rw [lg_entry_eq]
  exact body p e s m _ below meth c _ _ ⟨B.exec, B.bytes, hml, hown, hts⟩ B.returns B.notSynchronized hK hP hD0.self (fun q h => Or.inr h) va_S.rf (lv_entry av hlen)
section ZR4
variable {p : Program} {l : Launch} {e : Env} {R : Room} {s : State} {m : MethodId} {args : Array Value} {below : List Frame} {meth : Method} {c : Code} {H : Heap} {locs : List Loc} {cells slots : Nat} {Q : State → Prop}
variable {cc : ByteArray} {pc : Nat} {ls : Array Slot} {rest st : List Value} {G : ZG} {A : Nat → Prop} {H0 : Heap} {nL : Nat} {Ts : List Cond} {own : String} {S : Type}
theorem z_iretE {v : Int32} {post : Int32 → S → Prop} {w1 : S → va_W} {ty : FieldType} (u : S) (hx : p.tables.exec = Jvm.exec) (hb : c.code = cc) (hr : meth.sig.returnType = some ty) (hlk : meth.locks = false) (hP : va_P G.1 vwCl (w1 u) H) (hD : va_D A (w1 u)) (hS : va_S A s.heap H locs) (hdg : decode cc pc = .ok (.ireturn, 1)) (hn : narrow ty (.int v) = .int v) (hp : post v u) : W p l e R s m args below meth c H locs 0 0 (MQ below (ZQie G A post w1) args s 0 0 A) (F0 m pc ls [.int v]) :=
  W.zret hx hb hr hn (fun t ht hW => ⟨⟨v, u, rfl, hp, by rw [ht]; exact hP, hD⟩, hS.F ht⟩) hS.2.2 hdg hlk
theorem z_vretE {post : S → Prop} {w1 : S → va_W} (u : S) (hx : p.tables.exec = Jvm.exec) (hb : c.code = cc) (hr : meth.sig.returnType = none) (hlk : meth.locks = false) (hP : va_P G.1 vwCl (w1 u) H) (hD : va_D A (w1 u)) (hS : va_S A s.heap H locs) (hdg : decode cc pc = .ok (.return_, 1)) (hp : post u) : W p l e R s m args below meth c H locs 0 0 (MQ below (ZQve G A post w1) args s 0 0 A) (F0 m pc ls []) :=
  W.vret hx hb hr (fun t ht hW => ⟨⟨u, rfl, hp, by rw [ht]; exact hP, hD⟩, hS.F ht⟩) hS.2.2 hdg hlk
theorem z_callVIE {y : MethodName} {bytes : ByteArray} {maxL n index b : Nat} {ty : FieldType} {ws : List Cond} {rm : Room} {As : List Value} {wr wc : va_W} {post : Int32 → S → Prop} {w1 : S → va_W} {C : String} (F : CallFix p m c cc nL s args Ts own) (hM : CIE l G y ws rm (.ref b :: As) wc post w1) (cw : CallW R s args own C index y bytes maxL (some ty) ws rm 0 0 n) (hKK : KK G s) (hrc : ∃ cellB : Cell, H[b]? = some cellB ∧ cellB.vm.isStatics = false ∧ s.vm.findClass C = some cellB.cls) (hP : va_P G.1 vwCl (wr ++ wc) H) (hD : va_D A (wr ++ wc)) (hS : va_S A H0 H locs) (hA : ∀ q, H0.size ≤ q → A q) (hn : As.length = n) (hsz : ls.size = nL) (hst : st = As.reverse ++ .ref b :: rest) (hW : (rest.map fun v => v.category).sum ≤ 8) (hR : cells ≤ R.cells ∧ slots ≤ R.slots) (hdg : decode cc pc = .ok (.invokevirtual index, 3))
    (kk : ∀ (r : Int32) (u : S) (H1 : Heap) (locs1 : List Loc), post r u → va_P G.1 vwCl (wr ++ w1 u) H1 → va_D A (wr ++ w1 u) → va_S A H0 H1 locs1 → W p l e R s m args below meth c H1 locs1 cells slots Q (F0 m (pc + 3) ls (.int r :: rest))) : W p l e R s m args below meth c H locs cells slots Q (F0 m pc ls st) := by
  have hF := z_free hD hS hA
  refine va_calli (va_runV F (hM H.size) cw ⟨ZPre.blind, hrc, z_pre hKK hP hD⟩ rfl hn hsz hst (lv_room (rest := st) (ls := ls) (pc := pc) hW) hdg hR) hS (fun q _ h => hF q h) hF (fun r' u t H1 locs1 ht hvm hpost hB hz hk hS1 => ?_)
  obtain ⟨hP1, hD1⟩ := hB
  rw [ht] at hP1
  obtain ⟨hP2, hD2⟩ := z_join hP hD hk hF hP1 hD1
  exact kk r' u H1 locs1 hpost hP2 hD2 hS1
theorem z_callVVE {y : MethodName} {bytes : ByteArray} {maxL n index b : Nat} {ws : List Cond} {rm : Room} {As : List Value} {wr wc : va_W} {post : S → Prop} {w1 : S → va_W} {C : String} (F : CallFix p m c cc nL s args Ts own) (hM : CVE l G y ws rm (.ref b :: As) wc post w1) (cw : CallW R s args own C index y bytes maxL none ws rm 0 0 n) (hKK : KK G s) (hrc : ∃ cellB : Cell, H[b]? = some cellB ∧ cellB.vm.isStatics = false ∧ s.vm.findClass C = some cellB.cls) (hP : va_P G.1 vwCl (wr ++ wc) H) (hD : va_D A (wr ++ wc)) (hS : va_S A H0 H locs) (hA : ∀ q, H0.size ≤ q → A q) (hn : As.length = n) (hsz : ls.size = nL) (hst : st = As.reverse ++ .ref b :: rest) (hW : (rest.map fun v => v.category).sum ≤ 8) (hR : cells ≤ R.cells ∧ slots ≤ R.slots) (hdg : decode cc pc = .ok (.invokevirtual index, 3))
    (kk : ∀ (u : S) (H1 : Heap) (locs1 : List Loc), post u → va_P G.1 vwCl (wr ++ w1 u) H1 → va_D A (wr ++ w1 u) → va_S A H0 H1 locs1 → W p l e R s m args below meth c H1 locs1 cells slots Q (F0 m (pc + 3) ls rest)) : W p l e R s m args below meth c H locs cells slots Q (F0 m pc ls st) := by
  have hF := z_free hD hS hA
  refine va_callv (va_runV F (hM H.size) cw ⟨ZPre.blind, hrc, z_pre hKK hP hD⟩ rfl hn hsz hst (lv_room (rest := st) (ls := ls) (pc := pc) hW) hdg hR) hS (fun q _ h => hF q h) hF (fun u t H1 locs1 ht hvm hpost hB hz hk hS1 => ?_)
  obtain ⟨hP1, hD1⟩ := hB
  rw [ht] at hP1
  obtain ⟨hP2, hD2⟩ := z_join hP hD hk hF hP1 hD1
  exact kk u H1 locs1 hpost hP2 hD2 hS1
end ZR4
theorem CI.toE {l : Launch} {G : ZG} {y : MethodName} {ws : List Cond} {rm : Room} {av : List Value} {w0 w : va_W} {r : Int32} {S : Type} {post : Int32 → S → Prop} {w1 : S → va_W} (h : CI l G y ws rm av w0 r w) (u : S) (hw : w = w1 u) (hp : post r u) : CIE l G y ws rm av w0 post w1 := by
  intro sz
  have h1 := h sz
  subst hw
  intro p e ha hc hk s m args below hf happ hpre hk2
  obtain ⟨k, o, q1, q2, q3, ⟨⟨⟨r', u', e1, e2, e3⟩, hF⟩, hL⟩⟩ := h1 p e ha hc hk s m args below hf happ hpre hk2
  subst e2
  exact ⟨k, o, q1, q2, q3, ⟨⟨⟨r', u, e1, hp, e3⟩, hF⟩, hL⟩⟩
/-- letters, words, orders of a text -/
def lcF (sg : Nat → Nat) : Nat → Nat → Nat
  | 0, _ => 0
  | f + 1, p => if 97 ≤ sg p ∧ sg p ≤ 122 then lcF sg f (p + 1) + 1 else 0
def lc (sg : Nat → Nat) (p : Nat) : Nat := lcF sg 60 p
def wv (sg : Nat → Nat) (p : Nat) : Nat → Nat
  | 0 => 0
  | j + 1 => if j < 6 then 27 * wv sg p j + (sg (p + j) - 96) else wv sg p j
def allL (sg : Nat → Nat) (p j : Nat) : Prop := ∀ i, i < j → 97 ≤ sg (p + i) ∧ sg (p + i) ≤ 122
theorem allL_s {sg : Nat → Nat} {p j : Nat} (h : allL sg p j) (h1 : 97 ≤ sg (p + j) ∧ sg (p + j) ≤ 122) : allL sg p (j + 1) := by
  intro i hi
  rcases Nat.lt_or_ge i j with q | q
  · exact h i q
  · rw [show i = j by omega]; exact h1
theorem allL_0 (sg : Nat → Nat) (p : Nat) : allL sg p 0 := fun i hi => absurd hi (Nat.not_lt_zero i)
theorem lcF_at (sg : Nat → Nat) : ∀ (f j p : Nat), allL sg p j → (f = j ∨ (j < f ∧ ¬ (97 ≤ sg (p + j) ∧ sg (p + j) ≤ 122))) → lcF sg f p = j
  | 0, j, p, _, h2 => by rcases h2 with h | h <;> first | exact h | omega
  | f + 1, 0, p, _, h2 => by
    rcases h2 with h | h
    · omega
    · have h9 : ¬ (97 ≤ sg p ∧ sg p ≤ 122) := h.2
      rw [lcF, if_neg h9]
  | f + 1, j + 1, p, h1, h2 => by
    have h0 : 97 ≤ sg p ∧ sg p ≤ 122 := h1 0 (by omega)
    rw [lcF, if_pos h0, lcF_at sg f j (p + 1) (fun i hi => by have := h1 (i + 1) (by omega); rw [show p + 1 + i = p + (i + 1) by omega]; exact this) ?_]
    rcases h2 with h | h
    · exact Or.inl (by omega)
    · exact Or.inr ⟨by omega, by rw [show p + 1 + j = p + (j + 1) by omega]; exact h.2⟩
theorem lcF_all (sg : Nat → Nat) : ∀ (f p : Nat), allL sg p (lcF sg f p)
  | 0, p => allL_0 sg p
  | f + 1, p => by
    rw [lcF]
    split
    · next h =>
      intro i hi
      cases i with
      | zero => exact h
      | succ i => have := lcF_all sg f (p + 1) i (by omega); rw [show p + (i + 1) = p + 1 + i by omega]; exact this
    · exact allL_0 sg p
theorem wv_lt {sg : Nat → Nat} {p : Nat} : ∀ (j : Nat), allL sg p j → wv sg p j < 27 ^ min j 6
  | 0, _ => by rw [wv]; exact Nat.pow_pos (by decide)
  | j + 1, h => by
    have h1 := wv_lt j (fun i hi => h i (by omega))
    have h2 := h j (by omega)
    rw [wv]
    split
    · next hj =>
      rw [show min (j + 1) 6 = j + 1 by omega, Nat.pow_succ]
      rw [show min j 6 = j by omega] at h1
      omega
    · next hj =>
      rw [show min (j + 1) 6 = min j 6 by omega]; exact h1
theorem wv_lt6 {sg : Nat → Nat} {p j : Nat} (h : allL sg p j) : wv sg p j < 387420489 := by
  have h1 := wv_lt j h
  have h2 : 27 ^ min j 6 ≤ 27 ^ 6 := Nat.pow_le_pow_right (by decide) (by omega)
  have h3 : 27 ^ 6 = 387420489 := by decide
  omega
