section ZQ
variable {p : Program} {l : Launch} {e : Env} {R : Room} {s : State} {m : MethodId} {args : Array Value} {below : List Frame} {meth : Method} {c : Code} {H : Heap} {locs : List Loc} {cells slots : Nat} {Q : State → Prop}
variable {cc : ByteArray} {pc : Nat} {ls : Array Slot} {rest st : List Value} {G : ZG} {A : Nat → Prop} {H0 : Heap} {nL : Nat} {Ts : List Cond} {own : String} {S : Type}
theorem z_qV {y : MethodName} {bytes : ByteArray} {maxL n index b : Nat} {ty : FieldType} {ws : List Cond} {rm : Room} {As : List Value} {w : va_W} {r : Int32} {fs : List Value} (F : CallFix p m c cc nL s args Ts own) (hM : CI l G y ws rm (.ref b :: As) w r w) (cw : CallW R s args own RX3 index y bytes maxL (some ty) ws rm 0 0 n) (hKK : KK G s) (hw0 : w[0]? = some (b, .inr (3, fs))) (hP : va_P G.1 vwCl w H) (hD : va_D A w) (hS : va_S A H0 H locs) (hA : ∀ q, H0.size ≤ q → A q) (hn : As.length = n) (hsz : ls.size = nL) (hst : st = As.reverse ++ .ref b :: rest) (hW : (rest.map fun v => v.category).sum ≤ 8) (hR : cells ≤ R.cells ∧ slots ≤ R.slots) (hdg : decode cc pc = .ok (.invokevirtual index, 3))
    (kk : ∀ (H1 : Heap) (locs1 : List Loc), va_P G.1 vwCl w H1 → va_D A w → va_S A H0 H1 locs1 → W p l e R s m args below meth c H1 locs1 cells slots Q (F0 m (pc + 3) ls (.int r :: rest))) : W p l e R s m args below meth c H locs cells slots Q (F0 m pc ls st) :=
  z_callVI (wr := []) (C := RX3) F hM cw hKK (z_recv hKK hP (q0 := 0) (ci := 3) hw0 rfl) hP hD hS hA hn hsz hst hW hR hdg kk
theorem z_qVE {y : MethodName} {bytes : ByteArray} {maxL n index b : Nat} {ty : FieldType} {ws : List Cond} {rm : Room} {As : List Value} {w : va_W} {post : Int32 → S → Prop} {w1 : S → va_W} {fs : List Value} (F : CallFix p m c cc nL s args Ts own) (hM : CIE l G y ws rm (.ref b :: As) w post w1) (cw : CallW R s args own RX3 index y bytes maxL (some ty) ws rm 0 0 n) (hKK : KK G s) (hw0 : w[0]? = some (b, .inr (3, fs))) (hP : va_P G.1 vwCl w H) (hD : va_D A w) (hS : va_S A H0 H locs) (hA : ∀ q, H0.size ≤ q → A q) (hn : As.length = n) (hsz : ls.size = nL) (hst : st = As.reverse ++ .ref b :: rest) (hW : (rest.map fun v => v.category).sum ≤ 8) (hR : cells ≤ R.cells ∧ slots ≤ R.slots) (hdg : decode cc pc = .ok (.invokevirtual index, 3))
    (kk : ∀ (r : Int32) (u : S) (H1 : Heap) (locs1 : List Loc), post r u → va_P G.1 vwCl (w1 u) H1 → va_D A (w1 u) → va_S A H0 H1 locs1 → W p l e R s m args below meth c H1 locs1 cells slots Q (F0 m (pc + 3) ls (.int r :: rest))) : W p l e R s m args below meth c H locs cells slots Q (F0 m pc ls st) :=
  z_callVIE (wr := []) (C := RX3) F hM cw hKK (z_recv hKK hP (q0 := 0) (ci := 3) hw0 rfl) hP hD hS hA hn hsz hst hW hR hdg kk
theorem z_qS {y : MethodName} {bytes : ByteArray} {maxL n index : Nat} {ty : FieldType} {ws : List Cond} {rm : Room} {As : List Value} {w : va_W} {r : Int32} (F : CallFix p m c cc nL s args Ts own) (hM : CI l G y ws rm As w r w) (cw : CallB R s args own index y bytes maxL (some ty) ws rm 0 0 n ∧ (Cond.static y).before args s = true) (hKK : KK G s) (hP : va_P G.1 vwCl w H) (hD : va_D A w) (hS : va_S A H0 H locs) (hA : ∀ q, H0.size ≤ q → A q) (hn : As.length = n) (hsz : ls.size = nL) (hst : st = As.reverse ++ rest) (hW : (rest.map fun v => v.category).sum ≤ 8) (hR : cells ≤ R.cells ∧ slots ≤ R.slots) (hdg : decode cc pc = .ok (.invokestatic index, 3))
    (kk : ∀ (H1 : Heap) (locs1 : List Loc), va_P G.1 vwCl w H1 → va_D A w → va_S A H0 H1 locs1 → W p l e R s m args below meth c H1 locs1 cells slots Q (F0 m (pc + 3) ls (.int r :: rest))) : W p l e R s m args below meth c H locs cells slots Q (F0 m pc ls st) :=
  z_backI (wr := []) (wc := w) (y := y) (ws := ws) (rm := rm) (va_runS F (hM H.size) cw ⟨ZPre.blind, z_pre (wr := []) hKK hP hD⟩ rfl hn hsz hst (lv_room (rest := st) (ls := ls) (pc := pc) hW) hdg hR) hP hD hS hA kk
theorem z_qSE {y : MethodName} {bytes : ByteArray} {maxL n index : Nat} {ty : FieldType} {ws : List Cond} {rm : Room} {As : List Value} {w : va_W} {post : Int32 → S → Prop} {w1 : S → va_W} (F : CallFix p m c cc nL s args Ts own) (hM : CIE l G y ws rm As w post w1) (cw : CallB R s args own index y bytes maxL (some ty) ws rm 0 0 n ∧ (Cond.static y).before args s = true) (hKK : KK G s) (hP : va_P G.1 vwCl w H) (hD : va_D A w) (hS : va_S A H0 H locs) (hA : ∀ q, H0.size ≤ q → A q) (hn : As.length = n) (hsz : ls.size = nL) (hst : st = As.reverse ++ rest) (hW : (rest.map fun v => v.category).sum ≤ 8) (hR : cells ≤ R.cells ∧ slots ≤ R.slots) (hdg : decode cc pc = .ok (.invokestatic index, 3))
    (kk : ∀ (r : Int32) (u : S) (H1 : Heap) (locs1 : List Loc), post r u → va_P G.1 vwCl (w1 u) H1 → va_D A (w1 u) → va_S A H0 H1 locs1 → W p l e R s m args below meth c H1 locs1 cells slots Q (F0 m (pc + 3) ls (.int r :: rest))) : W p l e R s m args below meth c H locs cells slots Q (F0 m pc ls st) := by
  have hP : va_P G.1 vwCl ([] ++ w) H := hP
  have hD : va_D A ([] ++ w) := hD
  have hF := z_free hD hS hA
  refine va_calli (va_runS F (hM H.size) cw ⟨ZPre.blind, z_pre hKK hP hD⟩ rfl hn hsz hst (lv_room (rest := st) (ls := ls) (pc := pc) hW) hdg hR) hS (fun q _ h => hF q h) hF (fun r' u t H1 locs1 ht hvm hpost hB hz hk hS1 => ?_)
  obtain ⟨hP1, hD1⟩ := hB
  rw [ht] at hP1
  obtain ⟨hP2, hD2⟩ := z_join hP hD hk hF hP1 hD1
  exact kk r' u H1 locs1 hpost hP2 hD2 hS1
/-- a method that answers a long, and changes nothing -/
abbrev ZQl (G : ZG) (A : Nat → Prop) (w1 : va_W) (r : Int64) : Array Value → State → Outcome → State → Prop := va_Ql (fun (r' : Int64) (_ : Unit) => r' = r) (ZEnd G A w1) A
def CL (l : Launch) (G : ZG) (y : MethodName) (ws : List Cond) (rm : Room) (av : List Value) (w : va_W) (r : Int64) : Prop :=
  ∀ sz : Nat, Met l y ws rm (va_Pc av (ZPre G w sz)) (ZQl G (va_A w sz) w r) 0 0 (va_A w sz)
theorem z_lret {v r : Int64} {w w1 : va_W} (hx : p.tables.exec = Jvm.exec) (hb : c.code = cc) (hr : meth.sig.returnType = some .long) (hlk : meth.locks = false) (hP : va_P G.1 vwCl w H) (hD : va_D A w) (hS : va_S A s.heap H locs) (hdg : decode cc pc = .ok (.lreturn, 1)) (e1 : v = r) (e2 : w = w1) : W p l e R s m args below meth c H locs 0 0 (MQ below (ZQl G A w1 r) args s 0 0 A) (F0 m pc ls [.long v]) := by
  subst e1; subst e2
  exact W.lret hx hb hr (fun t ht hW => ⟨⟨v, (), rfl, rfl, by rw [ht]; exact hP, hD⟩, hS.F ht⟩) hS.2.2 hdg hlk
theorem z_qSL {y : MethodName} {bytes : ByteArray} {maxL n index : Nat} {ws : List Cond} {rm : Room} {As : List Value} {w : va_W} {r : Int64} (F : CallFix p m c cc nL s args Ts own) (hM : CL l G y ws rm As w r) (cw : CallB R s args own index y bytes maxL (some .long) ws rm 0 0 n ∧ (Cond.static y).before args s = true) (hKK : KK G s) (hP : va_P G.1 vwCl w H) (hD : va_D A w) (hS : va_S A H0 H locs) (hA : ∀ q, H0.size ≤ q → A q) (hn : As.length = n) (hsz : ls.size = nL) (hst : st = As.reverse ++ rest) (hW : (rest.map fun v => v.category).sum ≤ 8) (hR : cells ≤ R.cells ∧ slots ≤ R.slots) (hdg : decode cc pc = .ok (.invokestatic index, 3))
    (kk : ∀ (H1 : Heap) (locs1 : List Loc), va_P G.1 vwCl w H1 → va_D A w → va_S A H0 H1 locs1 → W p l e R s m args below meth c H1 locs1 cells slots Q (F0 m (pc + 3) ls (.long r :: rest))) : W p l e R s m args below meth c H locs cells slots Q (F0 m pc ls st) := by
  have hP : va_P G.1 vwCl ([] ++ w) H := hP
  have hD : va_D A ([] ++ w) := hD
  have hF := z_free hD hS hA
  refine va_calll (va_runS F (hM H.size) cw ⟨ZPre.blind, z_pre hKK hP hD⟩ rfl hn hsz hst (lv_room (rest := st) (ls := ls) (pc := pc) hW) hdg hR) hS (fun q _ h => hF q h) hF (fun r' u t H1 locs1 ht hvm hpost hB hz hk hS1 => ?_)
  subst hpost
  obtain ⟨hP1, hD1⟩ := hB
  rw [ht] at hP1
  obtain ⟨hP2, hD2⟩ := z_join hP hD hk hF hP1 hD1
  exact kk H1 locs1 hP2 hD2 hS1
end ZQ
theorem CL.ent {l : Launch} {G : ZG} {y : MethodName} {ws ws' : List Cond} {rm : Room} {av : List Value} {w0 : va_W} {r : Int64} {cc : ByteArray} {maxL : Nat} {own : String}
    (hy : plainName y.cls = true) (hw : ws = Cond.code y cc maxL (some .long) :: ws') (ho : y.cls = own) (hlen : (lg_sl av).length ≤ maxL)
    (body : ∀ (p : Program) (e : Env) (s : State) (m : MethodId) (args : Array Value) (below : List Frame) (meth : Method) (c : Code) (A : Nat → Prop) (ls : Array Slot), CallFix p m c cc maxL s args ws own → meth.sig.returnType = some .long → meth.locks = false → KK G s → va_P G.1 vwCl w0 s.heap → va_D A w0 → (∀ q : Nat, s.heap.size ≤ q → A q) → va_S A s.heap s.heap [] → lv_has ls maxL (lv_args 0 av) →
      W p l e rm s m args below meth c s.heap [] 0 0 (MQ below (ZQl G A w0 r) args s 0 0 A) (F0 m 0 ls [])) : CL l G y ws rm av w0 r := by
  intro sz
  refine Met.ofW (cc := cc) (maxL := maxL) (ret := some .long) hy hw ?_
  intro p e s m args below meth c s₁ B hml hv
  obtain ⟨rfl, rfl, hP, hK, hD0⟩ := hv
  have hts := atoms_spec (ws := ws) B.pre
  have hown : s.vm.findClass own = some m.cls := by rw [← ho]; exact findClass_of_methodNamed B.named
  rw [lg_entry_eq]
  exact body p e s m _ below meth c _ _ ⟨B.exec, B.bytes, hml, hown, hts⟩ B.returns B.notSynchronized hK hP hD0.self (fun q h => Or.inr h) va_S.rf (lv_entry av hlen)
/-! what the object answers, told of a roll alone -/
def cnA (v : Mem) (e k : Nat) : Int32 :=
  if k = 0 then nI (fb_ct (pNm v) 40) else if k = 1 then zSm (v 1) 40 else if k = 2 then nI 18 - nI (zCells (v 3) (-1)) else if k = 3 then nI e else if k = 4 then nI (zTp v 40)
  else if k = 5 then nI (zTp v 40) - nI (fb_ct (pNm v) (zTp v 40)) else if k = 6 then v 12 1 else if k = 7 then v 12 2 else nI (min e 3)
def tgA (v : Mem) (n : Nat) : Int32 := nI 1000000 * v 12 0 + nI 100 * v 2 n + nI n
def numA (v : Mem) (n k : Nat) : Int32 :=
  if k = 0 then (if v 0 n = 0 then -1000004 else v 0 n) else if k = 1 then v 1 n else if k = 2 then nI (zCells (v 3) (nI n)) else if k = 3 then v 2 n else (if v 0 n = 0 then -1000004 else tgA v n)
def celA (v : Mem) (k : Nat) : Int32 := if v 3 k = -1 then -1000004 else tgA v (v 3 k).toNatClampNeg
def cmpA (v : Mem) (e n k : Nat) : Int32 :=
  if ¬ n < e then -1000004 else if k = 0 then v 4 ((e - 1 - n) % 3) else if k = 1 then v 5 ((e - 1 - n) % 3) else if k = 2 then v 6 ((e - 1 - n) % 3) else nI (fb_ct (pSt v e (e - 1 - n)) 40)
def whyA (v : Mem) (e : Nat) (x : Int32) : Int32 := if zSta v e x < 0 then -zSta v e x else nI 0
def folA (v : Mem) (e : Nat) (x : Int32) : Int32 := if zSta v e x < 0 then -1000005 else tgA v (zSta v e x).toNatClampNeg
def namA (v : Mem) (e : Nat) (x : Int32) : Int32 := if zSta v e x < 0 then -1000005 else v 0 (zSta v e x).toNatClampNeg
def QS (l : Launch) (G : ZG) (o : Nat) (w : va_W) (v : Mem) (e : Nat) : Prop :=
  (∃ fs, w[0]? = some (o, .inr (3, fs))) ∧
  (∀ k, k < 9 → CI l G yX3_count wsX3_count (zRm 1 24) [.ref o, .int (nI k)] w (cnA v e k) w) ∧
  (∀ n k, n < 40 → k < 5 → CI l G yX3_numberOf wsX3_numberOf (zRm 2 43) [.ref o, .int (nI n), .int (nI k)] w (numA v n k) w) ∧
  (∀ k, k < 18 → CI l G yX3_cellOf wsX3_cellOf (zRm 2 43) [.ref o, .int (nI (k / 6)), .int (nI (k % 6))] w (celA v k) w) ∧
  (∀ n k, n < 3 → k < 4 → CI l G yX3_compaction wsX3_compaction (zRm 3 73) [.ref o, .int (nI n), .int (nI k)] w (cmpA v e n k) w) ∧
  (CI l G yX3_compaction wsX3_compaction (zRm 3 73) [.ref o, .int (nI 3), .int (nI 0)] w (-1000001) w) ∧
  (∀ n, n < 40 → ¬ v 0 n = 0 → CI l G yX3_find wsX3_find (zRm 1 22) [.ref o, .int (v 0 n)] w (nI n) w) ∧
  (∀ x, CI l G yX3_why wsX3_why (zRm 2 48) [.ref o, .int x] w (whyA v e x) w) ∧
  (∀ x, CI l G yX3_follow wsX3_follow (zRm 2 48) [.ref o, .int x] w (folA v e x) w) ∧
  (∀ x, CI l G yX3_nameOf wsX3_nameOf (zRm 2 48) [.ref o, .int x] w (namA v e x) w) ∧
  (∀ n, n < 40 → ¬ v 0 n = 0 → CI l G yX3_beginning wsX3_beginning (zRm 1 23) [.ref o, .int (v 0 n)] w (nI (fb_ct (pBg (v 0) (nmK v n)) 40)) w) ∧
  (∀ n ρ, n < 40 → ρ < 3 → CI l G yX3_wouldBe wsX3_wouldBe (zRm 3 69) [.ref o, .int (nI n), .int (nI ρ)] w (if v 0 n = 0 then -1000004 else nI (zPl v ρ n)) w) ∧
  (∀ ρ k, ρ < 3 → k < 2 ^ 31 → CIE l G yX3_nameAt wsX3_nameAt (zRm 3 69) [.ref o, .int (nI ρ), .int (nI k)] w (S := Unit) (fun r _ => naV v ρ k r) (fun _ => w)) ∧
  (∀ n, n < 40 → ¬ v 0 n = 0 → CIE l G yX3_behind wsX3_behind (zRm 1 22) [.ref o, .int (v 0 n)] w (S := Unit) (fun r _ => bhV v (Kv v n) r) (fun _ => w))
abbrev CS : Type := (Nat → Nat → Nat) × (Nat → Nat) × (Nat → Nat) × (Nat → Nat) × Mem × Mem × Mem × (Nat → Mem)
abbrev clW (G : ZG) (o pr q : Nat) (a b d : Nat → Nat) (c : CS) : va_W := nrW G o pr q a b d c.1 c.2.1 c.2.2.1 c.2.2.2.1 c.2.2.2.2.1 c.2.2.2.2.2.1 c.2.2.2.2.2.2.1 c.2.2.2.2.2.2.2
section QM
variable (l : Launch) (G : ZG) (o pr q : Nat) (a b d : Nat → Nat) (pa : Nat → Nat → Nat) (S P L : Nat → Nat) (t v u : Mem) (pv : Nat → Mem)
theorem c_why_z (x z : Int32) (hst : CI l G yX1_standing wsX1_standing (zRm 1 21) [.ref (a 0), .int x] (rollW G a v) z (rollW G a v)) (h : z < 0 ∨ ∃ n, n < 40 ∧ z = nI n) :
    CI l G yX3_why wsX3_why (zRm 2 48) [.ref o, .int x] (nrW G o pr q a b d pa S P L t v u pv) (if z < 0 then -z else nI 0) (nrW G o pr q a b d pa S P L t v u pv) ∧
    CI l G yX3_follow wsX3_follow (zRm 2 48) [.ref o, .int x] (nrW G o pr q a b d pa S P L t v u pv) (if z < 0 then -1000005 else tgA v z.toNatClampNeg) (nrW G o pr q a b d pa S P L t v u pv) ∧
    CI l G yX3_nameOf wsX3_nameOf (zRm 2 48) [.ref o, .int x] (nrW G o pr q a b d pa S P L t v u pv) (if z < 0 then -1000005 else v 0 z.toNatClampNeg) (nrW G o pr q a b d pa S P L t v u pv) := by
  rcases h with h | ⟨n, hn, rfl⟩
  · rw [if_pos h, if_pos h, if_pos h]
    exact ⟨c_X3_why_st l G o pr q a b d pa S P L t v u pv x z hst h, c_X3_follow_st l G o pr q a b d pa S P L t v u pv x z hst h, c_X3_nameOf_st l G o pr q a b d pa S P L t v u pv x z hst h⟩
  · have h9 : ¬ nI n < 0 := nI_pos (by omega)
    rw [if_neg h9, if_neg h9, if_neg h9, nI_clamp (by omega)]
    exact ⟨c_X3_why_ok l G o pr q a b d pa S P L t v u pv x n hst hn, c_X3_follow_ok l G o pr q a b d pa S P L t v u pv x n hst hn, c_X3_nameOf_ok l G o pr q a b d pa S P L t v u pv x n hst hn⟩
set_option maxHeartbeats 4000000 in
theorem qs_mk {e B : Nat} (hv : okV v e B) (hC : okC v) (hB : B < 10000) : QS l G o (nrW G o pr q a b d pa S P L t v u pv) v e := by
  obtain ⟨he, he9⟩ := hv.1
  have hN : okN v := nm_ok hv
  have sta : ∀ x : Int32, zSta v e x < 0 ∨ ∃ n, n < 40 ∧ zSta v e x = nI n := by
    intro x
    rcases sta_cases hv hC hB x with ⟨n, h1, h2, -⟩ | ⟨k, h1, h2, h3⟩
    · exact Or.inr ⟨n, h1, h2⟩
    · exact Or.inl (by rw [h3]; exact (neg_k h1 h2).1)
  refine ⟨⟨_, rfl⟩, fun k hk => ?_, fun n k hn hk => ?_, fun k hk => ?_, fun n k hn hk => ?_, ?_, fun n hn h0 => ?_, fun x => ?_, fun x => ?_, fun x => ?_, fun n hn h0 => ?_, fun n ρ hn hρ => ?_, fun ρ k hρ hk => ?_, fun n hn h0 => ?_⟩
  · rcases (show k = 0 ∨ k = 1 ∨ k = 2 ∨ k = 3 ∨ k = 4 ∨ k = 5 ∨ k = 6 ∨ k = 7 ∨ k = 8 by omega) with rfl | rfl | rfl | rfl | rfl | rfl | rfl | rfl | rfl
    · exact c_X3_count_0 l G o pr q a b d pa S P L t v u pv
    · exact c_X3_count_1 l G o pr q a b d pa S P L t v u pv
    · exact c_X3_count_2 l G o pr q a b d pa S P L t v u pv
    · show CI l G yX3_count wsX3_count (zRm 1 24) [.ref o, .int (nI 3)] _ (nI e) _
      rw [← he]
      exact c_X3_count_3 l G o pr q a b d pa S P L t v u pv
    · exact c_X3_count_4 l G o pr q a b d pa S P L t v u pv
    · exact c_X3_count_5 l G o pr q a b d pa S P L t v u pv
    · exact c_X3_count_6 l G o pr q a b d pa S P L t v u pv
    · exact c_X3_count_7 l G o pr q a b d pa S P L t v u pv
    · exact c_X3_count_8 l G o pr q a b d pa S P L t v u pv e he he9
  · rcases (show k = 0 ∨ k = 1 ∨ k = 2 ∨ k = 3 ∨ k = 4 by omega) with rfl | rfl | rfl | rfl | rfl
    · show CI l G yX3_numberOf wsX3_numberOf (zRm 2 43) [.ref o, .int (nI n), .int (nI 0)] _ (if v 0 n = 0 then -1000004 else v 0 n) _
      by_cases h0 : v 0 n = 0
      · rw [if_pos h0]; exact c_X3_numberOf_w0n l G o pr q a b d pa S P L t v u pv n hn h0
      · rw [if_neg h0]; exact c_X3_numberOf_w0y l G o pr q a b d pa S P L t v u pv n hn h0
    · exact c_X3_numberOf_w1 l G o pr q a b d pa S P L t v u pv n hn
    · exact c_X3_numberOf_w2 l G o pr q a b d pa S P L t v u pv n hn
    · exact c_X3_numberOf_w3 l G o pr q a b d pa S P L t v u pv n hn
    · show CI l G yX3_numberOf wsX3_numberOf (zRm 2 43) [.ref o, .int (nI n), .int (nI 4)] _ (if v 0 n = 0 then -1000004 else tgA v n) _
      by_cases h0 : v 0 n = 0
      · rw [if_pos h0]; exact c_X3_numberOf_w4n l G o pr q a b d pa S P L t v u pv n hn h0
      · rw [if_neg h0]; exact c_X3_numberOf_w4y l G o pr q a b d pa S P L t v u pv n hn h0
  · have hk6 : k / 6 * 6 + k % 6 = k := by omega
    unfold celA
    rcases hv.2.2.2.2.1 k hk with z | ⟨n, hn, z⟩
    · rw [if_pos z]
      exact c_X3_cellOf_no l G o pr q a b d pa S P L t v u pv (k / 6) (k % 6) (by omega) (by omega) (by rw [hk6]; exact z)
    · rw [z, if_neg (nI_nm1 (by omega)), nI_clamp (by omega)]
      exact c_X3_cellOf_ok l G o pr q a b d pa S P L t v u pv (k / 6) (k % 6) n (by omega) (by omega) (by rw [hk6]; exact z) hn
  · unfold cmpA
    by_cases h0 : n < e
    · rw [if_neg (fun z => z h0)]
      rcases (show k = 0 ∨ k = 1 ∨ k = 2 ∨ k = 3 by omega) with rfl | rfl | rfl | rfl
      · exact c_X3_compaction_w0 l G o pr q a b d pa S P L t v u pv n e hn he he9 h0
      · exact c_X3_compaction_w1 l G o pr q a b d pa S P L t v u pv n e hn he he9 h0
      · exact c_X3_compaction_w2 l G o pr q a b d pa S P L t v u pv n e hn he he9 h0
      · exact c_X3_compaction_w3 l G o pr q a b d pa S P L t v u pv n e hn he he9 h0
    · rw [if_pos h0]
      exact c_X3_compaction_no l G o pr q a b d pa S P L t v u pv n k e hn hk he he9 h0
  · exact c_X3_compaction_b1 l G o pr q a b d pa S P L t v u pv (nI 3) (nI 0) (by decide)
  · obtain ⟨h1, -, -, h4⟩ := nm_is hv hn h0
    exact c_X3_find_ok l G o pr q a b d pa S P L t v u pv (v 0 n) n (by rw [h1]; exact h4) (find_is hv hn h0) hn
  · exact (c_why_z l G o pr q a b d pa S P L t v u pv x _ (c_X1_standing l G a v x e he he9) (sta x)).1
  · exact (c_why_z l G o pr q a b d pa S P L t v u pv x _ (c_X1_standing l G a v x e he he9) (sta x)).2.1
  · exact (c_why_z l G o pr q a b d pa S P L t v u pv x _ (c_X1_standing l G a v x e he he9) (sta x)).2.2
  · obtain ⟨h1, h2, h3, h4⟩ := nm_is hv hn h0
    rw [h1]
    exact c_X3_beginning_ok l G o pr q a b d pa S P L t v u pv (nmK v n) h4 h3 hN
  · by_cases h0 : v 0 n = 0
    · rw [if_pos h0]; exact c_X3_wouldBe_no l G o pr q a b d pa S P L t v u pv n ρ hn hρ h0
    · rw [if_neg h0]; exact c_X3_wouldBe_ok l G o pr q a b d pa S P L t v u pv n ρ hn hρ h0 hN
  · exact c_X3_nameAt_ok l G o pr q a b d pa S P L t v u pv ρ k hρ hk hN
  · obtain ⟨h1, h2, h3, h4⟩ := nm_is hv hn h0
    rw [h1]
    exact c_X3_behind_ok l G o pr q a b d pa S P L t v u pv (nmK v n) h4 h3 hN
end QM
