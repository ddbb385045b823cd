theorem z_at_perm : ∀ (w : va_W) (k : Nat) (q : Nat × va_E), w[k]? = some q → w.Perm (w.eraseIdx k ++ [q])
  | [], k, q, h => by simp at h
  | a :: w, 0, q, h => by
    rw [List.getElem?_cons_zero] at h
    cases h
    rw [List.eraseIdx_cons_zero]
    exact List.perm_append_comm (l₁ := [a]) (l₂ := w)
  | a :: w, k + 1, q, h => by
    rw [List.getElem?_cons_succ] at h
    rw [List.eraseIdx_cons_succ, List.cons_append]
    exact List.Perm.cons a (z_at_perm w k q h)
theorem z_set_perm : ∀ (w : va_W) (k : Nat) (q q' : Nat × va_E), w[k]? = some q → (w.eraseIdx k ++ [q']).Perm (w.set k q')
  | [], k, q, q', h => by simp at h
  | a :: w, 0, q, q', h => by
    rw [List.eraseIdx_cons_zero, List.set_cons_zero]
    exact List.perm_append_comm (l₁ := w) (l₂ := [q'])
  | a :: w, k + 1, q, q', h => by
    rw [List.getElem?_cons_succ] at h
    rw [List.eraseIdx_cons_succ, List.cons_append, List.set_cons_succ]
    exact List.Perm.cons a (z_set_perm w k q q' h)
theorem z_0add (a : Nat) : nI 0 + nI a = nI a := by rw [nI_add, Nat.zero_add]
section ZR3
variable {p : Program} {l : Launch} {e : Env} {R : Room} {s : State} {m : MethodId} {args : Array Value} {below : List Frame} {meth : Method} {c : Code} {H : Heap} {locs : List Loc} {cells slots : Nat} {Q : State → Prop}
variable {cc : ByteArray} {pc : Nat} {ls : Array Slot} {rest st : List Value} {G : ZG} {A : Nat → Prop} {H0 : Heap} {nL : Nat} {Ts : List Cond} {own : String}
theorem z_put {w w2 : va_W} {a ci N index : Nat} {C ref : String} {T : u_T} {fs : List Value} {x : Int32} (hx : p.tables.exec = Jvm.exec) (hb : c.code = cc) (hts : ∀ w ∈ Ts, w.before args s = true) (hin : ∀ w ∈ u_ws C T N, w ∈ Ts) (ty0 : Nat → FieldType) (hty : ∀ k, k < N → parseFieldDescriptor (T k).2.2.1 = some (ty0 k)) (hnm : ∀ a, a < N → ∀ b, b < N → a ≠ b → (T a).2.1 ≠ (T b).2.1) (hown : s.vm.findClass own = some m.cls) (hKK : KK G s) (hP : va_P G.1 vwCl w H) (hD : va_D A w) (hS : va_S A H0 H locs) (q0 : Nat) (he : w[q0]? = some (a, .inr (ci, fs))) (hc : vwCl[ci]? = some (C, T, N)) (k : Nat) (hk : k < N) (hlink : (Cond.fieldLink own index ref (T k).2.1 (T k).2.2.1).before args s = true) (href : (T k).1 = ref) (hfin : (T k).2.2.2 = false) (hti : ty0 k = .int) (hl : k < fs.length) (hw : w.set q0 (a, .inr (ci, fs.set k (.int x))) = w2) (hdg : decode cc pc = .ok (.putfield index, 3))
    (kk : ∀ (H1 : Heap) (locs1 : List Loc), va_P G.1 vwCl w2 H1 → va_D A w2 → va_S A H0 H1 locs1 → W p l e R s m args below meth c H1 locs1 cells slots Q (F0 m (pc + 3) ls rest)) : W p l e R s m args below meth c H locs cells slots Q (F0 m pc ls (.int x :: .ref a :: rest)) := by
  subst hw; subst href
  exact va_put hx hb hts hin ty0 hty hnm hown hKK.1 hP hD hS q0 he hc k hk hlink (fun _ h => h) hfin ((hty k hk).trans (congrArg some hti)) rfl rfl hl hdg kk
theorem z_putC {w w2 : va_W} {a ci N index : Nat} {C ref : String} {T : u_T} {fs : List Value} {x : Int32} (hx : p.tables.exec = Jvm.exec) (hb : c.code = cc) (hts : ∀ w ∈ Ts, w.before args s = true) (hin : ∀ w ∈ u_ws C T N, w ∈ Ts) (ty0 : Nat → FieldType) (hty : ∀ k, k < N → parseFieldDescriptor (T k).2.2.1 = some (ty0 k)) (hnm : ∀ a, a < N → ∀ b, b < N → a ≠ b → (T a).2.1 ≠ (T b).2.1) (hown : s.vm.findClass own = some m.cls) (hKK : KK G s) (hP : va_P G.1 vwCl w H) (hD : va_D A w) (hS : va_S A H0 H locs) (q0 : Nat) (he : w[q0]? = some (a, .inr (ci, fs))) (hc : vwCl[ci]? = some (C, T, N)) (k : Nat) (hk : k < N) (hlink : (Cond.fieldLink own index ref (T k).2.1 (T k).2.2.1).before args s = true) (href : (T k).1 = ref) (hfin : (T k).2.2.2 = false) (hti : ty0 k = .char ∧ ∃ q : Nat, q < 65536 ∧ x = nI q) (hl : k < fs.length) (hw : w.set q0 (a, .inr (ci, fs.set k (.int x))) = w2) (hdg : decode cc pc = .ok (.putfield index, 3))
    (kk : ∀ (H1 : Heap) (locs1 : List Loc), va_P G.1 vwCl w2 H1 → va_D A w2 → va_S A H0 H1 locs1 → W p l e R s m args below meth c H1 locs1 cells slots Q (F0 m (pc + 3) ls rest)) : W p l e R s m args below meth c H locs cells slots Q (F0 m pc ls (.int x :: .ref a :: rest)) := by
  subst hw; subst href
  obtain ⟨hti, q, hq, rfl⟩ := hti
  exact va_put hx hb hts hin ty0 hty hnm hown hKK.1 hP hD hS q0 he hc k hk hlink (fun _ h => h) hfin ((hty k hk).trans (congrArg some hti)) (pk_charN hq).1 (pk_charN hq).2 hl hdg kk
theorem z_copy {w w2 : va_W} {a a0 index : Nat} (hx : p.tables.exec = Jvm.exec) (hb : c.code = cc) (hml : c.maxLocals = ls.size) (hown : s.vm.findClass own = some m.cls) (hlink : (Cond.methodLink own index arraycopyName).before args s = true) (hnat : (Cond.native arraycopyName).before args s = true) (hstat : (Cond.static arraycopyName).before args s = true) (hini : (Cond.initialized "java/lang/System").before args s = true) (hKK : KK G s) (hP : va_P G.1 vwCl w H) (hD : va_D A w) (hS : va_S A H0 H locs) (q0 q1 : Nat) {n0 n1 : Nat} {f g : Nat → Int32} {sp dp n : Nat} (ha0 : w[q0]? = some (a0, .inl (G.2.1, n0, .inl f))) (ha1 : w[q1]? = some (a, .inl (G.2.1, n1, .inl g))) (h1 : sp + n ≤ n0) (h2 : dp + n ≤ n1) (h3 : n0 < 2 ^ 31) (h4 : n1 < 2 ^ 31) (hw : w.set q1 (a, .inl (G.2.1, n1, .inl (va_cpy f g sp dp n))) = w2) (hfr : 1 ≤ R.frames) (hlo : (rest.map fun v => v.category).sum + (nativeFrameWords "java/lang/System" "arraycopy" 5 + 11) ≤ R.locals) (hdg : decode cc pc = .ok (.invokestatic index, 3))
    (kk : ∀ (H1 : Heap) (locs1 : List Loc), va_P G.1 vwCl w2 H1 → va_D A w2 → va_S A H0 H1 locs1 → W p l e R s m args below meth c H1 locs1 cells slots Q (F0 m (pc + 3) ls rest)) : W p l e R s m args below meth c H locs cells slots Q (F0 m pc ls (.int (nI n) :: .int (nI dp) :: .ref a :: .int (nI sp) :: .ref a0 :: rest)) := by
  subst hw
  refine va_copyi hx hb hml hown hlink hnat hstat hini hKK.1 hP hD hS q0 q1 0 0 ha0 ha1 rfl rfl rfl (nI_pos (by omega)) (nI_pos (by omega)) (nI_pos (by omega)) (by rw [nI_clamp (by omega), nI_clamp (by omega)]; exact h1) (by rw [nI_clamp (by omega), nI_clamp (by omega)]; exact h2) (fun i _ => rfl) hfr hlo hdg (fun H1 l1 g1 g2 g3 => ?_)
  rw [nI_clamp (by omega), nI_clamp (by omega), nI_clamp (by omega)] at g1 g2
  exact kk H1 l1 g1 g2 g3
theorem z_alen {w : va_W} {a n : Nat} (hx : p.tables.exec = Jvm.exec) (hb : c.code = cc) (hKK : KK G s) (hP : va_P G.1 vwCl w H) (q0 : Nat) {f : Nat → Int32} (ha : w[q0]? = some (a, .inl (G.2.1, n, .inl f))) (hdg : decode cc pc = .ok (.arraylength, 1)) (kk : W p l e R s m args below meth c H locs cells slots Q (F0 m (pc + 1) ls (.int (nI n) :: rest))) : W p l e R s m args below meth c H locs cells slots Q (F0 m pc ls (.ref a :: rest)) :=
  va_alen hx hb hKK.1 hP q0 0 ha rfl rfl hdg kk
/-- a static method over one array of the world -/
theorem z_callSV_at {y : MethodName} {bytes : ByteArray} {maxL n index : Nat} {ws : List Cond} {rm : Room} {As : List Value} {w w2 : va_W} (q0 : Nat) {q q' : Nat × va_E} (F : CallFix p m c cc nL s args Ts own) (hM : CV l G y ws rm As [q] [q']) (cw : CallB R s args own index y bytes maxL none ws rm 0 0 n ∧ (Cond.static y).before args s = true) (hKK : KK G s) (hP : va_P G.1 vwCl w H) (hD : va_D A w) (hS : va_S A H0 H locs) (hA : ∀ q, H0.size ≤ q → A q) (hq : w[q0]? = some q) (hw : w.set q0 q' = w2) (hn : As.length = n) (hsz : ls.size = nL) (hst : st = As.reverse ++ rest) (hW : (rest.map fun v => v.category).sum ≤ 8) (hR : cells ≤ R.cells ∧ slots ≤ R.slots) (hdg : decode cc pc = .ok (.invokestatic index, 3))
    (kk : ∀ (H1 : Heap) (locs1 : List Loc), va_P G.1 vwCl w2 H1 → va_D A w2 → va_S A H0 H1 locs1 → W p l e R s m args below meth c H1 locs1 cells slots Q (F0 m (pc + 3) ls rest)) : W p l e R s m args below meth c H locs cells slots Q (F0 m pc ls st) := by
  subst hw
  have hp := z_at_perm w q0 q hq
  exact z_backV (va_runS F (hM H.size) cw ⟨ZPre.blind, z_pre hKK (z_perm hp hP) (z_permD hp hD)⟩ rfl hn hsz hst (lv_room (rest := st) (ls := ls) (pc := pc) hW) hdg hR) (z_perm hp hP) (z_permD hp hD) hS hA (fun H1 l1 h1 h2 h3 => kk H1 l1 (z_perm (z_set_perm w q0 q q' hq) h1) (z_permD (z_set_perm w q0 q q' hq) h2) h3)
theorem z_ifNeq (hx : p.tables.exec = Jvm.exec) (hb : c.code = cc) {a tgt : Nat} {off : Int} (hdg : decode cc pc = .ok (.ifCond .eq off, 3)) (ht : (pc : Int) + off = (tgt : Int)) (ha : a < 2 ^ 31) (kt : a = 0 → W p l e R s m args below meth c H locs cells slots Q (F0 m tgt ls rest)) (kf : a ≠ 0 → W p l e R s m args below meth c H locs cells slots Q (F0 m (pc + 3) ls rest)) : W p l e R s m args below meth c H locs cells slots Q (F0 m pc ls (.int (nI a) :: rest)) :=
  lv_if_eq hx hb hdg ht (fun h => kt (Classical.byContradiction fun z => nI_ne0 (by omega) ha h)) (fun h => kf (fun z => h (by rw [z]; rfl)))
theorem z_ifNne (hx : p.tables.exec = Jvm.exec) (hb : c.code = cc) {a tgt : Nat} {off : Int} (hdg : decode cc pc = .ok (.ifCond .ne off, 3)) (ht : (pc : Int) + off = (tgt : Int)) (ha : a < 2 ^ 31) (kt : a ≠ 0 → W p l e R s m args below meth c H locs cells slots Q (F0 m tgt ls rest)) (kf : a = 0 → W p l e R s m args below meth c H locs cells slots Q (F0 m (pc + 3) ls rest)) : W p l e R s m args below meth c H locs cells slots Q (F0 m pc ls (.int (nI a) :: rest)) :=
  lv_if_ne hx hb hdg ht (fun h => kt (fun z => h (by rw [z]; rfl))) (fun h => kf (Classical.byContradiction fun z => nI_ne0 (by omega) ha h))
theorem z_ifNlt (hx : p.tables.exec = Jvm.exec) (hb : c.code = cc) {a tgt : Nat} {off : Int} (hdg : decode cc pc = .ok (.ifCond .lt off, 3)) (ht : (pc : Int) + off = (tgt : Int)) (ha : a < 2 ^ 31) (kt : a < 0 → W p l e R s m args below meth c H locs cells slots Q (F0 m tgt ls rest)) (kf : 0 ≤ a → W p l e R s m args below meth c H locs cells slots Q (F0 m (pc + 3) ls rest)) : W p l e R s m args below meth c H locs cells slots Q (F0 m pc ls (.int (nI a) :: rest)) :=
  lv_if_lt hx hb hdg ht (fun h => absurd h (nI_pos ha)) (fun _ => kf (Nat.zero_le a))
theorem z_ifNge (hx : p.tables.exec = Jvm.exec) (hb : c.code = cc) {a tgt : Nat} {off : Int} (hdg : decode cc pc = .ok (.ifCond .ge off, 3)) (ht : (pc : Int) + off = (tgt : Int)) (ha : a < 2 ^ 31) (kt : 0 ≤ a → W p l e R s m args below meth c H locs cells slots Q (F0 m tgt ls rest)) (kf : a < 0 → W p l e R s m args below meth c H locs cells slots Q (F0 m (pc + 3) ls rest)) : W p l e R s m args below meth c H locs cells slots Q (F0 m pc ls (.int (nI a) :: rest)) :=
  lv_if_ge hx hb hdg ht (fun _ => kt (Nat.zero_le a)) (fun h => absurd (nI_pos' ha) h)
theorem z_ifNgt (hx : p.tables.exec = Jvm.exec) (hb : c.code = cc) {a tgt : Nat} {off : Int} (hdg : decode cc pc = .ok (.ifCond .gt off, 3)) (ht : (pc : Int) + off = (tgt : Int)) (ha : a < 2 ^ 31) (kt : 0 < a → W p l e R s m args below meth c H locs cells slots Q (F0 m tgt ls rest)) (kf : a = 0 → W p l e R s m args below meth c H locs cells slots Q (F0 m (pc + 3) ls rest)) : W p l e R s m args below meth c H locs cells slots Q (F0 m pc ls (.int (nI a) :: rest)) :=
  lv_if_gt hx hb hdg ht (fun h => kt (Nat.pos_of_ne_zero fun z => by subst z; exact absurd h (by decide))) (fun h => kf (Classical.byContradiction fun z => h (nI_lt (a := 0) (by omega) ha)))
theorem z_ifNle (hx : p.tables.exec = Jvm.exec) (hb : c.code = cc) {a tgt : Nat} {off : Int} (hdg : decode cc pc = .ok (.ifCond .le off, 3)) (ht : (pc : Int) + off = (tgt : Int)) (ha : a < 2 ^ 31) (kt : a = 0 → W p l e R s m args below meth c H locs cells slots Q (F0 m tgt ls rest)) (kf : 0 < a → W p l e R s m args below meth c H locs cells slots Q (F0 m (pc + 3) ls rest)) : W p l e R s m args below meth c H locs cells slots Q (F0 m pc ls (.int (nI a) :: rest)) :=
  lv_if_le hx hb hdg ht (fun h => kt (Classical.byContradiction fun z => nI_nle (by omega) ha h)) (fun h => kf (Nat.pos_of_ne_zero fun z => by subst z; exact h (by decide)))
end ZR3
/-- between 0 and a bound -/
def zBel (x : Int32) (b : Nat) : Bool := decide (¬ x < 0) && decide (x < nI b)
theorem zBel_N {a b : Nat} (ha : a < 2 ^ 31) (hb : b < 2 ^ 31) : zBel (nI a) b = decide (a < b) := by
  unfold zBel
  rw [decide_eq_true (nI_pos ha), Bool.true_and]
  exact decide_eq_decide.mpr (nI_ltI ha hb)
theorem zBel_of {x : Int32} {b : Nat} (hb : b < 2 ^ 31) (h : zBel x b = true) : ∃ n : Nat, n < b ∧ x = nI n := by
  unfold zBel at h
  rw [Bool.and_eq_true, decide_eq_true_eq, decide_eq_true_eq] at h
  obtain ⟨j, hj, rfl⟩ := nI_of h.1
  exact ⟨j, (nI_ltI hj hb).mp h.2, rfl⟩
theorem zBel_neg {x : Int32} {b : Nat} (h : x < 0) : zBel x b = false := by simp [zBel, h]
theorem zBel_m1 (b : Nat) : zBel (-1) b = false := zBel_neg (by decide)
/-- the cells of a roll -/
def rollW (G : ZG) (a : Nat → Nat) (v : Mem) : va_W :=
  [(a 0, .inr (1, [.ref (a 1), .ref (a 2), .ref (a 3), .ref (a 4), .int (v 12 0), .int (v 12 1), .int (v 12 2), .ref (a 5), .ref (a 6), .ref (a 7), .ref (a 8), .ref (a 9), .ref (a 10), .ref (a 11), .ref (a 12)])),
   (a 1, .inl (G.2.1, 40, .inl (v 0))), (a 2, .inl (G.2.1, 40, .inl (v 1))), (a 3, .inl (G.2.1, 40, .inl (v 2))), (a 4, .inl (G.2.1, 18, .inl (v 3))),
   (a 5, .inl (G.2.1, 3, .inl (v 4))), (a 6, .inl (G.2.1, 3, .inl (v 5))), (a 7, .inl (G.2.1, 3, .inl (v 6))), (a 8, .inl (G.2.1, 120, .inl (v 7))), (a 9, .inl (G.2.1, 120, .inl (v 8))), (a 10, .inl (G.2.1, 120, .inl (v 9))),
   (a 11, .inl (G.2.1, 40, .inl (v 10))), (a 12, .inl (G.2.1, 40, .inl (v 11)))]
def nup (P : Nat → Nat) (k n : Nat) : Nat → Nat := fun j => if j = k then n else P j
/-- the cells of the reference: rows of ints v, single numbers y -/
def modW (G : ZG) (a : Nat → Nat) (v : Mem) (y : Nat → Nat) : va_W :=
  [(a 0, .inr (4, [.ref (a 1), .ref (a 2), .int (nI (y 0)), .ref (a 3), .ref (a 4), .int (nI (y 1)), .ref (a 5), .ref (a 6), .int (nI (y 2)), .int (nI (y 3)), .int (nI (y 4)), .int (nI (y 5)), .int (nI (y 6)), .ref (a 7), .int (nI (y 7)), .int (nI (y 8)), .int (nI (y 9))])),
   (a 1, .inl (G.2.1, 511, .inl (v 0))), (a 2, .inl (G.2.1, 2044, .inl (v 1))), (a 3, .inl (G.2.1, 511, .inl (v 2))), (a 4, .inl (G.2.1, 60, .inl (v 3))), (a 5, .inl (G.2.1, 40, .inl (v 4))), (a 6, .inl (G.2.1, 80, .inl (v 5))), (a 7, .inl (G.2.1, 2, .inl (v 6)))]
