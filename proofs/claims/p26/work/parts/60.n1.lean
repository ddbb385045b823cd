section ZAA
variable {p : Program} {l : Launch} {e : Env} {R : Room} {s : State} {m : MethodId} {args : Array Value} {below : List Frame} {meth : Method} {c : Code} {H : Heap} {locs : List Loc} {cells slots : Nat} {Q : State → Prop}
variable {cc : ByteArray} {pc : Nat} {ls : Array Slot} {rest st : List Value} {G : ZG} {A : Nat → Prop} {H0 : Heap}
theorem z_aald {w : va_W} {a : Nat} (hx : p.tables.exec = Jvm.exec) (hb : c.code = cc) (hKK : KK G s) (hP : va_P G.1 vwCl w H) (q0 : Nat) {n : Nat} {f : Nat → Option Nat} {i v : Nat} (ha : w[q0]? = some (a, .inl (G.2.2.2, n, .inr (.inr (.inr (.inr f)))))) (hi : i < n) (hn : n < 2 ^ 31) (hv : f i = some v) (hdg : decode cc pc = .ok (.aaload, 1))
    (kk : W p l e R s m args below meth c H locs cells slots Q (F0 m (pc + 1) ls (.ref v :: rest))) : W p l e R s m args below meth c H locs cells slots Q (F0 m pc ls (.int (nI i) :: .ref a :: rest)) := by
  refine va_aldq (C := RX1) hx hb hKK.1 hP q0 2 ha rfl (vp_in_nI hi hn) hdg ?_
  rw [nI_clamp (by omega), hv]
  exact kk
theorem z_aast {w w2 : va_W} {a : Nat} (hx : p.tables.exec = Jvm.exec) (hb : c.code = cc) (hKK : KK G s) (hP : va_P G.1 vwCl w H) (hD : va_D A w) (hS : va_S A H0 H locs) (q0 qk : Nat) {n : Nat} {f : Nat → Option Nat} {i v : Nat} {vs : List Value} (ha : w[q0]? = some (a, .inl (G.2.2.2, n, .inr (.inr (.inr (.inr f)))))) (hv : w[qk]? = some (v, .inr (1, vs))) (hi : i < n) (hn : n < 2 ^ 31) (hw : w.set q0 (a, .inl (G.2.2.2, n, .inr (.inr (.inr (.inr (va_up f i (some v))))))) = w2) (hdg : decode cc pc = .ok (.aastore, 1))
    (kk : ∀ (H1 : Heap) (locs1 : List Loc), va_P G.1 vwCl w2 H1 → va_D A w2 → va_S A H0 H1 locs1 → W p l e R s m args below meth c H1 locs1 cells slots Q (F0 m (pc + 1) ls rest)) : W p l e R s m args below meth c H locs cells slots Q (F0 m pc ls (.ref v :: .int (nI i) :: .ref a :: rest)) := by
  subst hw
  refine va_astq (r := (RX1, TX1, 15)) hx hb hKK.1 hP hD hS q0 2 qk 1 ha rfl hv rfl (vp_in_nI hi hn) hdg (fun H1 l1 h1 h2 h3 => ?_)
  rw [nI_clamp (by omega)] at h1 h2
  exact kk H1 l1 h1 h2 h3
end ZAA
def prF (pa : Nat → Nat → Nat) : Nat → Option Nat := va_up (va_up (va_up (va_up (fun _ => none) 0 (some (pa 0 0))) 1 (some (pa 1 0))) 2 (some (pa 2 0))) 3 (some (pa 3 0))
def headW (G : ZG) (o pr : Nat) (f : Nat → Option Nat) (a b : Nat → Nat) (q : Nat) (S : Nat → Nat) : va_W := [(o, .inr (3, [.ref (a 0), .ref pr, .int (nI (S 0)), .ref (b 0), .ref q])), (pr, .inl (G.2.2.2, 4, .inr (.inr (.inr (.inr f)))))]
def pastW (G : ZG) (pa : Nat → Nat → Nat) (pv : Nat → Mem) : va_W := rollW G (pa 0) (pv 0) ++ (rollW G (pa 1) (pv 1) ++ (rollW G (pa 2) (pv 2) ++ rollW G (pa 3) (pv 3)))
abbrev nrW (G : ZG) (o pr q : Nat) (a b d : Nat → Nat) (pa : Nat → Nat → Nat) (S P L : Nat → Nat) (t v u : Mem) (pv : Nat → Mem) : va_W := headW G o pr (prF pa) a b q S ++ (playW G q (d 0) P ++ (textW G b t L ++ (rollW G a v ++ (rollW G d u ++ pastW G pa pv))))
def rotA (pa : Nat → Nat → Nat) : Nat → Nat → Nat := fun j => if j = 0 then pa 1 else if j = 1 then pa 2 else if j = 2 then pa 3 else pa 0
def rcA (n : Nat) (pa : Nat → Nat → Nat) : Nat → Nat → Nat := if n = 4 then rotA pa else pa
def rcV (n : Nat) (pv : Nat → Mem) (v : Mem) : Nat → Mem := if n = 4 then (fun j => if j = 0 then pv 1 else if j = 1 then pv 2 else if j = 2 then pv 3 else zCopy (pv 0) v) else (fun j => if j = n then zCopy (pv j) v else pv j)
theorem prF_rot (pa : Nat → Nat → Nat) : va_up (va_up (va_up (va_up (prF pa) 0 (some (pa 1 0))) 1 (some (pa 2 0))) 2 (some (pa 3 0))) 3 (some (pa 0 0)) = prF (rotA pa) := by
  funext j
  unfold prF va_up rotA
  by_cases h3 : j = 3
  · subst h3; rfl
  · by_cases h2 : j = 2
    · subst h2; rfl
    · by_cases h1 : j = 1
      · subst h1; rfl
      · by_cases h0 : j = 0
        · subst h0; rfl
        · simp [h0, h1, h2, h3]
section PM
variable {α : Type} (n p t a d x0 x1 x2 x3 r : List α)
theorem pn_a : (n ++ (p ++ (t ++ (a ++ r)))).Perm ((n ++ (p ++ (t ++ r))) ++ a) := by
  haveI : DecidableEq α := fun x y => Classical.propDecidable (x = y)
  refine List.perm_iff_count.mpr (fun z => ?_)
  simp only [List.count_append]
  omega
theorem pn_t : (n ++ (p ++ (t ++ r))).Perm ((n ++ (p ++ r)) ++ t) := by
  haveI : DecidableEq α := fun x y => Classical.propDecidable (x = y)
  refine List.perm_iff_count.mpr (fun z => ?_)
  simp only [List.count_append]
  omega
theorem pn_try : (n ++ (p ++ (t ++ (a ++ (d ++ r))))).Perm ((n ++ r) ++ ((p ++ t) ++ (d ++ a))) := by
  haveI : DecidableEq α := fun x y => Classical.propDecidable (x = y)
  refine List.perm_iff_count.mpr (fun z => ?_)
  simp only [List.count_append]
  omega
theorem pn_ad : (n ++ (p ++ (t ++ (a ++ (d ++ r))))).Perm ((n ++ (p ++ (t ++ r))) ++ (a ++ d)) := by
  haveI : DecidableEq α := fun x y => Classical.propDecidable (x = y)
  refine List.perm_iff_count.mpr (fun z => ?_)
  simp only [List.count_append]
  omega
theorem pn_p0 : (n ++ (p ++ (t ++ (a ++ (d ++ (x0 ++ (x1 ++ (x2 ++ x3)))))))).Perm ((n ++ (p ++ (t ++ (d ++ (x1 ++ (x2 ++ x3)))))) ++ (x0 ++ a)) := by
  haveI : DecidableEq α := fun x y => Classical.propDecidable (x = y)
  refine List.perm_iff_count.mpr (fun z => ?_)
  simp only [List.count_append]
  omega
theorem pn_p1 : (n ++ (p ++ (t ++ (a ++ (d ++ (x0 ++ (x1 ++ (x2 ++ x3)))))))).Perm ((n ++ (p ++ (t ++ (d ++ (x0 ++ (x2 ++ x3)))))) ++ (x1 ++ a)) := by
  haveI : DecidableEq α := fun x y => Classical.propDecidable (x = y)
  refine List.perm_iff_count.mpr (fun z => ?_)
  simp only [List.count_append]
  omega
theorem pn_p2 : (n ++ (p ++ (t ++ (a ++ (d ++ (x0 ++ (x1 ++ (x2 ++ x3)))))))).Perm ((n ++ (p ++ (t ++ (d ++ (x0 ++ (x1 ++ x3)))))) ++ (x2 ++ a)) := by
  haveI : DecidableEq α := fun x y => Classical.propDecidable (x = y)
  refine List.perm_iff_count.mpr (fun z => ?_)
  simp only [List.count_append]
  omega
theorem pn_p3 : (n ++ (p ++ (t ++ (a ++ (d ++ (x0 ++ (x1 ++ (x2 ++ x3)))))))).Perm ((n ++ (p ++ (t ++ (d ++ (x0 ++ (x1 ++ x2)))))) ++ (x3 ++ a)) := by
  haveI : DecidableEq α := fun x y => Classical.propDecidable (x = y)
  refine List.perm_iff_count.mpr (fun z => ?_)
  simp only [List.count_append]
  omega
theorem pn_rot : (n ++ (p ++ (t ++ (a ++ (d ++ (x0 ++ (x1 ++ (x2 ++ x3)))))))).Perm (n ++ (p ++ (t ++ (a ++ (d ++ (x1 ++ (x2 ++ (x3 ++ x0)))))))) := by
  haveI : DecidableEq α := fun x y => Classical.propDecidable (x = y)
  refine List.perm_iff_count.mpr (fun z => ?_)
  simp only [List.count_append]
  omega
end PM

set_option maxHeartbeats 4000000 in
set_option maxRecDepth 100000 in
theorem c_X3_recordState_s0 (l : Launch) (G : ZG) (o pr q : Nat) (a b d : Nat → Nat) (pa : Nat → Nat → Nat) (S P L : Nat → Nat) (t v u : Mem) (p0 p1 p2 p3 : Mem) (h9 : S 0 = 0) : CV l G yX3_recordState wsX3_recordState (zRm 2 61) [.ref o] (headW G o pr (prF pa) a b q S ++ (playW G q (d 0) P ++ (textW G b t L ++ (rollW G a v ++ (rollW G d u ++ (rollW G (pa 0) p0 ++ (rollW G (pa 1) p1 ++ (rollW G (pa 2) p2 ++ rollW G (pa 3) p3)))))))) (headW G o pr (prF pa) a b q (nup S 0 1) ++ (playW G q (d 0) P ++ (textW G b t L ++ (rollW G a v ++ (rollW G d u ++ (rollW G (pa 0) (zCopy p0 v) ++ (rollW G (pa 1) p1 ++ (rollW G (pa 2) p2 ++ rollW G (pa 3) p3)))))))) := by
  refine CV.ent (cc := cX3_recordState) (maxL := 3) (own := RX3) (by decide) rfl rfl (Nat.le_of_ble_eq_true rfl) ?_
  intro p ee s m args below meth c A ls F hr hlk hKK hP hD hA hS hl
  obtain ⟨hx, hb, hml, hown, hts⟩ := id F
  have hl : lv_has ls 3 [(0, .ref o)] := hl
  have fl_10 := hts (.fieldLink RX3 10 "NameRolls" "now" "LNameRolls$Roll;") (by decide +kernel)
  have fl_16 := hts (.fieldLink RX3 16 "NameRolls" "past" "[LNameRolls$Roll;") (by decide +kernel)
  have fl_160 := hts (.fieldLink RX3 160 "NameRolls" "states" "I") (by decide +kernel)
  have hinX3 : ∀ w ∈ wsX30, w ∈ wsX3_recordState := by decide +kernel
  refine lv_aload_n hx hb dX3_recordState_0 rfl (lv_at hl 0 rfl) ?_
  refine va_get (D := G.1) (ci := 3) (v := .int (nI (S 0))) (C := RX3) (T := TX3) (N := 5) hx hb hts hinX3 hown hKK.1 hP 0 rfl rfl 2 (by decide) fl_160 (fun _ h9 => h9) rfl dX3_recordState_1 ?_
  refine z_top (v := nI 0) (by rw [h9]) ?_
  refine lv_iconst (v := nI 4) hx hb dX3_recordState_4 (by decide) ?_
  refine z_lt (tgt := 54) hx hb dX3_recordState_5 (by decide) (by omega) (by omega) (fun c_1 => ?_) (fun c_1 => absurd c_1 (by decide))
  refine lv_aload_n hx hb dX3_recordState_54 rfl (lv_at hl 0 rfl) ?_
  refine va_get (D := G.1) (ci := 3) (v := .ref pr) (C := RX3) (T := TX3) (N := 5) hx hb hts hinX3 hown hKK.1 hP 0 rfl rfl 1 (by decide) fl_16 (fun _ h9 => h9) rfl dX3_recordState_55 ?_
  refine lv_aload_n hx hb dX3_recordState_58 rfl (lv_at hl 0 rfl) ?_
  refine va_get (D := G.1) (ci := 3) (v := .int (nI (S 0))) (C := RX3) (T := TX3) (N := 5) hx hb hts hinX3 hown hKK.1 hP 0 rfl rfl 2 (by decide) fl_160 (fun _ h9 => h9) rfl dX3_recordState_59 ?_
  refine z_top (v := nI 0) (by rw [h9]) ?_
  refine z_aald (n := 4) (f := prF pa) (i := 0) (v := pa 0 0) hx hb hKK hP 1 rfl (by decide) (by decide) rfl dX3_recordState_62 ?_
  refine lv_aload_n hx hb dX3_recordState_63 rfl (lv_at hl 0 rfl) ?_
  refine va_get (D := G.1) (ci := 3) (v := .ref (a 0)) (C := RX3) (T := TX3) (N := 5) hx hb hts hinX3 hown hKK.1 hP 0 rfl rfl 0 (by decide) fl_10 (fun _ h9 => h9) rfl dX3_recordState_64 ?_
  refine z_callVV (As := [.ref (a 0)]) (rest := []) (wr := (headW G o pr (prF pa) a b q S ++ (playW G q (d 0) P ++ (textW G b t L ++ (rollW G d u ++ (rollW G (pa 1) p1 ++ (rollW G (pa 2) p2 ++ rollW G (pa 3) p3))))))) (C := RX1) F (c_X1_copyFrom l G (pa 0) a p0 v) (cwV 1 hts gX3_recordState_X1_copyFrom rfl rfl rfl (by decide +kernel) ⟨Nat.le_of_ble_eq_true rfl, Nat.le_of_ble_eq_true rfl⟩) hKK (z_recv hKK hP (q0 := 31) (ci := 1) rfl rfl) (z_perm (pn_p0 _ _ _ _ _ _ _ _ _) hP) (z_permD (pn_p0 _ _ _ _ _ _ _ _ _) hD) hS hA rfl hl.1 rfl (Nat.le_of_ble_eq_true rfl) ⟨Nat.zero_le _, Nat.zero_le _⟩ dX3_recordState_67 (fun H locs hP hD hS => ?_)
  have hP : va_P G.1 vwCl (headW G o pr (prF pa) a b q S ++ (playW G q (d 0) P ++ (textW G b t L ++ (rollW G a v ++ (rollW G d u ++ (rollW G (pa 0) (zCopy p0 v) ++ (rollW G (pa 1) p1 ++ (rollW G (pa 2) p2 ++ rollW G (pa 3) p3)))))))) H := (z_perm (pn_p0 _ _ _ _ _ _ _ _ _).symm hP)
  have hD : va_D A (headW G o pr (prF pa) a b q S ++ (playW G q (d 0) P ++ (textW G b t L ++ (rollW G a v ++ (rollW G d u ++ (rollW G (pa 0) (zCopy p0 v) ++ (rollW G (pa 1) p1 ++ (rollW G (pa 2) p2 ++ rollW G (pa 3) p3)))))))) := (z_permD (pn_p0 _ _ _ _ _ _ _ _ _).symm hD)
  refine lv_aload_n hx hb dX3_recordState_70 rfl (lv_at hl 0 rfl) ?_
  refine lv_dup hx hb dX3_recordState_71 rfl ?_
  refine va_get (D := G.1) (ci := 3) (v := .int (nI (S 0))) (C := RX3) (T := TX3) (N := 5) hx hb hts hinX3 hown hKK.1 hP 0 rfl rfl 2 (by decide) fl_160 (fun _ h9 => h9) rfl dX3_recordState_72 ?_
  refine z_top (v := nI 0) (by rw [h9]) ?_
  refine lv_iconst (v := nI 1) hx hb dX3_recordState_75 (by decide) ?_
  refine z_add (v := nI 1) hx hb dX3_recordState_76 (nI_add _ _) ?_
  refine z_put (w2 := headW G o pr (prF pa) a b q (nup S 0 1) ++ (playW G q (d 0) P ++ (textW G b t L ++ (rollW G a v ++ (rollW G d u ++ (rollW G (pa 0) (zCopy p0 v) ++ (rollW G (pa 1) p1 ++ (rollW G (pa 2) p2 ++ rollW G (pa 3) p3)))))))) hx hb hts hinX3 tyX3 tyX3_ok nmX3 hown hKK hP hD hS 0 (ci := 3) (C := RX3) (T := TX3) (N := 5) rfl rfl 2 (by decide) fl_160 rfl rfl rfl (Nat.le_of_ble_eq_true rfl) rfl dX3_recordState_77 (fun H locs hP hD hS => ?_)
  exact z_vret hx hb hr hlk hP hD hS dX3_recordState_80 rfl

set_option maxHeartbeats 4000000 in
set_option maxRecDepth 100000 in
theorem c_X3_recordState_s1 (l : Launch) (G : ZG) (o pr q : Nat) (a b d : Nat → Nat) (pa : Nat → Nat → Nat) (S P L : Nat → Nat) (t v u : Mem) (p0 p1 p2 p3 : Mem) (h9 : S 0 = 1) : CV l G yX3_recordState wsX3_recordState (zRm 2 61) [.ref o] (headW G o pr (prF pa) a b q S ++ (playW G q (d 0) P ++ (textW G b t L ++ (rollW G a v ++ (rollW G d u ++ (rollW G (pa 0) p0 ++ (rollW G (pa 1) p1 ++ (rollW G (pa 2) p2 ++ rollW G (pa 3) p3)))))))) (headW G o pr (prF pa) a b q (nup S 0 2) ++ (playW G q (d 0) P ++ (textW G b t L ++ (rollW G a v ++ (rollW G d u ++ (rollW G (pa 0) p0 ++ (rollW G (pa 1) (zCopy p1 v) ++ (rollW G (pa 2) p2 ++ rollW G (pa 3) p3)))))))) := by
  refine CV.ent (cc := cX3_recordState) (maxL := 3) (own := RX3) (by decide) rfl rfl (Nat.le_of_ble_eq_true rfl) ?_
  intro p ee s m args below meth c A ls F hr hlk hKK hP hD hA hS hl
  obtain ⟨hx, hb, hml, hown, hts⟩ := id F
  have hl : lv_has ls 3 [(0, .ref o)] := hl
  have fl_10 := hts (.fieldLink RX3 10 "NameRolls" "now" "LNameRolls$Roll;") (by decide +kernel)
  have fl_16 := hts (.fieldLink RX3 16 "NameRolls" "past" "[LNameRolls$Roll;") (by decide +kernel)
  have fl_160 := hts (.fieldLink RX3 160 "NameRolls" "states" "I") (by decide +kernel)
  have hinX3 : ∀ w ∈ wsX30, w ∈ wsX3_recordState := by decide +kernel
  refine lv_aload_n hx hb dX3_recordState_0 rfl (lv_at hl 0 rfl) ?_
  refine va_get (D := G.1) (ci := 3) (v := .int (nI (S 0))) (C := RX3) (T := TX3) (N := 5) hx hb hts hinX3 hown hKK.1 hP 0 rfl rfl 2 (by decide) fl_160 (fun _ h9 => h9) rfl dX3_recordState_1 ?_
  refine z_top (v := nI 1) (by rw [h9]) ?_
  refine lv_iconst (v := nI 4) hx hb dX3_recordState_4 (by decide) ?_
  refine z_lt (tgt := 54) hx hb dX3_recordState_5 (by decide) (by omega) (by omega) (fun c_1 => ?_) (fun c_1 => absurd c_1 (by decide))
  refine lv_aload_n hx hb dX3_recordState_54 rfl (lv_at hl 0 rfl) ?_
  refine va_get (D := G.1) (ci := 3) (v := .ref pr) (C := RX3) (T := TX3) (N := 5) hx hb hts hinX3 hown hKK.1 hP 0 rfl rfl 1 (by decide) fl_16 (fun _ h9 => h9) rfl dX3_recordState_55 ?_
  refine lv_aload_n hx hb dX3_recordState_58 rfl (lv_at hl 0 rfl) ?_
  refine va_get (D := G.1) (ci := 3) (v := .int (nI (S 0))) (C := RX3) (T := TX3) (N := 5) hx hb hts hinX3 hown hKK.1 hP 0 rfl rfl 2 (by decide) fl_160 (fun _ h9 => h9) rfl dX3_recordState_59 ?_
  refine z_top (v := nI 1) (by rw [h9]) ?_
  refine z_aald (n := 4) (f := prF pa) (i := 1) (v := pa 1 0) hx hb hKK hP 1 rfl (by decide) (by decide) rfl dX3_recordState_62 ?_
  refine lv_aload_n hx hb dX3_recordState_63 rfl (lv_at hl 0 rfl) ?_
  refine va_get (D := G.1) (ci := 3) (v := .ref (a 0)) (C := RX3) (T := TX3) (N := 5) hx hb hts hinX3 hown hKK.1 hP 0 rfl rfl 0 (by decide) fl_10 (fun _ h9 => h9) rfl dX3_recordState_64 ?_
  refine z_callVV (As := [.ref (a 0)]) (rest := []) (wr := (headW G o pr (prF pa) a b q S ++ (playW G q (d 0) P ++ (textW G b t L ++ (rollW G d u ++ (rollW G (pa 0) p0 ++ (rollW G (pa 2) p2 ++ rollW G (pa 3) p3))))))) (C := RX1) F (c_X1_copyFrom l G (pa 1) a p1 v) (cwV 1 hts gX3_recordState_X1_copyFrom rfl rfl rfl (by decide +kernel) ⟨Nat.le_of_ble_eq_true rfl, Nat.le_of_ble_eq_true rfl⟩) hKK (z_recv hKK hP (q0 := 44) (ci := 1) rfl rfl) (z_perm (pn_p1 _ _ _ _ _ _ _ _ _) hP) (z_permD (pn_p1 _ _ _ _ _ _ _ _ _) hD) hS hA rfl hl.1 rfl (Nat.le_of_ble_eq_true rfl) ⟨Nat.zero_le _, Nat.zero_le _⟩ dX3_recordState_67 (fun H locs hP hD hS => ?_)
  have hP : va_P G.1 vwCl (headW G o pr (prF pa) a b q S ++ (playW G q (d 0) P ++ (textW G b t L ++ (rollW G a v ++ (rollW G d u ++ (rollW G (pa 0) p0 ++ (rollW G (pa 1) (zCopy p1 v) ++ (rollW G (pa 2) p2 ++ rollW G (pa 3) p3)))))))) H := (z_perm (pn_p1 _ _ _ _ _ _ _ _ _).symm hP)
  have hD : va_D A (headW G o pr (prF pa) a b q S ++ (playW G q (d 0) P ++ (textW G b t L ++ (rollW G a v ++ (rollW G d u ++ (rollW G (pa 0) p0 ++ (rollW G (pa 1) (zCopy p1 v) ++ (rollW G (pa 2) p2 ++ rollW G (pa 3) p3)))))))) := (z_permD (pn_p1 _ _ _ _ _ _ _ _ _).symm hD)
  refine lv_aload_n hx hb dX3_recordState_70 rfl (lv_at hl 0 rfl) ?_
  refine lv_dup hx hb dX3_recordState_71 rfl ?_
  refine va_get (D := G.1) (ci := 3) (v := .int (nI (S 0))) (C := RX3) (T := TX3) (N := 5) hx hb hts hinX3 hown hKK.1 hP 0 rfl rfl 2 (by decide) fl_160 (fun _ h9 => h9) rfl dX3_recordState_72 ?_
  refine z_top (v := nI 1) (by rw [h9]) ?_
  refine lv_iconst (v := nI 1) hx hb dX3_recordState_75 (by decide) ?_
  refine z_add (v := nI 2) hx hb dX3_recordState_76 (nI_add _ _) ?_
  refine z_put (w2 := headW G o pr (prF pa) a b q (nup S 0 2) ++ (playW G q (d 0) P ++ (textW G b t L ++ (rollW G a v ++ (rollW G d u ++ (rollW G (pa 0) p0 ++ (rollW G (pa 1) (zCopy p1 v) ++ (rollW G (pa 2) p2 ++ rollW G (pa 3) p3)))))))) hx hb hts hinX3 tyX3 tyX3_ok nmX3 hown hKK hP hD hS 0 (ci := 3) (C := RX3) (T := TX3) (N := 5) rfl rfl 2 (by decide) fl_160 rfl rfl rfl (Nat.le_of_ble_eq_true rfl) rfl dX3_recordState_77 (fun H locs hP hD hS => ?_)
  exact z_vret hx hb hr hlk hP hD hS dX3_recordState_80 rfl

set_option maxHeartbeats 4000000 in
set_option maxRecDepth 100000 in
theorem c_X3_recordState_s2 (l : Launch) (G : ZG) (o pr q : Nat) (a b d : Nat → Nat) (pa : Nat → Nat → Nat) (S P L : Nat → Nat) (t v u : Mem) (p0 p1 p2 p3 : Mem) (h9 : S 0 = 2) : CV l G yX3_recordState wsX3_recordState (zRm 2 61) [.ref o] (headW G o pr (prF pa) a b q S ++ (playW G q (d 0) P ++ (textW G b t L ++ (rollW G a v ++ (rollW G d u ++ (rollW G (pa 0) p0 ++ (rollW G (pa 1) p1 ++ (rollW G (pa 2) p2 ++ rollW G (pa 3) p3)))))))) (headW G o pr (prF pa) a b q (nup S 0 3) ++ (playW G q (d 0) P ++ (textW G b t L ++ (rollW G a v ++ (rollW G d u ++ (rollW G (pa 0) p0 ++ (rollW G (pa 1) p1 ++ (rollW G (pa 2) (zCopy p2 v) ++ rollW G (pa 3) p3)))))))) := by
  refine CV.ent (cc := cX3_recordState) (maxL := 3) (own := RX3) (by decide) rfl rfl (Nat.le_of_ble_eq_true rfl) ?_
  intro p ee s m args below meth c A ls F hr hlk hKK hP hD hA hS hl
  obtain ⟨hx, hb, hml, hown, hts⟩ := id F
  have hl : lv_has ls 3 [(0, .ref o)] := hl
  have fl_10 := hts (.fieldLink RX3 10 "NameRolls" "now" "LNameRolls$Roll;") (by decide +kernel)
  have fl_16 := hts (.fieldLink RX3 16 "NameRolls" "past" "[LNameRolls$Roll;") (by decide +kernel)
  have fl_160 := hts (.fieldLink RX3 160 "NameRolls" "states" "I") (by decide +kernel)
  have hinX3 : ∀ w ∈ wsX30, w ∈ wsX3_recordState := by decide +kernel
  refine lv_aload_n hx hb dX3_recordState_0 rfl (lv_at hl 0 rfl) ?_
  refine va_get (D := G.1) (ci := 3) (v := .int (nI (S 0))) (C := RX3) (T := TX3) (N := 5) hx hb hts hinX3 hown hKK.1 hP 0 rfl rfl 2 (by decide) fl_160 (fun _ h9 => h9) rfl dX3_recordState_1 ?_
  refine z_top (v := nI 2) (by rw [h9]) ?_
  refine lv_iconst (v := nI 4) hx hb dX3_recordState_4 (by decide) ?_
  refine z_lt (tgt := 54) hx hb dX3_recordState_5 (by decide) (by omega) (by omega) (fun c_1 => ?_) (fun c_1 => absurd c_1 (by decide))
  refine lv_aload_n hx hb dX3_recordState_54 rfl (lv_at hl 0 rfl) ?_
  refine va_get (D := G.1) (ci := 3) (v := .ref pr) (C := RX3) (T := TX3) (N := 5) hx hb hts hinX3 hown hKK.1 hP 0 rfl rfl 1 (by decide) fl_16 (fun _ h9 => h9) rfl dX3_recordState_55 ?_
  refine lv_aload_n hx hb dX3_recordState_58 rfl (lv_at hl 0 rfl) ?_
  refine va_get (D := G.1) (ci := 3) (v := .int (nI (S 0))) (C := RX3) (T := TX3) (N := 5) hx hb hts hinX3 hown hKK.1 hP 0 rfl rfl 2 (by decide) fl_160 (fun _ h9 => h9) rfl dX3_recordState_59 ?_
  refine z_top (v := nI 2) (by rw [h9]) ?_
  refine z_aald (n := 4) (f := prF pa) (i := 2) (v := pa 2 0) hx hb hKK hP 1 rfl (by decide) (by decide) rfl dX3_recordState_62 ?_
  refine lv_aload_n hx hb dX3_recordState_63 rfl (lv_at hl 0 rfl) ?_
  refine va_get (D := G.1) (ci := 3) (v := .ref (a 0)) (C := RX3) (T := TX3) (N := 5) hx hb hts hinX3 hown hKK.1 hP 0 rfl rfl 0 (by decide) fl_10 (fun _ h9 => h9) rfl dX3_recordState_64 ?_
  refine z_callVV (As := [.ref (a 0)]) (rest := []) (wr := (headW G o pr (prF pa) a b q S ++ (playW G q (d 0) P ++ (textW G b t L ++ (rollW G d u ++ (rollW G (pa 0) p0 ++ (rollW G (pa 1) p1 ++ rollW G (pa 3) p3))))))) (C := RX1) F (c_X1_copyFrom l G (pa 2) a p2 v) (cwV 1 hts gX3_recordState_X1_copyFrom rfl rfl rfl (by decide +kernel) ⟨Nat.le_of_ble_eq_true rfl, Nat.le_of_ble_eq_true rfl⟩) hKK (z_recv hKK hP (q0 := 57) (ci := 1) rfl rfl) (z_perm (pn_p2 _ _ _ _ _ _ _ _ _) hP) (z_permD (pn_p2 _ _ _ _ _ _ _ _ _) hD) hS hA rfl hl.1 rfl (Nat.le_of_ble_eq_true rfl) ⟨Nat.zero_le _, Nat.zero_le _⟩ dX3_recordState_67 (fun H locs hP hD hS => ?_)
  have hP : va_P G.1 vwCl (headW G o pr (prF pa) a b q S ++ (playW G q (d 0) P ++ (textW G b t L ++ (rollW G a v ++ (rollW G d u ++ (rollW G (pa 0) p0 ++ (rollW G (pa 1) p1 ++ (rollW G (pa 2) (zCopy p2 v) ++ rollW G (pa 3) p3)))))))) H := (z_perm (pn_p2 _ _ _ _ _ _ _ _ _).symm hP)
  have hD : va_D A (headW G o pr (prF pa) a b q S ++ (playW G q (d 0) P ++ (textW G b t L ++ (rollW G a v ++ (rollW G d u ++ (rollW G (pa 0) p0 ++ (rollW G (pa 1) p1 ++ (rollW G (pa 2) (zCopy p2 v) ++ rollW G (pa 3) p3)))))))) := (z_permD (pn_p2 _ _ _ _ _ _ _ _ _).symm hD)
  refine lv_aload_n hx hb dX3_recordState_70 rfl (lv_at hl 0 rfl) ?_
  refine lv_dup hx hb dX3_recordState_71 rfl ?_
  refine va_get (D := G.1) (ci := 3) (v := .int (nI (S 0))) (C := RX3) (T := TX3) (N := 5) hx hb hts hinX3 hown hKK.1 hP 0 rfl rfl 2 (by decide) fl_160 (fun _ h9 => h9) rfl dX3_recordState_72 ?_
  refine z_top (v := nI 2) (by rw [h9]) ?_
  refine lv_iconst (v := nI 1) hx hb dX3_recordState_75 (by decide) ?_
  refine z_add (v := nI 3) hx hb dX3_recordState_76 (nI_add _ _) ?_
  refine z_put (w2 := headW G o pr (prF pa) a b q (nup S 0 3) ++ (playW G q (d 0) P ++ (textW G b t L ++ (rollW G a v ++ (rollW G d u ++ (rollW G (pa 0) p0 ++ (rollW G (pa 1) p1 ++ (rollW G (pa 2) (zCopy p2 v) ++ rollW G (pa 3) p3)))))))) hx hb hts hinX3 tyX3 tyX3_ok nmX3 hown hKK hP hD hS 0 (ci := 3) (C := RX3) (T := TX3) (N := 5) rfl rfl 2 (by decide) fl_160 rfl rfl rfl (Nat.le_of_ble_eq_true rfl) rfl dX3_recordState_77 (fun H locs hP hD hS => ?_)
  exact z_vret hx hb hr hlk hP hD hS dX3_recordState_80 rfl

set_option maxHeartbeats 4000000 in
set_option maxRecDepth 100000 in
theorem c_X3_recordState_s3 (l : Launch) (G : ZG) (o pr q : Nat) (a b d : Nat → Nat) (pa : Nat → Nat → Nat) (S P L : Nat → Nat) (t v u : Mem) (p0 p1 p2 p3 : Mem) (h9 : S 0 = 3) : CV l G yX3_recordState wsX3_recordState (zRm 2 61) [.ref o] (headW G o pr (prF pa) a b q S ++ (playW G q (d 0) P ++ (textW G b t L ++ (rollW G a v ++ (rollW G d u ++ (rollW G (pa 0) p0 ++ (rollW G (pa 1) p1 ++ (rollW G (pa 2) p2 ++ rollW G (pa 3) p3)))))))) (headW G o pr (prF pa) a b q (nup S 0 4) ++ (playW G q (d 0) P ++ (textW G b t L ++ (rollW G a v ++ (rollW G d u ++ (rollW G (pa 0) p0 ++ (rollW G (pa 1) p1 ++ (rollW G (pa 2) p2 ++ rollW G (pa 3) (zCopy p3 v))))))))) := by
  refine CV.ent (cc := cX3_recordState) (maxL := 3) (own := RX3) (by decide) rfl rfl (Nat.le_of_ble_eq_true rfl) ?_
  intro p ee s m args below meth c A ls F hr hlk hKK hP hD hA hS hl
  obtain ⟨hx, hb, hml, hown, hts⟩ := id F
  have hl : lv_has ls 3 [(0, .ref o)] := hl
  have fl_10 := hts (.fieldLink RX3 10 "NameRolls" "now" "LNameRolls$Roll;") (by decide +kernel)
  have fl_16 := hts (.fieldLink RX3 16 "NameRolls" "past" "[LNameRolls$Roll;") (by decide +kernel)
  have fl_160 := hts (.fieldLink RX3 160 "NameRolls" "states" "I") (by decide +kernel)
  have hinX3 : ∀ w ∈ wsX30, w ∈ wsX3_recordState := by decide +kernel
  refine lv_aload_n hx hb dX3_recordState_0 rfl (lv_at hl 0 rfl) ?_
  refine va_get (D := G.1) (ci := 3) (v := .int (nI (S 0))) (C := RX3) (T := TX3) (N := 5) hx hb hts hinX3 hown hKK.1 hP 0 rfl rfl 2 (by decide) fl_160 (fun _ h9 => h9) rfl dX3_recordState_1 ?_
  refine z_top (v := nI 3) (by rw [h9]) ?_
  refine lv_iconst (v := nI 4) hx hb dX3_recordState_4 (by decide) ?_
  refine z_lt (tgt := 54) hx hb dX3_recordState_5 (by decide) (by omega) (by omega) (fun c_1 => ?_) (fun c_1 => absurd c_1 (by decide))
  refine lv_aload_n hx hb dX3_recordState_54 rfl (lv_at hl 0 rfl) ?_
  refine va_get (D := G.1) (ci := 3) (v := .ref pr) (C := RX3) (T := TX3) (N := 5) hx hb hts hinX3 hown hKK.1 hP 0 rfl rfl 1 (by decide) fl_16 (fun _ h9 => h9) rfl dX3_recordState_55 ?_
  refine lv_aload_n hx hb dX3_recordState_58 rfl (lv_at hl 0 rfl) ?_
  refine va_get (D := G.1) (ci := 3) (v := .int (nI (S 0))) (C := RX3) (T := TX3) (N := 5) hx hb hts hinX3 hown hKK.1 hP 0 rfl rfl 2 (by decide) fl_160 (fun _ h9 => h9) rfl dX3_recordState_59 ?_
  refine z_top (v := nI 3) (by rw [h9]) ?_
  refine z_aald (n := 4) (f := prF pa) (i := 3) (v := pa 3 0) hx hb hKK hP 1 rfl (by decide) (by decide) rfl dX3_recordState_62 ?_
  refine lv_aload_n hx hb dX3_recordState_63 rfl (lv_at hl 0 rfl) ?_
  refine va_get (D := G.1) (ci := 3) (v := .ref (a 0)) (C := RX3) (T := TX3) (N := 5) hx hb hts hinX3 hown hKK.1 hP 0 rfl rfl 0 (by decide) fl_10 (fun _ h9 => h9) rfl dX3_recordState_64 ?_
  refine z_callVV (As := [.ref (a 0)]) (rest := []) (wr := (headW G o pr (prF pa) a b q S ++ (playW G q (d 0) P ++ (textW G b t L ++ (rollW G d u ++ (rollW G (pa 0) p0 ++ (rollW G (pa 1) p1 ++ rollW G (pa 2) p2))))))) (C := RX1) F (c_X1_copyFrom l G (pa 3) a p3 v) (cwV 1 hts gX3_recordState_X1_copyFrom rfl rfl rfl (by decide +kernel) ⟨Nat.le_of_ble_eq_true rfl, Nat.le_of_ble_eq_true rfl⟩) hKK (z_recv hKK hP (q0 := 70) (ci := 1) rfl rfl) (z_perm (pn_p3 _ _ _ _ _ _ _ _ _) hP) (z_permD (pn_p3 _ _ _ _ _ _ _ _ _) hD) hS hA rfl hl.1 rfl (Nat.le_of_ble_eq_true rfl) ⟨Nat.zero_le _, Nat.zero_le _⟩ dX3_recordState_67 (fun H locs hP hD hS => ?_)
  have hP : va_P G.1 vwCl (headW G o pr (prF pa) a b q S ++ (playW G q (d 0) P ++ (textW G b t L ++ (rollW G a v ++ (rollW G d u ++ (rollW G (pa 0) p0 ++ (rollW G (pa 1) p1 ++ (rollW G (pa 2) p2 ++ rollW G (pa 3) (zCopy p3 v))))))))) H := (z_perm (pn_p3 _ _ _ _ _ _ _ _ _).symm hP)
  have hD : va_D A (headW G o pr (prF pa) a b q S ++ (playW G q (d 0) P ++ (textW G b t L ++ (rollW G a v ++ (rollW G d u ++ (rollW G (pa 0) p0 ++ (rollW G (pa 1) p1 ++ (rollW G (pa 2) p2 ++ rollW G (pa 3) (zCopy p3 v))))))))) := (z_permD (pn_p3 _ _ _ _ _ _ _ _ _).symm hD)
  refine lv_aload_n hx hb dX3_recordState_70 rfl (lv_at hl 0 rfl) ?_
  refine lv_dup hx hb dX3_recordState_71 rfl ?_
  refine va_get (D := G.1) (ci := 3) (v := .int (nI (S 0))) (C := RX3) (T := TX3) (N := 5) hx hb hts hinX3 hown hKK.1 hP 0 rfl rfl 2 (by decide) fl_160 (fun _ h9 => h9) rfl dX3_recordState_72 ?_
  refine z_top (v := nI 3) (by rw [h9]) ?_
  refine lv_iconst (v := nI 1) hx hb dX3_recordState_75 (by decide) ?_
  refine z_add (v := nI 4) hx hb dX3_recordState_76 (nI_add _ _) ?_
  refine z_put (w2 := headW G o pr (prF pa) a b q (nup S 0 4) ++ (playW G q (d 0) P ++ (textW G b t L ++ (rollW G a v ++ (rollW G d u ++ (rollW G (pa 0) p0 ++ (rollW G (pa 1) p1 ++ (rollW G (pa 2) p2 ++ rollW G (pa 3) (zCopy p3 v))))))))) hx hb hts hinX3 tyX3 tyX3_ok nmX3 hown hKK hP hD hS 0 (ci := 3) (C := RX3) (T := TX3) (N := 5) rfl rfl 2 (by decide) fl_160 rfl rfl rfl (Nat.le_of_ble_eq_true rfl) rfl dX3_recordState_77 (fun H locs hP hD hS => ?_)
  exact z_vret hx hb hr hlk hP hD hS dX3_recordState_80 rfl

set_option maxHeartbeats 4000000 in
set_option maxRecDepth 100000 in
theorem c_X3_recordState_s4 (l : Launch) (G : ZG) (o pr q : Nat) (a b d : Nat → Nat) (pa : Nat → Nat → Nat) (S P L : Nat → Nat) (t v u : Mem) (p0 p1 p2 p3 : Mem) (h9 : S 0 = 4) : CV l G yX3_recordState wsX3_recordState (zRm 2 61) [.ref o] (headW G o pr (prF pa) a b q S ++ (playW G q (d 0) P ++ (textW G b t L ++ (rollW G a v ++ (rollW G d u ++ (rollW G (pa 0) p0 ++ (rollW G (pa 1) p1 ++ (rollW G (pa 2) p2 ++ rollW G (pa 3) p3)))))))) (headW G o pr (prF (rotA pa)) a b q (nup S 0 4) ++ (playW G q (d 0) P ++ (textW G b t L ++ (rollW G a v ++ (rollW G d u ++ (rollW G (pa 1) p1 ++ (rollW G (pa 2) p2 ++ (rollW G (pa 3) p3 ++ rollW G (pa 0) (zCopy p0 v))))))))) := by
  refine CV.ent (cc := cX3_recordState) (maxL := 3) (own := RX3) (by decide) rfl rfl (Nat.le_of_ble_eq_true rfl) ?_
  intro p ee s m args below meth c A ls F hr hlk hKK hP hD hA hS hl
  obtain ⟨hx, hb, hml, hown, hts⟩ := id F
  have hl : lv_has ls 3 [(0, .ref o)] := hl
  have fl_10 := hts (.fieldLink RX3 10 "NameRolls" "now" "LNameRolls$Roll;") (by decide +kernel)
  have fl_16 := hts (.fieldLink RX3 16 "NameRolls" "past" "[LNameRolls$Roll;") (by decide +kernel)
  have fl_160 := hts (.fieldLink RX3 160 "NameRolls" "states" "I") (by decide +kernel)
  have hinX3 : ∀ w ∈ wsX30, w ∈ wsX3_recordState := by decide +kernel
  refine lv_aload_n hx hb dX3_recordState_0 rfl (lv_at hl 0 rfl) ?_
  refine va_get (D := G.1) (ci := 3) (v := .int (nI (S 0))) (C := RX3) (T := TX3) (N := 5) hx hb hts hinX3 hown hKK.1 hP 0 rfl rfl 2 (by decide) fl_160 (fun _ h9 => h9) rfl dX3_recordState_1 ?_
  refine z_top (v := nI 4) (by rw [h9]) ?_
  refine lv_iconst (v := nI 4) hx hb dX3_recordState_4 (by decide) ?_
  refine z_lt (tgt := 54) hx hb dX3_recordState_5 (by decide) (by omega) (by omega) (fun c_1 => absurd c_1 (by decide)) (fun c_1 => ?_)
  refine lv_aload_n hx hb dX3_recordState_8 rfl (lv_at hl 0 rfl) ?_
  refine va_get (D := G.1) (ci := 3) (v := .ref pr) (C := RX3) (T := TX3) (N := 5) hx hb hts hinX3 hown hKK.1 hP 0 rfl rfl 1 (by decide) fl_16 (fun _ h9 => h9) rfl dX3_recordState_9 ?_
  refine lv_iconst (v := nI 0) hx hb dX3_recordState_12 (by decide) ?_
  refine z_aald (n := 4) (f := prF pa) (i := 0) (v := pa 0 0) hx hb hKK hP 1 rfl (by decide) (by decide) rfl dX3_recordState_13 ?_
  refine lv_astore_n (lv' := [(1, .ref (pa 0 0)), (0, .ref o)]) hx hb dX3_recordState_14 rfl hl (by decide) rfl (fun ls hl => ?_)
  refine lv_iconst (v := nI 1) hx hb dX3_recordState_15 (by decide) ?_
  refine lv_istore_n (lv' := [(2, .int (nI 1)), (1, .ref (pa 0 0)), (0, .ref o)]) hx hb dX3_recordState_16 rfl hl (by decide) rfl (fun ls hl => ?_)
  refine lv_iload_n hx hb dX3_recordState_17 rfl (lv_at hl 0 rfl) ?_
  refine lv_iconst (v := nI 4) hx hb dX3_recordState_18 (by decide) ?_
  refine z_ge (tgt := 42) hx hb dX3_recordState_19 (by decide) (by omega) (by omega) (fun c_2 => absurd c_2 (by decide)) (fun c_2 => ?_)
  refine lv_aload_n hx hb dX3_recordState_22 rfl (lv_at hl 2 rfl) ?_
  refine va_get (D := G.1) (ci := 3) (v := .ref pr) (C := RX3) (T := TX3) (N := 5) hx hb hts hinX3 hown hKK.1 hP 0 rfl rfl 1 (by decide) fl_16 (fun _ h9 => h9) rfl dX3_recordState_23 ?_
  refine lv_iload_n hx hb dX3_recordState_26 rfl (lv_at hl 0 rfl) ?_
  refine lv_iconst (v := nI 1) hx hb dX3_recordState_27 (by decide) ?_
  refine z_sub (v := nI 0) hx hb dX3_recordState_28 (pk_sub (by omega)) ?_
  refine lv_aload_n hx hb dX3_recordState_29 rfl (lv_at hl 2 rfl) ?_
  refine va_get (D := G.1) (ci := 3) (v := .ref pr) (C := RX3) (T := TX3) (N := 5) hx hb hts hinX3 hown hKK.1 hP 0 rfl rfl 1 (by decide) fl_16 (fun _ h9 => h9) rfl dX3_recordState_30 ?_
  refine lv_iload_n hx hb dX3_recordState_33 rfl (lv_at hl 0 rfl) ?_
  refine z_aald (n := 4) (f := prF pa) (i := 1) (v := pa 1 0) hx hb hKK hP 1 rfl (by decide) (by decide) rfl dX3_recordState_34 ?_
  refine z_aast (n := 4) (f := prF pa) (i := 0) (v := pa 1 0) (w2 := headW G o pr (va_up (prF pa) 0 (some (pa 1 0))) a b q S ++ (playW G q (d 0) P ++ (textW G b t L ++ (rollW G a v ++ (rollW G d u ++ (rollW G (pa 0) p0 ++ (rollW G (pa 1) p1 ++ (rollW G (pa 2) p2 ++ rollW G (pa 3) p3)))))))) hx hb hKK hP hD hS 1 44 rfl rfl (by decide) (by decide) rfl dX3_recordState_35 (fun H locs hP hD hS => ?_)
  refine lv_iinc (v := nI 2) (lv' := [(2, .int (nI 2)), (1, .ref (pa 0 0)), (0, .ref o)]) hx hb dX3_recordState_36 hl (k := 0) rfl (nI_1 _) (by decide) rfl (fun ls hl => ?_)
  refine lv_goto (tgt := 17) hx hb dX3_recordState_39 (by decide) ?_
  refine lv_iload_n hx hb dX3_recordState_17 rfl (lv_at hl 0 rfl) ?_
  refine lv_iconst (v := nI 4) hx hb dX3_recordState_18 (by decide) ?_
  refine z_ge (tgt := 42) hx hb dX3_recordState_19 (by decide) (by omega) (by omega) (fun c_3 => absurd c_3 (by decide)) (fun c_3 => ?_)
  refine lv_aload_n hx hb dX3_recordState_22 rfl (lv_at hl 2 rfl) ?_
  refine va_get (D := G.1) (ci := 3) (v := .ref pr) (C := RX3) (T := TX3) (N := 5) hx hb hts hinX3 hown hKK.1 hP 0 rfl rfl 1 (by decide) fl_16 (fun _ h9 => h9) rfl dX3_recordState_23 ?_
  refine lv_iload_n hx hb dX3_recordState_26 rfl (lv_at hl 0 rfl) ?_
  refine lv_iconst (v := nI 1) hx hb dX3_recordState_27 (by decide) ?_
  refine z_sub (v := nI 1) hx hb dX3_recordState_28 (pk_sub (by omega)) ?_
  refine lv_aload_n hx hb dX3_recordState_29 rfl (lv_at hl 2 rfl) ?_
  refine va_get (D := G.1) (ci := 3) (v := .ref pr) (C := RX3) (T := TX3) (N := 5) hx hb hts hinX3 hown hKK.1 hP 0 rfl rfl 1 (by decide) fl_16 (fun _ h9 => h9) rfl dX3_recordState_30 ?_
  refine lv_iload_n hx hb dX3_recordState_33 rfl (lv_at hl 0 rfl) ?_
  refine z_aald (n := 4) (f := va_up (prF pa) 0 (some (pa 1 0))) (i := 2) (v := pa 2 0) hx hb hKK hP 1 rfl (by decide) (by decide) rfl dX3_recordState_34 ?_
  refine z_aast (n := 4) (f := va_up (prF pa) 0 (some (pa 1 0))) (i := 1) (v := pa 2 0) (w2 := headW G o pr (va_up (va_up (prF pa) 0 (some (pa 1 0))) 1 (some (pa 2 0))) a b q S ++ (playW G q (d 0) P ++ (textW G b t L ++ (rollW G a v ++ (rollW G d u ++ (rollW G (pa 0) p0 ++ (rollW G (pa 1) p1 ++ (rollW G (pa 2) p2 ++ rollW G (pa 3) p3)))))))) hx hb hKK hP hD hS 1 57 rfl rfl (by decide) (by decide) rfl dX3_recordState_35 (fun H locs hP hD hS => ?_)
  refine lv_iinc (v := nI 3) (lv' := [(2, .int (nI 3)), (1, .ref (pa 0 0)), (0, .ref o)]) hx hb dX3_recordState_36 hl (k := 0) rfl (nI_1 _) (by decide) rfl (fun ls hl => ?_)
  refine lv_goto (tgt := 17) hx hb dX3_recordState_39 (by decide) ?_
  refine lv_iload_n hx hb dX3_recordState_17 rfl (lv_at hl 0 rfl) ?_
  refine lv_iconst (v := nI 4) hx hb dX3_recordState_18 (by decide) ?_
  refine z_ge (tgt := 42) hx hb dX3_recordState_19 (by decide) (by omega) (by omega) (fun c_4 => absurd c_4 (by decide)) (fun c_4 => ?_)
  refine lv_aload_n hx hb dX3_recordState_22 rfl (lv_at hl 2 rfl) ?_
  refine va_get (D := G.1) (ci := 3) (v := .ref pr) (C := RX3) (T := TX3) (N := 5) hx hb hts hinX3 hown hKK.1 hP 0 rfl rfl 1 (by decide) fl_16 (fun _ h9 => h9) rfl dX3_recordState_23 ?_
  refine lv_iload_n hx hb dX3_recordState_26 rfl (lv_at hl 0 rfl) ?_
  refine lv_iconst (v := nI 1) hx hb dX3_recordState_27 (by decide) ?_
  refine z_sub (v := nI 2) hx hb dX3_recordState_28 (pk_sub (by omega)) ?_
  refine lv_aload_n hx hb dX3_recordState_29 rfl (lv_at hl 2 rfl) ?_
  refine va_get (D := G.1) (ci := 3) (v := .ref pr) (C := RX3) (T := TX3) (N := 5) hx hb hts hinX3 hown hKK.1 hP 0 rfl rfl 1 (by decide) fl_16 (fun _ h9 => h9) rfl dX3_recordState_30 ?_
  refine lv_iload_n hx hb dX3_recordState_33 rfl (lv_at hl 0 rfl) ?_
  refine z_aald (n := 4) (f := va_up (va_up (prF pa) 0 (some (pa 1 0))) 1 (some (pa 2 0))) (i := 3) (v := pa 3 0) hx hb hKK hP 1 rfl (by decide) (by decide) rfl dX3_recordState_34 ?_
  refine z_aast (n := 4) (f := va_up (va_up (prF pa) 0 (some (pa 1 0))) 1 (some (pa 2 0))) (i := 2) (v := pa 3 0) (w2 := headW G o pr (va_up (va_up (va_up (prF pa) 0 (some (pa 1 0))) 1 (some (pa 2 0))) 2 (some (pa 3 0))) a b q S ++ (playW G q (d 0) P ++ (textW G b t L ++ (rollW G a v ++ (rollW G d u ++ (rollW G (pa 0) p0 ++ (rollW G (pa 1) p1 ++ (rollW G (pa 2) p2 ++ rollW G (pa 3) p3)))))))) hx hb hKK hP hD hS 1 70 rfl rfl (by decide) (by decide) rfl dX3_recordState_35 (fun H locs hP hD hS => ?_)
  refine lv_iinc (v := nI 4) (lv' := [(2, .int (nI 4)), (1, .ref (pa 0 0)), (0, .ref o)]) hx hb dX3_recordState_36 hl (k := 0) rfl (nI_1 _) (by decide) rfl (fun ls hl => ?_)
  refine lv_goto (tgt := 17) hx hb dX3_recordState_39 (by decide) ?_
  refine lv_iload_n hx hb dX3_recordState_17 rfl (lv_at hl 0 rfl) ?_
  refine lv_iconst (v := nI 4) hx hb dX3_recordState_18 (by decide) ?_
  refine z_ge (tgt := 42) hx hb dX3_recordState_19 (by decide) (by omega) (by omega) (fun c_5 => ?_) (fun c_5 => absurd c_5 (by decide))
  refine lv_aload_n hx hb dX3_recordState_42 rfl (lv_at hl 2 rfl) ?_
  refine va_get (D := G.1) (ci := 3) (v := .ref pr) (C := RX3) (T := TX3) (N := 5) hx hb hts hinX3 hown hKK.1 hP 0 rfl rfl 1 (by decide) fl_16 (fun _ h9 => h9) rfl dX3_recordState_43 ?_
  refine lv_iconst (v := nI 3) hx hb dX3_recordState_46 (by decide) ?_
  refine lv_aload_n hx hb dX3_recordState_47 rfl (lv_at hl 1 rfl) ?_
  refine z_aast (n := 4) (f := va_up (va_up (va_up (prF pa) 0 (some (pa 1 0))) 1 (some (pa 2 0))) 2 (some (pa 3 0))) (i := 3) (v := pa 0 0) (w2 := headW G o pr (va_up (va_up (va_up (va_up (prF pa) 0 (some (pa 1 0))) 1 (some (pa 2 0))) 2 (some (pa 3 0))) 3 (some (pa 0 0))) a b q S ++ (playW G q (d 0) P ++ (textW G b t L ++ (rollW G a v ++ (rollW G d u ++ (rollW G (pa 0) p0 ++ (rollW G (pa 1) p1 ++ (rollW G (pa 2) p2 ++ rollW G (pa 3) p3)))))))) hx hb hKK hP hD hS 1 31 rfl rfl (by decide) (by decide) rfl dX3_recordState_48 (fun H locs hP hD hS => ?_)
  refine lv_aload_n hx hb dX3_recordState_49 rfl (lv_at hl 2 rfl) ?_
  refine lv_iconst (v := nI 3) hx hb dX3_recordState_50 (by decide) ?_
  refine z_put (w2 := headW G o pr (va_up (va_up (va_up (va_up (prF pa) 0 (some (pa 1 0))) 1 (some (pa 2 0))) 2 (some (pa 3 0))) 3 (some (pa 0 0))) a b q (nup S 0 3) ++ (playW G q (d 0) P ++ (textW G b t L ++ (rollW G a v ++ (rollW G d u ++ (rollW G (pa 0) p0 ++ (rollW G (pa 1) p1 ++ (rollW G (pa 2) p2 ++ rollW G (pa 3) p3)))))))) hx hb hts hinX3 tyX3 tyX3_ok nmX3 hown hKK hP hD hS 0 (ci := 3) (C := RX3) (T := TX3) (N := 5) rfl rfl 2 (by decide) fl_160 rfl rfl rfl (Nat.le_of_ble_eq_true rfl) rfl dX3_recordState_51 (fun H locs hP hD hS => ?_)
  refine lv_aload_n hx hb dX3_recordState_54 rfl (lv_at hl 2 rfl) ?_
  refine va_get (D := G.1) (ci := 3) (v := .ref pr) (C := RX3) (T := TX3) (N := 5) hx hb hts hinX3 hown hKK.1 hP 0 rfl rfl 1 (by decide) fl_16 (fun _ h9 => h9) rfl dX3_recordState_55 ?_
  refine lv_aload_n hx hb dX3_recordState_58 rfl (lv_at hl 2 rfl) ?_
  refine va_get (D := G.1) (ci := 3) (v := .int (nI 3)) (C := RX3) (T := TX3) (N := 5) hx hb hts hinX3 hown hKK.1 hP 0 rfl rfl 2 (by decide) fl_160 (fun _ h9 => h9) rfl dX3_recordState_59 ?_
  refine z_aald (n := 4) (f := va_up (va_up (va_up (va_up (prF pa) 0 (some (pa 1 0))) 1 (some (pa 2 0))) 2 (some (pa 3 0))) 3 (some (pa 0 0))) (i := 3) (v := pa 0 0) hx hb hKK hP 1 rfl (by decide) (by decide) rfl dX3_recordState_62 ?_
  refine lv_aload_n hx hb dX3_recordState_63 rfl (lv_at hl 2 rfl) ?_
  refine va_get (D := G.1) (ci := 3) (v := .ref (a 0)) (C := RX3) (T := TX3) (N := 5) hx hb hts hinX3 hown hKK.1 hP 0 rfl rfl 0 (by decide) fl_10 (fun _ h9 => h9) rfl dX3_recordState_64 ?_
  refine z_callVV (As := [.ref (a 0)]) (rest := []) (wr := (headW G o pr (va_up (va_up (va_up (va_up (prF pa) 0 (some (pa 1 0))) 1 (some (pa 2 0))) 2 (some (pa 3 0))) 3 (some (pa 0 0))) a b q (nup S 0 3) ++ (playW G q (d 0) P ++ (textW G b t L ++ (rollW G d u ++ (rollW G (pa 1) p1 ++ (rollW G (pa 2) p2 ++ rollW G (pa 3) p3))))))) (C := RX1) F (c_X1_copyFrom l G (pa 0) a p0 v) (cwV 1 hts gX3_recordState_X1_copyFrom rfl rfl rfl (by decide +kernel) ⟨Nat.le_of_ble_eq_true rfl, Nat.le_of_ble_eq_true rfl⟩) hKK (z_recv hKK hP (q0 := 31) (ci := 1) rfl rfl) (z_perm (pn_p0 _ _ _ _ _ _ _ _ _) hP) (z_permD (pn_p0 _ _ _ _ _ _ _ _ _) hD) hS hA rfl hl.1 rfl (Nat.le_of_ble_eq_true rfl) ⟨Nat.zero_le _, Nat.zero_le _⟩ dX3_recordState_67 (fun H locs hP hD hS => ?_)
  have hP : va_P G.1 vwCl (headW G o pr (va_up (va_up (va_up (va_up (prF pa) 0 (some (pa 1 0))) 1 (some (pa 2 0))) 2 (some (pa 3 0))) 3 (some (pa 0 0))) a b q (nup S 0 3) ++ (playW G q (d 0) P ++ (textW G b t L ++ (rollW G a v ++ (rollW G d u ++ (rollW G (pa 0) (zCopy p0 v) ++ (rollW G (pa 1) p1 ++ (rollW G (pa 2) p2 ++ rollW G (pa 3) p3)))))))) H := (z_perm (pn_p0 _ _ _ _ _ _ _ _ _).symm hP)
  have hD : va_D A (headW G o pr (va_up (va_up (va_up (va_up (prF pa) 0 (some (pa 1 0))) 1 (some (pa 2 0))) 2 (some (pa 3 0))) 3 (some (pa 0 0))) a b q (nup S 0 3) ++ (playW G q (d 0) P ++ (textW G b t L ++ (rollW G a v ++ (rollW G d u ++ (rollW G (pa 0) (zCopy p0 v) ++ (rollW G (pa 1) p1 ++ (rollW G (pa 2) p2 ++ rollW G (pa 3) p3)))))))) := (z_permD (pn_p0 _ _ _ _ _ _ _ _ _).symm hD)
  refine lv_aload_n hx hb dX3_recordState_70 rfl (lv_at hl 2 rfl) ?_
  refine lv_dup hx hb dX3_recordState_71 rfl ?_
  refine va_get (D := G.1) (ci := 3) (v := .int (nI 3)) (C := RX3) (T := TX3) (N := 5) hx hb hts hinX3 hown hKK.1 hP 0 rfl rfl 2 (by decide) fl_160 (fun _ h9 => h9) rfl dX3_recordState_72 ?_
  refine lv_iconst (v := nI 1) hx hb dX3_recordState_75 (by decide) ?_
  refine z_add (v := nI 4) hx hb dX3_recordState_76 (nI_add _ _) ?_
  refine z_put (w2 := headW G o pr (va_up (va_up (va_up (va_up (prF pa) 0 (some (pa 1 0))) 1 (some (pa 2 0))) 2 (some (pa 3 0))) 3 (some (pa 0 0))) a b q (nup S 0 4) ++ (playW G q (d 0) P ++ (textW G b t L ++ (rollW G a v ++ (rollW G d u ++ (rollW G (pa 0) (zCopy p0 v) ++ (rollW G (pa 1) p1 ++ (rollW G (pa 2) p2 ++ rollW G (pa 3) p3)))))))) hx hb hts hinX3 tyX3 tyX3_ok nmX3 hown hKK hP hD hS 0 (ci := 3) (C := RX3) (T := TX3) (N := 5) rfl rfl 2 (by decide) fl_160 rfl rfl rfl (Nat.le_of_ble_eq_true rfl) rfl dX3_recordState_77 (fun H locs hP hD hS => ?_)
  rw [prF_rot] at hP hD
  have hP := z_perm (pn_rot _ _ _ _ _ _ _ _ _) hP
  have hD := z_permD (pn_rot _ _ _ _ _ _ _ _ _) hD
  exact z_vret hx hb hr hlk hP hD hS dX3_recordState_80 rfl

theorem c_X3_recordState (l : Launch) (G : ZG) (o pr q : Nat) (a b d : Nat → Nat) (pa : Nat → Nat → Nat) (S P L : Nat → Nat) (t v u : Mem) (pv : Nat → Mem) (h4 : S 0 ≤ 4) : CV l G yX3_recordState wsX3_recordState (zRm 2 61) [.ref o] (nrW G o pr q a b d pa S P L t v u pv) (nrW G o pr q a b d (rcA (S 0) pa) (nup S 0 (svN (S 0))) P L t v u (rcV (S 0) pv v)) := by
  rcases (show S 0 = 4 ∨ S 0 = 3 ∨ S 0 = 2 ∨ S 0 = 1 ∨ S 0 = 0 by omega) with h | h | h | h | h
  · rw [h]; exact c_X3_recordState_s4 l G o pr q a b d pa S P L t v u (pv 0) (pv 1) (pv 2) (pv 3) h
  · rw [h]; exact c_X3_recordState_s3 l G o pr q a b d pa S P L t v u (pv 0) (pv 1) (pv 2) (pv 3) h
  · rw [h]; exact c_X3_recordState_s2 l G o pr q a b d pa S P L t v u (pv 0) (pv 1) (pv 2) (pv 3) h
  · rw [h]; exact c_X3_recordState_s1 l G o pr q a b d pa S P L t v u (pv 0) (pv 1) (pv 2) (pv 3) h
  · rw [h]; exact c_X3_recordState_s0 l G o pr q a b d pa S P L t v u (pv 0) (pv 1) (pv 2) (pv 3) h

section PM2
variable {α : Type} (n p t a d x0 x1 x2 x3 : List α)
theorem pn_u0 : (n ++ (p ++ (t ++ (a ++ (d ++ (x0 ++ (x1 ++ (x2 ++ x3)))))))).Perm ((n ++ (p ++ (t ++ (d ++ (x1 ++ (x2 ++ x3)))))) ++ (a ++ x0)) := by
  haveI : DecidableEq α := fun x y => Classical.propDecidable (x = y)
  refine List.perm_iff_count.mpr (fun z => ?_)
  simp only [List.count_append]
  omega
theorem pn_u1 : (n ++ (p ++ (t ++ (a ++ (d ++ (x0 ++ (x1 ++ (x2 ++ x3)))))))).Perm ((n ++ (p ++ (t ++ (d ++ (x0 ++ (x2 ++ x3)))))) ++ (a ++ x1)) := by
  haveI : DecidableEq α := fun x y => Classical.propDecidable (x = y)
  refine List.perm_iff_count.mpr (fun z => ?_)
  simp only [List.count_append]
  omega
theorem pn_u2 : (n ++ (p ++ (t ++ (a ++ (d ++ (x0 ++ (x1 ++ (x2 ++ x3)))))))).Perm ((n ++ (p ++ (t ++ (d ++ (x0 ++ (x1 ++ x3)))))) ++ (a ++ x2)) := by
  haveI : DecidableEq α := fun x y => Classical.propDecidable (x = y)
  refine List.perm_iff_count.mpr (fun z => ?_)
  simp only [List.count_append]
  omega
theorem pn_u3 : (n ++ (p ++ (t ++ (a ++ (d ++ (x0 ++ (x1 ++ (x2 ++ x3)))))))).Perm ((n ++ (p ++ (t ++ (d ++ (x0 ++ (x1 ++ x2)))))) ++ (a ++ x3)) := by
  haveI : DecidableEq α := fun x y => Classical.propDecidable (x = y)
  refine List.perm_iff_count.mpr (fun z => ?_)
  simp only [List.count_append]
  omega
end PM2

set_option maxHeartbeats 4000000 in
set_option maxRecDepth 100000 in
theorem c_X3_undo_z (l : Launch) (G : ZG) (o pr q : Nat) (a b d : Nat → Nat) (pa : Nat → Nat → Nat) (S P L : Nat → Nat) (t v u : Mem) (pv : Nat → Mem) (h9 : S 0 = 0) : CI l G yX3_undo wsX3_undo (zRm 2 61) [.ref o] (headW G o pr (prF pa) a b q S ++ (playW G q (d 0) P ++ (textW G b t L ++ (rollW G a v ++ (rollW G d u ++ pastW G pa pv))))) ((-1000002)) (headW G o pr (prF pa) a b q S ++ (playW G q (d 0) P ++ (textW G b t L ++ (rollW G a v ++ (rollW G d u ++ pastW G pa pv))))) := by
  refine CI.ent (cc := cX3_undo) (maxL := 1) (ty := .int) (own := RX3) (by decide) rfl rfl (Nat.le_of_ble_eq_true rfl) ?_
  intro p ee s m args below meth c A ls F hr hlk hKK hP hD hA hS hl
  obtain ⟨hx, hb, hml, hown, hts⟩ := id F
  have hl : lv_has ls 1 [(0, .ref o)] := hl
  have ct_66 := hts (.constant RX3 66 (-1000002)) (by decide +kernel)
  have fl_160 := hts (.fieldLink RX3 160 "NameRolls" "states" "I") (by decide +kernel)
  have hinX3 : ∀ w ∈ wsX30, w ∈ wsX3_undo := by decide +kernel
  refine lv_aload_n hx hb dX3_undo_0 rfl (lv_at hl 0 rfl) ?_
  refine va_get (D := G.1) (ci := 3) (v := .int (nI (S 0))) (C := RX3) (T := TX3) (N := 5) hx hb hts hinX3 hown hKK.1 hP 0 rfl rfl 2 (by decide) fl_160 (fun _ h9 => h9) rfl dX3_undo_1 ?_
  refine z_top (v := nI 0) (by rw [h9]) ?_
  refine z_ifNle (tgt := 15) hx hb dX3_undo_4 (by decide) (by omega) (fun c_1 => ?_) (fun c_1 => absurd c_1 (by decide))
  refine z_ldc (v' := (-1000002)) hx hb hown ct_66 dX3_undo_15 rfl ?_
  exact z_iret hx hb hr hlk hP hD hS dX3_undo_17 rfl rfl

set_option maxHeartbeats 4000000 in
set_option maxRecDepth 100000 in
theorem c_X3_undo_s0 (l : Launch) (G : ZG) (o pr q : Nat) (a b d : Nat → Nat) (pa : Nat → Nat → Nat) (S P L : Nat → Nat) (t v u : Mem) (p0 p1 p2 p3 : Mem) (h9 : S 0 = 1) : CI l G yX3_undo wsX3_undo (zRm 2 61) [.ref o] (headW G o pr (prF pa) a b q S ++ (playW G q (d 0) P ++ (textW G b t L ++ (rollW G a v ++ (rollW G d u ++ (rollW G (pa 0) p0 ++ (rollW G (pa 1) p1 ++ (rollW G (pa 2) p2 ++ rollW G (pa 3) p3)))))))) (nI 0) (headW G o pr (prF pa) a b q (nup S 0 0) ++ (playW G q (d 0) P ++ (textW G b t L ++ (rollW G a (zCopy v p0) ++ (rollW G d u ++ (rollW G (pa 0) p0 ++ (rollW G (pa 1) p1 ++ (rollW G (pa 2) p2 ++ rollW G (pa 3) p3)))))))) := by
  refine CI.ent (cc := cX3_undo) (maxL := 1) (ty := .int) (own := RX3) (by decide) rfl rfl (Nat.le_of_ble_eq_true rfl) ?_
  intro p ee s m args below meth c A ls F hr hlk hKK hP hD hA hS hl
  obtain ⟨hx, hb, hml, hown, hts⟩ := id F
  have hl : lv_has ls 1 [(0, .ref o)] := hl
  have fl_10 := hts (.fieldLink RX3 10 "NameRolls" "now" "LNameRolls$Roll;") (by decide +kernel)
  have fl_16 := hts (.fieldLink RX3 16 "NameRolls" "past" "[LNameRolls$Roll;") (by decide +kernel)
  have fl_160 := hts (.fieldLink RX3 160 "NameRolls" "states" "I") (by decide +kernel)
  have hinX3 : ∀ w ∈ wsX30, w ∈ wsX3_undo := by decide +kernel
  refine lv_aload_n hx hb dX3_undo_0 rfl (lv_at hl 0 rfl) ?_
  refine va_get (D := G.1) (ci := 3) (v := .int (nI (S 0))) (C := RX3) (T := TX3) (N := 5) hx hb hts hinX3 hown hKK.1 hP 0 rfl rfl 2 (by decide) fl_160 (fun _ h9 => h9) rfl dX3_undo_1 ?_
  refine z_top (v := nI 1) (by rw [h9]) ?_
  refine z_ifNle (tgt := 15) hx hb dX3_undo_4 (by decide) (by omega) (fun c_1 => absurd c_1 (by decide)) (fun c_1 => ?_)
  refine lv_aload_n hx hb dX3_undo_7 rfl (lv_at hl 0 rfl) ?_
  refine va_get (D := G.1) (ci := 3) (v := .int (nI (S 0))) (C := RX3) (T := TX3) (N := 5) hx hb hts hinX3 hown hKK.1 hP 0 rfl rfl 2 (by decide) fl_160 (fun _ h9 => h9) rfl dX3_undo_8 ?_
  refine z_top (v := nI 1) (by rw [h9]) ?_
  refine lv_iconst (v := nI 4) hx hb dX3_undo_11 (by decide) ?_
  refine z_le (tgt := 18) hx hb dX3_undo_12 (by decide) (by omega) (by omega) (fun c_2 => ?_) (fun c_2 => absurd c_2 (by decide))
  refine lv_aload_n hx hb dX3_undo_18 rfl (lv_at hl 0 rfl) ?_
  refine lv_dup hx hb dX3_undo_19 rfl ?_
  refine va_get (D := G.1) (ci := 3) (v := .int (nI (S 0))) (C := RX3) (T := TX3) (N := 5) hx hb hts hinX3 hown hKK.1 hP 0 rfl rfl 2 (by decide) fl_160 (fun _ h9 => h9) rfl dX3_undo_20 ?_
  refine z_top (v := nI 1) (by rw [h9]) ?_
  refine lv_iconst (v := nI 1) hx hb dX3_undo_23 (by decide) ?_
  refine z_sub (v := nI 0) hx hb dX3_undo_24 (pk_sub (by omega)) ?_
  refine z_put (w2 := headW G o pr (prF pa) a b q (nup S 0 0) ++ (playW G q (d 0) P ++ (textW G b t L ++ (rollW G a v ++ (rollW G d u ++ (rollW G (pa 0) p0 ++ (rollW G (pa 1) p1 ++ (rollW G (pa 2) p2 ++ rollW G (pa 3) p3)))))))) hx hb hts hinX3 tyX3 tyX3_ok nmX3 hown hKK hP hD hS 0 (ci := 3) (C := RX3) (T := TX3) (N := 5) rfl rfl 2 (by decide) fl_160 rfl rfl rfl (Nat.le_of_ble_eq_true rfl) rfl dX3_undo_25 (fun H locs hP hD hS => ?_)
  refine lv_aload_n hx hb dX3_undo_28 rfl (lv_at hl 0 rfl) ?_
  refine va_get (D := G.1) (ci := 3) (v := .ref (a 0)) (C := RX3) (T := TX3) (N := 5) hx hb hts hinX3 hown hKK.1 hP 0 rfl rfl 0 (by decide) fl_10 (fun _ h9 => h9) rfl dX3_undo_29 ?_
  refine lv_aload_n hx hb dX3_undo_32 rfl (lv_at hl 0 rfl) ?_
  refine va_get (D := G.1) (ci := 3) (v := .ref pr) (C := RX3) (T := TX3) (N := 5) hx hb hts hinX3 hown hKK.1 hP 0 rfl rfl 1 (by decide) fl_16 (fun _ h9 => h9) rfl dX3_undo_33 ?_
  refine lv_aload_n hx hb dX3_undo_36 rfl (lv_at hl 0 rfl) ?_
  refine va_get (D := G.1) (ci := 3) (v := .int (nI 0)) (C := RX3) (T := TX3) (N := 5) hx hb hts hinX3 hown hKK.1 hP 0 rfl rfl 2 (by decide) fl_160 (fun _ h9 => h9) rfl dX3_undo_37 ?_
  refine z_aald (n := 4) (f := prF pa) (i := 0) (v := pa 0 0) hx hb hKK hP 1 rfl (by decide) (by decide) rfl dX3_undo_40 ?_
  refine z_callVV (As := [.ref (pa 0 0)]) (rest := []) (wr := (headW G o pr (prF pa) a b q (nup S 0 0) ++ (playW G q (d 0) P ++ (textW G b t L ++ (rollW G d u ++ (rollW G (pa 1) p1 ++ (rollW G (pa 2) p2 ++ rollW G (pa 3) p3))))))) (C := RX1) F (c_X1_copyFrom l G a (pa 0) v p0) (cwV 1 hts gX3_undo_X1_copyFrom rfl rfl rfl (by decide +kernel) ⟨Nat.le_of_ble_eq_true rfl, Nat.le_of_ble_eq_true rfl⟩) hKK (z_recv hKK hP (q0 := 5) (ci := 1) rfl rfl) (z_perm (pn_u0 _ _ _ _ _ _ _ _ _) hP) (z_permD (pn_u0 _ _ _ _ _ _ _ _ _) hD) hS hA rfl hl.1 rfl (Nat.le_of_ble_eq_true rfl) ⟨Nat.zero_le _, Nat.zero_le _⟩ dX3_undo_41 (fun H locs hP hD hS => ?_)
  have hP : va_P G.1 vwCl (headW G o pr (prF pa) a b q (nup S 0 0) ++ (playW G q (d 0) P ++ (textW G b t L ++ (rollW G a (zCopy v p0) ++ (rollW G d u ++ (rollW G (pa 0) p0 ++ (rollW G (pa 1) p1 ++ (rollW G (pa 2) p2 ++ rollW G (pa 3) p3)))))))) H := (z_perm (pn_u0 _ _ _ _ _ _ _ _ _).symm hP)
  have hD : va_D A (headW G o pr (prF pa) a b q (nup S 0 0) ++ (playW G q (d 0) P ++ (textW G b t L ++ (rollW G a (zCopy v p0) ++ (rollW G d u ++ (rollW G (pa 0) p0 ++ (rollW G (pa 1) p1 ++ (rollW G (pa 2) p2 ++ rollW G (pa 3) p3)))))))) := (z_permD (pn_u0 _ _ _ _ _ _ _ _ _).symm hD)
  refine lv_aload_n hx hb dX3_undo_44 rfl (lv_at hl 0 rfl) ?_
  refine va_get (D := G.1) (ci := 3) (v := .int (nI 0)) (C := RX3) (T := TX3) (N := 5) hx hb hts hinX3 hown hKK.1 hP 0 rfl rfl 2 (by decide) fl_160 (fun _ h9 => h9) rfl dX3_undo_45 ?_
  exact z_iret hx hb hr hlk hP hD hS dX3_undo_48 rfl rfl

set_option maxHeartbeats 4000000 in
set_option maxRecDepth 100000 in
theorem c_X3_undo_s1 (l : Launch) (G : ZG) (o pr q : Nat) (a b d : Nat → Nat) (pa : Nat → Nat → Nat) (S P L : Nat → Nat) (t v u : Mem) (p0 p1 p2 p3 : Mem) (h9 : S 0 = 2) : CI l G yX3_undo wsX3_undo (zRm 2 61) [.ref o] (headW G o pr (prF pa) a b q S ++ (playW G q (d 0) P ++ (textW G b t L ++ (rollW G a v ++ (rollW G d u ++ (rollW G (pa 0) p0 ++ (rollW G (pa 1) p1 ++ (rollW G (pa 2) p2 ++ rollW G (pa 3) p3)))))))) (nI 1) (headW G o pr (prF pa) a b q (nup S 0 1) ++ (playW G q (d 0) P ++ (textW G b t L ++ (rollW G a (zCopy v p1) ++ (rollW G d u ++ (rollW G (pa 0) p0 ++ (rollW G (pa 1) p1 ++ (rollW G (pa 2) p2 ++ rollW G (pa 3) p3)))))))) := by
  refine CI.ent (cc := cX3_undo) (maxL := 1) (ty := .int) (own := RX3) (by decide) rfl rfl (Nat.le_of_ble_eq_true rfl) ?_
  intro p ee s m args below meth c A ls F hr hlk hKK hP hD hA hS hl
  obtain ⟨hx, hb, hml, hown, hts⟩ := id F
  have hl : lv_has ls 1 [(0, .ref o)] := hl
  have fl_10 := hts (.fieldLink RX3 10 "NameRolls" "now" "LNameRolls$Roll;") (by decide +kernel)
  have fl_16 := hts (.fieldLink RX3 16 "NameRolls" "past" "[LNameRolls$Roll;") (by decide +kernel)
  have fl_160 := hts (.fieldLink RX3 160 "NameRolls" "states" "I") (by decide +kernel)
  have hinX3 : ∀ w ∈ wsX30, w ∈ wsX3_undo := by decide +kernel
  refine lv_aload_n hx hb dX3_undo_0 rfl (lv_at hl 0 rfl) ?_
  refine va_get (D := G.1) (ci := 3) (v := .int (nI (S 0))) (C := RX3) (T := TX3) (N := 5) hx hb hts hinX3 hown hKK.1 hP 0 rfl rfl 2 (by decide) fl_160 (fun _ h9 => h9) rfl dX3_undo_1 ?_
  refine z_top (v := nI 2) (by rw [h9]) ?_
  refine z_ifNle (tgt := 15) hx hb dX3_undo_4 (by decide) (by omega) (fun c_1 => absurd c_1 (by decide)) (fun c_1 => ?_)
  refine lv_aload_n hx hb dX3_undo_7 rfl (lv_at hl 0 rfl) ?_
  refine va_get (D := G.1) (ci := 3) (v := .int (nI (S 0))) (C := RX3) (T := TX3) (N := 5) hx hb hts hinX3 hown hKK.1 hP 0 rfl rfl 2 (by decide) fl_160 (fun _ h9 => h9) rfl dX3_undo_8 ?_
  refine z_top (v := nI 2) (by rw [h9]) ?_
  refine lv_iconst (v := nI 4) hx hb dX3_undo_11 (by decide) ?_
  refine z_le (tgt := 18) hx hb dX3_undo_12 (by decide) (by omega) (by omega) (fun c_2 => ?_) (fun c_2 => absurd c_2 (by decide))
  refine lv_aload_n hx hb dX3_undo_18 rfl (lv_at hl 0 rfl) ?_
  refine lv_dup hx hb dX3_undo_19 rfl ?_
  refine va_get (D := G.1) (ci := 3) (v := .int (nI (S 0))) (C := RX3) (T := TX3) (N := 5) hx hb hts hinX3 hown hKK.1 hP 0 rfl rfl 2 (by decide) fl_160 (fun _ h9 => h9) rfl dX3_undo_20 ?_
  refine z_top (v := nI 2) (by rw [h9]) ?_
  refine lv_iconst (v := nI 1) hx hb dX3_undo_23 (by decide) ?_
  refine z_sub (v := nI 1) hx hb dX3_undo_24 (pk_sub (by omega)) ?_
  refine z_put (w2 := headW G o pr (prF pa) a b q (nup S 0 1) ++ (playW G q (d 0) P ++ (textW G b t L ++ (rollW G a v ++ (rollW G d u ++ (rollW G (pa 0) p0 ++ (rollW G (pa 1) p1 ++ (rollW G (pa 2) p2 ++ rollW G (pa 3) p3)))))))) hx hb hts hinX3 tyX3 tyX3_ok nmX3 hown hKK hP hD hS 0 (ci := 3) (C := RX3) (T := TX3) (N := 5) rfl rfl 2 (by decide) fl_160 rfl rfl rfl (Nat.le_of_ble_eq_true rfl) rfl dX3_undo_25 (fun H locs hP hD hS => ?_)
  refine lv_aload_n hx hb dX3_undo_28 rfl (lv_at hl 0 rfl) ?_
  refine va_get (D := G.1) (ci := 3) (v := .ref (a 0)) (C := RX3) (T := TX3) (N := 5) hx hb hts hinX3 hown hKK.1 hP 0 rfl rfl 0 (by decide) fl_10 (fun _ h9 => h9) rfl dX3_undo_29 ?_
  refine lv_aload_n hx hb dX3_undo_32 rfl (lv_at hl 0 rfl) ?_
  refine va_get (D := G.1) (ci := 3) (v := .ref pr) (C := RX3) (T := TX3) (N := 5) hx hb hts hinX3 hown hKK.1 hP 0 rfl rfl 1 (by decide) fl_16 (fun _ h9 => h9) rfl dX3_undo_33 ?_
  refine lv_aload_n hx hb dX3_undo_36 rfl (lv_at hl 0 rfl) ?_
  refine va_get (D := G.1) (ci := 3) (v := .int (nI 1)) (C := RX3) (T := TX3) (N := 5) hx hb hts hinX3 hown hKK.1 hP 0 rfl rfl 2 (by decide) fl_160 (fun _ h9 => h9) rfl dX3_undo_37 ?_
  refine z_aald (n := 4) (f := prF pa) (i := 1) (v := pa 1 0) hx hb hKK hP 1 rfl (by decide) (by decide) rfl dX3_undo_40 ?_
  refine z_callVV (As := [.ref (pa 1 0)]) (rest := []) (wr := (headW G o pr (prF pa) a b q (nup S 0 1) ++ (playW G q (d 0) P ++ (textW G b t L ++ (rollW G d u ++ (rollW G (pa 0) p0 ++ (rollW G (pa 2) p2 ++ rollW G (pa 3) p3))))))) (C := RX1) F (c_X1_copyFrom l G a (pa 1) v p1) (cwV 1 hts gX3_undo_X1_copyFrom rfl rfl rfl (by decide +kernel) ⟨Nat.le_of_ble_eq_true rfl, Nat.le_of_ble_eq_true rfl⟩) hKK (z_recv hKK hP (q0 := 5) (ci := 1) rfl rfl) (z_perm (pn_u1 _ _ _ _ _ _ _ _ _) hP) (z_permD (pn_u1 _ _ _ _ _ _ _ _ _) hD) hS hA rfl hl.1 rfl (Nat.le_of_ble_eq_true rfl) ⟨Nat.zero_le _, Nat.zero_le _⟩ dX3_undo_41 (fun H locs hP hD hS => ?_)
  have hP : va_P G.1 vwCl (headW G o pr (prF pa) a b q (nup S 0 1) ++ (playW G q (d 0) P ++ (textW G b t L ++ (rollW G a (zCopy v p1) ++ (rollW G d u ++ (rollW G (pa 0) p0 ++ (rollW G (pa 1) p1 ++ (rollW G (pa 2) p2 ++ rollW G (pa 3) p3)))))))) H := (z_perm (pn_u1 _ _ _ _ _ _ _ _ _).symm hP)
  have hD : va_D A (headW G o pr (prF pa) a b q (nup S 0 1) ++ (playW G q (d 0) P ++ (textW G b t L ++ (rollW G a (zCopy v p1) ++ (rollW G d u ++ (rollW G (pa 0) p0 ++ (rollW G (pa 1) p1 ++ (rollW G (pa 2) p2 ++ rollW G (pa 3) p3)))))))) := (z_permD (pn_u1 _ _ _ _ _ _ _ _ _).symm hD)
  refine lv_aload_n hx hb dX3_undo_44 rfl (lv_at hl 0 rfl) ?_
  refine va_get (D := G.1) (ci := 3) (v := .int (nI 1)) (C := RX3) (T := TX3) (N := 5) hx hb hts hinX3 hown hKK.1 hP 0 rfl rfl 2 (by decide) fl_160 (fun _ h9 => h9) rfl dX3_undo_45 ?_
  exact z_iret hx hb hr hlk hP hD hS dX3_undo_48 rfl rfl

set_option maxHeartbeats 4000000 in
set_option maxRecDepth 100000 in
theorem c_X3_undo_s2 (l : Launch) (G : ZG) (o pr q : Nat) (a b d : Nat → Nat) (pa : Nat → Nat → Nat) (S P L : Nat → Nat) (t v u : Mem) (p0 p1 p2 p3 : Mem) (h9 : S 0 = 3) : CI l G yX3_undo wsX3_undo (zRm 2 61) [.ref o] (headW G o pr (prF pa) a b q S ++ (playW G q (d 0) P ++ (textW G b t L ++ (rollW G a v ++ (rollW G d u ++ (rollW G (pa 0) p0 ++ (rollW G (pa 1) p1 ++ (rollW G (pa 2) p2 ++ rollW G (pa 3) p3)))))))) (nI 2) (headW G o pr (prF pa) a b q (nup S 0 2) ++ (playW G q (d 0) P ++ (textW G b t L ++ (rollW G a (zCopy v p2) ++ (rollW G d u ++ (rollW G (pa 0) p0 ++ (rollW G (pa 1) p1 ++ (rollW G (pa 2) p2 ++ rollW G (pa 3) p3)))))))) := by
  refine CI.ent (cc := cX3_undo) (maxL := 1) (ty := .int) (own := RX3) (by decide) rfl rfl (Nat.le_of_ble_eq_true rfl) ?_
  intro p ee s m args below meth c A ls F hr hlk hKK hP hD hA hS hl
  obtain ⟨hx, hb, hml, hown, hts⟩ := id F
  have hl : lv_has ls 1 [(0, .ref o)] := hl
  have fl_10 := hts (.fieldLink RX3 10 "NameRolls" "now" "LNameRolls$Roll;") (by decide +kernel)
  have fl_16 := hts (.fieldLink RX3 16 "NameRolls" "past" "[LNameRolls$Roll;") (by decide +kernel)
  have fl_160 := hts (.fieldLink RX3 160 "NameRolls" "states" "I") (by decide +kernel)
  have hinX3 : ∀ w ∈ wsX30, w ∈ wsX3_undo := by decide +kernel
  refine lv_aload_n hx hb dX3_undo_0 rfl (lv_at hl 0 rfl) ?_
  refine va_get (D := G.1) (ci := 3) (v := .int (nI (S 0))) (C := RX3) (T := TX3) (N := 5) hx hb hts hinX3 hown hKK.1 hP 0 rfl rfl 2 (by decide) fl_160 (fun _ h9 => h9) rfl dX3_undo_1 ?_
  refine z_top (v := nI 3) (by rw [h9]) ?_
  refine z_ifNle (tgt := 15) hx hb dX3_undo_4 (by decide) (by omega) (fun c_1 => absurd c_1 (by decide)) (fun c_1 => ?_)
  refine lv_aload_n hx hb dX3_undo_7 rfl (lv_at hl 0 rfl) ?_
  refine va_get (D := G.1) (ci := 3) (v := .int (nI (S 0))) (C := RX3) (T := TX3) (N := 5) hx hb hts hinX3 hown hKK.1 hP 0 rfl rfl 2 (by decide) fl_160 (fun _ h9 => h9) rfl dX3_undo_8 ?_
  refine z_top (v := nI 3) (by rw [h9]) ?_
  refine lv_iconst (v := nI 4) hx hb dX3_undo_11 (by decide) ?_
  refine z_le (tgt := 18) hx hb dX3_undo_12 (by decide) (by omega) (by omega) (fun c_2 => ?_) (fun c_2 => absurd c_2 (by decide))
  refine lv_aload_n hx hb dX3_undo_18 rfl (lv_at hl 0 rfl) ?_
  refine lv_dup hx hb dX3_undo_19 rfl ?_
  refine va_get (D := G.1) (ci := 3) (v := .int (nI (S 0))) (C := RX3) (T := TX3) (N := 5) hx hb hts hinX3 hown hKK.1 hP 0 rfl rfl 2 (by decide) fl_160 (fun _ h9 => h9) rfl dX3_undo_20 ?_
  refine z_top (v := nI 3) (by rw [h9]) ?_
  refine lv_iconst (v := nI 1) hx hb dX3_undo_23 (by decide) ?_
  refine z_sub (v := nI 2) hx hb dX3_undo_24 (pk_sub (by omega)) ?_
  refine z_put (w2 := headW G o pr (prF pa) a b q (nup S 0 2) ++ (playW G q (d 0) P ++ (textW G b t L ++ (rollW G a v ++ (rollW G d u ++ (rollW G (pa 0) p0 ++ (rollW G (pa 1) p1 ++ (rollW G (pa 2) p2 ++ rollW G (pa 3) p3)))))))) hx hb hts hinX3 tyX3 tyX3_ok nmX3 hown hKK hP hD hS 0 (ci := 3) (C := RX3) (T := TX3) (N := 5) rfl rfl 2 (by decide) fl_160 rfl rfl rfl (Nat.le_of_ble_eq_true rfl) rfl dX3_undo_25 (fun H locs hP hD hS => ?_)
  refine lv_aload_n hx hb dX3_undo_28 rfl (lv_at hl 0 rfl) ?_
  refine va_get (D := G.1) (ci := 3) (v := .ref (a 0)) (C := RX3) (T := TX3) (N := 5) hx hb hts hinX3 hown hKK.1 hP 0 rfl rfl 0 (by decide) fl_10 (fun _ h9 => h9) rfl dX3_undo_29 ?_
  refine lv_aload_n hx hb dX3_undo_32 rfl (lv_at hl 0 rfl) ?_
  refine va_get (D := G.1) (ci := 3) (v := .ref pr) (C := RX3) (T := TX3) (N := 5) hx hb hts hinX3 hown hKK.1 hP 0 rfl rfl 1 (by decide) fl_16 (fun _ h9 => h9) rfl dX3_undo_33 ?_
  refine lv_aload_n hx hb dX3_undo_36 rfl (lv_at hl 0 rfl) ?_
  refine va_get (D := G.1) (ci := 3) (v := .int (nI 2)) (C := RX3) (T := TX3) (N := 5) hx hb hts hinX3 hown hKK.1 hP 0 rfl rfl 2 (by decide) fl_160 (fun _ h9 => h9) rfl dX3_undo_37 ?_
  refine z_aald (n := 4) (f := prF pa) (i := 2) (v := pa 2 0) hx hb hKK hP 1 rfl (by decide) (by decide) rfl dX3_undo_40 ?_
  refine z_callVV (As := [.ref (pa 2 0)]) (rest := []) (wr := (headW G o pr (prF pa) a b q (nup S 0 2) ++ (playW G q (d 0) P ++ (textW G b t L ++ (rollW G d u ++ (rollW G (pa 0) p0 ++ (rollW G (pa 1) p1 ++ rollW G (pa 3) p3))))))) (C := RX1) F (c_X1_copyFrom l G a (pa 2) v p2) (cwV 1 hts gX3_undo_X1_copyFrom rfl rfl rfl (by decide +kernel) ⟨Nat.le_of_ble_eq_true rfl, Nat.le_of_ble_eq_true rfl⟩) hKK (z_recv hKK hP (q0 := 5) (ci := 1) rfl rfl) (z_perm (pn_u2 _ _ _ _ _ _ _ _ _) hP) (z_permD (pn_u2 _ _ _ _ _ _ _ _ _) hD) hS hA rfl hl.1 rfl (Nat.le_of_ble_eq_true rfl) ⟨Nat.zero_le _, Nat.zero_le _⟩ dX3_undo_41 (fun H locs hP hD hS => ?_)
  have hP : va_P G.1 vwCl (headW G o pr (prF pa) a b q (nup S 0 2) ++ (playW G q (d 0) P ++ (textW G b t L ++ (rollW G a (zCopy v p2) ++ (rollW G d u ++ (rollW G (pa 0) p0 ++ (rollW G (pa 1) p1 ++ (rollW G (pa 2) p2 ++ rollW G (pa 3) p3)))))))) H := (z_perm (pn_u2 _ _ _ _ _ _ _ _ _).symm hP)
  have hD : va_D A (headW G o pr (prF pa) a b q (nup S 0 2) ++ (playW G q (d 0) P ++ (textW G b t L ++ (rollW G a (zCopy v p2) ++ (rollW G d u ++ (rollW G (pa 0) p0 ++ (rollW G (pa 1) p1 ++ (rollW G (pa 2) p2 ++ rollW G (pa 3) p3)))))))) := (z_permD (pn_u2 _ _ _ _ _ _ _ _ _).symm hD)
  refine lv_aload_n hx hb dX3_undo_44 rfl (lv_at hl 0 rfl) ?_
  refine va_get (D := G.1) (ci := 3) (v := .int (nI 2)) (C := RX3) (T := TX3) (N := 5) hx hb hts hinX3 hown hKK.1 hP 0 rfl rfl 2 (by decide) fl_160 (fun _ h9 => h9) rfl dX3_undo_45 ?_
  exact z_iret hx hb hr hlk hP hD hS dX3_undo_48 rfl rfl

set_option maxHeartbeats 4000000 in
set_option maxRecDepth 100000 in
theorem c_X3_undo_s3 (l : Launch) (G : ZG) (o pr q : Nat) (a b d : Nat → Nat) (pa : Nat → Nat → Nat) (S P L : Nat → Nat) (t v u : Mem) (p0 p1 p2 p3 : Mem) (h9 : S 0 = 4) : CI l G yX3_undo wsX3_undo (zRm 2 61) [.ref o] (headW G o pr (prF pa) a b q S ++ (playW G q (d 0) P ++ (textW G b t L ++ (rollW G a v ++ (rollW G d u ++ (rollW G (pa 0) p0 ++ (rollW G (pa 1) p1 ++ (rollW G (pa 2) p2 ++ rollW G (pa 3) p3)))))))) (nI 3) (headW G o pr (prF pa) a b q (nup S 0 3) ++ (playW G q (d 0) P ++ (textW G b t L ++ (rollW G a (zCopy v p3) ++ (rollW G d u ++ (rollW G (pa 0) p0 ++ (rollW G (pa 1) p1 ++ (rollW G (pa 2) p2 ++ rollW G (pa 3) p3)))))))) := by
  refine CI.ent (cc := cX3_undo) (maxL := 1) (ty := .int) (own := RX3) (by decide) rfl rfl (Nat.le_of_ble_eq_true rfl) ?_
  intro p ee s m args below meth c A ls F hr hlk hKK hP hD hA hS hl
  obtain ⟨hx, hb, hml, hown, hts⟩ := id F
  have hl : lv_has ls 1 [(0, .ref o)] := hl
  have fl_10 := hts (.fieldLink RX3 10 "NameRolls" "now" "LNameRolls$Roll;") (by decide +kernel)
  have fl_16 := hts (.fieldLink RX3 16 "NameRolls" "past" "[LNameRolls$Roll;") (by decide +kernel)
  have fl_160 := hts (.fieldLink RX3 160 "NameRolls" "states" "I") (by decide +kernel)
  have hinX3 : ∀ w ∈ wsX30, w ∈ wsX3_undo := by decide +kernel
  refine lv_aload_n hx hb dX3_undo_0 rfl (lv_at hl 0 rfl) ?_
  refine va_get (D := G.1) (ci := 3) (v := .int (nI (S 0))) (C := RX3) (T := TX3) (N := 5) hx hb hts hinX3 hown hKK.1 hP 0 rfl rfl 2 (by decide) fl_160 (fun _ h9 => h9) rfl dX3_undo_1 ?_
  refine z_top (v := nI 4) (by rw [h9]) ?_
  refine z_ifNle (tgt := 15) hx hb dX3_undo_4 (by decide) (by omega) (fun c_1 => absurd c_1 (by decide)) (fun c_1 => ?_)
  refine lv_aload_n hx hb dX3_undo_7 rfl (lv_at hl 0 rfl) ?_
  refine va_get (D := G.1) (ci := 3) (v := .int (nI (S 0))) (C := RX3) (T := TX3) (N := 5) hx hb hts hinX3 hown hKK.1 hP 0 rfl rfl 2 (by decide) fl_160 (fun _ h9 => h9) rfl dX3_undo_8 ?_
  refine z_top (v := nI 4) (by rw [h9]) ?_
  refine lv_iconst (v := nI 4) hx hb dX3_undo_11 (by decide) ?_
  refine z_le (tgt := 18) hx hb dX3_undo_12 (by decide) (by omega) (by omega) (fun c_2 => ?_) (fun c_2 => absurd c_2 (by decide))
  refine lv_aload_n hx hb dX3_undo_18 rfl (lv_at hl 0 rfl) ?_
  refine lv_dup hx hb dX3_undo_19 rfl ?_
  refine va_get (D := G.1) (ci := 3) (v := .int (nI (S 0))) (C := RX3) (T := TX3) (N := 5) hx hb hts hinX3 hown hKK.1 hP 0 rfl rfl 2 (by decide) fl_160 (fun _ h9 => h9) rfl dX3_undo_20 ?_
  refine z_top (v := nI 4) (by rw [h9]) ?_
  refine lv_iconst (v := nI 1) hx hb dX3_undo_23 (by decide) ?_
  refine z_sub (v := nI 3) hx hb dX3_undo_24 (pk_sub (by omega)) ?_
  refine z_put (w2 := headW G o pr (prF pa) a b q (nup S 0 3) ++ (playW G q (d 0) P ++ (textW G b t L ++ (rollW G a v ++ (rollW G d u ++ (rollW G (pa 0) p0 ++ (rollW G (pa 1) p1 ++ (rollW G (pa 2) p2 ++ rollW G (pa 3) p3)))))))) hx hb hts hinX3 tyX3 tyX3_ok nmX3 hown hKK hP hD hS 0 (ci := 3) (C := RX3) (T := TX3) (N := 5) rfl rfl 2 (by decide) fl_160 rfl rfl rfl (Nat.le_of_ble_eq_true rfl) rfl dX3_undo_25 (fun H locs hP hD hS => ?_)
  refine lv_aload_n hx hb dX3_undo_28 rfl (lv_at hl 0 rfl) ?_
  refine va_get (D := G.1) (ci := 3) (v := .ref (a 0)) (C := RX3) (T := TX3) (N := 5) hx hb hts hinX3 hown hKK.1 hP 0 rfl rfl 0 (by decide) fl_10 (fun _ h9 => h9) rfl dX3_undo_29 ?_
  refine lv_aload_n hx hb dX3_undo_32 rfl (lv_at hl 0 rfl) ?_
  refine va_get (D := G.1) (ci := 3) (v := .ref pr) (C := RX3) (T := TX3) (N := 5) hx hb hts hinX3 hown hKK.1 hP 0 rfl rfl 1 (by decide) fl_16 (fun _ h9 => h9) rfl dX3_undo_33 ?_
  refine lv_aload_n hx hb dX3_undo_36 rfl (lv_at hl 0 rfl) ?_
  refine va_get (D := G.1) (ci := 3) (v := .int (nI 3)) (C := RX3) (T := TX3) (N := 5) hx hb hts hinX3 hown hKK.1 hP 0 rfl rfl 2 (by decide) fl_160 (fun _ h9 => h9) rfl dX3_undo_37 ?_
  refine z_aald (n := 4) (f := prF pa) (i := 3) (v := pa 3 0) hx hb hKK hP 1 rfl (by decide) (by decide) rfl dX3_undo_40 ?_
  refine z_callVV (As := [.ref (pa 3 0)]) (rest := []) (wr := (headW G o pr (prF pa) a b q (nup S 0 3) ++ (playW G q (d 0) P ++ (textW G b t L ++ (rollW G d u ++ (rollW G (pa 0) p0 ++ (rollW G (pa 1) p1 ++ rollW G (pa 2) p2))))))) (C := RX1) F (c_X1_copyFrom l G a (pa 3) v p3) (cwV 1 hts gX3_undo_X1_copyFrom rfl rfl rfl (by decide +kernel) ⟨Nat.le_of_ble_eq_true rfl, Nat.le_of_ble_eq_true rfl⟩) hKK (z_recv hKK hP (q0 := 5) (ci := 1) rfl rfl) (z_perm (pn_u3 _ _ _ _ _ _ _ _ _) hP) (z_permD (pn_u3 _ _ _ _ _ _ _ _ _) hD) hS hA rfl hl.1 rfl (Nat.le_of_ble_eq_true rfl) ⟨Nat.zero_le _, Nat.zero_le _⟩ dX3_undo_41 (fun H locs hP hD hS => ?_)
  have hP : va_P G.1 vwCl (headW G o pr (prF pa) a b q (nup S 0 3) ++ (playW G q (d 0) P ++ (textW G b t L ++ (rollW G a (zCopy v p3) ++ (rollW G d u ++ (rollW G (pa 0) p0 ++ (rollW G (pa 1) p1 ++ (rollW G (pa 2) p2 ++ rollW G (pa 3) p3)))))))) H := (z_perm (pn_u3 _ _ _ _ _ _ _ _ _).symm hP)
  have hD : va_D A (headW G o pr (prF pa) a b q (nup S 0 3) ++ (playW G q (d 0) P ++ (textW G b t L ++ (rollW G a (zCopy v p3) ++ (rollW G d u ++ (rollW G (pa 0) p0 ++ (rollW G (pa 1) p1 ++ (rollW G (pa 2) p2 ++ rollW G (pa 3) p3)))))))) := (z_permD (pn_u3 _ _ _ _ _ _ _ _ _).symm hD)
  refine lv_aload_n hx hb dX3_undo_44 rfl (lv_at hl 0 rfl) ?_
  refine va_get (D := G.1) (ci := 3) (v := .int (nI 3)) (C := RX3) (T := TX3) (N := 5) hx hb hts hinX3 hown hKK.1 hP 0 rfl rfl 2 (by decide) fl_160 (fun _ h9 => h9) rfl dX3_undo_45 ?_
  exact z_iret hx hb hr hlk hP hD hS dX3_undo_48 rfl rfl

theorem c_X3_undo_s (l : Launch) (G : ZG) (o pr q : Nat) (a b d : Nat → Nat) (pa : Nat → Nat → Nat) (S P L : Nat → Nat) (t v u : Mem) (pv : Nat → Mem) (k : Nat) (h9 : S 0 = k + 1) (h4 : k < 4) : CI l G yX3_undo wsX3_undo (zRm 2 61) [.ref o] (nrW G o pr q a b d pa S P L t v u pv) (nI k) (nrW G o pr q a b d pa (nup S 0 k) P L t (zCopy v (pv k)) u pv) := by
  rcases (show k = 3 ∨ k = 2 ∨ k = 1 ∨ k = 0 by omega) with h | h | h | h
  · subst h; exact c_X3_undo_s3 l G o pr q a b d pa S P L t v u (pv 0) (pv 1) (pv 2) (pv 3) h9
  · subst h; exact c_X3_undo_s2 l G o pr q a b d pa S P L t v u (pv 0) (pv 1) (pv 2) (pv 3) h9
  · subst h; exact c_X3_undo_s1 l G o pr q a b d pa S P L t v u (pv 0) (pv 1) (pv 2) (pv 3) h9
  · subst h; exact c_X3_undo_s0 l G o pr q a b d pa S P L t v u (pv 0) (pv 1) (pv 2) (pv 3) h9
