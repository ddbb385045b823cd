abbrev CS : Type := (Nat → Nat → Nat) × (Nat → Nat) × (Nat → Nat) × (Nat → Nat) × Mem × Mem × Mem × (Nat → Mem)
abbrev clW (G : ZG) (o pr q : Nat) (a b d : Nat → Nat) (c : CS) : va_W := nrW G o pr q a b d c.1 c.2.1 c.2.2.1 c.2.2.2.1 c.2.2.2.2.1 c.2.2.2.2.2.1 c.2.2.2.2.2.2.1 c.2.2.2.2.2.2.2
def Rel (B : Nat) (S L : Nat → Nat) (t v : Mem) (pv : Nat → Mem) (mv : Mem) (my : Nat → Nat) : Prop :=
  (∃ e, RR v (mv 0) e B) ∧ (S 0 ≤ 4 ∧ my 0 = S 0) ∧ (∀ j, j < S 0 → ∃ e, RR (pv j) (segP (mv 1) j) e B) ∧ (L 0 ≤ 60 ∧ my 1 = L 0) ∧ okTx (t 0) ∧ okTx (mv 3) ∧ (∀ j, j < L 0 → t 0 j = mv 3 j) ∧ okDg mv
def RelC (B : Nat) (c : CS) (m : Mem × (Nat → Nat)) : Prop := Rel B c.2.1 c.2.2.2.1 c.2.2.2.2.1 c.2.2.2.2.2.1 c.2.2.2.2.2.2.2 m.1 m.2
theorem RR_cong {v : Mem} {f f' : Nat → Int32} {e B : Nat} (h : RR v f e B) (hf : ∀ x, x < 511 → f' x = f x) : RR v f' e B := ⟨h.1, h.2.1, RE_cong h.2.2 hf⟩
section RL
variable {B : Nat} {S L my my' : Nat → Nat} {t v mv mv' w : Mem} {pv : Nat → Mem}
theorem rel_keep (h : Rel B S L t v pv mv my) (h0 : ∀ x, x < 511 → mv' 0 x = mv 0 x) (h1 : mv' 1 = mv 1) (h3 : mv' 3 = mv 3) (h6 : okDg mv') (y0 : my' 0 = my 0) (y1 : my' 1 = my 1) : Rel (B + 61) S L t v pv mv' my' := by
  obtain ⟨⟨e, a1⟩, ⟨a2, a3⟩, a4, ⟨a5, a6⟩, a7, a8, a9, a10⟩ := h
  refine ⟨⟨e, RR_cong (RR_mono a1 (by omega)) h0⟩, ⟨a2, y0.trans a3⟩, fun j hj => ?_, ⟨a5, y1.trans a6⟩, a7, by rw [h3]; exact a8, fun j hj => by rw [h3]; exact a9 j hj, h6⟩
  obtain ⟨e2, k⟩ := a4 j hj
  rw [h1]
  exact ⟨e2, RR_mono k (by omega)⟩
theorem rel_same (h : Rel B S L t v pv mv my) : Rel (B + 61) S L t v pv mv my := rel_keep h (fun _ _ => rfl) rfl rfl h.2.2.2.2.2.2.2 rfl rfl
theorem okDg_of {u u' : Mem} (h : okDg u) (h6 : u' 6 = u 6) : okDg u' := by
  obtain ⟨d0, d1, a, b, c, d⟩ := h
  exact ⟨d0, d1, a, b, by rw [h6]; exact c, by rw [h6]; exact d⟩
theorem seg_lo {p f : Nat → Int32} {s j x : Nat} (h : s < 4) (hj : j < s) (hx : x < 511) : segP (svR p f s) j x = segP p j x := by
  show svR p f s (511 * j + x) = _
  rw [svR, if_neg (by omega), fb_put_out (by omega)]
  rfl
theorem seg_at {p f : Nat → Int32} {s x : Nat} (h : s < 4) (hx : x < 511) : segP (svR p f s) s x = f x := by
  show svR p f s (511 * s + x) = _
  rw [svR, if_neg (by omega), fb_put_in (by omega) (by omega)]
  congr 1
  omega
theorem seg_4 {p f : Nat → Int32} {j x : Nat} (hj : j < 3) (hx : x < 511) : segP (svR p f 4) j x = segP p (j + 1) x := by
  show svR p f 4 (511 * j + x) = _
  rw [svR, if_pos rfl, fb_put_out (by omega), zMap_lo (by omega)]
  show p (511 * j + x + 511) = p (511 * (j + 1) + x)
  congr 1
  omega
theorem seg_43 {p f : Nat → Int32} {x : Nat} (hx : x < 511) : segP (svR p f 4) 3 x = f x := by
  show svR p f 4 (511 * 3 + x) = _
  rw [svR, if_pos rfl, fb_put_in (by omega) (by omega), show 511 * 3 + x - 1533 = x by omega]
theorem rel_rec {F f0 : Nat → Int32} {e' : Nat} (h : Rel B S L t v pv mv my) (hw : RR w F e' (B + 61)) (h0 : mv' 0 = F) (hf0 : ∀ x, x < 511 → f0 x = mv 0 x) (h1 : mv' 1 = svR (mv 1) f0 (S 0)) (h3 : mv' 3 = mv 3) (h6 : okDg mv') (y0 : my' 0 = svN (S 0)) (y1 : my' 1 = my 1) : Rel (B + 61) (nup S 0 (svN (S 0))) L t w (rcV (S 0) pv v) mv' my' := by
  obtain ⟨⟨e, a1⟩, ⟨a2, a3⟩, a4, ⟨a5, a6⟩, a7, a8, a9, a10⟩ := h
  have a1 := RR_mono a1 (show B ≤ B + 61 by omega)
  refine ⟨⟨e', by rw [h0]; exact hw⟩, ⟨?_, y0⟩, fun j hj => ?_, ⟨a5, y1.trans a6⟩, a7, by rw [h3]; exact a8, fun j hj => by rw [h3]; exact a9 j hj, h6⟩
  · show svN (S 0) ≤ 4
    unfold svN
    split <;> omega
  · have hj : j < svN (S 0) := hj
    rw [h1]
    by_cases h4 : S 0 = 4
    · rw [h4] at hj a4 ⊢
      rw [rcV, if_pos rfl]
      have hj : j < 4 := hj
      rcases (show j = 0 ∨ j = 1 ∨ j = 2 ∨ j = 3 by omega) with k | k | k | k
      · subst k
        obtain ⟨e2, k⟩ := a4 1 (by omega)
        exact ⟨e2, RR_cong (RR_mono k (by omega)) (fun x hx => seg_4 (by omega) hx)⟩
      · subst k
        obtain ⟨e2, k⟩ := a4 2 (by omega)
        exact ⟨e2, RR_cong (RR_mono k (by omega)) (fun x hx => seg_4 (by omega) hx)⟩
      · subst k
        obtain ⟨e2, k⟩ := a4 3 (by omega)
        exact ⟨e2, RR_cong (RR_mono k (by omega)) (fun x hx => seg_4 (by omega) hx)⟩
      · subst k
        exact ⟨e, RR_cong (RR_same (copy_same _ _) a1) (fun x hx => (seg_43 hx).trans (hf0 x hx))⟩
    · rw [rcV, if_neg h4]
      rw [svN, if_neg h4] at hj
      by_cases hjs : j = S 0
      · subst hjs
        show ∃ e, RR (if S 0 = S 0 then zCopy (pv (S 0)) v else pv (S 0)) _ e _
        rw [if_pos rfl]
        exact ⟨e, RR_cong (RR_same (copy_same _ _) a1) (fun x hx => (seg_at (by omega) hx).trans (hf0 x hx))⟩
      · show ∃ e, RR (if j = S 0 then zCopy (pv j) v else pv j) _ e _
        rw [if_neg hjs]
        obtain ⟨e2, k⟩ := a4 j (by omega)
        exact ⟨e2, RR_cong (RR_mono k (by omega)) (fun x hx => seg_lo (by omega) (by omega) hx)⟩
theorem rel_sg (h : Rel B S L t v pv mv my) : sgT (t 0) (L 0) = sgT (mv 3) (L 0) := by
  funext k
  unfold sgT
  by_cases hk : k < L 0
  · rw [if_pos hk, if_pos hk, h.2.2.2.2.2.2.1 k hk]
  · rw [if_neg hk, if_neg hk]
theorem rel_okR (h : Rel B S L t v pv mv my) : okR v B := by
  obtain ⟨⟨e, a1⟩, -⟩ := h
  exact okR_rr a1
end RL
theorem tag_eq {v : Mem} {f : Nat → Int32} {e B n : Nat} (h : RR v f e B) (hn : n < 40) : nI 1000000 * v 12 0 + nI 100 * v 2 n + nI n = mTag f n := by
  rw [mTag, h.2.2.1.1, h.1.1.1, (h.2.2.2.1 n hn).2.2]
theorem zWi_bel {x : Int32} {n : Nat} (hn : n < 2 ^ 20) : zWi x 0 n = zBel x (n + 1) := by
  unfold zWi zBel
  have h1 : (¬ x < nI 0) ↔ (¬ x < 0) := Iff.rfl
  have h2 : (¬ nI n < x) ↔ x < nI (n + 1) := by
    rw [Int32.lt_iff_toInt_lt, Int32.lt_iff_toInt_lt, nI_toInt (by omega), nI_toInt (by omega)]
    omega
  rw [decide_eq_decide.mpr h1, decide_eq_decide.mpr h2]
/-- one call on both: the answer is the same, and they stay together -/
def StepI (l : Launch) (G : ZG) (yC : MethodName) (wsC : List Cond) (rmC : Room) (yM : MethodName) (wsM : List Cond) (rmM : Room) (As : List Value) (o pr q : Nat) (a b d : Nat → Nat) (pa : Nat → Nat → Nat) (S P L : Nat → Nat) (t v u : Mem) (pv : Nat → Mem) (ma : Nat → Nat) (mv : Mem) (my : Nat → Nat) (B : Nat) : Prop :=
  ∃ (R : Int32) (Q : CS → Prop), CIE l G yC wsC rmC (.ref o :: As) (nrW G o pr q a b d pa S P L t v u pv) (S := CS) (fun r c => r = R ∧ Q c) (fun c => clW G o pr q a b d c) ∧
    CIE l G yM wsM rmM (.ref (ma 0) :: As) (modW G ma mv my) (S := Mem × (Nat → Nat)) (fun r m => r = R ∧ ∀ c, Q c → RelC (B + 61) c m) (fun m => modW G ma m.1 m.2)
section MK
variable {l : Launch} {G : ZG} {yC : MethodName} {wsC : List Cond} {rmC : Room} {yM : MethodName} {wsM : List Cond} {rmM : Room} {As : List Value} {o pr q : Nat} {a b d : Nat → Nat} {pa : Nat → Nat → Nat} {S P L : Nat → Nat} {t v u : Mem} {pv : Nat → Mem} {ma : Nat → Nat} {mv : Mem} {my : Nat → Nat} {B : Nat} {R R' : Int32}
theorem step_mk (c : CS) (m : Mem × (Nat → Nat)) (hC : CI l G yC wsC rmC (.ref o :: As) (nrW G o pr q a b d pa S P L t v u pv) R (clW G o pr q a b d c)) (hM : CI l G yM wsM rmM (.ref (ma 0) :: As) (modW G ma mv my) R' (modW G ma m.1 m.2)) (he : R = R') (hr : RelC (B + 61) c m) : StepI l G yC wsC rmC yM wsM rmM As o pr q a b d pa S P L t v u pv ma mv my B := by
  subst he
  exact ⟨R, fun x => x = c, hC.toE c rfl ⟨rfl, rfl⟩, hM.toE m rfl ⟨rfl, fun x hx => by rw [hx]; exact hr⟩⟩
/-- the class's end is fixed, the reference's is told by a property -/
theorem step_mE {T : Type} {post : Int32 → T → Prop} {wE : T → va_W} (c : CS) (hC : CI l G yC wsC rmC (.ref o :: As) (nrW G o pr q a b d pa S P L t v u pv) R (clW G o pr q a b d c)) (hM : CIE l G yM wsM rmM (.ref (ma 0) :: As) (modW G ma mv my) (S := T) post wE) (hm : ∀ r z, post r z → r = R ∧ ∃ m : Mem × (Nat → Nat), modW G ma m.1 m.2 = wE z ∧ RelC (B + 61) c m) : StepI l G yC wsC rmC yM wsM rmM As o pr q a b d pa S P L t v u pv ma mv my B := by
  refine ⟨R, fun x => x = c, hC.toE c rfl ⟨rfl, rfl⟩, hM.mono (fun r z hz => ?_)⟩
  obtain ⟨h1, m, h2, h3⟩ := hm r z hz
  exact ⟨m, h2, h1, fun x hx => by rw [hx]; exact h3⟩
end MK
