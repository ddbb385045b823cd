/-! the state of the object, and one change of it -/
def Inv (B : Nat) (S L : Nat → Nat) (t v : Mem) (pv : Nat → Mem) : Prop :=
  (∃ e, okX v e B) ∧ S 0 ≤ 4 ∧ (∀ j, j < S 0 → ∃ e, okX (pv j) e B) ∧ L 0 ≤ 60 ∧ okTx (t 0)
def InvC (B : Nat) (c : CS) : Prop := Inv B c.2.1 c.2.2.2.1 c.2.2.2.2.1 c.2.2.2.2.2.1 c.2.2.2.2.2.2.2
def erB (r : Int32) : Bool := decide (¬ -1000001 < r) && decide (¬ r < -1000005)
def goP (B : Nat) (c : CS) (r : Int32) (c' : CS) : Prop :=
  InvC (B + 61) c' ∧ ((erB r = true ∧ same c'.2.2.2.2.2.1 c.2.2.2.2.2.1 ∧ c'.2.1 0 = c.2.1 0) ∨ (erB r = false ∧ ¬ r = nI 1073741824 ∧ c'.2.1 0 = svN (c.2.1 0) ∧ same (c'.2.2.2.2.2.2.2 (svN (c.2.1 0) - 1)) c.2.2.2.2.2.1))
theorem Inv_mono {B B' : Nat} {S L : Nat → Nat} {t v : Mem} {pv : Nat → Mem} (h : Inv B S L t v pv) (hB : B ≤ B') : Inv B' S L t v pv := by
  obtain ⟨⟨e, a⟩, b, c, d, f⟩ := h
  refine ⟨⟨e, okX_mono a hB⟩, b, fun j hj => ?_, d, f⟩
  obtain ⟨e2, k⟩ := c j hj
  exact ⟨e2, okX_mono k hB⟩
theorem svN_le {s : Nat} (h : s ≤ 4) : svN s ≤ 4 := by
  unfold svN
  split <;> omega
theorem rcV_last {s : Nat} (pv : Nat → Mem) (v : Mem) (h : s ≤ 4) : same (rcV s pv v (svN s - 1)) v := by
  by_cases h4 : s = 4
  · subst h4
    exact copy_same (pv 0) v
  · rw [rcV, if_neg h4, svN, if_neg h4]
    show same (if s + 1 - 1 = s then zCopy (pv (s + 1 - 1)) v else pv (s + 1 - 1)) v
    rw [if_pos (by omega)]
    exact copy_same _ v
theorem inv_rec {B : Nat} {S L : Nat → Nat} {t v w : Mem} {pv : Nat → Mem} (h : Inv B S L t v pv) {e' : Nat} (hw : okX w e' (B + 61)) : Inv (B + 61) (nup S 0 (svN (S 0))) L t w (rcV (S 0) pv v) := by
  obtain ⟨⟨e, a⟩, b, c, d, f⟩ := h
  refine ⟨⟨e', hw⟩, svN_le b, fun j hj => ?_, d, f⟩
  have hj : j < svN (S 0) := hj
  have hl := rcV_last pv v b
  by_cases hjl : j = svN (S 0) - 1
  · subst hjl
    exact ⟨e, okX_same hl (okX_mono a (by omega))⟩
  · by_cases h4 : S 0 = 4
    · rw [h4] at hj hjl c ⊢
      rw [show svN 4 = 4 from rfl] at hj hjl
      rw [rcV, if_pos rfl]
      rcases (show j = 0 ∨ j = 1 ∨ j = 2 by omega) with k | k | k
      · subst k
        obtain ⟨e2, k⟩ := c 1 (by omega)
        exact ⟨e2, okX_mono k (by omega)⟩
      · subst k
        obtain ⟨e2, k⟩ := c 2 (by omega)
        exact ⟨e2, okX_mono k (by omega)⟩
      · subst k
        obtain ⟨e2, k⟩ := c 3 (by omega)
        exact ⟨e2, okX_mono k (by omega)⟩
    · rw [svN, if_neg h4] at hj hjl
      rw [rcV, if_neg h4]
      show ∃ e, okX (if j = S 0 then zCopy (pv j) v else pv j) e _
      rw [if_neg (by omega)]
      obtain ⟨e2, k⟩ := c j (by omega)
      exact ⟨e2, okX_mono k (by omega)⟩
theorem er_nI {t : Nat} (h : t < 2 ^ 31) : erB (nI t) = false := by
  unfold erB
  have h1 : -1000001 < nI t := by
    rw [Int32.lt_iff_toInt_lt, nI_toInt h]
    have : (-1000001 : Int32).toInt = -1000001 := by decide
    omega
  rw [decide_eq_false (fun z => z h1)]
  rfl
theorem ne_big {t : Nat} (h : t < 1073741824) : ¬ nI t = nI 1073741824 := fun z => by
  have := nI_inj (by omega) (by omega) z
  omega
def StepC (l : Launch) (G : ZG) (y : MethodName) (ws : List Cond) (rm : Room) (As : List Value) (o pr q : Nat) (a b d : Nat → Nat) (c : CS) (B : Nat) : Prop :=
  CIE l G y ws rm (.ref o :: As) (clW G o pr q a b d c) (S := CS) (fun r c' => goP B c r c') (fun c' => clW G o pr q a b d c')
section SC
variable {l : Launch} {G : ZG} {y : MethodName} {ws : List Cond} {rm : Room} {As : List Value} {o pr q : Nat} {a b d : Nat → Nat} {pa : Nat → Nat → Nat} {S P L : Nat → Nat} {t v u w : Mem} {pv : Nat → Mem} {B : Nat} {R : Int32}
theorem sc_err (h : Inv B S L t v pv) (hr : erB R = true) (hC : CI l G y ws rm (.ref o :: As) (nrW G o pr q a b d pa S P L t v u pv) R (nrW G o pr q a b d pa S P L t v u pv)) : StepC l G y ws rm As o pr q a b d (pa, S, P, L, t, v, u, pv) B :=
  hC.toE (pa, S, P, L, t, v, u, pv) rfl ⟨Inv_mono h (by omega), Or.inl ⟨hr, same_refl v, rfl⟩⟩
theorem sc_ok {k e' : Nat} (h : Inv B S L t v pv) (hw : okX w e' (B + 61)) (hk : k < 1073741824) (hR : R = nI k) (hC : CI l G y ws rm (.ref o :: As) (nrW G o pr q a b d pa S P L t v u pv) R (nrW G o pr q a b d (rcA (S 0) pa) (nup S 0 (svN (S 0))) P L t w u (rcV (S 0) pv v))) : StepC l G y ws rm As o pr q a b d (pa, S, P, L, t, v, u, pv) B := by
  subst hR
  exact hC.toE (rcA (S 0) pa, nup S 0 (svN (S 0)), P, L, t, w, u, rcV (S 0) pv v) rfl ⟨inv_rec h hw, Or.inr ⟨er_nI (by omega), ne_big hk, rfl, rcV_last pv v h.2.1⟩⟩
end SC
theorem okX_us {v : Mem} {e B n : Nat} (h : okX v e B) (hn : n < 40) : v 1 n = nI (usK v n) ∧ usK v n < 1073741824 := by
  obtain ⟨a, b, -⟩ := h.1.2.2.2.1 n hn
  exact ⟨a, by omega⟩
theorem okTx_upd {t : Nat → Int32} {i ch : Nat} (h : okTx t) (hc : ch < 65536) : okTx (upd t i (nI ch)) := by
  intro j hj
  unfold upd
  by_cases q : j = i
  · rw [if_pos q, nI_clamp (by omega)]
    exact ⟨rfl, hc⟩
  · rw [if_neg q]
    exact h j hj
theorem mx_7 {v : Mem} {e B : Nat} (h : okX v e B) : okX v e (B + 61) := okX_mono h (by omega)

set_option maxHeartbeats 4000000 in
theorem sc_acquire (l : Launch) (G : ZG) (o pr q : Nat) (a b d : Nat → Nat) (pa : Nat → Nat → Nat) (S P L : Nat → Nat) (t v u : Mem) (pv : Nat → Mem) (B : Nat) (h : Inv B S L t v pv) (hB : B < 9900) (x : Int32) : StepC l G yX3_acquire wsX3_acquire (zRm 3 83) [.int x] o pr q a b d (pa, S, P, L, t, v, u, pv) B := by
  obtain ⟨⟨e, hX⟩, h4, hpast, hL6, hTx⟩ := id h
  have hv := hX.1
  have hC := hX.2.1
  obtain ⟨he, he9⟩ := hv.1
  have hN : okN v := nm_ok hv
  have hR := rr_ex hv hC
  rcases z_b (zName x) with h9 | h9
  · rcases zNum_or (v 0) x with hn | ⟨n, hn, hne, hx0⟩
    · rcases zNum_or (v 0) (nI 0) with h2 | ⟨n, hn2, h2, hn0⟩
      · exact sc_err h (by decide) (c_X3_acquire_lim l G o pr q a b d pa S P L t v u pv x h9 (c_X1_hasRoomFor_no l G a v x hn h2))
      · have hop := okX_mono (ox_new hX h9 hn hn2 hn0) (show B + 1 ≤ B + 61 by omega)
        exact sc_ok h hop (by have := tgK_lt hop.1 (by omega) hn2; omega) (tag_is hop.1 (by omega) hn2) (c_X3_acquire_ok l G o pr q a b d pa S P L t v u pv x n _ h9 h4 (c_X1_hasRoomFor_new l G a v x n hn hn2 h2) hn2 (c_X1_enter_new l G a v x n hn hn2 h2))
    · have h0 : ¬ v 0 n = 0 := by rw [hx0]; exact name_ne h9
      by_cases hu : nI 999 ≤ v 1 n
      · exact sc_err h (by decide) (c_X3_acquire_lim l G o pr q a b d pa S P L t v u pv x h9 (by have := c_X1_hasRoomFor_old l G a v x n hn hne; rw [decide_eq_false (fun z => z hu)] at this; exact this))
      · have hop := okX_mono (ox_use hX hn h0 ((us_room hv hn).mp hu)) (show B ≤ B + 61 by omega)
        exact sc_ok h hop (by have := tgK_lt hop.1 (by omega) hn; omega) (tag_is hop.1 (by omega) hn) (c_X3_acquire_ok l G o pr q a b d pa S P L t v u pv x n _ h9 h4 (by have := c_X1_hasRoomFor_old l G a v x n hn hne; rw [decide_eq_true hu] at this; exact this) hn (c_X1_enter_old l G a v x n hn hne))
  · exact sc_err h (by decide) (c_X3_acquire_bad l G o pr q a b d pa S P L t v u pv x h9)

set_option maxHeartbeats 4000000 in
theorem sc_use (l : Launch) (G : ZG) (o pr q : Nat) (a b d : Nat → Nat) (pa : Nat → Nat → Nat) (S P L : Nat → Nat) (t v u : Mem) (pv : Nat → Mem) (B : Nat) (h : Inv B S L t v pv) (hB : B < 9900) (x : Int32) : StepC l G yX3_use wsX3_use (zRm 3 83) [.int x] o pr q a b d (pa, S, P, L, t, v, u, pv) B := by
  obtain ⟨⟨e, hX⟩, h4, hpast, hL6, hTx⟩ := id h
  have hv := hX.1
  have hC := hX.2.1
  obtain ⟨he, he9⟩ := hv.1
  have hN : okN v := nm_ok hv
  have hR := rr_ex hv hC
  have hst := c_X1_standing l G a v x e he he9
  rcases sta_cases hv hC (by omega) x with ⟨n, hn, hz, h0⟩ | ⟨k, hk1, hk4, hz⟩
  · rw [hz] at hst
    have hcal := c_X1_hasRoomForUser l G a v n hn
    by_cases hu : nI 999 ≤ v 1 n
    · rw [decide_eq_false (fun z => z hu)] at hcal
      exact sc_err h (by decide) (c_X3_use_lim l G o pr q a b d pa S P L t v u pv x n hst hn hcal)
    · rw [decide_eq_true hu] at hcal
      have hop := okX_mono (ox_use hX hn h0 ((us_room hv hn).mp hu)) (show B ≤ B + 61 by omega)
      exact sc_ok h hop (okX_us hop hn).2 ((mst_at _ _ _ _).symm.trans (okX_us hop hn).1) (c_X3_use_ok l G o pr q a b d pa S P L t v u pv x n _ _ hst hn h4 hcal (c_X1_addUser l G a v n hn))
  · rw [hz] at hst
    exact sc_err h (by decide) (c_X3_use_st l G o pr q a b d pa S P L t v u pv x _ hst (neg_k hk1 hk4).1)

set_option maxHeartbeats 4000000 in
theorem sc_release (l : Launch) (G : ZG) (o pr q : Nat) (a b d : Nat → Nat) (pa : Nat → Nat → Nat) (S P L : Nat → Nat) (t v u : Mem) (pv : Nat → Mem) (B : Nat) (h : Inv B S L t v pv) (hB : B < 9900) (x : Int32) : StepC l G yX3_release wsX3_release (zRm 3 83) [.int x] o pr q a b d (pa, S, P, L, t, v, u, pv) B := by
  obtain ⟨⟨e, hX⟩, h4, hpast, hL6, hTx⟩ := id h
  have hv := hX.1
  have hC := hX.2.1
  obtain ⟨he, he9⟩ := hv.1
  have hN : okN v := nm_ok hv
  have hR := rr_ex hv hC
  have hst := c_X1_standing l G a v x e he he9
  rcases sta_cases hv hC (by omega) x with ⟨n, hn, hz, h0⟩ | ⟨k, hk1, hk4, hz⟩
  · rw [hz] at hst
    have hcal := c_X1_hasFreeUser l G a v n hn
    by_cases hu : v 1 n ≤ nI (zCells (v 3) (nI n))
    · rw [decide_eq_false (fun z => z hu)] at hcal
      exact sc_err h (by decide) (c_X3_release_lim l G o pr q a b d pa S P L t v u pv x n hst hn hcal)
    · rw [decide_eq_true hu] at hcal
      have hfr := (rr_free hR hn).mp hu
      have hop := okX_mono (ox_give hX hn hfr) (show B + 1 ≤ B + 61 by omega)
      obtain ⟨a1, b1, -⟩ := hv.2.2.2.1 n hn
      exact sc_ok (k := usK v n - 1) h hop (by omega) (by rw [a1, pk_sub (by omega)]) (c_X3_release_ok l G o pr q a b d pa S P L t v u pv x n _ _ hst hn h4 hcal (c_X1_giveBack l G a v n hn (us_pos hv hn (by omega))))
  · rw [hz] at hst
    exact sc_err h (by decide) (c_X3_release_st l G o pr q a b d pa S P L t v u pv x _ hst (neg_k hk1 hk4).1)

set_option maxHeartbeats 4000000 in
theorem sc_put (l : Launch) (G : ZG) (o pr q : Nat) (a b d : Nat → Nat) (pa : Nat → Nat → Nat) (S P L : Nat → Nat) (t v u : Mem) (pv : Nat → Mem) (B : Nat) (h : Inv B S L t v pv) (hB : B < 9900) (x y x0 : Int32) : StepC l G yX3_put wsX3_put (zRm 3 83) [.int x, .int y, .int x0] o pr q a b d (pa, S, P, L, t, v, u, pv) B := by
  obtain ⟨⟨e, hX⟩, h4, hpast, hL6, hTx⟩ := id h
  have hv := hX.1
  have hC := hX.2.1
  obtain ⟨he, he9⟩ := hv.1
  have hN : okN v := nm_ok hv
  have hR := rr_ex hv hC
  rcases z_b (zBel x 3 && zBel y 6) with h9 | h9
  · rw [Bool.and_eq_true] at h9
    obtain ⟨tb, htb, rfl⟩ := zBel_of (by decide) h9.1
    obtain ⟨cl, hcl, rfl⟩ := zBel_of (by decide) h9.2
    have hix : tb * 6 + cl = 6 * tb + cl := by omega
    have hi : 6 * tb + cl < 18 := by omega
    have hst := c_X1_standing l G a v x0 e he he9
    rcases sta_cases hv hC (by omega) x0 with ⟨n, hn, hz, h0⟩ | ⟨k, hk1, hk4, hz⟩
    · rw [hz] at hst
      have hcal := c_X1_hasRoomForUser l G a v n hn
      by_cases hu : nI 999 ≤ v 1 n
      · rw [decide_eq_false (fun z => z hu)] at hcal
        exact sc_err h (by decide) (c_X3_put_lim l G o pr q a b d pa S P L t v u pv tb cl x0 n htb hcl hst hn hcal)
      · rw [decide_eq_true hu] at hcal
        have hro := (us_room hv hn).mp hu
        rcases hv.2.2.2.2.1 (6 * tb + cl) hi with z | ⟨oc, ho, z⟩
        · have hop := okX_mono (ox_fillE hX hi hn h0 hro z) (show B ≤ B + 61 by omega)
          exact sc_ok h hop (okX_us hop hn).2 (((mst_at v 1 n _).symm.trans rfl).trans (okX_us hop hn).1) (c_X3_put_ok l G o pr q a b d pa S P L t v u pv tb cl x0 n _ _ htb hcl hst hn h4 hcal (by rw [hix]; exact c_X1_fillCell_e l G a v _ n hi hn z))
        · have hop := okX_mono (ox_fillO hX hi hn ho h0 hro z) (show B + 1 ≤ B + 61 by omega)
          exact sc_ok h hop (okX_us hop hn).2 (okX_us hop hn).1 (c_X3_put_ok l G o pr q a b d pa S P L t v u pv tb cl x0 n _ _ htb hcl hst hn h4 hcal (by rw [hix]; exact c_X1_fillCell_o l G a v _ n oc hi hn ho z (op_fillO hR hi hn ho h0 hro z).2.1))
    · rw [hz] at hst
      exact sc_err h (by decide) (c_X3_put_st l G o pr q a b d pa S P L t v u pv tb cl x0 _ htb hcl hst (neg_k hk1 hk4).1)
  · exact sc_err h (by decide) (c_X3_put_bad l G o pr q a b d pa S P L t v u pv x y x0 h9)

set_option maxHeartbeats 4000000 in
theorem sc_clear (l : Launch) (G : ZG) (o pr q : Nat) (a b d : Nat → Nat) (pa : Nat → Nat → Nat) (S P L : Nat → Nat) (t v u : Mem) (pv : Nat → Mem) (B : Nat) (h : Inv B S L t v pv) (hB : B < 9900) (x y : Int32) : StepC l G yX3_clear wsX3_clear (zRm 3 83) [.int x, .int y] o pr q a b d (pa, S, P, L, t, v, u, pv) B := by
  obtain ⟨⟨e, hX⟩, h4, hpast, hL6, hTx⟩ := id h
  have hv := hX.1
  have hC := hX.2.1
  obtain ⟨he, he9⟩ := hv.1
  have hN : okN v := nm_ok hv
  have hR := rr_ex hv hC
  rcases z_b (zBel x 3 && zBel y 6) with h9 | h9
  · rw [Bool.and_eq_true] at h9
    obtain ⟨tb, htb, rfl⟩ := zBel_of (by decide) h9.1
    obtain ⟨cl, hcl, rfl⟩ := zBel_of (by decide) h9.2
    have hix : tb * 6 + cl = 6 * tb + cl := by omega
    have hi : 6 * tb + cl < 18 := by omega
    rcases hv.2.2.2.2.1 (6 * tb + cl) hi with z | ⟨oc, ho, z⟩
    · exact sc_err h (by decide) (c_X3_clear_no l G o pr q a b d pa S P L t v u pv tb cl htb hcl (by rw [hix]; exact z))
    · have hop := okX_mono (ox_clear hX hi ho z) (show B + 1 ≤ B + 61 by omega)
      obtain ⟨a1, b1, c1⟩ := hv.2.2.2.1 oc ho
      have hu1 : 0 < usK v oc := Nat.pos_of_ne_zero (fun y => cells_named hv hC hi ho z (c1.mpr y))
      exact sc_ok (k := usK v oc - 1) (R := v 1 oc - nI 1) h hop (by omega) (by rw [a1, pk_sub (by omega)]) (c_X3_clear_ok l G o pr q a b d pa S P L t v u pv tb cl oc _ _ htb hcl (by rw [hix]; exact z) ho h4 (by rw [hix]; exact c_X1_emptyCell l G a v _ oc hi ho z (op_clear hR hi ho z).2))
  · exact sc_err h (by decide) (c_X3_clear_bad l G o pr q a b d pa S P L t v u pv x y h9)

set_option maxHeartbeats 4000000 in
theorem sc_compact (l : Launch) (G : ZG) (o pr q : Nat) (a b d : Nat → Nat) (pa : Nat → Nat → Nat) (S P L : Nat → Nat) (t v u : Mem) (pv : Nat → Mem) (B : Nat) (h : Inv B S L t v pv) (hB : B < 9900) (x : Int32) : StepC l G yX3_compact wsX3_compact (zRm 4 95) [.int x] o pr q a b d (pa, S, P, L, t, v, u, pv) B := by
  obtain ⟨⟨e, hX⟩, h4, hpast, hL6, hTx⟩ := id h
  have hv := hX.1
  have hC := hX.2.1
  obtain ⟨he, he9⟩ := hv.1
  have hN : okN v := nm_ok hv
  have hR := rr_ex hv hC
  rcases z_b (zBel x 3) with h9 | h9
  · obtain ⟨ρ, hρ, rfl⟩ := zBel_of (by decide) h9
    have hcal := c_X1_hasNextEpoch l G a v e he he9
    by_cases h99 : e < 999
    · rw [decide_eq_true h99] at hcal
      have hop := okX_mono (ox_anew (ρ := ρ) hX h99) (show B + 1 ≤ B + 61 by omega)
      exact sc_ok h hop (by have := fb_ct_le (pMv v ρ) 40; omega) rfl (c_X3_compact_ok l G o pr q a b d pa S P L t v u pv ρ _ _ hρ h4 hcal (c_X1_giveAnew l G a v ρ e (by omega) hN he he9))
    · rw [decide_eq_false h99] at hcal
      exact sc_err h (by decide) (c_X3_compact_lim l G o pr q a b d pa S P L t v u pv ρ hρ hcal)
  · exact sc_err h (by decide) (c_X3_compact_bad l G o pr q a b d pa S P L t v u pv x h9)

/-- a text's run on the roll as it is -/
def xR (c : CS) : Nat × Nat × Nat × Nat × Mem := xRun (sgT (c.2.2.2.2.1 0) (c.2.2.2.1 0)) (c.2.2.2.1 0) 61 0 0 c.2.2.2.2.2.1
section XQ
variable (l : Launch) (G : ZG) (o pr q : Nat) (a b d : Nat → Nat) (pa : Nat → Nat → Nat) (S P L : Nat → Nat) (t v u : Mem) (pv : Nat → Mem) (B : Nat)
theorem xr_same (h : Inv B S L t v pv) : (xRun (sgT (t 0) (L 0)) (L 0) 61 0 0 (zCopy u v)).1 = (xR (pa, S, P, L, t, v, u, pv)).1 ∧ (xRun (sgT (t 0) (L 0)) (L 0) 61 0 0 (zCopy u v)).2.1 = (xR (pa, S, P, L, t, v, u, pv)).2.1 ∧ (∀ k, fltR (xRun (sgT (t 0) (L 0)) (L 0) 61 0 0 (zCopy u v)) k = fltR (xR (pa, S, P, L, t, v, u, pv)) k) ∧ ∃ e, okX (xRun (sgT (t 0) (L 0)) (L 0) 61 0 0 (zCopy u v)).2.2.2.2 e (B + 61) := by
  obtain ⟨⟨e, hX⟩, h4, hpast, hL6, hTx⟩ := id h
  obtain ⟨⟨k1, k2, k3, k4⟩, k5, e', k6⟩ := xRun_same (sg := sgT (t 0) (L 0)) (L := L 0) 61 0 0 (zCopy u v) v e B hX (copy_same u v)
  refine ⟨k1, k2, fun k => ?_, e', okX_same k5 k6⟩
  unfold fltR
  rw [k2, k3, k4]
  rfl
set_option maxHeartbeats 4000000 in
theorem q_fault (h : Inv B S L t v pv) (k : Nat) (hk : k < 3) : CIE l G yX3_fault wsX3_fault (zRm 6 139) [.ref o, .int (nI k)] (clW G o pr q a b d (pa, S, P, L, t, v, u, pv)) (S := (Nat → Nat) × Mem) (fun r _ => r = fltR (xR (pa, S, P, L, t, v, u, pv)) k) (fun x => clW G o pr q a b d (pa, S, x.1, L, t, v, x.2, pv)) := by
  obtain ⟨⟨e, hX⟩, h4, hpast, hL6, hTx⟩ := id h
  obtain ⟨-, -, hf, -⟩ := xr_same pa S P L t v u pv B h
  have hR : okR v B := ⟨e, hX.1, hX.2.1⟩
  rcases (show k = 0 ∨ k = 1 ∨ k = 2 by omega) with rfl | rfl | rfl
  · exact (c_X3_fault_k0 l G o pr q a b d pa S P L t v u pv B (L 0) rfl hL6 hTx hR).mono (fun r x hx => ⟨x, rfl, hx.trans (hf 0)⟩)
  · exact (c_X3_fault_k1 l G o pr q a b d pa S P L t v u pv B (L 0) rfl hL6 hTx hR).mono (fun r x hx => ⟨x, rfl, hx.trans (hf 1)⟩)
  · exact (c_X3_fault_k2 l G o pr q a b d pa S P L t v u pv B (L 0) rfl hL6 hTx hR).mono (fun r x hx => ⟨x, rfl, hx.trans (hf 2)⟩)
set_option maxHeartbeats 4000000 in
theorem sc_play (h : Inv B S L t v pv) : CIE l G yX3_play wsX3_play (zRm 6 139) [.ref o] (clW G o pr q a b d (pa, S, P, L, t, v, u, pv)) (S := CS) (fun r c' => goP B (pa, S, P, L, t, v, u, pv) r c' ∧ ((xR (pa, S, P, L, t, v, u, pv)).2.1 = 0 → r = nI (xR (pa, S, P, L, t, v, u, pv)).1) ∧ (¬ (xR (pa, S, P, L, t, v, u, pv)).2.1 = 0 → r = -1000002 ∧ ∃ P1 u1, c' = (pa, S, P1, L, t, v, u1, pv))) (fun c' => clW G o pr q a b d c') := by
  obtain ⟨⟨e, hX⟩, h4, hpast, hL6, hTx⟩ := id h
  obtain ⟨k1, k2, hf, e', k6⟩ := xr_same pa S P L t v u pv B h
  have hR : okR v B := ⟨e, hX.1, hX.2.1⟩
  by_cases hno : (xRun (sgT (t 0) (L 0)) (L 0) 61 0 0 (zCopy u v)).2.1 = 0
  · refine (c_X3_play_ok l G o pr q a b d pa S P L t v u pv B (L 0) rfl hL6 hTx hR hno h4).mono (fun r x hx => ?_)
    obtain ⟨hx1, hx2⟩ := hx
    refine ⟨(rcA (S 0) pa, nup S 0 (svN (S 0)), x.1, L, t, zCopy v x.2, x.2, rcV (S 0) pv v), rfl, ⟨inv_rec h (e' := e') ?_, Or.inr ⟨?_, ?_, rfl, rcV_last pv v h4⟩⟩, fun _ => by rw [hx1, k1], fun z => absurd (k2.symm.trans hno) z⟩
    · rw [hx2]
      exact okX_same (copy_same _ _) k6
    · have := (xRun_info (sg := sgT (t 0) (L 0)) (L := L 0) 61 0 0 (zCopy u v)).1
      rw [hx1]
      exact er_nI (by omega)
    · have := (xRun_info (sg := sgT (t 0) (L 0)) (L := L 0) 61 0 0 (zCopy u v)).1
      rw [hx1]
      exact ne_big (by omega)
  · refine (c_X3_play_no l G o pr q a b d pa S P L t v u pv B (L 0) rfl hL6 hTx hR hno).mono (fun r x hx => ?_)
    have hx : r = -1000002 := hx
    subst hx
    exact ⟨(pa, S, x.1, L, t, v, x.2, pv), rfl, ⟨Inv_mono h (by omega), Or.inl ⟨by decide, same_refl v, rfl⟩⟩, fun z => absurd (k2.trans z) hno, fun _ => ⟨rfl, x.1, x.2, rfl⟩⟩
/-- a character typed -/
theorem q_type (h : Inv B S L t v pv) (ch : Nat) (h1 : 32 ≤ ch) (h2 : ch ≤ 126) : CIE l G yX3_type wsX3_type (zRm 2 42) [.ref o, .int (nI ch)] (clW G o pr q a b d (pa, S, P, L, t, v, u, pv)) (S := Mem × (Nat → Nat)) (fun _ x => Inv B S x.2 x.1 v pv) (fun x => clW G o pr q a b d (pa, S, P, x.2, x.1, v, u, pv)) := by
  obtain ⟨⟨e, hX⟩, h4, hpast, hL6, hTx⟩ := id h
  by_cases h6 : L 0 = 60
  · exact (c_X3_type_full l G o pr q a b d pa S P L t v u pv ch h1 h2 h6).toE (t, L) rfl h
  · exact (c_X3_type_ok l G o pr q a b d pa S P L t v u pv ch (L 0) h1 h2 rfl (by omega)).toE (mrow t 0 (upd (t 0) (L 0) (nI ch)), nup L 0 (L 0 + 1)) rfl ⟨⟨e, hX⟩, h4, hpast, by show L 0 + 1 ≤ 60; omega, okTx_upd hTx (by omega)⟩
theorem q_clear (h : Inv B S L t v pv) : CIE l G yX3_clearText wsX3_clearText (zRm 0 0) [.ref o] (clW G o pr q a b d (pa, S, P, L, t, v, u, pv)) (S := Mem × (Nat → Nat)) (fun _ x => Inv B S x.2 x.1 v pv) (fun x => clW G o pr q a b d (pa, S, P, x.2, x.1, v, u, pv)) :=
  (c_X3_clearText l G o pr q a b d pa S P L t v u pv).toE (t, nup L 0 0) rfl ⟨h.1, h.2.1, h.2.2.1, Nat.zero_le _, h.2.2.2.2⟩
/-- undo, behind a change -/
theorem q_undo (h : Inv B S L t v pv) (k : Nat) (hk : S 0 = k + 1) : CI l G yX3_undo wsX3_undo (zRm 2 61) [.ref o] (clW G o pr q a b d (pa, S, P, L, t, v, u, pv)) (nI k) (clW G o pr q a b d (pa, nup S 0 k, P, L, t, zCopy v (pv k), u, pv)) ∧ Inv B (nup S 0 k) L t (zCopy v (pv k)) pv := by
  obtain ⟨⟨e, hX⟩, h4, hpast, hL6, hTx⟩ := id h
  obtain ⟨e2, h2⟩ := hpast k (by omega)
  refine ⟨c_X3_undo_s l G o pr q a b d pa S P L t v u pv k hk (by omega), ⟨e2, okX_same (copy_same _ _) h2⟩, by show k ≤ 4; omega, fun j hj => ?_, hL6, hTx⟩
  have hj : j < k := hj
  exact hpast j (by omega)
end XQ
theorem inv_z : Inv 0 zeroN zeroN zeroM rollZ (fun _ => rollZ) := by
  have okV_z : okV rollZ 0 0 := by
    refine ⟨⟨rfl, by omega⟩, fun i hi => Or.inl rfl, fun i j hi hj h => absurd rfl h, fun i hi => ⟨rfl, by show 0 ≤ 999; omega, ⟨fun _ => rfl, fun _ => rfl⟩⟩, fun k hk => Or.inl ?_, fun i hi => ⟨0, Nat.le_refl _, rfl⟩, fun i hi hie => absurd hie (Nat.not_lt_zero _)⟩
    show zFillA 18 (-1) (fun _ => 0) k = -1
    exact if_pos hk
  have okC_z : okC rollZ := by
    intro i hi
    have h1 : zCells (rollZ 3) (nI i) = 0 := by
      refine fb_ct_zero.mpr (fun k hk => decide_eq_false ?_)
      show ¬ zFillA 18 (-1) (fun _ => 0) k = nI i
      rw [show zFillA 18 (-1) (fun _ => 0) k = -1 from if_pos hk]
      exact fun z => nI_nm1 (by omega) z.symm
    rw [h1]
    exact Nat.zero_le _
  have hct : fb_ct (pNm rollZ) 40 = 0 := fb_ct_zero.mpr (fun k hk => decide_eq_false (fun z => z rfl))
  exact ⟨⟨0, okV_z, okC_z, ⟨0, 0, rfl, rfl, by rw [hct], Nat.le_refl _⟩, fun i hi hie => absurd hie (Nat.not_lt_zero _)⟩, Nat.zero_le _, fun j hj => absurd hj (Nat.not_lt_zero _), Nat.zero_le _, fun j hj => ⟨rfl, by show 0 < 65536; omega⟩⟩
