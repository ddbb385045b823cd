def doPost (w v : Mem) (y : Nat → Nat) (B c d0 d1 wd : Nat) (r : Int32) (u : Mem × (Nat → Nat)) : Prop :=
  r = bI (xCan w c wd) ∧ (∃ e', RR (if xCan w c wd = true then xDo w c d0 d1 wd else w) (u.1 0) e' (B + 1)) ∧ (∀ k, k ≠ 0 → k ≠ 4 → k ≠ 5 → u.1 k = v k) ∧ (∀ k, k ≠ 2 → u.2 k = y k)
theorem doPost_no {w v : Mem} {y : Nat → Nat} {e B c d0 d1 wd : Nat} (hR : RR w (v 0) e B) (hc : xCan w c wd = false) : doPost w v y B c d0 d1 wd (bI false) (v, y) := by
  refine ⟨by rw [hc], ⟨e, ?_⟩, fun _ _ _ _ => rfl, fun _ _ => rfl⟩
  rw [hc, if_neg (by decide)]
  exact RR_mono hR (by omega)
theorem doPost_yes {w v : Mem} {y : Nat → Nat} {e' B c d0 d1 wd : Nat} {F : Nat → Int32} {W : Mem} (hc : xCan w c wd = true) (hd : xDo w c d0 d1 wd = W) (h : RR W F e' (B + 1)) : doPost w v y B c d0 d1 wd (bI true) (mrow v 0 F, y) := by
  refine ⟨by rw [hc], ⟨e', ?_⟩, fun k h0 _ _ => if_neg h0, fun _ _ => rfl⟩
  rw [hc, if_pos rfl, hd]
  exact h
section DOES
variable {w : Mem} {e B : Nat} {f : Nat → Int32}
theorem rr_ep (h : RR w f e B) : ep w = e := by
  have h1 := h.1.1
  rw [ep, h1.1, nI_clamp (by omega)]
theorem rr_num (h : RR w f e B) (x : Int32) : zNum (rN f) x = zNum (w 0) x := zNum_cong (re_nm h.2.2) x
theorem rr_cells (h : RR w f e B) (x : Int32) : zCells (rC f) x = zCells (w 3) x := zCells_cong (re_cl h.2.2) x
theorem rr_us (h : RR w f e B) {n : Nat} (hn : n < 40) : f (44 + n) = w 1 n := (h.2.2.2.1 n hn).2.1
theorem rr_cl (h : RR w f e B) {k : Nat} (hk : k < 18) : f (124 + k) = w 3 k := h.2.2.2.2.1 k hk
theorem zCells_le (g : Nat → Int32) (x : Int32) : zCells g x ≤ 18 := fb_ct_le _ _
theorem rr_free (h : RR w f e B) {n : Nat} (hn : n < 40) : ¬ w 1 n ≤ nI (zCells (w 3) (nI n)) ↔ zCells (w 3) (nI n) < usK w n := by
  obtain ⟨a, b, -⟩ := h.1.2.2.2.1 n hn
  have := zCells_le (w 3) (nI n)
  rw [a, nI_leI (by omega) (by omega)]
  omega
theorem name_ne {x : Int32} (h : zName x = true) : ¬ x = 0 := fun q => by
  rw [q, show (0 : Int32) = nI 0 from rfl, zName_0] at h
  cases h
end DOES
