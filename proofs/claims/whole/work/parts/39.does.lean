def doPost (w v : Mem) (y : Nat → Nat) (B c d0 d1 wd : Nat) (r : Int32) (u : Mem × (Nat → Nat)) : Prop :=
  r = bI (xCan w c wd) ∧ (∃ e', RR (if xCan w c wd = true then xDo w c d0 d1 wd else w) (u.1 0) e' (B + 1)) ∧ (∀ k, k ≠ 0 → k ≠ 4 → k ≠ 5 → u.1 k = v k) ∧ (∀ k, k ≠ 2 → u.2 k = y k)
theorem doPost_no {w v : Mem} {y : Nat → Nat} {e B c d0 d1 wd : Nat} (hR : RR w (v 0) e B) (hc : xCan w c wd = false) : doPost w v y B c d0 d1 wd (bI false) (v, y) := by
  refine ⟨by rw [hc], ⟨e, ?_⟩, fun _ _ _ _ => rfl, fun _ _ => rfl⟩
  rw [hc, if_neg (by decide)]
  exact RR_mono hR (by omega)
theorem doPost_yes {w v : Mem} {y : Nat → Nat} {e' B c d0 d1 wd : Nat} {F : Nat → Int32} {W : Mem} (hc : xCan w c wd = true) (hd : xDo w c d0 d1 wd = W) (h : RR W F e' (B + 1)) : doPost w v y B c d0 d1 wd (bI true) (mrow v 0 F, y) := by
  refine ⟨by rw [hc], ⟨e', ?_⟩, fun k h0 _ _ => if_neg h0, fun _ _ => rfl⟩
  rw [hc, if_pos rfl, hd]
  exact h
section DOES
variable {w : Mem} {e B : Nat} {f : Nat → Int32}
theorem rr_ep (h : RR w f e B) : ep w = e := by
  have h1 := h.1.1
  rw [ep, h1.1, nI_clamp (by omega)]
theorem rr_num (h : RR w f e B) (x : Int32) : zNum (rN f) x = zNum (w 0) x := zNum_cong (re_nm h.2.2) x
theorem rr_cells (h : RR w f e B) (x : Int32) : zCells (rC f) x = zCells (w 3) x := zCells_cong (re_cl h.2.2) x
theorem rr_us (h : RR w f e B) {n : Nat} (hn : n < 40) : f (44 + n) = w 1 n := (h.2.2.2.1 n hn).2.1
theorem rr_cl (h : RR w f e B) {k : Nat} (hk : k < 18) : f (124 + k) = w 3 k := h.2.2.2.2.1 k hk
theorem zCells_le (g : Nat → Int32) (x : Int32) : zCells g x ≤ 18 := fb_ct_le _ _
theorem rr_free (h : RR w f e B) {n : Nat} (hn : n < 40) : ¬ w 1 n ≤ nI (zCells (w 3) (nI n)) ↔ zCells (w 3) (nI n) < usK w n := by
  obtain ⟨a, b, -⟩ := h.1.2.2.2.1 n hn
  have := zCells_le (w 3) (nI n)
  rw [a, nI_leI (by omega) (by omega)]
  omega
theorem name_ne {x : Int32} (h : zName x = true) : ¬ x = 0 := fun q => by
  rw [q, show (0 : Int32) = nI 0 from rfl, zName_0] at h
  cases h
end DOES
set_option maxHeartbeats 4000000 in
theorem c_X4_does (l : Launch) (G : ZG) (a : Nat → Nat) (v : Mem) (y : Nat → Nat) (ch d0 d1 wd : Nat) (w : Mem) (e B : Nat) (hR : RR w (v 0) e B) (hch : ch = 33 ∨ ch = 61 ∨ ch = 43 ∨ ch = 45) (h33 : ch = 33 → d0 ≤ 2 ∧ v 6 0 = nI d0) (h61 : ch = 61 → d0 ≤ 2 ∧ d1 ≤ 5 ∧ v 6 0 = nI d0 ∧ v 6 1 = nI d1) (hw : ¬ ch = 33 → y 6 = wd ∧ zName (nI wd) = true) :
    CIE l G yX4_does wsX4_does (zRm 4 92) [.ref (a 0), .int (nI ch)] (modW G a v y) (S := Mem × (Nat → Nat)) (doPost w v y B ch d0 d1 wd) (fun u => modW G a u.1 u.2) := by
  by_cases c1 : ch = 33
  · subst c1
    obtain ⟨k1, k2⟩ := h33 rfl
    have he : v 0 0 = nI e := hR.2.2.1.1
    have he9 := hR.1.1.2
    by_cases h9 : e < 999
    · have hc : xCan w 33 wd = true := by rw [xCan, if_pos rfl, rr_ep hR]; exact decide_eq_true h9
      refine (c_X4_does_xok l G a v y d0 k1 (re_okNm hR.2.2 hR.1) (re_injN hR.2.2 hR.1) (re_okCl hR.2.2 hR.1 hR.2.1) k2 (by rw [he, nI_le999 he9]; omega)).mono (fun r u hu => ?_)
      obtain ⟨u1, u2⟩ := hu
      refine ⟨(mrow (mrow (mrow v 0 u.1) 4 u.2.1) 5 u.2.2, nup y 2 (cntA (v 0))), rfl, ?_, ⟨e + 1, ?_⟩, fun k q0 q4 q5 => ?_, fun k q => if_neg q⟩
      · rw [hc]; exact u2
      · rw [hc, if_pos rfl, xDo, if_pos rfl, rr_ep hR]
        exact (op_anew hR h9 u1).1
      · show mrow (mrow (mrow v 0 u.1) 4 u.2.1) 5 u.2.2 k = v k
        unfold mrow
        rw [if_neg q5, if_neg q4, if_neg q0]
    · have hc : xCan w 33 wd = false := by rw [xCan, if_pos rfl, rr_ep hR]; exact decide_eq_false h9
      exact (c_X4_does_xno l G a v y (by rw [he, nI_le999 he9]; omega)).toE (v, y) rfl (doPost_no hR hc)
  · obtain ⟨hw1, hz⟩ := hw c1
    subst hw1
    have hnm := zNum_or (w 0) (nI (y 6))
    have num := rr_num hR
    by_cases c2 : ch = 43
    · subst c2
      rcases hnm with h | ⟨n, hn, h, hne⟩
      · rcases zNum_or (w 0) (nI 0) with h2 | ⟨n, hn, h2, hn0⟩
        · have hc : xCan w 43 (y 6) = false := by rw [xCan, if_neg (by decide), if_pos rfl, if_pos h]; exact decide_eq_false (fun q => q h2)
          exact (c_X4_does_pno l G a v y ((num _).trans h) ((num _).trans h2)).toE (v, y) rfl (doPost_no hR hc)
        · have hc : xCan w 43 (y 6) = true := by rw [xCan, if_neg (by decide), if_pos rfl, if_pos h]; exact decide_eq_true (fun q => nI_nm1 (by omega) (h2.symm.trans q))
          refine (c_X4_does_pnew l G a v y n ((num _).trans h) hn ((num _).trans h2)).toE (mrow v 0 (mEntN (v 0) n (nI (y 6))), y) rfl (doPost_yes hc ?_ (RR_mono (op_new hR hz h hn hn0) (by omega)))
          rw [xDo, if_neg (by decide), if_pos rfl, if_pos h, xFree, h2, nI_clamp (by omega)]
          rfl
      · have h0 : ¬ w 0 n = 0 := by rw [hne]; exact name_ne hz
        have hno : xNo w (y 6) = n := by rw [xNo, h, nI_clamp (by omega)]
        have hm : ¬ zNum (w 0) (nI (y 6)) = -1 := fun q => nI_nm1 (by omega) (h.symm.trans q)
        by_cases hu : nI 999 ≤ w 1 n
        · have hc : xCan w 43 (y 6) = false := by rw [xCan, if_neg (by decide), if_pos rfl, if_neg hm, hno]; exact decide_eq_false (fun q => q hu)
          exact (c_X4_does_pfull l G a v y n hn ((num _).trans h) (by rw [rr_us hR hn]; exact hu)).toE (v, y) rfl (doPost_no hR hc)
        · have hc : xCan w 43 (y 6) = true := by rw [xCan, if_neg (by decide), if_pos rfl, if_neg hm, hno]; exact decide_eq_true hu
          refine (c_X4_does_pold l G a v y n hn ((num _).trans h) (by rw [rr_us hR hn]; exact hu)).toE (mrow v 0 (mEntO (v 0) n), y) rfl (doPost_yes hc ?_ (RR_mono (op_use hR hn h0 ((us_room hR.1 hn).mp hu)) (by omega)))
          rw [xDo, if_neg (by decide), if_pos rfl, if_neg hm, hno]
          rfl
    · rcases hnm with h | ⟨n, hn, h, hne⟩
      · have hc : xCan w ch (y 6) = false := by rw [xCan, if_neg c1, if_neg c2, if_pos h]
        rcases hch with q | q | q | q
        · exact absurd q c1
        · subst q
          exact (c_X4_does_enone l G a v y ((num _).trans h)).toE (v, y) rfl (doPost_no hR hc)
        · exact absurd q c2
        · subst q
          exact (c_X4_does_mnone l G a v y ((num _).trans h)).toE (v, y) rfl (doPost_no hR hc)
      · have h0 : ¬ w 0 n = 0 := by rw [hne]; exact name_ne hz
        have hno : xNo w (y 6) = n := by rw [xNo, h, nI_clamp (by omega)]
        have hm : ¬ zNum (w 0) (nI (y 6)) = -1 := fun q => nI_nm1 (by omega) (h.symm.trans q)
        have hxc : xCan w ch (y 6) = if ch = 45 then decide (¬ w 1 n ≤ nI (zCells (w 3) (nI n))) else decide (¬ nI 999 ≤ w 1 n) := by rw [xCan, if_neg c1, if_neg c2, if_neg hm, hno]
        have hxd : xDo w ch d0 d1 (y 6) = if ch = 45 then zGive w n else xFill w (6 * d0 + d1) n := by rw [xDo, if_neg c1, if_neg c2, hno]
        rcases hch with q | q | q | q
        · exact absurd q c1
        · subst q
          rw [if_neg (by decide)] at hxc hxd
          obtain ⟨g0, g1, g2, g3⟩ := h61 rfl
          by_cases hu : nI 999 ≤ w 1 n
          · exact (c_X4_does_eno l G a v y n hn ((num _).trans h) (by rw [rr_us hR hn]; exact hu)).toE (v, y) rfl (doPost_no hR (hxc.trans (decide_eq_false (fun q => q hu))))
          · have hi : 6 * d0 + d1 < 18 := by omega
            have hro := (us_room hR.1 hn).mp hu
            have hc := hxc.trans (decide_eq_true hu)
            rcases hR.1.2.2.2.2.1 (6 * d0 + d1) hi with q | ⟨o, ho, q⟩
            · refine (c_X4_does_ee l G a v y n hn ((num _).trans h) (by rw [rr_us hR hn]; exact hu) d0 d1 g0 g1 g2 g3 (by rw [rr_cl hR hi]; exact q)).toE (mrow v 0 (mPut1 (v 0) (6 * d0 + d1) n), y) rfl (doPost_yes hc ?_ (RR_mono (op_fillE hR hi hn h0 hro q) (by omega)))
              rw [hxd, xFill, if_pos q]
              rfl
            · refine (c_X4_does_eo l G a v y n hn ((num _).trans h) (by rw [rr_us hR hn]; exact hu) d0 d1 g0 g1 g2 g3 o ho (by rw [rr_cl hR hi]; exact q)).toE (mrow v 0 (mGive (mPut1 (v 0) (6 * d0 + d1) n) o), y) rfl (doPost_yes hc ?_ (op_fillO hR hi hn ho h0 hro q).1)
              rw [hxd, xFill, if_neg (by rw [q]; exact nI_nm1 (by omega)), q, nI_clamp (by omega)]
              rfl
        · exact absurd q c2
        · subst q
          rw [if_pos rfl] at hxc hxd
          by_cases hu : w 1 n ≤ nI (zCells (w 3) (nI n))
          · exact (c_X4_does_mno l G a v y n hn ((num _).trans h) (by rw [rr_us hR hn, rr_cells hR]; exact hu)).toE (v, y) rfl (doPost_no hR (hxc.trans (decide_eq_false (fun q => q hu))))
          · exact (c_X4_does_mok l G a v y n hn ((num _).trans h) (by rw [rr_us hR hn, rr_cells hR]; exact hu)).toE (mrow v 0 (mGive (v 0) n), y) rfl (doPost_yes (hxc.trans (decide_eq_true hu)) hxd (op_give hR hn ((rr_free hR hn).mp hu)))
