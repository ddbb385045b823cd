theorem CV.toE {l : Launch} {G : ZG} {y : MethodName} {ws : List Cond} {rm : Room} {av : List Value} {w0 w : va_W} {S : Type} {post : S → Prop} {w1 : S → va_W} (h : CV l G y ws rm av w0 w) (u : S) (hw : w = w1 u) (hp : post u) : CVE l G y ws rm av w0 post w1 := by
  intro sz
  have h1 := h sz
  subst hw
  intro p e ha hc hk s m args below hf happ hpre hk2
  obtain ⟨k, o, q1, q2, q3, ⟨⟨⟨u', e1, e2, e3⟩, hF⟩, hL⟩⟩ := h1 p e ha hc hk s m args below hf happ hpre hk2
  exact ⟨k, o, q1, q2, q3, ⟨⟨⟨u, e1, hp, e3⟩, hF⟩, hL⟩⟩
theorem lk_out4 {a b c d o1 o2 o3 o4 df : Int} {x : Nat} (hx : x < 2 ^ 31) (h1 : ¬ a = (x : Int)) (h2 : ¬ b = (x : Int)) (h3 : ¬ c = (x : Int)) (h4 : ¬ d = (x : Int)) : Op.lookupswitch.offset [(a, o1), (b, o2), (c, o3), (d, o4)] df (nI x).toInt = df := by
  rw [nI_toInt hx, Op.lookupswitch.offset_cons, if_neg h1, Op.lookupswitch.offset_cons, if_neg h2, Op.lookupswitch.offset_cons, if_neg h3, Op.lookupswitch.offset_cons, if_neg h4, Op.lookupswitch.offset_nil]
theorem kd_cases (c : Nat) : c = 33 ∨ c = 43 ∨ c = 45 ∨ c = 61 ∨ (¬ c = 33 ∧ ¬ c = 43 ∧ ¬ c = 45 ∧ ¬ c = 61) := by omega
def xfm (P P' : Nat → Nat) : Prop := (∀ j, j ≠ 4 → P' j = P j) ∧ P 4 ≤ P' 4 ∧ P' 4 ≤ P 4 + 1
def xfl (P P' : Nat → Nat) : Prop := (∀ j, j ≠ 4 → j ≠ 9 → j ≠ 10 → P' j = P j) ∧ P 4 ≤ P' 4 ∧ P' 4 ≤ P 4 + 60 ∧ P' 9 ≤ 60
theorem xfm_0 (P : Nat → Nat) : xfm P P := ⟨fun _ _ => rfl, Nat.le_refl _, Nat.le_succ _⟩
theorem xfm_1 (P : Nat → Nat) : xfm P (nup P 4 (P 4 + 1)) := ⟨fun _ h => if_neg h, by show P 4 ≤ P 4 + 1; omega, by show P 4 + 1 ≤ P 4 + 1; omega⟩
section RX
variable (l : Launch) (G : ZG) (q d : Nat) (P : Nat → Nat) (b : Nat → Nat) (t : Mem) (L : Nat → Nat)
theorem c_X0_readDigit_x (hp4 : P 4 ≤ 400) (tl : Nat) (hL : L 0 = tl) (hL6 : tl ≤ 60) (hT : okTx (t 0)) (h1 : ¬ P 1 = 0) (h2 : P 1 ≤ 3) (h34 : P 3 ≤ P 4) :
    CIE l G yX0_readDigit wsX0_readDigit (zRm 2 42) [.ref q, .ref (b 0)] (playW G q d P ++ textW G b t L) (S := Nat × (Nat → Nat)) (fun r u => r = nI u.1 ∧ u.1 ≤ 9 ∧ xfm P u.2) (fun u => playW G q d u.2 ++ textW G b t L) := by
  rcases z_b (dgB (sgT (t 0) tl (P 4))) with h | h
  · have := dgB_t h
    exact (c_X0_readDigit_t l G q d P b t L hp4 tl hL hL6 hT h).toE (sgT (t 0) tl (P 4) - 48, nup P 4 (P 4 + 1)) rfl ⟨rfl, by show sgT (t 0) tl (P 4) - 48 ≤ 9; omega, xfm_1 P⟩
  · exact (c_X0_readDigit_nz l G q d P b t L hp4 tl hL hL6 hT h h1 h2 h34).toE (0, P) rfl ⟨rfl, by show 0 ≤ 9; omega, xfm_0 P⟩
theorem c_X0_readSign_x (ch : Nat) (hch : ch < 65536) (hp4 : P 4 ≤ 400) (tl : Nat) (hL : L 0 = tl) (hL6 : tl ≤ 60) (hT : okTx (t 0)) (h1 : ¬ P 1 = 0) (h2 : P 1 ≤ 3) (h34 : P 3 ≤ P 4) :
    CVE l G yX0_readSign wsX0_readSign (zRm 2 42) [.ref q, .ref (b 0), .int (nI ch)] (playW G q d P ++ textW G b t L) (S := Nat → Nat) (fun u => xfm P u) (fun u => playW G q d u ++ textW G b t L) := by
  by_cases h : sgT (t 0) tl (P 4) = ch
  · exact (c_X0_readSign_t l G q d P b t L ch hch hp4 tl hL hL6 hT h).toE (nup P 4 (P 4 + 1)) rfl (xfm_1 P)
  · exact (c_X0_readSign_nz l G q d P b t L ch hch hp4 tl hL hL6 hT h h1 h2 h34).toE P rfl (xfm_0 P)
theorem c_X0_readLetters_x (hp4 : P 4 ≤ 400) (tl : Nat) (hL : L 0 = tl) (hL6 : tl ≤ 60) (hT : okTx (t 0)) (h9 : P 9 = 0) (h10 : P 10 = 0) (h1 : ¬ P 1 = 0) (h2 : P 1 ≤ 3) (h34 : P 3 ≤ P 4) :
    CVE l G yX0_readLetters wsX0_readLetters (zRm 2 42) [.ref q, .ref (b 0)] (playW G q d P ++ textW G b t L) (S := Nat → Nat) (fun u => xfl P u) (fun u => playW G q d u ++ textW G b t L) := by
  have h6 := lc_le60 (sgT (t 0) tl) (P 4)
  refine (c_X0_readLetters_nz l G q d P b t L hp4 tl hL hL6 hT h9 h10 h1 h2 h34).toE _ rfl ⟨fun j a b c => ?_, ?_, ?_, h6⟩
  · unfold nup
    rw [if_neg c, if_neg b, if_neg a]
  · show P 4 ≤ P 4 + lc (sgT (t 0) tl) (P 4)
    omega
  · show P 4 + lc (sgT (t 0) tl) (P 4) ≤ P 4 + 60
    omega
end RX
def roPost (sg P P' : Nat → Nat) : Prop := (P' 0 = P 0 ∧ P' 3 = P 3 ∧ P' 5 = sg (P 4) ∧ P' 4 ≤ P 4 + 100 ∧ P' 6 ≤ 9 ∧ P' 7 ≤ 9 ∧ P' 8 ≤ 9 ∧ P' 9 ≤ 60) ∧
  ((prs sg (P 4)).2 = none → P' 1 = 1 ∧ P' 2 = (prs sg (P 4)).1 - P 4) ∧ ∀ d0 d1 k wd, (prs sg (P 4)).2 = some (d0, d1, k, wd) → P' 1 = 0 ∧ P' 4 = (prs sg (P 4)).1 ∧ P' 9 = k ∧ P' 10 = wd ∧ (sg (P 4) = 33 → P' 8 = d0 ∧ P' 6 = 0 ∧ P' 7 = 0) ∧ (¬ sg (P 4) = 33 → P' 6 = d0 ∧ P' 7 = d1 ∧ P' 8 = 0)
theorem ro_no {sg P P' : Nat → Nat} {q : Nat} (hp : prs sg (P 4) = (q, none)) (h : P' 0 = P 0 ∧ P' 3 = P 3 ∧ P' 5 = sg (P 4) ∧ P' 4 ≤ P 4 + 100 ∧ P' 6 ≤ 9 ∧ P' 7 ≤ 9 ∧ P' 8 ≤ 9 ∧ P' 9 ≤ 60) (h1 : P' 1 = 1) (h2 : P' 2 = q - P 4) : roPost sg P P' := by
  refine ⟨h, ?_, ?_⟩
  · rw [hp]; exact fun _ => ⟨h1, h2⟩
  · rw [hp]; intro _ _ _ _ z; cases z
theorem ro_yes {sg P P' : Nat → Nat} {q d0 d1 k wd : Nat} (hp : prs sg (P 4) = (q, some (d0, d1, k, wd))) (h : P' 0 = P 0 ∧ P' 3 = P 3 ∧ P' 5 = sg (P 4) ∧ P' 4 ≤ P 4 + 100 ∧ P' 6 ≤ 9 ∧ P' 7 ≤ 9 ∧ P' 8 ≤ 9 ∧ P' 9 ≤ 60) (h1 : P' 1 = 0) (h4 : P' 4 = q) (h9 : P' 9 = k) (h10 : P' 10 = wd)
    (hx : sg (P 4) = 33 → P' 8 = d0 ∧ P' 6 = 0 ∧ P' 7 = 0) (hy : ¬ sg (P 4) = 33 → P' 6 = d0 ∧ P' 7 = d1 ∧ P' 8 = 0) : roPost sg P P' := by
  refine ⟨h, ?_, ?_⟩
  · rw [hp]; intro z; cases z
  · rw [hp]; intro _ _ _ _ z; cases z; exact ⟨h1, h4, h9, h10, hx, hy⟩
/-- an order that has failed, being read on -/
def FS (P : Nat → Nat) (kd c n : Nat) (u : Nat → Nat) : Prop := u 0 = P 0 ∧ u 1 = 1 ∧ u 2 = c ∧ u 3 = P 3 ∧ u 5 = kd ∧ u 6 ≤ 9 ∧ u 7 ≤ 9 ∧ u 8 ≤ 9 ∧ u 9 = 0 ∧ u 10 = 0 ∧ u 4 ≤ n ∧ P 3 ≤ u 4
def FSL (P : Nat → Nat) (kd c n : Nat) (u : Nat → Nat) : Prop := u 0 = P 0 ∧ u 1 = 1 ∧ u 2 = c ∧ u 3 = P 3 ∧ u 5 = kd ∧ u 6 ≤ 9 ∧ u 7 ≤ 9 ∧ u 8 ≤ 9 ∧ u 9 ≤ 60 ∧ u 4 ≤ n ∧ P 3 ≤ u 4
theorem FS_7 {P u : Nat → Nat} {kd c n d : Nat} (h : FS P kd c n u) (hd : d ≤ 9) : FS P kd c n (nup u 7 d) := by
  obtain ⟨a0, a1, a2, a3, a5, a6, -, a8, a9, a10, a4, b4⟩ := h
  exact ⟨a0, a1, a2, a3, a5, a6, hd, a8, a9, a10, a4, b4⟩
theorem FS_m {P u w : Nat → Nat} {kd c n : Nat} (h : FS P kd c n u) (hx : xfm u w) : FS P kd c (n + 1) w := by
  obtain ⟨a0, a1, a2, a3, a5, a6, a7, a8, a9, a10, a4, b4⟩ := h
  obtain ⟨x, y, z⟩ := hx
  refine ⟨(x 0 (by decide)).trans a0, (x 1 (by decide)).trans a1, (x 2 (by decide)).trans a2, (x 3 (by decide)).trans a3, (x 5 (by decide)).trans a5, ?_, ?_, ?_, (x 9 (by decide)).trans a9, (x 10 (by decide)).trans a10, by omega, by omega⟩
  · rw [x 6 (by decide)]; exact a6
  · rw [x 7 (by decide)]; exact a7
  · rw [x 8 (by decide)]; exact a8
theorem FSL_m {P u w : Nat → Nat} {kd c n : Nat} (h : FSL P kd c n u) (hx : xfm u w) : FSL P kd c (n + 1) w := by
  obtain ⟨a0, a1, a2, a3, a5, a6, a7, a8, a9, a4, b4⟩ := h
  obtain ⟨x, y, z⟩ := hx
  refine ⟨(x 0 (by decide)).trans a0, (x 1 (by decide)).trans a1, (x 2 (by decide)).trans a2, (x 3 (by decide)).trans a3, (x 5 (by decide)).trans a5, ?_, ?_, ?_, ?_, by omega, by omega⟩
  · rw [x 6 (by decide)]; exact a6
  · rw [x 7 (by decide)]; exact a7
  · rw [x 8 (by decide)]; exact a8
  · rw [x 9 (by decide)]; exact a9
theorem FS_l {P u w : Nat → Nat} {kd c n : Nat} (h : FS P kd c n u) (hx : xfl u w) : FSL P kd c (n + 60) w := by
  obtain ⟨a0, a1, a2, a3, a5, a6, a7, a8, a9, a10, a4, b4⟩ := h
  obtain ⟨x, y, z, z9⟩ := hx
  refine ⟨(x 0 (by decide) (by decide) (by decide)).trans a0, (x 1 (by decide) (by decide) (by decide)).trans a1, (x 2 (by decide) (by decide) (by decide)).trans a2, (x 3 (by decide) (by decide) (by decide)).trans a3, (x 5 (by decide) (by decide) (by decide)).trans a5, ?_, ?_, ?_, z9, by omega, by omega⟩
  · rw [x 6 (by decide) (by decide) (by decide)]; exact a6
  · rw [x 7 (by decide) (by decide) (by decide)]; exact a7
  · rw [x 8 (by decide) (by decide) (by decide)]; exact a8
theorem CVE.mono {l : Launch} {G : ZG} {y : MethodName} {ws : List Cond} {rm : Room} {av : List Value} {w0 : va_W} {S S' : Type} {post : S → Prop} {w1 : S → va_W} {post' : S' → Prop} {w1' : S' → va_W} (h : CVE l G y ws rm av w0 post w1) (hm : ∀ u, post u → ∃ u', w1' u' = w1 u ∧ post' u') : CVE l G y ws rm av w0 post' w1' := by
  intro sz
  have h1 := h sz
  intro p e ha hc hk s m args below hf happ hpre hk2
  obtain ⟨k, o, q1, q2, q3, ⟨⟨⟨u, e1, e2, e3⟩, hF⟩, hL⟩⟩ := h1 p e ha hc hk s m args below hf happ hpre hk2
  obtain ⟨u', k1, k2⟩ := hm u e2
  rw [← k1] at e3
  exact ⟨k, o, q1, q2, q3, ⟨⟨⟨u', e1, k2, e3⟩, hF⟩, hL⟩⟩
section FX
variable (l : Launch) (G : ZG) (q d : Nat) (P u : Nat → Nat) (b : Nat → Nat) (t : Mem) (L : Nat → Nat) (kd c n tl : Nat)
theorem c_F_digit (hn : n ≤ 400) (hL : L 0 = tl) (hL6 : tl ≤ 60) (hT : okTx (t 0)) (h : FS P kd c n u) : CIE l G yX0_readDigit wsX0_readDigit (zRm 2 42) [.ref q, .ref (b 0)] (playW G q d u ++ textW G b t L) (S := Nat × (Nat → Nat)) (fun r w => r = nI w.1 ∧ w.1 ≤ 9 ∧ FS P kd c (n + 1) w.2) (fun w => playW G q d w.2 ++ textW G b t L) := by
  have hh := h
  obtain ⟨a0, a1, a2, a3, a5, a6, a7, a8, a9, a10, a4, b4⟩ := h
  exact (c_X0_readDigit_x l G q d u b t L (by omega) tl hL hL6 hT (by omega) (by omega) (by omega)).mono (fun r w ⟨x, y, z⟩ => ⟨w, rfl, x, y, FS_m hh z⟩)
theorem c_F_sign (hn : n ≤ 400) (hL : L 0 = tl) (hL6 : tl ≤ 60) (hT : okTx (t 0)) (ch : Nat) (hch : ch < 65536) (h : FS P kd c n u) : CVE l G yX0_readSign wsX0_readSign (zRm 2 42) [.ref q, .ref (b 0), .int (nI ch)] (playW G q d u ++ textW G b t L) (S := Nat → Nat) (FS P kd c (n + 1)) (fun w => playW G q d w ++ textW G b t L) := by
  have hh := h
  obtain ⟨a0, a1, a2, a3, a5, a6, a7, a8, a9, a10, a4, b4⟩ := h
  exact (c_X0_readSign_x l G q d u b t L ch hch (by omega) tl hL hL6 hT (by omega) (by omega) (by omega)).mono (fun w z => ⟨w, rfl, FS_m hh z⟩)
theorem c_FL_sign (hn : n ≤ 400) (hL : L 0 = tl) (hL6 : tl ≤ 60) (hT : okTx (t 0)) (ch : Nat) (hch : ch < 65536) (h : FSL P kd c n u) : CVE l G yX0_readSign wsX0_readSign (zRm 2 42) [.ref q, .ref (b 0), .int (nI ch)] (playW G q d u ++ textW G b t L) (S := Nat → Nat) (FSL P kd c (n + 1)) (fun w => playW G q d w ++ textW G b t L) := by
  have hh := h
  obtain ⟨a0, a1, a2, a3, a5, a6, a7, a8, a9, a4, b4⟩ := h
  exact (c_X0_readSign_x l G q d u b t L ch hch (by omega) tl hL hL6 hT (by omega) (by omega) (by omega)).mono (fun w z => ⟨w, rfl, FSL_m hh z⟩)
theorem c_F_letters (hn : n ≤ 400) (hL : L 0 = tl) (hL6 : tl ≤ 60) (hT : okTx (t 0)) (h : FS P kd c n u) : CVE l G yX0_readLetters wsX0_readLetters (zRm 2 42) [.ref q, .ref (b 0)] (playW G q d u ++ textW G b t L) (S := Nat → Nat) (FSL P kd c (n + 60)) (fun w => playW G q d w ++ textW G b t L) := by
  have hh := h
  obtain ⟨a0, a1, a2, a3, a5, a6, a7, a8, a9, a10, a4, b4⟩ := h
  exact (c_X0_readLetters_x l G q d u b t L (by omega) tl hL hL6 hT a9 a10 (by omega) (by omega) (by omega)).mono (fun w z => ⟨w, rfl, FS_l hh z⟩)
end FX
theorem ro_fin {sg P u : Nat → Nat} {q c n : Nat} (hp : prs sg (P 4) = (q, none)) (h : FSL P (sg (P 4)) c n u) (hc : c = q - P 4) (hn : n ≤ P 4 + 100) : roPost sg P u := by
  obtain ⟨a0, a1, a2, a3, a5, a6, a7, a8, a9, a4, b4⟩ := h
  exact ro_no hp ⟨a0, a3, a5, by omega, a6, a7, a8, a9⟩ a1 (a2.trans hc)
theorem FS_L {P u : Nat → Nat} {kd c n : Nat} (h : FS P kd c n u) : FSL P kd c n u := by
  obtain ⟨a0, a1, a2, a3, a5, a6, a7, a8, a9, a10, a4, b4⟩ := h
  exact ⟨a0, a1, a2, a3, a5, a6, a7, a8, by omega, a4, b4⟩
