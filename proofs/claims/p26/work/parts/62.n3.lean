def naV (v : Mem) (ρ q : Nat) (r : Int32) : Prop :=
  (∃ j, j < 40 ∧ ¬ v 0 j = 0 ∧ zPl v ρ j = q ∧ r = v 0 j) ∨ ((∀ j, j < 40 → ¬ v 0 j = 0 → ¬ zPl v ρ j = q) ∧ r = -1000004)
theorem na_s {v : Mem} {ρ q i : Nat} (h : ∀ j, j < i → ¬ v 0 j = 0 → ¬ zPl v ρ j = q) (h2 : v 0 i = 0 ∨ ¬ zPl v ρ i = q) : ∀ j, j < i + 1 → ¬ v 0 j = 0 → ¬ zPl v ρ j = q := by
  intro j hj hj0
  rcases Nat.lt_or_ge j i with z | z
  · exact h j z hj0
  · have e : j = i := by omega
    subst e
    rcases h2 with h2 | h2
    · exact absurd h2 hj0
    · exact h2
def Kv (v : Mem) (j : Nat) : Nat := padK 5 (nmK v j)
def bhI (v : Mem) (k i : Nat) (f : Int32) : Prop :=
  (f = 0 ∧ ∀ j, j < i → ¬ v 0 j = 0 → ¬ k < Kv v j) ∨ (∃ j, j < i ∧ ¬ v 0 j = 0 ∧ f = nI (nmK v j) ∧ k < Kv v j ∧ ∀ x, x < i → ¬ v 0 x = 0 → k < Kv v x → Kv v j ≤ Kv v x)
def bhV (v : Mem) (k : Nat) (r : Int32) : Prop :=
  (∃ j, j < 40 ∧ ¬ v 0 j = 0 ∧ k < Kv v j ∧ (∀ x, x < 40 → ¬ v 0 x = 0 → k < Kv v x → Kv v j ≤ Kv v x) ∧ r = v 0 j) ∨ ((∀ x, x < 40 → ¬ v 0 x = 0 → ¬ k < Kv v x) ∧ r = -1000004)
section BH
variable {v : Mem} {k i : Nat} {f : Int32}
theorem nm_z0 (h : nmK v i = 0) (hN : v 0 i = nI (nmK v i)) : v 0 i = 0 := by rw [hN, h]; rfl
theorem nm_n0 (h : ¬ nmK v i = 0) : ¬ v 0 i = 0 := fun z => h (by unfold nmK; rw [z]; rfl)
theorem bhI_0 : bhI v k 0 (nI 0) := Or.inl ⟨rfl, fun j h => absurd h (Nat.not_lt_zero _)⟩
theorem bhI_k (h : bhI v k i f) (h2 : v 0 i = 0 ∨ ¬ k < Kv v i) : bhI v k (i + 1) f := by
  have last : ∀ j, j < i + 1 → ¬ v 0 j = 0 → k < Kv v j → j < i := by
    intro j hj hj0 hk
    rcases Nat.lt_or_ge j i with z | z
    · exact z
    · have e : j = i := by omega
      subst e
      rcases h2 with h2 | h2
      · exact absurd h2 hj0
      · exact absurd hk h2
  rcases h with ⟨a, b⟩ | ⟨j, a, a0, a1, a2, a3⟩
  · exact Or.inl ⟨a, fun j hj hj0 hk => b j (last j hj hj0 hk) hj0 hk⟩
  · exact Or.inr ⟨j, by omega, a0, a1, a2, fun x hx hx0 hk => a3 x (last x hx hx0 hk) hx0 hk⟩
theorem bhI_1 (h : bhI v k i f) (hf : f = 0) (h0 : ¬ v 0 i = 0) (hk : k < Kv v i) (hN : okN v) (hi : i < 40) : bhI v k (i + 1) (nI (nmK v i)) := by
  rcases h with ⟨a, b⟩ | ⟨j, a, a0, a1, a2, a3⟩
  · refine Or.inr ⟨i, by omega, h0, rfl, hk, fun x hx hx0 hk2 => ?_⟩
    rcases Nat.lt_or_ge x i with z | z
    · exact absurd hk2 (b x z hx0)
    · have e : x = i := by omega
      subst e
      exact Nat.le_refl _
  · exact absurd ((hN j (by omega)).1.trans (a1.symm.trans hf)) a0
theorem bhI_j (h : bhI v k i f) (hf : ¬ f = 0) : ∃ j, j < i ∧ ¬ v 0 j = 0 ∧ f = nI (nmK v j) ∧ k < Kv v j ∧ ∀ x, x < i → ¬ v 0 x = 0 → k < Kv v x → Kv v j ≤ Kv v x := by
  rcases h with ⟨a, b⟩ | h
  · exact absurd a hf
  · exact h
theorem bhI_s {j : Nat} (hj : j < i) (h0 : ¬ v 0 j = 0) (hk : k < Kv v j) (hm : ∀ x, x < i → ¬ v 0 x = 0 → k < Kv v x → Kv v j ≤ Kv v x) (hle : Kv v j ≤ Kv v i) : bhI v k (i + 1) (nI (nmK v j)) := by
  refine Or.inr ⟨j, by omega, h0, rfl, hk, fun x hx hx0 hk2 => ?_⟩
  rcases Nat.lt_or_ge x i with z | z
  · exact hm x z hx0 hk2
  · have e : x = i := by omega
    subst e
    exact hle
theorem bhI_n {j : Nat} (h0 : ¬ v 0 i = 0) (hk : k < Kv v i) (hm : ∀ x, x < i → ¬ v 0 x = 0 → k < Kv v x → Kv v j ≤ Kv v x) (hlt : Kv v i < Kv v j) : bhI v k (i + 1) (nI (nmK v i)) := by
  refine Or.inr ⟨i, by omega, h0, rfl, hk, fun x hx hx0 hk2 => ?_⟩
  rcases Nat.lt_or_ge x i with z | z
  · have := hm x z hx0 hk2
    omega
  · have e : x = i := by omega
    subst e
    exact Nat.le_refl _
theorem bhV_n (h : bhI v k i f) (hi : i = 40) (hf : f = 0) (hN : okN v) : bhV v k (-1000004) := by
  subst hi
  rcases h with ⟨a, b⟩ | ⟨j, a, a0, a1, a2, a3⟩
  · exact Or.inr ⟨b, rfl⟩
  · exact absurd ((hN j a).1.trans (a1.symm.trans hf)) a0
theorem bhV_y (h : bhI v k i f) (hi : i = 40) (hf : ¬ f = 0) (hN : okN v) : bhV v k f := by
  subst hi
  obtain ⟨j, a, a0, a1, a2, a3⟩ := bhI_j h hf
  exact Or.inl ⟨j, a, a0, a2, a3, a1.trans (hN j a).1.symm⟩
end BH
theorem fl_c {sg : Nat → Nat} {tl B q : Nat} {W0 : Mem} {x : (Nat → Nat) × Mem} (hq : q ≤ 2) (h : tryPost sg tl B W0 x) : fltR (xRun sg tl 61 0 0 W0) q = (if x.1 1 = 0 ∨ (q = 2 ∧ x.1 1 = 3) then -1000004 else if q = 0 then nI (x.1 3) else if q = 1 then nI (x.1 1) else nI (x.1 2)) := by
  obtain ⟨a0, a1, a2, a3, a4, -⟩ := h
  rw [fltR, ← a1]
  by_cases h0 : x.1 1 = 0 ∨ (q = 2 ∧ x.1 1 = 3)
  · rw [if_pos h0, if_pos h0]
  · rw [if_neg h0, if_neg h0, a3 (fun z => h0 (Or.inl z))]
    by_cases h1 : q = 0
    · rw [if_pos h1, if_pos h1]
    · rw [if_neg h1, if_neg h1]
      by_cases h2 : q = 1
      · rw [if_pos h2, if_pos h2]
      · rw [if_neg h2, if_neg h2]
        by_cases h3 : x.1 1 = 3
        · exact absurd (Or.inr ⟨by omega, h3⟩) h0
        · rw [a4 (fun z => h0 (Or.inl z)) h3]

set_option maxHeartbeats 4000000 in
set_option maxRecDepth 100000 in
theorem c_X3_nameAt_b1 (l : Launch) (G : ZG) (o pr q : Nat) (a b d : Nat → Nat) (pa : Nat → Nat → Nat) (S P L : Nat → Nat) (t v u : Mem) (pv : Nat → Mem) (x y : Int32) (h9 : zBel x 3 = false) : CI l G yX3_nameAt wsX3_nameAt (zRm 3 69) [.ref o, .int x, .int y] (headW G o pr (prF pa) a b q S ++ (playW G q (d 0) P ++ (textW G b t L ++ (rollW G a v ++ (rollW G d u ++ pastW G pa pv))))) ((-1000001)) (headW G o pr (prF pa) a b q S ++ (playW G q (d 0) P ++ (textW G b t L ++ (rollW G a v ++ (rollW G d u ++ pastW G pa pv))))) := by
  refine CI.ent (cc := cX3_nameAt) (maxL := 4) (ty := .int) (own := RX3) (by decide) rfl rfl (Nat.le_of_ble_eq_true rfl) ?_
  intro p ee s m args below meth c A ls F hr hlk hKK hP hD hA hS hl
  obtain ⟨hx, hb, hml, hown, hts⟩ := id F
  have hl : lv_has ls 4 [(0, .ref o), (1, .int x), (2, .int y)] := hl
  have ct_38 := hts (.constant RX3 38 (-1000001)) (by decide +kernel)
  refine lv_iload_n hx hb dX3_nameAt_0 rfl (lv_at hl 1 rfl) ?_
  refine lv_iconst (v := nI 3) hx hb dX3_nameAt_1 (by decide) ?_
  refine z_callSI (As := [.int x, .int (nI 3)]) (rest := []) F (c_X3_isBelow_b l G x 3 (by decide) false h9) (va_cwS 2 hts gX3_nameAt_X3_isBelow rfl rfl rfl (by decide +kernel) ⟨Nat.le_of_ble_eq_true rfl, Nat.le_of_ble_eq_true rfl⟩) hKK hP hD hS hA rfl hl.1 rfl (Nat.le_of_ble_eq_true rfl) ⟨Nat.zero_le _, Nat.zero_le _⟩ dX3_nameAt_2 (fun H locs hP hD hS => ?_)
  refine z_ifBeq (tgt := 12) hx hb dX3_nameAt_5 (by decide) (fun c_1 => ?_) (fun c_1 => absurd c_1 (by decide))
  refine z_ldc (v' := (-1000001)) hx hb hown ct_38 dX3_nameAt_12 rfl ?_
  exact z_iret hx hb hr hlk hP hD hS dX3_nameAt_14 rfl rfl

set_option maxHeartbeats 4000000 in
set_option maxRecDepth 100000 in
theorem c_X3_nameAt_b2 (l : Launch) (G : ZG) (o pr q : Nat) (a b d : Nat → Nat) (pa : Nat → Nat → Nat) (S P L : Nat → Nat) (t v u : Mem) (pv : Nat → Mem) (x y : Int32) (h8 : zBel x 3 = true) (h9 : y < 0) : CI l G yX3_nameAt wsX3_nameAt (zRm 3 69) [.ref o, .int x, .int y] (headW G o pr (prF pa) a b q S ++ (playW G q (d 0) P ++ (textW G b t L ++ (rollW G a v ++ (rollW G d u ++ pastW G pa pv))))) ((-1000001)) (headW G o pr (prF pa) a b q S ++ (playW G q (d 0) P ++ (textW G b t L ++ (rollW G a v ++ (rollW G d u ++ pastW G pa pv))))) := by
  refine CI.ent (cc := cX3_nameAt) (maxL := 4) (ty := .int) (own := RX3) (by decide) rfl rfl (Nat.le_of_ble_eq_true rfl) ?_
  intro p ee s m args below meth c A ls F hr hlk hKK hP hD hA hS hl
  obtain ⟨hx, hb, hml, hown, hts⟩ := id F
  have hl : lv_has ls 4 [(0, .ref o), (1, .int x), (2, .int y)] := hl
  have ct_38 := hts (.constant RX3 38 (-1000001)) (by decide +kernel)
  refine lv_iload_n hx hb dX3_nameAt_0 rfl (lv_at hl 1 rfl) ?_
  refine lv_iconst (v := nI 3) hx hb dX3_nameAt_1 (by decide) ?_
  refine z_callSI (As := [.int x, .int (nI 3)]) (rest := []) F (c_X3_isBelow_b l G x 3 (by decide) true h8) (va_cwS 2 hts gX3_nameAt_X3_isBelow rfl rfl rfl (by decide +kernel) ⟨Nat.le_of_ble_eq_true rfl, Nat.le_of_ble_eq_true rfl⟩) hKK hP hD hS hA rfl hl.1 rfl (Nat.le_of_ble_eq_true rfl) ⟨Nat.zero_le _, Nat.zero_le _⟩ dX3_nameAt_2 (fun H locs hP hD hS => ?_)
  refine z_ifBeq (tgt := 12) hx hb dX3_nameAt_5 (by decide) (fun c_1 => absurd c_1 (by decide)) (fun c_1 => ?_)
  refine lv_iload_n hx hb dX3_nameAt_8 rfl (lv_at hl 2 rfl) ?_
  refine lv_if_ge (tgt := 15) hx hb dX3_nameAt_9 (by decide) (fun c_2 => absurd h9 (i32_nlt c_2)) (fun c_2 => ?_)
  refine z_ldc (v' := (-1000001)) hx hb hown ct_38 dX3_nameAt_12 rfl ?_
  exact z_iret hx hb hr hlk hP hD hS dX3_nameAt_14 rfl rfl

set_option maxHeartbeats 4000000 in
set_option maxRecDepth 100000 in
theorem c_X3_nameAt_ok (l : Launch) (G : ZG) (o pr q : Nat) (a b d : Nat → Nat) (pa : Nat → Nat → Nat) (S P L : Nat → Nat) (t v u : Mem) (pv : Nat → Mem) (x q0 : Nat) (h9 : x < 3) (hq : q0 < 2 ^ 31) (hN : okN v) : CIE l G yX3_nameAt wsX3_nameAt (zRm 3 69) [.ref o, .int (nI x), .int (nI q0)] (headW G o pr (prF pa) a b q S ++ (playW G q (d 0) P ++ (textW G b t L ++ (rollW G a v ++ (rollW G d u ++ pastW G pa pv))))) (S := Unit) (fun r _ => naV v x q0 r) (fun _ => headW G o pr (prF pa) a b q S ++ (playW G q (d 0) P ++ (textW G b t L ++ (rollW G a v ++ (rollW G d u ++ pastW G pa pv))))) := by
  refine CIE.ent (cc := cX3_nameAt) (maxL := 4) (ty := .int) (own := RX3) (by decide) rfl rfl (Nat.le_of_ble_eq_true rfl) ?_
  intro p ee s m args below meth c A ls F hr hlk hKK hP hD hA hS hl
  obtain ⟨hx, hb, hml, hown, hts⟩ := id F
  have hl : lv_has ls 4 [(0, .ref o), (1, .int (nI x)), (2, .int (nI q0))] := hl
  have ct_91 := hts (.constant RX3 91 (-1000004)) (by decide +kernel)
  have fl_10 := hts (.fieldLink RX3 10 "NameRolls" "now" "LNameRolls$Roll;") (by decide +kernel)
  have fl_70 := hts (.fieldLink RX3 70 "NameRolls$Roll" "names" "[I") (by decide +kernel)
  have hinX1 : ∀ w ∈ wsX10, w ∈ wsX3_nameAt := by decide +kernel
  have hinX3 : ∀ w ∈ wsX30, w ∈ wsX3_nameAt := by decide +kernel
  refine lv_iload_n hx hb dX3_nameAt_0 rfl (lv_at hl 1 rfl) ?_
  refine lv_iconst (v := nI 3) hx hb dX3_nameAt_1 (by decide) ?_
  refine z_callSI (As := [.int (nI x), .int (nI 3)]) (rest := []) F (c_X3_isBelow_b l G (nI x) 3 (by decide) true (bel_ok h9 (by decide))) (va_cwS 2 hts gX3_nameAt_X3_isBelow rfl rfl rfl (by decide +kernel) ⟨Nat.le_of_ble_eq_true rfl, Nat.le_of_ble_eq_true rfl⟩) hKK hP hD hS hA rfl hl.1 rfl (Nat.le_of_ble_eq_true rfl) ⟨Nat.zero_le _, Nat.zero_le _⟩ dX3_nameAt_2 (fun H locs hP hD hS => ?_)
  refine z_ifBeq (tgt := 12) hx hb dX3_nameAt_5 (by decide) (fun c_1 => absurd c_1 (by decide)) (fun c_1 => ?_)
  refine lv_iload_n hx hb dX3_nameAt_8 rfl (lv_at hl 2 rfl) ?_
  refine z_ifNge (tgt := 15) hx hb dX3_nameAt_9 (by decide) (by omega) (fun c_2 => ?_) (fun c_2 => absurd c_2 (Nat.not_lt_zero _))
  refine lv_iconst (v := nI 0) hx hb dX3_nameAt_15 (by decide) ?_
  refine lv_istore_n (lv' := [(3, .int (nI 0)), (0, .ref o), (1, .int (nI x)), (2, .int (nI q0))]) hx hb dX3_nameAt_16 rfl hl (by decide) rfl (fun ls hl => ?_)
  have key_3 : ∀ (nn : Nat) (i : Nat), i ≤ 40 → (∀ j, j < i → ¬ v 0 j = 0 → ¬ zPl v x j = q0) → 40 - i < nn → ∀ (H : Heap) (locs : List Loc) (ls : Array Slot), va_P G.1 vwCl (headW G o pr (prF pa) a b q S ++ (playW G q (d 0) P ++ (textW G b t L ++ (rollW G a v ++ (rollW G d u ++ pastW G pa pv))))) H → va_D A (headW G o pr (prF pa) a b q S ++ (playW G q (d 0) P ++ (textW G b t L ++ (rollW G a v ++ (rollW G d u ++ pastW G pa pv))))) → va_S A s.heap H locs → lv_has ls 4 [(0, .ref o), (1, .int (nI x)), (2, .int (nI q0)), (3, .int (nI i))] → W p l ee (zRm 3 69) s m args below meth c H locs 0 0 (MQ below (ZQie G A (S := Unit) (fun r _ => naV v x q0 r) (fun _ => headW G o pr (prF pa) a b q S ++ (playW G q (d 0) P ++ (textW G b t L ++ (rollW G a v ++ (rollW G d u ++ pastW G pa pv)))))) args s 0 0 A) (F0 m 17 ls []) := by
    intro nn
    induction nn with
    | zero => intro i _ _ hm; exact absurd hm (Nat.not_lt_zero _)
    | succ nn ih_3 =>
      intro i hi hno hm H locs ls hP hD hS hl
      refine lv_iload_n hx hb dX3_nameAt_17 rfl (lv_at hl 3 rfl) ?_
      refine lv_bipush (v := nI 40) hx hb dX3_nameAt_18 (by decide) ?_
      refine z_ge (tgt := 64) hx hb dX3_nameAt_20 (by decide) (by omega) (by omega) (fun c_4 => ?_) (fun c_4 => ?_)
      · skip
        refine z_ldc (v' := (-1000004)) hx hb hown ct_91 dX3_nameAt_64 rfl ?_
        exact z_iretE () hx hb hr hlk hP hD hS dX3_nameAt_66 rfl (Or.inr ⟨fun j hj => hno j (by omega), rfl⟩)
      · skip
        refine lv_aload_n hx hb dX3_nameAt_23 rfl (lv_at hl 0 rfl) ?_
        refine va_get (D := G.1) (ci := 3) (v := .ref (a 0)) (C := RX3) (T := TX3) (N := 5) hx hb hts hinX3 hown hKK.1 hP 0 rfl rfl 0 (by decide) fl_10 (fun _ h9 => h9) rfl dX3_nameAt_24 ?_
        refine va_get (D := G.1) (ci := 1) (v := .ref (a 1)) (C := RX1) (T := TX1) (N := 15) hx hb hts hinX1 hown hKK.1 hP 5 rfl rfl 0 (by decide) fl_70 (fun _ h9 => h9) rfl dX3_nameAt_27 ?_
        refine lv_iload_n hx hb dX3_nameAt_30 rfl (lv_at hl 3 rfl) ?_
        refine z_iald (n := 40) (f := v 0) (v := v 0 i) hx hb hKK hP 6 rfl (by omega) (by decide) rfl dX3_nameAt_31 ?_
        refine lv_if_eq (tgt := 58) hx hb dX3_nameAt_32 (by decide) (fun c_5 => ?_) (fun c_5 => ?_)
        · skip
          refine lv_iinc (v := nI (i + 1)) (lv' := [(3, .int (nI (i + 1))), (0, .ref o), (1, .int (nI x)), (2, .int (nI q0))]) hx hb dX3_nameAt_58 hl (k := 3) rfl (nI_1 _) (by decide) rfl (fun ls hl => ?_)
          refine lv_goto (tgt := 17) hx hb dX3_nameAt_61 (by decide) ?_
          exact ih_3 (i + 1) (by omega) (na_s hno (Or.inl c_5)) (by omega) _ _ _ hP hD hS (lv_sub hl [1, 2, 3, 0] rfl)
        · skip
          have h0 := c_5
          refine lv_aload_n hx hb dX3_nameAt_35 rfl (lv_at hl 0 rfl) ?_
          refine va_get (D := G.1) (ci := 3) (v := .ref (a 0)) (C := RX3) (T := TX3) (N := 5) hx hb hts hinX3 hown hKK.1 hP 0 rfl rfl 0 (by decide) fl_10 (fun _ h9 => h9) rfl dX3_nameAt_36 ?_
          refine lv_iload_n hx hb dX3_nameAt_39 rfl (lv_at hl 3 rfl) ?_
          refine lv_iload_n hx hb dX3_nameAt_40 rfl (lv_at hl 1 rfl) ?_
          refine z_callVI (As := [.int (nI i), .int (nI x)]) (rest := []) (wr := (headW G o pr (prF pa) a b q S ++ (playW G q (d 0) P ++ (textW G b t L ++ (rollW G d u ++ pastW G pa pv))))) (C := RX1) F (c_X1_placeOf l G a v i x (by omega) (by omega) hN) (cwV 2 hts gX3_nameAt_X1_placeOf rfl rfl rfl (by decide +kernel) ⟨Nat.le_of_ble_eq_true rfl, Nat.le_of_ble_eq_true rfl⟩) hKK (z_recv hKK hP (q0 := 5) (ci := 1) rfl rfl) (z_perm (pn_a _ _ _ _ _) hP) (z_permD (pn_a _ _ _ _ _) hD) hS hA rfl hl.1 rfl (Nat.le_of_ble_eq_true rfl) ⟨Nat.zero_le _, Nat.zero_le _⟩ dX3_nameAt_41 (fun H locs hP hD hS => ?_)
          have hP : va_P G.1 vwCl (headW G o pr (prF pa) a b q S ++ (playW G q (d 0) P ++ (textW G b t L ++ (rollW G a v ++ (rollW G d u ++ pastW G pa pv))))) H := (z_perm (pn_a _ _ _ _ _).symm hP)
          have hD : va_D A (headW G o pr (prF pa) a b q S ++ (playW G q (d 0) P ++ (textW G b t L ++ (rollW G a v ++ (rollW G d u ++ pastW G pa pv))))) := (z_permD (pn_a _ _ _ _ _).symm hD)
          refine lv_iload_n hx hb dX3_nameAt_44 rfl (lv_at hl 2 rfl) ?_
          refine z_ne (tgt := 58) hx hb dX3_nameAt_45 (by decide) (by have := zPl_40 (v := v) (ρ := x) (j := i) (by omega); omega) (by omega) (fun c_6 => ?_) (fun c_6 => ?_)
          · skip
            refine lv_iinc (v := nI (i + 1)) (lv' := [(3, .int (nI (i + 1))), (0, .ref o), (1, .int (nI x)), (2, .int (nI q0))]) hx hb dX3_nameAt_58 hl (k := 3) rfl (nI_1 _) (by decide) rfl (fun ls hl => ?_)
            refine lv_goto (tgt := 17) hx hb dX3_nameAt_61 (by decide) ?_
            exact ih_3 (i + 1) (by omega) (na_s hno (Or.inr c_6)) (by omega) _ _ _ hP hD hS (lv_sub hl [1, 2, 3, 0] rfl)
          · skip
            refine lv_aload_n hx hb dX3_nameAt_48 rfl (lv_at hl 0 rfl) ?_
            refine va_get (D := G.1) (ci := 3) (v := .ref (a 0)) (C := RX3) (T := TX3) (N := 5) hx hb hts hinX3 hown hKK.1 hP 0 rfl rfl 0 (by decide) fl_10 (fun _ h9 => h9) rfl dX3_nameAt_49 ?_
            refine va_get (D := G.1) (ci := 1) (v := .ref (a 1)) (C := RX1) (T := TX1) (N := 15) hx hb hts hinX1 hown hKK.1 hP 5 rfl rfl 0 (by decide) fl_70 (fun _ h9 => h9) rfl dX3_nameAt_52 ?_
            refine lv_iload_n hx hb dX3_nameAt_55 rfl (lv_at hl 3 rfl) ?_
            refine z_iald (n := 40) (f := v 0) (v := v 0 i) hx hb hKK hP 6 rfl (by omega) (by decide) rfl dX3_nameAt_56 ?_
            exact z_iretE () hx hb hr hlk hP hD hS dX3_nameAt_57 rfl (Or.inl ⟨i, by omega, h0, c_6, rfl⟩)
  exact key_3 _ 0 (by omega) (fun j h => absurd h (Nat.not_lt_zero _)) (Nat.lt_succ_self _) _ _ _ hP hD hS (lv_sub hl [1, 2, 3, 0] rfl)

set_option maxHeartbeats 4000000 in
set_option maxRecDepth 100000 in
theorem c_X3_beginning_bad (l : Launch) (G : ZG) (o pr q : Nat) (a b d : Nat → Nat) (pa : Nat → Nat → Nat) (S P L : Nat → Nat) (t v u : Mem) (pv : Nat → Mem) (x : Int32) (h9 : zName x = false) : CI l G yX3_beginning wsX3_beginning (zRm 1 23) [.ref o, .int x] (headW G o pr (prF pa) a b q S ++ (playW G q (d 0) P ++ (textW G b t L ++ (rollW G a v ++ (rollW G d u ++ pastW G pa pv))))) ((-1000001)) (headW G o pr (prF pa) a b q S ++ (playW G q (d 0) P ++ (textW G b t L ++ (rollW G a v ++ (rollW G d u ++ pastW G pa pv))))) := by
  refine CI.ent (cc := cX3_beginning) (maxL := 4) (ty := .int) (own := RX3) (by decide) rfl rfl (Nat.le_of_ble_eq_true rfl) ?_
  intro p ee s m args below meth c A ls F hr hlk hKK hP hD hA hS hl
  obtain ⟨hx, hb, hml, hown, hts⟩ := id F
  have hl : lv_has ls 4 [(0, .ref o), (1, .int x)] := hl
  have ct_38 := hts (.constant RX3 38 (-1000001)) (by decide +kernel)
  refine lv_iload_n hx hb dX3_beginning_0 rfl (lv_at hl 1 rfl) ?_
  refine z_callSI (As := [.int x]) (rest := []) F (c_X3_isName_b l G x false h9) (va_cwS 1 hts gX3_beginning_X3_isName rfl rfl rfl (by decide +kernel) ⟨Nat.le_of_ble_eq_true rfl, Nat.le_of_ble_eq_true rfl⟩) hKK hP hD hS hA rfl hl.1 rfl (Nat.le_of_ble_eq_true rfl) ⟨Nat.zero_le _, Nat.zero_le _⟩ dX3_beginning_1 (fun H locs hP hD hS => ?_)
  refine z_ifBne (tgt := 10) hx hb dX3_beginning_4 (by decide) (fun c_1 => absurd c_1 (by decide)) (fun c_1 => ?_)
  refine z_ldc (v' := (-1000001)) hx hb hown ct_38 dX3_beginning_7 rfl ?_
  exact z_iret hx hb hr hlk hP hD hS dX3_beginning_9 rfl rfl

set_option maxHeartbeats 4000000 in
set_option maxRecDepth 100000 in
theorem c_X3_beginning_ok (l : Launch) (G : ZG) (o pr q : Nat) (a b d : Nat → Nat) (pa : Nat → Nat → Nat) (S P L : Nat → Nat) (t v u : Mem) (pv : Nat → Mem) (w : Nat) (h9 : zName (nI w) = true) (hw : w < 387420489) (hN : okN v) : CI l G yX3_beginning wsX3_beginning (zRm 1 23) [.ref o, .int (nI w)] (headW G o pr (prF pa) a b q S ++ (playW G q (d 0) P ++ (textW G b t L ++ (rollW G a v ++ (rollW G d u ++ pastW G pa pv))))) (nI (fb_ct (pBg (v 0) w) 40)) (headW G o pr (prF pa) a b q S ++ (playW G q (d 0) P ++ (textW G b t L ++ (rollW G a v ++ (rollW G d u ++ pastW G pa pv))))) := by
  refine CI.ent (cc := cX3_beginning) (maxL := 4) (ty := .int) (own := RX3) (by decide) rfl rfl (Nat.le_of_ble_eq_true rfl) ?_
  intro p ee s m args below meth c A ls F hr hlk hKK hP hD hA hS hl
  obtain ⟨hx, hb, hml, hown, hts⟩ := id F
  have hl : lv_has ls 4 [(0, .ref o), (1, .int (nI w))] := hl
  have fl_10 := hts (.fieldLink RX3 10 "NameRolls" "now" "LNameRolls$Roll;") (by decide +kernel)
  have fl_70 := hts (.fieldLink RX3 70 "NameRolls$Roll" "names" "[I") (by decide +kernel)
  have hinX1 : ∀ w ∈ wsX10, w ∈ wsX3_beginning := by decide +kernel
  have hinX3 : ∀ w ∈ wsX30, w ∈ wsX3_beginning := by decide +kernel
  refine lv_iload_n hx hb dX3_beginning_0 rfl (lv_at hl 1 rfl) ?_
  refine z_callSI (As := [.int (nI w)]) (rest := []) F (c_X3_isName_b l G (nI w) true h9) (va_cwS 1 hts gX3_beginning_X3_isName rfl rfl rfl (by decide +kernel) ⟨Nat.le_of_ble_eq_true rfl, Nat.le_of_ble_eq_true rfl⟩) hKK hP hD hS hA rfl hl.1 rfl (Nat.le_of_ble_eq_true rfl) ⟨Nat.zero_le _, Nat.zero_le _⟩ dX3_beginning_1 (fun H locs hP hD hS => ?_)
  refine z_ifBne (tgt := 10) hx hb dX3_beginning_4 (by decide) (fun c_1 => ?_) (fun c_1 => absurd c_1 (by decide))
  refine lv_iconst (v := nI 0) hx hb dX3_beginning_10 (by decide) ?_
  refine lv_istore_n (lv' := [(2, .int (nI 0)), (0, .ref o), (1, .int (nI w))]) hx hb dX3_beginning_11 rfl hl (by decide) rfl (fun ls hl => ?_)
  refine lv_iconst (v := nI 0) hx hb dX3_beginning_12 (by decide) ?_
  refine lv_istore_n (lv' := [(3, .int (nI 0)), (2, .int (nI 0)), (0, .ref o), (1, .int (nI w))]) hx hb dX3_beginning_13 rfl hl (by decide) rfl (fun ls hl => ?_)
  have key_2 : ∀ (nn : Nat) (i : Nat), i ≤ 40 → 40 - i < nn → ∀ (H : Heap) (locs : List Loc) (ls : Array Slot), va_P G.1 vwCl (headW G o pr (prF pa) a b q S ++ (playW G q (d 0) P ++ (textW G b t L ++ (rollW G a v ++ (rollW G d u ++ pastW G pa pv))))) H → va_D A (headW G o pr (prF pa) a b q S ++ (playW G q (d 0) P ++ (textW G b t L ++ (rollW G a v ++ (rollW G d u ++ pastW G pa pv))))) → va_S A s.heap H locs → lv_has ls 4 [(0, .ref o), (1, .int (nI w)), (2, .int (nI (fb_ct (pBg (v 0) w) i))), (3, .int (nI i))] → W p l ee (zRm 1 23) s m args below meth c H locs 0 0 (MQ below (ZQi G A (headW G o pr (prF pa) a b q S ++ (playW G q (d 0) P ++ (textW G b t L ++ (rollW G a v ++ (rollW G d u ++ pastW G pa pv))))) (nI (fb_ct (pBg (v 0) w) 40))) args s 0 0 A) (F0 m 14 ls []) := by
    intro nn
    induction nn with
    | zero => intro i _ hm; exact absurd hm (Nat.not_lt_zero _)
    | succ nn ih_2 =>
      intro i hi hm H locs ls hP hD hS hl
      refine lv_iload_n hx hb dX3_beginning_14 rfl (lv_at hl 3 rfl) ?_
      refine lv_bipush (v := nI 40) hx hb dX3_beginning_15 (by decide) ?_
      refine z_ge (tgt := 57) hx hb dX3_beginning_17 (by decide) (by omega) (by omega) (fun c_3 => ?_) (fun c_3 => ?_)
      · skip
        refine lv_iload_n hx hb dX3_beginning_57 rfl (lv_at hl 2 rfl) ?_
        exact z_iret hx hb hr hlk hP hD hS dX3_beginning_58 (by rw [show i = 40 by omega]) rfl
      · skip
        refine lv_aload_n hx hb dX3_beginning_20 rfl (lv_at hl 0 rfl) ?_
        refine va_get (D := G.1) (ci := 3) (v := .ref (a 0)) (C := RX3) (T := TX3) (N := 5) hx hb hts hinX3 hown hKK.1 hP 0 rfl rfl 0 (by decide) fl_10 (fun _ h9 => h9) rfl dX3_beginning_21 ?_
        refine va_get (D := G.1) (ci := 1) (v := .ref (a 1)) (C := RX1) (T := TX1) (N := 15) hx hb hts hinX1 hown hKK.1 hP 5 rfl rfl 0 (by decide) fl_70 (fun _ h9 => h9) rfl dX3_beginning_24 ?_
        refine lv_iload_n hx hb dX3_beginning_27 rfl (lv_at hl 3 rfl) ?_
        refine z_iald (n := 40) (f := v 0) (v := v 0 i) hx hb hKK hP 6 rfl (by omega) (by decide) rfl dX3_beginning_28 ?_
        refine lv_if_eq (tgt := 51) hx hb dX3_beginning_29 (by decide) (fun c_4 => ?_) (fun c_4 => ?_)
        · skip
          refine lv_iinc (v := nI (i + 1)) (lv' := [(3, .int (nI (i + 1))), (0, .ref o), (1, .int (nI w)), (2, .int (nI (fb_ct (pBg (v 0) w) i)))]) hx hb dX3_beginning_51 hl (k := 3) rfl (nI_1 _) (by decide) rfl (fun ls hl => ?_)
          refine lv_goto (tgt := 14) hx hb dX3_beginning_54 (by decide) ?_
          rw [← fb_ct_f (p := pBg (v 0) w) (n := i) (by rw [pBg, show decide (¬ v 0 i = 0) = false from decide_eq_false (fun z => z c_4)]; rfl)] at hl
          exact ih_2 (i + 1) (by omega) (by omega) _ _ _ hP hD hS (lv_sub hl [1, 2, 3, 0] rfl)
        · skip
          have h0 := c_4
          refine lv_aload_n hx hb dX3_beginning_32 rfl (lv_at hl 0 rfl) ?_
          refine va_get (D := G.1) (ci := 3) (v := .ref (a 0)) (C := RX3) (T := TX3) (N := 5) hx hb hts hinX3 hown hKK.1 hP 0 rfl rfl 0 (by decide) fl_10 (fun _ h9 => h9) rfl dX3_beginning_33 ?_
          refine va_get (D := G.1) (ci := 1) (v := .ref (a 1)) (C := RX1) (T := TX1) (N := 15) hx hb hts hinX1 hown hKK.1 hP 5 rfl rfl 0 (by decide) fl_70 (fun _ h9 => h9) rfl dX3_beginning_36 ?_
          refine lv_iload_n hx hb dX3_beginning_39 rfl (lv_at hl 3 rfl) ?_
          refine z_iald (n := 40) (f := v 0) (v := v 0 i) hx hb hKK hP 6 rfl (by omega) (by decide) rfl dX3_beginning_40 ?_
          refine z_top (v := nI (nmK v i)) (hN i (by omega)).1 ?_
          refine lv_iload_n hx hb dX3_beginning_41 rfl (lv_at hl 1 rfl) ?_
          refine z_callSI (As := [.int (nI (nmK v i)), .int (nI w)]) (rest := []) F (c_X3_beginsWith l G (nmK v i) w (hN i (by omega)).2 hw) (va_cwS 2 hts gX3_beginning_X3_beginsWith rfl rfl rfl (by decide +kernel) ⟨Nat.le_of_ble_eq_true rfl, Nat.le_of_ble_eq_true rfl⟩) hKK hP hD hS hA rfl hl.1 rfl (Nat.le_of_ble_eq_true rfl) ⟨Nat.zero_le _, Nat.zero_le _⟩ dX3_beginning_42 (fun H locs hP hD hS => ?_)
          refine z_ifBeq (tgt := 51) hx hb dX3_beginning_45 (by decide) (fun c_5 => ?_) (fun c_5 => ?_)
          · skip
            refine lv_iinc (v := nI (i + 1)) (lv' := [(3, .int (nI (i + 1))), (0, .ref o), (1, .int (nI w)), (2, .int (nI (fb_ct (pBg (v 0) w) i)))]) hx hb dX3_beginning_51 hl (k := 3) rfl (nI_1 _) (by decide) rfl (fun ls hl => ?_)
            refine lv_goto (tgt := 14) hx hb dX3_beginning_54 (by decide) ?_
            rw [← fb_ct_f (p := pBg (v 0) w) (n := i) (by rw [pBg, show decide (begK 5 (v 0 i).toNatClampNeg w = w) = false from c_5]; exact Bool.and_false _)] at hl
            exact ih_2 (i + 1) (by omega) (by omega) _ _ _ hP hD hS (lv_sub hl [1, 2, 3, 0] rfl)
          · skip
            refine lv_iinc (v := nI (fb_ct (pBg (v 0) w) (i + 1))) (lv' := [(2, .int (nI (fb_ct (pBg (v 0) w) (i + 1)))), (0, .ref o), (1, .int (nI w)), (3, .int (nI i))]) hx hb dX3_beginning_48 hl (k := 2) rfl (by rw [fb_ct_t (p := pBg (v 0) w) (n := i) (by rw [pBg, show decide (¬ v 0 i = 0) = true from decide_eq_true h0, show decide (begK 5 (v 0 i).toNatClampNeg w = w) = true from c_5]; rfl)]; exact nI_1 _) (by decide) rfl (fun ls hl => ?_)
            refine lv_iinc (v := nI (i + 1)) (lv' := [(3, .int (nI (i + 1))), (2, .int (nI (fb_ct (pBg (v 0) w) (i + 1)))), (0, .ref o), (1, .int (nI w))]) hx hb dX3_beginning_51 hl (k := 3) rfl (nI_1 _) (by decide) rfl (fun ls hl => ?_)
            refine lv_goto (tgt := 14) hx hb dX3_beginning_54 (by decide) ?_
            exact ih_2 (i + 1) (by omega) (by omega) _ _ _ hP hD hS (lv_sub hl [2, 3, 1, 0] rfl)
  exact key_2 _ 0 (by omega) (Nat.lt_succ_self _) _ _ _ hP hD hS (lv_sub hl [2, 3, 1, 0] rfl)

set_option maxHeartbeats 4000000 in
set_option maxRecDepth 100000 in
theorem c_X3_behind_bad (l : Launch) (G : ZG) (o pr q : Nat) (a b d : Nat → Nat) (pa : Nat → Nat → Nat) (S P L : Nat → Nat) (t v u : Mem) (pv : Nat → Mem) (x : Int32) (h9 : zName x = false) : CI l G yX3_behind wsX3_behind (zRm 1 22) [.ref o, .int x] (headW G o pr (prF pa) a b q S ++ (playW G q (d 0) P ++ (textW G b t L ++ (rollW G a v ++ (rollW G d u ++ pastW G pa pv))))) ((-1000001)) (headW G o pr (prF pa) a b q S ++ (playW G q (d 0) P ++ (textW G b t L ++ (rollW G a v ++ (rollW G d u ++ pastW G pa pv))))) := by
  refine CI.ent (cc := cX3_behind) (maxL := 7) (ty := .int) (own := RX3) (by decide) rfl rfl (Nat.le_of_ble_eq_true rfl) ?_
  intro p ee s m args below meth c A ls F hr hlk hKK hP hD hA hS hl
  obtain ⟨hx, hb, hml, hown, hts⟩ := id F
  have hl : lv_has ls 7 [(0, .ref o), (1, .int x)] := hl
  have ct_38 := hts (.constant RX3 38 (-1000001)) (by decide +kernel)
  refine lv_iload_n hx hb dX3_behind_0 rfl (lv_at hl 1 rfl) ?_
  refine z_callSI (As := [.int x]) (rest := []) F (c_X3_isName_b l G x false h9) (va_cwS 1 hts gX3_behind_X3_isName rfl rfl rfl (by decide +kernel) ⟨Nat.le_of_ble_eq_true rfl, Nat.le_of_ble_eq_true rfl⟩) hKK hP hD hS hA rfl hl.1 rfl (Nat.le_of_ble_eq_true rfl) ⟨Nat.zero_le _, Nat.zero_le _⟩ dX3_behind_1 (fun H locs hP hD hS => ?_)
  refine z_ifBne (tgt := 10) hx hb dX3_behind_4 (by decide) (fun c_1 => absurd c_1 (by decide)) (fun c_1 => ?_)
  refine z_ldc (v' := (-1000001)) hx hb hown ct_38 dX3_behind_7 rfl ?_
  exact z_iret hx hb hr hlk hP hD hS dX3_behind_9 rfl rfl

set_option maxHeartbeats 4000000 in
set_option maxRecDepth 100000 in
theorem c_X3_behind_ok (l : Launch) (G : ZG) (o pr q : Nat) (a b d : Nat → Nat) (pa : Nat → Nat → Nat) (S P L : Nat → Nat) (t v u : Mem) (pv : Nat → Mem) (w : Nat) (h9 : zName (nI w) = true) (hw : w < 387420489) (hN : okN v) : CIE l G yX3_behind wsX3_behind (zRm 1 22) [.ref o, .int (nI w)] (headW G o pr (prF pa) a b q S ++ (playW G q (d 0) P ++ (textW G b t L ++ (rollW G a v ++ (rollW G d u ++ pastW G pa pv))))) (S := Unit) (fun r _ => bhV v (padK 5 w) r) (fun _ => headW G o pr (prF pa) a b q S ++ (playW G q (d 0) P ++ (textW G b t L ++ (rollW G a v ++ (rollW G d u ++ pastW G pa pv))))) := by
  refine CIE.ent (cc := cX3_behind) (maxL := 7) (ty := .int) (own := RX3) (by decide) rfl rfl (Nat.le_of_ble_eq_true rfl) ?_
  intro p ee s m args below meth c A ls F hr hlk hKK hP hD hA hS hl
  obtain ⟨hx, hb, hml, hown, hts⟩ := id F
  have hl : lv_has ls 7 [(0, .ref o), (1, .int (nI w))] := hl
  have ct_91 := hts (.constant RX3 91 (-1000004)) (by decide +kernel)
  have fl_10 := hts (.fieldLink RX3 10 "NameRolls" "now" "LNameRolls$Roll;") (by decide +kernel)
  have fl_70 := hts (.fieldLink RX3 70 "NameRolls$Roll" "names" "[I") (by decide +kernel)
  have hinX1 : ∀ w ∈ wsX10, w ∈ wsX3_behind := by decide +kernel
  have hinX3 : ∀ w ∈ wsX30, w ∈ wsX3_behind := by decide +kernel
  refine lv_iload_n hx hb dX3_behind_0 rfl (lv_at hl 1 rfl) ?_
  refine z_callSI (As := [.int (nI w)]) (rest := []) F (c_X3_isName_b l G (nI w) true h9) (va_cwS 1 hts gX3_behind_X3_isName rfl rfl rfl (by decide +kernel) ⟨Nat.le_of_ble_eq_true rfl, Nat.le_of_ble_eq_true rfl⟩) hKK hP hD hS hA rfl hl.1 rfl (Nat.le_of_ble_eq_true rfl) ⟨Nat.zero_le _, Nat.zero_le _⟩ dX3_behind_1 (fun H locs hP hD hS => ?_)
  refine z_ifBne (tgt := 10) hx hb dX3_behind_4 (by decide) (fun c_1 => ?_) (fun c_1 => absurd c_1 (by decide))
  refine lv_iload_n hx hb dX3_behind_10 rfl (lv_at hl 1 rfl) ?_
  refine z_callSI (As := [.int (nI w)]) (rest := []) F (c_X3_orderKey l G (w) hw) (va_cwS 1 hts gX3_behind_X3_orderKey rfl rfl rfl (by decide +kernel) ⟨Nat.le_of_ble_eq_true rfl, Nat.le_of_ble_eq_true rfl⟩) hKK hP hD hS hA rfl hl.1 rfl (Nat.le_of_ble_eq_true rfl) ⟨Nat.zero_le _, Nat.zero_le _⟩ dX3_behind_11 (fun H locs hP hD hS => ?_)
  refine lv_istore_n (lv' := [(2, .int (nI (padK 5 w))), (0, .ref o), (1, .int (nI w))]) hx hb dX3_behind_14 rfl hl (by decide) rfl (fun ls hl => ?_)
  refine lv_iconst (v := nI 0) hx hb dX3_behind_15 (by decide) ?_
  refine lv_istore_n (lv' := [(3, .int (nI 0)), (2, .int (nI (padK 5 w))), (0, .ref o), (1, .int (nI w))]) hx hb dX3_behind_16 rfl hl (by decide) rfl (fun ls hl => ?_)
  refine lv_iconst (v := nI 0) hx hb dX3_behind_17 (by decide) ?_
  refine lv_istore (lv' := [(4, .int (nI 0)), (3, .int (nI 0)), (2, .int (nI (padK 5 w))), (0, .ref o), (1, .int (nI w))]) hx hb dX3_behind_18 hl (by decide) rfl (fun ls hl => ?_)
  have key_2 : ∀ (nn : Nat) (i : Nat) (f1 : Int32), i ≤ 40 → bhI v (padK 5 w) i f1 → 40 - i < nn → ∀ (H : Heap) (locs : List Loc) (ls : Array Slot), va_P G.1 vwCl (headW G o pr (prF pa) a b q S ++ (playW G q (d 0) P ++ (textW G b t L ++ (rollW G a v ++ (rollW G d u ++ pastW G pa pv))))) H → va_D A (headW G o pr (prF pa) a b q S ++ (playW G q (d 0) P ++ (textW G b t L ++ (rollW G a v ++ (rollW G d u ++ pastW G pa pv))))) → va_S A s.heap H locs → lv_has ls 7 [(0, .ref o), (1, .int (nI w)), (2, .int (nI (padK 5 w))), (3, .int f1), (4, .int (nI i))] → W p l ee (zRm 1 22) s m args below meth c H locs 0 0 (MQ below (ZQie G A (S := Unit) (fun r _ => bhV v (padK 5 w) r) (fun _ => headW G o pr (prF pa) a b q S ++ (playW G q (d 0) P ++ (textW G b t L ++ (rollW G a v ++ (rollW G d u ++ pastW G pa pv)))))) args s 0 0 A) (F0 m 20 ls []) := by
    intro nn
    induction nn with
    | zero => intro i f1 _ _ hm; exact absurd hm (Nat.not_lt_zero _)
    | succ nn ih_2 =>
      intro i f1 hi hinv hm H locs ls hP hD hS hl
      refine lv_iload hx hb dX3_behind_20 (lv_at hl 4 rfl) ?_
      refine lv_bipush (v := nI 40) hx hb dX3_behind_22 (by decide) ?_
      refine z_ge (tgt := 90) hx hb dX3_behind_24 (by decide) (by omega) (by omega) (fun c_3 => ?_) (fun c_3 => ?_)
      · skip
        refine lv_iload_n hx hb dX3_behind_90 rfl (lv_at hl 3 rfl) ?_
        refine lv_if_ne (tgt := 99) hx hb dX3_behind_91 (by decide) (fun c_4 => ?_) (fun c_4 => ?_)
        · skip
          refine lv_iload_n hx hb dX3_behind_99 rfl (lv_at hl 3 rfl) ?_
          exact z_iretE () hx hb hr hlk hP hD hS dX3_behind_100 rfl (bhV_y hinv (by omega) c_4 hN)
        · skip
          refine z_ldc (v' := (-1000004)) hx hb hown ct_91 dX3_behind_94 rfl ?_
          refine lv_goto (tgt := 100) hx hb dX3_behind_96 (by decide) ?_
          exact z_iretE () hx hb hr hlk hP hD hS dX3_behind_100 rfl (bhV_n hinv (by omega) c_4 hN)
      · skip
        refine lv_aload_n hx hb dX3_behind_27 rfl (lv_at hl 0 rfl) ?_
        refine va_get (D := G.1) (ci := 3) (v := .ref (a 0)) (C := RX3) (T := TX3) (N := 5) hx hb hts hinX3 hown hKK.1 hP 0 rfl rfl 0 (by decide) fl_10 (fun _ h9 => h9) rfl dX3_behind_28 ?_
        refine va_get (D := G.1) (ci := 1) (v := .ref (a 1)) (C := RX1) (T := TX1) (N := 15) hx hb hts hinX1 hown hKK.1 hP 5 rfl rfl 0 (by decide) fl_70 (fun _ h9 => h9) rfl dX3_behind_31 ?_
        refine lv_iload hx hb dX3_behind_34 (lv_at hl 4 rfl) ?_
        refine z_iald (n := 40) (f := v 0) (v := v 0 i) hx hb hKK hP 6 rfl (by omega) (by decide) rfl dX3_behind_36 ?_
        refine z_top (v := nI (nmK v i)) (hN i (by omega)).1 ?_
        refine lv_istore (lv' := [(5, .int (nI (nmK v i))), (0, .ref o), (1, .int (nI w)), (2, .int (nI (padK 5 w))), (3, .int f1), (4, .int (nI i))]) hx hb dX3_behind_37 hl (by decide) rfl (fun ls hl => ?_)
        refine lv_iload hx hb dX3_behind_39 (lv_at hl 0 rfl) ?_
        refine z_ifNeq (tgt := 57) hx hb dX3_behind_41 (by decide) (by have := (hN i (by omega)).2; omega) (fun c_5 => ?_) (fun c_5 => ?_)
        · skip
          have hz0 := c_5
          refine lv_iconst (v := nI 0) hx hb dX3_behind_57 (by decide) ?_
          refine lv_istore (lv' := [(6, .int (nI 0)), (5, .int (nI (nmK v i))), (0, .ref o), (1, .int (nI w)), (2, .int (nI (padK 5 w))), (3, .int f1), (4, .int (nI i))]) hx hb dX3_behind_58 hl (by decide) rfl (fun ls hl => ?_)
          refine lv_iload hx hb dX3_behind_60 (lv_at hl 0 rfl) ?_
          refine z_ifNeq (tgt := 84) hx hb dX3_behind_62 (by decide) (by omega) (fun c_6 => ?_) (fun c_6 => absurd c_6 (by decide))
          refine lv_iinc (v := nI (i + 1)) (lv' := [(4, .int (nI (i + 1))), (6, .int (nI 0)), (5, .int (nI (nmK v i))), (0, .ref o), (1, .int (nI w)), (2, .int (nI (padK 5 w))), (3, .int f1)]) hx hb dX3_behind_84 hl (k := 6) rfl (nI_1 _) (by decide) rfl (fun ls hl => ?_)
          refine lv_goto (tgt := 20) hx hb dX3_behind_87 (by decide) ?_
          exact ih_2 (i + 1) f1 (by omega) (bhI_k hinv (Or.inl (nm_z0 hz0 (hN i (by omega)).1))) (by omega) _ _ _ hP hD hS (lv_sub hl [3, 4, 5, 6, 0] rfl)
        · skip
          have h0 := nm_n0 c_5
          refine lv_iload hx hb dX3_behind_44 (lv_at hl 0 rfl) ?_
          refine z_callSI (As := [.int (nI (nmK v i))]) (rest := []) F (c_X3_orderKey l G (nmK v i) (hN i (by omega)).2) (va_cwS 1 hts gX3_behind_X3_orderKey rfl rfl rfl (by decide +kernel) ⟨Nat.le_of_ble_eq_true rfl, Nat.le_of_ble_eq_true rfl⟩) hKK hP hD hS hA rfl hl.1 rfl (Nat.le_of_ble_eq_true rfl) ⟨Nat.zero_le _, Nat.zero_le _⟩ dX3_behind_46 (fun H locs hP hD hS => ?_)
          refine lv_iload_n hx hb dX3_behind_49 rfl (lv_at hl 3 rfl) ?_
          refine z_le (tgt := 57) hx hb dX3_behind_50 (by decide) (Nat.lt_trans (padK_lt 5 _ (hN i (by omega)).2) (by decide)) (Nat.lt_trans (padK_lt 5 _ hw) (by decide)) (fun c_7 => ?_) (fun c_7 => ?_)
          · skip
            have hn1 := c_7
            refine lv_iconst (v := nI 0) hx hb dX3_behind_57 (by decide) ?_
            refine lv_istore (lv' := [(6, .int (nI 0)), (5, .int (nI (nmK v i))), (0, .ref o), (1, .int (nI w)), (2, .int (nI (padK 5 w))), (3, .int f1), (4, .int (nI i))]) hx hb dX3_behind_58 hl (by decide) rfl (fun ls hl => ?_)
            refine lv_iload hx hb dX3_behind_60 (lv_at hl 0 rfl) ?_
            refine z_ifNeq (tgt := 84) hx hb dX3_behind_62 (by decide) (by omega) (fun c_8 => ?_) (fun c_8 => absurd c_8 (by decide))
            refine lv_iinc (v := nI (i + 1)) (lv' := [(4, .int (nI (i + 1))), (6, .int (nI 0)), (5, .int (nI (nmK v i))), (0, .ref o), (1, .int (nI w)), (2, .int (nI (padK 5 w))), (3, .int f1)]) hx hb dX3_behind_84 hl (k := 6) rfl (nI_1 _) (by decide) rfl (fun ls hl => ?_)
            refine lv_goto (tgt := 20) hx hb dX3_behind_87 (by decide) ?_
            exact ih_2 (i + 1) f1 (by omega) (bhI_k hinv (Or.inr (Nat.not_lt.mpr hn1))) (by omega) _ _ _ hP hD hS (lv_sub hl [3, 4, 5, 6, 0] rfl)
          · skip
            have hkb := c_7
            refine lv_iconst (v := nI 1) hx hb dX3_behind_53 (by decide) ?_
            refine lv_goto (tgt := 58) hx hb dX3_behind_54 (by decide) ?_
            refine lv_istore (lv' := [(6, .int (nI 1)), (5, .int (nI (nmK v i))), (0, .ref o), (1, .int (nI w)), (2, .int (nI (padK 5 w))), (3, .int f1), (4, .int (nI i))]) hx hb dX3_behind_58 hl (by decide) rfl (fun ls hl => ?_)
            refine lv_iload hx hb dX3_behind_60 (lv_at hl 0 rfl) ?_
            refine z_ifNeq (tgt := 84) hx hb dX3_behind_62 (by decide) (by omega) (fun c_9 => absurd c_9 (by decide)) (fun c_9 => ?_)
            refine lv_iload_n hx hb dX3_behind_65 rfl (lv_at hl 5 rfl) ?_
            refine lv_if_eq (tgt := 81) hx hb dX3_behind_66 (by decide) (fun c_10 => ?_) (fun c_10 => ?_)
            · skip
              have hf0 := c_10
              refine lv_iload hx hb dX3_behind_81 (lv_at hl 1 rfl) ?_
              refine lv_istore_n (lv' := [(3, .int (nI (nmK v i))), (6, .int (nI 1)), (5, .int (nI (nmK v i))), (0, .ref o), (1, .int (nI w)), (2, .int (nI (padK 5 w))), (4, .int (nI i))]) hx hb dX3_behind_83 rfl hl (by decide) rfl (fun ls hl => ?_)
              refine lv_iinc (v := nI (i + 1)) (lv' := [(4, .int (nI (i + 1))), (3, .int (nI (nmK v i))), (6, .int (nI 1)), (5, .int (nI (nmK v i))), (0, .ref o), (1, .int (nI w)), (2, .int (nI (padK 5 w)))]) hx hb dX3_behind_84 hl (k := 6) rfl (nI_1 _) (by decide) rfl (fun ls hl => ?_)
              refine lv_goto (tgt := 20) hx hb dX3_behind_87 (by decide) ?_
              exact ih_2 (i + 1) (nI (nmK v i)) (by omega) (bhI_1 hinv hf0 h0 hkb hN (by omega)) (by omega) _ _ _ hP hD hS (lv_sub hl [4, 5, 6, 1, 0] rfl)
            · skip
              obtain ⟨j, hj, hj0, hje, hjk, hjm⟩ := bhI_j hinv c_10
              subst hje
              refine lv_iload hx hb dX3_behind_69 (lv_at hl 1 rfl) ?_
              refine z_callSI (As := [.int (nI (nmK v i))]) (rest := []) F (c_X3_orderKey l G (nmK v i) (hN i (by omega)).2) (va_cwS 1 hts gX3_behind_X3_orderKey rfl rfl rfl (by decide +kernel) ⟨Nat.le_of_ble_eq_true rfl, Nat.le_of_ble_eq_true rfl⟩) hKK hP hD hS hA rfl hl.1 rfl (Nat.le_of_ble_eq_true rfl) ⟨Nat.zero_le _, Nat.zero_le _⟩ dX3_behind_71 (fun H locs hP hD hS => ?_)
              refine lv_iload_n hx hb dX3_behind_74 rfl (lv_at hl 5 rfl) ?_
              refine z_callSI (As := [.int (nI (nmK v j))]) (rest := [.int (nI (padK 5 (nmK v i)))]) F (c_X3_orderKey l G (nmK v j) (hN j (by omega)).2) (va_cwS 1 hts gX3_behind_X3_orderKey rfl rfl rfl (by decide +kernel) ⟨Nat.le_of_ble_eq_true rfl, Nat.le_of_ble_eq_true rfl⟩) hKK hP hD hS hA rfl hl.1 rfl (Nat.le_of_ble_eq_true rfl) ⟨Nat.zero_le _, Nat.zero_le _⟩ dX3_behind_75 (fun H locs hP hD hS => ?_)
              refine z_ge (tgt := 84) hx hb dX3_behind_78 (by decide) (Nat.lt_trans (padK_lt 5 _ (hN i (by omega)).2) (by decide)) (Nat.lt_trans (padK_lt 5 _ (hN j (by omega)).2) (by decide)) (fun c_11 => ?_) (fun c_11 => ?_)
              · skip
                refine lv_iinc (v := nI (i + 1)) (lv' := [(4, .int (nI (i + 1))), (6, .int (nI 1)), (5, .int (nI (nmK v i))), (0, .ref o), (1, .int (nI w)), (2, .int (nI (padK 5 w))), (3, .int (nI (nmK v j)))]) hx hb dX3_behind_84 hl (k := 6) rfl (nI_1 _) (by decide) rfl (fun ls hl => ?_)
                refine lv_goto (tgt := 20) hx hb dX3_behind_87 (by decide) ?_
                exact ih_2 (i + 1) (nI (nmK v j)) (by omega) (bhI_s hj hj0 hjk hjm c_11) (by omega) _ _ _ hP hD hS (lv_sub hl [3, 4, 5, 6, 0] rfl)
              · skip
                refine lv_iload hx hb dX3_behind_81 (lv_at hl 1 rfl) ?_
                refine lv_istore_n (lv' := [(3, .int (nI (nmK v i))), (6, .int (nI 1)), (5, .int (nI (nmK v i))), (0, .ref o), (1, .int (nI w)), (2, .int (nI (padK 5 w))), (4, .int (nI i))]) hx hb dX3_behind_83 rfl hl (by decide) rfl (fun ls hl => ?_)
                refine lv_iinc (v := nI (i + 1)) (lv' := [(4, .int (nI (i + 1))), (3, .int (nI (nmK v i))), (6, .int (nI 1)), (5, .int (nI (nmK v i))), (0, .ref o), (1, .int (nI w)), (2, .int (nI (padK 5 w)))]) hx hb dX3_behind_84 hl (k := 6) rfl (nI_1 _) (by decide) rfl (fun ls hl => ?_)
                refine lv_goto (tgt := 20) hx hb dX3_behind_87 (by decide) ?_
                exact ih_2 (i + 1) (nI (nmK v i)) (by omega) (bhI_n h0 hkb hjm c_11) (by omega) _ _ _ hP hD hS (lv_sub hl [4, 5, 6, 1, 0] rfl)
  exact key_2 _ 0 (nI 0) (by omega) bhI_0 (Nat.lt_succ_self _) _ _ _ hP hD hS (lv_sub hl [3, 4, 2, 1, 0] rfl)

set_option maxHeartbeats 4000000 in
set_option maxRecDepth 100000 in
theorem c_X3_fault_bad (l : Launch) (G : ZG) (o pr q : Nat) (a b d : Nat → Nat) (pa : Nat → Nat → Nat) (S P L : Nat → Nat) (t v u : Mem) (pv : Nat → Mem) (x : Int32) (h9 : zBel x 3 = false) : CI l G yX3_fault wsX3_fault (zRm 6 139) [.ref o, .int x] (headW G o pr (prF pa) a b q S ++ (playW G q (d 0) P ++ (textW G b t L ++ (rollW G a v ++ (rollW G d u ++ pastW G pa pv))))) ((-1000001)) (headW G o pr (prF pa) a b q S ++ (playW G q (d 0) P ++ (textW G b t L ++ (rollW G a v ++ (rollW G d u ++ pastW G pa pv))))) := by
  refine CI.ent (cc := cX3_fault) (maxL := 2) (ty := .int) (own := RX3) (by decide) rfl rfl (Nat.le_of_ble_eq_true rfl) ?_
  intro p ee s m args below meth c A ls F hr hlk hKK hP hD hA hS hl
  obtain ⟨hx, hb, hml, hown, hts⟩ := id F
  have hl : lv_has ls 2 [(0, .ref o), (1, .int x)] := hl
  have ct_38 := hts (.constant RX3 38 (-1000001)) (by decide +kernel)
  refine lv_iload_n hx hb dX3_fault_0 rfl (lv_at hl 1 rfl) ?_
  refine lv_iconst (v := nI 3) hx hb dX3_fault_1 (by decide) ?_
  refine z_callSI (As := [.int x, .int (nI 3)]) (rest := []) F (c_X3_isBelow_b l G x 3 (by decide) false h9) (va_cwS 2 hts gX3_fault_X3_isBelow rfl rfl rfl (by decide +kernel) ⟨Nat.le_of_ble_eq_true rfl, Nat.le_of_ble_eq_true rfl⟩) hKK hP hD hS hA rfl hl.1 rfl (Nat.le_of_ble_eq_true rfl) ⟨Nat.zero_le _, Nat.zero_le _⟩ dX3_fault_2 (fun H locs hP hD hS => ?_)
  refine z_ifBne (tgt := 11) hx hb dX3_fault_5 (by decide) (fun c_1 => absurd c_1 (by decide)) (fun c_1 => ?_)
  refine z_ldc (v' := (-1000001)) hx hb hown ct_38 dX3_fault_8 rfl ?_
  exact z_iret hx hb hr hlk hP hD hS dX3_fault_10 rfl rfl

set_option maxHeartbeats 4000000 in
set_option maxRecDepth 100000 in
theorem c_X3_fault_k0 (l : Launch) (G : ZG) (o pr q : Nat) (a b d : Nat → Nat) (pa : Nat → Nat → Nat) (S P L : Nat → Nat) (t v u : Mem) (pv : Nat → Mem) (B : Nat) (tl : Nat) (hL : L 0 = tl) (hL6 : tl ≤ 60) (hT : okTx (t 0)) (hR : okR v B) : CIE l G yX3_fault wsX3_fault (zRm 6 139) [.ref o, .int (nI 0)] (headW G o pr (prF pa) a b q S ++ (playW G q (d 0) P ++ (textW G b t L ++ (rollW G a v ++ (rollW G d u ++ pastW G pa pv))))) (S := (Nat → Nat) × Mem) (fun r x => r = fltR (xRun (sgT (t 0) tl) tl 61 0 0 (zCopy u v)) 0) (fun x => headW G o pr (prF pa) a b q S ++ (playW G q (d 0) x.1 ++ (textW G b t L ++ (rollW G a v ++ (rollW G d x.2 ++ pastW G pa pv))))) := by
  refine CIE.ent (cc := cX3_fault) (maxL := 2) (ty := .int) (own := RX3) (by decide) rfl rfl (Nat.le_of_ble_eq_true rfl) ?_
  intro p ee s m args below meth c A ls F hr hlk hKK hP hD hA hS hl
  obtain ⟨hx, hb, hml, hown, hts⟩ := id F
  have hl : lv_has ls 2 [(0, .ref o), (1, .int (nI 0))] := hl
  have ct_91 := hts (.constant RX3 91 (-1000004)) (by decide +kernel)
  have fl_10 := hts (.fieldLink RX3 10 "NameRolls" "now" "LNameRolls$Roll;") (by decide +kernel)
  have fl_23 := hts (.fieldLink RX3 23 "NameRolls" "text" "LNameRolls$Text;") (by decide +kernel)
  have fl_30 := hts (.fieldLink RX3 30 "NameRolls" "player" "LNameRolls$Player;") (by decide +kernel)
  have fl_178 := hts (.fieldLink RX3 178 "NameRolls$Player" "reason" "I") (by decide +kernel)
  have fl_181 := hts (.fieldLink RX3 181 "NameRolls$Player" "start" "I") (by decide +kernel)
  have hinX0 : ∀ w ∈ wsX00, w ∈ wsX3_fault := by decide +kernel
  have hinX3 : ∀ w ∈ wsX30, w ∈ wsX3_fault := by decide +kernel
  refine lv_iload_n hx hb dX3_fault_0 rfl (lv_at hl 1 rfl) ?_
  refine lv_iconst (v := nI 3) hx hb dX3_fault_1 (by decide) ?_
  refine z_callSI (As := [.int (nI 0), .int (nI 3)]) (rest := []) F (c_X3_isBelow_b l G (nI 0) 3 (by decide) true (bel_ok (by decide) (by decide))) (va_cwS 2 hts gX3_fault_X3_isBelow rfl rfl rfl (by decide +kernel) ⟨Nat.le_of_ble_eq_true rfl, Nat.le_of_ble_eq_true rfl⟩) hKK hP hD hS hA rfl hl.1 rfl (Nat.le_of_ble_eq_true rfl) ⟨Nat.zero_le _, Nat.zero_le _⟩ dX3_fault_2 (fun H locs hP hD hS => ?_)
  refine z_ifBne (tgt := 11) hx hb dX3_fault_5 (by decide) (fun c_1 => ?_) (fun c_1 => absurd c_1 (by decide))
  refine lv_aload_n hx hb dX3_fault_11 rfl (lv_at hl 0 rfl) ?_
  refine va_get (D := G.1) (ci := 3) (v := .ref q) (C := RX3) (T := TX3) (N := 5) hx hb hts hinX3 hown hKK.1 hP 0 rfl rfl 4 (by decide) fl_30 (fun _ h9 => h9) rfl dX3_fault_12 ?_
  refine lv_aload_n hx hb dX3_fault_15 rfl (lv_at hl 0 rfl) ?_
  refine va_get (D := G.1) (ci := 3) (v := .ref (a 0)) (C := RX3) (T := TX3) (N := 5) hx hb hts hinX3 hown hKK.1 hP 0 rfl rfl 0 (by decide) fl_10 (fun _ h9 => h9) rfl dX3_fault_16 ?_
  refine lv_aload_n hx hb dX3_fault_19 rfl (lv_at hl 0 rfl) ?_
  refine va_get (D := G.1) (ci := 3) (v := .ref (b 0)) (C := RX3) (T := TX3) (N := 5) hx hb hts hinX3 hown hKK.1 hP 0 rfl rfl 3 (by decide) fl_23 (fun _ h9 => h9) rfl dX3_fault_20 ?_
  refine z_callVVE (As := [.ref (a 0), .ref (b 0)]) (rest := []) (wr := (headW G o pr (prF pa) a b q S ++ pastW G pa pv)) (C := RX0) F (c_X0_tryOn l G q d a P b t L u v B tl hL hL6 hT hR) (cwV 2 hts gX3_fault_X0_tryOn rfl rfl rfl (by decide +kernel) ⟨Nat.le_of_ble_eq_true rfl, Nat.le_of_ble_eq_true rfl⟩) hKK (z_recv hKK hP (q0 := 2) (ci := 0) rfl rfl) (z_perm (pn_try _ _ _ _ _ _) hP) (z_permD (pn_try _ _ _ _ _ _) hD) hS hA rfl hl.1 rfl (Nat.le_of_ble_eq_true rfl) ⟨Nat.zero_le _, Nat.zero_le _⟩ dX3_fault_23 (fun u_2 H locs hq_2 hP hD hS => ?_)
  have hP : va_P G.1 vwCl (headW G o pr (prF pa) a b q S ++ (playW G q (d 0) u_2.1 ++ (textW G b t L ++ (rollW G a v ++ (rollW G d u_2.2 ++ pastW G pa pv))))) H := (z_perm (pn_try _ _ _ _ _ _).symm hP)
  have hD : va_D A (headW G o pr (prF pa) a b q S ++ (playW G q (d 0) u_2.1 ++ (textW G b t L ++ (rollW G a v ++ (rollW G d u_2.2 ++ pastW G pa pv))))) := (z_permD (pn_try _ _ _ _ _ _).symm hD)
  refine lv_aload_n hx hb dX3_fault_26 rfl (lv_at hl 0 rfl) ?_
  refine va_get (D := G.1) (ci := 3) (v := .ref q) (C := RX3) (T := TX3) (N := 5) hx hb hts hinX3 hown hKK.1 hP 0 rfl rfl 4 (by decide) fl_30 (fun _ h9 => h9) rfl dX3_fault_27 ?_
  refine va_get (D := G.1) (ci := 0) (v := .int (nI (u_2.1 1))) (C := RX0) (T := TX0) (N := 12) hx hb hts hinX0 hown hKK.1 hP 2 rfl rfl 2 (by decide) fl_178 (fun _ h9 => h9) rfl dX3_fault_30 ?_
  refine z_ifNne (tgt := 39) hx hb dX3_fault_33 (by decide) (Nat.lt_of_le_of_lt hq_2.2.2.1 (by decide)) (fun c_3 => ?_) (fun c_3 => ?_)
  · skip
    have hn0 := c_3
    refine lv_iload_n hx hb dX3_fault_39 rfl (lv_at hl 1 rfl) ?_
    refine lv_lookup (off := 28) (tgt := 68) hx hb dX3_fault_40 (by decide) (by decide) (by decide) ?_
    refine lv_aload_n hx hb dX3_fault_68 rfl (lv_at hl 0 rfl) ?_
    refine va_get (D := G.1) (ci := 3) (v := .ref q) (C := RX3) (T := TX3) (N := 5) hx hb hts hinX3 hown hKK.1 hP 0 rfl rfl 4 (by decide) fl_30 (fun _ h9 => h9) rfl dX3_fault_69 ?_
    refine va_get (D := G.1) (ci := 0) (v := .int (nI (u_2.1 3))) (C := RX0) (T := TX0) (N := 12) hx hb hts hinX0 hown hKK.1 hP 2 rfl rfl 4 (by decide) fl_181 (fun _ h9 => h9) rfl dX3_fault_72 ?_
    exact z_iretE u_2 hx hb hr hlk hP hD hS dX3_fault_75 rfl (by rw [fl_c (q := 0) (by decide) hq_2, if_neg (fun z => z.elim hn0 (fun z => absurd z.1 (by decide))), if_pos rfl])
  · skip
    have hz0 := c_3
    refine z_ldc (v' := (-1000004)) hx hb hown ct_91 dX3_fault_36 rfl ?_
    exact z_iretE u_2 hx hb hr hlk hP hD hS dX3_fault_38 rfl (by rw [fl_c (q := 0) (by decide) hq_2, if_pos (Or.inl hz0)])

set_option maxHeartbeats 4000000 in
set_option maxRecDepth 100000 in
theorem c_X3_fault_k1 (l : Launch) (G : ZG) (o pr q : Nat) (a b d : Nat → Nat) (pa : Nat → Nat → Nat) (S P L : Nat → Nat) (t v u : Mem) (pv : Nat → Mem) (B : Nat) (tl : Nat) (hL : L 0 = tl) (hL6 : tl ≤ 60) (hT : okTx (t 0)) (hR : okR v B) : CIE l G yX3_fault wsX3_fault (zRm 6 139) [.ref o, .int (nI 1)] (headW G o pr (prF pa) a b q S ++ (playW G q (d 0) P ++ (textW G b t L ++ (rollW G a v ++ (rollW G d u ++ pastW G pa pv))))) (S := (Nat → Nat) × Mem) (fun r x => r = fltR (xRun (sgT (t 0) tl) tl 61 0 0 (zCopy u v)) 1) (fun x => headW G o pr (prF pa) a b q S ++ (playW G q (d 0) x.1 ++ (textW G b t L ++ (rollW G a v ++ (rollW G d x.2 ++ pastW G pa pv))))) := by
  refine CIE.ent (cc := cX3_fault) (maxL := 2) (ty := .int) (own := RX3) (by decide) rfl rfl (Nat.le_of_ble_eq_true rfl) ?_
  intro p ee s m args below meth c A ls F hr hlk hKK hP hD hA hS hl
  obtain ⟨hx, hb, hml, hown, hts⟩ := id F
  have hl : lv_has ls 2 [(0, .ref o), (1, .int (nI 1))] := hl
  have ct_91 := hts (.constant RX3 91 (-1000004)) (by decide +kernel)
  have fl_10 := hts (.fieldLink RX3 10 "NameRolls" "now" "LNameRolls$Roll;") (by decide +kernel)
  have fl_23 := hts (.fieldLink RX3 23 "NameRolls" "text" "LNameRolls$Text;") (by decide +kernel)
  have fl_30 := hts (.fieldLink RX3 30 "NameRolls" "player" "LNameRolls$Player;") (by decide +kernel)
  have fl_178 := hts (.fieldLink RX3 178 "NameRolls$Player" "reason" "I") (by decide +kernel)
  have hinX0 : ∀ w ∈ wsX00, w ∈ wsX3_fault := by decide +kernel
  have hinX3 : ∀ w ∈ wsX30, w ∈ wsX3_fault := by decide +kernel
  refine lv_iload_n hx hb dX3_fault_0 rfl (lv_at hl 1 rfl) ?_
  refine lv_iconst (v := nI 3) hx hb dX3_fault_1 (by decide) ?_
  refine z_callSI (As := [.int (nI 1), .int (nI 3)]) (rest := []) F (c_X3_isBelow_b l G (nI 1) 3 (by decide) true (bel_ok (by decide) (by decide))) (va_cwS 2 hts gX3_fault_X3_isBelow rfl rfl rfl (by decide +kernel) ⟨Nat.le_of_ble_eq_true rfl, Nat.le_of_ble_eq_true rfl⟩) hKK hP hD hS hA rfl hl.1 rfl (Nat.le_of_ble_eq_true rfl) ⟨Nat.zero_le _, Nat.zero_le _⟩ dX3_fault_2 (fun H locs hP hD hS => ?_)
  refine z_ifBne (tgt := 11) hx hb dX3_fault_5 (by decide) (fun c_1 => ?_) (fun c_1 => absurd c_1 (by decide))
  refine lv_aload_n hx hb dX3_fault_11 rfl (lv_at hl 0 rfl) ?_
  refine va_get (D := G.1) (ci := 3) (v := .ref q) (C := RX3) (T := TX3) (N := 5) hx hb hts hinX3 hown hKK.1 hP 0 rfl rfl 4 (by decide) fl_30 (fun _ h9 => h9) rfl dX3_fault_12 ?_
  refine lv_aload_n hx hb dX3_fault_15 rfl (lv_at hl 0 rfl) ?_
  refine va_get (D := G.1) (ci := 3) (v := .ref (a 0)) (C := RX3) (T := TX3) (N := 5) hx hb hts hinX3 hown hKK.1 hP 0 rfl rfl 0 (by decide) fl_10 (fun _ h9 => h9) rfl dX3_fault_16 ?_
  refine lv_aload_n hx hb dX3_fault_19 rfl (lv_at hl 0 rfl) ?_
  refine va_get (D := G.1) (ci := 3) (v := .ref (b 0)) (C := RX3) (T := TX3) (N := 5) hx hb hts hinX3 hown hKK.1 hP 0 rfl rfl 3 (by decide) fl_23 (fun _ h9 => h9) rfl dX3_fault_20 ?_
  refine z_callVVE (As := [.ref (a 0), .ref (b 0)]) (rest := []) (wr := (headW G o pr (prF pa) a b q S ++ pastW G pa pv)) (C := RX0) F (c_X0_tryOn l G q d a P b t L u v B tl hL hL6 hT hR) (cwV 2 hts gX3_fault_X0_tryOn rfl rfl rfl (by decide +kernel) ⟨Nat.le_of_ble_eq_true rfl, Nat.le_of_ble_eq_true rfl⟩) hKK (z_recv hKK hP (q0 := 2) (ci := 0) rfl rfl) (z_perm (pn_try _ _ _ _ _ _) hP) (z_permD (pn_try _ _ _ _ _ _) hD) hS hA rfl hl.1 rfl (Nat.le_of_ble_eq_true rfl) ⟨Nat.zero_le _, Nat.zero_le _⟩ dX3_fault_23 (fun u_2 H locs hq_2 hP hD hS => ?_)
  have hP : va_P G.1 vwCl (headW G o pr (prF pa) a b q S ++ (playW G q (d 0) u_2.1 ++ (textW G b t L ++ (rollW G a v ++ (rollW G d u_2.2 ++ pastW G pa pv))))) H := (z_perm (pn_try _ _ _ _ _ _).symm hP)
  have hD : va_D A (headW G o pr (prF pa) a b q S ++ (playW G q (d 0) u_2.1 ++ (textW G b t L ++ (rollW G a v ++ (rollW G d u_2.2 ++ pastW G pa pv))))) := (z_permD (pn_try _ _ _ _ _ _).symm hD)
  refine lv_aload_n hx hb dX3_fault_26 rfl (lv_at hl 0 rfl) ?_
  refine va_get (D := G.1) (ci := 3) (v := .ref q) (C := RX3) (T := TX3) (N := 5) hx hb hts hinX3 hown hKK.1 hP 0 rfl rfl 4 (by decide) fl_30 (fun _ h9 => h9) rfl dX3_fault_27 ?_
  refine va_get (D := G.1) (ci := 0) (v := .int (nI (u_2.1 1))) (C := RX0) (T := TX0) (N := 12) hx hb hts hinX0 hown hKK.1 hP 2 rfl rfl 2 (by decide) fl_178 (fun _ h9 => h9) rfl dX3_fault_30 ?_
  refine z_ifNne (tgt := 39) hx hb dX3_fault_33 (by decide) (Nat.lt_of_le_of_lt hq_2.2.2.1 (by decide)) (fun c_3 => ?_) (fun c_3 => ?_)
  · skip
    have hn0 := c_3
    refine lv_iload_n hx hb dX3_fault_39 rfl (lv_at hl 1 rfl) ?_
    refine lv_lookup (off := 36) (tgt := 76) hx hb dX3_fault_40 (by decide) (by decide) (by decide) ?_
    refine lv_aload_n hx hb dX3_fault_76 rfl (lv_at hl 0 rfl) ?_
    refine va_get (D := G.1) (ci := 3) (v := .ref q) (C := RX3) (T := TX3) (N := 5) hx hb hts hinX3 hown hKK.1 hP 0 rfl rfl 4 (by decide) fl_30 (fun _ h9 => h9) rfl dX3_fault_77 ?_
    refine va_get (D := G.1) (ci := 0) (v := .int (nI (u_2.1 1))) (C := RX0) (T := TX0) (N := 12) hx hb hts hinX0 hown hKK.1 hP 2 rfl rfl 2 (by decide) fl_178 (fun _ h9 => h9) rfl dX3_fault_80 ?_
    exact z_iretE u_2 hx hb hr hlk hP hD hS dX3_fault_83 rfl (by rw [fl_c (q := 1) (by decide) hq_2, if_neg (fun z => z.elim hn0 (fun z => absurd z.1 (by decide))), if_neg (by decide), if_pos rfl])
  · skip
    have hz0 := c_3
    refine z_ldc (v' := (-1000004)) hx hb hown ct_91 dX3_fault_36 rfl ?_
    exact z_iretE u_2 hx hb hr hlk hP hD hS dX3_fault_38 rfl (by rw [fl_c (q := 1) (by decide) hq_2, if_pos (Or.inl hz0)])

set_option maxHeartbeats 4000000 in
set_option maxRecDepth 100000 in
theorem c_X3_fault_k2 (l : Launch) (G : ZG) (o pr q : Nat) (a b d : Nat → Nat) (pa : Nat → Nat → Nat) (S P L : Nat → Nat) (t v u : Mem) (pv : Nat → Mem) (B : Nat) (tl : Nat) (hL : L 0 = tl) (hL6 : tl ≤ 60) (hT : okTx (t 0)) (hR : okR v B) : CIE l G yX3_fault wsX3_fault (zRm 6 139) [.ref o, .int (nI 2)] (headW G o pr (prF pa) a b q S ++ (playW G q (d 0) P ++ (textW G b t L ++ (rollW G a v ++ (rollW G d u ++ pastW G pa pv))))) (S := (Nat → Nat) × Mem) (fun r x => r = fltR (xRun (sgT (t 0) tl) tl 61 0 0 (zCopy u v)) 2) (fun x => headW G o pr (prF pa) a b q S ++ (playW G q (d 0) x.1 ++ (textW G b t L ++ (rollW G a v ++ (rollW G d x.2 ++ pastW G pa pv))))) := by
  refine CIE.ent (cc := cX3_fault) (maxL := 2) (ty := .int) (own := RX3) (by decide) rfl rfl (Nat.le_of_ble_eq_true rfl) ?_
  intro p ee s m args below meth c A ls F hr hlk hKK hP hD hA hS hl
  obtain ⟨hx, hb, hml, hown, hts⟩ := id F
  have hl : lv_has ls 2 [(0, .ref o), (1, .int (nI 2))] := hl
  have ct_91 := hts (.constant RX3 91 (-1000004)) (by decide +kernel)
  have fl_10 := hts (.fieldLink RX3 10 "NameRolls" "now" "LNameRolls$Roll;") (by decide +kernel)
  have fl_23 := hts (.fieldLink RX3 23 "NameRolls" "text" "LNameRolls$Text;") (by decide +kernel)
  have fl_30 := hts (.fieldLink RX3 30 "NameRolls" "player" "LNameRolls$Player;") (by decide +kernel)
  have fl_178 := hts (.fieldLink RX3 178 "NameRolls$Player" "reason" "I") (by decide +kernel)
  have fl_184 := hts (.fieldLink RX3 184 "NameRolls$Player" "cause" "I") (by decide +kernel)
  have hinX0 : ∀ w ∈ wsX00, w ∈ wsX3_fault := by decide +kernel
  have hinX3 : ∀ w ∈ wsX30, w ∈ wsX3_fault := by decide +kernel
  refine lv_iload_n hx hb dX3_fault_0 rfl (lv_at hl 1 rfl) ?_
  refine lv_iconst (v := nI 3) hx hb dX3_fault_1 (by decide) ?_
  refine z_callSI (As := [.int (nI 2), .int (nI 3)]) (rest := []) F (c_X3_isBelow_b l G (nI 2) 3 (by decide) true (bel_ok (by decide) (by decide))) (va_cwS 2 hts gX3_fault_X3_isBelow rfl rfl rfl (by decide +kernel) ⟨Nat.le_of_ble_eq_true rfl, Nat.le_of_ble_eq_true rfl⟩) hKK hP hD hS hA rfl hl.1 rfl (Nat.le_of_ble_eq_true rfl) ⟨Nat.zero_le _, Nat.zero_le _⟩ dX3_fault_2 (fun H locs hP hD hS => ?_)
  refine z_ifBne (tgt := 11) hx hb dX3_fault_5 (by decide) (fun c_1 => ?_) (fun c_1 => absurd c_1 (by decide))
  refine lv_aload_n hx hb dX3_fault_11 rfl (lv_at hl 0 rfl) ?_
  refine va_get (D := G.1) (ci := 3) (v := .ref q) (C := RX3) (T := TX3) (N := 5) hx hb hts hinX3 hown hKK.1 hP 0 rfl rfl 4 (by decide) fl_30 (fun _ h9 => h9) rfl dX3_fault_12 ?_
  refine lv_aload_n hx hb dX3_fault_15 rfl (lv_at hl 0 rfl) ?_
  refine va_get (D := G.1) (ci := 3) (v := .ref (a 0)) (C := RX3) (T := TX3) (N := 5) hx hb hts hinX3 hown hKK.1 hP 0 rfl rfl 0 (by decide) fl_10 (fun _ h9 => h9) rfl dX3_fault_16 ?_
  refine lv_aload_n hx hb dX3_fault_19 rfl (lv_at hl 0 rfl) ?_
  refine va_get (D := G.1) (ci := 3) (v := .ref (b 0)) (C := RX3) (T := TX3) (N := 5) hx hb hts hinX3 hown hKK.1 hP 0 rfl rfl 3 (by decide) fl_23 (fun _ h9 => h9) rfl dX3_fault_20 ?_
  refine z_callVVE (As := [.ref (a 0), .ref (b 0)]) (rest := []) (wr := (headW G o pr (prF pa) a b q S ++ pastW G pa pv)) (C := RX0) F (c_X0_tryOn l G q d a P b t L u v B tl hL hL6 hT hR) (cwV 2 hts gX3_fault_X0_tryOn rfl rfl rfl (by decide +kernel) ⟨Nat.le_of_ble_eq_true rfl, Nat.le_of_ble_eq_true rfl⟩) hKK (z_recv hKK hP (q0 := 2) (ci := 0) rfl rfl) (z_perm (pn_try _ _ _ _ _ _) hP) (z_permD (pn_try _ _ _ _ _ _) hD) hS hA rfl hl.1 rfl (Nat.le_of_ble_eq_true rfl) ⟨Nat.zero_le _, Nat.zero_le _⟩ dX3_fault_23 (fun u_2 H locs hq_2 hP hD hS => ?_)
  have hP : va_P G.1 vwCl (headW G o pr (prF pa) a b q S ++ (playW G q (d 0) u_2.1 ++ (textW G b t L ++ (rollW G a v ++ (rollW G d u_2.2 ++ pastW G pa pv))))) H := (z_perm (pn_try _ _ _ _ _ _).symm hP)
  have hD : va_D A (headW G o pr (prF pa) a b q S ++ (playW G q (d 0) u_2.1 ++ (textW G b t L ++ (rollW G a v ++ (rollW G d u_2.2 ++ pastW G pa pv))))) := (z_permD (pn_try _ _ _ _ _ _).symm hD)
  refine lv_aload_n hx hb dX3_fault_26 rfl (lv_at hl 0 rfl) ?_
  refine va_get (D := G.1) (ci := 3) (v := .ref q) (C := RX3) (T := TX3) (N := 5) hx hb hts hinX3 hown hKK.1 hP 0 rfl rfl 4 (by decide) fl_30 (fun _ h9 => h9) rfl dX3_fault_27 ?_
  refine va_get (D := G.1) (ci := 0) (v := .int (nI (u_2.1 1))) (C := RX0) (T := TX0) (N := 12) hx hb hts hinX0 hown hKK.1 hP 2 rfl rfl 2 (by decide) fl_178 (fun _ h9 => h9) rfl dX3_fault_30 ?_
  refine z_ifNne (tgt := 39) hx hb dX3_fault_33 (by decide) (Nat.lt_of_le_of_lt hq_2.2.2.1 (by decide)) (fun c_3 => ?_) (fun c_3 => ?_)
  · skip
    have hn0 := c_3
    refine lv_iload_n hx hb dX3_fault_39 rfl (lv_at hl 1 rfl) ?_
    refine lv_lookup (off := 44) (tgt := 84) hx hb dX3_fault_40 (by decide) (by decide) (by decide) ?_
    refine lv_aload_n hx hb dX3_fault_84 rfl (lv_at hl 0 rfl) ?_
    refine va_get (D := G.1) (ci := 3) (v := .ref q) (C := RX3) (T := TX3) (N := 5) hx hb hts hinX3 hown hKK.1 hP 0 rfl rfl 4 (by decide) fl_30 (fun _ h9 => h9) rfl dX3_fault_85 ?_
    refine va_get (D := G.1) (ci := 0) (v := .int (nI (u_2.1 1))) (C := RX0) (T := TX0) (N := 12) hx hb hts hinX0 hown hKK.1 hP 2 rfl rfl 2 (by decide) fl_178 (fun _ h9 => h9) rfl dX3_fault_88 ?_
    refine lv_iconst (v := nI 3) hx hb dX3_fault_91 (by decide) ?_
    refine z_ne (tgt := 100) hx hb dX3_fault_92 (by decide) (Nat.lt_of_le_of_lt hq_2.2.2.1 (by decide)) (by omega) (fun c_4 => ?_) (fun c_4 => ?_)
    · skip
      have hn3 := c_4
      refine lv_aload_n hx hb dX3_fault_100 rfl (lv_at hl 0 rfl) ?_
      refine va_get (D := G.1) (ci := 3) (v := .ref q) (C := RX3) (T := TX3) (N := 5) hx hb hts hinX3 hown hKK.1 hP 0 rfl rfl 4 (by decide) fl_30 (fun _ h9 => h9) rfl dX3_fault_101 ?_
      refine va_get (D := G.1) (ci := 0) (v := .int (nI (u_2.1 2))) (C := RX0) (T := TX0) (N := 12) hx hb hts hinX0 hown hKK.1 hP 2 rfl rfl 3 (by decide) fl_184 (fun _ h9 => h9) rfl dX3_fault_104 ?_
      exact z_iretE u_2 hx hb hr hlk hP hD hS dX3_fault_107 rfl (by rw [fl_c (q := 2) (by decide) hq_2, if_neg (fun z => z.elim hn0 (fun z => hn3 z.2)), if_neg (by decide), if_neg (by decide)])
    · skip
      have hz3 := c_4
      refine z_ldc (v' := (-1000004)) hx hb hown ct_91 dX3_fault_95 rfl ?_
      refine lv_goto (tgt := 107) hx hb dX3_fault_97 (by decide) ?_
      exact z_iretE u_2 hx hb hr hlk hP hD hS dX3_fault_107 rfl (by rw [fl_c (q := 2) (by decide) hq_2, if_pos (Or.inr ⟨rfl, hz3⟩)])
  · skip
    have hz0 := c_3
    refine z_ldc (v' := (-1000004)) hx hb hown ct_91 dX3_fault_36 rfl ?_
    exact z_iretE u_2 hx hb hr hlk hP hD hS dX3_fault_38 rfl (by rw [fl_c (q := 2) (by decide) hq_2, if_pos (Or.inl hz0)])

set_option maxHeartbeats 4000000 in
set_option maxRecDepth 100000 in
theorem c_X3_play_no (l : Launch) (G : ZG) (o pr q : Nat) (a b d : Nat → Nat) (pa : Nat → Nat → Nat) (S P L : Nat → Nat) (t v u : Mem) (pv : Nat → Mem) (B : Nat) (tl : Nat) (hL : L 0 = tl) (hL6 : tl ≤ 60) (hT : okTx (t 0)) (hR : okR v B) (hno : ¬ (xRun (sgT (t 0) tl) tl 61 0 0 (zCopy u v)).2.1 = 0) : CIE l G yX3_play wsX3_play (zRm 6 139) [.ref o] (headW G o pr (prF pa) a b q S ++ (playW G q (d 0) P ++ (textW G b t L ++ (rollW G a v ++ (rollW G d u ++ pastW G pa pv))))) (S := (Nat → Nat) × Mem) (fun r x => r = -1000002) (fun x => headW G o pr (prF pa) a b q S ++ (playW G q (d 0) x.1 ++ (textW G b t L ++ (rollW G a v ++ (rollW G d x.2 ++ pastW G pa pv))))) := by
  refine CIE.ent (cc := cX3_play) (maxL := 1) (ty := .int) (own := RX3) (by decide) rfl rfl (Nat.le_of_ble_eq_true rfl) ?_
  intro p ee s m args below meth c A ls F hr hlk hKK hP hD hA hS hl
  obtain ⟨hx, hb, hml, hown, hts⟩ := id F
  have hl : lv_has ls 1 [(0, .ref o)] := hl
  have ct_66 := hts (.constant RX3 66 (-1000002)) (by decide +kernel)
  have fl_10 := hts (.fieldLink RX3 10 "NameRolls" "now" "LNameRolls$Roll;") (by decide +kernel)
  have fl_23 := hts (.fieldLink RX3 23 "NameRolls" "text" "LNameRolls$Text;") (by decide +kernel)
  have fl_30 := hts (.fieldLink RX3 30 "NameRolls" "player" "LNameRolls$Player;") (by decide +kernel)
  have fl_178 := hts (.fieldLink RX3 178 "NameRolls$Player" "reason" "I") (by decide +kernel)
  have hinX0 : ∀ w ∈ wsX00, w ∈ wsX3_play := by decide +kernel
  have hinX3 : ∀ w ∈ wsX30, w ∈ wsX3_play := by decide +kernel
  refine lv_aload_n hx hb dX3_play_0 rfl (lv_at hl 0 rfl) ?_
  refine va_get (D := G.1) (ci := 3) (v := .ref q) (C := RX3) (T := TX3) (N := 5) hx hb hts hinX3 hown hKK.1 hP 0 rfl rfl 4 (by decide) fl_30 (fun _ h9 => h9) rfl dX3_play_1 ?_
  refine lv_aload_n hx hb dX3_play_4 rfl (lv_at hl 0 rfl) ?_
  refine va_get (D := G.1) (ci := 3) (v := .ref (a 0)) (C := RX3) (T := TX3) (N := 5) hx hb hts hinX3 hown hKK.1 hP 0 rfl rfl 0 (by decide) fl_10 (fun _ h9 => h9) rfl dX3_play_5 ?_
  refine lv_aload_n hx hb dX3_play_8 rfl (lv_at hl 0 rfl) ?_
  refine va_get (D := G.1) (ci := 3) (v := .ref (b 0)) (C := RX3) (T := TX3) (N := 5) hx hb hts hinX3 hown hKK.1 hP 0 rfl rfl 3 (by decide) fl_23 (fun _ h9 => h9) rfl dX3_play_9 ?_
  refine z_callVVE (As := [.ref (a 0), .ref (b 0)]) (rest := []) (wr := (headW G o pr (prF pa) a b q S ++ pastW G pa pv)) (C := RX0) F (c_X0_tryOn l G q d a P b t L u v B tl hL hL6 hT hR) (cwV 2 hts gX3_play_X0_tryOn rfl rfl rfl (by decide +kernel) ⟨Nat.le_of_ble_eq_true rfl, Nat.le_of_ble_eq_true rfl⟩) hKK (z_recv hKK hP (q0 := 2) (ci := 0) rfl rfl) (z_perm (pn_try _ _ _ _ _ _) hP) (z_permD (pn_try _ _ _ _ _ _) hD) hS hA rfl hl.1 rfl (Nat.le_of_ble_eq_true rfl) ⟨Nat.zero_le _, Nat.zero_le _⟩ dX3_play_12 (fun u_1 H locs hq_1 hP hD hS => ?_)
  have hP : va_P G.1 vwCl (headW G o pr (prF pa) a b q S ++ (playW G q (d 0) u_1.1 ++ (textW G b t L ++ (rollW G a v ++ (rollW G d u_1.2 ++ pastW G pa pv))))) H := (z_perm (pn_try _ _ _ _ _ _).symm hP)
  have hD : va_D A (headW G o pr (prF pa) a b q S ++ (playW G q (d 0) u_1.1 ++ (textW G b t L ++ (rollW G a v ++ (rollW G d u_1.2 ++ pastW G pa pv))))) := (z_permD (pn_try _ _ _ _ _ _).symm hD)
  refine lv_aload_n hx hb dX3_play_15 rfl (lv_at hl 0 rfl) ?_
  refine va_get (D := G.1) (ci := 3) (v := .ref q) (C := RX3) (T := TX3) (N := 5) hx hb hts hinX3 hown hKK.1 hP 0 rfl rfl 4 (by decide) fl_30 (fun _ h9 => h9) rfl dX3_play_16 ?_
  refine va_get (D := G.1) (ci := 0) (v := .int (nI (u_1.1 1))) (C := RX0) (T := TX0) (N := 12) hx hb hts hinX0 hown hKK.1 hP 2 rfl rfl 2 (by decide) fl_178 (fun _ h9 => h9) rfl dX3_play_19 ?_
  refine z_ifNeq (tgt := 28) hx hb dX3_play_22 (by decide) (Nat.lt_of_le_of_lt hq_1.2.2.1 (by decide)) (fun c_2 => absurd (hq_1.2.1.symm.trans c_2) hno) (fun c_2 => ?_)
  refine z_ldc (v' := (-1000002)) hx hb hown ct_66 dX3_play_25 rfl ?_
  exact z_iretE u_1 hx hb hr hlk hP hD hS dX3_play_27 rfl rfl

set_option maxHeartbeats 4000000 in
set_option maxRecDepth 100000 in
theorem c_X3_play_ok (l : Launch) (G : ZG) (o pr q : Nat) (a b d : Nat → Nat) (pa : Nat → Nat → Nat) (S P L : Nat → Nat) (t v u : Mem) (pv : Nat → Mem) (B : Nat) (tl : Nat) (hL : L 0 = tl) (hL6 : tl ≤ 60) (hT : okTx (t 0)) (hR : okR v B) (hno : (xRun (sgT (t 0) tl) tl 61 0 0 (zCopy u v)).2.1 = 0) (h4 : S 0 ≤ 4) : CIE l G yX3_play wsX3_play (zRm 6 139) [.ref o] (headW G o pr (prF pa) a b q S ++ (playW G q (d 0) P ++ (textW G b t L ++ (rollW G a v ++ (rollW G d u ++ pastW G pa pv))))) (S := (Nat → Nat) × Mem) (fun r x => r = nI (xRun (sgT (t 0) tl) tl 61 0 0 (zCopy u v)).1 ∧ x.2 = (xRun (sgT (t 0) tl) tl 61 0 0 (zCopy u v)).2.2.2.2) (fun x => headW G o pr (prF (rcA (S 0) pa)) a b q (nup S 0 (svN (S 0))) ++ (playW G q (d 0) x.1 ++ (textW G b t L ++ (rollW G a (zCopy v x.2) ++ (rollW G d x.2 ++ pastW G (rcA (S 0) pa) (rcV (S 0) pv v)))))) := by
  refine CIE.ent (cc := cX3_play) (maxL := 1) (ty := .int) (own := RX3) (by decide) rfl rfl (Nat.le_of_ble_eq_true rfl) ?_
  intro p ee s m args below meth c A ls F hr hlk hKK hP hD hA hS hl
  obtain ⟨hx, hb, hml, hown, hts⟩ := id F
  have hl : lv_has ls 1 [(0, .ref o)] := hl
  have fl_10 := hts (.fieldLink RX3 10 "NameRolls" "now" "LNameRolls$Roll;") (by decide +kernel)
  have fl_23 := hts (.fieldLink RX3 23 "NameRolls" "text" "LNameRolls$Text;") (by decide +kernel)
  have fl_30 := hts (.fieldLink RX3 30 "NameRolls" "player" "LNameRolls$Player;") (by decide +kernel)
  have fl_178 := hts (.fieldLink RX3 178 "NameRolls$Player" "reason" "I") (by decide +kernel)
  have fl_187 := hts (.fieldLink RX3 187 "NameRolls$Player" "trial" "LNameRolls$Roll;") (by decide +kernel)
  have fl_190 := hts (.fieldLink RX3 190 "NameRolls$Player" "orders" "I") (by decide +kernel)
  have hinX0 : ∀ w ∈ wsX00, w ∈ wsX3_play := by decide +kernel
  have hinX3 : ∀ w ∈ wsX30, w ∈ wsX3_play := by decide +kernel
  refine lv_aload_n hx hb dX3_play_0 rfl (lv_at hl 0 rfl) ?_
  refine va_get (D := G.1) (ci := 3) (v := .ref q) (C := RX3) (T := TX3) (N := 5) hx hb hts hinX3 hown hKK.1 hP 0 rfl rfl 4 (by decide) fl_30 (fun _ h9 => h9) rfl dX3_play_1 ?_
  refine lv_aload_n hx hb dX3_play_4 rfl (lv_at hl 0 rfl) ?_
  refine va_get (D := G.1) (ci := 3) (v := .ref (a 0)) (C := RX3) (T := TX3) (N := 5) hx hb hts hinX3 hown hKK.1 hP 0 rfl rfl 0 (by decide) fl_10 (fun _ h9 => h9) rfl dX3_play_5 ?_
  refine lv_aload_n hx hb dX3_play_8 rfl (lv_at hl 0 rfl) ?_
  refine va_get (D := G.1) (ci := 3) (v := .ref (b 0)) (C := RX3) (T := TX3) (N := 5) hx hb hts hinX3 hown hKK.1 hP 0 rfl rfl 3 (by decide) fl_23 (fun _ h9 => h9) rfl dX3_play_9 ?_
  refine z_callVVE (As := [.ref (a 0), .ref (b 0)]) (rest := []) (wr := (headW G o pr (prF pa) a b q S ++ pastW G pa pv)) (C := RX0) F (c_X0_tryOn l G q d a P b t L u v B tl hL hL6 hT hR) (cwV 2 hts gX3_play_X0_tryOn rfl rfl rfl (by decide +kernel) ⟨Nat.le_of_ble_eq_true rfl, Nat.le_of_ble_eq_true rfl⟩) hKK (z_recv hKK hP (q0 := 2) (ci := 0) rfl rfl) (z_perm (pn_try _ _ _ _ _ _) hP) (z_permD (pn_try _ _ _ _ _ _) hD) hS hA rfl hl.1 rfl (Nat.le_of_ble_eq_true rfl) ⟨Nat.zero_le _, Nat.zero_le _⟩ dX3_play_12 (fun u_1 H locs hq_1 hP hD hS => ?_)
  have hP : va_P G.1 vwCl (headW G o pr (prF pa) a b q S ++ (playW G q (d 0) u_1.1 ++ (textW G b t L ++ (rollW G a v ++ (rollW G d u_1.2 ++ pastW G pa pv))))) H := (z_perm (pn_try _ _ _ _ _ _).symm hP)
  have hD : va_D A (headW G o pr (prF pa) a b q S ++ (playW G q (d 0) u_1.1 ++ (textW G b t L ++ (rollW G a v ++ (rollW G d u_1.2 ++ pastW G pa pv))))) := (z_permD (pn_try _ _ _ _ _ _).symm hD)
  refine lv_aload_n hx hb dX3_play_15 rfl (lv_at hl 0 rfl) ?_
  refine va_get (D := G.1) (ci := 3) (v := .ref q) (C := RX3) (T := TX3) (N := 5) hx hb hts hinX3 hown hKK.1 hP 0 rfl rfl 4 (by decide) fl_30 (fun _ h9 => h9) rfl dX3_play_16 ?_
  refine va_get (D := G.1) (ci := 0) (v := .int (nI (u_1.1 1))) (C := RX0) (T := TX0) (N := 12) hx hb hts hinX0 hown hKK.1 hP 2 rfl rfl 2 (by decide) fl_178 (fun _ h9 => h9) rfl dX3_play_19 ?_
  refine z_ifNeq (tgt := 28) hx hb dX3_play_22 (by decide) (Nat.lt_of_le_of_lt hq_1.2.2.1 (by decide)) (fun c_2 => ?_) (fun c_2 => absurd (hq_1.2.1.trans hno) c_2)
  refine lv_aload_n hx hb dX3_play_28 rfl (lv_at hl 0 rfl) ?_
  refine z_callVV (As := []) (rest := []) (wr := []) (C := RX3) F (c_X3_recordState l G o pr q a b d pa S u_1.1 L t v u_1.2 pv h4) (cwV 0 hts gX3_play_X3_recordState rfl rfl rfl (by decide +kernel) ⟨Nat.le_of_ble_eq_true rfl, Nat.le_of_ble_eq_true rfl⟩) hKK (z_recv hKK hP (q0 := 0) (ci := 3) rfl rfl) hP hD hS hA rfl hl.1 rfl (Nat.le_of_ble_eq_true rfl) ⟨Nat.zero_le _, Nat.zero_le _⟩ dX3_play_29 (fun H locs hP hD hS => ?_)
  have hP : va_P G.1 vwCl (headW G o pr (prF (rcA (S 0) pa)) a b q (nup S 0 (svN (S 0))) ++ (playW G q (d 0) u_1.1 ++ (textW G b t L ++ (rollW G a v ++ (rollW G d u_1.2 ++ pastW G (rcA (S 0) pa) (rcV (S 0) pv v)))))) H := hP
  have hD : va_D A (headW G o pr (prF (rcA (S 0) pa)) a b q (nup S 0 (svN (S 0))) ++ (playW G q (d 0) u_1.1 ++ (textW G b t L ++ (rollW G a v ++ (rollW G d u_1.2 ++ pastW G (rcA (S 0) pa) (rcV (S 0) pv v)))))) := hD
  refine lv_aload_n hx hb dX3_play_32 rfl (lv_at hl 0 rfl) ?_
  refine va_get (D := G.1) (ci := 3) (v := .ref (a 0)) (C := RX3) (T := TX3) (N := 5) hx hb hts hinX3 hown hKK.1 hP 0 rfl rfl 0 (by decide) fl_10 (fun _ h9 => h9) rfl dX3_play_33 ?_
  refine lv_aload_n hx hb dX3_play_36 rfl (lv_at hl 0 rfl) ?_
  refine va_get (D := G.1) (ci := 3) (v := .ref q) (C := RX3) (T := TX3) (N := 5) hx hb hts hinX3 hown hKK.1 hP 0 rfl rfl 4 (by decide) fl_30 (fun _ h9 => h9) rfl dX3_play_37 ?_
  refine va_get (D := G.1) (ci := 0) (v := .ref (d 0)) (C := RX0) (T := TX0) (N := 12) hx hb hts hinX0 hown hKK.1 hP 2 rfl rfl 0 (by decide) fl_187 (fun _ h9 => h9) rfl dX3_play_40 ?_
  refine z_callVV (As := [.ref (d 0)]) (rest := []) (wr := (headW G o pr (prF (rcA (S 0) pa)) a b q (nup S 0 (svN (S 0))) ++ (playW G q (d 0) u_1.1 ++ (textW G b t L ++ pastW G (rcA (S 0) pa) (rcV (S 0) pv v))))) (C := RX1) F (c_X1_copyFrom l G a d v u_1.2) (cwV 1 hts gX3_play_X1_copyFrom rfl rfl rfl (by decide +kernel) ⟨Nat.le_of_ble_eq_true rfl, Nat.le_of_ble_eq_true rfl⟩) hKK (z_recv hKK hP (q0 := 5) (ci := 1) rfl rfl) (z_perm (pn_ad _ _ _ _ _ _) hP) (z_permD (pn_ad _ _ _ _ _ _) hD) hS hA rfl hl.1 rfl (Nat.le_of_ble_eq_true rfl) ⟨Nat.zero_le _, Nat.zero_le _⟩ dX3_play_43 (fun H locs hP hD hS => ?_)
  have hP : va_P G.1 vwCl (headW G o pr (prF (rcA (S 0) pa)) a b q (nup S 0 (svN (S 0))) ++ (playW G q (d 0) u_1.1 ++ (textW G b t L ++ (rollW G a (zCopy v u_1.2) ++ (rollW G d u_1.2 ++ pastW G (rcA (S 0) pa) (rcV (S 0) pv v)))))) H := (z_perm (pn_ad _ _ _ _ _ _).symm hP)
  have hD : va_D A (headW G o pr (prF (rcA (S 0) pa)) a b q (nup S 0 (svN (S 0))) ++ (playW G q (d 0) u_1.1 ++ (textW G b t L ++ (rollW G a (zCopy v u_1.2) ++ (rollW G d u_1.2 ++ pastW G (rcA (S 0) pa) (rcV (S 0) pv v)))))) := (z_permD (pn_ad _ _ _ _ _ _).symm hD)
  refine lv_aload_n hx hb dX3_play_46 rfl (lv_at hl 0 rfl) ?_
  refine va_get (D := G.1) (ci := 3) (v := .ref q) (C := RX3) (T := TX3) (N := 5) hx hb hts hinX3 hown hKK.1 hP 0 rfl rfl 4 (by decide) fl_30 (fun _ h9 => h9) rfl dX3_play_47 ?_
  refine va_get (D := G.1) (ci := 0) (v := .int (nI (u_1.1 0))) (C := RX0) (T := TX0) (N := 12) hx hb hts hinX0 hown hKK.1 hP 2 rfl rfl 1 (by decide) fl_190 (fun _ h9 => h9) rfl dX3_play_50 ?_
  exact z_iretE u_1 hx hb hr hlk hP hD hS dX3_play_53 rfl ⟨by rw [hq_1.1], hq_1.2.2.2.2.2.1⟩
