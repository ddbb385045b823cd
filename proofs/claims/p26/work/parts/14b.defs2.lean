theorem zMv2_0 (v : Mem) (r i : Nat) : mrow (zMv1 v r i) 2 (zMap (v 2) (yrN v r) 0) = zMv1 v r i := by
  rw [zMap_0]
  exact mrow_self (zMv1 v r i) 2
theorem zMv2_n (v : Mem) (r k : Nat) (g : Nat → Int32) (i : Nat) : mrow (zMv1 v r k) 2 g 0 i = mvN v r 0 k i := rfl
theorem zMv2_o (v : Mem) (r k : Nat) (g : Nat → Int32) {i : Nat} (hi : i < 40) : mrow (zMv1 v r k) 2 g 10 i = v 0 i := by
  show va_cpy (v 0) (v 10) 0 0 40 i = v 0 i
  exact sb_cpy0 hi
theorem zMv2_y (v : Mem) (r k i : Nat) : mrow (zMv1 v r k) 2 (zMap (v 2) (yrN v r) i) 2 i = v 2 i := by
  show zMap (v 2) (yrN v r) i i = v 2 i
  exact zMap_at _ _ _
theorem zMv2_k {w v : Mem} {r i : Nat} (h : mvN v r 0 40 i = v 0 i) : mrow w 2 (zMap (v 2) (yrN v r) i) = mrow w 2 (zMap (v 2) (yrN v r) (i + 1)) := by
  rw [← zMap_k (g := yrN v r) (if_pos h)]
theorem zMv2_s {w v : Mem} {r i : Nat} (h : ¬ mvN v r 0 40 i = v 0 i) : mst (mrow w 2 (zMap (v 2) (yrN v r) i)) 2 i (v 2 i + nI 1) = mrow w 2 (zMap (v 2) (yrN v r) (i + 1)) := by
  rw [mst_mrow, zMap_s (g := yrN v r) (if_neg h)]
