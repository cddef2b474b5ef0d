theorem S_X11_isWithin {g : GG} {m : MM} {Q : Out → Prop} {v lo hi : Int32} (k1 : lo ≤ v → v ≤ hi → Q (.inl (some (.int 1)), m)) (k0 : ¬ (lo ≤ v ∧ v ≤ hi) → Q (.inl (some (.int 0)), m)) : Cl g 0 0 0 mX11_isWithin [.int v, .int lo, .int hi] m Q := by
  refine Cl.of rfl (by decide) (Nat.le_of_ble_eq_true rfl) ?_
  show Wp g mX11_isWithin 0 0 0 0 [.int v, .int lo, .int hi] [] m Q
  refine r_iload_n dX11_isWithin_0 rfl ?_
  refine r_iload_n dX11_isWithin_1 rfl ?_
  refine r_icmp_lt 14 dX11_isWithin_2 rfl (fun h1 => ?_) (fun h1 => ?_)
  ·
    refine r_iconst (0) dX11_isWithin_14 rfl ?_
    refine r_ireturn dX11_isWithin_15 rfl rfl ?_
    first | exact k1 (by simp only [Int32.lt_iff_toInt_lt, Int32.le_iff_toInt_le, ← Int32.toInt_inj] at *; omega) (by simp only [Int32.lt_iff_toInt_lt, Int32.le_iff_toInt_le, ← Int32.toInt_inj] at *; omega) | exact k0 (by simp only [Int32.lt_iff_toInt_lt, Int32.le_iff_toInt_le, ← Int32.toInt_inj] at *; omega)
  ·
    refine r_iload_n dX11_isWithin_5 rfl ?_
    refine r_iload_n dX11_isWithin_6 rfl ?_
    refine r_icmp_gt 14 dX11_isWithin_7 rfl (fun h2 => ?_) (fun h2 => ?_)
    ·
      refine r_iconst (0) dX11_isWithin_14 rfl ?_
      refine r_ireturn dX11_isWithin_15 rfl rfl ?_
      first | exact k1 (by simp only [Int32.lt_iff_toInt_lt, Int32.le_iff_toInt_le, ← Int32.toInt_inj] at *; omega) (by simp only [Int32.lt_iff_toInt_lt, Int32.le_iff_toInt_le, ← Int32.toInt_inj] at *; omega) | exact k0 (by simp only [Int32.lt_iff_toInt_lt, Int32.le_iff_toInt_le, ← Int32.toInt_inj] at *; omega)
    ·
      refine r_iconst (1) dX11_isWithin_10 rfl ?_
      refine r_goto 15 dX11_isWithin_11 rfl ?_
      refine r_ireturn dX11_isWithin_15 rfl rfl ?_
      first | exact k1 (by simp only [Int32.lt_iff_toInt_lt, Int32.le_iff_toInt_le, ← Int32.toInt_inj] at *; omega) (by simp only [Int32.lt_iff_toInt_lt, Int32.le_iff_toInt_le, ← Int32.toInt_inj] at *; omega) | exact k0 (by simp only [Int32.lt_iff_toInt_lt, Int32.le_iff_toInt_le, ← Int32.toInt_inj] at *; omega)
theorem S_X11_over {g : GG} {m : MM} {Q : Out → Prop} {x y : Int64} (k0 : y = 0 → Q (.inl (some (.long 0)), m)) (k1 : ¬ y = 0 → Q (.inl (some (.long (x / y))), m)) : Cl g 0 0 0 mX11_over [.long x, .long y] m Q := by
  refine Cl.of rfl (by decide) (Nat.le_of_ble_eq_true rfl) ?_
  show Wp g mX11_over 0 0 0 0 [.long x, .retAddr 0, .long y, .retAddr 0] [] m Q
  refine r_lload_n dX11_over_0 rfl ?_
  refine r_lconst (0) dX11_over_1 rfl ?_
  refine r_lcmp_ne 10 dX11_over_2 dX11_over_3 rfl (fun h1 => ?_) (fun h1 => ?_)
  ·
    refine r_lload_n dX11_over_10 rfl ?_
    refine r_lload_n dX11_over_11 rfl ?_
    refine r_ldiv dX11_over_12 h1 ?_
    refine r_lreturn dX11_over_13 rfl ?_
    first | exact k0 h1 | exact k1 h1
  ·
    refine r_lconst (0) dX11_over_6 rfl ?_
    refine r_goto 13 dX11_over_7 rfl ?_
    refine r_lreturn dX11_over_13 rfl ?_
    first | exact k0 h1 | exact k1 h1
theorem S_X11_hundredths {g : GG} {m : MM} {Q : Out → Prop} {x y : Int64} (k : Q (.inl (some (.long (x * y / 100))), m)) : Cl g 0 0 0 mX11_hundredths [.long x, .long y] m Q := by
  refine Cl.of rfl (by decide) (Nat.le_of_ble_eq_true rfl) ?_
  show Wp g mX11_hundredths 0 0 0 0 [.long x, .retAddr 0, .long y, .retAddr 0] [] m Q
  refine r_lload_n dX11_hundredths_0 rfl ?_
  refine r_lload_n dX11_hundredths_1 rfl ?_
  refine r_lmul dX11_hundredths_2 ?_
  refine r_ldc2 (100) dX11_hundredths_3 ctX11_312 ?_
  refine r_ldiv dX11_hundredths_6 (by decide) ?_
  refine r_lreturn dX11_hundredths_7 rfl ?_
  exact k
theorem S_X11_distance {g : GG} {m : MM} {Q : Out → Prop} {x y : Int64} (k1 : y ≤ x → Q (.inl (some (.long (x - y))), m)) (k0 : x < y → Q (.inl (some (.long (y - x))), m)) : Cl g 0 0 0 mX11_distance [.long x, .long y] m Q := by
  refine Cl.of rfl (by decide) (Nat.le_of_ble_eq_true rfl) ?_
  show Wp g mX11_distance 0 0 0 0 [.long x, .retAddr 0, .long y, .retAddr 0] [] m Q
  refine r_lload_n dX11_distance_0 rfl ?_
  refine r_lload_n dX11_distance_1 rfl ?_
  refine r_lcmp_lt 12 dX11_distance_2 dX11_distance_3 rfl (fun h1 => ?_) (fun h1 => ?_)
  ·
    refine r_lload_n dX11_distance_12 rfl ?_
    refine r_lload_n dX11_distance_13 rfl ?_
    refine r_lsub dX11_distance_14 ?_
    refine r_lreturn dX11_distance_15 rfl ?_
    first | exact k1 (i64_nlt.mp h1) | exact k0 h1
  ·
    refine r_lload_n dX11_distance_6 rfl ?_
    refine r_lload_n dX11_distance_7 rfl ?_
    refine r_lsub dX11_distance_8 ?_
    refine r_goto 15 dX11_distance_9 rfl ?_
    refine r_lreturn dX11_distance_15 rfl ?_
    first | exact k1 (i64_nlt.mp h1) | exact k0 h1
theorem S_J9_max_7cf53 {g : GG} {m : MM} {Q : Out → Prop} {x y : Int32} (k1 : y ≤ x → Q (.inl (some (.int x)), m)) (k0 : x < y → Q (.inl (some (.int y)), m)) : Cl g 0 0 0 mJ9_max_7cf53 [.int x, .int y] m Q := by
  refine Cl.of rfl (by decide) (Nat.le_of_ble_eq_true rfl) ?_
  show Wp g mJ9_max_7cf53 0 0 0 0 [.int x, .int y] [] m Q
  refine r_iload_n dJ9_max_7cf53_0 rfl ?_
  refine r_iload_n dJ9_max_7cf53_1 rfl ?_
  refine r_icmp_lt 9 dJ9_max_7cf53_2 rfl (fun h1 => ?_) (fun h1 => ?_)
  ·
    refine r_iload_n dJ9_max_7cf53_9 rfl ?_
    refine r_ireturn dJ9_max_7cf53_10 rfl rfl ?_
    first | exact k1 (i32_nlt.mp h1) | exact k0 h1
  ·
    refine r_iload_n dJ9_max_7cf53_5 rfl ?_
    refine r_goto 10 dJ9_max_7cf53_6 rfl ?_
    refine r_ireturn dJ9_max_7cf53_10 rfl rfl ?_
    first | exact k1 (i32_nlt.mp h1) | exact k0 h1
theorem S_J9_max_f86c9 {g : GG} {m : MM} {Q : Out → Prop} {x y : Int64} (k1 : y ≤ x → Q (.inl (some (.long x)), m)) (k0 : x < y → Q (.inl (some (.long y)), m)) : Cl g 0 0 0 mJ9_max_f86c9 [.long x, .long y] m Q := by
  refine Cl.of rfl (by decide) (Nat.le_of_ble_eq_true rfl) ?_
  show Wp g mJ9_max_f86c9 0 0 0 0 [.long x, .retAddr 0, .long y, .retAddr 0] [] m Q
  refine r_lload_n dJ9_max_f86c9_0 rfl ?_
  refine r_lload_n dJ9_max_f86c9_1 rfl ?_
  refine r_lcmp_lt 10 dJ9_max_f86c9_2 dJ9_max_f86c9_3 rfl (fun h1 => ?_) (fun h1 => ?_)
  ·
    refine r_lload_n dJ9_max_f86c9_10 rfl ?_
    refine r_lreturn dJ9_max_f86c9_11 rfl ?_
    first | exact k1 (i64_nlt.mp h1) | exact k0 h1
  ·
    refine r_lload_n dJ9_max_f86c9_6 rfl ?_
    refine r_goto 11 dJ9_max_f86c9_7 rfl ?_
    refine r_lreturn dJ9_max_f86c9_11 rfl ?_
    first | exact k1 (i64_nlt.mp h1) | exact k0 h1
theorem S_J9_min_7cf53 {g : GG} {m : MM} {Q : Out → Prop} {x y : Int32} (k1 : x ≤ y → Q (.inl (some (.int x)), m)) (k0 : y < x → Q (.inl (some (.int y)), m)) : Cl g 0 0 0 mJ9_min_7cf53 [.int x, .int y] m Q := by
  refine Cl.of rfl (by decide) (Nat.le_of_ble_eq_true rfl) ?_
  show Wp g mJ9_min_7cf53 0 0 0 0 [.int x, .int y] [] m Q
  refine r_iload_n dJ9_min_7cf53_0 rfl ?_
  refine r_iload_n dJ9_min_7cf53_1 rfl ?_
  refine r_icmp_gt 9 dJ9_min_7cf53_2 rfl (fun h1 => ?_) (fun h1 => ?_)
  ·
    refine r_iload_n dJ9_min_7cf53_9 rfl ?_
    refine r_ireturn dJ9_min_7cf53_10 rfl rfl ?_
    first | exact k1 (i32_nlt.mp h1) | exact k0 h1
  ·
    refine r_iload_n dJ9_min_7cf53_5 rfl ?_
    refine r_goto 10 dJ9_min_7cf53_6 rfl ?_
    refine r_ireturn dJ9_min_7cf53_10 rfl rfl ?_
    first | exact k1 (i32_nlt.mp h1) | exact k0 h1
theorem S_J9_min_f86c9 {g : GG} {m : MM} {Q : Out → Prop} {x y : Int64} (k1 : x ≤ y → Q (.inl (some (.long x)), m)) (k0 : y < x → Q (.inl (some (.long y)), m)) : Cl g 0 0 0 mJ9_min_f86c9 [.long x, .long y] m Q := by
  refine Cl.of rfl (by decide) (Nat.le_of_ble_eq_true rfl) ?_
  show Wp g mJ9_min_f86c9 0 0 0 0 [.long x, .retAddr 0, .long y, .retAddr 0] [] m Q
  refine r_lload_n dJ9_min_f86c9_0 rfl ?_
  refine r_lload_n dJ9_min_f86c9_1 rfl ?_
  refine r_lcmp_gt 10 dJ9_min_f86c9_2 dJ9_min_f86c9_3 rfl (fun h1 => ?_) (fun h1 => ?_)
  ·
    refine r_lload_n dJ9_min_f86c9_10 rfl ?_
    refine r_lreturn dJ9_min_f86c9_11 rfl ?_
    first | exact k1 (i64_nlt.mp h1) | exact k0 h1
  ·
    refine r_lload_n dJ9_min_f86c9_6 rfl ?_
    refine r_goto 11 dJ9_min_f86c9_7 rfl ?_
    refine r_lreturn dJ9_min_f86c9_11 rfl ?_
    first | exact k1 (i64_nlt.mp h1) | exact k0 h1
theorem S_demand1 {g : GG} {m : MM} {Q : Out → Prop} (k : Q (.inl none, m)) : Cl g 6 1 6 mX11_demand [.int 1] m Q := by
  refine Cl.of rfl (by decide) (Nat.le_of_ble_eq_true rfl) ?_
  show Wp g mX11_demand 6 1 6 0 [.int 1] [] m Q
  refine r_iload_n dX11_demand_0 rfl ?_
  refine r_if_ne 12 dX11_demand_1 rfl (fun _ => ?_) (fun hz => absurd hz (by decide))
  refine r_return dX11_demand_12 rfl ?_
  exact k
theorem S_demand0 {g : GG} {m : MM} {Q : Out → Prop} (k : Q (.inr EIAE, m)) : Cl g 6 1 6 mX11_demand [.int 0] m Q := by
  refine Cl.of rfl (by decide) (Nat.le_of_ble_eq_true rfl) ?_
  show Wp g mX11_demand 6 1 6 0 [.int 0] [] m Q
  refine r_iload_n dX11_demand_0 rfl ?_
  refine r_if_ne 12 dX11_demand_1 rfl (fun hz => absurd hz (by decide)) (fun _ => ?_)
  refine th_IAE rfl rfl dX11_demand_4 dX11_demand_7 dX11_demand_8 dX11_demand_11 (Nat.le_of_ble_eq_true rfl) (Nat.le_of_ble_eq_true rfl) ?_
  exact k
theorem S_X5_filled {g : GG} {m : MM} {Q : Out → Prop} {a l : Nat} (ha : kdl m a = some (5, l)) (k : Q (.inl (some (.int (ldI m a 1))), m)) : Cl g 0 0 0 mX5_filled [.ref a] m Q := by
  refine Cl.of rfl (by decide) (Nat.le_of_ble_eq_true rfl) ?_
  show Wp g mX5_filled 0 0 0 0 [.ref a] [] m Q
  refine r_aload_n dX5_filled_0 rfl ?_
  refine r_getI dX5_filled_1 fgX5_13 rfl ha ?_
  refine r_ireturn dX5_filled_4 rfl rfl ?_
  exact k
theorem S_X5_empty {g : GG} {m : MM} {Q : Out → Prop} {a l : Nat} (ha : kdl m a = some (5, l)) (k : Q (.inl none, stI m a 1 0)) : Cl g 0 0 0 mX5_empty [.ref a] m Q := by
  refine Cl.of rfl (by decide) (Nat.le_of_ble_eq_true rfl) ?_
  show Wp g mX5_empty 0 0 0 0 [.ref a] [] m Q
  refine r_aload_n dX5_empty_0 rfl ?_
  refine r_iconst (0) dX5_empty_1 rfl ?_
  refine r_putI dX5_empty_2 (fpX5_13 _ rfl) rfl ha ⟨rfl, rfl⟩ ?_
  refine r_return dX5_empty_5 rfl ?_
  exact k
theorem S_X5_isFull {g : GG} {m : MM} {Q : Out → Prop} {a c z n : Nat} (ha : kdl m a = some (5, 0)) (hr : ldR m a 0 = c) (hc : kdl m c = some (13, z)) (hz : z < 100000) (hn : ldI m a 1 = nI n) (hnz : n ≤ z) (k1 : n = z → Q (.inl (some (.int 1)), m)) (k0 : n < z → Q (.inl (some (.int 0)), m)) : Cl g 0 0 0 mX5_isFull [.ref a] m Q := by
  refine Cl.of rfl (by decide) (Nat.le_of_ble_eq_true rfl) ?_
  show Wp g mX5_isFull 0 0 0 0 [.ref a] [] m Q
  refine r_aload_n dX5_isFull_0 rfl ?_
  refine r_getI dX5_isFull_1 fgX5_13 rfl ha ?_
  refine r_aload_n dX5_isFull_4 rfl ?_
  refine r_getRc dX5_isFull_5 fgX5_7 rfl ha hr ?_
  refine r_alen _ dX5_isFull_8 ⟨Nat.le_of_ble_eq_true rfl, Nat.le_of_ble_eq_true rfl⟩ hc rfl ?_
  refine r_icmp_lt 16 dX5_isFull_9 rfl (fun h1 => ?_) (fun h1 => ?_)
  ·
    refine r_iconst (0) dX5_isFull_16 rfl ?_
    refine r_ireturn dX5_isFull_17 rfl rfl ?_
    first | exact k1 (by rw [hn] at h1; exact Nat.le_antisymm hnz (Nat.not_lt.mp fun q => h1 (nI_lt q (by omega)))) | exact k0 (by rw [hn] at h1; exact Nat.not_le.mp fun q => nI_nlt q (by omega) h1)
  ·
    refine r_iconst (1) dX5_isFull_12 rfl ?_
    refine r_goto 17 dX5_isFull_13 rfl ?_
    refine r_ireturn dX5_isFull_17 rfl rfl ?_
    first | exact k1 (by rw [hn] at h1; exact Nat.le_antisymm hnz (Nat.not_lt.mp fun q => h1 (nI_lt q (by omega)))) | exact k0 (by rw [hn] at h1; exact Nat.not_le.mp fun q => nI_nlt q (by omega) h1)
theorem S_X5_at {g : GG} {m : MM} {Q : Out → Prop} {a c z n : Nat} (ha : kdl m a = some (5, 0)) (hr : ldR m a 0 = c) (hc : kdl m c = some (13, z)) (hz : z < 100000) (hn : ldI m a 1 = nI n) (hnz : n ≤ z) {x : Int32} (k1 : ∀ j, x = nI j → j < n → Q (.inl (some (.int (ldI m c j))), m)) (k0 : (x < 0 ∨ nI n ≤ x) → Q (.inl (some (.int 0)), m)) : Cl g 0 0 0 mX5_at [.ref a, .int x] m Q := by
  refine Cl.of rfl (by decide) (Nat.le_of_ble_eq_true rfl) ?_
  show Wp g mX5_at 0 0 0 0 [.ref a, .int x] [] m Q
  refine r_iload_n dX5_at_0 rfl ?_
  refine r_if_lt 30 dX5_at_1 rfl (fun h1 => ?_) (fun h1 => ?_)
  ·
    refine r_iconst (0) dX5_at_30 rfl ?_
    refine r_ireturn dX5_at_31 rfl rfl ?_
    first | exact k0 (Or.inl h1) | exact k0 (Or.inr (by rw [← hn]; exact h2)) | exact k0 (Or.inr (nI_le (Nat.le_trans hnz (Nat.not_lt.mp fun q => h3 (nI_lt q (by omega)))) (by omega))) | (have k9 := k1 j rfl hj; rw [← nI_cl j (by omega)] at k9; exact k9)
  ·
    refine r_iload_n dX5_at_4 rfl ?_
    refine r_aload_n dX5_at_5 rfl ?_
    refine r_getI dX5_at_6 fgX5_13 rfl ha ?_
    refine r_icmp_ge 30 dX5_at_9 rfl (fun h2 => ?_) (fun h2 => ?_)
    ·
      refine r_iconst (0) dX5_at_30 rfl ?_
      refine r_ireturn dX5_at_31 rfl rfl ?_
      first | exact k0 (Or.inl h1) | exact k0 (Or.inr (by rw [← hn]; exact h2)) | exact k0 (Or.inr (nI_le (Nat.le_trans hnz (Nat.not_lt.mp fun q => h3 (nI_lt q (by omega)))) (by omega))) | (have k9 := k1 j rfl hj; rw [← nI_cl j (by omega)] at k9; exact k9)
    ·
      refine r_iload_n dX5_at_12 rfl ?_
      refine r_aload_n dX5_at_13 rfl ?_
      refine r_getRc dX5_at_14 fgX5_7 rfl ha hr ?_
      refine r_alen _ dX5_at_17 ⟨Nat.le_of_ble_eq_true rfl, Nat.le_of_ble_eq_true rfl⟩ hc rfl ?_
      refine r_icmp_ge 30 dX5_at_18 rfl (fun h3 => ?_) (fun h3 => ?_)
      ·
        refine r_iconst (0) dX5_at_30 rfl ?_
        refine r_ireturn dX5_at_31 rfl rfl ?_
        first | exact k0 (Or.inl h1) | exact k0 (Or.inr (by rw [← hn]; exact h2)) | exact k0 (Or.inr (nI_le (Nat.le_trans hnz (Nat.not_lt.mp fun q => h3 (nI_lt q (by omega)))) (by omega))) | (have k9 := k1 j rfl hj; rw [← nI_cl j (by omega)] at k9; exact k9)
      ·
        obtain ⟨j, rfl, hj⟩ := vin_of h1 (by rw [← hn]; exact h2) (by omega)
        refine r_aload_n dX5_at_21 rfl ?_
        refine r_getRc dX5_at_22 fgX5_7 rfl ha hr ?_
        refine r_iload_n dX5_at_25 rfl ?_
        refine r_iaload dX5_at_26 hc (vin (Nat.lt_of_lt_of_le hj hnz) (by omega)) ?_
        refine r_goto 31 dX5_at_27 rfl ?_
        refine r_ireturn dX5_at_31 rfl rfl ?_
        first | exact k0 (Or.inl h1) | exact k0 (Or.inr (by rw [← hn]; exact h2)) | exact k0 (Or.inr (nI_le (Nat.le_trans hnz (Nat.not_lt.mp fun q => h3 (nI_lt q (by omega)))) (by omega))) | (have k9 := k1 j rfl hj; rw [← nI_cl j (by omega)] at k9; exact k9)
theorem S_X5_add {g : GG} {m : MM} {Q : Out → Prop} {a c z n : Nat} (ha : kdl m a = some (5, 0)) (hr : ldR m a 0 = c) (hc : kdl m c = some (13, z)) (hz : z < 100000) (hn : ldI m a 1 = nI n) (hnz : n ≤ z) (hac : a ≠ c) {v : Int32} (k1 : n < z → Q (.inl none, stI (stI m c n v) a 1 (nI (n + 1)))) (k0 : n = z → Q (.inl none, m)) : Cl g 0 0 0 mX5_add [.ref a, .int v] m Q := by
  refine Cl.of rfl (by decide) (Nat.le_of_ble_eq_true rfl) ?_
  show Wp g mX5_add 0 0 0 0 [.ref a, .int v] [] m Q
  refine r_aload_n dX5_add_0 rfl ?_
  refine r_getI dX5_add_1 fgX5_13 rfl ha ?_
  refine r_aload_n dX5_add_4 rfl ?_
  refine r_getRc dX5_add_5 fgX5_7 rfl ha hr ?_
  refine r_alen _ dX5_add_8 ⟨Nat.le_of_ble_eq_true rfl, Nat.le_of_ble_eq_true rfl⟩ hc rfl ?_
  refine r_icmp_ge 32 dX5_add_9 rfl (fun h1 => ?_) (fun h1 => ?_)
  ·
    refine r_return dX5_add_32 rfl ?_
    first | exact k0 (Nat.le_antisymm hnz (Nat.not_lt.mp fun q => nI_ge q (by omega) (by rw [← hn]; exact h1))) | skip
    all_goals (
      have e1 : ldI (stI m c (ldI m a 1).toNatClampNeg v) a 1 + 1 = nI (n + 1) := by rw [ldI_stI, if_neg (fun q => hac q.1), hn]; exact nI_1 n
      have k9 := k1 hlt
      rw [e1, hn, nI_cl n (by omega)]; exact k9)
  ·
    have hlt : n < z := Nat.not_le.mp fun q => h1 (by rw [hn]; exact nI_le q (by omega))
    refine r_aload_n dX5_add_12 rfl ?_
    refine r_getRc dX5_add_13 fgX5_7 rfl ha hr ?_
    refine r_aload_n dX5_add_16 rfl ?_
    refine r_getI dX5_add_17 fgX5_13 rfl ha ?_
    refine r_iload_n dX5_add_20 rfl ?_
    refine r_iastore dX5_add_21 hc (by rw [hn]; exact vin hlt (by omega)) ?_
    refine r_aload_n dX5_add_22 rfl ?_
    refine r_dup dX5_add_23 rfl ?_
    refine r_getI dX5_add_24 fgX5_13 rfl ha ?_
    refine r_iconst (1) dX5_add_27 rfl ?_
    refine r_iadd dX5_add_28 ?_
    refine r_putI dX5_add_29 (fpX5_13 _ rfl) rfl ha ⟨rfl, rfl⟩ ?_
    refine r_return dX5_add_32 rfl ?_
    first | exact k0 (Nat.le_antisymm hnz (Nat.not_lt.mp fun q => nI_ge q (by omega) (by rw [← hn]; exact h1))) | skip
    all_goals (
      have e1 : ldI (stI m c (ldI m a 1).toNatClampNeg v) a 1 + 1 = nI (n + 1) := by rw [ldI_stI, if_neg (fun q => hac q.1), hn]; exact nI_1 n
      have k9 := k1 hlt
      rw [e1, hn, nI_cl n (by omega)]; exact k9)
