theorem S_X11_isWithin {g : GG} {m : MM} {Q : Out → Prop} {v lo hi : Int32} (k1 : lo ≤ v → v ≤ hi → Q (.inl (some (.int 1)), m)) (k0 : ¬ (lo ≤ v ∧ v ≤ hi) → Q (.inl (some (.int 0)), m)) : Cl g 0 0 0 mX11_isWithin [.int v, .int lo, .int hi] m Q := by
  refine Cl.of rfl (by decide) (Nat.le_of_ble_eq_true rfl) ?_
  show Wp g mX11_isWithin 0 0 0 0 [.int v, .int lo, .int hi] [] m Q
  refine r_iload_n dX11_isWithin_0 rfl ?_
  refine r_iload_n dX11_isWithin_1 rfl ?_
  refine r_icmp_lt 14 dX11_isWithin_2 rfl (fun h1 => ?_) (fun h1 => ?_)
  ·
    refine r_iconst (0) dX11_isWithin_14 rfl ?_
    refine r_ireturn dX11_isWithin_15 rfl rfl ?_
    first | exact k1 (by simp only [Int32.lt_iff_toInt_lt, Int32.le_iff_toInt_le, ← Int32.toInt_inj] at *; omega) (by simp only [Int32.lt_iff_toInt_lt, Int32.le_iff_toInt_le, ← Int32.toInt_inj] at *; omega) | exact k0 (by simp only [Int32.lt_iff_toInt_lt, Int32.le_iff_toInt_le, ← Int32.toInt_inj] at *; omega)
  ·
    refine r_iload_n dX11_isWithin_5 rfl ?_
    refine r_iload_n dX11_isWithin_6 rfl ?_
    refine r_icmp_gt 14 dX11_isWithin_7 rfl (fun h2 => ?_) (fun h2 => ?_)
    ·
      refine r_iconst (0) dX11_isWithin_14 rfl ?_
      refine r_ireturn dX11_isWithin_15 rfl rfl ?_
      first | exact k1 (by simp only [Int32.lt_iff_toInt_lt, Int32.le_iff_toInt_le, ← Int32.toInt_inj] at *; omega) (by simp only [Int32.lt_iff_toInt_lt, Int32.le_iff_toInt_le, ← Int32.toInt_inj] at *; omega) | exact k0 (by simp only [Int32.lt_iff_toInt_lt, Int32.le_iff_toInt_le, ← Int32.toInt_inj] at *; omega)
    ·
      refine r_iconst (1) dX11_isWithin_10 rfl ?_
      refine r_goto 15 dX11_isWithin_11 rfl ?_
      refine r_ireturn dX11_isWithin_15 rfl rfl ?_
      first | exact k1 (by simp only [Int32.lt_iff_toInt_lt, Int32.le_iff_toInt_le, ← Int32.toInt_inj] at *; omega) (by simp only [Int32.lt_iff_toInt_lt, Int32.le_iff_toInt_le, ← Int32.toInt_inj] at *; omega) | exact k0 (by simp only [Int32.lt_iff_toInt_lt, Int32.le_iff_toInt_le, ← Int32.toInt_inj] at *; omega)
theorem S_X11_over {g : GG} {m : MM} {Q : Out → Prop} {x y : Int64} (k0 : y = 0 → Q (.inl (some (.long 0)), m)) (k1 : ¬ y = 0 → Q (.inl (some (.long (x / y))), m)) : Cl g 0 0 0 mX11_over [.long x, .long y] m Q := by
  refine Cl.of rfl (by decide) (Nat.le_of_ble_eq_true rfl) ?_
  show Wp g mX11_over 0 0 0 0 [.long x, .retAddr 0, .long y, .retAddr 0] [] m Q
  refine r_lload_n dX11_over_0 rfl ?_
  refine r_lconst (0) dX11_over_1 rfl ?_
  refine r_lcmp_ne 10 dX11_over_2 dX11_over_3 rfl (fun h1 => ?_) (fun h1 => ?_)
  ·
    refine r_lload_n dX11_over_10 rfl ?_
    refine r_lload_n dX11_over_11 rfl ?_
    refine r_ldiv dX11_over_12 h1 ?_
    refine r_lreturn dX11_over_13 rfl ?_
    first | exact k0 h1 | exact k1 h1
  ·
    refine r_lconst (0) dX11_over_6 rfl ?_
    refine r_goto 13 dX11_over_7 rfl ?_
    refine r_lreturn dX11_over_13 rfl ?_
    first | exact k0 h1 | exact k1 h1
theorem S_X11_hundredths {g : GG} {m : MM} {Q : Out → Prop} {x y : Int64} (k : Q (.inl (some (.long (x * y / 100))), m)) : Cl g 0 0 0 mX11_hundredths [.long x, .long y] m Q := by
  refine Cl.of rfl (by decide) (Nat.le_of_ble_eq_true rfl) ?_
  show Wp g mX11_hundredths 0 0 0 0 [.long x, .retAddr 0, .long y, .retAddr 0] [] m Q
  refine r_lload_n dX11_hundredths_0 rfl ?_
  refine r_lload_n dX11_hundredths_1 rfl ?_
  refine r_lmul dX11_hundredths_2 ?_
  refine r_ldc2 (100) dX11_hundredths_3 ctX11_312 ?_
  refine r_ldiv dX11_hundredths_6 (by decide) ?_
  refine r_lreturn dX11_hundredths_7 rfl ?_
  exact k
theorem S_X11_distance {g : GG} {m : MM} {Q : Out → Prop} {x y : Int64} (k1 : y ≤ x → Q (.inl (some (.long (x - y))), m)) (k0 : x < y → Q (.inl (some (.long (y - x))), m)) : Cl g 0 0 0 mX11_distance [.long x, .long y] m Q := by
  refine Cl.of rfl (by decide) (Nat.le_of_ble_eq_true rfl) ?_
  show Wp g mX11_distance 0 0 0 0 [.long x, .retAddr 0, .long y, .retAddr 0] [] m Q
  refine r_lload_n dX11_distance_0 rfl ?_
  refine r_lload_n dX11_distance_1 rfl ?_
  refine r_lcmp_lt 12 dX11_distance_2 dX11_distance_3 rfl (fun h1 => ?_) (fun h1 => ?_)
  ·
    refine r_lload_n dX11_distance_12 rfl ?_
    refine r_lload_n dX11_distance_13 rfl ?_
    refine r_lsub dX11_distance_14 ?_
    refine r_lreturn dX11_distance_15 rfl ?_
    first | exact k1 (i64_nlt.mp h1) | exact k0 h1
  ·
    refine r_lload_n dX11_distance_6 rfl ?_
    refine r_lload_n dX11_distance_7 rfl ?_
    refine r_lsub dX11_distance_8 ?_
    refine r_goto 15 dX11_distance_9 rfl ?_
    refine r_lreturn dX11_distance_15 rfl ?_
    first | exact k1 (i64_nlt.mp h1) | exact k0 h1
theorem S_X5_filled {g : GG} {m : MM} {Q : Out → Prop} {a l : Nat} (ha : kdl m a = some (5, l)) (k : Q (.inl (some (.int (ldI m a 1))), m)) : Cl g 0 0 0 mX5_filled [.ref a] m Q := by
  refine Cl.of rfl (by decide) (Nat.le_of_ble_eq_true rfl) ?_
  show Wp g mX5_filled 0 0 0 0 [.ref a] [] m Q
  refine r_aload_n dX5_filled_0 rfl ?_
  refine r_getI dX5_filled_1 fgX5_13 rfl ha ?_
  refine r_ireturn dX5_filled_4 rfl rfl ?_
  exact k
theorem S_X5_empty {g : GG} {m : MM} {Q : Out → Prop} {a l : Nat} (ha : kdl m a = some (5, l)) (k : Q (.inl none, stI m a 1 0)) : Cl g 0 0 0 mX5_empty [.ref a] m Q := by
  refine Cl.of rfl (by decide) (Nat.le_of_ble_eq_true rfl) ?_
  show Wp g mX5_empty 0 0 0 0 [.ref a] [] m Q
  refine r_aload_n dX5_empty_0 rfl ?_
  refine r_iconst (0) dX5_empty_1 rfl ?_
  refine r_putI dX5_empty_2 (fpX5_13 _ rfl) rfl ha ⟨rfl, rfl⟩ ?_
  refine r_return dX5_empty_5 rfl ?_
  exact k
theorem S_X5_isFull {g : GG} {m : MM} {Q : Out → Prop} {a l z : Nat} (ha : kdl m a = some (5, l)) (hc : kdl m (ldR m a 0) = some (13, z)) (k1 : Int32.ofNat z ≤ ldI m a 1 → Q (.inl (some (.int 1)), m)) (k0 : ldI m a 1 < Int32.ofNat z → Q (.inl (some (.int 0)), m)) : Cl g 0 0 0 mX5_isFull [.ref a] m Q := by
  refine Cl.of rfl (by decide) (Nat.le_of_ble_eq_true rfl) ?_
  show Wp g mX5_isFull 0 0 0 0 [.ref a] [] m Q
  refine r_aload_n dX5_isFull_0 rfl ?_
  refine r_getI dX5_isFull_1 fgX5_13 rfl ha ?_
  refine r_aload_n dX5_isFull_4 rfl ?_
  refine r_getR dX5_isFull_5 fgX5_7 rfl ha ?_
  refine r_alen _ dX5_isFull_8 ⟨Nat.le_of_ble_eq_true rfl, Nat.le_of_ble_eq_true rfl⟩ hc rfl ?_
  refine r_icmp_lt 16 dX5_isFull_9 rfl (fun h1 => ?_) (fun h1 => ?_)
  ·
    refine r_iconst (0) dX5_isFull_16 rfl ?_
    refine r_ireturn dX5_isFull_17 rfl rfl ?_
    first | exact k1 (by simp only [Int32.lt_iff_toInt_lt, Int32.le_iff_toInt_le, ← Int32.toInt_inj] at *; omega) | exact k0 (by simp only [Int32.lt_iff_toInt_lt, Int32.le_iff_toInt_le, ← Int32.toInt_inj] at *; omega)
  ·
    refine r_iconst (1) dX5_isFull_12 rfl ?_
    refine r_goto 17 dX5_isFull_13 rfl ?_
    refine r_ireturn dX5_isFull_17 rfl rfl ?_
    first | exact k1 (by simp only [Int32.lt_iff_toInt_lt, Int32.le_iff_toInt_le, ← Int32.toInt_inj] at *; omega) | exact k0 (by simp only [Int32.lt_iff_toInt_lt, Int32.le_iff_toInt_le, ← Int32.toInt_inj] at *; omega)
