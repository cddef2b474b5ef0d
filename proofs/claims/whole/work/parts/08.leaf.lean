theorem S_X11_isWithin {g : GG} {m : MM} {Q : Out → Prop} {v lo hi : Int32} (k1 : lo ≤ v → v ≤ hi → Q (.inl (some (.int 1)), m)) (k0 : ¬ (lo ≤ v ∧ v ≤ hi) → Q (.inl (some (.int 0)), m)) : Cl g 0 0 0 mX11_isWithin [.int v, .int lo, .int hi] m Q := by
  refine Cl.of rfl (by decide) (Nat.le_of_ble_eq_true rfl) ?_
  show Wp g mX11_isWithin 0 0 0 0 [.int v, .int lo, .int hi] [] m Q
  refine r_iload_n dX11_isWithin_0 rfl ?_
  refine r_iload_n dX11_isWithin_1 rfl ?_
  refine r_icmp_lt 14 dX11_isWithin_2 rfl (fun h1 => ?_) (fun h1 => ?_)
  ·
    refine r_iconst (0) dX11_isWithin_14 rfl ?_
    refine r_ireturn dX11_isWithin_15 rfl rfl ?_
    first | exact k1 (by simp only [Int32.lt_iff_toInt_lt, Int32.le_iff_toInt_le, ← Int32.toInt_inj] at *; omega) (by simp only [Int32.lt_iff_toInt_lt, Int32.le_iff_toInt_le, ← Int32.toInt_inj] at *; omega) | exact k0 (by simp only [Int32.lt_iff_toInt_lt, Int32.le_iff_toInt_le, ← Int32.toInt_inj] at *; omega)
  ·
    refine r_iload_n dX11_isWithin_5 rfl ?_
    refine r_iload_n dX11_isWithin_6 rfl ?_
    refine r_icmp_gt 14 dX11_isWithin_7 rfl (fun h2 => ?_) (fun h2 => ?_)
    ·
      refine r_iconst (0) dX11_isWithin_14 rfl ?_
      refine r_ireturn dX11_isWithin_15 rfl rfl ?_
      first | exact k1 (by simp only [Int32.lt_iff_toInt_lt, Int32.le_iff_toInt_le, ← Int32.toInt_inj] at *; omega) (by simp only [Int32.lt_iff_toInt_lt, Int32.le_iff_toInt_le, ← Int32.toInt_inj] at *; omega) | exact k0 (by simp only [Int32.lt_iff_toInt_lt, Int32.le_iff_toInt_le, ← Int32.toInt_inj] at *; omega)
    ·
      refine r_iconst (1) dX11_isWithin_10 rfl ?_
      refine r_goto 15 dX11_isWithin_11 rfl ?_
      refine r_ireturn dX11_isWithin_15 rfl rfl ?_
      first | exact k1 (by simp only [Int32.lt_iff_toInt_lt, Int32.le_iff_toInt_le, ← Int32.toInt_inj] at *; omega) (by simp only [Int32.lt_iff_toInt_lt, Int32.le_iff_toInt_le, ← Int32.toInt_inj] at *; omega) | exact k0 (by simp only [Int32.lt_iff_toInt_lt, Int32.le_iff_toInt_le, ← Int32.toInt_inj] at *; omega)
theorem S_X11_over {g : GG} {m : MM} {Q : Out → Prop} {x y : Int64} (k0 : y = 0 → Q (.inl (some (.long 0)), m)) (k1 : ¬ y = 0 → Q (.inl (some (.long (x / y))), m)) : Cl g 0 0 0 mX11_over [.long x, .long y] m Q := by
  refine Cl.of rfl (by decide) (Nat.le_of_ble_eq_true rfl) ?_
  show Wp g mX11_over 0 0 0 0 [.long x, .retAddr 0, .long y, .retAddr 0] [] m Q
  refine r_lload_n dX11_over_0 rfl ?_
  refine r_lconst (0) dX11_over_1 rfl ?_
  refine r_lcmp_ne 10 dX11_over_2 dX11_over_3 rfl (fun h1 => ?_) (fun h1 => ?_)
  ·
    refine r_lload_n dX11_over_10 rfl ?_
    refine r_lload_n dX11_over_11 rfl ?_
    refine r_ldiv dX11_over_12 h1 ?_
    refine r_lreturn dX11_over_13 rfl ?_
    first | exact k0 h1 | exact k1 h1
  ·
    refine r_lconst (0) dX11_over_6 rfl ?_
    refine r_goto 13 dX11_over_7 rfl ?_
    refine r_lreturn dX11_over_13 rfl ?_
    first | exact k0 h1 | exact k1 h1
theorem S_X11_hundredths {g : GG} {m : MM} {Q : Out → Prop} {x y : Int64} (k : Q (.inl (some (.long (x * y / 100))), m)) : Cl g 0 0 0 mX11_hundredths [.long x, .long y] m Q := by
  refine Cl.of rfl (by decide) (Nat.le_of_ble_eq_true rfl) ?_
  show Wp g mX11_hundredths 0 0 0 0 [.long x, .retAddr 0, .long y, .retAddr 0] [] m Q
  refine r_lload_n dX11_hundredths_0 rfl ?_
  refine r_lload_n dX11_hundredths_1 rfl ?_
  refine r_lmul dX11_hundredths_2 ?_
  refine r_ldc2 (100) dX11_hundredths_3 ctX11_312 ?_
  refine r_ldiv dX11_hundredths_6 (by decide) ?_
  refine r_lreturn dX11_hundredths_7 rfl ?_
  exact k
theorem S_X11_distance {g : GG} {m : MM} {Q : Out → Prop} {x y : Int64} (k1 : y ≤ x → Q (.inl (some (.long (x - y))), m)) (k0 : x < y → Q (.inl (some (.long (y - x))), m)) : Cl g 0 0 0 mX11_distance [.long x, .long y] m Q := by
  refine Cl.of rfl (by decide) (Nat.le_of_ble_eq_true rfl) ?_
  show Wp g mX11_distance 0 0 0 0 [.long x, .retAddr 0, .long y, .retAddr 0] [] m Q
  refine r_lload_n dX11_distance_0 rfl ?_
  refine r_lload_n dX11_distance_1 rfl ?_
  refine r_lcmp_lt 12 dX11_distance_2 dX11_distance_3 rfl (fun h1 => ?_) (fun h1 => ?_)
  ·
    refine r_lload_n dX11_distance_12 rfl ?_
    refine r_lload_n dX11_distance_13 rfl ?_
    refine r_lsub dX11_distance_14 ?_
    refine r_lreturn dX11_distance_15 rfl ?_
    first | exact k1 (i64_nlt.mp h1) | exact k0 h1
  ·
    refine r_lload_n dX11_distance_6 rfl ?_
    refine r_lload_n dX11_distance_7 rfl ?_
    refine r_lsub dX11_distance_8 ?_
    refine r_goto 15 dX11_distance_9 rfl ?_
    refine r_lreturn dX11_distance_15 rfl ?_
    first | exact k1 (i64_nlt.mp h1) | exact k0 h1
theorem S_demand1 {g : GG} {m : MM} {Q : Out → Prop} (k : Q (.inl none, m)) : Cl g 6 1 6 mX11_demand [.int 1] m Q := by
  refine Cl.of rfl (by decide) (Nat.le_of_ble_eq_true rfl) ?_
  show Wp g mX11_demand 6 1 6 0 [.int 1] [] m Q
  refine r_iload_n dX11_demand_0 rfl ?_
  refine r_if_ne 12 dX11_demand_1 rfl (fun _ => ?_) (fun hz => absurd hz (by decide))
  refine r_return dX11_demand_12 rfl ?_
  exact k
theorem S_demand0 {g : GG} {m : MM} {Q : Out → Prop} (k : Q (.inr EIAE, m)) : Cl g 6 1 6 mX11_demand [.int 0] m Q := by
  refine Cl.of rfl (by decide) (Nat.le_of_ble_eq_true rfl) ?_
  show Wp g mX11_demand 6 1 6 0 [.int 0] [] m Q
  refine r_iload_n dX11_demand_0 rfl ?_
  refine r_if_ne 12 dX11_demand_1 rfl (fun hz => absurd hz (by decide)) (fun _ => ?_)
  refine th_IAE rfl rfl dX11_demand_4 dX11_demand_7 dX11_demand_8 dX11_demand_11 (Nat.le_of_ble_eq_true rfl) (by exact Nat.le_of_ble_eq_true rfl) ?_
  exact k
theorem S_X5_filled {g : GG} {m : MM} {Q : Out → Prop} {a l : Nat} (ha : kdl m a = some (5, l)) (k : Q (.inl (some (.int (ldI m a 1))), m)) : Cl g 0 0 0 mX5_filled [.ref a] m Q := by
  refine Cl.of rfl (by decide) (Nat.le_of_ble_eq_true rfl) ?_
  show Wp g mX5_filled 0 0 0 0 [.ref a] [] m Q
  refine r_aload_n dX5_filled_0 rfl ?_
  refine r_getI dX5_filled_1 fgX5_13 rfl ha ?_
  refine r_ireturn dX5_filled_4 rfl rfl ?_
  exact k
theorem S_X5_empty {g : GG} {m : MM} {Q : Out → Prop} {a l : Nat} (ha : kdl m a = some (5, l)) (k : Q (.inl none, stI m a 1 0)) : Cl g 0 0 0 mX5_empty [.ref a] m Q := by
  refine Cl.of rfl (by decide) (Nat.le_of_ble_eq_true rfl) ?_
  show Wp g mX5_empty 0 0 0 0 [.ref a] [] m Q
  refine r_aload_n dX5_empty_0 rfl ?_
  refine r_iconst (0) dX5_empty_1 rfl ?_
  refine r_putI dX5_empty_2 (fpX5_13 _ rfl) rfl ha ⟨rfl, rfl⟩ ?_
  refine r_return dX5_empty_5 rfl ?_
  exact k
theorem S_X5_isFull {g : GG} {m : MM} {Q : Out → Prop} {a c z n : Nat} (ha : kdl m a = some (5, 0)) (hr : ldR m a 0 = c) (hc : kdl m c = some (13, z)) (hz : z < 100000) (hn : ldI m a 1 = nI n) (hnz : n ≤ z) (k1 : n = z → Q (.inl (some (.int 1)), m)) (k0 : n < z → Q (.inl (some (.int 0)), m)) : Cl g 0 0 0 mX5_isFull [.ref a] m Q := by
  refine Cl.of rfl (by decide) (Nat.le_of_ble_eq_true rfl) ?_
  show Wp g mX5_isFull 0 0 0 0 [.ref a] [] m Q
  refine r_aload_n dX5_isFull_0 rfl ?_
  refine r_getI dX5_isFull_1 fgX5_13 rfl ha ?_
  refine r_aload_n dX5_isFull_4 rfl ?_
  refine r_getRc dX5_isFull_5 fgX5_7 rfl ha hr ?_
  refine r_alen _ dX5_isFull_8 ⟨Nat.le_of_ble_eq_true rfl, Nat.le_of_ble_eq_true rfl⟩ hc rfl ?_
  refine r_icmp_lt 16 dX5_isFull_9 rfl (fun h1 => ?_) (fun h1 => ?_)
  ·
    refine r_iconst (0) dX5_isFull_16 rfl ?_
    refine r_ireturn dX5_isFull_17 rfl rfl ?_
    first | exact k1 (by rw [hn] at h1; exact Nat.le_antisymm hnz (Nat.not_lt.mp fun q => h1 (nI_lt q (by omega)))) | exact k0 (by rw [hn] at h1; exact Nat.not_le.mp fun q => nI_nlt q (by omega) h1)
  ·
    refine r_iconst (1) dX5_isFull_12 rfl ?_
    refine r_goto 17 dX5_isFull_13 rfl ?_
    refine r_ireturn dX5_isFull_17 rfl rfl ?_
    first | exact k1 (by rw [hn] at h1; exact Nat.le_antisymm hnz (Nat.not_lt.mp fun q => h1 (nI_lt q (by omega)))) | exact k0 (by rw [hn] at h1; exact Nat.not_le.mp fun q => nI_nlt q (by omega) h1)
theorem S_X5_at {g : GG} {m : MM} {Q : Out → Prop} {a c z n : Nat} (ha : kdl m a = some (5, 0)) (hr : ldR m a 0 = c) (hc : kdl m c = some (13, z)) (hz : z < 100000) (hn : ldI m a 1 = nI n) (hnz : n ≤ z) {x : Int32} (k1 : ∀ j, x = nI j → j < n → Q (.inl (some (.int (ldI m c j))), m)) (k0 : (x < 0 ∨ nI n ≤ x) → Q (.inl (some (.int 0)), m)) : Cl g 0 0 0 mX5_at [.ref a, .int x] m Q := by
  refine Cl.of rfl (by decide) (Nat.le_of_ble_eq_true rfl) ?_
  show Wp g mX5_at 0 0 0 0 [.ref a, .int x] [] m Q
  refine r_iload_n dX5_at_0 rfl ?_
  refine r_if_lt 30 dX5_at_1 rfl (fun h1 => ?_) (fun h1 => ?_)
  ·
    refine r_iconst (0) dX5_at_30 rfl ?_
    refine r_ireturn dX5_at_31 rfl rfl ?_
    first | exact k0 (Or.inl h1) | exact k0 (Or.inr (by rw [← hn]; exact h2)) | exact k0 (Or.inr (Int32.le_trans (nI_le hnz (by omega)) h3)) | (have k9 := k1 j rfl hj; rw [← nI_cl j (by omega)] at k9; exact k9)
  ·
    refine r_iload_n dX5_at_4 rfl ?_
    refine r_aload_n dX5_at_5 rfl ?_
    refine r_getI dX5_at_6 fgX5_13 rfl ha ?_
    refine r_icmp_ge 30 dX5_at_9 rfl (fun h2 => ?_) (fun h2 => ?_)
    ·
      refine r_iconst (0) dX5_at_30 rfl ?_
      refine r_ireturn dX5_at_31 rfl rfl ?_
      first | exact k0 (Or.inl h1) | exact k0 (Or.inr (by rw [← hn]; exact h2)) | exact k0 (Or.inr (Int32.le_trans (nI_le hnz (by omega)) h3)) | (have k9 := k1 j rfl hj; rw [← nI_cl j (by omega)] at k9; exact k9)
    ·
      refine r_iload_n dX5_at_12 rfl ?_
      refine r_aload_n dX5_at_13 rfl ?_
      refine r_getRc dX5_at_14 fgX5_7 rfl ha hr ?_
      refine r_alen _ dX5_at_17 ⟨Nat.le_of_ble_eq_true rfl, Nat.le_of_ble_eq_true rfl⟩ hc rfl ?_
      refine r_icmp_ge 30 dX5_at_18 rfl (fun h3 => ?_) (fun h3 => ?_)
      ·
        refine r_iconst (0) dX5_at_30 rfl ?_
        refine r_ireturn dX5_at_31 rfl rfl ?_
        first | exact k0 (Or.inl h1) | exact k0 (Or.inr (by rw [← hn]; exact h2)) | exact k0 (Or.inr (Int32.le_trans (nI_le hnz (by omega)) h3)) | (have k9 := k1 j rfl hj; rw [← nI_cl j (by omega)] at k9; exact k9)
      ·
        obtain ⟨j, rfl, hj⟩ := vin_of h1 (by rw [← hn]; exact h2) (by omega)
        refine r_aload_n dX5_at_21 rfl ?_
        refine r_getRc dX5_at_22 fgX5_7 rfl ha hr ?_
        refine r_iload_n dX5_at_25 rfl ?_
        refine r_iaload dX5_at_26 hc (vin (Nat.lt_of_lt_of_le hj hnz) (by omega)) ?_
        refine r_goto 31 dX5_at_27 rfl ?_
        refine r_ireturn dX5_at_31 rfl rfl ?_
        first | exact k0 (Or.inl h1) | exact k0 (Or.inr (by rw [← hn]; exact h2)) | exact k0 (Or.inr (Int32.le_trans (nI_le hnz (by omega)) h3)) | (have k9 := k1 j rfl hj; rw [← nI_cl j (by omega)] at k9; exact k9)
theorem S_X5_add {g : GG} {m : MM} {Q : Out → Prop} {a c z n : Nat} (ha : kdl m a = some (5, 0)) (hr : ldR m a 0 = c) (hc : kdl m c = some (13, z)) (hz : z < 100000) (hn : ldI m a 1 = nI n) (hnz : n ≤ z) (hac : a ≠ c) {v : Int32} (k1 : n < z → Q (.inl none, stI (stI m c n v) a 1 (nI (n + 1)))) (k0 : n = z → Q (.inl none, m)) : Cl g 0 0 0 mX5_add [.ref a, .int v] m Q := by
  refine Cl.of rfl (by decide) (Nat.le_of_ble_eq_true rfl) ?_
  show Wp g mX5_add 0 0 0 0 [.ref a, .int v] [] m Q
  refine r_aload_n dX5_add_0 rfl ?_
  refine r_getI dX5_add_1 fgX5_13 rfl ha ?_
  refine r_aload_n dX5_add_4 rfl ?_
  refine r_getRc dX5_add_5 fgX5_7 rfl ha hr ?_
  refine r_alen _ dX5_add_8 ⟨Nat.le_of_ble_eq_true rfl, Nat.le_of_ble_eq_true rfl⟩ hc rfl ?_
  refine r_icmp_ge 32 dX5_add_9 rfl (fun h1 => ?_) (fun h1 => ?_)
  ·
    refine r_return dX5_add_32 rfl ?_
    first | exact k0 (Nat.le_antisymm hnz (Nat.not_lt.mp fun q => nI_ge q (by omega) (by rw [← hn]; exact h1))) | skip
    all_goals (
      have e1 : ldI (stI m c (ldI m a 1).toNatClampNeg v) a 1 + 1 = nI (n + 1) := by rw [ldI_stI, if_neg (fun q => hac q.1), hn]; exact nI_1 n
      have k9 := k1 hlt
      rw [e1, hn, nI_cl n (by omega)]; exact k9)
  ·
    have hlt : n < z := Nat.not_le.mp fun q => h1 (by rw [hn]; exact nI_le q (by omega))
    refine r_aload_n dX5_add_12 rfl ?_
    refine r_getRc dX5_add_13 fgX5_7 rfl ha hr ?_
    refine r_aload_n dX5_add_16 rfl ?_
    refine r_getI dX5_add_17 fgX5_13 rfl ha ?_
    refine r_iload_n dX5_add_20 rfl ?_
    refine r_iastore dX5_add_21 hc (by rw [hn]; exact vin hlt (by omega)) ?_
    refine r_aload_n dX5_add_22 rfl ?_
    refine r_dup dX5_add_23 rfl ?_
    refine r_getI dX5_add_24 fgX5_13 rfl ha ?_
    refine r_iconst (1) dX5_add_27 rfl ?_
    refine r_iadd dX5_add_28 ?_
    refine r_putI dX5_add_29 (fpX5_13 _ rfl) rfl ha ⟨rfl, rfl⟩ ?_
    refine r_return dX5_add_32 rfl ?_
    first | exact k0 (Nat.le_antisymm hnz (Nat.not_lt.mp fun q => nI_ge q (by omega) (by rw [← hn]; exact h1))) | skip
    all_goals (
      have e1 : ldI (stI m c (ldI m a 1).toNatClampNeg v) a 1 + 1 = nI (n + 1) := by rw [ldI_stI, if_neg (fun q => hac q.1), hn]; exact nI_1 n
      have k9 := k1 hlt
      rw [e1, hn, nI_cl n (by omega)]; exact k9)
def cpR (m : MM) (a c e i : Nat) : MM := stI (stRow m c (fun j => if j < i then ldI m e j else ldI m c j)) a 1 (nI i)
theorem L_X5_copyFrom {g : GG} {m : MM} {Q : Out → Prop} {a c z : Nat} (ha : kdl m a = some (5, 0)) (hr : ldR m a 0 = c) (hc : kdl m c = some (13, z)) (hz : z < 100000) (hac : a ≠ c) {b e z2 n : Nat} (hb : kdl m b = some (5, 0)) (hq : ldR m b 0 = e) (he : kdl m e = some (13, z2)) (hz2 : z2 < 100000) (hn2 : ldI m b 1 = nI n) (hnz2 : n ≤ z2) (hnz : n ≤ z) (hab : a ≠ b) (hce : c ≠ e) (hae : a ≠ e) (hbc : b ≠ c) (k : Q (.inl none, cpR m a c e n)) : ∀ (t i : Nat), i + t = n → Wp g mX5_copyFrom 1 0 0 6 [.ref a, .ref b, .int (nI i)] [] (cpR m a c e i) Q := by
  intro t
  induction t with
  | zero =>
    intro i hi
    have hi : i = n := by omega
    subst hi
    have e1 : ldI (cpR m a c e i) b 1 = nI i := by simp only [cpR, ldI_stI, ldI_stRow]; rw [if_neg (fun q => hab q.1.symm), if_neg hbc]; exact hn2
    refine r_iload_n dX5_copyFrom_6 rfl ?_
    refine r_aload_n dX5_copyFrom_7 rfl ?_
    refine r_getI dX5_copyFrom_8 fgX5_13 rfl hb ?_
    refine r_icmp_ge 29 dX5_copyFrom_11 rfl (fun h1 => ?_) (fun h1 => ?_)
    ·
      refine r_return dX5_copyFrom_29 rfl ?_
      exact k
    ·
      exact absurd (by rw [e1]; exact nI_le (Nat.le_refl _) (by omega)) h1
  | succ t ih =>
    intro i hi
    have hin : i < n := by omega
    have e1 : ldI (cpR m a c e i) b 1 = nI n := by simp only [cpR, ldI_stI, ldI_stRow]; rw [if_neg (fun q => hab q.1.symm), if_neg hbc]; exact hn2
    have e2 : ldI (cpR m a c e i) a 1 = nI i := by simp only [cpR, ldI_stI, and_self, if_true]
    have e3 : ldI (cpR m a c e i) e i = ldI m e i := by simp only [cpR, ldI_stI, ldI_stRow]; rw [if_neg (fun q => hae q.1.symm), if_neg (Ne.symm hce)]
    have e4 : stI (stI (cpR m a c e i) c i (ldI m e i)) a 1 (nI (i + 1)) = cpR m a c e (i + 1) := by
      refine mm_extI (fun x y => ?_) rfl
      simp only [cpR, ldI_stI, ldI_stRow]
      by_cases h1 : x = a
      · subst h1
        by_cases h2 : y = 1
        · simp [h2]
        · simp [h2, hac]
      · by_cases h2 : x = c
        · subst h2
          by_cases h3 : y = i
          · subst h3; simp [h1]
          · have h4 : (y < i + 1) = (y < i) := propext ⟨fun h => by omega, fun h => by omega⟩
            simp [h1, h3, h4]
        · simp [h1, h2]
    refine r_iload_n dX5_copyFrom_6 rfl ?_
    refine r_aload_n dX5_copyFrom_7 rfl ?_
    refine r_getI dX5_copyFrom_8 fgX5_13 rfl hb ?_
    refine r_icmp_ge 29 dX5_copyFrom_11 rfl (fun h1 => ?_) (fun h1 => ?_)
    ·
      exact absurd h1 (by rw [e1]; exact nI_ge hin (by omega))
    ·
      refine r_aload_n dX5_copyFrom_14 rfl ?_
      refine r_aload_n dX5_copyFrom_15 rfl ?_
      refine r_iload_n dX5_copyFrom_16 rfl ?_
      refine r_callV1 (ci := 5) (d1 := 0) (c1 := 0) (n1 := 0) dX5_copyFrom_17 mvX5_20 rfl ⟨(Nat.le_of_ble_eq_true rfl), rfl⟩ (Nat.le_of_ble_eq_true rfl) (by exact Nat.le_of_ble_eq_true rfl) hb ?_
      refine S_X5_at (by exact hb) (by exact hq) (by exact he) hz2 e1 hnz2 (fun j hj hjn => ?_) (fun h9 => ?_)
      ·
        obtain rfl : j = i := ((nI_eq (by omega) (by omega)).mp hj).symm
        show Wp g mX5_copyFrom _ _ _ 20 _ (_ :: _) _ Q
        refine r_callV1 (ci := 5) (d1 := 0) (c1 := 0) (n1 := 0) dX5_copyFrom_20 mvX5_24 rfl ⟨(Nat.le_of_ble_eq_true rfl), rfl⟩ (Nat.le_of_ble_eq_true rfl) (by exact Nat.le_of_ble_eq_true rfl) ha ?_
        refine S_X5_add (by exact ha) (by exact hr) (by exact hc) hz e2 (by omega) hac (fun _ => ?_) (fun h9 => absurd h9 (by omega))
        rw [e3, e4]
        show Wp g mX5_copyFrom _ _ _ 23 _ [] _ Q
        refine ic_2 (1) dX5_copyFrom_23 rfl rfl (Nat.le_of_ble_eq_true rfl) ?_
        refine r_goto 6 dX5_copyFrom_26 rfl ?_
        rw [nI_1]
        exact ih (j + 1) (by omega)
      ·
        exact absurd h9 (fun h => h.elim (nI_pos (by omega)) (nI_ge hin (by omega)))
theorem S_X5_copyFrom {g : GG} {m : MM} {Q : Out → Prop} {a c z : Nat} (ha : kdl m a = some (5, 0)) (hr : ldR m a 0 = c) (hc : kdl m c = some (13, z)) (hz : z < 100000) (hac : a ≠ c) {b e z2 n : Nat} (hb : kdl m b = some (5, 0)) (hq : ldR m b 0 = e) (he : kdl m e = some (13, z2)) (hz2 : z2 < 100000) (hn2 : ldI m b 1 = nI n) (hnz2 : n ≤ z2) (hnz : n ≤ z) (hab : a ≠ b) (hce : c ≠ e) (hae : a ≠ e) (hbc : b ≠ c) (k : Q (.inl none, cpR m a c e n)) : Cl g 1 0 0 mX5_copyFrom [.ref a, .ref b] m Q := by
  refine Cl.of rfl (by decide) (Nat.le_of_ble_eq_true rfl) ?_
  show Wp g mX5_copyFrom 1 0 0 0 [.ref a, .ref b, .retAddr 0] [] m Q
  refine r_aload_n dX5_copyFrom_0 rfl ?_
  refine r_callV0 (ci := 5) (d1 := 0) (c1 := 0) (n1 := 0) dX5_copyFrom_1 mvX5_17 rfl ⟨(Nat.le_of_ble_eq_true rfl), rfl⟩ (Nat.le_of_ble_eq_true rfl) (by exact Nat.le_of_ble_eq_true rfl) ha ?_
  refine S_X5_empty ha ?_
  show Wp g mX5_copyFrom _ _ _ 4 _ [] _ Q
  refine r_iconst (0) dX5_copyFrom_4 rfl ?_
  refine si_2 dX5_copyFrom_5 rfl (Nat.le_of_ble_eq_true rfl) ?_
  exact Wp_m (m' := cpR m a c e 0) (mm_extI (fun x y => by simp only [cpR, ldI_stI, ldI_stRow]; by_cases h1 : x = c <;> simp [h1, nI_0]) rfl) (L_X5_copyFrom ha hr hc hz hac hb hq he hz2 hn2 hnz2 hnz hab hce hae hbc k n 0 (by omega))
