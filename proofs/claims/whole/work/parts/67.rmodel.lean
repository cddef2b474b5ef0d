theorem mulB {x y : Int64} {A B : Int} (hx : 0 ≤ x.toInt ∧ x.toInt ≤ A) (hy : 0 ≤ y.toInt ∧ y.toInt ≤ B) (h : A * B < 4611686018427387904) : (x * y).toInt = x.toInt * y.toInt ∧ 0 ≤ (x * y).toInt ∧ (x * y).toInt ≤ A * B := by
  have h1 : x.toInt * y.toInt ≤ A * B := Int.mul_le_mul hx.2 hy.2 hy.1 (by omega)
  have h2 : 0 ≤ x.toInt * y.toInt := Int.mul_nonneg hx.1 hy.1
  have e : (x * y).toInt = x.toInt * y.toInt := by rw [Int64.toInt_mul, Int.bmod_eq_of_le (by omega) (by omega)]
  rw [e]; exact ⟨rfl, h2, h1⟩
theorem divB {x y : Int64} {A : Int} (hx : 0 ≤ x.toInt ∧ x.toInt ≤ A) (hA : A < 4611686018427387904) (hy : 1 ≤ y.toInt) : (x / y).toInt = x.toInt / y.toInt ∧ 0 ≤ (x / y).toInt ∧ (x / y).toInt ≤ A := by
  have h1 : 0 ≤ x.toInt / y.toInt := Int.ediv_nonneg hx.1 (by omega)
  have h2 : x.toInt / y.toInt ≤ x.toInt := Int.ediv_le_self _ hx.1
  have e : (x / y).toInt = x.toInt / y.toInt := by rw [Int64.toInt_div, Int.tdiv_eq_ediv_of_nonneg hx.1, Int.bmod_eq_of_le (by omega) (by omega)]
  rw [e]; exact ⟨rfl, h1, by omega⟩
theorem rt32 {q : Int64} (h : 0 ≤ q.toInt ∧ q.toInt ≤ 2147483647) : q.toInt32.toInt64 = q := Int64.toInt_inj.mp (by rw [Int32.toInt_toInt64, Int64.toInt_toInt32, Int.bmod_eq_of_le (by omega) (by omega)])
theorem t64B {x : Int32} {A : Int} (h : iv 0 A x) : 0 ≤ x.toInt64.toInt ∧ x.toInt64.toInt ≤ A := by rw [Int32.toInt_toInt64]; exact h
theorem add64 {x y : Int32} {A B : Int} (hx : iv 0 A x) (hy : iv 0 B y) (h : A + B ≤ 2147483647) : (x + y).toInt64 = x.toInt64 + y.toInt64 ∧ iv 0 (A + B) (x + y) := by
  unfold iv at hx hy ⊢
  have e : (x + y).toInt = x.toInt + y.toInt := by rw [Int32.toInt_add, Int.bmod_eq_of_le (by omega) (by omega)]
  refine ⟨Int64.toInt_inj.mp ?_, by omega⟩
  rw [Int32.toInt_toInt64, e, Int64.toInt_add, Int32.toInt_toInt64, Int32.toInt_toInt64, Int.bmod_eq_of_le (by omega) (by omega)]
theorem mul32 {x y : Int32} {A B : Int} (hx : iv 0 A x) (hy : iv 0 B y) (h : A * B ≤ 2147483647) : (x * y).toInt64 = x.toInt64 * y.toInt64 ∧ iv 0 (A * B) (x * y) := by
  unfold iv at hx hy ⊢
  have h1 : x.toInt * y.toInt ≤ A * B := Int.mul_le_mul hx.2 hy.2 hy.1 (by omega)
  have h2 : 0 ≤ x.toInt * y.toInt := Int.mul_nonneg hx.1 hy.1
  have e : (x * y).toInt = x.toInt * y.toInt := by rw [Int32.toInt_mul, Int.bmod_eq_of_le (by omega) (by omega)]
  refine ⟨Int64.toInt_inj.mp ?_, by omega⟩
  rw [Int32.toInt_toInt64, e, Int64.toInt_mul, Int32.toInt_toInt64, Int32.toInt_toInt64, Int.bmod_eq_of_le (by omega) (by omega)]
theorem lt64 {x y : Int32} : x.toInt64 ≤ y.toInt64 ↔ x ≤ y := by rw [Int64.le_iff_toInt_le, Int32.le_iff_toInt_le, Int32.toInt_toInt64, Int32.toInt_toInt64]
theorem sumF_b {p : Nat → Int32} {A : Int} : ∀ n, (∀ j, j < n → iv 0 A (p j)) → A * n ≤ 2147483647 → 0 ≤ A → iv 0 (A * n) (sumF p n)
  | 0, _, _, _ => ⟨show (0 : Int) ≤ (0 : Int32).toInt by decide, by show (0 : Int32).toInt ≤ A * 0; have : (0 : Int32).toInt = 0 := rfl; omega⟩
  | n + 1, h, hA, h0 => by
    have e : A * ((n + 1 : Nat) : Int) = A * n + A := by rw [Int.natCast_add, Int.mul_add]; omega
    rw [e] at hA ⊢
    exact (add64 (sumF_b n (fun j hj => h j (by omega)) (by omega) h0) (h n (by omega)) (by omega)).2
theorem maxF_b {p : Nat → Int32} {A : Int} (h0 : 0 ≤ A) : ∀ n, (∀ j, j < n → iv 0 A (p j)) → iv 0 A (maxF p n)
  | 0, _ => ⟨show (0 : Int) ≤ (0 : Int32).toInt by decide, h0⟩
  | n + 1, h => by
    show iv 0 A (if maxF p n < p n then p n else maxF p n)
    split
    · exact h n (by omega)
    · exact maxF_b h0 n (fun j hj => h j (by omega))
/-- a hull's numbers are small -/
theorem hul_b {f : Nat → Int32} {h : Nat} (hV : Vf f) (hh : h < nH f) : (∀ j, j < nS f h → iv 0 60 (hB f h j) ∧ iv 0 60 (hD f h j) ∧ iv 0 180 (hB f h j + 2 * hD f h j) ∧ iv 0 3600 (hB f h j * hD f h j) ∧ (hB f h j + 2 * hD f h j).toInt64 = (hB f h j + 2 * hD f h j).toInt64) := fun j hj => by
  obtain ⟨-, -, -, -, w⟩ := hV.2.1 h hh
  obtain ⟨w1, w2⟩ := w j hj
  have t2 : iv 0 2 (2 : Int32) := ⟨by decide, by decide⟩
  have m2 := (mul32 t2 w2 (by omega)).2
  exact ⟨w1, w2, (add64 w1 m2 (by omega)).2, (mul32 w1 w2 (by omega)).2, rfl⟩
theorem mLn_b {L k : Int32} (hL : iv 10 400 L) (hk : iv 1 40 k) : iv 1 400 (mLn L k) ∧ (mLn L k = if L / k = 0 then 1 else L / k) := by
  unfold iv at hL hk
  have e : (L / k).toInt = L.toInt / k.toInt := by rw [Int32.toInt_div, Int.tdiv_eq_ediv_of_nonneg (by omega), Int.bmod_eq_of_le (by have := Int.ediv_nonneg (a := L.toInt) (b := k.toInt) (by omega) (by omega); omega) (by have := Int.ediv_le_self k.toInt (a := L.toInt) (by omega); omega)]
  have e1 : 0 ≤ L.toInt / k.toInt := Int.ediv_nonneg (by omega) (by omega)
  have e2 : L.toInt / k.toInt ≤ L.toInt := Int.ediv_le_self _ (by omega)
  have o : (1 : Int32).toInt = 1 := rfl
  have z : (0 : Int32).toInt = 0 := rfl
  have kz : ¬ k = 0 := fun q => by rw [q] at hk; exact absurd hk.1 (by decide)
  unfold mLn iv
  by_cases c : 0 < k ∧ k < L
  · rw [if_pos c]
    have c1 := Int32.lt_iff_toInt_lt.mp c.2
    have g1 : 1 ≤ L.toInt / k.toInt := Int.le_ediv_of_mul_le (by omega) (by omega)
    rw [e]
    refine ⟨⟨g1, by omega⟩, (if_neg (fun q => ?_)).symm⟩
    have := congrArg Int32.toInt q; rw [e, z] at this; omega
  · rw [if_neg c]
    have c1 : ¬ k.toInt < L.toInt := fun q => c ⟨Int32.lt_iff_toInt_lt.mpr (by omega), Int32.lt_iff_toInt_lt.mpr q⟩
    refine ⟨⟨by decide, by decide⟩, ?_⟩
    have g1 : L.toInt / k.toInt ≤ 1 := by
      have : L.toInt / k.toInt < 2 := Int.ediv_lt_of_lt_mul (by omega) (by omega)
      omega
    by_cases q : L / k = 0
    · rw [if_pos q]
    · rw [if_neg q]
      refine Int32.toInt_inj.mp ?_
      rw [o, e]
      have : L.toInt / k.toInt ≠ 0 := fun w => q (Int32.toInt_inj.mp (by rw [e, z]; exact w))
      omega
theorem mx64 {a p : Int32} : (if p.toInt64 ≤ a.toInt64 then a.toInt64 else p.toInt64) = (if a < p then p else a).toInt64 := by
  by_cases c : p.toInt64 ≤ a.toInt64
  · rw [if_pos c, if_neg (fun q => i32_nlt.mpr (lt64.mp c) q)]
  · rw [if_neg c, if_pos (i32_nle.mp (fun q => c (lt64.mpr q)))]
theorem mxa {a p : Int32} (c : p.toInt64 ≤ a.toInt64) : a.toInt64 = (if a < p then p else a).toInt64 := by rw [← mx64, if_pos c]
theorem mxb {a p : Int32} (c : ¬ p.toInt64 ≤ a.toInt64) : p.toInt64 = (if a < p then p else a).toInt64 := by rw [← mx64, if_neg c]
theorem L_rmod {g : GG} {m : MM} {Q : Out → Prop} {f : Nat → Int32} {fs : Nat → Nat → Int32} {ic : Nat} {tp : Nat → Int32} {tn : Nat} {pl : Int32} {n1 n2 : Nat} {ts : Nat → (Nat → Int32) × Nat} (hV : Vf f) (hI : RI f fs ic tp tn pl n1 n2 ts m) {h : Nat} (hh : h < nH f) {k x3 : Int32} {lv : Int64} (kx : ∀ x18 x19 : Value, Wp g mX12_modelOf 0 0 0 174 [.ref 167, .int (nI h), .int k, .int x3, .long lv, .retAddr 0, .long (sumF (fun j => hB f h j + 2 * hD f h j) (nS f h)).toInt64, .retAddr 0, .long (sumF (fun j => hB f h j * hD f h j) (nS f h)).toInt64, .retAddr 0, .long (maxF (fun j => hB f h j * hD f h j) (nS f h)).toInt64, .retAddr 0, .long (maxF (hB f h) (nS f h)).toInt64, .retAddr 0, .long (maxF (hD f h) (nS f h)).toInt64, .retAddr 0, .int (nI (nS f h)), .int (nI (nS f h)), x18, x19] [] m Q) : ∀ (t i : Nat) (x18 x19 : Value), i + t = nS f h → x18.category = 1 → Wp g mX12_modelOf 0 0 0 52 [.ref 167, .int (nI h), .int k, .int x3, .long lv, .retAddr 0, .long (sumF (fun j => hB f h j + 2 * hD f h j) i).toInt64, .retAddr 0, .long (sumF (fun j => hB f h j * hD f h j) i).toInt64, .retAddr 0, .long (maxF (fun j => hB f h j * hD f h j) i).toInt64, .retAddr 0, .long (maxF (hB f h) i).toInt64, .retAddr 0, .long (maxF (hD f h) i).toInt64, .retAddr 0, .int (nI (nS f h)), .int (nI i), x18, x19] [] m Q := by
  have hF := hI.1
  have h6 : h < 6 := by have := hV.1.1.2; omega
  have h12 := (hV.2.1 h hh).2.2.2.1
  have hb := hul_b hV hh
  intro t
  induction t with
  | zero =>
    intro i x18 x19 hi hc
    have hi : i = nS f h := by omega
    subst hi
    refine r_iload dX12_modelOf_52 rfl ?_
    refine r_iload dX12_modelOf_54 rfl ?_
    refine r_icmp_ge 174 dX12_modelOf_56 rfl (fun hge => ?_) (fun hge => ?_)
    ·
      exact kx _ _
    ·
      exact absurd (nI_le (Nat.le_refl _) (by omega)) hge
  | succ t ih =>
    intro i x18 x19 hi hc
    have hin : i < nS f h := by omega
    obtain ⟨b1, b2, b3, b4, -⟩ := hb i hin
    have sa := sumF_b (p := fun j => hB f h j + 2 * hD f h j) (A := 180) i (fun j hj => (hb j (by omega)).2.2.1) (by omega) (by omega)
    have su := sumF_b (p := fun j => hB f h j * hD f h j) (A := 3600) i (fun j hj => (hb j (by omega)).2.2.2.1) (by omega) (by omega)
    have a1 := (add64 sa b3 (by omega)).1
    have a2 := (add64 su b4 (by omega)).1
    refine r_iload dX12_modelOf_52 rfl ?_
    refine r_iload dX12_modelOf_54 rfl ?_
    refine r_icmp_ge 174 dX12_modelOf_56 rfl (fun hge => ?_) (fun hge => ?_)
    ·
      exact absurd hge (nI_ge hin (by omega))
    ·
      refine r_aload_n dX12_modelOf_59 rfl ?_
      refine r_getRc dX12_modelOf_60 fgX12_40 rfl (by exact k_167 hF) (by exact r_167_22 hF) ?_
      refine r_iload_n dX12_modelOf_63 rfl ?_
      refine r_aaloadc (b := 183 + h) dX12_modelOf_64 ⟨Nat.le_of_ble_eq_true rfl, Nat.le_of_ble_eq_true rfl⟩ (by exact k_182 hF) (vin (by omega) (by omega)) (by rw [nI_cl _ (by omega)]; exact R_bea hF h6) ?_
      refine r_iload dX12_modelOf_65 rfl ?_
      refine r_ialoadc (hB f h i) dX12_modelOf_67 (by exact K_bea hF h6) (vin (by omega) (by omega)) (by rw [nI_cl _ (by omega)]; exact hI.2.1.at (by omega) (l_bea h6 (by omega))) ?_
      refine si_18 dX12_modelOf_68 (by first | rfl | assumption) (Nat.le_of_ble_eq_true rfl) ?_
      refine r_aload_n dX12_modelOf_70 rfl ?_
      refine r_getRc dX12_modelOf_71 fgX12_43 rfl (by exact k_167 hF) (by exact r_167_23 hF) ?_
      refine r_iload_n dX12_modelOf_74 rfl ?_
      refine r_aaloadc (b := 190 + h) dX12_modelOf_75 ⟨Nat.le_of_ble_eq_true rfl, Nat.le_of_ble_eq_true rfl⟩ (by exact k_189 hF) (vin (by omega) (by omega)) (by rw [nI_cl _ (by omega)]; exact R_dra hF h6) ?_
      refine r_iload dX12_modelOf_76 rfl ?_
      refine r_ialoadc (hD f h i) dX12_modelOf_78 (by exact K_dra hF h6) (vin (by omega) (by omega)) (by rw [nI_cl _ (by omega)]; exact hI.2.1.at (by omega) (l_dra h6 (by omega))) ?_
      refine si_19 dX12_modelOf_79 (by first | rfl | assumption) (Nat.le_of_ble_eq_true rfl) ?_
      refine r_lload dX12_modelOf_81 rfl ?_
      refine r_iload dX12_modelOf_83 rfl ?_
      refine r_iconst (2) dX12_modelOf_85 rfl ?_
      refine r_iload dX12_modelOf_86 rfl ?_
      refine r_imul dX12_modelOf_88 ?_
      refine r_iadd dX12_modelOf_89 ?_
      refine r_i2l dX12_modelOf_90 ?_
      refine r_ladd dX12_modelOf_91 ?_
      refine sl_6 dX12_modelOf_92 (by first | rfl | assumption) (Nat.le_of_ble_eq_true rfl) ?_
      refine r_lload dX12_modelOf_94 rfl ?_
      refine r_iload dX12_modelOf_96 rfl ?_
      refine r_iload dX12_modelOf_98 rfl ?_
      refine r_imul dX12_modelOf_100 ?_
      refine r_i2l dX12_modelOf_101 ?_
      refine r_ladd dX12_modelOf_102 ?_
      refine sl_8 dX12_modelOf_103 (by first | rfl | assumption) (Nat.le_of_ble_eq_true rfl) ?_
      refine r_iload dX12_modelOf_105 rfl ?_
      refine r_iload dX12_modelOf_107 rfl ?_
      refine r_imul dX12_modelOf_109 ?_
      refine r_i2l dX12_modelOf_110 ?_
      refine r_lload dX12_modelOf_111 rfl ?_
      refine r_lcmp_le 126 dX12_modelOf_113 dX12_modelOf_114 rfl (fun c1 => ?_) (fun c1 => ?_)
      ·
        refine r_lload dX12_modelOf_126 rfl ?_
        refine sl_10 dX12_modelOf_128 (by first | rfl | assumption) (Nat.le_of_ble_eq_true rfl) ?_
        refine r_iload dX12_modelOf_130 rfl ?_
        refine r_i2l dX12_modelOf_132 ?_
        refine r_lload dX12_modelOf_133 rfl ?_
        refine r_lcmp_le 145 dX12_modelOf_135 dX12_modelOf_136 rfl (fun c2 => ?_) (fun c2 => ?_)
        ·
          refine r_lload dX12_modelOf_145 rfl ?_
          refine sl_12 dX12_modelOf_147 (by first | rfl | assumption) (Nat.le_of_ble_eq_true rfl) ?_
          refine r_iload dX12_modelOf_149 rfl ?_
          refine r_i2l dX12_modelOf_151 ?_
          refine r_lload dX12_modelOf_152 rfl ?_
          refine r_lcmp_le 164 dX12_modelOf_154 dX12_modelOf_155 rfl (fun c3 => ?_) (fun c3 => ?_)
          ·
            refine r_lload dX12_modelOf_164 rfl ?_
            refine sl_14 dX12_modelOf_166 (by first | rfl | assumption) (Nat.le_of_ble_eq_true rfl) ?_
            refine ic_17 (1) dX12_modelOf_168 rfl rfl (Nat.le_of_ble_eq_true rfl) ?_
            refine r_goto 52 dX12_modelOf_171 rfl ?_
            rw [nI_1 i]
            have L := ih (i + 1) (.int (hB f h i)) (.int (hD f h i)) (by omega) rfl
            rw [show (maxF (fun j => hB f h j * hD f h j) (i + 1)).toInt64 = (maxF (fun j => hB f h j * hD f h j) i).toInt64 from (mxa c1).symm] at L
            rw [show (maxF (hB f h) (i + 1)).toInt64 = (maxF (hB f h) i).toInt64 from (mxa c2).symm] at L
            rw [show (maxF (hD f h) (i + 1)).toInt64 = (maxF (hD f h) i).toInt64 from (mxa c3).symm] at L
            rw [show (sumF (fun j => hB f h j + 2 * hD f h j) (i + 1)).toInt64 = _ from a1, show (sumF (fun j => hB f h j * hD f h j) (i + 1)).toInt64 = _ from a2] at L
            exact L
          ·
            refine r_iload dX12_modelOf_158 rfl ?_
            refine r_i2l dX12_modelOf_160 ?_
            refine r_goto 166 dX12_modelOf_161 rfl ?_
            refine sl_14 dX12_modelOf_166 (by first | rfl | assumption) (Nat.le_of_ble_eq_true rfl) ?_
            refine ic_17 (1) dX12_modelOf_168 rfl rfl (Nat.le_of_ble_eq_true rfl) ?_
            refine r_goto 52 dX12_modelOf_171 rfl ?_
            rw [nI_1 i]
            have L := ih (i + 1) (.int (hB f h i)) (.int (hD f h i)) (by omega) rfl
            rw [show (maxF (fun j => hB f h j * hD f h j) (i + 1)).toInt64 = (maxF (fun j => hB f h j * hD f h j) i).toInt64 from (mxa c1).symm] at L
            rw [show (maxF (hB f h) (i + 1)).toInt64 = (maxF (hB f h) i).toInt64 from (mxa c2).symm] at L
            rw [show (maxF (hD f h) (i + 1)).toInt64 = (hD f h i).toInt64 from (mxb c3).symm] at L
            rw [show (sumF (fun j => hB f h j + 2 * hD f h j) (i + 1)).toInt64 = _ from a1, show (sumF (fun j => hB f h j * hD f h j) (i + 1)).toInt64 = _ from a2] at L
            exact L
        ·
          refine r_iload dX12_modelOf_139 rfl ?_
          refine r_i2l dX12_modelOf_141 ?_
          refine r_goto 147 dX12_modelOf_142 rfl ?_
          refine sl_12 dX12_modelOf_147 (by first | rfl | assumption) (Nat.le_of_ble_eq_true rfl) ?_
          refine r_iload dX12_modelOf_149 rfl ?_
          refine r_i2l dX12_modelOf_151 ?_
          refine r_lload dX12_modelOf_152 rfl ?_
          refine r_lcmp_le 164 dX12_modelOf_154 dX12_modelOf_155 rfl (fun c3 => ?_) (fun c3 => ?_)
          ·
            refine r_lload dX12_modelOf_164 rfl ?_
            refine sl_14 dX12_modelOf_166 (by first | rfl | assumption) (Nat.le_of_ble_eq_true rfl) ?_
            refine ic_17 (1) dX12_modelOf_168 rfl rfl (Nat.le_of_ble_eq_true rfl) ?_
            refine r_goto 52 dX12_modelOf_171 rfl ?_
            rw [nI_1 i]
            have L := ih (i + 1) (.int (hB f h i)) (.int (hD f h i)) (by omega) rfl
            rw [show (maxF (fun j => hB f h j * hD f h j) (i + 1)).toInt64 = (maxF (fun j => hB f h j * hD f h j) i).toInt64 from (mxa c1).symm] at L
            rw [show (maxF (hB f h) (i + 1)).toInt64 = (hB f h i).toInt64 from (mxb c2).symm] at L
            rw [show (maxF (hD f h) (i + 1)).toInt64 = (maxF (hD f h) i).toInt64 from (mxa c3).symm] at L
            rw [show (sumF (fun j => hB f h j + 2 * hD f h j) (i + 1)).toInt64 = _ from a1, show (sumF (fun j => hB f h j * hD f h j) (i + 1)).toInt64 = _ from a2] at L
            exact L
          ·
            refine r_iload dX12_modelOf_158 rfl ?_
            refine r_i2l dX12_modelOf_160 ?_
            refine r_goto 166 dX12_modelOf_161 rfl ?_
            refine sl_14 dX12_modelOf_166 (by first | rfl | assumption) (Nat.le_of_ble_eq_true rfl) ?_
            refine ic_17 (1) dX12_modelOf_168 rfl rfl (Nat.le_of_ble_eq_true rfl) ?_
            refine r_goto 52 dX12_modelOf_171 rfl ?_
            rw [nI_1 i]
            have L := ih (i + 1) (.int (hB f h i)) (.int (hD f h i)) (by omega) rfl
            rw [show (maxF (fun j => hB f h j * hD f h j) (i + 1)).toInt64 = (maxF (fun j => hB f h j * hD f h j) i).toInt64 from (mxa c1).symm] at L
            rw [show (maxF (hB f h) (i + 1)).toInt64 = (hB f h i).toInt64 from (mxb c2).symm] at L
            rw [show (maxF (hD f h) (i + 1)).toInt64 = (hD f h i).toInt64 from (mxb c3).symm] at L
            rw [show (sumF (fun j => hB f h j + 2 * hD f h j) (i + 1)).toInt64 = _ from a1, show (sumF (fun j => hB f h j * hD f h j) (i + 1)).toInt64 = _ from a2] at L
            exact L
      ·
        refine r_iload dX12_modelOf_117 rfl ?_
        refine r_iload dX12_modelOf_119 rfl ?_
        refine r_imul dX12_modelOf_121 ?_
        refine r_i2l dX12_modelOf_122 ?_
        refine r_goto 128 dX12_modelOf_123 rfl ?_
        refine sl_10 dX12_modelOf_128 (by first | rfl | assumption) (Nat.le_of_ble_eq_true rfl) ?_
        refine r_iload dX12_modelOf_130 rfl ?_
        refine r_i2l dX12_modelOf_132 ?_
        refine r_lload dX12_modelOf_133 rfl ?_
        refine r_lcmp_le 145 dX12_modelOf_135 dX12_modelOf_136 rfl (fun c2 => ?_) (fun c2 => ?_)
        ·
          refine r_lload dX12_modelOf_145 rfl ?_
          refine sl_12 dX12_modelOf_147 (by first | rfl | assumption) (Nat.le_of_ble_eq_true rfl) ?_
          refine r_iload dX12_modelOf_149 rfl ?_
          refine r_i2l dX12_modelOf_151 ?_
          refine r_lload dX12_modelOf_152 rfl ?_
          refine r_lcmp_le 164 dX12_modelOf_154 dX12_modelOf_155 rfl (fun c3 => ?_) (fun c3 => ?_)
          ·
            refine r_lload dX12_modelOf_164 rfl ?_
            refine sl_14 dX12_modelOf_166 (by first | rfl | assumption) (Nat.le_of_ble_eq_true rfl) ?_
            refine ic_17 (1) dX12_modelOf_168 rfl rfl (Nat.le_of_ble_eq_true rfl) ?_
            refine r_goto 52 dX12_modelOf_171 rfl ?_
            rw [nI_1 i]
            have L := ih (i + 1) (.int (hB f h i)) (.int (hD f h i)) (by omega) rfl
            rw [show (maxF (fun j => hB f h j * hD f h j) (i + 1)).toInt64 = (hB f h i * hD f h i).toInt64 from (mxb c1).symm] at L
            rw [show (maxF (hB f h) (i + 1)).toInt64 = (maxF (hB f h) i).toInt64 from (mxa c2).symm] at L
            rw [show (maxF (hD f h) (i + 1)).toInt64 = (maxF (hD f h) i).toInt64 from (mxa c3).symm] at L
            rw [show (sumF (fun j => hB f h j + 2 * hD f h j) (i + 1)).toInt64 = _ from a1, show (sumF (fun j => hB f h j * hD f h j) (i + 1)).toInt64 = _ from a2] at L
            exact L
          ·
            refine r_iload dX12_modelOf_158 rfl ?_
            refine r_i2l dX12_modelOf_160 ?_
            refine r_goto 166 dX12_modelOf_161 rfl ?_
            refine sl_14 dX12_modelOf_166 (by first | rfl | assumption) (Nat.le_of_ble_eq_true rfl) ?_
            refine ic_17 (1) dX12_modelOf_168 rfl rfl (Nat.le_of_ble_eq_true rfl) ?_
            refine r_goto 52 dX12_modelOf_171 rfl ?_
            rw [nI_1 i]
            have L := ih (i + 1) (.int (hB f h i)) (.int (hD f h i)) (by omega) rfl
            rw [show (maxF (fun j => hB f h j * hD f h j) (i + 1)).toInt64 = (hB f h i * hD f h i).toInt64 from (mxb c1).symm] at L
            rw [show (maxF (hB f h) (i + 1)).toInt64 = (maxF (hB f h) i).toInt64 from (mxa c2).symm] at L
            rw [show (maxF (hD f h) (i + 1)).toInt64 = (hD f h i).toInt64 from (mxb c3).symm] at L
            rw [show (sumF (fun j => hB f h j + 2 * hD f h j) (i + 1)).toInt64 = _ from a1, show (sumF (fun j => hB f h j * hD f h j) (i + 1)).toInt64 = _ from a2] at L
            exact L
        ·
          refine r_iload dX12_modelOf_139 rfl ?_
          refine r_i2l dX12_modelOf_141 ?_
          refine r_goto 147 dX12_modelOf_142 rfl ?_
          refine sl_12 dX12_modelOf_147 (by first | rfl | assumption) (Nat.le_of_ble_eq_true rfl) ?_
          refine r_iload dX12_modelOf_149 rfl ?_
          refine r_i2l dX12_modelOf_151 ?_
          refine r_lload dX12_modelOf_152 rfl ?_
          refine r_lcmp_le 164 dX12_modelOf_154 dX12_modelOf_155 rfl (fun c3 => ?_) (fun c3 => ?_)
          ·
            refine r_lload dX12_modelOf_164 rfl ?_
            refine sl_14 dX12_modelOf_166 (by first | rfl | assumption) (Nat.le_of_ble_eq_true rfl) ?_
            refine ic_17 (1) dX12_modelOf_168 rfl rfl (Nat.le_of_ble_eq_true rfl) ?_
            refine r_goto 52 dX12_modelOf_171 rfl ?_
            rw [nI_1 i]
            have L := ih (i + 1) (.int (hB f h i)) (.int (hD f h i)) (by omega) rfl
            rw [show (maxF (fun j => hB f h j * hD f h j) (i + 1)).toInt64 = (hB f h i * hD f h i).toInt64 from (mxb c1).symm] at L
            rw [show (maxF (hB f h) (i + 1)).toInt64 = (hB f h i).toInt64 from (mxb c2).symm] at L
            rw [show (maxF (hD f h) (i + 1)).toInt64 = (maxF (hD f h) i).toInt64 from (mxa c3).symm] at L
            rw [show (sumF (fun j => hB f h j + 2 * hD f h j) (i + 1)).toInt64 = _ from a1, show (sumF (fun j => hB f h j * hD f h j) (i + 1)).toInt64 = _ from a2] at L
            exact L
          ·
            refine r_iload dX12_modelOf_158 rfl ?_
            refine r_i2l dX12_modelOf_160 ?_
            refine r_goto 166 dX12_modelOf_161 rfl ?_
            refine sl_14 dX12_modelOf_166 (by first | rfl | assumption) (Nat.le_of_ble_eq_true rfl) ?_
            refine ic_17 (1) dX12_modelOf_168 rfl rfl (Nat.le_of_ble_eq_true rfl) ?_
            refine r_goto 52 dX12_modelOf_171 rfl ?_
            rw [nI_1 i]
            have L := ih (i + 1) (.int (hB f h i)) (.int (hD f h i)) (by omega) rfl
            rw [show (maxF (fun j => hB f h j * hD f h j) (i + 1)).toInt64 = (hB f h i * hD f h i).toInt64 from (mxb c1).symm] at L
            rw [show (maxF (hB f h) (i + 1)).toInt64 = (hB f h i).toInt64 from (mxb c2).symm] at L
            rw [show (maxF (hD f h) (i + 1)).toInt64 = (hD f h i).toInt64 from (mxb c3).symm] at L
            rw [show (sumF (fun j => hB f h j + 2 * hD f h j) (i + 1)).toInt64 = _ from a1, show (sumF (fun j => hB f h j * hD f h j) (i + 1)).toInt64 = _ from a2] at L
            exact L
theorem S_rmod0 {g : GG} {m : MM} {Q : Out → Prop} {f : Nat → Int32} {fs : Nat → Nat → Int32} {ic : Nat} {tp : Nat → Int32} {tn : Nat} {pl : Int32} {n1 n2 : Nat} {ts : Nat → (Nat → Int32) × Nat} (hV : Vf f) (hI : RI f fs ic tp tn pl n1 n2 ts m) {h : Nat} (hh : h < nH f) {k : Int32} (hk : iv 1 40 k) (kk : Q (.inl (some (.long (mdH f h k 0).toInt64)), m)) : Cl g 0 0 0 mX12_modelOf [.ref 167, .int (nI h), .int k, .int 0] m Q := by
  have hF := hI.1
  have h6 : h < 6 := by have := hV.1.1.2; omega
  have h12 := (hV.2.1 h hh).2.2.2.1
  have h2 := (hV.2.1 h hh).2.2.1
  have hsc := (hV.2.1 h hh).2.1
  have hL := (hV.2.1 h hh).1
  have hb := hul_b hV hh
  have ml := mLn_b hL hk
  have kz : ¬ k = 0 := fun q => by rw [q] at hk; exact absurd hk.1 (by decide)
  have lb := t64B (A := 400) (x := mLn (f (7 + h)) k) ⟨by have := ml.1.1; omega, ml.1.2⟩
  have sa := t64B (sumF_b (p := fun j => hB f h j + 2 * hD f h j) (A := 180) (nS f h) (fun j hj => (hb j (by omega)).2.2.1) (by omega) (by omega))
  have su := t64B (sumF_b (p := fun j => hB f h j * hD f h j) (A := 3600) (nS f h) (fun j hj => (hb j (by omega)).2.2.2.1) (by omega) (by omega))
  have xb := maxF_b (p := hB f h) (A := 60) (by omega) (nS f h) (fun j hj => (hb j (by omega)).1)
  have xd := maxF_b (p := hD f h) (A := 60) (by omega) (nS f h) (fun j hj => (hb j (by omega)).2.1)
  have xu := maxF_b (p := fun j => hB f h j * hD f h j) (A := 3600) (by omega) (nS f h) (fun j hj => (hb j (by omega)).2.2.2.1)
  have sn : (nI (nS f h)).toInt64.toInt = nS f h := by rw [Int32.toInt_toInt64, nI_int _ (by omega)]
  have d1 : (100 * (nI (nS f h)).toInt64).toInt = 100 * nS f h := by rw [Int64.toInt_mul, sn]; show Int.bmod (100 * (nS f h : Int)) (2 ^ 64) = _; rw [Int.bmod_eq_of_le (by omega) (by omega)]
  have d2 : (10000 * (nI (nS f h)).toInt64).toInt = 10000 * nS f h := by rw [Int64.toInt_mul, sn]; show Int.bmod (10000 * (nS f h : Int)) (2 ^ 64) = _; rw [Int.bmod_eq_of_le (by omega) (by omega)]
  have e1 : ¬ 100 * (nI (nS f h)).toInt64 = 0 := fun q => by have z := congrArg Int64.toInt q; rw [d1] at z; have y : (0 : Int64).toInt = 0 := rfl; omega
  have e2 : ¬ 10000 * (nI (nS f h)).toInt64 = 0 := fun q => by have z := congrArg Int64.toInt q; rw [d2] at z; have y : (0 : Int64).toInt = 0 := rfl; omega
  have lz : f (7 + h) / k = 0 → (1 : Int64) = (mLn (f (7 + h)) k).toInt64 := fun q => by rw [ml.2, if_pos q]; rfl
  have ln : ¬ f (7 + h) / k = 0 → (f (7 + h) / k).toInt64 = (mLn (f (7 + h)) k).toInt64 := fun q => by rw [ml.2, if_neg q]
  refine Cl.of rfl (by decide) (Nat.le_of_ble_eq_true rfl) ?_
  show Wp g mX12_modelOf 0 0 0 0 [.ref 167, .int (nI h), .int k, .int 0, .retAddr 0, .retAddr 0, .retAddr 0, .retAddr 0, .retAddr 0, .retAddr 0, .retAddr 0, .retAddr 0, .retAddr 0, .retAddr 0, .retAddr 0, .retAddr 0, .retAddr 0, .retAddr 0, .retAddr 0, .retAddr 0] [] m Q
  refine r_aload_n dX12_modelOf_0 rfl ?_
  refine r_getRc dX12_modelOf_1 fgX12_34 rfl (by exact k_167 hF) (by exact r_167_20 hF) ?_
  refine r_iload_n dX12_modelOf_4 rfl ?_
  refine r_ialoadc (f (7 + h)) dX12_modelOf_5 (by exact k_180 hF) (vin (by omega) (by omega)) (by rw [nI_cl _ (by omega)]; exact hI.2.1.at (by omega) (l_len h6)) ?_
  refine r_iload_n dX12_modelOf_6 rfl ?_
  refine r_idiv dX12_modelOf_7 kz ?_
  refine r_if_ne 15 dX12_modelOf_8 rfl (fun q0 => ?_) (fun q0 => ?_)
  ·
    refine r_aload_n dX12_modelOf_15 rfl ?_
    refine r_getRc dX12_modelOf_16 fgX12_34 rfl (by exact k_167 hF) (by exact r_167_20 hF) ?_
    refine r_iload_n dX12_modelOf_19 rfl ?_
    refine r_ialoadc (f (7 + h)) dX12_modelOf_20 (by exact k_180 hF) (vin (by omega) (by omega)) (by rw [nI_cl _ (by omega)]; exact hI.2.1.at (by omega) (l_len h6)) ?_
    refine r_iload_n dX12_modelOf_21 rfl ?_
    refine r_idiv dX12_modelOf_22 kz ?_
    refine r_i2l dX12_modelOf_23 ?_
    rw [ln q0]
    refine sl_4 dX12_modelOf_24 (by first | rfl | assumption) (Nat.le_of_ble_eq_true rfl) ?_
    refine r_lconst (0) dX12_modelOf_26 rfl ?_
    refine sl_6 dX12_modelOf_27 (by first | rfl | assumption) (Nat.le_of_ble_eq_true rfl) ?_
    refine r_lconst (0) dX12_modelOf_29 rfl ?_
    refine sl_8 dX12_modelOf_30 (by first | rfl | assumption) (Nat.le_of_ble_eq_true rfl) ?_
    refine r_lconst (0) dX12_modelOf_32 rfl ?_
    refine sl_10 dX12_modelOf_33 (by first | rfl | assumption) (Nat.le_of_ble_eq_true rfl) ?_
    refine r_lconst (0) dX12_modelOf_35 rfl ?_
    refine sl_12 dX12_modelOf_36 (by first | rfl | assumption) (Nat.le_of_ble_eq_true rfl) ?_
    refine r_lconst (0) dX12_modelOf_38 rfl ?_
    refine sl_14 dX12_modelOf_39 (by first | rfl | assumption) (Nat.le_of_ble_eq_true rfl) ?_
    refine r_aload_n dX12_modelOf_41 rfl ?_
    refine r_getRc dX12_modelOf_42 fgX12_37 rfl (by exact k_167 hF) (by exact r_167_21 hF) ?_
    refine r_iload_n dX12_modelOf_45 rfl ?_
    refine r_ialoadc (nI (nS f h)) dX12_modelOf_46 (by exact k_181 hF) (vin (by omega) (by omega)) (by rw [nI_cl _ (by omega)]; exact (hI.2.1.at (by omega) (l_sta h6)).trans hsc) ?_
    refine si_16 dX12_modelOf_47 (by first | rfl | assumption) (Nat.le_of_ble_eq_true rfl) ?_
    refine r_iconst (0) dX12_modelOf_49 rfl ?_
    refine si_17 dX12_modelOf_50 (by first | rfl | assumption) (Nat.le_of_ble_eq_true rfl) ?_
    refine L_rmod hV hI hh (fun x18 x19 => ?_) (nS f h) 0 _ _ (by omega) rfl
    refine r_iload_n dX12_modelOf_174 rfl ?_
    refine r_tabIn 208 dX12_modelOf_175 (by decide) (by decide) rfl rfl ?_
    refine r_lload dX12_modelOf_208 rfl ?_
    refine r_lreturn dX12_modelOf_210 rfl ?_
    exact kk
  ·
    refine r_lconst (1) dX12_modelOf_11 rfl ?_
    refine r_goto 24 dX12_modelOf_12 rfl ?_
    rw [lz q0]
    refine sl_4 dX12_modelOf_24 (by first | rfl | assumption) (Nat.le_of_ble_eq_true rfl) ?_
    refine r_lconst (0) dX12_modelOf_26 rfl ?_
    refine sl_6 dX12_modelOf_27 (by first | rfl | assumption) (Nat.le_of_ble_eq_true rfl) ?_
    refine r_lconst (0) dX12_modelOf_29 rfl ?_
    refine sl_8 dX12_modelOf_30 (by first | rfl | assumption) (Nat.le_of_ble_eq_true rfl) ?_
    refine r_lconst (0) dX12_modelOf_32 rfl ?_
    refine sl_10 dX12_modelOf_33 (by first | rfl | assumption) (Nat.le_of_ble_eq_true rfl) ?_
    refine r_lconst (0) dX12_modelOf_35 rfl ?_
    refine sl_12 dX12_modelOf_36 (by first | rfl | assumption) (Nat.le_of_ble_eq_true rfl) ?_
    refine r_lconst (0) dX12_modelOf_38 rfl ?_
    refine sl_14 dX12_modelOf_39 (by first | rfl | assumption) (Nat.le_of_ble_eq_true rfl) ?_
    refine r_aload_n dX12_modelOf_41 rfl ?_
    refine r_getRc dX12_modelOf_42 fgX12_37 rfl (by exact k_167 hF) (by exact r_167_21 hF) ?_
    refine r_iload_n dX12_modelOf_45 rfl ?_
    refine r_ialoadc (nI (nS f h)) dX12_modelOf_46 (by exact k_181 hF) (vin (by omega) (by omega)) (by rw [nI_cl _ (by omega)]; exact (hI.2.1.at (by omega) (l_sta h6)).trans hsc) ?_
    refine si_16 dX12_modelOf_47 (by first | rfl | assumption) (Nat.le_of_ble_eq_true rfl) ?_
    refine r_iconst (0) dX12_modelOf_49 rfl ?_
    refine si_17 dX12_modelOf_50 (by first | rfl | assumption) (Nat.le_of_ble_eq_true rfl) ?_
    refine L_rmod hV hI hh (fun x18 x19 => ?_) (nS f h) 0 _ _ (by omega) rfl
    refine r_iload_n dX12_modelOf_174 rfl ?_
    refine r_tabIn 208 dX12_modelOf_175 (by decide) (by decide) rfl rfl ?_
    refine r_lload dX12_modelOf_208 rfl ?_
    refine r_lreturn dX12_modelOf_210 rfl ?_
    exact kk
theorem S_rmod1 {g : GG} {m : MM} {Q : Out → Prop} {f : Nat → Int32} {fs : Nat → Nat → Int32} {ic : Nat} {tp : Nat → Int32} {tn : Nat} {pl : Int32} {n1 n2 : Nat} {ts : Nat → (Nat → Int32) × Nat} (hV : Vf f) (hI : RI f fs ic tp tn pl n1 n2 ts m) {h : Nat} (hh : h < nH f) {k : Int32} (hk : iv 1 40 k) (kk : Q (.inl (some (.long (mdH f h k 1).toInt64)), m)) : Cl g 0 0 0 mX12_modelOf [.ref 167, .int (nI h), .int k, .int 1] m Q := by
  have hF := hI.1
  have h6 : h < 6 := by have := hV.1.1.2; omega
  have h12 := (hV.2.1 h hh).2.2.2.1
  have h2 := (hV.2.1 h hh).2.2.1
  have hsc := (hV.2.1 h hh).2.1
  have hL := (hV.2.1 h hh).1
  have hb := hul_b hV hh
  have ml := mLn_b hL hk
  have kz : ¬ k = 0 := fun q => by rw [q] at hk; exact absurd hk.1 (by decide)
  have lb := t64B (A := 400) (x := mLn (f (7 + h)) k) ⟨by have := ml.1.1; omega, ml.1.2⟩
  have sa := t64B (sumF_b (p := fun j => hB f h j + 2 * hD f h j) (A := 180) (nS f h) (fun j hj => (hb j (by omega)).2.2.1) (by omega) (by omega))
  have su := t64B (sumF_b (p := fun j => hB f h j * hD f h j) (A := 3600) (nS f h) (fun j hj => (hb j (by omega)).2.2.2.1) (by omega) (by omega))
  have xb := maxF_b (p := hB f h) (A := 60) (by omega) (nS f h) (fun j hj => (hb j (by omega)).1)
  have xd := maxF_b (p := hD f h) (A := 60) (by omega) (nS f h) (fun j hj => (hb j (by omega)).2.1)
  have xu := maxF_b (p := fun j => hB f h j * hD f h j) (A := 3600) (by omega) (nS f h) (fun j hj => (hb j (by omega)).2.2.2.1)
  have sn : (nI (nS f h)).toInt64.toInt = nS f h := by rw [Int32.toInt_toInt64, nI_int _ (by omega)]
  have d1 : (100 * (nI (nS f h)).toInt64).toInt = 100 * nS f h := by rw [Int64.toInt_mul, sn]; show Int.bmod (100 * (nS f h : Int)) (2 ^ 64) = _; rw [Int.bmod_eq_of_le (by omega) (by omega)]
  have d2 : (10000 * (nI (nS f h)).toInt64).toInt = 10000 * nS f h := by rw [Int64.toInt_mul, sn]; show Int.bmod (10000 * (nS f h : Int)) (2 ^ 64) = _; rw [Int.bmod_eq_of_le (by omega) (by omega)]
  have e1 : ¬ 100 * (nI (nS f h)).toInt64 = 0 := fun q => by have z := congrArg Int64.toInt q; rw [d1] at z; have y : (0 : Int64).toInt = 0 := rfl; omega
  have e2 : ¬ 10000 * (nI (nS f h)).toInt64 = 0 := fun q => by have z := congrArg Int64.toInt q; rw [d2] at z; have y : (0 : Int64).toInt = 0 := rfl; omega
  have lz : f (7 + h) / k = 0 → (1 : Int64) = (mLn (f (7 + h)) k).toInt64 := fun q => by rw [ml.2, if_pos q]; rfl
  have ln : ¬ f (7 + h) / k = 0 → (f (7 + h) / k).toInt64 = (mLn (f (7 + h)) k).toInt64 := fun q => by rw [ml.2, if_neg q]
  refine Cl.of rfl (by decide) (Nat.le_of_ble_eq_true rfl) ?_
  show Wp g mX12_modelOf 0 0 0 0 [.ref 167, .int (nI h), .int k, .int 1, .retAddr 0, .retAddr 0, .retAddr 0, .retAddr 0, .retAddr 0, .retAddr 0, .retAddr 0, .retAddr 0, .retAddr 0, .retAddr 0, .retAddr 0, .retAddr 0, .retAddr 0, .retAddr 0, .retAddr 0, .retAddr 0] [] m Q
  refine r_aload_n dX12_modelOf_0 rfl ?_
  refine r_getRc dX12_modelOf_1 fgX12_34 rfl (by exact k_167 hF) (by exact r_167_20 hF) ?_
  refine r_iload_n dX12_modelOf_4 rfl ?_
  refine r_ialoadc (f (7 + h)) dX12_modelOf_5 (by exact k_180 hF) (vin (by omega) (by omega)) (by rw [nI_cl _ (by omega)]; exact hI.2.1.at (by omega) (l_len h6)) ?_
  refine r_iload_n dX12_modelOf_6 rfl ?_
  refine r_idiv dX12_modelOf_7 kz ?_
  refine r_if_ne 15 dX12_modelOf_8 rfl (fun q0 => ?_) (fun q0 => ?_)
  ·
    refine r_aload_n dX12_modelOf_15 rfl ?_
    refine r_getRc dX12_modelOf_16 fgX12_34 rfl (by exact k_167 hF) (by exact r_167_20 hF) ?_
    refine r_iload_n dX12_modelOf_19 rfl ?_
    refine r_ialoadc (f (7 + h)) dX12_modelOf_20 (by exact k_180 hF) (vin (by omega) (by omega)) (by rw [nI_cl _ (by omega)]; exact hI.2.1.at (by omega) (l_len h6)) ?_
    refine r_iload_n dX12_modelOf_21 rfl ?_
    refine r_idiv dX12_modelOf_22 kz ?_
    refine r_i2l dX12_modelOf_23 ?_
    rw [ln q0]
    refine sl_4 dX12_modelOf_24 (by first | rfl | assumption) (Nat.le_of_ble_eq_true rfl) ?_
    refine r_lconst (0) dX12_modelOf_26 rfl ?_
    refine sl_6 dX12_modelOf_27 (by first | rfl | assumption) (Nat.le_of_ble_eq_true rfl) ?_
    refine r_lconst (0) dX12_modelOf_29 rfl ?_
    refine sl_8 dX12_modelOf_30 (by first | rfl | assumption) (Nat.le_of_ble_eq_true rfl) ?_
    refine r_lconst (0) dX12_modelOf_32 rfl ?_
    refine sl_10 dX12_modelOf_33 (by first | rfl | assumption) (Nat.le_of_ble_eq_true rfl) ?_
    refine r_lconst (0) dX12_modelOf_35 rfl ?_
    refine sl_12 dX12_modelOf_36 (by first | rfl | assumption) (Nat.le_of_ble_eq_true rfl) ?_
    refine r_lconst (0) dX12_modelOf_38 rfl ?_
    refine sl_14 dX12_modelOf_39 (by first | rfl | assumption) (Nat.le_of_ble_eq_true rfl) ?_
    refine r_aload_n dX12_modelOf_41 rfl ?_
    refine r_getRc dX12_modelOf_42 fgX12_37 rfl (by exact k_167 hF) (by exact r_167_21 hF) ?_
    refine r_iload_n dX12_modelOf_45 rfl ?_
    refine r_ialoadc (nI (nS f h)) dX12_modelOf_46 (by exact k_181 hF) (vin (by omega) (by omega)) (by rw [nI_cl _ (by omega)]; exact (hI.2.1.at (by omega) (l_sta h6)).trans hsc) ?_
    refine si_16 dX12_modelOf_47 (by first | rfl | assumption) (Nat.le_of_ble_eq_true rfl) ?_
    refine r_iconst (0) dX12_modelOf_49 rfl ?_
    refine si_17 dX12_modelOf_50 (by first | rfl | assumption) (Nat.le_of_ble_eq_true rfl) ?_
    refine L_rmod hV hI hh (fun x18 x19 => ?_) (nS f h) 0 _ _ (by omega) rfl
    refine r_iload_n dX12_modelOf_174 rfl ?_
    refine r_tabIn 211 dX12_modelOf_175 (by decide) (by decide) rfl rfl ?_
    refine r_lload dX12_modelOf_211 rfl ?_
    refine r_lload dX12_modelOf_213 rfl ?_
    refine r_lmul dX12_modelOf_215 ?_
    refine r_lload dX12_modelOf_216 rfl ?_
    refine r_lmul dX12_modelOf_218 ?_
    refine r_ldc2 (100) dX12_modelOf_219 ctX12_97 ?_
    refine r_iload dX12_modelOf_222 rfl ?_
    refine r_i2l dX12_modelOf_224 ?_
    refine r_lmul dX12_modelOf_225 ?_
    refine r_ldiv dX12_modelOf_226 e1 ?_
    refine r_lreturn dX12_modelOf_227 rfl ?_
    have p1 := mulB lb lb (by omega)
    have p2 := mulB ⟨p1.2.1, p1.2.2⟩ sa (by omega)
    have p3 := divB ⟨p2.2.1, p2.2.2⟩ (by omega) (y := 100 * (nI (nS f h)).toInt64) (by rw [d1]; omega)
    rw [show (mdH f h k 1).toInt64 = (mLn (f (7 + h)) k).toInt64 * (mLn (f (7 + h)) k).toInt64 * (sumF (fun j => hB f h j + 2 * hD f h j) (nS f h)).toInt64 / (100 * (nI (nS f h)).toInt64) from by show ((ovF _ _).toInt32).toInt64 = _; unfold ovF; rw [hsc, if_neg e1]; exact rt32 ⟨p3.2.1, by have := p3.2.2; omega⟩] at kk; exact kk
  ·
    refine r_lconst (1) dX12_modelOf_11 rfl ?_
    refine r_goto 24 dX12_modelOf_12 rfl ?_
    rw [lz q0]
    refine sl_4 dX12_modelOf_24 (by first | rfl | assumption) (Nat.le_of_ble_eq_true rfl) ?_
    refine r_lconst (0) dX12_modelOf_26 rfl ?_
    refine sl_6 dX12_modelOf_27 (by first | rfl | assumption) (Nat.le_of_ble_eq_true rfl) ?_
    refine r_lconst (0) dX12_modelOf_29 rfl ?_
    refine sl_8 dX12_modelOf_30 (by first | rfl | assumption) (Nat.le_of_ble_eq_true rfl) ?_
    refine r_lconst (0) dX12_modelOf_32 rfl ?_
    refine sl_10 dX12_modelOf_33 (by first | rfl | assumption) (Nat.le_of_ble_eq_true rfl) ?_
    refine r_lconst (0) dX12_modelOf_35 rfl ?_
    refine sl_12 dX12_modelOf_36 (by first | rfl | assumption) (Nat.le_of_ble_eq_true rfl) ?_
    refine r_lconst (0) dX12_modelOf_38 rfl ?_
    refine sl_14 dX12_modelOf_39 (by first | rfl | assumption) (Nat.le_of_ble_eq_true rfl) ?_
    refine r_aload_n dX12_modelOf_41 rfl ?_
    refine r_getRc dX12_modelOf_42 fgX12_37 rfl (by exact k_167 hF) (by exact r_167_21 hF) ?_
    refine r_iload_n dX12_modelOf_45 rfl ?_
    refine r_ialoadc (nI (nS f h)) dX12_modelOf_46 (by exact k_181 hF) (vin (by omega) (by omega)) (by rw [nI_cl _ (by omega)]; exact (hI.2.1.at (by omega) (l_sta h6)).trans hsc) ?_
    refine si_16 dX12_modelOf_47 (by first | rfl | assumption) (Nat.le_of_ble_eq_true rfl) ?_
    refine r_iconst (0) dX12_modelOf_49 rfl ?_
    refine si_17 dX12_modelOf_50 (by first | rfl | assumption) (Nat.le_of_ble_eq_true rfl) ?_
    refine L_rmod hV hI hh (fun x18 x19 => ?_) (nS f h) 0 _ _ (by omega) rfl
    refine r_iload_n dX12_modelOf_174 rfl ?_
    refine r_tabIn 211 dX12_modelOf_175 (by decide) (by decide) rfl rfl ?_
    refine r_lload dX12_modelOf_211 rfl ?_
    refine r_lload dX12_modelOf_213 rfl ?_
    refine r_lmul dX12_modelOf_215 ?_
    refine r_lload dX12_modelOf_216 rfl ?_
    refine r_lmul dX12_modelOf_218 ?_
    refine r_ldc2 (100) dX12_modelOf_219 ctX12_97 ?_
    refine r_iload dX12_modelOf_222 rfl ?_
    refine r_i2l dX12_modelOf_224 ?_
    refine r_lmul dX12_modelOf_225 ?_
    refine r_ldiv dX12_modelOf_226 e1 ?_
    refine r_lreturn dX12_modelOf_227 rfl ?_
    have p1 := mulB lb lb (by omega)
    have p2 := mulB ⟨p1.2.1, p1.2.2⟩ sa (by omega)
    have p3 := divB ⟨p2.2.1, p2.2.2⟩ (by omega) (y := 100 * (nI (nS f h)).toInt64) (by rw [d1]; omega)
    rw [show (mdH f h k 1).toInt64 = (mLn (f (7 + h)) k).toInt64 * (mLn (f (7 + h)) k).toInt64 * (sumF (fun j => hB f h j + 2 * hD f h j) (nS f h)).toInt64 / (100 * (nI (nS f h)).toInt64) from by show ((ovF _ _).toInt32).toInt64 = _; unfold ovF; rw [hsc, if_neg e1]; exact rt32 ⟨p3.2.1, by have := p3.2.2; omega⟩] at kk; exact kk
theorem S_rmod2 {g : GG} {m : MM} {Q : Out → Prop} {f : Nat → Int32} {fs : Nat → Nat → Int32} {ic : Nat} {tp : Nat → Int32} {tn : Nat} {pl : Int32} {n1 n2 : Nat} {ts : Nat → (Nat → Int32) × Nat} (hV : Vf f) (hI : RI f fs ic tp tn pl n1 n2 ts m) {h : Nat} (hh : h < nH f) {k : Int32} (hk : iv 1 40 k) (kk : Q (.inl (some (.long (mdH f h k 2).toInt64)), m)) : Cl g 0 0 0 mX12_modelOf [.ref 167, .int (nI h), .int k, .int 2] m Q := by
  have hF := hI.1
  have h6 : h < 6 := by have := hV.1.1.2; omega
  have h12 := (hV.2.1 h hh).2.2.2.1
  have h2 := (hV.2.1 h hh).2.2.1
  have hsc := (hV.2.1 h hh).2.1
  have hL := (hV.2.1 h hh).1
  have hb := hul_b hV hh
  have ml := mLn_b hL hk
  have kz : ¬ k = 0 := fun q => by rw [q] at hk; exact absurd hk.1 (by decide)
  have lb := t64B (A := 400) (x := mLn (f (7 + h)) k) ⟨by have := ml.1.1; omega, ml.1.2⟩
  have sa := t64B (sumF_b (p := fun j => hB f h j + 2 * hD f h j) (A := 180) (nS f h) (fun j hj => (hb j (by omega)).2.2.1) (by omega) (by omega))
  have su := t64B (sumF_b (p := fun j => hB f h j * hD f h j) (A := 3600) (nS f h) (fun j hj => (hb j (by omega)).2.2.2.1) (by omega) (by omega))
  have xb := maxF_b (p := hB f h) (A := 60) (by omega) (nS f h) (fun j hj => (hb j (by omega)).1)
  have xd := maxF_b (p := hD f h) (A := 60) (by omega) (nS f h) (fun j hj => (hb j (by omega)).2.1)
  have xu := maxF_b (p := fun j => hB f h j * hD f h j) (A := 3600) (by omega) (nS f h) (fun j hj => (hb j (by omega)).2.2.2.1)
  have sn : (nI (nS f h)).toInt64.toInt = nS f h := by rw [Int32.toInt_toInt64, nI_int _ (by omega)]
  have d1 : (100 * (nI (nS f h)).toInt64).toInt = 100 * nS f h := by rw [Int64.toInt_mul, sn]; show Int.bmod (100 * (nS f h : Int)) (2 ^ 64) = _; rw [Int.bmod_eq_of_le (by omega) (by omega)]
  have d2 : (10000 * (nI (nS f h)).toInt64).toInt = 10000 * nS f h := by rw [Int64.toInt_mul, sn]; show Int.bmod (10000 * (nS f h : Int)) (2 ^ 64) = _; rw [Int.bmod_eq_of_le (by omega) (by omega)]
  have e1 : ¬ 100 * (nI (nS f h)).toInt64 = 0 := fun q => by have z := congrArg Int64.toInt q; rw [d1] at z; have y : (0 : Int64).toInt = 0 := rfl; omega
  have e2 : ¬ 10000 * (nI (nS f h)).toInt64 = 0 := fun q => by have z := congrArg Int64.toInt q; rw [d2] at z; have y : (0 : Int64).toInt = 0 := rfl; omega
  have lz : f (7 + h) / k = 0 → (1 : Int64) = (mLn (f (7 + h)) k).toInt64 := fun q => by rw [ml.2, if_pos q]; rfl
  have ln : ¬ f (7 + h) / k = 0 → (f (7 + h) / k).toInt64 = (mLn (f (7 + h)) k).toInt64 := fun q => by rw [ml.2, if_neg q]
  refine Cl.of rfl (by decide) (Nat.le_of_ble_eq_true rfl) ?_
  show Wp g mX12_modelOf 0 0 0 0 [.ref 167, .int (nI h), .int k, .int 2, .retAddr 0, .retAddr 0, .retAddr 0, .retAddr 0, .retAddr 0, .retAddr 0, .retAddr 0, .retAddr 0, .retAddr 0, .retAddr 0, .retAddr 0, .retAddr 0, .retAddr 0, .retAddr 0, .retAddr 0, .retAddr 0] [] m Q
  refine r_aload_n dX12_modelOf_0 rfl ?_
  refine r_getRc dX12_modelOf_1 fgX12_34 rfl (by exact k_167 hF) (by exact r_167_20 hF) ?_
  refine r_iload_n dX12_modelOf_4 rfl ?_
  refine r_ialoadc (f (7 + h)) dX12_modelOf_5 (by exact k_180 hF) (vin (by omega) (by omega)) (by rw [nI_cl _ (by omega)]; exact hI.2.1.at (by omega) (l_len h6)) ?_
  refine r_iload_n dX12_modelOf_6 rfl ?_
  refine r_idiv dX12_modelOf_7 kz ?_
  refine r_if_ne 15 dX12_modelOf_8 rfl (fun q0 => ?_) (fun q0 => ?_)
  ·
    refine r_aload_n dX12_modelOf_15 rfl ?_
    refine r_getRc dX12_modelOf_16 fgX12_34 rfl (by exact k_167 hF) (by exact r_167_20 hF) ?_
    refine r_iload_n dX12_modelOf_19 rfl ?_
    refine r_ialoadc (f (7 + h)) dX12_modelOf_20 (by exact k_180 hF) (vin (by omega) (by omega)) (by rw [nI_cl _ (by omega)]; exact hI.2.1.at (by omega) (l_len h6)) ?_
    refine r_iload_n dX12_modelOf_21 rfl ?_
    refine r_idiv dX12_modelOf_22 kz ?_
    refine r_i2l dX12_modelOf_23 ?_
    rw [ln q0]
    refine sl_4 dX12_modelOf_24 (by first | rfl | assumption) (Nat.le_of_ble_eq_true rfl) ?_
    refine r_lconst (0) dX12_modelOf_26 rfl ?_
    refine sl_6 dX12_modelOf_27 (by first | rfl | assumption) (Nat.le_of_ble_eq_true rfl) ?_
    refine r_lconst (0) dX12_modelOf_29 rfl ?_
    refine sl_8 dX12_modelOf_30 (by first | rfl | assumption) (Nat.le_of_ble_eq_true rfl) ?_
    refine r_lconst (0) dX12_modelOf_32 rfl ?_
    refine sl_10 dX12_modelOf_33 (by first | rfl | assumption) (Nat.le_of_ble_eq_true rfl) ?_
    refine r_lconst (0) dX12_modelOf_35 rfl ?_
    refine sl_12 dX12_modelOf_36 (by first | rfl | assumption) (Nat.le_of_ble_eq_true rfl) ?_
    refine r_lconst (0) dX12_modelOf_38 rfl ?_
    refine sl_14 dX12_modelOf_39 (by first | rfl | assumption) (Nat.le_of_ble_eq_true rfl) ?_
    refine r_aload_n dX12_modelOf_41 rfl ?_
    refine r_getRc dX12_modelOf_42 fgX12_37 rfl (by exact k_167 hF) (by exact r_167_21 hF) ?_
    refine r_iload_n dX12_modelOf_45 rfl ?_
    refine r_ialoadc (nI (nS f h)) dX12_modelOf_46 (by exact k_181 hF) (vin (by omega) (by omega)) (by rw [nI_cl _ (by omega)]; exact (hI.2.1.at (by omega) (l_sta h6)).trans hsc) ?_
    refine si_16 dX12_modelOf_47 (by first | rfl | assumption) (Nat.le_of_ble_eq_true rfl) ?_
    refine r_iconst (0) dX12_modelOf_49 rfl ?_
    refine si_17 dX12_modelOf_50 (by first | rfl | assumption) (Nat.le_of_ble_eq_true rfl) ?_
    refine L_rmod hV hI hh (fun x18 x19 => ?_) (nS f h) 0 _ _ (by omega) rfl
    refine r_iload_n dX12_modelOf_174 rfl ?_
    refine r_tabIn 228 dX12_modelOf_175 (by decide) (by decide) rfl rfl ?_
    refine r_lload dX12_modelOf_228 rfl ?_
    refine r_lload dX12_modelOf_230 rfl ?_
    refine r_lmul dX12_modelOf_232 ?_
    refine r_lload dX12_modelOf_233 rfl ?_
    refine r_lmul dX12_modelOf_235 ?_
    refine r_lload dX12_modelOf_236 rfl ?_
    refine r_lmul dX12_modelOf_238 ?_
    refine r_ldc2 (10000) dX12_modelOf_239 ctX12_99 ?_
    refine r_iload dX12_modelOf_242 rfl ?_
    refine r_i2l dX12_modelOf_244 ?_
    refine r_lmul dX12_modelOf_245 ?_
    refine r_ldiv dX12_modelOf_246 e2 ?_
    refine r_lreturn dX12_modelOf_247 rfl ?_
    have p1 := mulB lb lb (by omega)
    have p2 := mulB ⟨p1.2.1, p1.2.2⟩ lb (by omega)
    have p3 := mulB ⟨p2.2.1, p2.2.2⟩ su (by omega)
    have p4 := divB ⟨p3.2.1, p3.2.2⟩ (by omega) (y := 10000 * (nI (nS f h)).toInt64) (by rw [d2]; omega)
    have p5 : ((mLn (f (7 + h)) k).toInt64 * (mLn (f (7 + h)) k).toInt64 * (mLn (f (7 + h)) k).toInt64 * (sumF (fun j => hB f h j * hD f h j) (nS f h)).toInt64 / (10000 * (nI (nS f h)).toInt64)).toInt ≤ 2147483647 := by rw [p4.1, d2]; exact Int.le_of_lt_add_one (Int.ediv_lt_of_lt_mul (by omega) (by have := p3.2.2; omega))
    rw [show (mdH f h k 2).toInt64 = (mLn (f (7 + h)) k).toInt64 * (mLn (f (7 + h)) k).toInt64 * (mLn (f (7 + h)) k).toInt64 * (sumF (fun j => hB f h j * hD f h j) (nS f h)).toInt64 / (10000 * (nI (nS f h)).toInt64) from by show ((ovF _ _).toInt32).toInt64 = _; unfold ovF; rw [hsc, if_neg e2]; exact rt32 ⟨p4.2.1, p5⟩] at kk; exact kk
  ·
    refine r_lconst (1) dX12_modelOf_11 rfl ?_
    refine r_goto 24 dX12_modelOf_12 rfl ?_
    rw [lz q0]
    refine sl_4 dX12_modelOf_24 (by first | rfl | assumption) (Nat.le_of_ble_eq_true rfl) ?_
    refine r_lconst (0) dX12_modelOf_26 rfl ?_
    refine sl_6 dX12_modelOf_27 (by first | rfl | assumption) (Nat.le_of_ble_eq_true rfl) ?_
    refine r_lconst (0) dX12_modelOf_29 rfl ?_
    refine sl_8 dX12_modelOf_30 (by first | rfl | assumption) (Nat.le_of_ble_eq_true rfl) ?_
    refine r_lconst (0) dX12_modelOf_32 rfl ?_
    refine sl_10 dX12_modelOf_33 (by first | rfl | assumption) (Nat.le_of_ble_eq_true rfl) ?_
    refine r_lconst (0) dX12_modelOf_35 rfl ?_
    refine sl_12 dX12_modelOf_36 (by first | rfl | assumption) (Nat.le_of_ble_eq_true rfl) ?_
    refine r_lconst (0) dX12_modelOf_38 rfl ?_
    refine sl_14 dX12_modelOf_39 (by first | rfl | assumption) (Nat.le_of_ble_eq_true rfl) ?_
    refine r_aload_n dX12_modelOf_41 rfl ?_
    refine r_getRc dX12_modelOf_42 fgX12_37 rfl (by exact k_167 hF) (by exact r_167_21 hF) ?_
    refine r_iload_n dX12_modelOf_45 rfl ?_
    refine r_ialoadc (nI (nS f h)) dX12_modelOf_46 (by exact k_181 hF) (vin (by omega) (by omega)) (by rw [nI_cl _ (by omega)]; exact (hI.2.1.at (by omega) (l_sta h6)).trans hsc) ?_
    refine si_16 dX12_modelOf_47 (by first | rfl | assumption) (Nat.le_of_ble_eq_true rfl) ?_
    refine r_iconst (0) dX12_modelOf_49 rfl ?_
    refine si_17 dX12_modelOf_50 (by first | rfl | assumption) (Nat.le_of_ble_eq_true rfl) ?_
    refine L_rmod hV hI hh (fun x18 x19 => ?_) (nS f h) 0 _ _ (by omega) rfl
    refine r_iload_n dX12_modelOf_174 rfl ?_
    refine r_tabIn 228 dX12_modelOf_175 (by decide) (by decide) rfl rfl ?_
    refine r_lload dX12_modelOf_228 rfl ?_
    refine r_lload dX12_modelOf_230 rfl ?_
    refine r_lmul dX12_modelOf_232 ?_
    refine r_lload dX12_modelOf_233 rfl ?_
    refine r_lmul dX12_modelOf_235 ?_
    refine r_lload dX12_modelOf_236 rfl ?_
    refine r_lmul dX12_modelOf_238 ?_
    refine r_ldc2 (10000) dX12_modelOf_239 ctX12_99 ?_
    refine r_iload dX12_modelOf_242 rfl ?_
    refine r_i2l dX12_modelOf_244 ?_
    refine r_lmul dX12_modelOf_245 ?_
    refine r_ldiv dX12_modelOf_246 e2 ?_
    refine r_lreturn dX12_modelOf_247 rfl ?_
    have p1 := mulB lb lb (by omega)
    have p2 := mulB ⟨p1.2.1, p1.2.2⟩ lb (by omega)
    have p3 := mulB ⟨p2.2.1, p2.2.2⟩ su (by omega)
    have p4 := divB ⟨p3.2.1, p3.2.2⟩ (by omega) (y := 10000 * (nI (nS f h)).toInt64) (by rw [d2]; omega)
    have p5 : ((mLn (f (7 + h)) k).toInt64 * (mLn (f (7 + h)) k).toInt64 * (mLn (f (7 + h)) k).toInt64 * (sumF (fun j => hB f h j * hD f h j) (nS f h)).toInt64 / (10000 * (nI (nS f h)).toInt64)).toInt ≤ 2147483647 := by rw [p4.1, d2]; exact Int.le_of_lt_add_one (Int.ediv_lt_of_lt_mul (by omega) (by have := p3.2.2; omega))
    rw [show (mdH f h k 2).toInt64 = (mLn (f (7 + h)) k).toInt64 * (mLn (f (7 + h)) k).toInt64 * (mLn (f (7 + h)) k).toInt64 * (sumF (fun j => hB f h j * hD f h j) (nS f h)).toInt64 / (10000 * (nI (nS f h)).toInt64) from by show ((ovF _ _).toInt32).toInt64 = _; unfold ovF; rw [hsc, if_neg e2]; exact rt32 ⟨p4.2.1, p5⟩] at kk; exact kk
theorem S_rmod3 {g : GG} {m : MM} {Q : Out → Prop} {f : Nat → Int32} {fs : Nat → Nat → Int32} {ic : Nat} {tp : Nat → Int32} {tn : Nat} {pl : Int32} {n1 n2 : Nat} {ts : Nat → (Nat → Int32) × Nat} (hV : Vf f) (hI : RI f fs ic tp tn pl n1 n2 ts m) {h : Nat} (hh : h < nH f) {k : Int32} (hk : iv 1 40 k) (kk : Q (.inl (some (.long (mdH f h k 3).toInt64)), m)) : Cl g 0 0 0 mX12_modelOf [.ref 167, .int (nI h), .int k, .int 3] m Q := by
  have hF := hI.1
  have h6 : h < 6 := by have := hV.1.1.2; omega
  have h12 := (hV.2.1 h hh).2.2.2.1
  have h2 := (hV.2.1 h hh).2.2.1
  have hsc := (hV.2.1 h hh).2.1
  have hL := (hV.2.1 h hh).1
  have hb := hul_b hV hh
  have ml := mLn_b hL hk
  have kz : ¬ k = 0 := fun q => by rw [q] at hk; exact absurd hk.1 (by decide)
  have lb := t64B (A := 400) (x := mLn (f (7 + h)) k) ⟨by have := ml.1.1; omega, ml.1.2⟩
  have sa := t64B (sumF_b (p := fun j => hB f h j + 2 * hD f h j) (A := 180) (nS f h) (fun j hj => (hb j (by omega)).2.2.1) (by omega) (by omega))
  have su := t64B (sumF_b (p := fun j => hB f h j * hD f h j) (A := 3600) (nS f h) (fun j hj => (hb j (by omega)).2.2.2.1) (by omega) (by omega))
  have xb := maxF_b (p := hB f h) (A := 60) (by omega) (nS f h) (fun j hj => (hb j (by omega)).1)
  have xd := maxF_b (p := hD f h) (A := 60) (by omega) (nS f h) (fun j hj => (hb j (by omega)).2.1)
  have xu := maxF_b (p := fun j => hB f h j * hD f h j) (A := 3600) (by omega) (nS f h) (fun j hj => (hb j (by omega)).2.2.2.1)
  have sn : (nI (nS f h)).toInt64.toInt = nS f h := by rw [Int32.toInt_toInt64, nI_int _ (by omega)]
  have d1 : (100 * (nI (nS f h)).toInt64).toInt = 100 * nS f h := by rw [Int64.toInt_mul, sn]; show Int.bmod (100 * (nS f h : Int)) (2 ^ 64) = _; rw [Int.bmod_eq_of_le (by omega) (by omega)]
  have d2 : (10000 * (nI (nS f h)).toInt64).toInt = 10000 * nS f h := by rw [Int64.toInt_mul, sn]; show Int.bmod (10000 * (nS f h : Int)) (2 ^ 64) = _; rw [Int.bmod_eq_of_le (by omega) (by omega)]
  have e1 : ¬ 100 * (nI (nS f h)).toInt64 = 0 := fun q => by have z := congrArg Int64.toInt q; rw [d1] at z; have y : (0 : Int64).toInt = 0 := rfl; omega
  have e2 : ¬ 10000 * (nI (nS f h)).toInt64 = 0 := fun q => by have z := congrArg Int64.toInt q; rw [d2] at z; have y : (0 : Int64).toInt = 0 := rfl; omega
  have lz : f (7 + h) / k = 0 → (1 : Int64) = (mLn (f (7 + h)) k).toInt64 := fun q => by rw [ml.2, if_pos q]; rfl
  have ln : ¬ f (7 + h) / k = 0 → (f (7 + h) / k).toInt64 = (mLn (f (7 + h)) k).toInt64 := fun q => by rw [ml.2, if_neg q]
  refine Cl.of rfl (by decide) (Nat.le_of_ble_eq_true rfl) ?_
  show Wp g mX12_modelOf 0 0 0 0 [.ref 167, .int (nI h), .int k, .int 3, .retAddr 0, .retAddr 0, .retAddr 0, .retAddr 0, .retAddr 0, .retAddr 0, .retAddr 0, .retAddr 0, .retAddr 0, .retAddr 0, .retAddr 0, .retAddr 0, .retAddr 0, .retAddr 0, .retAddr 0, .retAddr 0] [] m Q
  refine r_aload_n dX12_modelOf_0 rfl ?_
  refine r_getRc dX12_modelOf_1 fgX12_34 rfl (by exact k_167 hF) (by exact r_167_20 hF) ?_
  refine r_iload_n dX12_modelOf_4 rfl ?_
  refine r_ialoadc (f (7 + h)) dX12_modelOf_5 (by exact k_180 hF) (vin (by omega) (by omega)) (by rw [nI_cl _ (by omega)]; exact hI.2.1.at (by omega) (l_len h6)) ?_
  refine r_iload_n dX12_modelOf_6 rfl ?_
  refine r_idiv dX12_modelOf_7 kz ?_
  refine r_if_ne 15 dX12_modelOf_8 rfl (fun q0 => ?_) (fun q0 => ?_)
  ·
    refine r_aload_n dX12_modelOf_15 rfl ?_
    refine r_getRc dX12_modelOf_16 fgX12_34 rfl (by exact k_167 hF) (by exact r_167_20 hF) ?_
    refine r_iload_n dX12_modelOf_19 rfl ?_
    refine r_ialoadc (f (7 + h)) dX12_modelOf_20 (by exact k_180 hF) (vin (by omega) (by omega)) (by rw [nI_cl _ (by omega)]; exact hI.2.1.at (by omega) (l_len h6)) ?_
    refine r_iload_n dX12_modelOf_21 rfl ?_
    refine r_idiv dX12_modelOf_22 kz ?_
    refine r_i2l dX12_modelOf_23 ?_
    rw [ln q0]
    refine sl_4 dX12_modelOf_24 (by first | rfl | assumption) (Nat.le_of_ble_eq_true rfl) ?_
    refine r_lconst (0) dX12_modelOf_26 rfl ?_
    refine sl_6 dX12_modelOf_27 (by first | rfl | assumption) (Nat.le_of_ble_eq_true rfl) ?_
    refine r_lconst (0) dX12_modelOf_29 rfl ?_
    refine sl_8 dX12_modelOf_30 (by first | rfl | assumption) (Nat.le_of_ble_eq_true rfl) ?_
    refine r_lconst (0) dX12_modelOf_32 rfl ?_
    refine sl_10 dX12_modelOf_33 (by first | rfl | assumption) (Nat.le_of_ble_eq_true rfl) ?_
    refine r_lconst (0) dX12_modelOf_35 rfl ?_
    refine sl_12 dX12_modelOf_36 (by first | rfl | assumption) (Nat.le_of_ble_eq_true rfl) ?_
    refine r_lconst (0) dX12_modelOf_38 rfl ?_
    refine sl_14 dX12_modelOf_39 (by first | rfl | assumption) (Nat.le_of_ble_eq_true rfl) ?_
    refine r_aload_n dX12_modelOf_41 rfl ?_
    refine r_getRc dX12_modelOf_42 fgX12_37 rfl (by exact k_167 hF) (by exact r_167_21 hF) ?_
    refine r_iload_n dX12_modelOf_45 rfl ?_
    refine r_ialoadc (nI (nS f h)) dX12_modelOf_46 (by exact k_181 hF) (vin (by omega) (by omega)) (by rw [nI_cl _ (by omega)]; exact (hI.2.1.at (by omega) (l_sta h6)).trans hsc) ?_
    refine si_16 dX12_modelOf_47 (by first | rfl | assumption) (Nat.le_of_ble_eq_true rfl) ?_
    refine r_iconst (0) dX12_modelOf_49 rfl ?_
    refine si_17 dX12_modelOf_50 (by first | rfl | assumption) (Nat.le_of_ble_eq_true rfl) ?_
    refine L_rmod hV hI hh (fun x18 x19 => ?_) (nS f h) 0 _ _ (by omega) rfl
    refine r_iload_n dX12_modelOf_174 rfl ?_
    refine r_tabIn 248 dX12_modelOf_175 (by decide) (by decide) rfl rfl ?_
    refine r_lload dX12_modelOf_248 rfl ?_
    refine r_lload dX12_modelOf_250 rfl ?_
    refine r_lmul dX12_modelOf_252 ?_
    refine r_ldc2 (100) dX12_modelOf_253 ctX12_97 ?_
    refine r_ldiv dX12_modelOf_256 (by decide) ?_
    refine r_lreturn dX12_modelOf_257 rfl ?_
    have p1 := mul32 xb (y := mLn (f (7 + h)) k) (B := 400) ⟨by have := ml.1.1; omega, ml.1.2⟩ (by omega)
    have p2 := divB (x := (maxF (hB f h) (nS f h) * mLn (f (7 + h)) k).toInt64) (y := 100) (t64B p1.2) (by omega) (by decide)
    rw [show (mdH f h k 3).toInt64 = (maxF (hB f h) (nS f h)).toInt64 * (mLn (f (7 + h)) k).toInt64 / 100 from by rw [← p1.1]; refine Int64.toInt_inj.mp ?_; rw [p2.1, Int32.toInt_toInt64, Int32.toInt_toInt64]; show (maxF (hB f h) (nS f h) * mLn (f (7 + h)) k / 100).toInt = _; have z1 := p1.2.1; have z2 := p1.2.2; rw [Int32.toInt_div, Int.tdiv_eq_ediv_of_nonneg z1]; show Int.bmod ((maxF (hB f h) (nS f h) * mLn (f (7 + h)) k).toInt / 100) (2 ^ 32) = _; rw [Int.bmod_eq_of_le (by omega) (by omega)]; rfl] at kk; exact kk
  ·
    refine r_lconst (1) dX12_modelOf_11 rfl ?_
    refine r_goto 24 dX12_modelOf_12 rfl ?_
    rw [lz q0]
    refine sl_4 dX12_modelOf_24 (by first | rfl | assumption) (Nat.le_of_ble_eq_true rfl) ?_
    refine r_lconst (0) dX12_modelOf_26 rfl ?_
    refine sl_6 dX12_modelOf_27 (by first | rfl | assumption) (Nat.le_of_ble_eq_true rfl) ?_
    refine r_lconst (0) dX12_modelOf_29 rfl ?_
    refine sl_8 dX12_modelOf_30 (by first | rfl | assumption) (Nat.le_of_ble_eq_true rfl) ?_
    refine r_lconst (0) dX12_modelOf_32 rfl ?_
    refine sl_10 dX12_modelOf_33 (by first | rfl | assumption) (Nat.le_of_ble_eq_true rfl) ?_
    refine r_lconst (0) dX12_modelOf_35 rfl ?_
    refine sl_12 dX12_modelOf_36 (by first | rfl | assumption) (Nat.le_of_ble_eq_true rfl) ?_
    refine r_lconst (0) dX12_modelOf_38 rfl ?_
    refine sl_14 dX12_modelOf_39 (by first | rfl | assumption) (Nat.le_of_ble_eq_true rfl) ?_
    refine r_aload_n dX12_modelOf_41 rfl ?_
    refine r_getRc dX12_modelOf_42 fgX12_37 rfl (by exact k_167 hF) (by exact r_167_21 hF) ?_
    refine r_iload_n dX12_modelOf_45 rfl ?_
    refine r_ialoadc (nI (nS f h)) dX12_modelOf_46 (by exact k_181 hF) (vin (by omega) (by omega)) (by rw [nI_cl _ (by omega)]; exact (hI.2.1.at (by omega) (l_sta h6)).trans hsc) ?_
    refine si_16 dX12_modelOf_47 (by first | rfl | assumption) (Nat.le_of_ble_eq_true rfl) ?_
    refine r_iconst (0) dX12_modelOf_49 rfl ?_
    refine si_17 dX12_modelOf_50 (by first | rfl | assumption) (Nat.le_of_ble_eq_true rfl) ?_
    refine L_rmod hV hI hh (fun x18 x19 => ?_) (nS f h) 0 _ _ (by omega) rfl
    refine r_iload_n dX12_modelOf_174 rfl ?_
    refine r_tabIn 248 dX12_modelOf_175 (by decide) (by decide) rfl rfl ?_
    refine r_lload dX12_modelOf_248 rfl ?_
    refine r_lload dX12_modelOf_250 rfl ?_
    refine r_lmul dX12_modelOf_252 ?_
    refine r_ldc2 (100) dX12_modelOf_253 ctX12_97 ?_
    refine r_ldiv dX12_modelOf_256 (by decide) ?_
    refine r_lreturn dX12_modelOf_257 rfl ?_
    have p1 := mul32 xb (y := mLn (f (7 + h)) k) (B := 400) ⟨by have := ml.1.1; omega, ml.1.2⟩ (by omega)
    have p2 := divB (x := (maxF (hB f h) (nS f h) * mLn (f (7 + h)) k).toInt64) (y := 100) (t64B p1.2) (by omega) (by decide)
    rw [show (mdH f h k 3).toInt64 = (maxF (hB f h) (nS f h)).toInt64 * (mLn (f (7 + h)) k).toInt64 / 100 from by rw [← p1.1]; refine Int64.toInt_inj.mp ?_; rw [p2.1, Int32.toInt_toInt64, Int32.toInt_toInt64]; show (maxF (hB f h) (nS f h) * mLn (f (7 + h)) k / 100).toInt = _; have z1 := p1.2.1; have z2 := p1.2.2; rw [Int32.toInt_div, Int.tdiv_eq_ediv_of_nonneg z1]; show Int.bmod ((maxF (hB f h) (nS f h) * mLn (f (7 + h)) k).toInt / 100) (2 ^ 32) = _; rw [Int.bmod_eq_of_le (by omega) (by omega)]; rfl] at kk; exact kk
theorem S_rmod4 {g : GG} {m : MM} {Q : Out → Prop} {f : Nat → Int32} {fs : Nat → Nat → Int32} {ic : Nat} {tp : Nat → Int32} {tn : Nat} {pl : Int32} {n1 n2 : Nat} {ts : Nat → (Nat → Int32) × Nat} (hV : Vf f) (hI : RI f fs ic tp tn pl n1 n2 ts m) {h : Nat} (hh : h < nH f) {k : Int32} (hk : iv 1 40 k) (kk : Q (.inl (some (.long (mdH f h k 4).toInt64)), m)) : Cl g 0 0 0 mX12_modelOf [.ref 167, .int (nI h), .int k, .int 4] m Q := by
  have hF := hI.1
  have h6 : h < 6 := by have := hV.1.1.2; omega
  have h12 := (hV.2.1 h hh).2.2.2.1
  have h2 := (hV.2.1 h hh).2.2.1
  have hsc := (hV.2.1 h hh).2.1
  have hL := (hV.2.1 h hh).1
  have hb := hul_b hV hh
  have ml := mLn_b hL hk
  have kz : ¬ k = 0 := fun q => by rw [q] at hk; exact absurd hk.1 (by decide)
  have lb := t64B (A := 400) (x := mLn (f (7 + h)) k) ⟨by have := ml.1.1; omega, ml.1.2⟩
  have sa := t64B (sumF_b (p := fun j => hB f h j + 2 * hD f h j) (A := 180) (nS f h) (fun j hj => (hb j (by omega)).2.2.1) (by omega) (by omega))
  have su := t64B (sumF_b (p := fun j => hB f h j * hD f h j) (A := 3600) (nS f h) (fun j hj => (hb j (by omega)).2.2.2.1) (by omega) (by omega))
  have xb := maxF_b (p := hB f h) (A := 60) (by omega) (nS f h) (fun j hj => (hb j (by omega)).1)
  have xd := maxF_b (p := hD f h) (A := 60) (by omega) (nS f h) (fun j hj => (hb j (by omega)).2.1)
  have xu := maxF_b (p := fun j => hB f h j * hD f h j) (A := 3600) (by omega) (nS f h) (fun j hj => (hb j (by omega)).2.2.2.1)
  have sn : (nI (nS f h)).toInt64.toInt = nS f h := by rw [Int32.toInt_toInt64, nI_int _ (by omega)]
  have d1 : (100 * (nI (nS f h)).toInt64).toInt = 100 * nS f h := by rw [Int64.toInt_mul, sn]; show Int.bmod (100 * (nS f h : Int)) (2 ^ 64) = _; rw [Int.bmod_eq_of_le (by omega) (by omega)]
  have d2 : (10000 * (nI (nS f h)).toInt64).toInt = 10000 * nS f h := by rw [Int64.toInt_mul, sn]; show Int.bmod (10000 * (nS f h : Int)) (2 ^ 64) = _; rw [Int.bmod_eq_of_le (by omega) (by omega)]
  have e1 : ¬ 100 * (nI (nS f h)).toInt64 = 0 := fun q => by have z := congrArg Int64.toInt q; rw [d1] at z; have y : (0 : Int64).toInt = 0 := rfl; omega
  have e2 : ¬ 10000 * (nI (nS f h)).toInt64 = 0 := fun q => by have z := congrArg Int64.toInt q; rw [d2] at z; have y : (0 : Int64).toInt = 0 := rfl; omega
  have lz : f (7 + h) / k = 0 → (1 : Int64) = (mLn (f (7 + h)) k).toInt64 := fun q => by rw [ml.2, if_pos q]; rfl
  have ln : ¬ f (7 + h) / k = 0 → (f (7 + h) / k).toInt64 = (mLn (f (7 + h)) k).toInt64 := fun q => by rw [ml.2, if_neg q]
  refine Cl.of rfl (by decide) (Nat.le_of_ble_eq_true rfl) ?_
  show Wp g mX12_modelOf 0 0 0 0 [.ref 167, .int (nI h), .int k, .int 4, .retAddr 0, .retAddr 0, .retAddr 0, .retAddr 0, .retAddr 0, .retAddr 0, .retAddr 0, .retAddr 0, .retAddr 0, .retAddr 0, .retAddr 0, .retAddr 0, .retAddr 0, .retAddr 0, .retAddr 0, .retAddr 0] [] m Q
  refine r_aload_n dX12_modelOf_0 rfl ?_
  refine r_getRc dX12_modelOf_1 fgX12_34 rfl (by exact k_167 hF) (by exact r_167_20 hF) ?_
  refine r_iload_n dX12_modelOf_4 rfl ?_
  refine r_ialoadc (f (7 + h)) dX12_modelOf_5 (by exact k_180 hF) (vin (by omega) (by omega)) (by rw [nI_cl _ (by omega)]; exact hI.2.1.at (by omega) (l_len h6)) ?_
  refine r_iload_n dX12_modelOf_6 rfl ?_
  refine r_idiv dX12_modelOf_7 kz ?_
  refine r_if_ne 15 dX12_modelOf_8 rfl (fun q0 => ?_) (fun q0 => ?_)
  ·
    refine r_aload_n dX12_modelOf_15 rfl ?_
    refine r_getRc dX12_modelOf_16 fgX12_34 rfl (by exact k_167 hF) (by exact r_167_20 hF) ?_
    refine r_iload_n dX12_modelOf_19 rfl ?_
    refine r_ialoadc (f (7 + h)) dX12_modelOf_20 (by exact k_180 hF) (vin (by omega) (by omega)) (by rw [nI_cl _ (by omega)]; exact hI.2.1.at (by omega) (l_len h6)) ?_
    refine r_iload_n dX12_modelOf_21 rfl ?_
    refine r_idiv dX12_modelOf_22 kz ?_
    refine r_i2l dX12_modelOf_23 ?_
    rw [ln q0]
    refine sl_4 dX12_modelOf_24 (by first | rfl | assumption) (Nat.le_of_ble_eq_true rfl) ?_
    refine r_lconst (0) dX12_modelOf_26 rfl ?_
    refine sl_6 dX12_modelOf_27 (by first | rfl | assumption) (Nat.le_of_ble_eq_true rfl) ?_
    refine r_lconst (0) dX12_modelOf_29 rfl ?_
    refine sl_8 dX12_modelOf_30 (by first | rfl | assumption) (Nat.le_of_ble_eq_true rfl) ?_
    refine r_lconst (0) dX12_modelOf_32 rfl ?_
    refine sl_10 dX12_modelOf_33 (by first | rfl | assumption) (Nat.le_of_ble_eq_true rfl) ?_
    refine r_lconst (0) dX12_modelOf_35 rfl ?_
    refine sl_12 dX12_modelOf_36 (by first | rfl | assumption) (Nat.le_of_ble_eq_true rfl) ?_
    refine r_lconst (0) dX12_modelOf_38 rfl ?_
    refine sl_14 dX12_modelOf_39 (by first | rfl | assumption) (Nat.le_of_ble_eq_true rfl) ?_
    refine r_aload_n dX12_modelOf_41 rfl ?_
    refine r_getRc dX12_modelOf_42 fgX12_37 rfl (by exact k_167 hF) (by exact r_167_21 hF) ?_
    refine r_iload_n dX12_modelOf_45 rfl ?_
    refine r_ialoadc (nI (nS f h)) dX12_modelOf_46 (by exact k_181 hF) (vin (by omega) (by omega)) (by rw [nI_cl _ (by omega)]; exact (hI.2.1.at (by omega) (l_sta h6)).trans hsc) ?_
    refine si_16 dX12_modelOf_47 (by first | rfl | assumption) (Nat.le_of_ble_eq_true rfl) ?_
    refine r_iconst (0) dX12_modelOf_49 rfl ?_
    refine si_17 dX12_modelOf_50 (by first | rfl | assumption) (Nat.le_of_ble_eq_true rfl) ?_
    refine L_rmod hV hI hh (fun x18 x19 => ?_) (nS f h) 0 _ _ (by omega) rfl
    refine r_iload_n dX12_modelOf_174 rfl ?_
    refine r_tabIn 258 dX12_modelOf_175 (by decide) (by decide) rfl rfl ?_
    refine r_lload dX12_modelOf_258 rfl ?_
    refine r_lload dX12_modelOf_260 rfl ?_
    refine r_lmul dX12_modelOf_262 ?_
    refine r_ldc2 (100) dX12_modelOf_263 ctX12_97 ?_
    refine r_ldiv dX12_modelOf_266 (by decide) ?_
    refine r_lreturn dX12_modelOf_267 rfl ?_
    have p1 := mul32 xd (y := mLn (f (7 + h)) k) (B := 400) ⟨by have := ml.1.1; omega, ml.1.2⟩ (by omega)
    have p2 := divB (x := (maxF (hD f h) (nS f h) * mLn (f (7 + h)) k).toInt64) (y := 100) (t64B p1.2) (by omega) (by decide)
    rw [show (mdH f h k 4).toInt64 = (maxF (hD f h) (nS f h)).toInt64 * (mLn (f (7 + h)) k).toInt64 / 100 from by rw [← p1.1]; refine Int64.toInt_inj.mp ?_; rw [p2.1, Int32.toInt_toInt64, Int32.toInt_toInt64]; show (maxF (hD f h) (nS f h) * mLn (f (7 + h)) k / 100).toInt = _; have z1 := p1.2.1; have z2 := p1.2.2; rw [Int32.toInt_div, Int.tdiv_eq_ediv_of_nonneg z1]; show Int.bmod ((maxF (hD f h) (nS f h) * mLn (f (7 + h)) k).toInt / 100) (2 ^ 32) = _; rw [Int.bmod_eq_of_le (by omega) (by omega)]; rfl] at kk; exact kk
  ·
    refine r_lconst (1) dX12_modelOf_11 rfl ?_
    refine r_goto 24 dX12_modelOf_12 rfl ?_
    rw [lz q0]
    refine sl_4 dX12_modelOf_24 (by first | rfl | assumption) (Nat.le_of_ble_eq_true rfl) ?_
    refine r_lconst (0) dX12_modelOf_26 rfl ?_
    refine sl_6 dX12_modelOf_27 (by first | rfl | assumption) (Nat.le_of_ble_eq_true rfl) ?_
    refine r_lconst (0) dX12_modelOf_29 rfl ?_
    refine sl_8 dX12_modelOf_30 (by first | rfl | assumption) (Nat.le_of_ble_eq_true rfl) ?_
    refine r_lconst (0) dX12_modelOf_32 rfl ?_
    refine sl_10 dX12_modelOf_33 (by first | rfl | assumption) (Nat.le_of_ble_eq_true rfl) ?_
    refine r_lconst (0) dX12_modelOf_35 rfl ?_
    refine sl_12 dX12_modelOf_36 (by first | rfl | assumption) (Nat.le_of_ble_eq_true rfl) ?_
    refine r_lconst (0) dX12_modelOf_38 rfl ?_
    refine sl_14 dX12_modelOf_39 (by first | rfl | assumption) (Nat.le_of_ble_eq_true rfl) ?_
    refine r_aload_n dX12_modelOf_41 rfl ?_
    refine r_getRc dX12_modelOf_42 fgX12_37 rfl (by exact k_167 hF) (by exact r_167_21 hF) ?_
    refine r_iload_n dX12_modelOf_45 rfl ?_
    refine r_ialoadc (nI (nS f h)) dX12_modelOf_46 (by exact k_181 hF) (vin (by omega) (by omega)) (by rw [nI_cl _ (by omega)]; exact (hI.2.1.at (by omega) (l_sta h6)).trans hsc) ?_
    refine si_16 dX12_modelOf_47 (by first | rfl | assumption) (Nat.le_of_ble_eq_true rfl) ?_
    refine r_iconst (0) dX12_modelOf_49 rfl ?_
    refine si_17 dX12_modelOf_50 (by first | rfl | assumption) (Nat.le_of_ble_eq_true rfl) ?_
    refine L_rmod hV hI hh (fun x18 x19 => ?_) (nS f h) 0 _ _ (by omega) rfl
    refine r_iload_n dX12_modelOf_174 rfl ?_
    refine r_tabIn 258 dX12_modelOf_175 (by decide) (by decide) rfl rfl ?_
    refine r_lload dX12_modelOf_258 rfl ?_
    refine r_lload dX12_modelOf_260 rfl ?_
    refine r_lmul dX12_modelOf_262 ?_
    refine r_ldc2 (100) dX12_modelOf_263 ctX12_97 ?_
    refine r_ldiv dX12_modelOf_266 (by decide) ?_
    refine r_lreturn dX12_modelOf_267 rfl ?_
    have p1 := mul32 xd (y := mLn (f (7 + h)) k) (B := 400) ⟨by have := ml.1.1; omega, ml.1.2⟩ (by omega)
    have p2 := divB (x := (maxF (hD f h) (nS f h) * mLn (f (7 + h)) k).toInt64) (y := 100) (t64B p1.2) (by omega) (by decide)
    rw [show (mdH f h k 4).toInt64 = (maxF (hD f h) (nS f h)).toInt64 * (mLn (f (7 + h)) k).toInt64 / 100 from by rw [← p1.1]; refine Int64.toInt_inj.mp ?_; rw [p2.1, Int32.toInt_toInt64, Int32.toInt_toInt64]; show (maxF (hD f h) (nS f h) * mLn (f (7 + h)) k / 100).toInt = _; have z1 := p1.2.1; have z2 := p1.2.2; rw [Int32.toInt_div, Int.tdiv_eq_ediv_of_nonneg z1]; show Int.bmod ((maxF (hD f h) (nS f h) * mLn (f (7 + h)) k).toInt / 100) (2 ^ 32) = _; rw [Int.bmod_eq_of_le (by omega) (by omega)]; rfl] at kk; exact kk
theorem S_rmod5 {g : GG} {m : MM} {Q : Out → Prop} {f : Nat → Int32} {fs : Nat → Nat → Int32} {ic : Nat} {tp : Nat → Int32} {tn : Nat} {pl : Int32} {n1 n2 : Nat} {ts : Nat → (Nat → Int32) × Nat} (hV : Vf f) (hI : RI f fs ic tp tn pl n1 n2 ts m) {h : Nat} (hh : h < nH f) {k : Int32} (hk : iv 1 40 k) (kk : Q (.inl (some (.long (mdH f h k 5).toInt64)), m)) : Cl g 0 0 0 mX12_modelOf [.ref 167, .int (nI h), .int k, .int 5] m Q := by
  have hF := hI.1
  have h6 : h < 6 := by have := hV.1.1.2; omega
  have h12 := (hV.2.1 h hh).2.2.2.1
  have h2 := (hV.2.1 h hh).2.2.1
  have hsc := (hV.2.1 h hh).2.1
  have hL := (hV.2.1 h hh).1
  have hb := hul_b hV hh
  have ml := mLn_b hL hk
  have kz : ¬ k = 0 := fun q => by rw [q] at hk; exact absurd hk.1 (by decide)
  have lb := t64B (A := 400) (x := mLn (f (7 + h)) k) ⟨by have := ml.1.1; omega, ml.1.2⟩
  have sa := t64B (sumF_b (p := fun j => hB f h j + 2 * hD f h j) (A := 180) (nS f h) (fun j hj => (hb j (by omega)).2.2.1) (by omega) (by omega))
  have su := t64B (sumF_b (p := fun j => hB f h j * hD f h j) (A := 3600) (nS f h) (fun j hj => (hb j (by omega)).2.2.2.1) (by omega) (by omega))
  have xb := maxF_b (p := hB f h) (A := 60) (by omega) (nS f h) (fun j hj => (hb j (by omega)).1)
  have xd := maxF_b (p := hD f h) (A := 60) (by omega) (nS f h) (fun j hj => (hb j (by omega)).2.1)
  have xu := maxF_b (p := fun j => hB f h j * hD f h j) (A := 3600) (by omega) (nS f h) (fun j hj => (hb j (by omega)).2.2.2.1)
  have sn : (nI (nS f h)).toInt64.toInt = nS f h := by rw [Int32.toInt_toInt64, nI_int _ (by omega)]
  have d1 : (100 * (nI (nS f h)).toInt64).toInt = 100 * nS f h := by rw [Int64.toInt_mul, sn]; show Int.bmod (100 * (nS f h : Int)) (2 ^ 64) = _; rw [Int.bmod_eq_of_le (by omega) (by omega)]
  have d2 : (10000 * (nI (nS f h)).toInt64).toInt = 10000 * nS f h := by rw [Int64.toInt_mul, sn]; show Int.bmod (10000 * (nS f h : Int)) (2 ^ 64) = _; rw [Int.bmod_eq_of_le (by omega) (by omega)]
  have e1 : ¬ 100 * (nI (nS f h)).toInt64 = 0 := fun q => by have z := congrArg Int64.toInt q; rw [d1] at z; have y : (0 : Int64).toInt = 0 := rfl; omega
  have e2 : ¬ 10000 * (nI (nS f h)).toInt64 = 0 := fun q => by have z := congrArg Int64.toInt q; rw [d2] at z; have y : (0 : Int64).toInt = 0 := rfl; omega
  have lz : f (7 + h) / k = 0 → (1 : Int64) = (mLn (f (7 + h)) k).toInt64 := fun q => by rw [ml.2, if_pos q]; rfl
  have ln : ¬ f (7 + h) / k = 0 → (f (7 + h) / k).toInt64 = (mLn (f (7 + h)) k).toInt64 := fun q => by rw [ml.2, if_neg q]
  refine Cl.of rfl (by decide) (Nat.le_of_ble_eq_true rfl) ?_
  show Wp g mX12_modelOf 0 0 0 0 [.ref 167, .int (nI h), .int k, .int 5, .retAddr 0, .retAddr 0, .retAddr 0, .retAddr 0, .retAddr 0, .retAddr 0, .retAddr 0, .retAddr 0, .retAddr 0, .retAddr 0, .retAddr 0, .retAddr 0, .retAddr 0, .retAddr 0, .retAddr 0, .retAddr 0] [] m Q
  refine r_aload_n dX12_modelOf_0 rfl ?_
  refine r_getRc dX12_modelOf_1 fgX12_34 rfl (by exact k_167 hF) (by exact r_167_20 hF) ?_
  refine r_iload_n dX12_modelOf_4 rfl ?_
  refine r_ialoadc (f (7 + h)) dX12_modelOf_5 (by exact k_180 hF) (vin (by omega) (by omega)) (by rw [nI_cl _ (by omega)]; exact hI.2.1.at (by omega) (l_len h6)) ?_
  refine r_iload_n dX12_modelOf_6 rfl ?_
  refine r_idiv dX12_modelOf_7 kz ?_
  refine r_if_ne 15 dX12_modelOf_8 rfl (fun q0 => ?_) (fun q0 => ?_)
  ·
    refine r_aload_n dX12_modelOf_15 rfl ?_
    refine r_getRc dX12_modelOf_16 fgX12_34 rfl (by exact k_167 hF) (by exact r_167_20 hF) ?_
    refine r_iload_n dX12_modelOf_19 rfl ?_
    refine r_ialoadc (f (7 + h)) dX12_modelOf_20 (by exact k_180 hF) (vin (by omega) (by omega)) (by rw [nI_cl _ (by omega)]; exact hI.2.1.at (by omega) (l_len h6)) ?_
    refine r_iload_n dX12_modelOf_21 rfl ?_
    refine r_idiv dX12_modelOf_22 kz ?_
    refine r_i2l dX12_modelOf_23 ?_
    rw [ln q0]
    refine sl_4 dX12_modelOf_24 (by first | rfl | assumption) (Nat.le_of_ble_eq_true rfl) ?_
    refine r_lconst (0) dX12_modelOf_26 rfl ?_
    refine sl_6 dX12_modelOf_27 (by first | rfl | assumption) (Nat.le_of_ble_eq_true rfl) ?_
    refine r_lconst (0) dX12_modelOf_29 rfl ?_
    refine sl_8 dX12_modelOf_30 (by first | rfl | assumption) (Nat.le_of_ble_eq_true rfl) ?_
    refine r_lconst (0) dX12_modelOf_32 rfl ?_
    refine sl_10 dX12_modelOf_33 (by first | rfl | assumption) (Nat.le_of_ble_eq_true rfl) ?_
    refine r_lconst (0) dX12_modelOf_35 rfl ?_
    refine sl_12 dX12_modelOf_36 (by first | rfl | assumption) (Nat.le_of_ble_eq_true rfl) ?_
    refine r_lconst (0) dX12_modelOf_38 rfl ?_
    refine sl_14 dX12_modelOf_39 (by first | rfl | assumption) (Nat.le_of_ble_eq_true rfl) ?_
    refine r_aload_n dX12_modelOf_41 rfl ?_
    refine r_getRc dX12_modelOf_42 fgX12_37 rfl (by exact k_167 hF) (by exact r_167_21 hF) ?_
    refine r_iload_n dX12_modelOf_45 rfl ?_
    refine r_ialoadc (nI (nS f h)) dX12_modelOf_46 (by exact k_181 hF) (vin (by omega) (by omega)) (by rw [nI_cl _ (by omega)]; exact (hI.2.1.at (by omega) (l_sta h6)).trans hsc) ?_
    refine si_16 dX12_modelOf_47 (by first | rfl | assumption) (Nat.le_of_ble_eq_true rfl) ?_
    refine r_iconst (0) dX12_modelOf_49 rfl ?_
    refine si_17 dX12_modelOf_50 (by first | rfl | assumption) (Nat.le_of_ble_eq_true rfl) ?_
    refine L_rmod hV hI hh (fun x18 x19 => ?_) (nS f h) 0 _ _ (by omega) rfl
    refine r_iload_n dX12_modelOf_174 rfl ?_
    refine r_tabOut 268 dX12_modelOf_175 (by decide) rfl ?_
    refine r_lload dX12_modelOf_268 rfl ?_
    refine r_lload dX12_modelOf_270 rfl ?_
    refine r_lmul dX12_modelOf_272 ?_
    refine r_lload dX12_modelOf_273 rfl ?_
    refine r_lmul dX12_modelOf_275 ?_
    refine r_ldc2 (10000) dX12_modelOf_276 ctX12_99 ?_
    refine r_ldiv dX12_modelOf_279 (by decide) ?_
    refine r_lreturn dX12_modelOf_280 rfl ?_
    have p1 := mulB lb lb (by omega)
    have p2 := mulB ⟨p1.2.1, p1.2.2⟩ (t64B xu) (by omega)
    have p3 := divB ⟨p2.2.1, p2.2.2⟩ (by omega) (y := 10000) (by decide)
    rw [show (mdH f h k 5).toInt64 = (maxF (fun j => hB f h j * hD f h j) (nS f h)).toInt64 * (mLn (f (7 + h)) k).toInt64 * (mLn (f (7 + h)) k).toInt64 / 10000 from by rw [Int64.mul_assoc, Int64.mul_comm]; exact rt32 ⟨p3.2.1, by have := p3.2.2; omega⟩] at kk; exact kk
  ·
    refine r_lconst (1) dX12_modelOf_11 rfl ?_
    refine r_goto 24 dX12_modelOf_12 rfl ?_
    rw [lz q0]
    refine sl_4 dX12_modelOf_24 (by first | rfl | assumption) (Nat.le_of_ble_eq_true rfl) ?_
    refine r_lconst (0) dX12_modelOf_26 rfl ?_
    refine sl_6 dX12_modelOf_27 (by first | rfl | assumption) (Nat.le_of_ble_eq_true rfl) ?_
    refine r_lconst (0) dX12_modelOf_29 rfl ?_
    refine sl_8 dX12_modelOf_30 (by first | rfl | assumption) (Nat.le_of_ble_eq_true rfl) ?_
    refine r_lconst (0) dX12_modelOf_32 rfl ?_
    refine sl_10 dX12_modelOf_33 (by first | rfl | assumption) (Nat.le_of_ble_eq_true rfl) ?_
    refine r_lconst (0) dX12_modelOf_35 rfl ?_
    refine sl_12 dX12_modelOf_36 (by first | rfl | assumption) (Nat.le_of_ble_eq_true rfl) ?_
    refine r_lconst (0) dX12_modelOf_38 rfl ?_
    refine sl_14 dX12_modelOf_39 (by first | rfl | assumption) (Nat.le_of_ble_eq_true rfl) ?_
    refine r_aload_n dX12_modelOf_41 rfl ?_
    refine r_getRc dX12_modelOf_42 fgX12_37 rfl (by exact k_167 hF) (by exact r_167_21 hF) ?_
    refine r_iload_n dX12_modelOf_45 rfl ?_
    refine r_ialoadc (nI (nS f h)) dX12_modelOf_46 (by exact k_181 hF) (vin (by omega) (by omega)) (by rw [nI_cl _ (by omega)]; exact (hI.2.1.at (by omega) (l_sta h6)).trans hsc) ?_
    refine si_16 dX12_modelOf_47 (by first | rfl | assumption) (Nat.le_of_ble_eq_true rfl) ?_
    refine r_iconst (0) dX12_modelOf_49 rfl ?_
    refine si_17 dX12_modelOf_50 (by first | rfl | assumption) (Nat.le_of_ble_eq_true rfl) ?_
    refine L_rmod hV hI hh (fun x18 x19 => ?_) (nS f h) 0 _ _ (by omega) rfl
    refine r_iload_n dX12_modelOf_174 rfl ?_
    refine r_tabOut 268 dX12_modelOf_175 (by decide) rfl ?_
    refine r_lload dX12_modelOf_268 rfl ?_
    refine r_lload dX12_modelOf_270 rfl ?_
    refine r_lmul dX12_modelOf_272 ?_
    refine r_lload dX12_modelOf_273 rfl ?_
    refine r_lmul dX12_modelOf_275 ?_
    refine r_ldc2 (10000) dX12_modelOf_276 ctX12_99 ?_
    refine r_ldiv dX12_modelOf_279 (by decide) ?_
    refine r_lreturn dX12_modelOf_280 rfl ?_
    have p1 := mulB lb lb (by omega)
    have p2 := mulB ⟨p1.2.1, p1.2.2⟩ (t64B xu) (by omega)
    have p3 := divB ⟨p2.2.1, p2.2.2⟩ (by omega) (y := 10000) (by decide)
    rw [show (mdH f h k 5).toInt64 = (maxF (fun j => hB f h j * hD f h j) (nS f h)).toInt64 * (mLn (f (7 + h)) k).toInt64 * (mLn (f (7 + h)) k).toInt64 / 10000 from by rw [Int64.mul_assoc, Int64.mul_comm]; exact rt32 ⟨p3.2.1, by have := p3.2.2; omega⟩] at kk; exact kk
