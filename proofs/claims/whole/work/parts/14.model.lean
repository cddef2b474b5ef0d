theorem ld_s {m : MM} {a k : Nat} {v : Int32} : ldI (stI m a k v) a k = v := if_pos ⟨rfl, rfl⟩
theorem ld_n {m : MM} {a k b j : Nat} {v x : Int32} (h : ¬ (b = a ∧ j = k)) (e : ldI m b j = x) : ldI (stI m a k v) b j = x := (if_neg h).trans e
def sumF (f : Nat → Int32) : Nat → Int32
  | 0 => 0
  | n + 1 => sumF f n + f n
def maxF (f : Nat → Int32) : Nat → Int32
  | 0 => 0
  | n + 1 => if maxF f n < f n then f n else maxF f n
def arG (m : MM) (b e : Nat) : Nat → Int32 := fun j => ldI m b j + 2 * ldI m e j
def unG (m : MM) (b e : Nat) : Nat → Int32 := fun j => ldI m b j * ldI m e j
def ovF (x y : Int64) : Int64 := if y = 0 then 0 else x / y
theorem S_over {g : GG} {m : MM} {Q : Out → Prop} {x y : Int64} (k : Q (.inl (some (.long (ovF x y))), m)) : Cl g 0 0 0 mX11_over [.long x, .long y] m Q := by
  refine S_X11_over (fun h => ?_) (fun h => ?_)
  · rw [ovF, if_pos h] at k; exact k
  · rw [ovF, if_neg h] at k; exact k
theorem L_meas {g : GG} {m : MM} {Q : Out → Prop} (hF : Fx m) {a b e n : Nat} (ha : kdl m a = some (1, 0)) (hb : ldR m a 2 = b) (hbk : kdl m b = some (13, 12)) (hd : ldR m a 3 = e) (hdk : kdl m e = some (13, 12)) (hn : ldI m a 1 = nI n) (hn12 : n ≤ 12) (ha4 : a ≠ 164) {sc : Int32} (kx : ∀ x9 x10 : Value, x9.category = 1 → Wp g mX2_measure 1 0 0 107 [.ref 164, .ref a, .int sc, .int (sumF (arG m b e) n), .int (sumF (unG m b e) n), .int (maxF (ldI m b) n), .int (maxF (ldI m e) n), .int (maxF (unG m b e) n), .int (nI n), x9, x10] [] m Q) : ∀ (t i : Nat) (x9 x10 : Value), x9.category = 1 → i + t = n → Wp g mX2_measure 1 0 0 17 [.ref 164, .ref a, .int sc, .int (sumF (arG m b e) i), .int (sumF (unG m b e) i), .int (maxF (ldI m b) i), .int (maxF (ldI m e) i), .int (maxF (unG m b e) i), .int (nI i), x9, x10] [] m Q := by
  intro t
  induction t with
  | zero =>
    intro i x9 x10 hx9 hi
    obtain rfl : i = n := by omega
    refine r_iload dX2_measure_17 rfl ?_
    refine r_aload_n dX2_measure_19 rfl ?_
    refine r_getI dX2_measure_20 fgX2_9 rfl (by exact ha) ?_
    refine r_icmp_ge 107 dX2_measure_23 rfl (fun h1 => ?_) (fun h1 => ?_)
    ·
      exact kx _ _ hx9
    ·
      exact absurd (by rw [hn]; exact nI_le (Nat.le_refl _) (by omega)) h1
  | succ t ih =>
    intro i x9 x10 hx9 hi
    have hin : i < n := by omega
    refine r_iload dX2_measure_17 rfl ?_
    refine r_aload_n dX2_measure_19 rfl ?_
    refine r_getI dX2_measure_20 fgX2_9 rfl (by exact ha) ?_
    refine r_icmp_ge 107 dX2_measure_23 rfl (fun h1 => ?_) (fun h1 => ?_)
    ·
      exact absurd h1 (by rw [hn]; exact nI_ge hin (by omega))
    ·
      refine r_iload dX2_measure_26 rfl ?_
      refine r_bipush (12) dX2_measure_28 rfl ?_
      refine r_icmp_ge 107 dX2_measure_30 rfl (fun h2 => ?_) (fun h2 => ?_)
      ·
        exact absurd h2 (nI_ge (a := i) (b := 12) (by omega) (by omega))
      ·
        refine r_aload_n dX2_measure_33 rfl ?_
        refine r_getRc dX2_measure_34 fgX2_15 rfl (by exact ha) (by exact hb) ?_
        refine r_iload dX2_measure_37 rfl ?_
        refine r_ialoadn (i) (nI_cl i (by omega)) dX2_measure_39 (by exact hbk) (vin (by omega) (by omega)) ?_
        refine si_9 dX2_measure_40 rfl (Nat.le_of_ble_eq_true rfl) ?_
        refine r_aload_n dX2_measure_42 rfl ?_
        refine r_getRc dX2_measure_43 fgX2_19 rfl (by exact ha) (by exact hd) ?_
        refine r_iload dX2_measure_46 rfl ?_
        refine r_ialoadn (i) (nI_cl i (by omega)) dX2_measure_48 (by exact hdk) (vin (by omega) (by omega)) ?_
        refine si_10 dX2_measure_49 rfl (Nat.le_of_ble_eq_true rfl) ?_
        refine r_iload_n dX2_measure_51 rfl ?_
        refine r_iload dX2_measure_52 rfl ?_
        refine r_iconst (2) dX2_measure_54 rfl ?_
        refine r_iload dX2_measure_55 rfl ?_
        refine r_imul dX2_measure_57 ?_
        refine r_iadd dX2_measure_58 ?_
        refine r_iadd dX2_measure_59 ?_
        refine si_3 dX2_measure_60 rfl (Nat.le_of_ble_eq_true rfl) ?_
        refine r_iload dX2_measure_61 rfl ?_
        refine r_iload dX2_measure_63 rfl ?_
        refine r_iload dX2_measure_65 rfl ?_
        refine r_imul dX2_measure_67 ?_
        refine r_iadd dX2_measure_68 ?_
        refine si_4 dX2_measure_69 rfl (Nat.le_of_ble_eq_true rfl) ?_
        refine r_iload dX2_measure_71 rfl ?_
        refine r_iload dX2_measure_73 rfl ?_
        refine r_mmaxI dX2_measure_75 msX2_22 (Nat.le_of_ble_eq_true rfl) (by exact Nat.le_of_ble_eq_true rfl) ?_
        refine si_5 dX2_measure_78 rfl (Nat.le_of_ble_eq_true rfl) ?_
        refine r_iload dX2_measure_80 rfl ?_
        refine r_iload dX2_measure_82 rfl ?_
        refine r_mmaxI dX2_measure_84 msX2_22 (Nat.le_of_ble_eq_true rfl) (by exact Nat.le_of_ble_eq_true rfl) ?_
        refine si_6 dX2_measure_87 rfl (Nat.le_of_ble_eq_true rfl) ?_
        refine r_iload dX2_measure_89 rfl ?_
        refine r_iload dX2_measure_91 rfl ?_
        refine r_iload dX2_measure_93 rfl ?_
        refine r_imul dX2_measure_95 ?_
        refine r_mmaxI dX2_measure_96 msX2_22 (Nat.le_of_ble_eq_true rfl) (by exact Nat.le_of_ble_eq_true rfl) ?_
        refine si_7 dX2_measure_99 rfl (Nat.le_of_ble_eq_true rfl) ?_
        refine ic_8 (1) dX2_measure_101 rfl rfl (Nat.le_of_ble_eq_true rfl) ?_
        refine r_goto 17 dX2_measure_104 rfl ?_
        rw [nI_1 i]
        exact ih (i + 1) _ _ rfl (by omega)
def mLn (L sc : Int32) : Int32 := if 0 < sc ∧ sc < L then L / sc else 1
def mVal (L S ar un wi de fu sc : Int32) : Nat → Int32 := fun k => match k with
  | 0 => mLn L sc
  | 1 => (ovF ((mLn L sc).toInt64 * (mLn L sc).toInt64 * ar.toInt64) (100 * S.toInt64)).toInt32
  | 2 => (ovF ((mLn L sc).toInt64 * (mLn L sc).toInt64 * (mLn L sc).toInt64 * un.toInt64) (10000 * S.toInt64)).toInt32
  | 3 => wi * mLn L sc / 100
  | 4 => de * mLn L sc / 100
  | _ => ((mLn L sc).toInt64 * (mLn L sc).toInt64 * fu.toInt64 / 10000).toInt32
def mMem (m : MM) (v : Nat → Int32) : MM := stI (stI (stI (stI (stI (stI m 164 0 (v 0)) 164 1 (v 1)) 164 2 (v 2)) 164 3 (v 3)) 164 4 (v 4)) 164 5 (v 5)
def mHull (m : MM) (a b e n : Nat) (sc : Int32) : Nat → Int32 := mVal (ldI m a 0) (ldI m a 1) (sumF (arG m b e) n) (sumF (unG m b e) n) (maxF (ldI m b) n) (maxF (ldI m e) n) (maxF (unG m b e) n) sc
set_option maxRecDepth 100000 in
theorem S_meas2 {g : GG} {m : MM} {Q : Out → Prop} (hF : Fx m) {a b e n : Nat} (ha : kdl m a = some (1, 0)) (hb : ldR m a 2 = b) (hbk : kdl m b = some (13, 12)) (hd : ldR m a 3 = e) (hdk : kdl m e = some (13, 12)) (hn : ldI m a 1 = nI n) (hn12 : n ≤ 12) (ha4 : a ≠ 164) {sc : Int32} (k : Q (.inl none, mMem m (mHull m a b e n sc))) : ∀ x9 x10 : Value, x9.category = 1 → Wp g mX2_measure 1 0 0 130 [.ref 164, .ref a, .int sc, .int (sumF (arG m b e) n), .int (sumF (unG m b e) n), .int (maxF (ldI m b) n), .int (maxF (ldI m e) n), .int (maxF (unG m b e) n), .int (nI n), x9, x10] [.int (mLn (ldI m a 0) sc), .ref 164] m Q := by
  intro x9 x10 hx9
  refine r_putI dX2_measure_130 (fpX2_31 _ rfl) rfl (by exact k_164 hF) ⟨rfl, rfl⟩ ?_
  refine r_aload_n dX2_measure_133 rfl ?_
  refine r_getIc (mLn (ldI m a 0) sc) dX2_measure_134 fgX2_31 rfl (by exact k_164 hF) ld_s ?_
  refine r_i2l dX2_measure_137 ?_
  refine r_aload_n dX2_measure_138 rfl ?_
  refine r_getIc (mLn (ldI m a 0) sc) dX2_measure_139 fgX2_31 rfl (by exact k_164 hF) ld_s ?_
  refine r_i2l dX2_measure_142 ?_
  refine r_lmul dX2_measure_143 ?_
  refine sl_8 dX2_measure_144 (by first | rfl | assumption) (Nat.le_of_ble_eq_true rfl) ?_
  refine r_aload_n dX2_measure_146 rfl ?_
  refine r_lload dX2_measure_147 rfl ?_
  refine r_iload_n dX2_measure_149 rfl ?_
  refine r_i2l dX2_measure_150 ?_
  refine r_lmul dX2_measure_151 ?_
  refine r_ldc2 (100) dX2_measure_152 ctX2_34 ?_
  refine r_aload_n dX2_measure_155 rfl ?_
  refine r_getIc (ldI m a 1) dX2_measure_156 fgX2_9 rfl (by exact ha) (ld_n (fun q => ha4 q.1) rfl) ?_
  refine r_i2l dX2_measure_159 ?_
  refine r_lmul dX2_measure_160 ?_
  refine r_callN2 (d1 := 0) (c1 := 0) (n1 := 0) dX2_measure_161 msX2_36 (Nat.le_of_ble_eq_true rfl) (by exact Nat.le_of_ble_eq_true rfl) ?_
  refine S_over ?_
  show Wp g mX2_measure _ _ _ 164 _ (_ :: _) _ Q
  refine r_l2i dX2_measure_164 ?_
  refine r_putI dX2_measure_165 (fpX2_40 _ rfl) rfl (by exact k_164 hF) ⟨rfl, rfl⟩ ?_
  refine r_aload_n dX2_measure_168 rfl ?_
  refine r_lload dX2_measure_169 rfl ?_
  refine r_aload_n dX2_measure_171 rfl ?_
  refine r_getIc (mLn (ldI m a 0) sc) dX2_measure_172 fgX2_31 rfl (by exact k_164 hF) (ld_n (by decide) ld_s) ?_
  refine r_i2l dX2_measure_175 ?_
  refine r_lmul dX2_measure_176 ?_
  refine r_iload dX2_measure_177 rfl ?_
  refine r_i2l dX2_measure_179 ?_
  refine r_lmul dX2_measure_180 ?_
  refine r_ldc2 (10000) dX2_measure_181 ctX2_43 ?_
  refine r_aload_n dX2_measure_184 rfl ?_
  refine r_getIc (ldI m a 1) dX2_measure_185 fgX2_9 rfl (by exact ha) (ld_n (fun q => ha4 q.1) (ld_n (fun q => ha4 q.1) rfl)) ?_
  refine r_i2l dX2_measure_188 ?_
  refine r_lmul dX2_measure_189 ?_
  refine r_callN2 (d1 := 0) (c1 := 0) (n1 := 0) dX2_measure_190 msX2_36 (Nat.le_of_ble_eq_true rfl) (by exact Nat.le_of_ble_eq_true rfl) ?_
  refine S_over ?_
  show Wp g mX2_measure _ _ _ 193 _ (_ :: _) _ Q
  refine r_l2i dX2_measure_193 ?_
  refine r_putI dX2_measure_194 (fpX2_45 _ rfl) rfl (by exact k_164 hF) ⟨rfl, rfl⟩ ?_
  refine r_aload_n dX2_measure_197 rfl ?_
  refine r_iload dX2_measure_198 rfl ?_
  refine r_aload_n dX2_measure_200 rfl ?_
  refine r_getIc (mLn (ldI m a 0) sc) dX2_measure_201 fgX2_31 rfl (by exact k_164 hF) (ld_n (by decide) (ld_n (by decide) ld_s)) ?_
  refine r_imul dX2_measure_204 ?_
  refine r_bipush (100) dX2_measure_205 rfl ?_
  refine r_idiv dX2_measure_207 (by decide) ?_
  refine r_putI dX2_measure_208 (fpX2_48 _ rfl) rfl (by exact k_164 hF) ⟨rfl, rfl⟩ ?_
  refine r_aload_n dX2_measure_211 rfl ?_
  refine r_iload dX2_measure_212 rfl ?_
  refine r_aload_n dX2_measure_214 rfl ?_
  refine r_getIc (mLn (ldI m a 0) sc) dX2_measure_215 fgX2_31 rfl (by exact k_164 hF) (ld_n (by decide) (ld_n (by decide) (ld_n (by decide) ld_s))) ?_
  refine r_imul dX2_measure_218 ?_
  refine r_bipush (100) dX2_measure_219 rfl ?_
  refine r_idiv dX2_measure_221 (by decide) ?_
  refine r_putI dX2_measure_222 (fpX2_51 _ rfl) rfl (by exact k_164 hF) ⟨rfl, rfl⟩ ?_
  refine r_aload_n dX2_measure_225 rfl ?_
  refine r_lload dX2_measure_226 rfl ?_
  refine r_iload dX2_measure_228 rfl ?_
  refine r_i2l dX2_measure_230 ?_
  refine r_lmul dX2_measure_231 ?_
  refine r_ldc2 (10000) dX2_measure_232 ctX2_43 ?_
  refine r_ldiv dX2_measure_235 (by decide) ?_
  refine r_l2i dX2_measure_236 ?_
  refine r_putI dX2_measure_237 (fpX2_54 _ rfl) rfl (by exact k_164 hF) ⟨rfl, rfl⟩ ?_
  refine r_return dX2_measure_240 rfl ?_
  exact k
theorem S_X2_measure {g : GG} {m : MM} {Q : Out → Prop} (hF : Fx m) {a b e n : Nat} (ha : kdl m a = some (1, 0)) (hb : ldR m a 2 = b) (hbk : kdl m b = some (13, 12)) (hd : ldR m a 3 = e) (hdk : kdl m e = some (13, 12)) (hn : ldI m a 1 = nI n) (hn12 : n ≤ 12) (ha4 : a ≠ 164) {sc : Int32} (k : Q (.inl none, mMem m (mHull m a b e n sc))) : Cl g 1 0 0 mX2_measure [.ref 164, .ref a, .int sc] m Q := by
  refine Cl.of rfl (by decide) (Nat.le_of_ble_eq_true rfl) ?_
  show Wp g mX2_measure 1 0 0 0 [.ref 164, .ref a, .int sc, .retAddr 0, .retAddr 0, .retAddr 0, .retAddr 0, .retAddr 0, .retAddr 0, .retAddr 0, .retAddr 0] [] m Q
  have kk := S_meas2 (g := g) hF ha hb hbk hd hdk hn hn12 ha4 k
  refine r_iconst (0) dX2_measure_0 rfl ?_
  refine si_3 dX2_measure_1 rfl (Nat.le_of_ble_eq_true rfl) ?_
  refine r_iconst (0) dX2_measure_2 rfl ?_
  refine si_4 dX2_measure_3 rfl (Nat.le_of_ble_eq_true rfl) ?_
  refine r_iconst (0) dX2_measure_5 rfl ?_
  refine si_5 dX2_measure_6 rfl (Nat.le_of_ble_eq_true rfl) ?_
  refine r_iconst (0) dX2_measure_8 rfl ?_
  refine si_6 dX2_measure_9 rfl (Nat.le_of_ble_eq_true rfl) ?_
  refine r_iconst (0) dX2_measure_11 rfl ?_
  refine si_7 dX2_measure_12 rfl (Nat.le_of_ble_eq_true rfl) ?_
  refine r_iconst (0) dX2_measure_14 rfl ?_
  refine si_8 dX2_measure_15 rfl (Nat.le_of_ble_eq_true rfl) ?_
  refine L_meas hF ha hb hbk hd hdk hn hn12 ha4 (fun x9 x10 hx9 => ?_) n 0 _ _ rfl (by omega)
  refine r_aload_n dX2_measure_107 rfl ?_
  refine r_iload_n dX2_measure_108 rfl ?_
  refine r_if_le 129 dX2_measure_109 rfl (fun h3 => ?_) (fun h3 => ?_)
  ·
    refine r_iconst (1) dX2_measure_129 rfl ?_
    have eL : (1 : Int32) = mLn (ldI m a 0) sc := by rw [mLn, if_neg (fun q => i32_nle.mpr q.1 h3)]
    rw [eL]
    exact kk x9 x10 hx9
  ·
    refine r_iload_n dX2_measure_112 rfl ?_
    refine r_aload_n dX2_measure_113 rfl ?_
    refine r_getI dX2_measure_114 fgX2_28 rfl (by exact ha) ?_
    refine r_icmp_ge 129 dX2_measure_117 rfl (fun h4 => ?_) (fun h4 => ?_)
    ·
      refine r_iconst (1) dX2_measure_129 rfl ?_
      have eL : (1 : Int32) = mLn (ldI m a 0) sc := by rw [mLn, if_neg (fun q => i32_nle.mpr q.2 h4)]
      rw [eL]
      exact kk x9 x10 hx9
    ·
      refine r_aload_n dX2_measure_120 rfl ?_
      refine r_getI dX2_measure_121 fgX2_28 rfl (by exact ha) ?_
      refine r_iload_n dX2_measure_124 rfl ?_
      refine r_idiv dX2_measure_125 (fun q => h3 (by rw [q]; decide)) ?_
      refine r_goto 130 dX2_measure_126 rfl ?_
      have eL : ldI m a 0 / sc = mLn (ldI m a 0) sc := by rw [mLn, if_pos ⟨i32_nle.mp h3, i32_nle.mp h4⟩]
      rw [eL]
      exact kk x9 x10 hx9
theorem tabI {x : Int32} {j : Nat} (h : x = nI j) (hj : j < 100) : x.toInt = j := by rw [h]; exact nI_int j (by omega)
theorem S_part0 {g : GG} {m : MM} {Q : Out → Prop} (hF : Fx m) (k : Q (.inl (some (.int (ldI m 164 0))), m)) : Cl g 0 0 0 mX2_part [.ref 164, .int 0] m Q := by
  refine Cl.of rfl (by decide) (Nat.le_of_ble_eq_true rfl) ?_
  show Wp g mX2_part 0 0 0 0 [.ref 164, .int 0] [] m Q
  refine r_iload_n dX2_part_0 rfl ?_
  refine r_tabIn 36 dX2_part_1 (by decide) (by decide) rfl rfl ?_
  refine r_aload_n dX2_part_36 rfl ?_
  refine r_getI dX2_part_37 fgX2_31 rfl (by exact k_164 hF) ?_
  refine r_ireturn dX2_part_40 rfl rfl ?_
  exact k
theorem S_part1 {g : GG} {m : MM} {Q : Out → Prop} (hF : Fx m) (k : Q (.inl (some (.int (ldI m 164 1))), m)) : Cl g 0 0 0 mX2_part [.ref 164, .int 1] m Q := by
  refine Cl.of rfl (by decide) (Nat.le_of_ble_eq_true rfl) ?_
  show Wp g mX2_part 0 0 0 0 [.ref 164, .int 1] [] m Q
  refine r_iload_n dX2_part_0 rfl ?_
  refine r_tabIn 41 dX2_part_1 (by decide) (by decide) rfl rfl ?_
  refine r_aload_n dX2_part_41 rfl ?_
  refine r_getI dX2_part_42 fgX2_40 rfl (by exact k_164 hF) ?_
  refine r_ireturn dX2_part_45 rfl rfl ?_
  exact k
theorem S_part2 {g : GG} {m : MM} {Q : Out → Prop} (hF : Fx m) (k : Q (.inl (some (.int (ldI m 164 2))), m)) : Cl g 0 0 0 mX2_part [.ref 164, .int 2] m Q := by
  refine Cl.of rfl (by decide) (Nat.le_of_ble_eq_true rfl) ?_
  show Wp g mX2_part 0 0 0 0 [.ref 164, .int 2] [] m Q
  refine r_iload_n dX2_part_0 rfl ?_
  refine r_tabIn 46 dX2_part_1 (by decide) (by decide) rfl rfl ?_
  refine r_aload_n dX2_part_46 rfl ?_
  refine r_getI dX2_part_47 fgX2_45 rfl (by exact k_164 hF) ?_
  refine r_ireturn dX2_part_50 rfl rfl ?_
  exact k
theorem S_part3 {g : GG} {m : MM} {Q : Out → Prop} (hF : Fx m) (k : Q (.inl (some (.int (ldI m 164 3))), m)) : Cl g 0 0 0 mX2_part [.ref 164, .int 3] m Q := by
  refine Cl.of rfl (by decide) (Nat.le_of_ble_eq_true rfl) ?_
  show Wp g mX2_part 0 0 0 0 [.ref 164, .int 3] [] m Q
  refine r_iload_n dX2_part_0 rfl ?_
  refine r_tabIn 51 dX2_part_1 (by decide) (by decide) rfl rfl ?_
  refine r_aload_n dX2_part_51 rfl ?_
  refine r_getI dX2_part_52 fgX2_48 rfl (by exact k_164 hF) ?_
  refine r_ireturn dX2_part_55 rfl rfl ?_
  exact k
theorem S_part4 {g : GG} {m : MM} {Q : Out → Prop} (hF : Fx m) (k : Q (.inl (some (.int (ldI m 164 4))), m)) : Cl g 0 0 0 mX2_part [.ref 164, .int 4] m Q := by
  refine Cl.of rfl (by decide) (Nat.le_of_ble_eq_true rfl) ?_
  show Wp g mX2_part 0 0 0 0 [.ref 164, .int 4] [] m Q
  refine r_iload_n dX2_part_0 rfl ?_
  refine r_tabIn 56 dX2_part_1 (by decide) (by decide) rfl rfl ?_
  refine r_aload_n dX2_part_56 rfl ?_
  refine r_getI dX2_part_57 fgX2_51 rfl (by exact k_164 hF) ?_
  refine r_ireturn dX2_part_60 rfl rfl ?_
  exact k
theorem S_part5 {g : GG} {m : MM} {Q : Out → Prop} (hF : Fx m) (k : Q (.inl (some (.int (ldI m 164 5))), m)) : Cl g 0 0 0 mX2_part [.ref 164, .int 5] m Q := by
  refine Cl.of rfl (by decide) (Nat.le_of_ble_eq_true rfl) ?_
  show Wp g mX2_part 0 0 0 0 [.ref 164, .int 5] [] m Q
  refine r_iload_n dX2_part_0 rfl ?_
  refine r_tabOut 61 dX2_part_1 (by decide) rfl ?_
  refine r_aload_n dX2_part_61 rfl ?_
  refine r_getI dX2_part_62 fgX2_54 rfl (by exact k_164 hF) ?_
  refine r_ireturn dX2_part_65 rfl rfl ?_
  exact k
