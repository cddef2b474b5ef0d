def NmH (f : Nat → Int32) (h : Nat) (r : Nat → Int32) : Nat → Int64 := fun j => match j with
  | 0 => (mdH f h (r 1) 0).toInt64
  | 1 => (r 2).toInt64
  | 2 => (mdH f h (r 1) 1).toInt64
  | 3 => (mdH f h (r 1) 2).toInt64
  | 4 => (mdH f h (r 1) 3).toInt64
  | 5 => (mdH f h (r 1) 4).toInt64
  | 6 => ovF (100 * (r 2).toInt64 * (r 2).toInt64) (mdH f h (r 1) 0).toInt64
  | 7 => if r 4 = 0 then 0 else 1
  | 8 => sdV f (mdH f h (r 1) 5) (r 3)
  | _ => (r 5).toInt64
def Nm (f r : Nat → Int32) : Nat → Int64 := NmH f (r 0).toNatClampNeg r
def nmL (m : MM) (N : Nat → Int64) : Nat → MM
  | 0 => m
  | i + 1 => stL (nmL m N i) 161 i (N i)
theorem nmL_ld {m : MM} {N : Nat → Int64} : ∀ i j, j < i → ldL (nmL m N i) 161 j = N j
  | 0, j, h => absurd h (by omega)
  | i + 1, j, h => by
    show (if 161 = 161 ∧ j = i then N i else ldL (nmL m N i) 161 j) = N j
    by_cases q : j = i
    · rw [if_pos ⟨rfl, q⟩, q]
    · rw [if_neg (fun z => q z.2)]; exact nmL_ld i j (by omega)
theorem nmL_off {m M : MM} {N : Nat → Int64} (h : Off 160 164 m M) : ∀ i, Off 160 164 m (nmL M N i)
  | 0 => h
  | i + 1 => (nmL_off h i).stL (by omega) (by omega)
theorem mMem_off {m : MM} {v : Nat → Int32} : Off 164 164 m (mMem m v) := (((((Off.rf.stI (by omega) (by omega)).stI (by omega) (by omega)).stI (by omega) (by omega)).stI (by omega) (by omega)).stI (by omega) (by omega)).stI (by omega) (by omega)
theorem mM_o {m : MM} {v : Nat → Int32} {a k : Nat} (h : a ≠ 164) : ldI (mMem m v) a k = ldI m a k := (mMem_off.2 a (by omega)).1 k
theorem mM_0 {m : MM} {v : Nat → Int32} : ldI (mMem m v) 164 0 = v 0 := ld_n (by decide) (ld_n (by decide) (ld_n (by decide) (ld_n (by decide) (ld_n (by decide) ld_s))))
theorem mM_1 {m : MM} {v : Nat → Int32} : ldI (mMem m v) 164 1 = v 1 := ld_n (by decide) (ld_n (by decide) (ld_n (by decide) (ld_n (by decide) ld_s)))
theorem mM_2 {m : MM} {v : Nat → Int32} : ldI (mMem m v) 164 2 = v 2 := ld_n (by decide) (ld_n (by decide) (ld_n (by decide) ld_s))
theorem mM_3 {m : MM} {v : Nat → Int32} : ldI (mMem m v) 164 3 = v 3 := ld_n (by decide) (ld_n (by decide) ld_s)
theorem mM_4 {m : MM} {v : Nat → Int32} : ldI (mMem m v) 164 4 = v 4 := ld_n (by decide) ld_s
theorem mM_5 {m : MM} {v : Nat → Int32} : ldI (mMem m v) 164 5 = v 5 := ld_s
theorem S_X0_nameAll {g : GG} {m : MM} {Q : Out → Prop} (hF : Fx m) {f : Nat → Int32} (hV : Vf f) (hW : Wd f 5 m) {r h : Nat} {rv : Nat → Int32} (hr : kdl m r = some (6, 0)) (hr4 : r < 160 ∨ 164 < r) (hg : ∀ j, j < 6 → ldI m r j = rv j) (hh0 : rv 0 = nI h) (hh : h < nH f) (k : ∀ m', Off 160 164 m m' → (∀ j, j < 10 → ldL m' 161 j = NmH f h rv j) → Q (.inl none, m')) : Cl g 2 0 0 mX0_nameAll [.ref 159, .ref r] m Q := by
  refine Cl.of rfl (by decide) (Nat.le_of_ble_eq_true rfl) ?_
  show Wp g mX0_nameAll 2 0 0 0 [.ref 159, .ref r, .retAddr 0] [] m Q
  have hVC := hV.1
  have hn6 := hVC.1.2
  refine r_aload_n dX0_nameAll_0 rfl ?_
  refine r_getRc dX0_nameAll_1 fgX0_9 rfl (by exact k_159 hF) (by exact r_159_0 hF) ?_
  refine r_aload_n dX0_nameAll_4 rfl ?_
  refine r_getIc (nI h) dX0_nameAll_5 fgX0_60 rfl (by exact hr) (by exact (hg 0 (by omega)).trans hh0) ?_
  refine r_callV1 (ci := 10) (d1 := 0) (c1 := 0) (n1 := 0) dX0_nameAll_8 mvX0_64 rfl ⟨(Nat.le_of_ble_eq_true rfl), rfl⟩ (Nat.le_of_ble_eq_true rfl) (by exact Nat.le_of_ble_eq_true rfl) (by exact k_5 hF) ?_
  refine S_X10_hullAt (n := nH f) hF (by exact hW.1.1.trans hVC.1.1) hVC.1.2 (fun j hj hjn => ?_) (fun h9 => (nI_spec rfl hh (by omega) h9).elim)
  obtain rfl := (nI_eq (by omega) (by omega)).mp hj
  show Wp g mX0_nameAll _ _ _ 11 _ (_ :: _) _ Q
  dsimp only
  refine sa_2 dX0_nameAll_11 rfl (Nat.le_of_ble_eq_true rfl) ?_
  refine r_aload_n dX0_nameAll_12 rfl ?_
  refine r_ifnonnull 17 dX0_nameAll_13 rfl (fun hnull => ?_) (fun hnull => ?_)
  ·
    refine r_aload_n dX0_nameAll_17 rfl ?_
    refine r_getRc dX0_nameAll_18 fgX0_25 rfl (by exact k_159 hF) (by exact r_159_2 hF) ?_
    refine r_aload_n dX0_nameAll_21 rfl ?_
    refine r_aload_n dX0_nameAll_22 rfl ?_
    refine r_getIc (rv 1) dX0_nameAll_23 fgX0_68 rfl (by exact hr) (by exact hg 1 (by omega)) ?_
    refine r_callV2 (ci := 2) (d1 := 1) (c1 := 0) (n1 := 0) dX0_nameAll_26 mvX0_39 rfl ⟨(Nat.le_of_ble_eq_true rfl), rfl⟩ (Nat.le_of_ble_eq_true rfl) (by exact Nat.le_of_ble_eq_true rfl) (by exact k_164 hF) ?_
    refine S_X2_measure (b := 8 + 3 * h) (e := 9 + 3 * h) (n := nS f h) hF (by exact hu0_k hF (by omega)) (by exact hb0_r hF (by omega)) (by exact hb0_k hF (by omega)) (by exact hd0_r hF (by omega)) (by exact hd0_k hF (by omega)) (by exact (hW.2.1 h hh).2.1.trans (hV.2.1 h hh).2.1) (hV.2.1 h hh).2.2.2.1 (by omega) ?_
    rw [mHull_eq hW hh]
    show Wp g mX0_nameAll _ _ _ 29 _ [] _ Q
    dsimp only
    refine r_aload_n dX0_nameAll_29 rfl ?_
    refine r_getRc dX0_nameAll_30 fgX0_18 rfl (by exact k_159 hF) (by exact r_159_1 hF) ?_
    refine r_iconst (0) dX0_nameAll_33 rfl ?_
    refine r_aload_n dX0_nameAll_34 rfl ?_
    refine r_getRc dX0_nameAll_35 fgX0_25 rfl (by exact k_159 hF) (by exact r_159_2 hF) ?_
    refine r_getIc (mdH f h (rv 1) 0) dX0_nameAll_38 fgX0_71 rfl (by exact k_164 hF) (by exact mM_0 (m := m) (v := mdH f h (rv 1))) ?_
    refine r_i2l dX0_nameAll_41 ?_
    refine r_callV2 (ci := 9) (d1 := 0) (c1 := 0) (n1 := 0) dX0_nameAll_42 mvX0_74 rfl ⟨(Nat.le_of_ble_eq_true rfl), rfl⟩ (Nat.le_of_ble_eq_true rfl) (by exact Nat.le_of_ble_eq_true rfl) (by exact k_160 hF) ?_
    refine S_X9_giveName (by exact hF) (j := 0) (by decide) ?_
    show Wp g mX0_nameAll _ _ _ 45 _ [] _ Q
    dsimp only
    refine r_aload_n dX0_nameAll_45 rfl ?_
    refine r_getRc dX0_nameAll_46 fgX0_18 rfl (by exact k_159 hF) (by exact r_159_1 hF) ?_
    refine r_iconst (1) dX0_nameAll_49 rfl ?_
    refine r_aload_n dX0_nameAll_50 rfl ?_
    refine r_getIc (rv 2) dX0_nameAll_51 fgX0_78 rfl (by exact hr) (by exact (mM_o (m := m) (v := mdH f h (rv 1)) (by omega)).trans (hg 2 (by omega))) ?_
    refine r_i2l dX0_nameAll_54 ?_
    refine r_callV2 (ci := 9) (d1 := 0) (c1 := 0) (n1 := 0) dX0_nameAll_55 mvX0_74 rfl ⟨(Nat.le_of_ble_eq_true rfl), rfl⟩ (Nat.le_of_ble_eq_true rfl) (by exact Nat.le_of_ble_eq_true rfl) (by exact k_160 hF) ?_
    refine S_X9_giveName (by exact hF) (j := 1) (by decide) ?_
    show Wp g mX0_nameAll _ _ _ 58 _ [] _ Q
    dsimp only
    refine r_aload_n dX0_nameAll_58 rfl ?_
    refine r_getRc dX0_nameAll_59 fgX0_18 rfl (by exact k_159 hF) (by exact r_159_1 hF) ?_
    refine r_iconst (2) dX0_nameAll_62 rfl ?_
    refine r_aload_n dX0_nameAll_63 rfl ?_
    refine r_getRc dX0_nameAll_64 fgX0_25 rfl (by exact k_159 hF) (by exact r_159_2 hF) ?_
    refine r_getIc (mdH f h (rv 1) 1) dX0_nameAll_67 fgX0_81 rfl (by exact k_164 hF) (by exact mM_1 (m := m) (v := mdH f h (rv 1))) ?_
    refine r_i2l dX0_nameAll_70 ?_
    refine r_callV2 (ci := 9) (d1 := 0) (c1 := 0) (n1 := 0) dX0_nameAll_71 mvX0_74 rfl ⟨(Nat.le_of_ble_eq_true rfl), rfl⟩ (Nat.le_of_ble_eq_true rfl) (by exact Nat.le_of_ble_eq_true rfl) (by exact k_160 hF) ?_
    refine S_X9_giveName (by exact hF) (j := 2) (by decide) ?_
    show Wp g mX0_nameAll _ _ _ 74 _ [] _ Q
    dsimp only
    refine r_aload_n dX0_nameAll_74 rfl ?_
    refine r_getRc dX0_nameAll_75 fgX0_18 rfl (by exact k_159 hF) (by exact r_159_1 hF) ?_
    refine r_iconst (3) dX0_nameAll_78 rfl ?_
    refine r_aload_n dX0_nameAll_79 rfl ?_
    refine r_getRc dX0_nameAll_80 fgX0_25 rfl (by exact k_159 hF) (by exact r_159_2 hF) ?_
    refine r_getIc (mdH f h (rv 1) 2) dX0_nameAll_83 fgX0_84 rfl (by exact k_164 hF) (by exact mM_2 (m := m) (v := mdH f h (rv 1))) ?_
    refine r_i2l dX0_nameAll_86 ?_
    refine r_callV2 (ci := 9) (d1 := 0) (c1 := 0) (n1 := 0) dX0_nameAll_87 mvX0_74 rfl ⟨(Nat.le_of_ble_eq_true rfl), rfl⟩ (Nat.le_of_ble_eq_true rfl) (by exact Nat.le_of_ble_eq_true rfl) (by exact k_160 hF) ?_
    refine S_X9_giveName (by exact hF) (j := 3) (by decide) ?_
    show Wp g mX0_nameAll _ _ _ 90 _ [] _ Q
    dsimp only
    refine r_aload_n dX0_nameAll_90 rfl ?_
    refine r_getRc dX0_nameAll_91 fgX0_18 rfl (by exact k_159 hF) (by exact r_159_1 hF) ?_
    refine r_iconst (4) dX0_nameAll_94 rfl ?_
    refine r_aload_n dX0_nameAll_95 rfl ?_
    refine r_getRc dX0_nameAll_96 fgX0_25 rfl (by exact k_159 hF) (by exact r_159_2 hF) ?_
    refine r_getIc (mdH f h (rv 1) 3) dX0_nameAll_99 fgX0_87 rfl (by exact k_164 hF) (by exact mM_3 (m := m) (v := mdH f h (rv 1))) ?_
    refine r_i2l dX0_nameAll_102 ?_
    refine r_callV2 (ci := 9) (d1 := 0) (c1 := 0) (n1 := 0) dX0_nameAll_103 mvX0_74 rfl ⟨(Nat.le_of_ble_eq_true rfl), rfl⟩ (Nat.le_of_ble_eq_true rfl) (by exact Nat.le_of_ble_eq_true rfl) (by exact k_160 hF) ?_
    refine S_X9_giveName (by exact hF) (j := 4) (by decide) ?_
    show Wp g mX0_nameAll _ _ _ 106 _ [] _ Q
    dsimp only
    refine r_aload_n dX0_nameAll_106 rfl ?_
    refine r_getRc dX0_nameAll_107 fgX0_18 rfl (by exact k_159 hF) (by exact r_159_1 hF) ?_
    refine r_iconst (5) dX0_nameAll_110 rfl ?_
    refine r_aload_n dX0_nameAll_111 rfl ?_
    refine r_getRc dX0_nameAll_112 fgX0_25 rfl (by exact k_159 hF) (by exact r_159_2 hF) ?_
    refine r_getIc (mdH f h (rv 1) 4) dX0_nameAll_115 fgX0_90 rfl (by exact k_164 hF) (by exact mM_4 (m := m) (v := mdH f h (rv 1))) ?_
    refine r_i2l dX0_nameAll_118 ?_
    refine r_callV2 (ci := 9) (d1 := 0) (c1 := 0) (n1 := 0) dX0_nameAll_119 mvX0_74 rfl ⟨(Nat.le_of_ble_eq_true rfl), rfl⟩ (Nat.le_of_ble_eq_true rfl) (by exact Nat.le_of_ble_eq_true rfl) (by exact k_160 hF) ?_
    refine S_X9_giveName (by exact hF) (j := 5) (by decide) ?_
    show Wp g mX0_nameAll _ _ _ 122 _ [] _ Q
    dsimp only
    refine r_aload_n dX0_nameAll_122 rfl ?_
    refine r_getRc dX0_nameAll_123 fgX0_18 rfl (by exact k_159 hF) (by exact r_159_1 hF) ?_
    refine r_bipush (6) dX0_nameAll_126 rfl ?_
    refine r_ldc2 (100) dX0_nameAll_128 ctX0_93 ?_
    refine r_aload_n dX0_nameAll_131 rfl ?_
    refine r_getIc (rv 2) dX0_nameAll_132 fgX0_78 rfl (by exact hr) (by exact (mM_o (m := m) (v := mdH f h (rv 1)) (by omega)).trans (hg 2 (by omega))) ?_
    refine r_i2l dX0_nameAll_135 ?_
    refine r_lmul dX0_nameAll_136 ?_
    refine r_aload_n dX0_nameAll_137 rfl ?_
    refine r_getIc (rv 2) dX0_nameAll_138 fgX0_78 rfl (by exact hr) (by exact (mM_o (m := m) (v := mdH f h (rv 1)) (by omega)).trans (hg 2 (by omega))) ?_
    refine r_i2l dX0_nameAll_141 ?_
    refine r_lmul dX0_nameAll_142 ?_
    refine r_aload_n dX0_nameAll_143 rfl ?_
    refine r_getRc dX0_nameAll_144 fgX0_25 rfl (by exact k_159 hF) (by exact r_159_2 hF) ?_
    refine r_getIc (mdH f h (rv 1) 0) dX0_nameAll_147 fgX0_71 rfl (by exact k_164 hF) (by exact mM_0 (m := m) (v := mdH f h (rv 1))) ?_
    refine r_i2l dX0_nameAll_150 ?_
    refine r_callN2 (d1 := 0) (c1 := 0) (n1 := 0) dX0_nameAll_151 msX0_95 (Nat.le_of_ble_eq_true rfl) (by exact Nat.le_of_ble_eq_true rfl) ?_
    refine S_over ?_
    show Wp g mX0_nameAll _ _ _ 154 _ (_ :: _) _ Q
    dsimp only
    refine r_callV2 (ci := 9) (d1 := 0) (c1 := 0) (n1 := 0) dX0_nameAll_154 mvX0_74 rfl ⟨(Nat.le_of_ble_eq_true rfl), rfl⟩ (Nat.le_of_ble_eq_true rfl) (by exact Nat.le_of_ble_eq_true rfl) (by exact k_160 hF) ?_
    refine S_X9_giveName (by exact hF) (j := 6) (by decide) ?_
    show Wp g mX0_nameAll _ _ _ 157 _ [] _ Q
    dsimp only
    refine r_aload_n dX0_nameAll_157 rfl ?_
    refine r_getRc dX0_nameAll_158 fgX0_18 rfl (by exact k_159 hF) (by exact r_159_1 hF) ?_
    refine r_bipush (7) dX0_nameAll_161 rfl ?_
    refine r_aload_n dX0_nameAll_163 rfl ?_
    refine r_getIc (rv 4) dX0_nameAll_164 fgX0_99 rfl (by exact hr) (by exact (mM_o (m := m) (v := mdH f h (rv 1)) (by omega)).trans (hg 4 (by omega))) ?_
    refine r_if_eq 174 dX0_nameAll_167 rfl (fun hw => ?_) (fun hw => ?_)
    ·
      refine r_lconst (0) dX0_nameAll_174 rfl ?_
      refine Wp_s (st' := [.long (NmH f h rv 7), .int 7, .ref 160]) (by rw [show NmH f h rv 7 = _ from if_pos hw]) ?_
      refine r_callV2 (ci := 9) (d1 := 0) (c1 := 0) (n1 := 0) dX0_nameAll_175 mvX0_74 rfl ⟨(Nat.le_of_ble_eq_true rfl), rfl⟩ (Nat.le_of_ble_eq_true rfl) (by exact Nat.le_of_ble_eq_true rfl) (by exact k_160 hF) ?_
      refine S_X9_giveName (by exact hF) (j := 7) (by decide) ?_
      show Wp g mX0_nameAll _ _ _ 178 _ [] _ Q
      dsimp only
      refine r_aload_n dX0_nameAll_178 rfl ?_
      refine r_getRc dX0_nameAll_179 fgX0_18 rfl (by exact k_159 hF) (by exact r_159_1 hF) ?_
      refine r_bipush (8) dX0_nameAll_182 rfl ?_
      refine r_aload_n dX0_nameAll_184 rfl ?_
      refine r_aload_n dX0_nameAll_185 rfl ?_
      refine r_getIc (rv 3) dX0_nameAll_186 fgX0_103 rfl (by exact hr) (by exact (mM_o (m := m) (v := mdH f h (rv 1)) (by omega)).trans (hg 3 (by omega))) ?_
      refine r_callV1 (ci := 0) (d1 := 1) (c1 := 0) (n1 := 0) dX0_nameAll_189 mvX0_106 rfl ⟨(Nat.le_of_ble_eq_true rfl), rfl⟩ (Nat.le_of_ble_eq_true rfl) (by exact Nat.le_of_ble_eq_true rfl) (by exact k_159 hF) ?_
      refine S_X0_sideOf (by exact hF) (f := f) hVC (by exact hW.of (fun a h1 h2 k => mM_o (m := m) (v := mdH f h (rv 1)) (by omega)) hVC.1.2) ?_
      show Wp g mX0_nameAll _ _ _ 192 _ (_ :: _) _ Q
      dsimp only
      refine Wp_s (st' := [.long (NmH f h rv 8), .int 8, .ref 160]) (by exact congrArg (fun z => [Value.long (sdV f z (rv 3)), .int 8, .ref 160]) (mM_5 (m := m) (v := mdH f h (rv 1)))) ?_
      refine r_callV2 (ci := 9) (d1 := 0) (c1 := 0) (n1 := 0) dX0_nameAll_192 mvX0_74 rfl ⟨(Nat.le_of_ble_eq_true rfl), rfl⟩ (Nat.le_of_ble_eq_true rfl) (by exact Nat.le_of_ble_eq_true rfl) (by exact k_160 hF) ?_
      refine S_X9_giveName (by exact hF) (j := 8) (by decide) ?_
      show Wp g mX0_nameAll _ _ _ 195 _ [] _ Q
      dsimp only
      refine r_aload_n dX0_nameAll_195 rfl ?_
      refine r_getRc dX0_nameAll_196 fgX0_18 rfl (by exact k_159 hF) (by exact r_159_1 hF) ?_
      refine r_bipush (9) dX0_nameAll_199 rfl ?_
      refine r_aload_n dX0_nameAll_201 rfl ?_
      refine r_getIc (rv 5) dX0_nameAll_202 fgX0_109 rfl (by exact hr) (by exact (mM_o (m := m) (v := mdH f h (rv 1)) (by omega)).trans (hg 5 (by omega))) ?_
      refine r_i2l dX0_nameAll_205 ?_
      refine r_callV2 (ci := 9) (d1 := 0) (c1 := 0) (n1 := 0) dX0_nameAll_206 mvX0_74 rfl ⟨(Nat.le_of_ble_eq_true rfl), rfl⟩ (Nat.le_of_ble_eq_true rfl) (by exact Nat.le_of_ble_eq_true rfl) (by exact k_160 hF) ?_
      refine S_X9_giveName (by exact hF) (j := 9) (by decide) ?_
      show Wp g mX0_nameAll _ _ _ 209 _ [] _ Q
      dsimp only
      refine r_return dX0_nameAll_209 rfl ?_
      exact k (nmL (mMem m (mdH f h (rv 1))) (NmH f h rv) 10) (nmL_off (mMem_off.wd (by omega) (by omega)) 10) (fun j hj => nmL_ld 10 j hj)
    ·
      refine r_lconst (1) dX0_nameAll_170 rfl ?_
      refine r_goto 175 dX0_nameAll_171 rfl ?_
      refine Wp_s (st' := [.long (NmH f h rv 7), .int 7, .ref 160]) (by rw [show NmH f h rv 7 = _ from if_neg hw]) ?_
      refine r_callV2 (ci := 9) (d1 := 0) (c1 := 0) (n1 := 0) dX0_nameAll_175 mvX0_74 rfl ⟨(Nat.le_of_ble_eq_true rfl), rfl⟩ (Nat.le_of_ble_eq_true rfl) (by exact Nat.le_of_ble_eq_true rfl) (by exact k_160 hF) ?_
      refine S_X9_giveName (by exact hF) (j := 7) (by decide) ?_
      show Wp g mX0_nameAll _ _ _ 178 _ [] _ Q
      dsimp only
      refine r_aload_n dX0_nameAll_178 rfl ?_
      refine r_getRc dX0_nameAll_179 fgX0_18 rfl (by exact k_159 hF) (by exact r_159_1 hF) ?_
      refine r_bipush (8) dX0_nameAll_182 rfl ?_
      refine r_aload_n dX0_nameAll_184 rfl ?_
      refine r_aload_n dX0_nameAll_185 rfl ?_
      refine r_getIc (rv 3) dX0_nameAll_186 fgX0_103 rfl (by exact hr) (by exact (mM_o (m := m) (v := mdH f h (rv 1)) (by omega)).trans (hg 3 (by omega))) ?_
      refine r_callV1 (ci := 0) (d1 := 1) (c1 := 0) (n1 := 0) dX0_nameAll_189 mvX0_106 rfl ⟨(Nat.le_of_ble_eq_true rfl), rfl⟩ (Nat.le_of_ble_eq_true rfl) (by exact Nat.le_of_ble_eq_true rfl) (by exact k_159 hF) ?_
      refine S_X0_sideOf (by exact hF) (f := f) hVC (by exact hW.of (fun a h1 h2 k => mM_o (m := m) (v := mdH f h (rv 1)) (by omega)) hVC.1.2) ?_
      show Wp g mX0_nameAll _ _ _ 192 _ (_ :: _) _ Q
      dsimp only
      refine Wp_s (st' := [.long (NmH f h rv 8), .int 8, .ref 160]) (by exact congrArg (fun z => [Value.long (sdV f z (rv 3)), .int 8, .ref 160]) (mM_5 (m := m) (v := mdH f h (rv 1)))) ?_
      refine r_callV2 (ci := 9) (d1 := 0) (c1 := 0) (n1 := 0) dX0_nameAll_192 mvX0_74 rfl ⟨(Nat.le_of_ble_eq_true rfl), rfl⟩ (Nat.le_of_ble_eq_true rfl) (by exact Nat.le_of_ble_eq_true rfl) (by exact k_160 hF) ?_
      refine S_X9_giveName (by exact hF) (j := 8) (by decide) ?_
      show Wp g mX0_nameAll _ _ _ 195 _ [] _ Q
      dsimp only
      refine r_aload_n dX0_nameAll_195 rfl ?_
      refine r_getRc dX0_nameAll_196 fgX0_18 rfl (by exact k_159 hF) (by exact r_159_1 hF) ?_
      refine r_bipush (9) dX0_nameAll_199 rfl ?_
      refine r_aload_n dX0_nameAll_201 rfl ?_
      refine r_getIc (rv 5) dX0_nameAll_202 fgX0_109 rfl (by exact hr) (by exact (mM_o (m := m) (v := mdH f h (rv 1)) (by omega)).trans (hg 5 (by omega))) ?_
      refine r_i2l dX0_nameAll_205 ?_
      refine r_callV2 (ci := 9) (d1 := 0) (c1 := 0) (n1 := 0) dX0_nameAll_206 mvX0_74 rfl ⟨(Nat.le_of_ble_eq_true rfl), rfl⟩ (Nat.le_of_ble_eq_true rfl) (by exact Nat.le_of_ble_eq_true rfl) (by exact k_160 hF) ?_
      refine S_X9_giveName (by exact hF) (j := 9) (by decide) ?_
      show Wp g mX0_nameAll _ _ _ 209 _ [] _ Q
      dsimp only
      refine r_return dX0_nameAll_209 rfl ?_
      exact k (nmL (mMem m (mdH f h (rv 1))) (NmH f h rv) 10) (nmL_off (mMem_off.wd (by omega) (by omega)) 10) (fun j hj => nmL_ld 10 j hj)
  ·
    exact absurd hnull (by omega)
def cut (N : Nat → Int64) : Nat → Int64 := fun i => if i < 10 then N i else 0
def PgOK (st : Nat → Int32) (L : Nat) (T : (Nat → Int64) → Nat → Int64) : Prop := ∀ (nm : Int32 → Int64) (σ : WS), σ.2.1 = 0 → (∀ j, j < 8 → σ.2.2 j = 0) → ∀ j, j < 8 → (exN nm st σ L).2.2 j = T (cut (fun i => nm (nI i))) j
def Pr (T : (Nat → Int64) → Nat → Int64) (p : Nat) (m : MM) : Prop := 284 ≤ p ∧ kdl m p = some (3, 0) ∧ 284 ≤ ldR m p 0 ∧ ∃ L, kdl m (ldR m p 0) = some (13, L) ∧ L < 1000 ∧ PgOK (ldI m (ldR m p 0)) L T
theorem Pr.off {T : (Nat → Int64) → Nat → Int64} {p lo hi : Nat} {m m' : MM} (h : Pr T p m) (o : Off lo hi m m') (h2 : hi < 284) : Pr T p m' := by
  obtain ⟨h1, h3, h4, L, h5, h6, h7⟩ := h
  refine ⟨h1, by rw [kdl_of o.1]; exact h3, by rw [ldR_of o.1]; exact h4, L, by rw [ldR_of o.1, kdl_of o.1]; exact h5, h6, ?_⟩
  rw [ldR_of o.1, show ldI m' (ldR m p 0) = ldI m (ldR m p 0) from funext fun k => (o.2 _ (by omega)).1 k]; exact h7
theorem puF_congr {t u : Nat → Int64} (h : ∀ j, j < 8 → t j = u j) : skF t = skF u ∧ alF t = alF u ∧ puF t = puF u := by
  have e1 : skF t = skF u := by unfold skF; rw [h 0 (by omega), h 4 (by omega)]
  have e2 : alF t = alF u := by unfold alF; rw [e1, h 1 (by omega), h 2 (by omega)]
  exact ⟨e1, e2, by unfold puF; rw [e2, h 3 (by omega)]⟩
theorem cut_nmA {m : MM} {N : Nat → Int64} (h : ∀ j, j < 10 → ldL m 161 j = N j) : cut (fun i => nmA m (nI i)) = cut N := by
  funext i
  unfold cut
  by_cases q : i < 10
  · rw [if_pos q, if_pos q]
    show nmA m (nI i) = N i
    unfold nmA
    rw [if_pos ⟨i32_nlt.mp (nI_pos (by omega)), nI_lt (b := 10) q (by omega)⟩, nI_cl i (by omega)]; exact h i q
  · rw [if_neg q, if_neg q]
theorem wkM_off {m : MM} {σ : WS} : Off 160 163 m (wkM m σ) := ((Off.rf.stRowL (by omega) (by omega)).stRowL (by omega) (by omega)).stI (by omega) (by omega)
/-- a program worked over a memory whose names are N -/
theorem S_work {g : GG} {m : MM} {Q : Out → Prop} (hF : Fx m) {p : Nat} {T : (Nat → Int64) → Nat → Int64} {N : Nat → Int64} (hp : Pr T p m) (hN : ∀ j, j < 10 → ldL m 161 j = N j) (k : ∀ m', Off 160 163 m m' → (∀ j, j < 8 → ldL m' 162 j = T (cut N) j) → Q (.inl none, m')) : Cl g 1 0 0 mX9_work [.ref 160, .ref p] m Q := by
  obtain ⟨h1, h3, h4, L, h5, h6, h7⟩ := hp
  refine S_X9_work hF h3 rfl h5 (by omega) (by omega) ?_
  refine k _ wkM_off (fun j hj => ?_)
  rw [wk_told, h7 (nmA m) (wk0 m) rfl (fun i hi => if_pos hi) j hj, cut_nmA hN]
theorem S_X0_pullOf {g : GG} {m : MM} {Q : Out → Prop} (hF : Fx m) {f : Nat → Int32} (hV : Vf f) (hW : Wd f 5 m) {r h : Nat} {rv : Nat → Int32} (hr : kdl m r = some (6, 0)) (hr4 : r < 160 ∨ 164 < r) (hg : ∀ j, j < 6 → ldI m r j = rv j) (hh0 : rv 0 = nI h) (hh : h < nH f) {p : Nat} {T : (Nat → Int64) → Nat → Int64} (hp : Pr T p m) (k : ∀ m', Off 160 164 m m' → (∀ j, j < 8 → ldL m' 162 j = T (cut (NmH f h rv)) j) → ldL m' 160 4 = skF (T (cut (NmH f h rv))) → ldL m' 160 5 = alF (T (cut (NmH f h rv))) → Q (.inl (some (.long (puF (T (cut (NmH f h rv)))))), m')) : Cl g 3 0 0 mX0_pullOf [.ref 159, .ref p, .ref r] m Q := by
  refine Cl.of rfl (by decide) (Nat.le_of_ble_eq_true rfl) ?_
  show Wp g mX0_pullOf 3 0 0 0 [.ref 159, .ref p, .ref r] [] m Q
  refine r_aload_n dX0_pullOf_0 rfl ?_
  refine r_aload_n dX0_pullOf_1 rfl ?_
  refine r_callV1 (ci := 0) (d1 := 2) (c1 := 0) (n1 := 0) dX0_pullOf_2 mvX0_52 rfl ⟨(Nat.le_of_ble_eq_true rfl), rfl⟩ (Nat.le_of_ble_eq_true rfl) (by exact Nat.le_of_ble_eq_true rfl) (by exact k_159 hF) ?_
  refine S_X0_nameAll hF hV hW hr hr4 hg hh0 hh (fun m1 o1 hN => ?_)
  have hF1 := Fx_of o1.1 hF
  show Wp g mX0_pullOf _ _ _ 5 _ [] _ Q
  refine r_aload_n dX0_pullOf_5 rfl ?_
  refine r_getRc dX0_pullOf_6 fgX0_18 rfl (by exact k_159 hF1) (by exact r_159_1 hF1) ?_
  refine r_aload_n dX0_pullOf_9 rfl ?_
  refine r_callV1 (ci := 9) (d1 := 1) (c1 := 0) (n1 := 0) dX0_pullOf_10 mvX0_127 rfl ⟨(Nat.le_of_ble_eq_true rfl), rfl⟩ (Nat.le_of_ble_eq_true rfl) (by exact Nat.le_of_ble_eq_true rfl) (by exact k_160 hF1) ?_
  refine S_work hF1 (hp.off o1 (by omega)) hN (fun m2 o2 hT => ?_)
  have hF2 := Fx_of o2.1 hF1
  have o3 := o1.tr (o2.wd (by omega) (by omega))
  show Wp g mX0_pullOf _ _ _ 13 _ [] _ Q
  refine r_aload_n dX0_pullOf_13 rfl ?_
  refine r_getRc dX0_pullOf_14 fgX0_18 rfl (by exact k_159 hF2) (by exact r_159_1 hF2) ?_
  refine r_callV0 (ci := 9) (d1 := 2) (c1 := 0) (n1 := 0) dX0_pullOf_17 mvX0_134 rfl ⟨(Nat.le_of_ble_eq_true rfl), rfl⟩ (Nat.le_of_ble_eq_true rfl) (by exact Nat.le_of_ble_eq_true rfl) (by exact k_160 hF2) ?_
  refine S_X9_addUp hF2 ?_
  show Wp g mX0_pullOf _ _ _ 20 _ (_ :: _) _ Q
  refine r_lreturn dX0_pullOf_20 rfl ?_
  obtain ⟨c1, c2, c3⟩ := puF_congr hT
  have k9 := k (auM m2) ((o3.stL (by omega) (by omega)).stL (by omega) (by omega)) (fun j hj => hT j hj) (by rw [← c1]; rfl) (by rw [← c2]; rfl)
  rw [← c3] at k9; exact k9
theorem S_toldBy5 {g : GG} {m : MM} {Q : Out → Prop} (hF : Fx m) {f : Nat → Int32} (hV : Vf f) (hW : Wd f 5 m) {r h : Nat} {rv : Nat → Int32} (hr : kdl m r = some (6, 0)) (hr4 : r < 160 ∨ 164 < r) (hg : ∀ j, j < 6 → ldI m r j = rv j) (hh0 : rv 0 = nI h) (hh : h < nH f) {p : Nat} {T : (Nat → Int64) → Nat → Int64} (hp : Pr T p m) (k : ∀ m', Off 160 164 m m' → (∀ j, j < 8 → ldL m' 162 j = T (cut (NmH f h rv)) j) → Q (.inl (some (.long (capT 5 (T (cut (NmH f h rv)) 5)))), m')) : Cl g 3 0 0 mX0_toldBy [.ref 159, .ref p, .ref r, .int 5] m Q := by
  refine Cl.of rfl (by decide) (Nat.le_of_ble_eq_true rfl) ?_
  show Wp g mX0_toldBy 3 0 0 0 [.ref 159, .ref p, .ref r, .int 5] [] m Q
  refine r_aload_n dX0_toldBy_0 rfl ?_
  refine r_aload_n dX0_toldBy_1 rfl ?_
  refine r_callV1 (ci := 0) (d1 := 2) (c1 := 0) (n1 := 0) dX0_toldBy_2 mvX0_52 rfl ⟨(Nat.le_of_ble_eq_true rfl), rfl⟩ (Nat.le_of_ble_eq_true rfl) (by exact Nat.le_of_ble_eq_true rfl) (by exact k_159 hF) ?_
  refine S_X0_nameAll hF hV hW hr hr4 hg hh0 hh (fun m1 o1 hN => ?_)
  have hF1 := Fx_of o1.1 hF
  show Wp g mX0_toldBy _ _ _ 5 _ [] _ Q
  refine r_aload_n dX0_toldBy_5 rfl ?_
  refine r_getRc dX0_toldBy_6 fgX0_18 rfl (by exact k_159 hF1) (by exact r_159_1 hF1) ?_
  refine r_aload_n dX0_toldBy_9 rfl ?_
  refine r_callV1 (ci := 9) (d1 := 1) (c1 := 0) (n1 := 0) dX0_toldBy_10 mvX0_127 rfl ⟨(Nat.le_of_ble_eq_true rfl), rfl⟩ (Nat.le_of_ble_eq_true rfl) (by exact Nat.le_of_ble_eq_true rfl) (by exact k_160 hF1) ?_
  refine S_work hF1 (hp.off o1 (by omega)) hN (fun m2 o2 hT => ?_)
  have hF2 := Fx_of o2.1 hF1
  have o3 := o1.tr (o2.wd (by omega) (by omega))
  show Wp g mX0_toldBy _ _ _ 13 _ [] _ Q
  refine r_aload_n dX0_toldBy_13 rfl ?_
  refine r_getRc dX0_toldBy_14 fgX0_18 rfl (by exact k_159 hF2) (by exact r_159_1 hF2) ?_
  refine r_iload_n dX0_toldBy_17 rfl ?_
  refine r_callV1 (ci := 9) (d1 := 1) (c1 := 0) (n1 := 0) dX0_toldBy_18 mvX0_131 rfl ⟨(Nat.le_of_ble_eq_true rfl), rfl⟩ (Nat.le_of_ble_eq_true rfl) (by exact Nat.le_of_ble_eq_true rfl) (by exact k_160 hF2) ?_
  refine S_told5 hF2 ?_
  show Wp g mX0_toldBy _ _ _ 21 _ (_ :: _) _ Q
  refine r_lreturn dX0_toldBy_21 rfl ?_
  rw [hT 5 (by omega)]
  exact k m2 o3 hT
theorem S_toldBy6 {g : GG} {m : MM} {Q : Out → Prop} (hF : Fx m) {f : Nat → Int32} (hV : Vf f) (hW : Wd f 5 m) {r h : Nat} {rv : Nat → Int32} (hr : kdl m r = some (6, 0)) (hr4 : r < 160 ∨ 164 < r) (hg : ∀ j, j < 6 → ldI m r j = rv j) (hh0 : rv 0 = nI h) (hh : h < nH f) {p : Nat} {T : (Nat → Int64) → Nat → Int64} (hp : Pr T p m) (k : ∀ m', Off 160 164 m m' → (∀ j, j < 8 → ldL m' 162 j = T (cut (NmH f h rv)) j) → Q (.inl (some (.long (capT 6 (T (cut (NmH f h rv)) 6)))), m')) : Cl g 3 0 0 mX0_toldBy [.ref 159, .ref p, .ref r, .int 6] m Q := by
  refine Cl.of rfl (by decide) (Nat.le_of_ble_eq_true rfl) ?_
  show Wp g mX0_toldBy 3 0 0 0 [.ref 159, .ref p, .ref r, .int 6] [] m Q
  refine r_aload_n dX0_toldBy_0 rfl ?_
  refine r_aload_n dX0_toldBy_1 rfl ?_
  refine r_callV1 (ci := 0) (d1 := 2) (c1 := 0) (n1 := 0) dX0_toldBy_2 mvX0_52 rfl ⟨(Nat.le_of_ble_eq_true rfl), rfl⟩ (Nat.le_of_ble_eq_true rfl) (by exact Nat.le_of_ble_eq_true rfl) (by exact k_159 hF) ?_
  refine S_X0_nameAll hF hV hW hr hr4 hg hh0 hh (fun m1 o1 hN => ?_)
  have hF1 := Fx_of o1.1 hF
  show Wp g mX0_toldBy _ _ _ 5 _ [] _ Q
  refine r_aload_n dX0_toldBy_5 rfl ?_
  refine r_getRc dX0_toldBy_6 fgX0_18 rfl (by exact k_159 hF1) (by exact r_159_1 hF1) ?_
  refine r_aload_n dX0_toldBy_9 rfl ?_
  refine r_callV1 (ci := 9) (d1 := 1) (c1 := 0) (n1 := 0) dX0_toldBy_10 mvX0_127 rfl ⟨(Nat.le_of_ble_eq_true rfl), rfl⟩ (Nat.le_of_ble_eq_true rfl) (by exact Nat.le_of_ble_eq_true rfl) (by exact k_160 hF1) ?_
  refine S_work hF1 (hp.off o1 (by omega)) hN (fun m2 o2 hT => ?_)
  have hF2 := Fx_of o2.1 hF1
  have o3 := o1.tr (o2.wd (by omega) (by omega))
  show Wp g mX0_toldBy _ _ _ 13 _ [] _ Q
  refine r_aload_n dX0_toldBy_13 rfl ?_
  refine r_getRc dX0_toldBy_14 fgX0_18 rfl (by exact k_159 hF2) (by exact r_159_1 hF2) ?_
  refine r_iload_n dX0_toldBy_17 rfl ?_
  refine r_callV1 (ci := 9) (d1 := 1) (c1 := 0) (n1 := 0) dX0_toldBy_18 mvX0_131 rfl ⟨(Nat.le_of_ble_eq_true rfl), rfl⟩ (Nat.le_of_ble_eq_true rfl) (by exact Nat.le_of_ble_eq_true rfl) (by exact k_160 hF2) ?_
  refine S_told6 hF2 ?_
  show Wp g mX0_toldBy _ _ _ 21 _ (_ :: _) _ Q
  refine r_lreturn dX0_toldBy_21 rfl ?_
  rw [hT 6 (by omega)]
  exact k m2 o3 hT
