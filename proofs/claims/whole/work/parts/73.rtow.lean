theorem b_32767 : ∀ i, i < 32 → bt 32767 i = decide (i < 15) := by decide +kernel
theorem dw_sh (x : Int32) : (x >>> ((16 : Int32) &&& 31)) &&& 32767 = (x.toUInt32 >>> ((16 : Int32).toUInt32 &&& Int32.toUInt32 31)).toInt32 &&& 32767 := b_ext (fun i hi => by
  rw [b_and, b_and, b_32767 i hi, show bt (x >>> ((16 : Int32) &&& 31)) i = _ from b_sshr 16 (by omega) x hi, show bt ((x.toUInt32 >>> ((16 : Int32).toUInt32 &&& Int32.toUInt32 31)).toInt32) i = _ from b_ushr 16 (by omega) x i]
  by_cases c : i < 15
  · rw [if_pos (by omega)]
  · rw [decide_eq_false c, Bool.and_false, Bool.and_false])
theorem wi_mn (x : Int64) : wiN x 0 1000000000 = mnP (if 0 < x then x else 0) := by
  unfold wiN mnP
  by_cases c : x < 0
  · rw [if_pos c, if_neg (c := 0 < x) (fun q => by have a := Int64.lt_iff_toInt_lt.mp c; have b := Int64.lt_iff_toInt_lt.mp q; omega)]; rfl
  · rw [if_neg c]
    by_cases d : 0 < x
    · rw [if_pos d]
    · have e : x = 0 := Int64.toInt_inj.mp (by have a : ¬ x.toInt < (0 : Int64).toInt := fun q => c (Int64.lt_iff_toInt_lt.mpr q); have b : ¬ (0 : Int64).toInt < x.toInt := fun q => d (Int64.lt_iff_toInt_lt.mpr q); omega)
      subst e; rfl
theorem tow_nz {x : Int32} (a : 0 ≤ x) (b : x ≤ 50) : ¬ (2 : Int32) * x + 1 = 0 := by
  have a := Int32.le_iff_toInt_le.mp a
  have b := Int32.le_iff_toInt_le.mp b
  have c1 : (0 : Int32).toInt = 0 := rfl
  have c2 : (50 : Int32).toInt = 50 := rfl
  intro q
  have z := congrArg Int32.toInt q
  rw [Int32.toInt_add, Int32.toInt_mul, show (2 : Int32).toInt = 2 from rfl, show (1 : Int32).toInt = 1 from rfl, Int.bmod_eq_of_le (n := 2 * x.toInt) (by omega) (by omega), Int.bmod_eq_of_le (by omega) (by omega)] at z
  omega
theorem nR_sed {f : Nat → Int32} {v : Int32} : nR (sedF f v) = nR f := by unfold nR sedF; rw [upF_n (by omega) rfl]
theorem S_X12_tow {g : GG} {m : MM} {Q : Out → Prop} {f : Nat → Int32} {fs : Nat → Nat → Int32} {ic : Nat} {tp : Nat → Int32} {tn : Nat} {pl : Int32} {n1 n2 : Nat} {ts : Nat → (Nat → Int32) × Nat} {T1 T2 : Nat → TL} (hV : Vf f) (hI : RI f fs ic tp tn pl n1 n2 ts m) (hK : TKs ts n1 T1 n2 T2) {l x : Int32} (ke : f 0 = 0 → ∀ m', RJ f fs ic tp tn pl n1 n2 ts m 1 m' → Q (.inl (some (.int 0)), m')) (kl : ¬ f 0 = 0 → (l < 0 ∨ nI n1 ≤ l) → ∀ m', RJ f fs ic tp tn pl n1 n2 ts m 2 m' → Q (.inl (some (.int 0)), m')) (kb : ¬ f 0 = 0 → ∀ j, l = nI j → j < n1 → ¬ (0 ≤ x ∧ x ≤ 50) → ∀ m', RJ f fs ic tp tn pl n1 n2 ts m 3 m' → Q (.inl (some (.int 0)), m')) (kf : ¬ f 0 = 0 → ∀ j, l = nI j → j < n1 → (0 ≤ x ∧ x ≤ 50) → nR f = 60 → ∀ m', RJ f fs ic tp tn pl n1 n2 ts m 0 m' → Q (.inl (some (.int (-1))), m')) (k : ¬ f 0 = 0 → ∀ j, l = nI j → j < n1 → (0 ≤ x ∧ x ≤ 50) → nR f < 60 → ∀ m', RJ (runF (sedF f (f 6 * 1103515245 + 12345)) (dwV f (hH f) (T1 j) x)) fs ic tp tn pl n1 n2 ts m 0 m' → Q (.inl (some (.int (nI (nR f)))), m')) : Cl g 36 0 0 mX12_tow [.ref 167, .int l, .int x] m Q := by
  refine Cl.of rfl (by decide) (Nat.le_of_ble_eq_true rfl) ?_
  show Wp g mX12_tow 36 0 0 0 [.ref 167, .int l, .int x, .retAddr 0, .retAddr 0, .retAddr 0] [] m Q
  refine r_aload_n dX12_tow_0 rfl ?_
  refine r_iconst (0) dX12_tow_1 rfl ?_
  refine r_putI dX12_tow_2 (fpX12_79 _ rfl) rfl (by exact k_167 hI.1) ⟨rfl, rfl⟩ ?_
  have hJ1 := hI.go
  refine r_aload_n dX12_tow_5 rfl ?_
  refine r_aload_n dX12_tow_6 rfl ?_
  refine r_getIc (f 0) dX12_tow_7 fgX12_90 rfl (by exact k_167 hJ1.F) (by exact hJ1.g (by omega) l_0) ?_
  refine r_if_ne 17 dX12_tow_10 rfl (fun hz => ?_) (fun hz => ?_)
  ·
    refine r_iconst (0) dX12_tow_17 rfl ?_
    refine r_iconst (1) dX12_tow_18 rfl ?_
    refine r_callV2 (ci := 12) (d1 := 0) (c1 := 0) (n1 := 0) dX12_tow_19 mvX12_86 rfl ⟨(Nat.le_of_ble_eq_true rfl), rfl⟩ (Nat.le_of_ble_eq_true rfl) (by exact Nat.le_of_ble_eq_true rfl) (by exact k_167 hJ1.F) ?_
    refine S_bad0 hJ1.F hJ1.2.2 ?_
    show Wp g mX12_tow _ _ _ 22 _ (_ :: _) _ Q
    refine r_if_ne 69 dX12_tow_22 rfl (fun hz => absurd hz (by decide)) (fun _ => ?_)
    refine r_aload_n dX12_tow_25 rfl ?_
    refine r_aload_n dX12_tow_26 rfl ?_
    refine r_iload_n dX12_tow_27 rfl ?_
    refine r_callV1 (ci := 12) (d1 := 1) (c1 := 0) (n1 := 0) dX12_tow_28 mvX12_252 rfl ⟨(Nat.le_of_ble_eq_true rfl), rfl⟩ (Nat.le_of_ble_eq_true rfl) (by exact Nat.le_of_ble_eq_true rfl) (by exact k_167 hJ1.F) ?_
    refine S_X12_isLaw hV hJ1 (fun jl hjl hjln => ?_) (fun l0 => ?_)
    ·
      subst hjl
      show Wp g mX12_tow _ _ _ 31 _ (_ :: _) _ Q
      refine r_if_ne 38 dX12_tow_31 rfl (fun _ => ?_) (fun hz => absurd hz (by decide))
      refine r_iconst (0) dX12_tow_38 rfl ?_
      refine r_iconst (2) dX12_tow_39 rfl ?_
      refine r_callV2 (ci := 12) (d1 := 0) (c1 := 0) (n1 := 0) dX12_tow_40 mvX12_86 rfl ⟨(Nat.le_of_ble_eq_true rfl), rfl⟩ (Nat.le_of_ble_eq_true rfl) (by exact Nat.le_of_ble_eq_true rfl) (by exact k_167 hJ1.F) ?_
      refine S_bad0 hJ1.F hJ1.2.2 ?_
      show Wp g mX12_tow _ _ _ 43 _ (_ :: _) _ Q
      refine r_if_ne 69 dX12_tow_43 rfl (fun hz => absurd hz (by decide)) (fun _ => ?_)
      refine r_aload_n dX12_tow_46 rfl ?_
      refine r_iload_n dX12_tow_47 rfl ?_
      refine r_iconst (0) dX12_tow_48 rfl ?_
      refine r_bipush (50) dX12_tow_49 rfl ?_
      refine r_callS3 (d1 := 0) (c1 := 0) (n1 := 0) dX12_tow_51 msX12_82 rfl (Nat.le_of_ble_eq_true rfl) (by exact Nat.le_of_ble_eq_true rfl) ?_
      refine S_X12_in (fun w51a w51b => ?_) (fun w51 => ?_)
      ·
        show Wp g mX12_tow _ _ _ 54 _ (_ :: _) _ Q
        refine r_if_ne 61 dX12_tow_54 rfl (fun _ => ?_) (fun hz => absurd hz (by decide))
        refine r_iconst (0) dX12_tow_61 rfl ?_
        refine r_iconst (3) dX12_tow_62 rfl ?_
        refine r_callV2 (ci := 12) (d1 := 0) (c1 := 0) (n1 := 0) dX12_tow_63 mvX12_86 rfl ⟨(Nat.le_of_ble_eq_true rfl), rfl⟩ (Nat.le_of_ble_eq_true rfl) (by exact Nat.le_of_ble_eq_true rfl) (by exact k_167 hJ1.F) ?_
        refine S_bad0 hJ1.F hJ1.2.2 ?_
        show Wp g mX12_tow _ _ _ 66 _ (_ :: _) _ Q
        refine r_if_eq 71 dX12_tow_66 rfl (fun _ => ?_) (fun hz => absurd hz (by decide))
        refine r_aload_n dX12_tow_71 rfl ?_
        refine r_getIc (f 2) dX12_tow_72 fgX12_287 rfl (by exact k_167 hJ1.F) (by exact hJ1.g (by omega) l_2) ?_
        refine r_bipush (60) dX12_tow_75 rfl ?_
        refine r_icmp_ne 82 dX12_tow_77 rfl (fun h6 => ?_) (fun h6 => ?_)
        ·
          have hl6 : nR f < 60 := by have := hV.1.2.2.1.2; exact Nat.lt_of_le_of_ne this (fun q => h6 (by rw [hV.1.2.2.1.1, q]; rfl))
          refine r_aload_n dX12_tow_82 rfl ?_
          refine r_callV0 (ci := 12) (d1 := 2) (c1 := 0) (n1 := 0) dX12_tow_83 mvX12_249 rfl ⟨(Nat.le_of_ble_eq_true rfl), rfl⟩ (Nat.le_of_ble_eq_true rfl) (by exact Nat.le_of_ble_eq_true rfl) (by exact k_167 hJ1.F) ?_
          obtain ⟨st, hx⟩ := hK.1 jl hjln
          refine S_atHand hV hJ1.1 hz (fun m8 s8 n8 => ?_)
          have hJ8 := hJ1.sc s8.1 s8.2
          show Wp g mX12_tow _ _ _ 86 _ [] _ Q
          refine r_aload_n dX12_tow_86 rfl ?_
          refine r_iload_n dX12_tow_87 rfl ?_
          refine r_callV1 (ci := 12) (d1 := 35) (c1 := 0) (n1 := 0) dX12_tow_88 mvX12_255 rfl ⟨(Nat.le_of_ble_eq_true rfl), rfl⟩ (Nat.le_of_ble_eq_true rfl) (by exact Nat.le_of_ble_eq_true rfl) (by exact k_167 hJ8.F) ?_
          refine S_pullOf hJ8.1 hjln hx n8 (fun m9 s9 n9 t9 => ?_)
          have hJ9 := hJ8.sc s9.1 s9.2
          have mw := mn_wi (pu_b (T1 jl (cut (NmH f (hH f) (hd f))))).1
          show Wp g mX12_tow _ _ _ 91 _ (_ :: _) _ Q
          refine r_lconst (0) dX12_tow_91 rfl ?_
          refine r_ldc2 (1000000000) dX12_tow_92 ctX12_229 ?_
          refine r_callS3 (d1 := 0) (c1 := 0) (n1 := 0) dX12_tow_95 msX12_231 rfl (Nat.le_of_ble_eq_true rfl) (by exact Nat.le_of_ble_eq_true rfl) ?_
          refine S_X12_within ?_
          rw [mw.1]
          show Wp g mX12_tow _ _ _ 98 _ (_ :: _) _ Q
          refine sl_3 dX12_tow_98 rfl (Nat.le_of_ble_eq_true rfl) ?_
          refine r_aload_n dX12_tow_99 rfl ?_
          refine r_aload_n dX12_tow_100 rfl ?_
          refine r_getIc (f 6) dX12_tow_101 fgX12_55 rfl (by exact k_167 hJ9.F) (by exact hJ9.g (by omega) l_6) ?_
          refine r_ldcw (1103515245) dX12_tow_104 ctX12_293 ?_
          refine r_imul dX12_tow_107 ?_
          refine r_sipush (12345) dX12_tow_108 rfl ?_
          refine r_iadd dX12_tow_111 ?_
          refine r_putI dX12_tow_112 (fpX12_55 _ rfl) rfl (by exact k_167 hJ9.F) ⟨rfl, rfl⟩ ?_
          have hJ2 := hJ9.up (z := 6) (v := f 6 * 1103515245 + 12345) (by omega) l_6
          refine r_aload_n dX12_tow_115 rfl ?_
          refine r_getIc (f 6 * 1103515245 + 12345) dX12_tow_116 fgX12_55 rfl (by exact k_167 hJ2.F) (by exact ld_s) ?_
          refine r_bipush (16) dX12_tow_119 rfl ?_
          refine r_ishr dX12_tow_121 ?_
          refine r_sipush (32767) dX12_tow_122 rfl ?_
          refine r_iand dX12_tow_125 ?_
          rw [dw_sh]
          refine r_iconst (2) dX12_tow_126 rfl ?_
          refine r_iload_n dX12_tow_127 rfl ?_
          refine r_imul dX12_tow_128 ?_
          refine r_iconst (1) dX12_tow_129 rfl ?_
          refine r_iadd dX12_tow_130 ?_
          refine r_irem dX12_tow_131 (tow_nz w51a w51b) ?_
          refine r_iload_n dX12_tow_132 rfl ?_
          refine r_isub dX12_tow_133 ?_
          refine si_5 dX12_tow_134 (by first | rfl | assumption) (Nat.le_of_ble_eq_true rfl) ?_
          refine r_aload_n dX12_tow_136 rfl ?_
          refine r_lload_n dX12_tow_137 rfl ?_
          refine r_lload_n dX12_tow_138 rfl ?_
          refine r_iload dX12_tow_139 rfl ?_
          refine r_i2l dX12_tow_141 ?_
          refine r_lmul dX12_tow_142 ?_
          refine r_ldc2 (100) dX12_tow_143 ctX12_97 ?_
          refine r_ldiv dX12_tow_146 (by decide) ?_
          refine r_ladd dX12_tow_147 ?_
          refine r_lconst (0) dX12_tow_148 rfl ?_
          refine r_ldc2 (1000000000) dX12_tow_149 ctX12_229 ?_
          refine r_callS3 (d1 := 0) (c1 := 0) (n1 := 0) dX12_tow_152 msX12_231 rfl (Nat.le_of_ble_eq_true rfl) (by exact Nat.le_of_ble_eq_true rfl) ?_
          refine S_X12_within ?_
          rw [wi_mn]
          show Wp g mX12_tow _ _ _ 155 _ (_ :: _) _ Q
          refine r_l2i dX12_tow_155 ?_
          refine r_callV1 (ci := 12) (d1 := 0) (c1 := 0) (n1 := 0) dX12_tow_156 mvX12_290 rfl ⟨(Nat.le_of_ble_eq_true rfl), rfl⟩ (Nat.le_of_ble_eq_true rfl) (by exact Nat.le_of_ble_eq_true rfl) (by exact k_167 hJ2.F) ?_
          refine S_X12_keepsRun (Vf_sed hV) hJ2 (by rw [nR_sed]; exact hl6) (fun m99 hJ99 => ?_)
          rw [nR_sed]
          show Wp g mX12_tow _ _ _ 159 _ (_ :: _) _ Q
          refine r_ireturn dX12_tow_159 rfl rfl ?_
          exact k hz jl rfl hjln ⟨w51a, w51b⟩ hl6 m99 hJ99
        ·
          refine r_iconst (-1) dX12_tow_80 rfl ?_
          refine r_ireturn dX12_tow_81 rfl rfl ?_
          exact kf hz jl rfl hjln ⟨w51a, w51b⟩ ((nI_eq (b := 60) (by have := hV.1.2.2.1.2; omega) (by omega)).mp (hV.1.2.2.1.1.symm.trans h6)) _ hJ1
      ·
        show Wp g mX12_tow _ _ _ 54 _ (_ :: _) _ Q
        refine r_if_ne 61 dX12_tow_54 rfl (fun hz => absurd hz (by decide)) (fun _ => ?_)
        refine r_iconst (1) dX12_tow_57 rfl ?_
        refine r_goto 62 dX12_tow_58 rfl ?_
        refine r_iconst (3) dX12_tow_62 rfl ?_
        refine r_callV2 (ci := 12) (d1 := 0) (c1 := 0) (n1 := 0) dX12_tow_63 mvX12_86 rfl ⟨(Nat.le_of_ble_eq_true rfl), rfl⟩ (Nat.le_of_ble_eq_true rfl) (by exact Nat.le_of_ble_eq_true rfl) (by exact k_167 hJ1.F) ?_
        refine S_bad1 hJ1.F hJ1.2.2 (by decide) ?_
        have hJ3 := hJ1.bad 3
        show Wp g mX12_tow _ _ _ 66 _ (_ :: _) _ Q
        refine r_if_eq 71 dX12_tow_66 rfl (fun hz => absurd hz (by decide)) (fun _ => ?_)
        refine r_iconst (0) dX12_tow_69 rfl ?_
        refine r_ireturn dX12_tow_70 rfl rfl ?_
        exact kb hz jl rfl hjln w51 _ hJ3
    ·
      show Wp g mX12_tow _ _ _ 31 _ (_ :: _) _ Q
      refine r_if_ne 38 dX12_tow_31 rfl (fun hz => absurd hz (by decide)) (fun _ => ?_)
      refine r_iconst (1) dX12_tow_34 rfl ?_
      refine r_goto 39 dX12_tow_35 rfl ?_
      refine r_iconst (2) dX12_tow_39 rfl ?_
      refine r_callV2 (ci := 12) (d1 := 0) (c1 := 0) (n1 := 0) dX12_tow_40 mvX12_86 rfl ⟨(Nat.le_of_ble_eq_true rfl), rfl⟩ (Nat.le_of_ble_eq_true rfl) (by exact Nat.le_of_ble_eq_true rfl) (by exact k_167 hJ1.F) ?_
      refine S_bad1 hJ1.F hJ1.2.2 (by decide) ?_
      have hJ4 := hJ1.bad 2
      show Wp g mX12_tow _ _ _ 43 _ (_ :: _) _ Q
      refine r_if_ne 69 dX12_tow_43 rfl (fun _ => ?_) (fun hz => absurd hz (by decide))
      refine r_iconst (0) dX12_tow_69 rfl ?_
      refine r_ireturn dX12_tow_70 rfl rfl ?_
      exact kl hz l0 _ hJ4
  ·
    refine r_iconst (1) dX12_tow_13 rfl ?_
    refine r_goto 18 dX12_tow_14 rfl ?_
    refine r_iconst (1) dX12_tow_18 rfl ?_
    refine r_callV2 (ci := 12) (d1 := 0) (c1 := 0) (n1 := 0) dX12_tow_19 mvX12_86 rfl ⟨(Nat.le_of_ble_eq_true rfl), rfl⟩ (Nat.le_of_ble_eq_true rfl) (by exact Nat.le_of_ble_eq_true rfl) (by exact k_167 hJ1.F) ?_
    refine S_bad1 hJ1.F hJ1.2.2 (by decide) ?_
    have hJ5 := hJ1.bad 1
    show Wp g mX12_tow _ _ _ 22 _ (_ :: _) _ Q
    refine r_if_ne 69 dX12_tow_22 rfl (fun _ => ?_) (fun hz => absurd hz (by decide))
    refine r_iconst (0) dX12_tow_69 rfl ?_
    refine r_ireturn dX12_tow_70 rfl rfl ?_
    exact ke hz _ hJ5
theorem L_rwire {g : GG} {m : MM} {Q : Out → Prop} {f : Nat → Int32} {fs : Nat → Nat → Int32} {ic : Nat} {tp : Nat → Int32} {tn : Nat} {pl : Int32} {n1 n2 : Nat} {ts : Nat → (Nat → Int32) × Nat} {m0 : MM} (hV : Vf f) (hJ : RJ f fs ic tp tn pl n1 n2 ts m0 0 m)  (kx : Wp g mX12_wire 1 0 0 162 [.ref 167, .long (wrF f (nR f)).1, .retAddr 0, .long (wrF f (nR f)).2.1, .retAddr 0, .int (wrF f (nR f)).2.2.1, .int (wrF f (nR f)).2.2.2, .int (nI (nR f))] [] (m) Q) : ∀ (t i : Nat) , i + t = (nR f) → Wp g mX12_wire 1 0 0 40 [.ref 167, .long (wrF f i).1, .retAddr 0, .long (wrF f i).2.1, .retAddr 0, .int (wrF f i).2.2.1, .int (wrF f i).2.2.2, .int (nI i)] [] (m) Q := by
  intro t
  induction t with
  | zero =>
    intro i  hi 
    have hi : i = (nR f) := by omega
    subst hi
    have hc2 := hV.1.2.2.1.1
    have h60 := hV.1.2.2.1.2
    refine r_iload dX12_wire_40 rfl ?_
    refine r_aload_n dX12_wire_42 rfl ?_
    refine r_getIc (nI (nR f)) dX12_wire_43 fgX12_287 rfl (by exact k_167 hJ.F) (by exact (hJ.g (by omega) l_2).trans hc2) ?_
    refine r_icmp_ge 162 dX12_wire_46 rfl (fun h1 => ?_) (fun h1 => ?_)
    ·
      exact kx 
    ·
      exact absurd (nI_le (Nat.le_refl _) (by have := hV.1.2.2.1.2; omega)) h1
  | succ t ih =>
    intro i  hi 
    have hin : i < (nR f) := by omega
    have hc2 := hV.1.2.2.1.1
    have h60 := hV.1.2.2.1.2
    refine r_iload dX12_wire_40 rfl ?_
    refine r_aload_n dX12_wire_42 rfl ?_
    refine r_getIc (nI (nR f)) dX12_wire_43 fgX12_287 rfl (by exact k_167 hJ.F) (by exact (hJ.g (by omega) l_2).trans hc2) ?_
    refine r_icmp_ge 162 dX12_wire_46 rfl (fun h1 => ?_) (fun h1 => ?_)
    ·
      exact absurd h1 (nI_ge hin (by have := hV.1.2.2.1.2; omega))
    ·
      refine r_aload_n dX12_wire_49 rfl ?_
      refine r_getRc dX12_wire_50 fgX12_58 rfl (by exact k_167 hJ.F) (by exact r_167_32 hJ.F) ?_
      refine r_iload dX12_wire_53 rfl ?_
      refine r_aaloadc (b := 200 + i) dX12_wire_55 ⟨Nat.le_of_ble_eq_true rfl, Nat.le_of_ble_eq_true rfl⟩ (by exact k_199 hJ.F) (vin (by omega) (by omega)) (by rw [nI_cl _ (by omega)]; exact R_run hJ.F (by omega)) ?_
      refine r_iconst (0) dX12_wire_56 rfl ?_
      refine r_ialoadc (rn f i 0) dX12_wire_57 (by exact K_run hJ.F (by omega)) (vin (j := 0) (by omega) (by omega)) (by exact hJ.g (by omega) (l_run (j := 0) (by omega) (by omega))) ?_
      refine r_aload_n dX12_wire_58 rfl ?_
      refine r_getRc dX12_wire_59 fgX12_52 rfl (by exact k_167 hJ.F) (by exact r_167_26 hJ.F) ?_
      refine r_iconst (0) dX12_wire_62 rfl ?_
      refine r_ialoadc (f 27) dX12_wire_63 (by exact k_198 hJ.F) (vin (j := 0) (by omega) (by omega)) (by exact hJ.g (by omega) (l_han (i := 0) (by omega))) ?_
      refine r_icmp_ne 156 dX12_wire_64 rfl (fun ha => ?_) (fun ha => ?_)
      ·
        refine ic_7 (1) dX12_wire_156 rfl rfl (Nat.le_of_ble_eq_true rfl) ?_
        refine r_goto 40 dX12_wire_159 rfl ?_
        have z := ih (i + 1) (by omega)
        rw [show wrF f (i + 1) = _ from if_pos (fun q => ha q.1)] at z
        rw [nI_1 i]
        exact z
      ·
        refine r_aload_n dX12_wire_67 rfl ?_
        refine r_getRc dX12_wire_68 fgX12_58 rfl (by exact k_167 hJ.F) (by exact r_167_32 hJ.F) ?_
        refine r_iload dX12_wire_71 rfl ?_
        refine r_aaloadc (b := 200 + i) dX12_wire_73 ⟨Nat.le_of_ble_eq_true rfl, Nat.le_of_ble_eq_true rfl⟩ (by exact k_199 hJ.F) (vin (by omega) (by omega)) (by rw [nI_cl _ (by omega)]; exact R_run hJ.F (by omega)) ?_
        refine r_iconst (1) dX12_wire_74 rfl ?_
        refine r_ialoadc (rn f i 1) dX12_wire_75 (by exact K_run hJ.F (by omega)) (vin (j := 1) (by omega) (by omega)) (by exact hJ.g (by omega) (l_run (j := 1) (by omega) (by omega))) ?_
        refine r_aload_n dX12_wire_76 rfl ?_
        refine r_getRc dX12_wire_77 fgX12_52 rfl (by exact k_167 hJ.F) (by exact r_167_26 hJ.F) ?_
        refine r_iconst (1) dX12_wire_80 rfl ?_
        refine r_ialoadc (f 28) dX12_wire_81 (by exact k_198 hJ.F) (vin (j := 1) (by omega) (by omega)) (by exact hJ.g (by omega) (l_han (i := 1) (by omega))) ?_
        refine r_icmp_ne 156 dX12_wire_82 rfl (fun hb => ?_) (fun hb => ?_)
        ·
          refine ic_7 (1) dX12_wire_156 rfl rfl (Nat.le_of_ble_eq_true rfl) ?_
          refine r_goto 40 dX12_wire_159 rfl ?_
          have z := ih (i + 1) (by omega)
          rw [show wrF f (i + 1) = _ from if_pos (fun q => hb q.2.1)] at z
          rw [nI_1 i]
          exact z
        ·
          refine r_aload_n dX12_wire_85 rfl ?_
          refine r_getRc dX12_wire_86 fgX12_58 rfl (by exact k_167 hJ.F) (by exact r_167_32 hJ.F) ?_
          refine r_iload dX12_wire_89 rfl ?_
          refine r_aaloadc (b := 200 + i) dX12_wire_91 ⟨Nat.le_of_ble_eq_true rfl, Nat.le_of_ble_eq_true rfl⟩ (by exact k_199 hJ.F) (vin (by omega) (by omega)) (by rw [nI_cl _ (by omega)]; exact R_run hJ.F (by omega)) ?_
          refine r_iconst (2) dX12_wire_92 rfl ?_
          refine r_ialoadc (rn f i 2) dX12_wire_93 (by exact K_run hJ.F (by omega)) (vin (j := 2) (by omega) (by omega)) (by exact hJ.g (by omega) (l_run (j := 2) (by omega) (by omega))) ?_
          refine r_aload_n dX12_wire_94 rfl ?_
          refine r_getRc dX12_wire_95 fgX12_52 rfl (by exact k_167 hJ.F) (by exact r_167_26 hJ.F) ?_
          refine r_iconst (2) dX12_wire_98 rfl ?_
          refine r_ialoadc (f 29) dX12_wire_99 (by exact k_198 hJ.F) (vin (j := 2) (by omega) (by omega)) (by exact hJ.g (by omega) (l_han (i := 2) (by omega))) ?_
          refine r_icmp_eq 106 dX12_wire_100 rfl (fun hc => ?_) (fun hc => ?_)
          ·
            refine r_aload_n dX12_wire_106 rfl ?_
            refine r_getRc dX12_wire_107 fgX12_58 rfl (by exact k_167 hJ.F) (by exact r_167_32 hJ.F) ?_
            refine r_iload dX12_wire_110 rfl ?_
            refine r_aaloadc (b := 200 + i) dX12_wire_112 ⟨Nat.le_of_ble_eq_true rfl, Nat.le_of_ble_eq_true rfl⟩ (by exact k_199 hJ.F) (vin (by omega) (by omega)) (by rw [nI_cl _ (by omega)]; exact R_run hJ.F (by omega)) ?_
            refine r_iconst (4) dX12_wire_113 rfl ?_
            refine r_ialoadc (rn f i 4) dX12_wire_114 (by exact K_run hJ.F (by omega)) (vin (j := 4) (by omega) (by omega)) (by exact hJ.g (by omega) (l_run (j := 4) (by omega) (by omega))) ?_
            refine r_iconst (1) dX12_wire_115 rfl ?_
            refine r_icmp_ne 139 dX12_wire_116 rfl (fun h2 => ?_) (fun h2 => ?_)
            ·
              refine r_lload_n dX12_wire_139 rfl ?_
              refine r_aload_n dX12_wire_140 rfl ?_
              refine r_getRc dX12_wire_141 fgX12_58 rfl (by exact k_167 hJ.F) (by exact r_167_32 hJ.F) ?_
              refine r_iload dX12_wire_144 rfl ?_
              refine r_aaloadc (b := 200 + i) dX12_wire_146 ⟨Nat.le_of_ble_eq_true rfl, Nat.le_of_ble_eq_true rfl⟩ (by exact k_199 hJ.F) (vin (by omega) (by omega)) (by rw [nI_cl _ (by omega)]; exact R_run hJ.F (by omega)) ?_
              refine r_bipush (6) dX12_wire_147 rfl ?_
              refine r_ialoadc (rn f i 6) dX12_wire_149 (by exact K_run hJ.F (by omega)) (vin (j := 6) (by omega) (by omega)) (by exact hJ.g (by omega) (l_run (j := 6) (by omega) (by omega))) ?_
              refine r_i2l dX12_wire_150 ?_
              refine r_ladd dX12_wire_151 ?_
              refine sl_3 dX12_wire_152 (by first | rfl | assumption) (Nat.le_of_ble_eq_true rfl) ?_
              refine ic_6 (1) dX12_wire_153 rfl rfl (Nat.le_of_ble_eq_true rfl) ?_
              refine ic_7 (1) dX12_wire_156 rfl rfl (Nat.le_of_ble_eq_true rfl) ?_
              refine r_goto 40 dX12_wire_159 rfl ?_
              have z := ih (i + 1) (by omega)
              rw [show wrF f (i + 1) = _ from (if_neg (fun q => q ⟨ha, hb, hc⟩)).trans (if_neg h2)] at z
              rw [nI_1 i]
              exact z
            ·
              refine r_lload_n dX12_wire_119 rfl ?_
              refine r_aload_n dX12_wire_120 rfl ?_
              refine r_getRc dX12_wire_121 fgX12_58 rfl (by exact k_167 hJ.F) (by exact r_167_32 hJ.F) ?_
              refine r_iload dX12_wire_124 rfl ?_
              refine r_aaloadc (b := 200 + i) dX12_wire_126 ⟨Nat.le_of_ble_eq_true rfl, Nat.le_of_ble_eq_true rfl⟩ (by exact k_199 hJ.F) (vin (by omega) (by omega)) (by rw [nI_cl _ (by omega)]; exact R_run hJ.F (by omega)) ?_
              refine r_bipush (6) dX12_wire_127 rfl ?_
              refine r_ialoadc (rn f i 6) dX12_wire_129 (by exact K_run hJ.F (by omega)) (vin (j := 6) (by omega) (by omega)) (by exact hJ.g (by omega) (l_run (j := 6) (by omega) (by omega))) ?_
              refine r_i2l dX12_wire_130 ?_
              refine r_ladd dX12_wire_131 ?_
              refine sl_1 dX12_wire_132 rfl (Nat.le_of_ble_eq_true rfl) ?_
              refine ic_5 (1) dX12_wire_133 rfl rfl (Nat.le_of_ble_eq_true rfl) ?_
              refine r_goto 156 dX12_wire_136 rfl ?_
              refine ic_7 (1) dX12_wire_156 rfl rfl (Nat.le_of_ble_eq_true rfl) ?_
              refine r_goto 40 dX12_wire_159 rfl ?_
              have z := ih (i + 1) (by omega)
              rw [show wrF f (i + 1) = _ from (if_neg (fun q => q ⟨ha, hb, hc⟩)).trans (if_pos h2)] at z
              rw [nI_1 i]
              exact z
          ·
            refine r_goto 156 dX12_wire_103 rfl ?_
            refine ic_7 (1) dX12_wire_156 rfl rfl (Nat.le_of_ble_eq_true rfl) ?_
            refine r_goto 40 dX12_wire_159 rfl ?_
            have z := ih (i + 1) (by omega)
            rw [show wrF f (i + 1) = _ from if_pos (fun q => hc q.2.2)] at z
            rw [nI_1 i]
            exact z
theorem S_X12_wire {g : GG} {m : MM} {Q : Out → Prop} {f : Nat → Int32} {fs : Nat → Nat → Int32} {ic : Nat} {tp : Nat → Int32} {tn : Nat} {pl : Int32} {n1 n2 : Nat} {ts : Nat → (Nat → Int32) × Nat} (hV : Vf f) (hI : RI f fs ic tp tn pl n1 n2 ts m) (ke : f 0 = 0 → ∀ m', RJ f fs ic tp tn pl n1 n2 ts m 1 m' → Q (.inl (some (.long 0)), m')) (k : ¬ f 0 = 0 → ∀ m', RJ f fs ic tp tn pl n1 n2 ts m 0 m' → Q (.inl (some (.long (wrV (wrF f (nR f))))), m')) : Cl g 1 0 0 mX12_wire [.ref 167] m Q := by
  refine Cl.of rfl (by decide) (Nat.le_of_ble_eq_true rfl) ?_
  show Wp g mX12_wire 1 0 0 0 [.ref 167, .retAddr 0, .retAddr 0, .retAddr 0, .retAddr 0, .retAddr 0, .retAddr 0, .retAddr 0] [] m Q
  refine r_aload_n dX12_wire_0 rfl ?_
  refine r_iconst (0) dX12_wire_1 rfl ?_
  refine r_putI dX12_wire_2 (fpX12_79 _ rfl) rfl (by exact k_167 hI.1) ⟨rfl, rfl⟩ ?_
  have hJ1 := hI.go
  refine r_aload_n dX12_wire_5 rfl ?_
  refine r_aload_n dX12_wire_6 rfl ?_
  refine r_getIc (f 0) dX12_wire_7 fgX12_90 rfl (by exact k_167 hJ1.F) (by exact hJ1.g (by omega) l_0) ?_
  refine r_if_ne 17 dX12_wire_10 rfl (fun hz => ?_) (fun hz => ?_)
  ·
    refine r_iconst (0) dX12_wire_17 rfl ?_
    refine r_iconst (1) dX12_wire_18 rfl ?_
    refine r_callV2 (ci := 12) (d1 := 0) (c1 := 0) (n1 := 0) dX12_wire_19 mvX12_86 rfl ⟨(Nat.le_of_ble_eq_true rfl), rfl⟩ (Nat.le_of_ble_eq_true rfl) (by exact Nat.le_of_ble_eq_true rfl) (by exact k_167 hJ1.F) ?_
    refine S_bad0 hJ1.F hJ1.2.2 ?_
    show Wp g mX12_wire _ _ _ 22 _ (_ :: _) _ Q
    refine r_if_eq 27 dX12_wire_22 rfl (fun _ => ?_) (fun hz => absurd hz (by decide))
    refine r_lconst (0) dX12_wire_27 rfl ?_
    refine sl_1 dX12_wire_28 rfl (Nat.le_of_ble_eq_true rfl) ?_
    refine r_lconst (0) dX12_wire_29 rfl ?_
    refine sl_3 dX12_wire_30 (by first | rfl | assumption) (Nat.le_of_ble_eq_true rfl) ?_
    refine r_iconst (0) dX12_wire_31 rfl ?_
    refine si_5 dX12_wire_32 (by first | rfl | assumption) (Nat.le_of_ble_eq_true rfl) ?_
    refine r_iconst (0) dX12_wire_34 rfl ?_
    refine si_6 dX12_wire_35 rfl (Nat.le_of_ble_eq_true rfl) ?_
    refine r_iconst (0) dX12_wire_37 rfl ?_
    refine si_7 dX12_wire_38 rfl (Nat.le_of_ble_eq_true rfl) ?_
    refine L_rwire hV hJ1 ?_ (nR f) 0 (by omega)
    refine r_iload dX12_wire_162 rfl ?_
    refine r_if_eq 172 dX12_wire_164 rfl (fun h5 => ?_) (fun h5 => ?_)
    ·
      refine r_lconst (0) dX12_wire_172 rfl ?_
      refine r_goto 187 dX12_wire_173 rfl ?_
      refine r_lreturn dX12_wire_187 rfl ?_
      have k9 := k hz _ hJ1; rw [wrV, if_pos (Or.inl h5)] at k9; exact k9
    ·
      refine r_iload dX12_wire_167 rfl ?_
      refine r_if_ne 176 dX12_wire_169 rfl (fun h6 => ?_) (fun h6 => ?_)
      ·
        refine r_lload_n dX12_wire_176 rfl ?_
        refine r_iload dX12_wire_177 rfl ?_
        refine r_i2l dX12_wire_179 ?_
        refine r_lmul dX12_wire_180 ?_
        refine r_lload_n dX12_wire_181 rfl ?_
        refine r_iload dX12_wire_182 rfl ?_
        refine r_i2l dX12_wire_184 ?_
        refine r_lmul dX12_wire_185 ?_
        refine r_lsub dX12_wire_186 ?_
        refine r_lreturn dX12_wire_187 rfl ?_
        have k9 := k hz _ hJ1; rw [wrV, if_neg (fun q => q.elim h5 h6)] at k9; exact k9
      ·
        refine r_lconst (0) dX12_wire_172 rfl ?_
        refine r_goto 187 dX12_wire_173 rfl ?_
        refine r_lreturn dX12_wire_187 rfl ?_
        have k9 := k hz _ hJ1; rw [wrV, if_pos (Or.inr h6)] at k9; exact k9
  ·
    refine r_iconst (1) dX12_wire_13 rfl ?_
    refine r_goto 18 dX12_wire_14 rfl ?_
    refine r_iconst (1) dX12_wire_18 rfl ?_
    refine r_callV2 (ci := 12) (d1 := 0) (c1 := 0) (n1 := 0) dX12_wire_19 mvX12_86 rfl ⟨(Nat.le_of_ble_eq_true rfl), rfl⟩ (Nat.le_of_ble_eq_true rfl) (by exact Nat.le_of_ble_eq_true rfl) (by exact k_167 hJ1.F) ?_
    refine S_bad1 hJ1.F hJ1.2.2 (by decide) ?_
    have hJ2 := hJ1.bad 1
    show Wp g mX12_wire _ _ _ 22 _ (_ :: _) _ Q
    refine r_if_eq 27 dX12_wire_22 rfl (fun hz => absurd hz (by decide)) (fun _ => ?_)
    refine r_lconst (0) dX12_wire_25 rfl ?_
    refine r_lreturn dX12_wire_26 rfl ?_
    exact ke hz _ hJ2
