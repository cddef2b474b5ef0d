theorem L_rwid {g : GG} {Q : Out → Prop} {f : Nat → Int32} {fs : Nat → Nat → Int32} {ic : Nat} {tp : Nat → Int32} {tn : Nat} {pl : Int32} {n1 n2 : Nat} {ts : Nat → (Nat → Int32) × Nat} {T1 T2 : Nat → TL} {m0 : MM} (hV : Vf f) (hK : TKs ts n1 T1 n2 T2) (h0 : ¬ f 0 = 0) {l : Nat} (hl : l < n1) {x : Int32} (k : (∀ v, wdP f (hH f) (T1 l) x v → ∀ m', RJ f fs ic tp tn pl n1 n2 ts m0 0 m' → Q (.inl (some (.int v)), m'))) : ∀ (t i : Nat) (m : MM) (x4 x5 : Value), i + t = 40 → (∀ j, j < i → ¬ lwP f (hH f) (T1 l) x j) → RJ f fs ic tp tn pl n1 n2 ts m0 0 m → Wp g mX12_widest 37 0 0 73 [.ref 167, .int (nI l), .int x, .int (nI (1 + i)), x4, x5] [] m Q := by
  intro t
  induction t with
  | zero =>
    intro i m x4 x5 hi hb hJ
    obtain rfl : i = 40 := by omega
    refine r_iload_n dX12_widest_73 rfl ?_
    refine r_bipush (40) dX12_widest_74 rfl ?_
    refine r_icmp_gt 119 dX12_widest_76 rfl (fun hgt => ?_) (fun hgt => ?_)
    ·
      refine r_iconst (-1) dX12_widest_119 rfl ?_
      refine r_ireturn dX12_widest_120 rfl rfl ?_
      exact k (-1) (Or.inl ⟨rfl, hb⟩) m hJ
    ·
      exact absurd (nI_lt (a := 40) (b := 1 + 40) (by omega) (by omega)) hgt
  | succ t ih =>
    intro i m x4 x5 hi hb hJ
    have ik : iv 1 40 (nI (1 + i)) := by unfold iv; rw [nI_int _ (by omega)]; omega
    refine r_iload_n dX12_widest_73 rfl ?_
    refine r_bipush (40) dX12_widest_74 rfl ?_
    refine r_icmp_gt 119 dX12_widest_76 rfl (fun hgt => ?_) (fun hgt => ?_)
    ·
      refine r_iconst (-1) dX12_widest_119 rfl ?_
      refine r_ireturn dX12_widest_120 rfl rfl ?_
      exact absurd hgt (nI_nlt (a := 40) (b := 1 + i) (by omega) (by omega))
    ·
      refine r_aload_n dX12_widest_79 rfl ?_
      refine r_iload_n dX12_widest_80 rfl ?_
      refine r_iload_n dX12_widest_81 rfl ?_
      refine r_iconst (1) dX12_widest_82 rfl ?_
      refine r_callV3 (ci := 12) (d1 := 36) (c1 := 0) (n1 := 0) dX12_widest_83 mvX12_283 rfl ⟨(Nat.le_of_ble_eq_true rfl), rfl⟩ (Nat.le_of_ble_eq_true rfl) (by exact Nat.le_of_ble_eq_true rfl) (by exact k_167 hJ.F) ?_
      refine S_pullAt1 hV hJ.1 hK h0 hl ik (fun m1 s1 => ?_)
      have hJ1 := hJ.sc s1.1 s1.2
      show Wp g mX12_widest _ _ _ 86 _ (_ :: _) _ Q
      refine sl_4 dX12_widest_86 (by first | rfl | assumption) (Nat.le_of_ble_eq_true rfl) ?_
      refine r_aload_n dX12_widest_88 rfl ?_
      refine r_iload_n dX12_widest_89 rfl ?_
      refine r_iload_n dX12_widest_90 rfl ?_
      refine r_iconst (0) dX12_widest_91 rfl ?_
      refine r_callV3 (ci := 12) (d1 := 36) (c1 := 0) (n1 := 0) dX12_widest_92 mvX12_283 rfl ⟨(Nat.le_of_ble_eq_true rfl), rfl⟩ (Nat.le_of_ble_eq_true rfl) (by exact Nat.le_of_ble_eq_true rfl) (by exact k_167 hJ1.F) ?_
      refine S_pullAt0 hV hJ1.1 hK h0 hl ik (fun m2 s2 => ?_)
      have hJ2 := hJ1.sc s2.1 s2.2
      show Wp g mX12_widest _ _ _ 95 _ (_ :: _) _ Q
      refine r_lload dX12_widest_95 rfl ?_
      refine r_lsub dX12_widest_97 ?_
      refine r_lload dX12_widest_98 rfl ?_
      refine r_iload_n dX12_widest_100 rfl ?_
      refine r_i2l dX12_widest_101 ?_
      refine r_lmul dX12_widest_102 ?_
      refine r_ldc2 (100) dX12_widest_103 ctX12_97 ?_
      refine r_ldiv dX12_widest_106 (by decide) ?_
      refine r_lcmp_gt 113 dX12_widest_107 dX12_widest_108 rfl (fun hc => ?_) (fun hc => ?_)
      ·
        refine ic_3 (1) dX12_widest_113 rfl rfl (Nat.le_of_ble_eq_true rfl) ?_
        refine r_goto 73 dX12_widest_116 rfl ?_
        rw [show nI (1 + i) + 1 = nI (1 + (i + 1)) from nI_1 (1 + i)]
        refine ih (i + 1) m2 _ _ (by omega) (fun j hj => ?_) hJ2
        by_cases q : j = i
        · subst q; exact fun z => i64_nlt.mpr z hc
        · exact hb j (by omega)
      ·
        refine r_iload_n dX12_widest_111 rfl ?_
        refine r_ireturn dX12_widest_112 rfl rfl ?_
        exact k _ (Or.inr ⟨i, by omega, rfl, i64_nlt.mp hc, hb⟩) m2 hJ2
theorem S_X12_widest {g : GG} {m : MM} {Q : Out → Prop} {f : Nat → Int32} {fs : Nat → Nat → Int32} {ic : Nat} {tp : Nat → Int32} {tn : Nat} {pl : Int32} {n1 n2 : Nat} {ts : Nat → (Nat → Int32) × Nat} {T1 T2 : Nat → TL} (hV : Vf f) (hI : RI f fs ic tp tn pl n1 n2 ts m) (hK : TKs ts n1 T1 n2 T2) {l x : Int32} (ke : f 0 = 0 → ∀ m', RJ f fs ic tp tn pl n1 n2 ts m 1 m' → Q (.inl (some (.int 0)), m')) (kl : ¬ f 0 = 0 → (l < 0 ∨ nI n1 ≤ l) → ∀ m', RJ f fs ic tp tn pl n1 n2 ts m 2 m' → Q (.inl (some (.int 0)), m')) (kb : ¬ f 0 = 0 → ∀ j, l = nI j → j < n1 → ¬ (0 ≤ x ∧ x ≤ 99) → ∀ m', RJ f fs ic tp tn pl n1 n2 ts m 3 m' → Q (.inl (some (.int 0)), m')) (k : ¬ f 0 = 0 → ∀ j, l = nI j → j < n1 → (0 ≤ x ∧ x ≤ 99) → ∀ v, wdP f (hH f) (T1 j) x v → ∀ m', RJ f fs ic tp tn pl n1 n2 ts m 0 m' → Q (.inl (some (.int v)), m')) : Cl g 37 0 0 mX12_widest [.ref 167, .int l, .int x] m Q := by
  refine Cl.of rfl (by decide) (Nat.le_of_ble_eq_true rfl) ?_
  show Wp g mX12_widest 37 0 0 0 [.ref 167, .int l, .int x, .retAddr 0, .retAddr 0, .retAddr 0] [] m Q
  refine r_aload_n dX12_widest_0 rfl ?_
  refine r_iconst (0) dX12_widest_1 rfl ?_
  refine r_putI dX12_widest_2 (fpX12_79 _ rfl) rfl (by exact k_167 hI.1) ⟨rfl, rfl⟩ ?_
  have hJ1 := hI.go
  refine r_aload_n dX12_widest_5 rfl ?_
  refine r_aload_n dX12_widest_6 rfl ?_
  refine r_getIc (f 0) dX12_widest_7 fgX12_90 rfl (by exact k_167 hJ1.F) (by exact hJ1.g (by omega) l_0) ?_
  refine r_if_ne 17 dX12_widest_10 rfl (fun hz => ?_) (fun hz => ?_)
  ·
    refine r_iconst (0) dX12_widest_17 rfl ?_
    refine r_iconst (1) dX12_widest_18 rfl ?_
    refine r_callV2 (ci := 12) (d1 := 0) (c1 := 0) (n1 := 0) dX12_widest_19 mvX12_86 rfl ⟨(Nat.le_of_ble_eq_true rfl), rfl⟩ (Nat.le_of_ble_eq_true rfl) (by exact Nat.le_of_ble_eq_true rfl) (by exact k_167 hJ1.F) ?_
    refine S_bad0 hJ1.F hJ1.2.2 ?_
    show Wp g mX12_widest _ _ _ 22 _ (_ :: _) _ Q
    refine r_if_ne 69 dX12_widest_22 rfl (fun hz => absurd hz (by decide)) (fun _ => ?_)
    refine r_aload_n dX12_widest_25 rfl ?_
    refine r_aload_n dX12_widest_26 rfl ?_
    refine r_iload_n dX12_widest_27 rfl ?_
    refine r_callV1 (ci := 12) (d1 := 1) (c1 := 0) (n1 := 0) dX12_widest_28 mvX12_252 rfl ⟨(Nat.le_of_ble_eq_true rfl), rfl⟩ (Nat.le_of_ble_eq_true rfl) (by exact Nat.le_of_ble_eq_true rfl) (by exact k_167 hJ1.F) ?_
    refine S_X12_isLaw hV hJ1 (fun jl hjl hjln => ?_) (fun l0 => ?_)
    ·
      subst hjl
      show Wp g mX12_widest _ _ _ 31 _ (_ :: _) _ Q
      refine r_if_ne 38 dX12_widest_31 rfl (fun _ => ?_) (fun hz => absurd hz (by decide))
      refine r_iconst (0) dX12_widest_38 rfl ?_
      refine r_iconst (2) dX12_widest_39 rfl ?_
      refine r_callV2 (ci := 12) (d1 := 0) (c1 := 0) (n1 := 0) dX12_widest_40 mvX12_86 rfl ⟨(Nat.le_of_ble_eq_true rfl), rfl⟩ (Nat.le_of_ble_eq_true rfl) (by exact Nat.le_of_ble_eq_true rfl) (by exact k_167 hJ1.F) ?_
      refine S_bad0 hJ1.F hJ1.2.2 ?_
      show Wp g mX12_widest _ _ _ 43 _ (_ :: _) _ Q
      refine r_if_ne 69 dX12_widest_43 rfl (fun hz => absurd hz (by decide)) (fun _ => ?_)
      refine r_aload_n dX12_widest_46 rfl ?_
      refine r_iload_n dX12_widest_47 rfl ?_
      refine r_iconst (0) dX12_widest_48 rfl ?_
      refine r_bipush (99) dX12_widest_49 rfl ?_
      refine r_callS3 (d1 := 0) (c1 := 0) (n1 := 0) dX12_widest_51 msX12_82 rfl (Nat.le_of_ble_eq_true rfl) (by exact Nat.le_of_ble_eq_true rfl) ?_
      refine S_X12_in (fun w51a w51b => ?_) (fun w51 => ?_)
      ·
        show Wp g mX12_widest _ _ _ 54 _ (_ :: _) _ Q
        refine r_if_ne 61 dX12_widest_54 rfl (fun _ => ?_) (fun hz => absurd hz (by decide))
        refine r_iconst (0) dX12_widest_61 rfl ?_
        refine r_iconst (3) dX12_widest_62 rfl ?_
        refine r_callV2 (ci := 12) (d1 := 0) (c1 := 0) (n1 := 0) dX12_widest_63 mvX12_86 rfl ⟨(Nat.le_of_ble_eq_true rfl), rfl⟩ (Nat.le_of_ble_eq_true rfl) (by exact Nat.le_of_ble_eq_true rfl) (by exact k_167 hJ1.F) ?_
        refine S_bad0 hJ1.F hJ1.2.2 ?_
        show Wp g mX12_widest _ _ _ 66 _ (_ :: _) _ Q
        refine r_if_eq 71 dX12_widest_66 rfl (fun _ => ?_) (fun hz => absurd hz (by decide))
        refine r_iconst (1) dX12_widest_71 rfl ?_
        refine si_3 dX12_widest_72 rfl (Nat.le_of_ble_eq_true rfl) ?_
        exact L_rwid hV hK hz hjln (fun v hv m9 hJ9 => k hz jl rfl hjln ⟨w51a, w51b⟩ v hv m9 hJ9) 40 0 _ _ _ (by omega) (fun j hj => absurd hj (by omega)) hJ1
      ·
        show Wp g mX12_widest _ _ _ 54 _ (_ :: _) _ Q
        refine r_if_ne 61 dX12_widest_54 rfl (fun hz => absurd hz (by decide)) (fun _ => ?_)
        refine r_iconst (1) dX12_widest_57 rfl ?_
        refine r_goto 62 dX12_widest_58 rfl ?_
        refine r_iconst (3) dX12_widest_62 rfl ?_
        refine r_callV2 (ci := 12) (d1 := 0) (c1 := 0) (n1 := 0) dX12_widest_63 mvX12_86 rfl ⟨(Nat.le_of_ble_eq_true rfl), rfl⟩ (Nat.le_of_ble_eq_true rfl) (by exact Nat.le_of_ble_eq_true rfl) (by exact k_167 hJ1.F) ?_
        refine S_bad1 hJ1.F hJ1.2.2 (by decide) ?_
        have hJ2 := hJ1.bad 3
        show Wp g mX12_widest _ _ _ 66 _ (_ :: _) _ Q
        refine r_if_eq 71 dX12_widest_66 rfl (fun hz => absurd hz (by decide)) (fun _ => ?_)
        refine r_iconst (0) dX12_widest_69 rfl ?_
        refine r_ireturn dX12_widest_70 rfl rfl ?_
        exact kb hz jl rfl hjln w51 _ hJ2
    ·
      show Wp g mX12_widest _ _ _ 31 _ (_ :: _) _ Q
      refine r_if_ne 38 dX12_widest_31 rfl (fun hz => absurd hz (by decide)) (fun _ => ?_)
      refine r_iconst (1) dX12_widest_34 rfl ?_
      refine r_goto 39 dX12_widest_35 rfl ?_
      refine r_iconst (2) dX12_widest_39 rfl ?_
      refine r_callV2 (ci := 12) (d1 := 0) (c1 := 0) (n1 := 0) dX12_widest_40 mvX12_86 rfl ⟨(Nat.le_of_ble_eq_true rfl), rfl⟩ (Nat.le_of_ble_eq_true rfl) (by exact Nat.le_of_ble_eq_true rfl) (by exact k_167 hJ1.F) ?_
      refine S_bad1 hJ1.F hJ1.2.2 (by decide) ?_
      have hJ3 := hJ1.bad 2
      show Wp g mX12_widest _ _ _ 43 _ (_ :: _) _ Q
      refine r_if_ne 69 dX12_widest_43 rfl (fun _ => ?_) (fun hz => absurd hz (by decide))
      refine r_iconst (0) dX12_widest_69 rfl ?_
      refine r_ireturn dX12_widest_70 rfl rfl ?_
      exact kl hz l0 _ hJ3
  ·
    refine r_iconst (1) dX12_widest_13 rfl ?_
    refine r_goto 18 dX12_widest_14 rfl ?_
    refine r_iconst (1) dX12_widest_18 rfl ?_
    refine r_callV2 (ci := 12) (d1 := 0) (c1 := 0) (n1 := 0) dX12_widest_19 mvX12_86 rfl ⟨(Nat.le_of_ble_eq_true rfl), rfl⟩ (Nat.le_of_ble_eq_true rfl) (by exact Nat.le_of_ble_eq_true rfl) (by exact k_167 hJ1.F) ?_
    refine S_bad1 hJ1.F hJ1.2.2 (by decide) ?_
    have hJ4 := hJ1.bad 1
    show Wp g mX12_widest _ _ _ 22 _ (_ :: _) _ Q
    refine r_if_ne 69 dX12_widest_22 rfl (fun _ => ?_) (fun hz => absurd hz (by decide))
    refine r_iconst (0) dX12_widest_69 rfl ?_
    refine r_ireturn dX12_widest_70 rfl rfl ?_
    exact ke hz _ hJ4
theorem rn_r6 {f : Nat → Int32} {r h : Nat} (e : rn f r 0 = nI h) : ∀ j, j < 6 → r6 (nI h) (rn f r 1) (rn f r 2) (rn f r 3) (rn f r 4) (rn f r 5) j = rn f r j
  | 0, _ => e.symm
  | 1, _ => rfl
  | 2, _ => rfl
  | 3, _ => rfl
  | 4, _ => rfl
  | 5, _ => rfl
  | j + 6, h => absurd h (by omega)
theorem L_rfit {g : GG} {Q : Out → Prop} {f : Nat → Int32} {fs : Nat → Nat → Int32} {ic : Nat} {tp : Nat → Int32} {tn : Nat} {pl : Int32} {n1 n2 : Nat} {ts : Nat → (Nat → Int32) × Nat} {T1 T2 : Nat → TL} {m0 : MM} (hV : Vf f) (hK : TKs ts n1 T1 n2 T2) {l : Nat} (hl : l < n1) {o : Int32} (k : (∀ m', RJ f fs ic tp tn pl n1 n2 ts m0 0 m' → Q (.inl (some (.int (if fitN f (T1 l) o (nR f) then 1 else 0))), m'))) : ∀ (t i : Nat) (m : MM) (x4 x5 x6 : Value), i + t = nR f → fitN f (T1 l) o i = true → RJ f fs ic tp tn pl n1 n2 ts m0 0 m → Wp g mX12_isFitting 36 0 0 2 [.ref 167, .int (nI l), .int o, .int (nI i), x4, x5, x6] [] m Q := by
  have h60 := hV.1.2.2.1.2
  have hc2 := hV.1.2.2.1.1
  obtain ⟨st, hx⟩ := hK.1 l hl
  intro t
  induction t with
  | zero =>
    intro i m x4 x5 x6 hi hb hJ
    have hi : i = nR f := by omega
    subst hi
    refine r_iload_n dX12_isFitting_2 rfl ?_
    refine r_aload_n dX12_isFitting_3 rfl ?_
    refine r_getIc (nI (nR f)) dX12_isFitting_4 fgX12_287 rfl (by exact k_167 hJ.F) (by exact (hJ.g (by omega) l_2).trans hc2) ?_
    refine r_icmp_ge 86 dX12_isFitting_7 rfl (fun hge => ?_) (fun hge => ?_)
    ·
      refine r_iconst (1) dX12_isFitting_86 rfl ?_
      refine r_ireturn dX12_isFitting_87 rfl rfl ?_
      have k9 := k m hJ; rw [if_pos hb] at k9; exact k9
    ·
      exact absurd (nI_le (Nat.le_refl _) (by omega)) hge
  | succ t ih =>
    intro i m x4 x5 x6 hi hb hJ
    obtain ⟨⟨⟨h, hh0, hh⟩, v1, v2, v3, v4, v5⟩, v6⟩ := hV.2.2.2.2.1 i (by omega)
    refine r_iload_n dX12_isFitting_2 rfl ?_
    refine r_aload_n dX12_isFitting_3 rfl ?_
    refine r_getIc (nI (nR f)) dX12_isFitting_4 fgX12_287 rfl (by exact k_167 hJ.F) (by exact (hJ.g (by omega) l_2).trans hc2) ?_
    refine r_icmp_ge 86 dX12_isFitting_7 rfl (fun hge => ?_) (fun hge => ?_)
    ·
      refine r_iconst (1) dX12_isFitting_86 rfl ?_
      refine r_ireturn dX12_isFitting_87 rfl rfl ?_
      exact absurd hge (nI_ge (by omega) (by omega))
    ·
      refine r_aload_n dX12_isFitting_10 rfl ?_
      refine r_getRc dX12_isFitting_11 fgX12_58 rfl (by exact k_167 hJ.F) (by exact r_167_32 hJ.F) ?_
      refine r_iload_n dX12_isFitting_14 rfl ?_
      refine r_aaloadc (b := 200 + i) dX12_isFitting_15 ⟨Nat.le_of_ble_eq_true rfl, Nat.le_of_ble_eq_true rfl⟩ (by exact k_199 hJ.F) (vin (by omega) (by omega)) (by rw [nI_cl _ (by omega)]; exact R_run hJ.F (by omega)) ?_
      refine sa_4 dX12_isFitting_16 (by first | rfl | assumption) (Nat.le_of_ble_eq_true rfl) ?_
      refine r_aload_n dX12_isFitting_18 rfl ?_
      refine r_aload dX12_isFitting_19 rfl ?_
      refine r_iconst (0) dX12_isFitting_21 rfl ?_
      refine r_ialoadc (rn f i 0) dX12_isFitting_22 (by exact K_run hJ.F (by omega)) (vin (j := 0) (by omega) (by omega)) (by exact hJ.g (by omega) (l_run (j := 0) (by omega) (by omega))) ?_
      refine r_aload dX12_isFitting_23 rfl ?_
      refine r_iconst (1) dX12_isFitting_25 rfl ?_
      refine r_ialoadc (rn f i 1) dX12_isFitting_26 (by exact K_run hJ.F (by omega)) (vin (j := 1) (by omega) (by omega)) (by exact hJ.g (by omega) (l_run (j := 1) (by omega) (by omega))) ?_
      refine r_aload dX12_isFitting_27 rfl ?_
      refine r_iconst (2) dX12_isFitting_29 rfl ?_
      refine r_ialoadc (rn f i 2) dX12_isFitting_30 (by exact K_run hJ.F (by omega)) (vin (j := 2) (by omega) (by omega)) (by exact hJ.g (by omega) (l_run (j := 2) (by omega) (by omega))) ?_
      refine r_aload dX12_isFitting_31 rfl ?_
      refine r_iconst (3) dX12_isFitting_33 rfl ?_
      refine r_ialoadc (rn f i 3) dX12_isFitting_34 (by exact K_run hJ.F (by omega)) (vin (j := 3) (by omega) (by omega)) (by exact hJ.g (by omega) (l_run (j := 3) (by omega) (by omega))) ?_
      refine r_aload dX12_isFitting_35 rfl ?_
      refine r_iconst (4) dX12_isFitting_37 rfl ?_
      refine r_ialoadc (rn f i 4) dX12_isFitting_38 (by exact K_run hJ.F (by omega)) (vin (j := 4) (by omega) (by omega)) (by exact hJ.g (by omega) (l_run (j := 4) (by omega) (by omega))) ?_
      refine r_aload dX12_isFitting_39 rfl ?_
      refine r_iconst (5) dX12_isFitting_41 rfl ?_
      refine r_ialoadc (rn f i 5) dX12_isFitting_42 (by exact K_run hJ.F (by omega)) (vin (j := 5) (by omega) (by omega)) (by exact hJ.g (by omega) (l_run (j := 5) (by omega) (by omega))) ?_
      refine r_callV6 (ci := 12) (d1 := 1) (c1 := 0) (n1 := 0) dX12_isFitting_43 mvX12_245 rfl ⟨(Nat.le_of_ble_eq_true rfl), rfl⟩ (Nat.le_of_ble_eq_true rfl) (by exact Nat.le_of_ble_eq_true rfl) (by exact k_167 hJ.F) ?_
      rw [hh0]
      refine S_tells hV hJ.1 hh v1 v3 v4 (fun m1 s1 n1x => ?_)
      have hJ1 := hJ.sc s1.1 s1.2
      rw [NmH_congr (rn_r6 hh0)] at n1x
      show Wp g mX12_isFitting _ _ _ 46 _ [] _ Q
      refine r_aload_n dX12_isFitting_46 rfl ?_
      refine r_iload_n dX12_isFitting_47 rfl ?_
      refine r_callV1 (ci := 12) (d1 := 35) (c1 := 0) (n1 := 0) dX12_isFitting_48 mvX12_255 rfl ⟨(Nat.le_of_ble_eq_true rfl), rfl⟩ (Nat.le_of_ble_eq_true rfl) (by exact Nat.le_of_ble_eq_true rfl) (by exact k_167 hJ1.F) ?_
      refine S_pullOf hJ1.1 hl hx n1x (fun m2 s2 n2x t2x => ?_)
      have hJ2 := hJ1.sc s2.1 s2.2
      show Wp g mX12_isFitting _ _ _ 51 _ (_ :: _) _ Q
      refine sl_5 dX12_isFitting_51 (by first | rfl | assumption) (Nat.le_of_ble_eq_true rfl) ?_
      refine r_aload dX12_isFitting_53 rfl ?_
      refine r_bipush (6) dX12_isFitting_55 rfl ?_
      refine r_ialoadc (rn f i 6) dX12_isFitting_57 (by exact K_run hJ2.F (by omega)) (vin (j := 6) (by omega) (by omega)) (by exact hJ2.g (by omega) (l_run (j := 6) (by omega) (by omega))) ?_
      refine r_i2l dX12_isFitting_58 ?_
      refine r_lload dX12_isFitting_59 rfl ?_
      refine r_lsub dX12_isFitting_61 ?_
      refine r_callS1 (d1 := 0) (c1 := 0) (n1 := 0) dX12_isFitting_62 msX12_272 rfl (Nat.le_of_ble_eq_true rfl) (by exact Nat.le_of_ble_eq_true rfl) ?_
      refine S_X12_amount ?_
      show Wp g mX12_isFitting _ _ _ 65 _ (_ :: _) _ Q
      refine r_lload dX12_isFitting_65 rfl ?_
      refine r_iload_n dX12_isFitting_67 rfl ?_
      refine r_i2l dX12_isFitting_68 ?_
      refine r_lmul dX12_isFitting_69 ?_
      refine r_ldc2 (100) dX12_isFitting_70 ctX12_97 ?_
      refine r_ldiv dX12_isFitting_73 (by decide) ?_
      have pe : puF (T1 l (cut (NmH f h (rn f i)))) = PvR f (T1 l) (rn f i) := by unfold PvR PvV; rw [hh0, nI_cl h (by have := hV.1.1.2; omega)]
      have pb := pu_b (T1 l (cut (NmH f h (rn f i))))
      rw [am_dst (by rw [Int32.toInt_toInt64]; have := v6.1; have := v6.2; omega) ⟨pb.1, by have := pb.2; omega⟩, pe]
      refine r_lcmp_le 80 dX12_isFitting_74 dX12_isFitting_75 rfl (fun hc => ?_) (fun hc => ?_)
      ·
        refine ic_3 (1) dX12_isFitting_80 rfl rfl (Nat.le_of_ble_eq_true rfl) ?_
        refine r_goto 2 dX12_isFitting_83 rfl ?_
        rw [nI_1 i]
        exact ih (i + 1) m2 _ _ _ (by omega) (by show (fitN f (T1 l) o i && fitP f (T1 l) o i) = true; rw [hb, Bool.true_and]; exact decide_eq_true hc) hJ2
      ·
        refine r_iconst (0) dX12_isFitting_78 rfl ?_
        refine r_ireturn dX12_isFitting_79 rfl rfl ?_
        have k9 := k m2 hJ2
        rw [fitN_f (i := i) (decide_eq_false (fun q => hc q)) (nR f) (by omega)] at k9; exact k9
theorem S_isFitting {g : GG} {m : MM} {Q : Out → Prop} {f : Nat → Int32} {fs : Nat → Nat → Int32} {ic : Nat} {tp : Nat → Int32} {tn : Nat} {pl : Int32} {n1 n2 : Nat} {ts : Nat → (Nat → Int32) × Nat} {T1 T2 : Nat → TL} {m0 : MM} (hV : Vf f) (hK : TKs ts n1 T1 n2 T2) {l : Nat} (hl : l < n1) {o : Int32} (hJ : RJ f fs ic tp tn pl n1 n2 ts m0 0 m) (k : (∀ m', RJ f fs ic tp tn pl n1 n2 ts m0 0 m' → Q (.inl (some (.int (if fitN f (T1 l) o (nR f) then 1 else 0))), m'))) : Cl g 36 0 0 mX12_isFitting [.ref 167, .int (nI l), .int o] m Q := by
  refine Cl.of rfl (by decide) (Nat.le_of_ble_eq_true rfl) ?_
  show Wp g mX12_isFitting 36 0 0 0 [.ref 167, .int (nI l), .int o, .retAddr 0, .retAddr 0, .retAddr 0, .retAddr 0] [] m Q
  refine r_iconst (0) dX12_isFitting_0 rfl ?_
  refine si_3 dX12_isFitting_1 rfl (Nat.le_of_ble_eq_true rfl) ?_
  exact L_rfit hV hK hl k (nR f) 0 m _ _ _ (by omega) rfl hJ
theorem or0 (x : Int32) : x ||| 0 = x := b_ext (fun i hi => by rw [b_or, b_0, Bool.or_false])
theorem L_rftg {g : GG} {Q : Out → Prop} {f : Nat → Int32} {fs : Nat → Nat → Int32} {ic : Nat} {tp : Nat → Int32} {tn : Nat} {pl : Int32} {n1 n2 : Nat} {ts : Nat → (Nat → Int32) × Nat} {T1 T2 : Nat → TL} {m0 : MM} (hV : Vf f) (hK : TKs ts n1 T1 n2 T2) (h4 : n1 ≤ 4) {o : Int32} (k : (∀ m', RJ f fs ic tp tn pl n1 n2 ts m0 0 m' → Q (.inl (some (.int (bitsF (fitB f T1 o) n1))), m'))) : ∀ (t i : Nat) (m : MM), i + t = n1 → RJ f fs ic tp tn pl n1 n2 ts m0 0 m → Wp g mX12_fitting 37 0 0 4 [.ref 167, .int o, .int (bitsF (fitB f T1 o) i), .int (nI i)] [] m Q := by
  intro t
  induction t with
  | zero =>
    intro i m hi hJ
    have hi : i = n1 := by omega
    subst hi
    refine r_iload_n dX12_fitting_4 rfl ?_
    refine r_aload_n dX12_fitting_5 rfl ?_
    refine r_getIc (nI i) dX12_fitting_6 fgX12_223 rfl (by exact k_167 hJ.F) (by exact hJ.1.2.2.2.2.2.1.1) ?_
    refine r_icmp_ge 37 dX12_fitting_9 rfl (fun hge => ?_) (fun hge => ?_)
    ·
      refine r_iload_n dX12_fitting_37 rfl ?_
      refine r_ireturn dX12_fitting_38 rfl rfl ?_
      exact k m hJ
    ·
      exact absurd (nI_le (Nat.le_refl _) (by omega)) hge
  | succ t ih =>
    intro i m hi hJ
    refine r_iload_n dX12_fitting_4 rfl ?_
    refine r_aload_n dX12_fitting_5 rfl ?_
    refine r_getIc (nI n1) dX12_fitting_6 fgX12_223 rfl (by exact k_167 hJ.F) (by exact hJ.1.2.2.2.2.2.1.1) ?_
    refine r_icmp_ge 37 dX12_fitting_9 rfl (fun hge => ?_) (fun hge => ?_)
    ·
      exact absurd hge (nI_ge (by omega) (by omega))
    ·
      refine r_iload_n dX12_fitting_12 rfl ?_
      refine r_aload_n dX12_fitting_13 rfl ?_
      refine r_iload_n dX12_fitting_14 rfl ?_
      refine r_iload_n dX12_fitting_15 rfl ?_
      refine r_callV2 (ci := 12) (d1 := 36) (c1 := 0) (n1 := 0) dX12_fitting_16 mvX12_294 rfl ⟨(Nat.le_of_ble_eq_true rfl), rfl⟩ (Nat.le_of_ble_eq_true rfl) (by exact Nat.le_of_ble_eq_true rfl) (by exact k_167 hJ.F) ?_
      refine S_isFitting hV hK (l := i) (by omega) hJ (fun m1 hJ1 => ?_)
      show Wp g mX12_fitting _ _ _ 19 _ (_ :: _) _ Q
      refine r_if_eq 28 dX12_fitting_19 rfl (fun hb => ?_) (fun hb => ?_)
      ·
        refine r_iconst (0) dX12_fitting_28 rfl ?_
        refine r_ior dX12_fitting_29 ?_
        refine si_2 dX12_fitting_30 rfl (Nat.le_of_ble_eq_true rfl) ?_
        refine ic_3 (1) dX12_fitting_31 rfl rfl (Nat.le_of_ble_eq_true rfl) ?_
        refine r_goto 4 dX12_fitting_34 rfl ?_
        rw [nI_1 i]
        have L := ih (i + 1) m1 (by omega) hJ1
        have fb : ¬ fitB f T1 o i = true := fun q => by rw [show fitN f (T1 i) o (nR f) = true from q] at hb; exact absurd hb (by decide)
        rw [show bitsF (fitB f T1 o) (i + 1) = bitsF (fitB f T1 o) i from if_neg fb] at L; rw [or0]; exact L
      ·
        refine r_iconst (1) dX12_fitting_22 rfl ?_
        refine r_iload_n dX12_fitting_23 rfl ?_
        refine r_ishl dX12_fitting_24 ?_
        refine r_goto 29 dX12_fitting_25 rfl ?_
        refine r_ior dX12_fitting_29 ?_
        refine si_2 dX12_fitting_30 rfl (Nat.le_of_ble_eq_true rfl) ?_
        refine ic_3 (1) dX12_fitting_31 rfl rfl (Nat.le_of_ble_eq_true rfl) ?_
        refine r_goto 4 dX12_fitting_34 rfl ?_
        rw [nI_1 i]
        have L := ih (i + 1) m1 (by omega) hJ1
        have fb : fitB f T1 o i = true := Classical.byContradiction (fun q => hb (if_neg q))
        rw [show bitsF (fitB f T1 o) (i + 1) = bitsF (fitB f T1 o) i ||| (1 <<< (nI i &&& 31)) from if_pos fb] at L; exact L
theorem S_fitting {g : GG} {m : MM} {Q : Out → Prop} {f : Nat → Int32} {fs : Nat → Nat → Int32} {ic : Nat} {tp : Nat → Int32} {tn : Nat} {pl : Int32} {n1 n2 : Nat} {ts : Nat → (Nat → Int32) × Nat} {T1 T2 : Nat → TL} {m0 : MM} (hV : Vf f) (hK : TKs ts n1 T1 n2 T2) {o : Int32} (hJ : RJ f fs ic tp tn pl n1 n2 ts m0 0 m) (k : (∀ m', RJ f fs ic tp tn pl n1 n2 ts m0 0 m' → Q (.inl (some (.int (bitsF (fitB f T1 o) n1))), m'))) : Cl g 37 0 0 mX12_fitting [.ref 167, .int o] m Q := by
  refine Cl.of rfl (by decide) (Nat.le_of_ble_eq_true rfl) ?_
  show Wp g mX12_fitting 37 0 0 0 [.ref 167, .int o, .retAddr 0, .retAddr 0] [] m Q
  refine r_iconst (0) dX12_fitting_0 rfl ?_
  refine si_2 dX12_fitting_1 rfl (Nat.le_of_ble_eq_true rfl) ?_
  refine r_iconst (0) dX12_fitting_2 rfl ?_
  refine si_3 dX12_fitting_3 rfl (Nat.le_of_ble_eq_true rfl) ?_
  exact L_rftg hV hK hJ.1.2.2.2.2.2.1.2 k n1 0 m (by omega) hJ
theorem S_X12_fits {g : GG} {m : MM} {Q : Out → Prop} {f : Nat → Int32} {fs : Nat → Nat → Int32} {ic : Nat} {tp : Nat → Int32} {tn : Nat} {pl : Int32} {n1 n2 : Nat} {ts : Nat → (Nat → Int32) × Nat} {T1 T2 : Nat → TL} (hV : Vf f) (hI : RI f fs ic tp tn pl n1 n2 ts m) (hK : TKs ts n1 T1 n2 T2) {x : Int32} (kb : ¬ (0 ≤ x ∧ x ≤ 99) → ∀ m', RJ f fs ic tp tn pl n1 n2 ts m 1 m' → Q (.inl (some (.int 0)), m')) (k : (0 ≤ x ∧ x ≤ 99) → ∀ m', RJ f fs ic tp tn pl n1 n2 ts m 0 m' → Q (.inl (some (.int (bitsF (fitB f T1 x) n1))), m')) : Cl g 38 0 0 mX12_fits [.ref 167, .int x] m Q := by
  refine Cl.of rfl (by decide) (Nat.le_of_ble_eq_true rfl) ?_
  show Wp g mX12_fits 38 0 0 0 [.ref 167, .int x] [] m Q
  refine r_aload_n dX12_fits_0 rfl ?_
  refine r_iconst (0) dX12_fits_1 rfl ?_
  refine r_putI dX12_fits_2 (fpX12_79 _ rfl) rfl (by exact k_167 hI.1) ⟨rfl, rfl⟩ ?_
  have hJ1 := hI.go
  refine r_aload_n dX12_fits_5 rfl ?_
  refine r_iload_n dX12_fits_6 rfl ?_
  refine r_iconst (0) dX12_fits_7 rfl ?_
  refine r_bipush (99) dX12_fits_8 rfl ?_
  refine r_callS3 (d1 := 0) (c1 := 0) (n1 := 0) dX12_fits_10 msX12_82 rfl (Nat.le_of_ble_eq_true rfl) (by exact Nat.le_of_ble_eq_true rfl) ?_
  refine S_X12_in (fun w10a w10b => ?_) (fun w10 => ?_)
  ·
    show Wp g mX12_fits _ _ _ 13 _ (_ :: _) _ Q
    refine r_if_ne 20 dX12_fits_13 rfl (fun _ => ?_) (fun hz => absurd hz (by decide))
    refine r_iconst (0) dX12_fits_20 rfl ?_
    refine r_iconst (1) dX12_fits_21 rfl ?_
    refine r_callV2 (ci := 12) (d1 := 0) (c1 := 0) (n1 := 0) dX12_fits_22 mvX12_86 rfl ⟨(Nat.le_of_ble_eq_true rfl), rfl⟩ (Nat.le_of_ble_eq_true rfl) (by exact Nat.le_of_ble_eq_true rfl) (by exact k_167 hJ1.F) ?_
    refine S_bad0 hJ1.F hJ1.2.2 ?_
    show Wp g mX12_fits _ _ _ 25 _ (_ :: _) _ Q
    refine r_if_eq 30 dX12_fits_25 rfl (fun _ => ?_) (fun hz => absurd hz (by decide))
    refine r_aload_n dX12_fits_30 rfl ?_
    refine r_iload_n dX12_fits_31 rfl ?_
    refine r_callV1 (ci := 12) (d1 := 37) (c1 := 0) (n1 := 0) dX12_fits_32 mvX12_297 rfl ⟨(Nat.le_of_ble_eq_true rfl), rfl⟩ (Nat.le_of_ble_eq_true rfl) (by exact Nat.le_of_ble_eq_true rfl) (by exact k_167 hJ1.F) ?_
    refine S_fitting hV hK hJ1 (fun m9 hJ9 => ?_)
    show Wp g mX12_fits _ _ _ 35 _ (_ :: _) _ Q
    refine r_ireturn dX12_fits_35 rfl rfl ?_
    exact k ⟨w10a, w10b⟩ _ hJ9
  ·
    show Wp g mX12_fits _ _ _ 13 _ (_ :: _) _ Q
    refine r_if_ne 20 dX12_fits_13 rfl (fun hz => absurd hz (by decide)) (fun _ => ?_)
    refine r_iconst (1) dX12_fits_16 rfl ?_
    refine r_goto 21 dX12_fits_17 rfl ?_
    refine r_iconst (1) dX12_fits_21 rfl ?_
    refine r_callV2 (ci := 12) (d1 := 0) (c1 := 0) (n1 := 0) dX12_fits_22 mvX12_86 rfl ⟨(Nat.le_of_ble_eq_true rfl), rfl⟩ (Nat.le_of_ble_eq_true rfl) (by exact Nat.le_of_ble_eq_true rfl) (by exact k_167 hJ1.F) ?_
    refine S_bad1 hJ1.F hJ1.2.2 (by decide) ?_
    have hJ2 := hJ1.bad 1
    show Wp g mX12_fits _ _ _ 25 _ (_ :: _) _ Q
    refine r_if_eq 30 dX12_fits_25 rfl (fun hz => absurd hz (by decide)) (fun _ => ?_)
    refine r_iconst (0) dX12_fits_28 rfl ?_
    refine r_ireturn dX12_fits_29 rfl rfl ?_
    exact kb w10 _ hJ2
