theorem S_X12_better {g : GG} {m : MM} {Q : Out → Prop} {f : Nat → Int32} {fs : Nat → Nat → Int32} {ic : Nat} {tp : Nat → Int32} {tn : Nat} {pl : Int32} {n1 n2 : Nat} {ts : Nat → (Nat → Int32) × Nat} {T1 T2 : Nat → TL} (hV : Vf f) (hI : RI f fs ic tp tn pl n1 n2 ts m) (hK : TKs ts n1 T1 n2 T2) {l x : Int32} (ke : f 0 = 0 → ∀ m', RJ f fs ic tp tn pl n1 n2 ts m 1 m' → Q (.inl (some (.long 0)), m')) (kl : ¬ f 0 = 0 → (l < 0 ∨ nI n1 ≤ l) → ∀ m', RJ f fs ic tp tn pl n1 n2 ts m 2 m' → Q (.inl (some (.long 0)), m')) (kb : ¬ f 0 = 0 → ∀ j, l = nI j → j < n1 → ¬ (-1 ≤ x ∧ x ≤ 2) → ∀ m', RJ f fs ic tp tn pl n1 n2 ts m 3 m' → Q (.inl (some (.long 0)), m')) (k0 : ¬ f 0 = 0 → ∀ j, l = nI j → j < n1 → (-1 ≤ x ∧ x ≤ 2) → (sbG f (T1 j)).2.1 = -1 → ∀ m', RJ f fs ic tp tn pl n1 n2 ts m 0 m' → Q (.inl (some (.long (-1))), m')) (k : ¬ f 0 = 0 → ∀ j, l = nI j → j < n1 → (-1 ≤ x ∧ x ≤ 2) → ¬ (sbG f (T1 j)).2.1 = -1 → ∀ m', RJ f fs ic tp tn pl n1 n2 ts m 0 m' → Q (.inl (some (.long (btV (sbG f (T1 j)) x))), m')) : Cl g 37 0 0 mX12_better [.ref 167, .int l, .int x] m Q := by
  refine Cl.of rfl (by decide) (Nat.le_of_ble_eq_true rfl) ?_
  show Wp g mX12_better 37 0 0 0 [.ref 167, .int l, .int x] [] m Q
  refine r_aload_n dX12_better_0 rfl ?_
  refine r_iconst (0) dX12_better_1 rfl ?_
  refine r_putI dX12_better_2 (fpX12_79 _ rfl) rfl (by exact k_167 hI.1) ⟨rfl, rfl⟩ ?_
  have hJ1 := hI.go
  refine r_aload_n dX12_better_5 rfl ?_
  refine r_aload_n dX12_better_6 rfl ?_
  refine r_getIc (f 0) dX12_better_7 fgX12_90 rfl (by exact k_167 hJ1.F) (by exact hJ1.g (by omega) l_0) ?_
  refine r_if_ne 17 dX12_better_10 rfl (fun hz => ?_) (fun hz => ?_)
  ·
    refine r_iconst (0) dX12_better_17 rfl ?_
    refine r_iconst (1) dX12_better_18 rfl ?_
    refine r_callV2 (ci := 12) (d1 := 0) (c1 := 0) (n1 := 0) dX12_better_19 mvX12_86 rfl ⟨(Nat.le_of_ble_eq_true rfl), rfl⟩ (Nat.le_of_ble_eq_true rfl) (by exact Nat.le_of_ble_eq_true rfl) (by exact k_167 hJ1.F) ?_
    refine S_bad0 hJ1.F hJ1.2.2 ?_
    show Wp g mX12_better _ _ _ 22 _ (_ :: _) _ Q
    refine r_if_ne 68 dX12_better_22 rfl (fun hz => absurd hz (by decide)) (fun _ => ?_)
    refine r_aload_n dX12_better_25 rfl ?_
    refine r_aload_n dX12_better_26 rfl ?_
    refine r_iload_n dX12_better_27 rfl ?_
    refine r_callV1 (ci := 12) (d1 := 1) (c1 := 0) (n1 := 0) dX12_better_28 mvX12_252 rfl ⟨(Nat.le_of_ble_eq_true rfl), rfl⟩ (Nat.le_of_ble_eq_true rfl) (by exact Nat.le_of_ble_eq_true rfl) (by exact k_167 hJ1.F) ?_
    refine S_X12_isLaw hV hJ1 (fun jl hjl hjln => ?_) (fun l0 => ?_)
    ·
      subst hjl
      show Wp g mX12_better _ _ _ 31 _ (_ :: _) _ Q
      refine r_if_ne 38 dX12_better_31 rfl (fun _ => ?_) (fun hz => absurd hz (by decide))
      refine r_iconst (0) dX12_better_38 rfl ?_
      refine r_iconst (2) dX12_better_39 rfl ?_
      refine r_callV2 (ci := 12) (d1 := 0) (c1 := 0) (n1 := 0) dX12_better_40 mvX12_86 rfl ⟨(Nat.le_of_ble_eq_true rfl), rfl⟩ (Nat.le_of_ble_eq_true rfl) (by exact Nat.le_of_ble_eq_true rfl) (by exact k_167 hJ1.F) ?_
      refine S_bad0 hJ1.F hJ1.2.2 ?_
      show Wp g mX12_better _ _ _ 43 _ (_ :: _) _ Q
      refine r_if_ne 68 dX12_better_43 rfl (fun hz => absurd hz (by decide)) (fun _ => ?_)
      refine r_aload_n dX12_better_46 rfl ?_
      refine r_iload_n dX12_better_47 rfl ?_
      refine r_iconst (-1) dX12_better_48 rfl ?_
      refine r_iconst (2) dX12_better_49 rfl ?_
      refine r_callS3 (d1 := 0) (c1 := 0) (n1 := 0) dX12_better_50 msX12_82 rfl (Nat.le_of_ble_eq_true rfl) (by exact Nat.le_of_ble_eq_true rfl) ?_
      refine S_X12_in (fun w50a w50b => ?_) (fun w50 => ?_)
      ·
        show Wp g mX12_better _ _ _ 53 _ (_ :: _) _ Q
        refine r_if_ne 60 dX12_better_53 rfl (fun _ => ?_) (fun hz => absurd hz (by decide))
        refine r_iconst (0) dX12_better_60 rfl ?_
        refine r_iconst (3) dX12_better_61 rfl ?_
        refine r_callV2 (ci := 12) (d1 := 0) (c1 := 0) (n1 := 0) dX12_better_62 mvX12_86 rfl ⟨(Nat.le_of_ble_eq_true rfl), rfl⟩ (Nat.le_of_ble_eq_true rfl) (by exact Nat.le_of_ble_eq_true rfl) (by exact k_167 hJ1.F) ?_
        refine S_bad0 hJ1.F hJ1.2.2 ?_
        show Wp g mX12_better _ _ _ 65 _ (_ :: _) _ Q
        refine r_if_eq 70 dX12_better_65 rfl (fun _ => ?_) (fun hz => absurd hz (by decide))
        refine r_aload_n dX12_better_70 rfl ?_
        refine r_iload_n dX12_better_71 rfl ?_
        refine r_callV1 (ci := 12) (d1 := 36) (c1 := 0) (n1 := 0) dX12_better_72 mvX12_333 rfl ⟨(Nat.le_of_ble_eq_true rfl), rfl⟩ (Nat.le_of_ble_eq_true rfl) (by exact Nat.le_of_ble_eq_true rfl) (by exact k_167 hJ1.F) ?_
        refine S_findB hV hK hz hjln hJ1 (fun m9 hJ9 hB9 => ?_)
        show Wp g mX12_better _ _ _ 75 _ [] _ Q
        refine r_aload_n dX12_better_75 rfl ?_
        refine r_getIc ((sbG f (T1 jl)).2.1) dX12_better_76 fgX12_320 rfl (by exact k_167 hJ9.F) (by exact hB9.2.1) ?_
        refine r_iconst (-1) dX12_better_79 rfl ?_
        refine r_icmp_ne 87 dX12_better_80 rfl (fun hk => ?_) (fun hk => ?_)
        ·
          refine r_iload_n dX12_better_87 rfl ?_
          refine r_iconst (-1) dX12_better_88 rfl ?_
          refine r_icmp_ne 99 dX12_better_89 rfl (fun hx1 => ?_) (fun hx1 => ?_)
          ·
            refine r_iload_n dX12_better_99 rfl ?_
            refine r_if_ne 111 dX12_better_100 rfl (fun hx2 => ?_) (fun hx2 => ?_)
            ·
              refine r_iload_n dX12_better_111 rfl ?_
              refine r_iconst (1) dX12_better_112 rfl ?_
              refine r_icmp_ne 124 dX12_better_113 rfl (fun hx3 => ?_) (fun hx3 => ?_)
              ·
                refine r_aload_n dX12_better_124 rfl ?_
                refine r_getIc ((sbG f (T1 jl)).2.2.2) dX12_better_125 fgX12_330 rfl (by exact k_167 hJ9.F) (by exact (hB9.2.2.resolve_left hk).2) ?_
                refine r_i2l dX12_better_128 ?_
                refine r_lreturn dX12_better_129 rfl ?_
                have k9 := k hz jl rfl hjln ⟨w50a, w50b⟩ hk _ hJ9; rw [show btV (sbG f (T1 jl)) x = _ from (if_neg hx1).trans ((if_neg hx2).trans (if_neg hx3))] at k9; exact k9
              ·
                refine r_aload_n dX12_better_116 rfl ?_
                refine r_getIc ((sbG f (T1 jl)).2.2.1) dX12_better_117 fgX12_327 rfl (by exact k_167 hJ9.F) (by exact (hB9.2.2.resolve_left hk).1) ?_
                refine r_i2l dX12_better_120 ?_
                refine r_goto 129 dX12_better_121 rfl ?_
                refine r_lreturn dX12_better_129 rfl ?_
                have k9 := k hz jl rfl hjln ⟨w50a, w50b⟩ hk _ hJ9; rw [show btV (sbG f (T1 jl)) x = _ from (if_neg hx1).trans ((if_neg hx2).trans (if_pos hx3))] at k9; exact k9
            ·
              refine r_aload_n dX12_better_103 rfl ?_
              refine r_getIc ((sbG f (T1 jl)).2.1) dX12_better_104 fgX12_320 rfl (by exact k_167 hJ9.F) (by exact hB9.2.1) ?_
              refine r_i2l dX12_better_107 ?_
              refine r_goto 129 dX12_better_108 rfl ?_
              refine r_lreturn dX12_better_129 rfl ?_
              have k9 := k hz jl rfl hjln ⟨w50a, w50b⟩ hk _ hJ9; rw [show btV (sbG f (T1 jl)) x = _ from (if_neg hx1).trans (if_pos hx2)] at k9; exact k9
          ·
            refine r_aload_n dX12_better_92 rfl ?_
            refine r_getLc ((sbG f (T1 jl)).1) dX12_better_93 fgX12_316 rfl (by exact k_167 hJ9.F) (by exact hB9.1) ?_
            refine r_goto 129 dX12_better_96 rfl ?_
            refine r_lreturn dX12_better_129 rfl ?_
            have k9 := k hz jl rfl hjln ⟨w50a, w50b⟩ hk _ hJ9; rw [show btV (sbG f (T1 jl)) x = _ from if_pos hx1] at k9; exact k9
        ·
          refine r_ldc2 (-1) dX12_better_83 ctX12_336 ?_
          refine r_lreturn dX12_better_86 rfl ?_
          exact k0 hz jl rfl hjln ⟨w50a, w50b⟩ hk _ hJ9
      ·
        show Wp g mX12_better _ _ _ 53 _ (_ :: _) _ Q
        refine r_if_ne 60 dX12_better_53 rfl (fun hz => absurd hz (by decide)) (fun _ => ?_)
        refine r_iconst (1) dX12_better_56 rfl ?_
        refine r_goto 61 dX12_better_57 rfl ?_
        refine r_iconst (3) dX12_better_61 rfl ?_
        refine r_callV2 (ci := 12) (d1 := 0) (c1 := 0) (n1 := 0) dX12_better_62 mvX12_86 rfl ⟨(Nat.le_of_ble_eq_true rfl), rfl⟩ (Nat.le_of_ble_eq_true rfl) (by exact Nat.le_of_ble_eq_true rfl) (by exact k_167 hJ1.F) ?_
        refine S_bad1 hJ1.F hJ1.2.2 (by decide) ?_
        have hJ2 := hJ1.bad 3
        show Wp g mX12_better _ _ _ 65 _ (_ :: _) _ Q
        refine r_if_eq 70 dX12_better_65 rfl (fun hz => absurd hz (by decide)) (fun _ => ?_)
        refine r_lconst (0) dX12_better_68 rfl ?_
        refine r_lreturn dX12_better_69 rfl ?_
        exact kb hz jl rfl hjln w50 _ hJ2
    ·
      show Wp g mX12_better _ _ _ 31 _ (_ :: _) _ Q
      refine r_if_ne 38 dX12_better_31 rfl (fun hz => absurd hz (by decide)) (fun _ => ?_)
      refine r_iconst (1) dX12_better_34 rfl ?_
      refine r_goto 39 dX12_better_35 rfl ?_
      refine r_iconst (2) dX12_better_39 rfl ?_
      refine r_callV2 (ci := 12) (d1 := 0) (c1 := 0) (n1 := 0) dX12_better_40 mvX12_86 rfl ⟨(Nat.le_of_ble_eq_true rfl), rfl⟩ (Nat.le_of_ble_eq_true rfl) (by exact Nat.le_of_ble_eq_true rfl) (by exact k_167 hJ1.F) ?_
      refine S_bad1 hJ1.F hJ1.2.2 (by decide) ?_
      have hJ3 := hJ1.bad 2
      show Wp g mX12_better _ _ _ 43 _ (_ :: _) _ Q
      refine r_if_ne 68 dX12_better_43 rfl (fun _ => ?_) (fun hz => absurd hz (by decide))
      refine r_lconst (0) dX12_better_68 rfl ?_
      refine r_lreturn dX12_better_69 rfl ?_
      exact kl hz l0 _ hJ3
  ·
    refine r_iconst (1) dX12_better_13 rfl ?_
    refine r_goto 18 dX12_better_14 rfl ?_
    refine r_iconst (1) dX12_better_18 rfl ?_
    refine r_callV2 (ci := 12) (d1 := 0) (c1 := 0) (n1 := 0) dX12_better_19 mvX12_86 rfl ⟨(Nat.le_of_ble_eq_true rfl), rfl⟩ (Nat.le_of_ble_eq_true rfl) (by exact Nat.le_of_ble_eq_true rfl) (by exact k_167 hJ1.F) ?_
    refine S_bad1 hJ1.F hJ1.2.2 (by decide) ?_
    have hJ4 := hJ1.bad 1
    show Wp g mX12_better _ _ _ 22 _ (_ :: _) _ Q
    refine r_if_ne 68 dX12_better_22 rfl (fun _ => ?_) (fun hz => absurd hz (by decide))
    refine r_lconst (0) dX12_better_68 rfl ?_
    refine r_lreturn dX12_better_69 rfl ?_
    exact ke hz _ hJ4
theorem L_rlin {g : GG} {Q : Out → Prop} {fs : Nat → Nat → Int32} {ic : Nat} {tp : Nat → Int32} {tn : Nat} {pl : Int32} {n1 n2 : Nat} {ts : Nat → (Nat → Int32) × Nat} {T1 T2 : Nat → TL} {m0 : MM} (hK : TKs ts n1 T1 n2 T2) {l N : Nat} (hl : l < n1) (hN : N ≤ 20) : ∀ (t i : Nat) (f : Nat → Int32) (m : MM), Vf f → RJ f fs ic tp tn pl n1 n2 ts m0 0 m → ¬ f 0 = 0 → i + t = N → (∀ m', RJ (lnF (T1 l) t f).2 fs ic tp tn pl n1 n2 ts m0 0 m' → Q (.inl (some (.int (nI (i + (lnF (T1 l) t f).1)))), m')) → Wp g mX12_lines 37 0 0 73 [.ref 167, .int (nI l), .int (nI N), .int (nI i)] [] m Q := by
  intro t
  induction t with
  | zero =>
    intro i f m hV hJ hne hi k
    obtain rfl : i = N := by omega
    refine r_iload_n dX12_lines_73 rfl ?_
    refine r_iload_n dX12_lines_74 rfl ?_
    refine r_icmp_ge 117 dX12_lines_75 rfl (fun hge => ?_) (fun hge => ?_)
    ·
      refine r_iload_n dX12_lines_117 rfl ?_
      refine r_ireturn dX12_lines_118 rfl rfl ?_
      exact k m hJ
    ·
      exact absurd (nI_le (Nat.le_refl _) (by omega)) hge
  | succ t ih =>
    intro i f m hV hJ hne hi k
    have hx := hH_of hV hne
    have h6 := hV.1.1.2
    have h12 := (hV.2.1 _ hx.2).2.2.2.1
    refine r_iload_n dX12_lines_73 rfl ?_
    refine r_iload_n dX12_lines_74 rfl ?_
    refine r_icmp_ge 117 dX12_lines_75 rfl (fun hge => ?_) (fun hge => ?_)
    ·
      refine r_iload_n dX12_lines_117 rfl ?_
      refine r_ireturn dX12_lines_118 rfl rfl ?_
      exact absurd hge (nI_ge (by omega) (by omega))
    ·
      refine r_aload_n dX12_lines_78 rfl ?_
      refine r_iload_n dX12_lines_79 rfl ?_
      refine r_callV1 (ci := 12) (d1 := 36) (c1 := 0) (n1 := 0) dX12_lines_80 mvX12_333 rfl ⟨(Nat.le_of_ble_eq_true rfl), rfl⟩ (Nat.le_of_ble_eq_true rfl) (by exact Nat.le_of_ble_eq_true rfl) (by exact k_167 hJ.F) ?_
      refine S_findB hV hK hne hl hJ (fun m1 hJ1 hB => ?_)
      show Wp g mX12_lines _ _ _ 83 _ [] _ Q
      refine r_aload_n dX12_lines_83 rfl ?_
      refine r_getIc ((sbG f (T1 l)).2.1) dX12_lines_84 fgX12_320 rfl (by exact k_167 hJ1.F) (by exact hB.2.1) ?_
      refine r_iconst (-1) dX12_lines_87 rfl ?_
      refine r_icmp_ne 93 dX12_lines_88 rfl (fun hs => ?_) (fun hs => ?_)
      ·
        obtain ⟨K, a, b, hK2, hI1, hI2, q1, q2, q3, hXF⟩ := sbG_ok hs
        refine r_aload_n dX12_lines_93 rfl ?_
        refine r_aload_n dX12_lines_94 rfl ?_
        refine r_getIc (nI K) dX12_lines_95 fgX12_320 rfl (by exact k_167 hJ1.F) (by exact hB.2.1.trans q1) ?_
        refine r_aload_n dX12_lines_98 rfl ?_
        refine r_getIc (nI a) dX12_lines_99 fgX12_327 rfl (by exact k_167 hJ1.F) (by exact (hB.2.2.resolve_left hs).1.trans q2) ?_
        refine r_aload_n dX12_lines_102 rfl ?_
        refine r_getIc (nI b) dX12_lines_103 fgX12_330 rfl (by exact k_167 hJ1.F) (by exact (hB.2.2.resolve_left hs).2.trans q3) ?_
        refine r_iconst (1) dX12_lines_106 rfl ?_
        refine r_callV4 (ci := 12) (d1 := 1) (c1 := 0) (n1 := 0) dX12_lines_107 mvX12_323 rfl ⟨(Nat.le_of_ble_eq_true rfl), rfl⟩ (Nat.le_of_ble_eq_true rfl) (by exact Nat.le_of_ble_eq_true rfl) (by exact k_167 hJ1.F) ?_
        refine S_chgp hV hx.1 hx.2 hI1 hI2 hXF.1 hK2 hJ1 (fun hX m2 hJ2 b2 => ?_) (fun hX => absurd hXF hX)
        have hV2 := Vf_xh hV hx.2 hI1 hI2 hXF
        show Wp g mX12_lines _ _ _ 110 _ (_ :: _) _ Q
        refine r_pop dX12_lines_110 rfl ?_
        refine ic_3 (1) dX12_lines_111 rfl rfl (Nat.le_of_ble_eq_true rfl) ?_
        refine r_goto 73 dX12_lines_114 rfl ?_
        rw [nI_1 i]
        have eg : exG f (hH f) (sbG f (T1 l)) = xf f (hb (hH f) K) a b := by unfold exG; rw [q1, q2, q3, nI_cl K (by omega), nI_cl a (by omega), nI_cl b (by omega)]
        rw [lnF_1 hs, eg] at k
        refine ih (i + 1) _ m2 hV2 hJ2 (by rw [xh_o (by omega) (by omega) (by omega) (by omega)]; exact hne) (by omega) (fun m' hJ9 => ?_)
        have k9 := k m' hJ9
        rw [show i + ((lnF (T1 l) t (xf f (hb (hH f) K) a b)).1 + 1) = i + 1 + (lnF (T1 l) t (xf f (hb (hH f) K) a b)).1 from by omega] at k9; exact k9
      ·
        refine r_iload_n dX12_lines_91 rfl ?_
        refine r_ireturn dX12_lines_92 rfl rfl ?_
        rw [lnF_0 hs] at k; exact k m1 hJ1
theorem S_X12_lines {g : GG} {m : MM} {Q : Out → Prop} {f : Nat → Int32} {fs : Nat → Nat → Int32} {ic : Nat} {tp : Nat → Int32} {tn : Nat} {pl : Int32} {n1 n2 : Nat} {ts : Nat → (Nat → Int32) × Nat} {T1 T2 : Nat → TL} (hV : Vf f) (hI : RI f fs ic tp tn pl n1 n2 ts m) (hK : TKs ts n1 T1 n2 T2) {l x : Int32} (ke : f 0 = 0 → ∀ m', RJ f fs ic tp tn pl n1 n2 ts m 1 m' → Q (.inl (some (.int 0)), m')) (kl : ¬ f 0 = 0 → (l < 0 ∨ nI n1 ≤ l) → ∀ m', RJ f fs ic tp tn pl n1 n2 ts m 2 m' → Q (.inl (some (.int 0)), m')) (kb : ¬ f 0 = 0 → ∀ j, l = nI j → j < n1 → ¬ (0 ≤ x ∧ x ≤ 20) → ∀ m', RJ f fs ic tp tn pl n1 n2 ts m 3 m' → Q (.inl (some (.int 0)), m')) (k : ¬ f 0 = 0 → ∀ j, l = nI j → j < n1 → ∀ N, N ≤ 20 → x = nI N → ∀ m', RJ (lnF (T1 j) N f).2 fs ic tp tn pl n1 n2 ts m 0 m' → Q (.inl (some (.int (nI (lnF (T1 j) N f).1))), m')) : Cl g 37 0 0 mX12_lines [.ref 167, .int l, .int x] m Q := by
  refine Cl.of rfl (by decide) (Nat.le_of_ble_eq_true rfl) ?_
  show Wp g mX12_lines 37 0 0 0 [.ref 167, .int l, .int x, .retAddr 0] [] m Q
  refine r_aload_n dX12_lines_0 rfl ?_
  refine r_iconst (0) dX12_lines_1 rfl ?_
  refine r_putI dX12_lines_2 (fpX12_79 _ rfl) rfl (by exact k_167 hI.1) ⟨rfl, rfl⟩ ?_
  have hJ1 := hI.go
  refine r_aload_n dX12_lines_5 rfl ?_
  refine r_aload_n dX12_lines_6 rfl ?_
  refine r_getIc (f 0) dX12_lines_7 fgX12_90 rfl (by exact k_167 hJ1.F) (by exact hJ1.g (by omega) l_0) ?_
  refine r_if_ne 17 dX12_lines_10 rfl (fun hz => ?_) (fun hz => ?_)
  ·
    refine r_iconst (0) dX12_lines_17 rfl ?_
    refine r_iconst (1) dX12_lines_18 rfl ?_
    refine r_callV2 (ci := 12) (d1 := 0) (c1 := 0) (n1 := 0) dX12_lines_19 mvX12_86 rfl ⟨(Nat.le_of_ble_eq_true rfl), rfl⟩ (Nat.le_of_ble_eq_true rfl) (by exact Nat.le_of_ble_eq_true rfl) (by exact k_167 hJ1.F) ?_
    refine S_bad0 hJ1.F hJ1.2.2 ?_
    show Wp g mX12_lines _ _ _ 22 _ (_ :: _) _ Q
    refine r_if_ne 69 dX12_lines_22 rfl (fun hz => absurd hz (by decide)) (fun _ => ?_)
    refine r_aload_n dX12_lines_25 rfl ?_
    refine r_aload_n dX12_lines_26 rfl ?_
    refine r_iload_n dX12_lines_27 rfl ?_
    refine r_callV1 (ci := 12) (d1 := 1) (c1 := 0) (n1 := 0) dX12_lines_28 mvX12_252 rfl ⟨(Nat.le_of_ble_eq_true rfl), rfl⟩ (Nat.le_of_ble_eq_true rfl) (by exact Nat.le_of_ble_eq_true rfl) (by exact k_167 hJ1.F) ?_
    refine S_X12_isLaw hV hJ1 (fun jl hjl hjln => ?_) (fun l0 => ?_)
    ·
      subst hjl
      show Wp g mX12_lines _ _ _ 31 _ (_ :: _) _ Q
      refine r_if_ne 38 dX12_lines_31 rfl (fun _ => ?_) (fun hz => absurd hz (by decide))
      refine r_iconst (0) dX12_lines_38 rfl ?_
      refine r_iconst (2) dX12_lines_39 rfl ?_
      refine r_callV2 (ci := 12) (d1 := 0) (c1 := 0) (n1 := 0) dX12_lines_40 mvX12_86 rfl ⟨(Nat.le_of_ble_eq_true rfl), rfl⟩ (Nat.le_of_ble_eq_true rfl) (by exact Nat.le_of_ble_eq_true rfl) (by exact k_167 hJ1.F) ?_
      refine S_bad0 hJ1.F hJ1.2.2 ?_
      show Wp g mX12_lines _ _ _ 43 _ (_ :: _) _ Q
      refine r_if_ne 69 dX12_lines_43 rfl (fun hz => absurd hz (by decide)) (fun _ => ?_)
      refine r_aload_n dX12_lines_46 rfl ?_
      refine r_iload_n dX12_lines_47 rfl ?_
      refine r_iconst (0) dX12_lines_48 rfl ?_
      refine r_bipush (20) dX12_lines_49 rfl ?_
      refine r_callS3 (d1 := 0) (c1 := 0) (n1 := 0) dX12_lines_51 msX12_82 rfl (Nat.le_of_ble_eq_true rfl) (by exact Nat.le_of_ble_eq_true rfl) ?_
      refine S_X12_in (fun w51a w51b => ?_) (fun w51 => ?_)
      ·
        show Wp g mX12_lines _ _ _ 54 _ (_ :: _) _ Q
        refine r_if_ne 61 dX12_lines_54 rfl (fun _ => ?_) (fun hz => absurd hz (by decide))
        refine r_iconst (0) dX12_lines_61 rfl ?_
        refine r_iconst (3) dX12_lines_62 rfl ?_
        refine r_callV2 (ci := 12) (d1 := 0) (c1 := 0) (n1 := 0) dX12_lines_63 mvX12_86 rfl ⟨(Nat.le_of_ble_eq_true rfl), rfl⟩ (Nat.le_of_ble_eq_true rfl) (by exact Nat.le_of_ble_eq_true rfl) (by exact k_167 hJ1.F) ?_
        refine S_bad0 hJ1.F hJ1.2.2 ?_
        show Wp g mX12_lines _ _ _ 66 _ (_ :: _) _ Q
        refine r_if_eq 71 dX12_lines_66 rfl (fun _ => ?_) (fun hz => absurd hz (by decide))
        refine r_iconst (0) dX12_lines_71 rfl ?_
        refine si_3 dX12_lines_72 rfl (Nat.le_of_ble_eq_true rfl) ?_
        obtain ⟨N, hN, rfl⟩ := i32_small 20 (by omega) w51a w51b
        exact L_rlin hK hjln hN N 0 f _ hV hJ1 hz (by omega) (fun m' h9 => by have k9 := k hz jl rfl hjln N hN rfl m' h9; rw [Nat.zero_add]; exact k9)
      ·
        show Wp g mX12_lines _ _ _ 54 _ (_ :: _) _ Q
        refine r_if_ne 61 dX12_lines_54 rfl (fun hz => absurd hz (by decide)) (fun _ => ?_)
        refine r_iconst (1) dX12_lines_57 rfl ?_
        refine r_goto 62 dX12_lines_58 rfl ?_
        refine r_iconst (3) dX12_lines_62 rfl ?_
        refine r_callV2 (ci := 12) (d1 := 0) (c1 := 0) (n1 := 0) dX12_lines_63 mvX12_86 rfl ⟨(Nat.le_of_ble_eq_true rfl), rfl⟩ (Nat.le_of_ble_eq_true rfl) (by exact Nat.le_of_ble_eq_true rfl) (by exact k_167 hJ1.F) ?_
        refine S_bad1 hJ1.F hJ1.2.2 (by decide) ?_
        have hJ2 := hJ1.bad 3
        show Wp g mX12_lines _ _ _ 66 _ (_ :: _) _ Q
        refine r_if_eq 71 dX12_lines_66 rfl (fun hz => absurd hz (by decide)) (fun _ => ?_)
        refine r_iconst (0) dX12_lines_69 rfl ?_
        refine r_ireturn dX12_lines_70 rfl rfl ?_
        exact kb hz jl rfl hjln w51 _ hJ2
    ·
      show Wp g mX12_lines _ _ _ 31 _ (_ :: _) _ Q
      refine r_if_ne 38 dX12_lines_31 rfl (fun hz => absurd hz (by decide)) (fun _ => ?_)
      refine r_iconst (1) dX12_lines_34 rfl ?_
      refine r_goto 39 dX12_lines_35 rfl ?_
      refine r_iconst (2) dX12_lines_39 rfl ?_
      refine r_callV2 (ci := 12) (d1 := 0) (c1 := 0) (n1 := 0) dX12_lines_40 mvX12_86 rfl ⟨(Nat.le_of_ble_eq_true rfl), rfl⟩ (Nat.le_of_ble_eq_true rfl) (by exact Nat.le_of_ble_eq_true rfl) (by exact k_167 hJ1.F) ?_
      refine S_bad1 hJ1.F hJ1.2.2 (by decide) ?_
      have hJ3 := hJ1.bad 2
      show Wp g mX12_lines _ _ _ 43 _ (_ :: _) _ Q
      refine r_if_ne 69 dX12_lines_43 rfl (fun _ => ?_) (fun hz => absurd hz (by decide))
      refine r_iconst (0) dX12_lines_69 rfl ?_
      refine r_ireturn dX12_lines_70 rfl rfl ?_
      exact kl hz l0 _ hJ3
  ·
    refine r_iconst (1) dX12_lines_13 rfl ?_
    refine r_goto 18 dX12_lines_14 rfl ?_
    refine r_iconst (1) dX12_lines_18 rfl ?_
    refine r_callV2 (ci := 12) (d1 := 0) (c1 := 0) (n1 := 0) dX12_lines_19 mvX12_86 rfl ⟨(Nat.le_of_ble_eq_true rfl), rfl⟩ (Nat.le_of_ble_eq_true rfl) (by exact Nat.le_of_ble_eq_true rfl) (by exact k_167 hJ1.F) ?_
    refine S_bad1 hJ1.F hJ1.2.2 (by decide) ?_
    have hJ4 := hJ1.bad 1
    show Wp g mX12_lines _ _ _ 22 _ (_ :: _) _ Q
    refine r_if_ne 69 dX12_lines_22 rfl (fun _ => ?_) (fun hz => absurd hz (by decide))
    refine r_iconst (0) dX12_lines_69 rfl ?_
    refine r_ireturn dX12_lines_70 rfl rfl ?_
    exact ke hz _ hJ4
theorem i32_s1 (a b : Int32) : a - (b + 1) = a - 1 - b := by
  refine Int32.toBitVec_inj.mp ?_
  simp only [Int32.toBitVec_add, Int32.toBitVec_sub]
  rw [BitVec.sub_eq_add_neg, BitVec.sub_eq_add_neg, BitVec.sub_eq_add_neg, BitVec.neg_add, BitVec.sub_eq_add_neg]
  ac_rfl
theorem L_oft {g : GG} {m : MM} {Q : Out → Prop} {M i : Nat} (hi : i < 900) (k : Q (.inl (some (.int (omF M i))), m)) : ∀ (t j : Nat), j + t = i → Wp g mX12_often 0 0 0 4 [.int (nI M), .int (nI i), .int (omF M j), .int (nI (1 + j))] [] m Q := by
  intro t
  induction t with
  | zero =>
    intro j hj
    obtain rfl : j = i := by omega
    refine r_iload_n dX12_often_4 rfl ?_
    refine r_iload_n dX12_often_5 rfl ?_
    refine r_icmp_gt 23 dX12_often_6 rfl (fun hgt => ?_) (fun hgt => ?_)
    ·
      refine r_iload_n dX12_often_23 rfl ?_
      refine r_ireturn dX12_often_24 rfl rfl ?_
      exact k
    ·
      exact absurd (nI_lt (a := j) (b := 1 + j) (by omega) (by omega)) hgt
  | succ t ih =>
    intro j hj
    refine r_iload_n dX12_often_4 rfl ?_
    refine r_iload_n dX12_often_5 rfl ?_
    refine r_icmp_gt 23 dX12_often_6 rfl (fun hgt => ?_) (fun hgt => ?_)
    ·
      exact absurd hgt (nI_nlt (a := i) (b := 1 + j) (by omega) (by omega))
    ·
      refine r_iload_n dX12_often_9 rfl ?_
      refine r_iload_n dX12_often_10 rfl ?_
      refine r_iload_n dX12_often_11 rfl ?_
      refine r_isub dX12_often_12 ?_
      refine r_imul dX12_often_13 ?_
      refine r_iload_n dX12_often_14 rfl ?_
      refine r_idiv dX12_often_15 (by rw [Nat.add_comm, ← nI_1 j]; exact nI_s0 (by omega)) ?_
      refine si_2 dX12_often_16 rfl (Nat.le_of_ble_eq_true rfl) ?_
      refine ic_3 (1) dX12_often_17 rfl rfl (Nat.le_of_ble_eq_true rfl) ?_
      refine r_goto 4 dX12_often_20 rfl ?_
      have L := ih (j + 1) (by omega)
      rw [show omF M (j + 1) = omF M j * (nI M - nI (1 + j)) / nI (1 + j) from by rw [Nat.add_comm 1 j, ← nI_1 j, i32_s1]; rfl] at L
      rw [nI_1 (1 + j)]; exact L
theorem S_often {g : GG} {m : MM} {Q : Out → Prop} {M i : Nat} (hi : i < 900) (k : Q (.inl (some (.int (omF M i))), m)) : Cl g 0 0 0 mX12_often [.int (nI M), .int (nI i)] m Q := by
  refine Cl.of rfl (by decide) (Nat.le_of_ble_eq_true rfl) ?_
  show Wp g mX12_often 0 0 0 0 [.int (nI M), .int (nI i), .retAddr 0, .retAddr 0] [] m Q
  refine r_iconst (1) dX12_often_0 rfl ?_
  refine si_2 dX12_often_1 rfl (Nat.le_of_ble_eq_true rfl) ?_
  refine r_iconst (1) dX12_often_2 rfl ?_
  refine si_3 dX12_often_3 rfl (Nat.le_of_ble_eq_true rfl) ?_
  exact L_oft hi k i 0 (by omega)
theorem L_rmean {g : GG} {m : MM} {Q : Out → Prop} {f : Nat → Int32} {fs : Nat → Nat → Int32} {ic : Nat} {tp : Nat → Int32} {tn : Nat} {pl : Int32} {n1 n2 : Nat} {ts : Nat → (Nat → Int32) × Nat} {m0 : MM} (hV : Vf f) (hJ : RJ f fs ic tp tn pl n1 n2 ts m0 0 m) {t0 : Int32}  (kx : ∀ (x4 : Value), Wp g mX12_mean 1 0 0 88 [.ref 167, .int t0, .int (msF t0 (miS f) (nM f) (nM f)), .int (nI (nM f)), x4] [] (m) Q) : ∀ (t i : Nat) (x4 : Value), i + t = (nM f) → Wp g mX12_mean 1 0 0 21 [.ref 167, .int t0, .int (msF t0 (miS f) (nM f) i), .int (nI i), x4] [] (m) Q := by
  intro t
  induction t with
  | zero =>
    intro i x4 hi 
    have hi : i = (nM f) := by omega
    subst hi
    have hc4 := hV.1.2.2.2.2.1.1
    have h6 := hV.1.2.2.2.2.1.2
    refine r_iload_n dX12_mean_21 rfl ?_
    refine r_aload_n dX12_mean_22 rfl ?_
    refine r_getIc (nI (nM f)) dX12_mean_23 fgX12_338 rfl (by exact k_167 hJ.F) (by exact (hJ.g (by omega) l_4).trans hc4) ?_
    refine r_icmp_ge 88 dX12_mean_26 rfl (fun h1 => ?_) (fun h1 => ?_)
    ·
      exact kx _
    ·
      exact absurd (nI_le (Nat.le_refl _) (by omega)) h1
  | succ t ih =>
    intro i x4 hi 
    have hin : i < (nM f) := by omega
    have hc4 := hV.1.2.2.2.2.1.1
    have h6 := hV.1.2.2.2.2.1.2
    refine r_iload_n dX12_mean_21 rfl ?_
    refine r_aload_n dX12_mean_22 rfl ?_
    refine r_getIc (nI (nM f)) dX12_mean_23 fgX12_338 rfl (by exact k_167 hJ.F) (by exact (hJ.g (by omega) l_4).trans hc4) ?_
    refine r_icmp_ge 88 dX12_mean_26 rfl (fun h1 => ?_) (fun h1 => ?_)
    ·
      exact absurd h1 (nI_ge hin (by omega))
    ·
      refine r_aload_n dX12_mean_29 rfl ?_
      refine r_getIc (nI (nM f)) dX12_mean_30 fgX12_338 rfl (by exact k_167 hJ.F) (by exact (hJ.g (by omega) l_4).trans hc4) ?_
      refine r_iload_n dX12_mean_33 rfl ?_
      refine r_callS2 (d1 := 0) (c1 := 0) (n1 := 0) dX12_mean_34 msX12_342 rfl (Nat.le_of_ble_eq_true rfl) (by exact Nat.le_of_ble_eq_true rfl) ?_
      refine S_often (by omega) ?_
      show Wp g mX12_mean _ _ _ 37 _ (_ :: _) _ Q
      refine r_aload_n dX12_mean_37 rfl ?_
      refine r_getRc dX12_mean_38 fgX12_70 rfl (by exact k_167 hJ.F) (by exact r_167_36 hJ.F) ?_
      refine r_iload_n dX12_mean_41 rfl ?_
      refine r_aaloadc (b := 264 + i) dX12_mean_42 ⟨Nat.le_of_ble_eq_true rfl, Nat.le_of_ble_eq_true rfl⟩ (by exact k_263 hJ.F) (vin (by omega) (by omega)) (by rw [nI_cl _ (by omega)]; exact R_mil hJ.F (by omega)) ?_
      refine r_iconst (0) dX12_mean_43 rfl ?_
      refine r_ialoadc (f (637 + 2 * i)) dX12_mean_44 (by exact K_mil hJ.F (by omega)) (vin (j := 0) (by omega) (by omega)) (by exact hJ.g (by omega) (l_mil (j := 0) (by omega) (by omega))) ?_
      refine r_aload_n dX12_mean_45 rfl ?_
      refine r_getRc dX12_mean_46 fgX12_70 rfl (by exact k_167 hJ.F) (by exact r_167_36 hJ.F) ?_
      refine r_iload_n dX12_mean_49 rfl ?_
      refine r_aaloadc (b := 264 + i) dX12_mean_50 ⟨Nat.le_of_ble_eq_true rfl, Nat.le_of_ble_eq_true rfl⟩ (by exact k_263 hJ.F) (vin (by omega) (by omega)) (by rw [nI_cl _ (by omega)]; exact R_mil hJ.F (by omega)) ?_
      refine r_iconst (1) dX12_mean_51 rfl ?_
      refine r_ialoadc (f (638 + 2 * i)) dX12_mean_52 (by exact K_mil hJ.F (by omega)) (vin (j := 1) (by omega) (by omega)) (by exact hJ.g (z := 638 + 2 * i) (by omega) (by have z := l_mil (r := i) (j := 1) (by omega) (by omega); rw [show 637 + 2 * i + 1 = 638 + 2 * i from by omega] at z; exact z)) ?_
      refine r_bipush (10) dX12_mean_53 rfl ?_
      refine r_idiv dX12_mean_55 (by decide) ?_
      refine r_iadd dX12_mean_56 ?_
      refine r_imul dX12_mean_57 ?_
      refine si_4 dX12_mean_58 (by first | rfl | assumption) (Nat.le_of_ble_eq_true rfl) ?_
      refine r_iload_n dX12_mean_60 rfl ?_
      refine r_iload_n dX12_mean_61 rfl ?_
      refine r_if_eq 78 dX12_mean_62 rfl (fun ht => ?_) (fun ht => ?_)
      ·
        refine r_iload dX12_mean_78 rfl ?_
        refine r_iadd dX12_mean_80 ?_
        refine si_2 dX12_mean_81 (by first | rfl | assumption) (Nat.le_of_ble_eq_true rfl) ?_
        refine ic_3 (1) dX12_mean_82 rfl rfl (Nat.le_of_ble_eq_true rfl) ?_
        refine r_goto 21 dX12_mean_85 rfl ?_
        have z := fun x4 => ih (i + 1) x4 (by omega)
        rw [show msF t0 (miS f) (nM f) (i + 1) = _ from congrArg (_ + ·) (if_neg (fun q => q.1 ht))] at z
        rw [nI_1 i]
        exact z _
      ·
        refine r_iload_n dX12_mean_65 rfl ?_
        refine r_iconst (2) dX12_mean_66 rfl ?_
        refine r_irem dX12_mean_67 (by decide) ?_
        refine r_iconst (1) dX12_mean_68 rfl ?_
        refine r_icmp_ne 78 dX12_mean_69 rfl (fun h2 => ?_) (fun h2 => ?_)
        ·
          refine r_iload dX12_mean_78 rfl ?_
          refine r_iadd dX12_mean_80 ?_
          refine si_2 dX12_mean_81 (by first | rfl | assumption) (Nat.le_of_ble_eq_true rfl) ?_
          refine ic_3 (1) dX12_mean_82 rfl rfl (Nat.le_of_ble_eq_true rfl) ?_
          refine r_goto 21 dX12_mean_85 rfl ?_
          have z := fun x4 => ih (i + 1) x4 (by omega)
          rw [show msF t0 (miS f) (nM f) (i + 1) = _ from congrArg (_ + ·) (if_neg (fun q => h2 q.2))] at z
          rw [nI_1 i]
          exact z _
        ·
          refine r_iload dX12_mean_72 rfl ?_
          refine r_ineg dX12_mean_74 ?_
          refine r_goto 80 dX12_mean_75 rfl ?_
          refine r_iadd dX12_mean_80 ?_
          refine si_2 dX12_mean_81 (by first | rfl | assumption) (Nat.le_of_ble_eq_true rfl) ?_
          refine ic_3 (1) dX12_mean_82 rfl rfl (Nat.le_of_ble_eq_true rfl) ?_
          refine r_goto 21 dX12_mean_85 rfl ?_
          have z := fun x4 => ih (i + 1) x4 (by omega)
          rw [show msF t0 (miS f) (nM f) (i + 1) = _ from congrArg (_ + ·) (if_pos ⟨ht, h2⟩)] at z
          rw [nI_1 i]
          exact z _
theorem S_X12_mean {g : GG} {m : MM} {Q : Out → Prop} {f : Nat → Int32} {fs : Nat → Nat → Int32} {ic : Nat} {tp : Nat → Int32} {tn : Nat} {pl : Int32} {n1 n2 : Nat} {ts : Nat → (Nat → Int32) × Nat} (hV : Vf f) (hI : RI f fs ic tp tn pl n1 n2 ts m) {t0 : Int32} (k0 : ¬ 2 ≤ f 4 → ∀ m', RJ f fs ic tp tn pl n1 n2 ts m 0 m' → Q (.inl (some (.int (-2147483648))), m')) (k1 : 2 ≤ f 4 → ∀ m', RJ f fs ic tp tn pl n1 n2 ts m 0 m' → Q (.inl (some (.int (msF t0 (miS f) (nM f) (nM f)))), m')) : Cl g 1 0 0 mX12_mean [.ref 167, .int t0] m Q := by
  refine Cl.of rfl (by decide) (Nat.le_of_ble_eq_true rfl) ?_
  show Wp g mX12_mean 1 0 0 0 [.ref 167, .int t0, .retAddr 0, .retAddr 0, .retAddr 0] [] m Q
  refine r_aload_n dX12_mean_0 rfl ?_
  refine r_iconst (0) dX12_mean_1 rfl ?_
  refine r_putI dX12_mean_2 (fpX12_79 _ rfl) rfl (by exact k_167 hI.1) ⟨rfl, rfl⟩ ?_
  have hJ1 := hI.go
  refine r_aload_n dX12_mean_5 rfl ?_
  refine r_getIc (f 4) dX12_mean_6 fgX12_338 rfl (by exact k_167 hJ1.F) (by exact hJ1.g (by omega) l_4) ?_
  refine r_iconst (2) dX12_mean_9 rfl ?_
  refine r_icmp_ge 17 dX12_mean_10 rfl (fun h2 => ?_) (fun h2 => ?_)
  ·
    refine r_iconst (0) dX12_mean_17 rfl ?_
    refine si_2 dX12_mean_18 rfl (Nat.le_of_ble_eq_true rfl) ?_
    refine r_iconst (0) dX12_mean_19 rfl ?_
    refine si_3 dX12_mean_20 rfl (Nat.le_of_ble_eq_true rfl) ?_
    refine L_rmean hV hJ1 (fun x4 => ?_) (nM f) 0 _ (by omega)
    refine r_iload_n dX12_mean_88 rfl ?_
    refine r_ireturn dX12_mean_89 rfl rfl ?_
    exact k1 h2 _ hJ1
  ·
    refine r_ldcw (-2147483648) dX12_mean_13 ctX12_341 ?_
    refine r_ireturn dX12_mean_16 rfl rfl ?_
    exact k0 h2 _ hJ1
