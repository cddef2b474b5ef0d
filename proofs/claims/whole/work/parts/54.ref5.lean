def hulI (f : Nat → Int32) (x y : Int32) (i : Nat) : Nat → Int32 := fun z => if z = 7 + nH f then x else if z = 13 + nH f then y else if 73 + 24 * nH f ≤ z ∧ z < 73 + 24 * nH f + i then (if z - (73 + 24 * nH f) < y.toNatClampNeg then 10 else 0) else if 85 + 24 * nH f ≤ z ∧ z < 85 + 24 * nH f + i then (if z - (85 + 24 * nH f) < y.toNatClampNeg then 5 else 0) else f z
theorem hulI_0 {f : Nat → Int32} {x y : Int32} : upF (upF f (7 + nH f) x) (13 + nH f) y = hulI f x y 0 := by
  funext z
  unfold hulI upF
  by_cases c1 : z = 13 + nH f
  · by_cases c2 : z = 7 + nH f
    · omega
    · rw [if_pos c1, if_neg c2, if_pos c1]
  · rw [if_neg c1]
    by_cases c2 : z = 7 + nH f
    · rw [if_pos c2, if_pos c2]
    · rw [if_neg c2, if_neg c2, if_neg c1, if_neg (by omega), if_neg (by omega)]
theorem hulI_s {f : Nat → Int32} {x y : Int32} {i : Nat} {v w : Int32} (hf : nH f < 6) (hi : i < 12) (hv : v = if i < y.toNatClampNeg then 10 else 0) (hw : w = if i < y.toNatClampNeg then 5 else 0) : upF (upF (hulI f x y i) (73 + 24 * nH f + i) v) (85 + 24 * nH f + i) w = hulI f x y (i + 1) := by
  funext z
  by_cases c1 : z = 85 + 24 * nH f + i
  · subst c1
    rw [upF_s]
    refine hw.trans (Eq.symm ?_)
    unfold hulI
    rw [if_neg (by omega), if_neg (by omega), if_neg (by omega), if_pos (by omega), show 85 + 24 * nH f + i - (85 + 24 * nH f) = i from by omega]
  · rw [upF_n c1 rfl]
    by_cases c2 : z = 73 + 24 * nH f + i
    · subst c2
      rw [upF_s]
      refine hv.trans (Eq.symm ?_)
      unfold hulI
      rw [if_neg (by omega), if_neg (by omega), if_pos (by omega), show 73 + 24 * nH f + i - (73 + 24 * nH f) = i from by omega]
    · rw [upF_n c2 rfl]
      unfold hulI
      by_cases d1 : z = 7 + nH f
      · rw [if_pos d1, if_pos d1]
      · rw [if_neg d1, if_neg d1]
        by_cases d2 : z = 13 + nH f
        · rw [if_pos d2, if_pos d2]
        · rw [if_neg d2, if_neg d2]
          by_cases d3 : 73 + 24 * nH f ≤ z ∧ z < 73 + 24 * nH f + i
          · exact (if_pos d3).trans (if_pos (by omega)).symm
          · refine (if_neg d3).trans (Eq.trans ?_ (if_neg (by omega)).symm)
            by_cases d4 : 85 + 24 * nH f ≤ z ∧ z < 85 + 24 * nH f + i
            · exact (if_pos d4).trans (if_pos (by omega)).symm
            · exact (if_neg d4).trans (if_neg (by omega)).symm
theorem hulI_12 {f : Nat → Int32} {x y : Int32} : upF (hulI f x y 12) 0 (nI (nH f + 1)) = hulF f x y := by
  funext z
  unfold hulF
  by_cases c : z = 0
  · subst c; rw [upF_s, if_pos rfl]
  · rw [upF_n c rfl, if_neg c]
    unfold hulI
    rw [show 73 + 24 * nH f + 12 = 85 + 24 * nH f from by omega, show 85 + 24 * nH f + 12 = 97 + 24 * nH f from by omega]
theorem hulI_c {f : Nat → Int32} {x y : Int32} {i : Nat} : hulI f x y i 0 = f 0 := (if_neg (by omega)).trans ((if_neg (by omega)).trans ((if_neg (by omega)).trans (if_neg (by omega))))
theorem L_rhull {g : GG} {Q : Out → Prop} {f : Nat → Int32} {fs : Nat → Nat → Int32} {ic : Nat} {tp : Nat → Int32} {tn : Nat} {pl : Int32} {n1 n2 : Nat} {ts : Nat → (Nat → Int32) × Nat} {m0 : MM} (hV : Vf f) (h6 : nH f < 6) {x y : Int32} (hy : iv 2 12 y) : ∀ (t i : Nat) (m : MM), i + t = 12 → RJ (hulI f x y i) fs ic tp tn pl n1 n2 ts m0 0 m → (∀ m, RJ (hulI f x y 12) fs ic tp tn pl n1 n2 ts m0 0 m → Wp g mX12_hull 1 0 0 130 [.ref 167, .int x, .int y, .int (nI 12)] [] m Q) → Wp g mX12_hull 1 0 0 75 [.ref 167, .int x, .int y, .int (nI i)] [] m Q := by
  have hc := hV.1.1.1
  have hy2 := nI_of_iv hy (by omega)
  have hy12 : y.toNatClampNeg ≤ 12 := by unfold iv at hy; omega
  intro t
  induction t with
  | zero =>
    intro i m hi hJ k
    obtain rfl : i = 12 := by omega
    refine r_iload_n dX12_hull_75 rfl ?_
    refine r_bipush (12) dX12_hull_76 rfl ?_
    refine r_icmp_ge 130 dX12_hull_78 rfl (fun hge => ?_) (fun hge => ?_)
    ·
      exact k m hJ
    ·
      exact absurd (show nI 12 ≤ nI 12 from nI_le (Nat.le_refl _) (by omega)) hge
  | succ t ih =>
    intro i m hi hJ k
    refine r_iload_n dX12_hull_75 rfl ?_
    refine r_bipush (12) dX12_hull_76 rfl ?_
    refine r_icmp_ge 130 dX12_hull_78 rfl (fun hge => ?_) (fun hge => ?_)
    ·
      exact absurd hge (nI_ge (b := 12) (by omega) (by omega))
    ·
      refine r_aload_n dX12_hull_81 rfl ?_
      refine r_getRc dX12_hull_82 fgX12_40 rfl (by exact k_167 hJ.F) (by exact r_167_22 hJ.F) ?_
      refine r_aload_n dX12_hull_85 rfl ?_
      refine r_getIc (f 0) dX12_hull_86 fgX12_90 rfl (by exact k_167 hJ.F) (by exact (hJ.g (by omega) l_0).trans hulI_c) ?_
      refine r_aaloadc (b := 183 + nH f) dX12_hull_89 ⟨Nat.le_of_ble_eq_true rfl, Nat.le_of_ble_eq_true rfl⟩ (by exact k_182 hJ.F) (by rw [hc]; exact vin (by omega) (by omega)) (by exact R_bea (i := nH f) hJ.F (by omega)) ?_
      refine r_iload_n dX12_hull_90 rfl ?_
      refine r_iload_n dX12_hull_91 rfl ?_
      refine r_iload_n dX12_hull_92 rfl ?_
      refine r_icmp_ge 101 dX12_hull_93 rfl (fun h1 => ?_) (fun h1 => ?_)
      ·
        refine r_iconst (0) dX12_hull_101 rfl ?_
        refine r_iastoren (i) (nI_cl _ (by omega)) dX12_hull_102 (by exact K_bea hJ.F (by omega)) (vin (by omega) (by omega)) ?_
        have hJ1 := hJ.up (z := 73 + 24 * nH f + i) (v := 0) (by omega) (l_bea (by omega) (by omega))
        refine r_aload_n dX12_hull_103 rfl ?_
        refine r_getRc dX12_hull_104 fgX12_43 rfl (by exact k_167 hJ1.F) (by exact r_167_23 hJ1.F) ?_
        refine r_aload_n dX12_hull_107 rfl ?_
        refine r_getIc (f 0) dX12_hull_108 fgX12_90 rfl (by exact k_167 hJ1.F) (by exact (hJ1.g (by omega) l_0).trans (upF_n (by omega) hulI_c)) ?_
        refine r_aaloadc (b := 190 + nH f) dX12_hull_111 ⟨Nat.le_of_ble_eq_true rfl, Nat.le_of_ble_eq_true rfl⟩ (by exact k_189 hJ1.F) (by rw [hc]; exact vin (by omega) (by omega)) (by exact R_dra (i := nH f) hJ1.F (by omega)) ?_
        refine r_iload_n dX12_hull_112 rfl ?_
        refine r_iload_n dX12_hull_113 rfl ?_
        refine r_iload_n dX12_hull_114 rfl ?_
        refine r_icmp_ge 122 dX12_hull_115 rfl (fun h2 => ?_) (fun h2 => ?_)
        ·
          refine r_iconst (0) dX12_hull_122 rfl ?_
          refine r_iastoren (i) (nI_cl _ (by omega)) dX12_hull_123 (by exact K_dra hJ1.F (by omega)) (vin (by omega) (by omega)) ?_
          have hJ2 := hJ1.up (z := 85 + 24 * nH f + i) (v := 0) (by omega) (l_dra (by omega) (by omega))
          rw [hulI_s (v := 0) (w := 0) h6 (by omega) (if_neg (fun q => absurd h1 (by rw [hy2.1]; exact nI_ge q (by omega)))).symm (if_neg (fun q => absurd h1 (by rw [hy2.1]; exact nI_ge q (by omega)))).symm] at hJ2
          refine ic_3 (1) dX12_hull_124 rfl rfl (Nat.le_of_ble_eq_true rfl) ?_
          refine r_goto 75 dX12_hull_127 rfl ?_
          rw [nI_1 i]
          exact ih (i + 1) _ (by omega) hJ2 k
        ·
          refine r_iconst (5) dX12_hull_118 rfl ?_
          refine r_goto 123 dX12_hull_119 rfl ?_
          refine r_iastoren (i) (nI_cl _ (by omega)) dX12_hull_123 (by exact K_dra hJ1.F (by omega)) (vin (by omega) (by omega)) ?_
          exact absurd h1 h2
      ·
        refine r_bipush (10) dX12_hull_96 rfl ?_
        refine r_goto 102 dX12_hull_98 rfl ?_
        refine r_iastoren (i) (nI_cl _ (by omega)) dX12_hull_102 (by exact K_bea hJ.F (by omega)) (vin (by omega) (by omega)) ?_
        have hJ4 := hJ.up (z := 73 + 24 * nH f + i) (v := 10) (by omega) (l_bea (by omega) (by omega))
        refine r_aload_n dX12_hull_103 rfl ?_
        refine r_getRc dX12_hull_104 fgX12_43 rfl (by exact k_167 hJ4.F) (by exact r_167_23 hJ4.F) ?_
        refine r_aload_n dX12_hull_107 rfl ?_
        refine r_getIc (f 0) dX12_hull_108 fgX12_90 rfl (by exact k_167 hJ4.F) (by exact (hJ4.g (by omega) l_0).trans (upF_n (by omega) hulI_c)) ?_
        refine r_aaloadc (b := 190 + nH f) dX12_hull_111 ⟨Nat.le_of_ble_eq_true rfl, Nat.le_of_ble_eq_true rfl⟩ (by exact k_189 hJ4.F) (by rw [hc]; exact vin (by omega) (by omega)) (by exact R_dra (i := nH f) hJ4.F (by omega)) ?_
        refine r_iload_n dX12_hull_112 rfl ?_
        refine r_iload_n dX12_hull_113 rfl ?_
        refine r_iload_n dX12_hull_114 rfl ?_
        refine r_icmp_ge 122 dX12_hull_115 rfl (fun h2 => ?_) (fun h2 => ?_)
        ·
          refine r_iconst (0) dX12_hull_122 rfl ?_
          refine r_iastoren (i) (nI_cl _ (by omega)) dX12_hull_123 (by exact K_dra hJ4.F (by omega)) (vin (by omega) (by omega)) ?_
          exact absurd h2 h1
        ·
          refine r_iconst (5) dX12_hull_118 rfl ?_
          refine r_goto 123 dX12_hull_119 rfl ?_
          refine r_iastoren (i) (nI_cl _ (by omega)) dX12_hull_123 (by exact K_dra hJ4.F (by omega)) (vin (by omega) (by omega)) ?_
          have hJ6 := hJ4.up (z := 85 + 24 * nH f + i) (v := 5) (by omega) (l_dra (by omega) (by omega))
          rw [hulI_s (v := 10) (w := 5) h6 (by omega) (if_pos (Nat.lt_of_not_le (fun q => h1 (by rw [hy2.1]; exact nI_le q (by omega))))).symm (if_pos (Nat.lt_of_not_le (fun q => h1 (by rw [hy2.1]; exact nI_le q (by omega))))).symm] at hJ6
          refine ic_3 (1) dX12_hull_124 rfl rfl (Nat.le_of_ble_eq_true rfl) ?_
          refine r_goto 75 dX12_hull_127 rfl ?_
          rw [nI_1 i]
          exact ih (i + 1) _ (by omega) hJ6 k
theorem S_X12_hull {g : GG} {m : MM} {Q : Out → Prop} {f : Nat → Int32} {fs : Nat → Nat → Int32} {ic : Nat} {tp : Nat → Int32} {tn : Nat} {pl : Int32} {n1 n2 : Nat} {ts : Nat → (Nat → Int32) × Nat} (hV : Vf f) (hI : RI f fs ic tp tn pl n1 n2 ts m) {x y : Int32} (kb : ¬ ((10 ≤ x ∧ x ≤ 400) ∧ 2 ≤ y ∧ y ≤ 12) → ∀ m', RJ f fs ic tp tn pl n1 n2 ts m 1 m' → Q (.inl (some (.int 0)), m')) (kf : ((10 ≤ x ∧ x ≤ 400) ∧ 2 ≤ y ∧ y ≤ 12) → nH f = 6 → ∀ m', RJ f fs ic tp tn pl n1 n2 ts m 0 m' → Q (.inl (some (.int (-1))), m')) (k : ((10 ≤ x ∧ x ≤ 400) ∧ 2 ≤ y ∧ y ≤ 12) → nH f < 6 → ∀ m', RJ (hulF f x y) fs ic tp tn pl n1 n2 ts m 0 m' → Q (.inl (some (.int (nI (nH f)))), m')) : Cl g 1 0 0 mX12_hull [.ref 167, .int x, .int y] m Q := by
  refine Cl.of rfl (by decide) (Nat.le_of_ble_eq_true rfl) ?_
  show Wp g mX12_hull 1 0 0 0 [.ref 167, .int x, .int y, .retAddr 0] [] m Q
  have hc := hV.1.1.1
  refine r_aload_n dX12_hull_0 rfl ?_
  refine r_iconst (0) dX12_hull_1 rfl ?_
  refine r_putI dX12_hull_2 (fpX12_79 _ rfl) rfl (by exact k_167 hI.1) ⟨rfl, rfl⟩ ?_
  have hJ1 := hI.go
  refine r_aload_n dX12_hull_5 rfl ?_
  refine r_iload_n dX12_hull_6 rfl ?_
  refine r_bipush (10) dX12_hull_7 rfl ?_
  refine r_sipush (400) dX12_hull_9 rfl ?_
  refine r_callS3 (d1 := 0) (c1 := 0) (n1 := 0) dX12_hull_12 msX12_82 rfl (Nat.le_of_ble_eq_true rfl) (by exact Nat.le_of_ble_eq_true rfl) ?_
  refine S_X12_in (fun w12a w12b => ?_) (fun w12 => ?_)
  ·
    show Wp g mX12_hull _ _ _ 15 _ (_ :: _) _ Q
    refine r_if_eq 28 dX12_hull_15 rfl (fun hz => absurd hz (by decide)) (fun _ => ?_)
    refine r_iload_n dX12_hull_18 rfl ?_
    refine r_iconst (2) dX12_hull_19 rfl ?_
    refine r_bipush (12) dX12_hull_20 rfl ?_
    refine r_callS3 (d1 := 0) (c1 := 0) (n1 := 0) dX12_hull_22 msX12_82 rfl (Nat.le_of_ble_eq_true rfl) (by exact Nat.le_of_ble_eq_true rfl) ?_
    refine S_X12_in (fun w22a w22b => ?_) (fun w22 => ?_)
    ·
      show Wp g mX12_hull _ _ _ 25 _ (_ :: _) _ Q
      refine r_if_ne 32 dX12_hull_25 rfl (fun _ => ?_) (fun hz => absurd hz (by decide))
      refine r_iconst (0) dX12_hull_32 rfl ?_
      refine r_iconst (1) dX12_hull_33 rfl ?_
      refine r_callV2 (ci := 12) (d1 := 0) (c1 := 0) (n1 := 0) dX12_hull_34 mvX12_86 rfl ⟨(Nat.le_of_ble_eq_true rfl), rfl⟩ (Nat.le_of_ble_eq_true rfl) (by exact Nat.le_of_ble_eq_true rfl) (by exact k_167 hJ1.F) ?_
      refine S_bad0 hJ1.F hJ1.2.2 ?_
      show Wp g mX12_hull _ _ _ 37 _ (_ :: _) _ Q
      refine r_if_eq 42 dX12_hull_37 rfl (fun _ => ?_) (fun hz => absurd hz (by decide))
      refine r_aload_n dX12_hull_42 rfl ?_
      refine r_getIc (f 0) dX12_hull_43 fgX12_90 rfl (by exact k_167 hJ1.F) (by exact hJ1.g (by omega) l_0) ?_
      refine r_bipush (6) dX12_hull_46 rfl ?_
      refine r_icmp_ne 53 dX12_hull_48 rfl (fun h4 => ?_) (fun h4 => ?_)
      ·
        have hl6 : nH f < 6 := by have := hV.1.1.2; exact Nat.lt_of_le_of_ne this (fun q => h4 (by rw [hc, q]; rfl))
        refine r_aload_n dX12_hull_53 rfl ?_
        refine r_getRc dX12_hull_54 fgX12_34 rfl (by exact k_167 hJ1.F) (by exact r_167_20 hJ1.F) ?_
        refine r_aload_n dX12_hull_57 rfl ?_
        refine r_getIc (f 0) dX12_hull_58 fgX12_90 rfl (by exact k_167 hJ1.F) (by exact hJ1.g (by omega) l_0) ?_
        refine r_iload_n dX12_hull_61 rfl ?_
        refine r_iastoren (nH f) (by rw [hc, nI_cl _ (by omega)]) dX12_hull_62 (by exact k_180 hJ1.F) (by rw [hc]; exact vin (by omega) (by omega)) ?_
        have hJ2 := hJ1.up (z := 7 + nH f) (v := x) (by omega) (l_len (by omega))
        refine r_aload_n dX12_hull_63 rfl ?_
        refine r_getRc dX12_hull_64 fgX12_37 rfl (by exact k_167 hJ2.F) (by exact r_167_21 hJ2.F) ?_
        refine r_aload_n dX12_hull_67 rfl ?_
        refine r_getIc (f 0) dX12_hull_68 fgX12_90 rfl (by exact k_167 hJ2.F) (by exact (hJ2.g (by omega) l_0).trans (upF_n (by omega) rfl)) ?_
        refine r_iload_n dX12_hull_71 rfl ?_
        refine r_iastoren (nH f) (by rw [hc, nI_cl _ (by omega)]) dX12_hull_72 (by exact k_181 hJ2.F) (by rw [hc]; exact vin (by omega) (by omega)) ?_
        have hJ3 := hJ2.up (z := 13 + nH f) (v := y) (by omega) (l_sta (by omega))
        refine r_iconst (0) dX12_hull_73 rfl ?_
        refine si_3 dX12_hull_74 rfl (Nat.le_of_ble_eq_true rfl) ?_
        rw [hulI_0] at hJ3
        refine L_rhull hV hl6 (iv_mk w22a w22b) 12 0 _ (by omega) hJ3 (fun m20 hJ20 => ?_)
        refine r_aload_n dX12_hull_130 rfl ?_
        refine r_dup dX12_hull_131 rfl ?_
        refine r_getIc (f 0) dX12_hull_132 fgX12_90 rfl (by exact k_167 hJ20.F) (by exact (hJ20.g (by omega) l_0).trans hulI_c) ?_
        refine r_iconst (1) dX12_hull_135 rfl ?_
        refine r_iadd dX12_hull_136 ?_
        rw [hc, nI_1]
        refine r_putI dX12_hull_137 (fpX12_90 _ rfl) rfl (by exact k_167 hJ20.F) ⟨rfl, rfl⟩ ?_
        have hJ21 := hJ20.up (z := 0) (v := nI (nH f + 1)) (by omega) l_0
        refine r_aload_n dX12_hull_140 rfl ?_
        refine r_getIc (nI (nH f + 1)) dX12_hull_141 fgX12_90 rfl (by exact k_167 hJ21.F) (by exact ld_s) ?_
        refine r_iconst (1) dX12_hull_144 rfl ?_
        refine r_isub dX12_hull_145 ?_
        refine r_ireturn dX12_hull_146 rfl rfl ?_
        rw [nI_p1]; rw [hulI_12] at hJ21; exact k ⟨⟨w12a, w12b⟩, ⟨w22a, w22b⟩⟩ hl6 _ hJ21
      ·
        refine r_iconst (-1) dX12_hull_51 rfl ?_
        refine r_ireturn dX12_hull_52 rfl rfl ?_
        exact kf ⟨⟨w12a, w12b⟩, ⟨w22a, w22b⟩⟩ ((nI_eq (b := 6) (by have := hV.1.1.2; omega) (by omega)).mp (hc.symm.trans h4)) _ hJ1
    ·
      show Wp g mX12_hull _ _ _ 25 _ (_ :: _) _ Q
      refine r_if_ne 32 dX12_hull_25 rfl (fun hz => absurd hz (by decide)) (fun _ => ?_)
      refine r_iconst (1) dX12_hull_28 rfl ?_
      refine r_goto 33 dX12_hull_29 rfl ?_
      refine r_iconst (1) dX12_hull_33 rfl ?_
      refine r_callV2 (ci := 12) (d1 := 0) (c1 := 0) (n1 := 0) dX12_hull_34 mvX12_86 rfl ⟨(Nat.le_of_ble_eq_true rfl), rfl⟩ (Nat.le_of_ble_eq_true rfl) (by exact Nat.le_of_ble_eq_true rfl) (by exact k_167 hJ1.F) ?_
      refine S_bad1 hJ1.F hJ1.2.2 (by decide) ?_
      have hJ22 := hJ1.bad 1
      show Wp g mX12_hull _ _ _ 37 _ (_ :: _) _ Q
      refine r_if_eq 42 dX12_hull_37 rfl (fun hz => absurd hz (by decide)) (fun _ => ?_)
      refine r_iconst (0) dX12_hull_40 rfl ?_
      refine r_ireturn dX12_hull_41 rfl rfl ?_
      first | exact kb (fun q => w12 q.1) _ hJ22 | exact kb (fun q => w22 q.2) _ hJ22
  ·
    show Wp g mX12_hull _ _ _ 15 _ (_ :: _) _ Q
    refine r_if_eq 28 dX12_hull_15 rfl (fun _ => ?_) (fun hz => absurd hz (by decide))
    refine r_iconst (1) dX12_hull_28 rfl ?_
    refine r_goto 33 dX12_hull_29 rfl ?_
    refine r_iconst (1) dX12_hull_33 rfl ?_
    refine r_callV2 (ci := 12) (d1 := 0) (c1 := 0) (n1 := 0) dX12_hull_34 mvX12_86 rfl ⟨(Nat.le_of_ble_eq_true rfl), rfl⟩ (Nat.le_of_ble_eq_true rfl) (by exact Nat.le_of_ble_eq_true rfl) (by exact k_167 hJ1.F) ?_
    refine S_bad1 hJ1.F hJ1.2.2 (by decide) ?_
    have hJ23 := hJ1.bad 1
    show Wp g mX12_hull _ _ _ 37 _ (_ :: _) _ Q
    refine r_if_eq 42 dX12_hull_37 rfl (fun hz => absurd hz (by decide)) (fun _ => ?_)
    refine r_iconst (0) dX12_hull_40 rfl ?_
    refine r_ireturn dX12_hull_41 rfl rfl ?_
    first | exact kb (fun q => w12 q.1) _ hJ23 | exact kb (fun q => w22 q.2) _ hJ23
