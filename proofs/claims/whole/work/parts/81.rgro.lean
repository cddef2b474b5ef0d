theorem Lead_un {ρ : Nat → Int32} {x : Int32} {n a b : Nat} (ha : LeadP ρ x n a) (hb : LeadP ρ x n b) : a = b := by
  rcases Nat.lt_trichotomy a b with h | h | h
  · exact absurd (ha.2.2 (by have := hb.1; omega)) (i32_nlt.mpr (hb.2.1 a h))
  · exact h
  · exact absurd (hb.2.2 (by have := ha.1; omega)) (i32_nlt.mpr (ha.2.1 b h))
theorem Lead_ex (ρ : Nat → Int32) (x : Int32) : ∀ n, ∃ b, LeadP ρ x n b
  | 0 => ⟨0, Nat.le_refl _, fun i hi => absurd hi (by omega), fun h => absurd h (by omega)⟩
  | n + 1 => by
    obtain ⟨b, h1, h2, h3⟩ := Lead_ex ρ x n
    by_cases c : b < n
    · exact ⟨b, by omega, h2, fun _ => h3 c⟩
    · obtain rfl : b = n := by omega
      by_cases q : x < ρ b
      · exact ⟨b, by omega, h2, fun _ => q⟩
      · exact ⟨b + 1, by omega, fun i hi => by
          by_cases e : i = b
          · rw [e]; exact i32_nlt.mp q
          · exact h2 i (by omega), fun h => absurd h (by omega)⟩
theorem fo_eq {a x d : Int32} (ha : iv (-999) 999 a) (hx : iv 0 999 x) (hd : iv 1 999 d) : (ovF (a.toInt64 * x.toInt64) d.toInt64).toInt32 = a * x / d := by
  unfold iv at ha hx hd
  have m1 : a.toInt * x.toInt ≤ 998001 := by
    have h1 : a.toInt * x.toInt ≤ 999 * x.toInt := Int.mul_le_mul_of_nonneg_right ha.2 hx.1
    omega
  have m2 : -998001 ≤ a.toInt * x.toInt := by
    have h1 : -999 * x.toInt ≤ a.toInt * x.toInt := Int.mul_le_mul_of_nonneg_right ha.1 hx.1
    omega
  have e1 : (a.toInt64 * x.toInt64).toInt = a.toInt * x.toInt := by rw [Int64.toInt_mul, Int32.toInt_toInt64, Int32.toInt_toInt64, Int.bmod_eq_of_le (by omega) (by omega)]
  have e2 : (a * x).toInt = a.toInt * x.toInt := by rw [Int32.toInt_mul, Int.bmod_eq_of_le (by omega) (by omega)]
  have q := Int.natAbs_tdiv_le_natAbs (a.toInt * x.toInt) d.toInt
  have nz : ¬ d.toInt64 = 0 := fun z => by have w := congrArg Int64.toInt z; rw [Int32.toInt_toInt64] at w; have y : (0 : Int64).toInt = 0 := rfl; omega
  unfold ovF
  rw [if_neg nz]
  refine Int32.toInt_inj.mp ?_
  generalize hp : a.toInt * x.toInt = p at *
  rw [Int64.toInt_toInt32, Int64.toInt_div, Int32.toInt_div, e1, e2, Int32.toInt_toInt64, Int.bmod_eq_of_le (n := p.tdiv d.toInt) (m := 2 ^ 64) (by omega) (by omega)]
theorem sub_iv {x y : Int32} {A B C D : Int} (hx : iv A B x) (hy : iv C D y) (h1 : -2000000 ≤ A - D) (h2 : B - C ≤ 2000000) : iv (A - D) (B - C) (x - y) ∧ (x - y).toInt = x.toInt - y.toInt := by
  unfold iv at *
  have e : (x - y).toInt = x.toInt - y.toInt := by rw [Int32.toInt_sub, Int.bmod_eq_of_le (by omega) (by omega)]
  rw [e]; exact ⟨by omega, rfl⟩
theorem L_rgro {g : GG} {Q : Out → Prop} {m : MM} {f : Nat → Int32} {fs : Nat → Nat → Int32} {ic : Nat} {tp : Nat → Int32} {tn : Nat} {pl : Int32} {n1 n2 : Nat} {ts : Nat → (Nat → Int32) × Nat} {m0 : MM} (hV : Vf f) (hJ : RJ f fs ic tp tn pl n1 n2 ts m0 0 m) {x : Int32} {b : Nat} (hb : LeadP (foM f) x (nFo f) b) (k : Wp g mX12_grown 1 0 0 68 [.ref 167, .int x, .int (nI b), .retAddr 0, .retAddr 0, .retAddr 0] [] m Q) : ∀ (t i : Nat), i + t = nFo f → (∀ j, j < i → foM f j ≤ x) → Wp g mX12_grown 1 0 0 42 [.ref 167, .int x, .int (nI i), .retAddr 0, .retAddr 0, .retAddr 0] [] m Q := by
  have hc5 := hV.1.2.2.2.2.2.1
  have h8 := hV.1.2.2.2.2.2.2
  intro t
  induction t with
  | zero =>
    intro i hi hle
    have hi : i = nFo f := by omega
    have hib : i = b := Lead_un ⟨by omega, hle, fun z => absurd z (by omega)⟩ hb
    refine r_iload_n dX12_grown_42 rfl ?_
    refine r_aload_n dX12_grown_43 rfl ?_
    refine r_getIc (nI (nFo f)) dX12_grown_44 fgX12_349 rfl (by exact k_167 hJ.F) (by exact (hJ.g (by omega) l_5).trans hc5) ?_
    refine r_icmp_ge 68 dX12_grown_47 rfl (fun hge => ?_) (fun hge => ?_)
    ·
      rw [hib]; exact k
    ·
      exact absurd (by rw [hi]; exact nI_le (Nat.le_refl _) (by omega)) hge
  | succ t ih =>
    intro i hi hle
    refine r_iload_n dX12_grown_42 rfl ?_
    refine r_aload_n dX12_grown_43 rfl ?_
    refine r_getIc (nI (nFo f)) dX12_grown_44 fgX12_349 rfl (by exact k_167 hJ.F) (by exact (hJ.g (by omega) l_5).trans hc5) ?_
    refine r_icmp_ge 68 dX12_grown_47 rfl (fun hge => ?_) (fun hge => ?_)
    ·
      exact absurd hge (nI_ge (by omega) (by omega))
    ·
      refine r_aload_n dX12_grown_50 rfl ?_
      refine r_getRc dX12_grown_51 fgX12_73 rfl (by exact k_167 hJ.F) (by exact r_167_37 hJ.F) ?_
      refine r_iload_n dX12_grown_54 rfl ?_
      refine r_aaloadc (b := 271 + i) dX12_grown_55 ⟨Nat.le_of_ble_eq_true rfl, Nat.le_of_ble_eq_true rfl⟩ (by exact k_270 hJ.F) (vin (by omega) (by omega)) (by rw [nI_cl _ (by omega)]; exact R_fou hJ.F (by omega)) ?_
      refine r_iconst (0) dX12_grown_56 rfl ?_
      refine r_ialoadc (foM f i) dX12_grown_57 (by exact K_fou hJ.F (by omega)) (vin (j := 0) (by omega) (by omega)) (by exact hJ.g (by omega) (l_fou (j := 0) (by omega) (by omega))) ?_
      refine r_iload_n dX12_grown_58 rfl ?_
      refine r_icmp_gt 68 dX12_grown_59 rfl (fun hgt => ?_) (fun hgt => ?_)
      ·
        have hib : i = b := Lead_un ⟨by omega, hle, fun _ => hgt⟩ hb
        rw [hib]; exact k
      ·
        refine ic_2 (1) dX12_grown_62 rfl rfl (Nat.le_of_ble_eq_true rfl) ?_
        refine r_goto 42 dX12_grown_65 rfl ?_
        rw [nI_1 i]
        refine ih (i + 1) (by omega) (fun j hj => ?_)
        by_cases q : j = i
        · rw [q]; exact i32_nlt.mp hgt
        · exact hle j (by omega)
theorem S_X12_grown {g : GG} {m : MM} {Q : Out → Prop} {f : Nat → Int32} {fs : Nat → Nat → Int32} {ic : Nat} {tp : Nat → Int32} {tn : Nat} {pl : Int32} {n1 n2 : Nat} {ts : Nat → (Nat → Int32) × Nat} (hV : Vf f) (hI : RI f fs ic tp tn pl n1 n2 ts m) {x : Int32} {b : Nat} (hb : LeadP (foM f) x (nFo f) b) (kb : ¬ (0 ≤ x ∧ x ≤ 999) → ∀ m', RJ f fs ic tp tn pl n1 n2 ts m 1 m' → Q (.inl (some (.int 0)), m')) (k : (0 ≤ x ∧ x ≤ 999) → ∀ m', RJ f fs ic tp tn pl n1 n2 ts m 0 m' → Q (.inl (some (.int (foV (foM f) (foH f) x (nFo f) b))), m')) : Cl g 1 0 0 mX12_grown [.ref 167, .int x] m Q := by
  refine Cl.of rfl (by decide) (Nat.le_of_ble_eq_true rfl) ?_
  show Wp g mX12_grown 1 0 0 0 [.ref 167, .int x, .retAddr 0, .retAddr 0, .retAddr 0, .retAddr 0] [] m Q
  have hc5 := hV.1.2.2.2.2.2.1
  have h8 := hV.1.2.2.2.2.2.2
  have hbl0 := hb.1
  refine r_aload_n dX12_grown_0 rfl ?_
  refine r_iconst (0) dX12_grown_1 rfl ?_
  refine r_putI dX12_grown_2 (fpX12_79 _ rfl) rfl (by exact k_167 hI.1) ⟨rfl, rfl⟩ ?_
  have hJ1 := hI.go
  refine r_aload_n dX12_grown_5 rfl ?_
  refine r_iload_n dX12_grown_6 rfl ?_
  refine r_iconst (0) dX12_grown_7 rfl ?_
  refine r_sipush (999) dX12_grown_8 rfl ?_
  refine r_callS3 (d1 := 0) (c1 := 0) (n1 := 0) dX12_grown_11 msX12_82 rfl (Nat.le_of_ble_eq_true rfl) (by exact Nat.le_of_ble_eq_true rfl) ?_
  refine S_X12_in (fun w11a w11b => ?_) (fun w11 => ?_)
  ·
    show Wp g mX12_grown _ _ _ 14 _ (_ :: _) _ Q
    refine r_if_ne 21 dX12_grown_14 rfl (fun _ => ?_) (fun hz => absurd hz (by decide))
    refine r_iconst (0) dX12_grown_21 rfl ?_
    refine r_iconst (1) dX12_grown_22 rfl ?_
    refine r_callV2 (ci := 12) (d1 := 0) (c1 := 0) (n1 := 0) dX12_grown_23 mvX12_86 rfl ⟨(Nat.le_of_ble_eq_true rfl), rfl⟩ (Nat.le_of_ble_eq_true rfl) (by exact Nat.le_of_ble_eq_true rfl) (by exact k_167 hJ1.F) ?_
    refine S_bad0 hJ1.F hJ1.2.2 ?_
    show Wp g mX12_grown _ _ _ 26 _ (_ :: _) _ Q
    refine r_if_eq 31 dX12_grown_26 rfl (fun _ => ?_) (fun hz => absurd hz (by decide))
    refine r_aload_n dX12_grown_31 rfl ?_
    refine r_getIc (nI (nFo f)) dX12_grown_32 fgX12_349 rfl (by exact k_167 hJ1.F) (by exact (hJ1.g (by omega) l_5).trans hc5) ?_
    refine r_if_ne 40 dX12_grown_35 rfl (fun hz => ?_) (fun hz => ?_)
    ·
      have n0 : 0 < nFo f := Nat.pos_of_ne_zero (fun q => hz (by rw [q]; rfl))
      refine r_iconst (0) dX12_grown_40 rfl ?_
      refine si_2 dX12_grown_41 rfl (Nat.le_of_ble_eq_true rfl) ?_
      refine L_rgro hV hJ1 hb ?_ (nFo f) 0 (by omega) (fun j hj => absurd hj (by omega))
      refine r_iload_n dX12_grown_68 rfl ?_
      refine r_if_ne 81 dX12_grown_69 rfl (fun hb0 => ?_) (fun hb0 => ?_)
      ·
        have hb0 : ¬ b = 0 := fun q => hb0 (by rw [q]; rfl)
        have hbl := hb.1
        refine r_iload_n dX12_grown_81 rfl ?_
        refine r_aload_n dX12_grown_82 rfl ?_
        refine r_getIc (nI (nFo f)) dX12_grown_83 fgX12_349 rfl (by exact k_167 hJ1.F) (by exact (hJ1.g (by omega) l_5).trans hc5) ?_
        refine r_icmp_ne 103 dX12_grown_86 rfl (fun hbn => ?_) (fun hbn => ?_)
        ·
          have hbn : ¬ b = nFo f := fun q => hbn (by rw [q])
          have va := hV.2.2.2.2.2.2.2.1 (b - 1) (by omega)
          have vb := hV.2.2.2.2.2.2.2.1 b (by omega)
          have dx := (sub_iv (A := 0) (B := 999) (C := 0) (D := 999) (iv_mk w11a w11b) va.1 (by omega) (by omega))
          have dr := (sub_iv (A := 0) (B := 999) (C := 0) (D := 999) vb.1 va.1 (by omega) (by omega))
          have dh := (sub_iv (A := 0) (B := 999) (C := 0) (D := 999) vb.2 va.2 (by omega) (by omega))
          have l1 := Int32.le_iff_toInt_le.mp (hb.2.1 (b - 1) (by omega))
          have l2 := Int32.lt_iff_toInt_lt.mp (hb.2.2 (by omega))
          have l1 : (f (649 + 2 * (b - 1))).toInt ≤ x.toInt := l1
          have l2 : x.toInt < (f (649 + 2 * b)).toInt := l2
          have v1 : iv 0 999 (x - foM f (b - 1)) := ⟨by show 0 ≤ (x - f (649 + 2 * (b - 1))).toInt; rw [dx.2]; omega, dx.1.2⟩
          have v2 : iv 1 999 (foM f b - foM f (b - 1)) := ⟨by show 1 ≤ (f (649 + 2 * b) - f (649 + 2 * (b - 1))).toInt; rw [dr.2]; omega, dr.1.2⟩
          have v3 : iv (-999) 999 (foH f b - foH f (b - 1)) := dh.1
          refine r_aload_n dX12_grown_103 rfl ?_
          refine r_getRc dX12_grown_104 fgX12_73 rfl (by exact k_167 hJ1.F) (by exact r_167_37 hJ1.F) ?_
          refine r_iload_n dX12_grown_107 rfl ?_
          refine r_iconst (1) dX12_grown_108 rfl ?_
          refine r_isub dX12_grown_109 ?_
          rw [nI_pr1 (by omega)]
          refine r_aaloadc (b := 271 + (b - 1)) dX12_grown_110 ⟨Nat.le_of_ble_eq_true rfl, Nat.le_of_ble_eq_true rfl⟩ (by exact k_270 hJ1.F) (vin (by omega) (by omega)) (by rw [nI_cl _ (by omega)]; exact R_fou (i := b - 1) hJ1.F (by omega)) ?_
          refine r_iconst (1) dX12_grown_111 rfl ?_
          refine r_ialoadc (foH f (b - 1)) dX12_grown_112 (by exact K_fou hJ1.F (by omega)) (vin (j := 1) (by omega) (by omega)) (by exact hJ1.g (z := 650 + 2 * (b - 1)) (by omega) (by have z := l_fou (r := (b - 1)) (j := 1) (by omega) (by omega); rw [show 649 + 2 * (b - 1) + 1 = 650 + 2 * (b - 1) from by omega] at z; exact z)) ?_
          refine si_3 dX12_grown_113 rfl (Nat.le_of_ble_eq_true rfl) ?_
          refine r_aload_n dX12_grown_114 rfl ?_
          refine r_getRc dX12_grown_115 fgX12_73 rfl (by exact k_167 hJ1.F) (by exact r_167_37 hJ1.F) ?_
          refine r_iload_n dX12_grown_118 rfl ?_
          refine r_aaloadc (b := 271 + b) dX12_grown_119 ⟨Nat.le_of_ble_eq_true rfl, Nat.le_of_ble_eq_true rfl⟩ (by exact k_270 hJ1.F) (vin (by omega) (by omega)) (by rw [nI_cl _ (by omega)]; exact R_fou hJ1.F (by omega)) ?_
          refine r_iconst (1) dX12_grown_120 rfl ?_
          refine r_ialoadc (foH f b) dX12_grown_121 (by exact K_fou hJ1.F (by omega)) (vin (j := 1) (by omega) (by omega)) (by exact hJ1.g (z := 650 + 2 * b) (by omega) (by have z := l_fou (r := b) (j := 1) (by omega) (by omega); rw [show 649 + 2 * b + 1 = 650 + 2 * b from by omega] at z; exact z)) ?_
          refine si_4 dX12_grown_122 rfl (Nat.le_of_ble_eq_true rfl) ?_
          refine r_aload_n dX12_grown_124 rfl ?_
          refine r_getRc dX12_grown_125 fgX12_73 rfl (by exact k_167 hJ1.F) (by exact r_167_37 hJ1.F) ?_
          refine r_iload_n dX12_grown_128 rfl ?_
          refine r_iconst (1) dX12_grown_129 rfl ?_
          refine r_isub dX12_grown_130 ?_
          rw [nI_pr1 (by omega)]
          refine r_aaloadc (b := 271 + (b - 1)) dX12_grown_131 ⟨Nat.le_of_ble_eq_true rfl, Nat.le_of_ble_eq_true rfl⟩ (by exact k_270 hJ1.F) (vin (by omega) (by omega)) (by rw [nI_cl _ (by omega)]; exact R_fou (i := b - 1) hJ1.F (by omega)) ?_
          refine r_iconst (0) dX12_grown_132 rfl ?_
          refine r_ialoadc (foM f (b - 1)) dX12_grown_133 (by exact K_fou hJ1.F (by omega)) (vin (j := 0) (by omega) (by omega)) (by exact hJ1.g (by omega) (l_fou (r := (b - 1)) (j := 0) (by omega) (by omega))) ?_
          refine si_5 dX12_grown_134 rfl (Nat.le_of_ble_eq_true rfl) ?_
          refine r_iload_n dX12_grown_136 rfl ?_
          refine r_iload dX12_grown_137 rfl ?_
          refine r_iload_n dX12_grown_139 rfl ?_
          refine r_isub dX12_grown_140 ?_
          refine r_iload_n dX12_grown_141 rfl ?_
          refine r_iload dX12_grown_142 rfl ?_
          refine r_isub dX12_grown_144 ?_
          refine r_imul dX12_grown_145 ?_
          refine r_aload_n dX12_grown_146 rfl ?_
          refine r_getRc dX12_grown_147 fgX12_73 rfl (by exact k_167 hJ1.F) (by exact r_167_37 hJ1.F) ?_
          refine r_iload_n dX12_grown_150 rfl ?_
          refine r_aaloadc (b := 271 + b) dX12_grown_151 ⟨Nat.le_of_ble_eq_true rfl, Nat.le_of_ble_eq_true rfl⟩ (by exact k_270 hJ1.F) (vin (by omega) (by omega)) (by rw [nI_cl _ (by omega)]; exact R_fou hJ1.F (by omega)) ?_
          refine r_iconst (0) dX12_grown_152 rfl ?_
          refine r_ialoadc (foM f b) dX12_grown_153 (by exact K_fou hJ1.F (by omega)) (vin (j := 0) (by omega) (by omega)) (by exact hJ1.g (by omega) (l_fou (r := b) (j := 0) (by omega) (by omega))) ?_
          refine r_iload dX12_grown_154 rfl ?_
          refine r_isub dX12_grown_156 ?_
          refine r_idiv dX12_grown_157 (fun q => by have z := congrArg Int32.toInt q; have y : (0 : Int32).toInt = 0 := rfl; have := v2.1; omega) ?_
          refine r_iadd dX12_grown_158 ?_
          refine r_ireturn dX12_grown_159 rfl rfl ?_
          have k9 := k ⟨w11a, w11b⟩ _ hJ1
          rw [show foV (foM f) (foH f) x (nFo f) b = _ from (if_neg hb0).trans (if_neg hbn), fo_eq v3 v1 v2] at k9; exact k9
        ·
          have hbn : b = nFo f := (nI_eq (by omega) (by omega)).mp hbn
          refine r_aload_n dX12_grown_89 rfl ?_
          refine r_getRc dX12_grown_90 fgX12_73 rfl (by exact k_167 hJ1.F) (by exact r_167_37 hJ1.F) ?_
          refine r_aload_n dX12_grown_93 rfl ?_
          refine r_getIc (nI (nFo f)) dX12_grown_94 fgX12_349 rfl (by exact k_167 hJ1.F) (by exact (hJ1.g (by omega) l_5).trans hc5) ?_
          refine r_iconst (1) dX12_grown_97 rfl ?_
          refine r_isub dX12_grown_98 ?_
          rw [← hbn, nI_pr1 (by omega)]
          refine r_aaloadc (b := 271 + (b - 1)) dX12_grown_99 ⟨Nat.le_of_ble_eq_true rfl, Nat.le_of_ble_eq_true rfl⟩ (by exact k_270 hJ1.F) (vin (by omega) (by omega)) (by rw [nI_cl _ (by omega)]; exact R_fou (i := b - 1) hJ1.F (by omega)) ?_
          refine r_iconst (1) dX12_grown_100 rfl ?_
          refine r_ialoadc (foH f (b - 1)) dX12_grown_101 (by exact K_fou hJ1.F (by omega)) (vin (j := 1) (by omega) (by omega)) (by exact hJ1.g (z := 650 + 2 * (b - 1)) (by omega) (by have z := l_fou (r := (b - 1)) (j := 1) (by omega) (by omega); rw [show 649 + 2 * (b - 1) + 1 = 650 + 2 * (b - 1) from by omega] at z; exact z)) ?_
          refine r_ireturn dX12_grown_102 rfl rfl ?_
          have k9 := k ⟨w11a, w11b⟩ _ hJ1
          rw [show foV (foM f) (foH f) x (nFo f) b = foH f (b - 1) from (if_neg hb0).trans (if_pos hbn)] at k9; exact k9
      ·
        refine r_aload_n dX12_grown_72 rfl ?_
        refine r_getRc dX12_grown_73 fgX12_73 rfl (by exact k_167 hJ1.F) (by exact r_167_37 hJ1.F) ?_
        refine r_iconst (0) dX12_grown_76 rfl ?_
        refine r_aaloadc (b := 271 + 0) dX12_grown_77 ⟨Nat.le_of_ble_eq_true rfl, Nat.le_of_ble_eq_true rfl⟩ (by exact k_270 hJ1.F) (vin (j := 0) (by omega) (by omega)) (by exact R_fou (i := 0) hJ1.F (by omega)) ?_
        refine r_iconst (1) dX12_grown_78 rfl ?_
        refine r_ialoadc (foH f 0) dX12_grown_79 (by exact K_fou hJ1.F (by omega)) (vin (j := 1) (by omega) (by omega)) (by exact hJ1.g (z := 650 + 2 * 0) (by omega) (by have z := l_fou (r := 0) (j := 1) (by omega) (by omega); rw [show 649 + 2 * 0 + 1 = 650 + 2 * 0 from by omega] at z; exact z)) ?_
        refine r_ireturn dX12_grown_80 rfl rfl ?_
        have b0 : b = 0 := (nI_eq (b := 0) (by have := hb.1; omega) (by omega)).mp hb0
        have k9 := k ⟨w11a, w11b⟩ _ hJ1
        rw [show foV (foM f) (foH f) x (nFo f) b = foH f 0 from (if_pos b0).trans (if_neg (by omega))] at k9; exact k9
    ·
      refine r_iconst (0) dX12_grown_38 rfl ?_
      refine r_ireturn dX12_grown_39 rfl rfl ?_
      have z0 : nFo f = 0 := (nI_eq (b := 0) (by omega) (by omega)).mp hz
      have k9 := k ⟨w11a, w11b⟩ _ hJ1
      rw [show foV (foM f) (foH f) x (nFo f) b = 0 from (if_pos (by have := hb.1; omega)).trans (if_pos z0)] at k9; exact k9
  ·
    show Wp g mX12_grown _ _ _ 14 _ (_ :: _) _ Q
    refine r_if_ne 21 dX12_grown_14 rfl (fun hz => absurd hz (by decide)) (fun _ => ?_)
    refine r_iconst (1) dX12_grown_17 rfl ?_
    refine r_goto 22 dX12_grown_18 rfl ?_
    refine r_iconst (1) dX12_grown_22 rfl ?_
    refine r_callV2 (ci := 12) (d1 := 0) (c1 := 0) (n1 := 0) dX12_grown_23 mvX12_86 rfl ⟨(Nat.le_of_ble_eq_true rfl), rfl⟩ (Nat.le_of_ble_eq_true rfl) (by exact Nat.le_of_ble_eq_true rfl) (by exact k_167 hJ1.F) ?_
    refine S_bad1 hJ1.F hJ1.2.2 (by decide) ?_
    have hJ2 := hJ1.bad 1
    show Wp g mX12_grown _ _ _ 26 _ (_ :: _) _ Q
    refine r_if_eq 31 dX12_grown_26 rfl (fun hz => absurd hz (by decide)) (fun _ => ?_)
    refine r_iconst (0) dX12_grown_29 rfl ?_
    refine r_ireturn dX12_grown_30 rfl rfl ?_
    exact kb w11 _ hJ2
