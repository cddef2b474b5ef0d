theorem not_in {x : Int32} {n : Nat} (hn : n < 1000) (h : ¬ (0 ≤ x ∧ x ≤ nI n - 1)) : x < 0 ∨ nI n ≤ x := by
  have e : (nI n - 1).toInt = (n : Int) - 1 := by
    rw [Int32.toInt_sub, nI_int _ (by omega)]; show Int.bmod ((n : Int) - 1) (2 ^ 32) = _
    rw [Int.bmod_eq_of_le (by omega) (by omega)]
  rw [Int32.le_iff_toInt_le, Int32.le_iff_toInt_le, e] at h
  rw [Int32.lt_iff_toInt_lt, Int32.le_iff_toInt_le, nI_int n (by omega)]
  have z0 : (0 : Int32).toInt = 0 := rfl
  omega
theorem S_X12_isHull {g : GG} {m : MM} {Q : Out → Prop} {f : Nat → Int32} {fs : Nat → Nat → Int32} {ic : Nat} {tp : Nat → Int32} {tn : Nat} {pl : Int32} {n1 n2 : Nat} {ts : Nat → (Nat → Int32) × Nat} {m0 : MM} {t : Int32} (hV : Vf f) (hJ : RJ f fs ic tp tn pl n1 n2 ts m0 t m) {x : Int32} (k1 : ∀ j, x = nI j → j < nH f → Q (.inl (some (.int 1)), m)) (k0 : (x < 0 ∨ nI (nH f) ≤ x) → Q (.inl (some (.int 0)), m)) : Cl g 1 0 0 mX12_isHull [.ref 167, .int x] m Q := by
  refine Cl.of rfl (by decide) (Nat.le_of_ble_eq_true rfl) ?_
  show Wp g mX12_isHull 1 0 0 0 [.ref 167, .int x] [] m Q
  refine r_iload_n dX12_isHull_0 rfl ?_
  refine r_iconst (0) dX12_isHull_1 rfl ?_
  refine r_aload_n dX12_isHull_2 rfl ?_
  refine r_getIc (f 0) dX12_isHull_3 fgX12_90 rfl (by exact k_167 hJ.F) (by exact hJ.g (by omega) l_0) ?_
  refine r_iconst (1) dX12_isHull_6 rfl ?_
  refine r_isub dX12_isHull_7 ?_
  refine r_callS3 (d1 := 0) (c1 := 0) (n1 := 0) dX12_isHull_8 msX12_82 rfl (Nat.le_of_ble_eq_true rfl) (by exact Nat.le_of_ble_eq_true rfl) ?_
  refine S_X12_in (fun wa wb => ?_) (fun w => ?_)
  ·
    show Wp g mX12_isHull _ _ _ 11 _ (_ :: _) _ Q
    refine r_ireturn dX12_isHull_11 rfl rfl ?_
    obtain ⟨j, hj, e⟩ := i32_below (n := nH f) (by have := hV.1.1.2; omega) wa (by rw [← hV.1.1.1]; exact wb)
    exact k1 j e hj
  ·
    show Wp g mX12_isHull _ _ _ 11 _ (_ :: _) _ Q
    refine r_ireturn dX12_isHull_11 rfl rfl ?_
    exact k0 (not_in (by have := hV.1.1.2; omega) (by rw [← hV.1.1.1]; exact w))
theorem S_X12_isLaw {g : GG} {m : MM} {Q : Out → Prop} {f : Nat → Int32} {fs : Nat → Nat → Int32} {ic : Nat} {tp : Nat → Int32} {tn : Nat} {pl : Int32} {n1 n2 : Nat} {ts : Nat → (Nat → Int32) × Nat} {m0 : MM} {t : Int32} (hV : Vf f) (hJ : RJ f fs ic tp tn pl n1 n2 ts m0 t m) {x : Int32} (k1 : ∀ j, x = nI j → j < n1 → Q (.inl (some (.int 1)), m)) (k0 : (x < 0 ∨ nI n1 ≤ x) → Q (.inl (some (.int 0)), m)) : Cl g 1 0 0 mX12_isLaw [.ref 167, .int x] m Q := by
  refine Cl.of rfl (by decide) (Nat.le_of_ble_eq_true rfl) ?_
  show Wp g mX12_isLaw 1 0 0 0 [.ref 167, .int x] [] m Q
  refine r_iload_n dX12_isLaw_0 rfl ?_
  refine r_iconst (0) dX12_isLaw_1 rfl ?_
  refine r_aload_n dX12_isLaw_2 rfl ?_
  refine r_getIc (nI n1) dX12_isLaw_3 fgX12_223 rfl (by exact k_167 hJ.F) (by exact hJ.1.2.2.2.2.2.1.1) ?_
  refine r_iconst (1) dX12_isLaw_6 rfl ?_
  refine r_isub dX12_isLaw_7 ?_
  refine r_callS3 (d1 := 0) (c1 := 0) (n1 := 0) dX12_isLaw_8 msX12_82 rfl (Nat.le_of_ble_eq_true rfl) (by exact Nat.le_of_ble_eq_true rfl) ?_
  refine S_X12_in (fun wa wb => ?_) (fun w => ?_)
  ·
    show Wp g mX12_isLaw _ _ _ 11 _ (_ :: _) _ Q
    refine r_ireturn dX12_isLaw_11 rfl rfl ?_
    obtain ⟨j, hj, e⟩ := i32_below (n := n1) (by have := hJ.1.2.2.2.2.2.1.2; omega) wa wb
    exact k1 j e hj
  ·
    show Wp g mX12_isLaw _ _ _ 11 _ (_ :: _) _ Q
    refine r_ireturn dX12_isLaw_11 rfl rfl ?_
    exact k0 (not_in (by have := hJ.1.2.2.2.2.2.1.2; omega) w)
theorem S_X12_station {g : GG} {m : MM} {Q : Out → Prop} {f : Nat → Int32} {fs : Nat → Nat → Int32} {ic : Nat} {tp : Nat → Int32} {tn : Nat} {pl : Int32} {n1 n2 : Nat} {ts : Nat → (Nat → Int32) × Nat} (hV : Vf f) (hI : RI f fs ic tp tn pl n1 n2 ts m) {x s b d : Int32} (kh : (x < 0 ∨ nI (nH f) ≤ x) → ∀ m', RJ f fs ic tp tn pl n1 n2 ts m 1 m' → Q (.inl (some (.int 0)), m')) (kb : ∀ j, x = nI j → j < nH f → ¬ ((0 ≤ s ∧ s ≤ nI (nS f j) - 1) ∧ ((0 ≤ b ∧ b ≤ 60) ∧ 0 ≤ d ∧ d ≤ 60)) → ∀ m', RJ f fs ic tp tn pl n1 n2 ts m 2 m' → Q (.inl (some (.int 0)), m')) (k : ∀ j, x = nI j → j < nH f → ∀ t, s = nI t → t < nS f j → ((0 ≤ b ∧ b ≤ 60) ∧ 0 ≤ d ∧ d ≤ 60) → ∀ m', RJ (staF f j t b d) fs ic tp tn pl n1 n2 ts m 0 m' → Q (.inl (some (.int (100 * f (73 + 24 * j + t) + f (85 + 24 * j + t)))), m')) : Cl g 2 0 0 mX12_station [.ref 167, .int x, .int s, .int b, .int d] m Q := by
  refine Cl.of rfl (by decide) (Nat.le_of_ble_eq_true rfl) ?_
  show Wp g mX12_station 2 0 0 0 [.ref 167, .int x, .int s, .int b, .int d, .retAddr 0] [] m Q
  refine r_aload_n dX12_station_0 rfl ?_
  refine r_iconst (0) dX12_station_1 rfl ?_
  refine r_putI dX12_station_2 (fpX12_79 _ rfl) rfl (by exact k_167 hI.1) ⟨rfl, rfl⟩ ?_
  have hJ1 := hI.go
  refine r_aload_n dX12_station_5 rfl ?_
  refine r_aload_n dX12_station_6 rfl ?_
  refine r_iload_n dX12_station_7 rfl ?_
  refine r_callV1 (ci := 12) (d1 := 1) (c1 := 0) (n1 := 0) dX12_station_8 mvX12_93 rfl ⟨(Nat.le_of_ble_eq_true rfl), rfl⟩ (Nat.le_of_ble_eq_true rfl) (by exact Nat.le_of_ble_eq_true rfl) (by exact k_167 hJ1.F) ?_
  refine S_X12_isHull hV hJ1 (fun j hj hjn => ?_) (fun h0 => ?_)
  ·
    subst hj
    show Wp g mX12_station _ _ _ 11 _ (_ :: _) _ Q
    refine r_if_ne 18 dX12_station_11 rfl (fun _ => ?_) (fun hz => absurd hz (by decide))
    refine r_iconst (0) dX12_station_18 rfl ?_
    refine r_iconst (1) dX12_station_19 rfl ?_
    refine r_callV2 (ci := 12) (d1 := 0) (c1 := 0) (n1 := 0) dX12_station_20 mvX12_86 rfl ⟨(Nat.le_of_ble_eq_true rfl), rfl⟩ (Nat.le_of_ble_eq_true rfl) (by exact Nat.le_of_ble_eq_true rfl) (by exact k_167 hJ1.F) ?_
    refine S_bad0 hJ1.F hJ1.2.2 ?_
    show Wp g mX12_station _ _ _ 23 _ (_ :: _) _ Q
    refine r_if_ne 76 dX12_station_23 rfl (fun hz => absurd hz (by decide)) (fun _ => ?_)
    have h12 := (hV.2.1 j hjn).2.2.2.1
    have h6 : j < 6 := by have := hV.1.1.2; omega
    refine r_aload_n dX12_station_26 rfl ?_
    refine r_iload_n dX12_station_27 rfl ?_
    refine r_iconst (0) dX12_station_28 rfl ?_
    refine r_aload_n dX12_station_29 rfl ?_
    refine r_getRc dX12_station_30 fgX12_37 rfl (by exact k_167 hJ1.F) (by exact r_167_21 hJ1.F) ?_
    refine r_iload_n dX12_station_33 rfl ?_
    refine r_ialoadc (nI (nS f j)) dX12_station_34 (by exact k_181 hJ1.F) (vin (by omega) (by omega)) (by rw [nI_cl _ (by omega)]; exact (hJ1.g (by omega) (l_sta (by omega))).trans (hV.2.1 j hjn).2.1) ?_
    refine r_iconst (1) dX12_station_35 rfl ?_
    refine r_isub dX12_station_36 ?_
    refine r_callS3 (d1 := 0) (c1 := 0) (n1 := 0) dX12_station_37 msX12_82 rfl (Nat.le_of_ble_eq_true rfl) (by exact Nat.le_of_ble_eq_true rfl) ?_
    refine S_X12_in (fun w37a w37b => ?_) (fun w37 => ?_)
    ·
      show Wp g mX12_station _ _ _ 40 _ (_ :: _) _ Q
      refine r_if_eq 64 dX12_station_40 rfl (fun hz => absurd hz (by decide)) (fun _ => ?_)
      refine r_iload_n dX12_station_43 rfl ?_
      refine r_iconst (0) dX12_station_44 rfl ?_
      refine r_bipush (60) dX12_station_45 rfl ?_
      refine r_callS3 (d1 := 0) (c1 := 0) (n1 := 0) dX12_station_47 msX12_82 rfl (Nat.le_of_ble_eq_true rfl) (by exact Nat.le_of_ble_eq_true rfl) ?_
      refine S_X12_in (fun w47a w47b => ?_) (fun w47 => ?_)
      ·
        show Wp g mX12_station _ _ _ 50 _ (_ :: _) _ Q
        refine r_if_eq 64 dX12_station_50 rfl (fun hz => absurd hz (by decide)) (fun _ => ?_)
        refine r_iload dX12_station_53 rfl ?_
        refine r_iconst (0) dX12_station_55 rfl ?_
        refine r_bipush (60) dX12_station_56 rfl ?_
        refine r_callS3 (d1 := 0) (c1 := 0) (n1 := 0) dX12_station_58 msX12_82 rfl (Nat.le_of_ble_eq_true rfl) (by exact Nat.le_of_ble_eq_true rfl) ?_
        refine S_X12_in (fun w58a w58b => ?_) (fun w58 => ?_)
        ·
          show Wp g mX12_station _ _ _ 61 _ (_ :: _) _ Q
          refine r_if_ne 68 dX12_station_61 rfl (fun _ => ?_) (fun hz => absurd hz (by decide))
          refine r_iconst (0) dX12_station_68 rfl ?_
          refine r_iconst (2) dX12_station_69 rfl ?_
          refine r_callV2 (ci := 12) (d1 := 0) (c1 := 0) (n1 := 0) dX12_station_70 mvX12_86 rfl ⟨(Nat.le_of_ble_eq_true rfl), rfl⟩ (Nat.le_of_ble_eq_true rfl) (by exact Nat.le_of_ble_eq_true rfl) (by exact k_167 hJ1.F) ?_
          refine S_bad0 hJ1.F hJ1.2.2 ?_
          show Wp g mX12_station _ _ _ 73 _ (_ :: _) _ Q
          refine r_if_eq 78 dX12_station_73 rfl (fun _ => ?_) (fun hz => absurd hz (by decide))
          obtain ⟨t, ht, rfl⟩ := i32_below (n := nS f j) (by omega) w37a w37b
          refine r_bipush (100) dX12_station_78 rfl ?_
          refine r_aload_n dX12_station_80 rfl ?_
          refine r_getRc dX12_station_81 fgX12_40 rfl (by exact k_167 hJ1.F) (by exact r_167_22 hJ1.F) ?_
          refine r_iload_n dX12_station_84 rfl ?_
          refine r_aaloadc (b := 183 + j) dX12_station_85 ⟨Nat.le_of_ble_eq_true rfl, Nat.le_of_ble_eq_true rfl⟩ (by exact k_182 hJ1.F) (vin (by omega) (by omega)) (by rw [nI_cl _ (by omega)]; exact R_bea hJ1.F (by omega)) ?_
          refine r_iload_n dX12_station_86 rfl ?_
          refine r_ialoadc (f (73 + 24 * j + t)) dX12_station_87 (by exact K_bea hJ1.F (by omega)) (vin (by omega) (by omega)) (by rw [nI_cl _ (by omega)]; exact hJ1.g (by omega) (l_bea (by omega) (by omega))) ?_
          refine r_imul dX12_station_88 ?_
          refine r_aload_n dX12_station_89 rfl ?_
          refine r_getRc dX12_station_90 fgX12_43 rfl (by exact k_167 hJ1.F) (by exact r_167_23 hJ1.F) ?_
          refine r_iload_n dX12_station_93 rfl ?_
          refine r_aaloadc (b := 190 + j) dX12_station_94 ⟨Nat.le_of_ble_eq_true rfl, Nat.le_of_ble_eq_true rfl⟩ (by exact k_189 hJ1.F) (vin (by omega) (by omega)) (by rw [nI_cl _ (by omega)]; exact R_dra hJ1.F (by omega)) ?_
          refine r_iload_n dX12_station_95 rfl ?_
          refine r_ialoadc (f (85 + 24 * j + t)) dX12_station_96 (by exact K_dra hJ1.F (by omega)) (vin (by omega) (by omega)) (by rw [nI_cl _ (by omega)]; exact hJ1.g (by omega) (l_dra (by omega) (by omega))) ?_
          refine r_iadd dX12_station_97 ?_
          refine si_5 dX12_station_98 rfl (Nat.le_of_ble_eq_true rfl) ?_
          refine r_aload_n dX12_station_100 rfl ?_
          refine r_getRc dX12_station_101 fgX12_40 rfl (by exact k_167 hJ1.F) (by exact r_167_22 hJ1.F) ?_
          refine r_iload_n dX12_station_104 rfl ?_
          refine r_aaloadc (b := 183 + j) dX12_station_105 ⟨Nat.le_of_ble_eq_true rfl, Nat.le_of_ble_eq_true rfl⟩ (by exact k_182 hJ1.F) (vin (by omega) (by omega)) (by rw [nI_cl _ (by omega)]; exact R_bea hJ1.F (by omega)) ?_
          refine r_iload_n dX12_station_106 rfl ?_
          refine r_iload_n dX12_station_107 rfl ?_
          refine r_iastoren (t) (nI_cl _ (by omega)) dX12_station_108 (by exact K_bea hJ1.F (by omega)) (vin (by omega) (by omega)) ?_
          have hJ2 := hJ1.up (z := 73 + 24 * j + t) (v := b) (by omega) (l_bea (by omega) (by omega))
          refine r_aload_n dX12_station_109 rfl ?_
          refine r_getRc dX12_station_110 fgX12_43 rfl (by exact k_167 hJ2.F) (by exact r_167_23 hJ2.F) ?_
          refine r_iload_n dX12_station_113 rfl ?_
          refine r_aaloadc (b := 190 + j) dX12_station_114 ⟨Nat.le_of_ble_eq_true rfl, Nat.le_of_ble_eq_true rfl⟩ (by exact k_189 hJ2.F) (vin (by omega) (by omega)) (by rw [nI_cl _ (by omega)]; exact R_dra hJ2.F (by omega)) ?_
          refine r_iload_n dX12_station_115 rfl ?_
          refine r_iload dX12_station_116 rfl ?_
          refine r_iastoren (t) (nI_cl _ (by omega)) dX12_station_118 (by exact K_dra hJ2.F (by omega)) (vin (by omega) (by omega)) ?_
          have hJ3 := hJ2.up (z := 85 + 24 * j + t) (v := d) (by omega) (l_dra (by omega) (by omega))
          refine r_iload dX12_station_119 rfl ?_
          refine r_ireturn dX12_station_121 rfl rfl ?_
          exact k j rfl hjn t rfl ht ⟨⟨w47a, w47b⟩, ⟨w58a, w58b⟩⟩ _ hJ3
        ·
          show Wp g mX12_station _ _ _ 61 _ (_ :: _) _ Q
          refine r_if_ne 68 dX12_station_61 rfl (fun hz => absurd hz (by decide)) (fun _ => ?_)
          refine r_iconst (1) dX12_station_64 rfl ?_
          refine r_goto 69 dX12_station_65 rfl ?_
          refine r_iconst (2) dX12_station_69 rfl ?_
          refine r_callV2 (ci := 12) (d1 := 0) (c1 := 0) (n1 := 0) dX12_station_70 mvX12_86 rfl ⟨(Nat.le_of_ble_eq_true rfl), rfl⟩ (Nat.le_of_ble_eq_true rfl) (by exact Nat.le_of_ble_eq_true rfl) (by exact k_167 hJ1.F) ?_
          refine S_bad1 hJ1.F hJ1.2.2 (by decide) ?_
          have hJ4 := hJ1.bad 2
          show Wp g mX12_station _ _ _ 73 _ (_ :: _) _ Q
          refine r_if_eq 78 dX12_station_73 rfl (fun hz => absurd hz (by decide)) (fun _ => ?_)
          refine r_iconst (0) dX12_station_76 rfl ?_
          refine r_ireturn dX12_station_77 rfl rfl ?_
          first | exact kb j rfl hjn (fun q => w37 q.1) _ hJ4 | exact kb j rfl hjn (fun q => w47 q.2.1) _ hJ4 | exact kb j rfl hjn (fun q => w58 q.2.2) _ hJ4
      ·
        show Wp g mX12_station _ _ _ 50 _ (_ :: _) _ Q
        refine r_if_eq 64 dX12_station_50 rfl (fun _ => ?_) (fun hz => absurd hz (by decide))
        refine r_iconst (1) dX12_station_64 rfl ?_
        refine r_goto 69 dX12_station_65 rfl ?_
        refine r_iconst (2) dX12_station_69 rfl ?_
        refine r_callV2 (ci := 12) (d1 := 0) (c1 := 0) (n1 := 0) dX12_station_70 mvX12_86 rfl ⟨(Nat.le_of_ble_eq_true rfl), rfl⟩ (Nat.le_of_ble_eq_true rfl) (by exact Nat.le_of_ble_eq_true rfl) (by exact k_167 hJ1.F) ?_
        refine S_bad1 hJ1.F hJ1.2.2 (by decide) ?_
        have hJ5 := hJ1.bad 2
        show Wp g mX12_station _ _ _ 73 _ (_ :: _) _ Q
        refine r_if_eq 78 dX12_station_73 rfl (fun hz => absurd hz (by decide)) (fun _ => ?_)
        refine r_iconst (0) dX12_station_76 rfl ?_
        refine r_ireturn dX12_station_77 rfl rfl ?_
        first | exact kb j rfl hjn (fun q => w37 q.1) _ hJ5 | exact kb j rfl hjn (fun q => w47 q.2.1) _ hJ5 | exact kb j rfl hjn (fun q => w58 q.2.2) _ hJ5
    ·
      show Wp g mX12_station _ _ _ 40 _ (_ :: _) _ Q
      refine r_if_eq 64 dX12_station_40 rfl (fun _ => ?_) (fun hz => absurd hz (by decide))
      refine r_iconst (1) dX12_station_64 rfl ?_
      refine r_goto 69 dX12_station_65 rfl ?_
      refine r_iconst (2) dX12_station_69 rfl ?_
      refine r_callV2 (ci := 12) (d1 := 0) (c1 := 0) (n1 := 0) dX12_station_70 mvX12_86 rfl ⟨(Nat.le_of_ble_eq_true rfl), rfl⟩ (Nat.le_of_ble_eq_true rfl) (by exact Nat.le_of_ble_eq_true rfl) (by exact k_167 hJ1.F) ?_
      refine S_bad1 hJ1.F hJ1.2.2 (by decide) ?_
      have hJ6 := hJ1.bad 2
      show Wp g mX12_station _ _ _ 73 _ (_ :: _) _ Q
      refine r_if_eq 78 dX12_station_73 rfl (fun hz => absurd hz (by decide)) (fun _ => ?_)
      refine r_iconst (0) dX12_station_76 rfl ?_
      refine r_ireturn dX12_station_77 rfl rfl ?_
      first | exact kb j rfl hjn (fun q => w37 q.1) _ hJ6 | exact kb j rfl hjn (fun q => w47 q.2.1) _ hJ6 | exact kb j rfl hjn (fun q => w58 q.2.2) _ hJ6
  ·
    show Wp g mX12_station _ _ _ 11 _ (_ :: _) _ Q
    refine r_if_ne 18 dX12_station_11 rfl (fun hz => absurd hz (by decide)) (fun _ => ?_)
    refine r_iconst (1) dX12_station_14 rfl ?_
    refine r_goto 19 dX12_station_15 rfl ?_
    refine r_iconst (1) dX12_station_19 rfl ?_
    refine r_callV2 (ci := 12) (d1 := 0) (c1 := 0) (n1 := 0) dX12_station_20 mvX12_86 rfl ⟨(Nat.le_of_ble_eq_true rfl), rfl⟩ (Nat.le_of_ble_eq_true rfl) (by exact Nat.le_of_ble_eq_true rfl) (by exact k_167 hJ1.F) ?_
    refine S_bad1 hJ1.F hJ1.2.2 (by decide) ?_
    have hJ7 := hJ1.bad 1
    show Wp g mX12_station _ _ _ 23 _ (_ :: _) _ Q
    refine r_if_ne 76 dX12_station_23 rfl (fun _ => ?_) (fun hz => absurd hz (by decide))
    refine r_iconst (0) dX12_station_76 rfl ?_
    refine r_ireturn dX12_station_77 rfl rfl ?_
    exact kh h0 _ hJ7
theorem S_X12_set {g : GG} {m : MM} {Q : Out → Prop} {f : Nat → Int32} {fs : Nat → Nat → Int32} {ic : Nat} {tp : Nat → Int32} {tn : Nat} {pl : Int32} {n1 n2 : Nat} {ts : Nat → (Nat → Int32) × Nat} (hV : Vf f) (hI : RI f fs ic tp tn pl n1 n2 ts m) {x y z w : Int32} (kh : (x < 0 ∨ nI (nH f) ≤ x) → ∀ m', RJ f fs ic tp tn pl n1 n2 ts m 1 m' → Q (.inl (some (.int 0)), m')) (kt : ∀ j, x = nI j → j < nH f → ¬ (-1 ≤ w ∧ w ≤ f 1 - 1) → ∀ m', RJ f fs ic tp tn pl n1 n2 ts m 2 m' → Q (.inl (some (.int 0)), m')) (kb : ∀ j, x = nI j → j < nH f → -1 ≤ w → w ≤ f 1 - 1 → ¬ ((1 ≤ y ∧ y ≤ 40) ∧ 1 ≤ z ∧ z ≤ 99) → ∀ m', RJ f fs ic tp tn pl n1 n2 ts m 3 m' → Q (.inl (some (.int 0)), m')) (k : ∀ j, x = nI j → j < nH f → -1 ≤ w → w ≤ f 1 - 1 → ((1 ≤ y ∧ y ≤ 40) ∧ 1 ≤ z ∧ z ≤ 99) → ∀ m', RJ (setF f x y z w) fs ic tp tn pl n1 n2 ts m 0 m' → Q (.inl (some (.int (f 28))), m')) : Cl g 2 0 0 mX12_set [.ref 167, .int x, .int y, .int z, .int w] m Q := by
  refine Cl.of rfl (by decide) (Nat.le_of_ble_eq_true rfl) ?_
  show Wp g mX12_set 2 0 0 0 [.ref 167, .int x, .int y, .int z, .int w, .retAddr 0] [] m Q
  refine r_aload_n dX12_set_0 rfl ?_
  refine r_iconst (0) dX12_set_1 rfl ?_
  refine r_putI dX12_set_2 (fpX12_79 _ rfl) rfl (by exact k_167 hI.1) ⟨rfl, rfl⟩ ?_
  have hJ1 := hI.go
  refine r_aload_n dX12_set_5 rfl ?_
  refine r_aload_n dX12_set_6 rfl ?_
  refine r_iload_n dX12_set_7 rfl ?_
  refine r_callV1 (ci := 12) (d1 := 1) (c1 := 0) (n1 := 0) dX12_set_8 mvX12_93 rfl ⟨(Nat.le_of_ble_eq_true rfl), rfl⟩ (Nat.le_of_ble_eq_true rfl) (by exact Nat.le_of_ble_eq_true rfl) (by exact k_167 hJ1.F) ?_
  refine S_X12_isHull hV hJ1 (fun j hj hjn => ?_) (fun h0 => ?_)
  ·
    subst hj
    show Wp g mX12_set _ _ _ 11 _ (_ :: _) _ Q
    refine r_if_ne 18 dX12_set_11 rfl (fun _ => ?_) (fun hz => absurd hz (by decide))
    refine r_iconst (0) dX12_set_18 rfl ?_
    refine r_iconst (1) dX12_set_19 rfl ?_
    refine r_callV2 (ci := 12) (d1 := 0) (c1 := 0) (n1 := 0) dX12_set_20 mvX12_86 rfl ⟨(Nat.le_of_ble_eq_true rfl), rfl⟩ (Nat.le_of_ble_eq_true rfl) (by exact Nat.le_of_ble_eq_true rfl) (by exact k_167 hJ1.F) ?_
    refine S_bad0 hJ1.F hJ1.2.2 ?_
    show Wp g mX12_set _ _ _ 23 _ (_ :: _) _ Q
    refine r_if_ne 87 dX12_set_23 rfl (fun hz => absurd hz (by decide)) (fun _ => ?_)
    refine r_aload_n dX12_set_26 rfl ?_
    refine r_iload dX12_set_27 rfl ?_
    refine r_iconst (-1) dX12_set_29 rfl ?_
    refine r_aload_n dX12_set_30 rfl ?_
    refine r_getIc (f 1) dX12_set_31 fgX12_105 rfl (by exact k_167 hJ1.F) (by exact hJ1.g (by omega) l_1) ?_
    refine r_iconst (1) dX12_set_34 rfl ?_
    refine r_isub dX12_set_35 ?_
    refine r_callS3 (d1 := 0) (c1 := 0) (n1 := 0) dX12_set_36 msX12_82 rfl (Nat.le_of_ble_eq_true rfl) (by exact Nat.le_of_ble_eq_true rfl) ?_
    refine S_X12_in (fun w36a w36b => ?_) (fun w36 => ?_)
    ·
      show Wp g mX12_set _ _ _ 39 _ (_ :: _) _ Q
      refine r_if_ne 46 dX12_set_39 rfl (fun _ => ?_) (fun hz => absurd hz (by decide))
      refine r_iconst (0) dX12_set_46 rfl ?_
      refine r_iconst (2) dX12_set_47 rfl ?_
      refine r_callV2 (ci := 12) (d1 := 0) (c1 := 0) (n1 := 0) dX12_set_48 mvX12_86 rfl ⟨(Nat.le_of_ble_eq_true rfl), rfl⟩ (Nat.le_of_ble_eq_true rfl) (by exact Nat.le_of_ble_eq_true rfl) (by exact k_167 hJ1.F) ?_
      refine S_bad0 hJ1.F hJ1.2.2 ?_
      show Wp g mX12_set _ _ _ 51 _ (_ :: _) _ Q
      refine r_if_ne 87 dX12_set_51 rfl (fun hz => absurd hz (by decide)) (fun _ => ?_)
      refine r_aload_n dX12_set_54 rfl ?_
      refine r_iload_n dX12_set_55 rfl ?_
      refine r_iconst (1) dX12_set_56 rfl ?_
      refine r_bipush (40) dX12_set_57 rfl ?_
      refine r_callS3 (d1 := 0) (c1 := 0) (n1 := 0) dX12_set_59 msX12_82 rfl (Nat.le_of_ble_eq_true rfl) (by exact Nat.le_of_ble_eq_true rfl) ?_
      refine S_X12_in (fun w59a w59b => ?_) (fun w59 => ?_)
      ·
        show Wp g mX12_set _ _ _ 62 _ (_ :: _) _ Q
        refine r_if_eq 75 dX12_set_62 rfl (fun hz => absurd hz (by decide)) (fun _ => ?_)
        refine r_iload_n dX12_set_65 rfl ?_
        refine r_iconst (1) dX12_set_66 rfl ?_
        refine r_bipush (99) dX12_set_67 rfl ?_
        refine r_callS3 (d1 := 0) (c1 := 0) (n1 := 0) dX12_set_69 msX12_82 rfl (Nat.le_of_ble_eq_true rfl) (by exact Nat.le_of_ble_eq_true rfl) ?_
        refine S_X12_in (fun w69a w69b => ?_) (fun w69 => ?_)
        ·
          show Wp g mX12_set _ _ _ 72 _ (_ :: _) _ Q
          refine r_if_ne 79 dX12_set_72 rfl (fun _ => ?_) (fun hz => absurd hz (by decide))
          refine r_iconst (0) dX12_set_79 rfl ?_
          refine r_iconst (3) dX12_set_80 rfl ?_
          refine r_callV2 (ci := 12) (d1 := 0) (c1 := 0) (n1 := 0) dX12_set_81 mvX12_86 rfl ⟨(Nat.le_of_ble_eq_true rfl), rfl⟩ (Nat.le_of_ble_eq_true rfl) (by exact Nat.le_of_ble_eq_true rfl) (by exact k_167 hJ1.F) ?_
          refine S_bad0 hJ1.F hJ1.2.2 ?_
          show Wp g mX12_set _ _ _ 84 _ (_ :: _) _ Q
          refine r_if_eq 89 dX12_set_84 rfl (fun _ => ?_) (fun hz => absurd hz (by decide))
          refine r_aload_n dX12_set_89 rfl ?_
          refine r_getRc dX12_set_90 fgX12_52 rfl (by exact k_167 hJ1.F) (by exact r_167_26 hJ1.F) ?_
          refine r_iconst (1) dX12_set_93 rfl ?_
          refine r_ialoadc (f 28) dX12_set_94 (by exact k_198 hJ1.F) (vin (j := 1) (by omega) (by omega)) (by exact hJ1.g (by omega) (l_han (i := 1) (by omega))) ?_
          refine si_5 dX12_set_95 rfl (Nat.le_of_ble_eq_true rfl) ?_
          refine r_aload_n dX12_set_97 rfl ?_
          refine r_getRc dX12_set_98 fgX12_52 rfl (by exact k_167 hJ1.F) (by exact r_167_26 hJ1.F) ?_
          refine r_iconst (0) dX12_set_101 rfl ?_
          refine r_iload_n dX12_set_102 rfl ?_
          refine r_iastoren (0) rfl dX12_set_103 (by exact k_198 hJ1.F) (vin (j := 0) (by omega) (by omega)) ?_
          have hJ2 := hJ1.up (z := 27) (v := nI j) (by omega) (l_han (i := 0) (by omega))
          refine r_aload_n dX12_set_104 rfl ?_
          refine r_getRc dX12_set_105 fgX12_52 rfl (by exact k_167 hJ2.F) (by exact r_167_26 hJ2.F) ?_
          refine r_iconst (1) dX12_set_108 rfl ?_
          refine r_iload_n dX12_set_109 rfl ?_
          refine r_iastoren (1) rfl dX12_set_110 (by exact k_198 hJ2.F) (vin (j := 1) (by omega) (by omega)) ?_
          have hJ3 := hJ2.up (z := 28) (v := y) (by omega) (l_han (i := 1) (by omega))
          refine r_aload_n dX12_set_111 rfl ?_
          refine r_getRc dX12_set_112 fgX12_52 rfl (by exact k_167 hJ3.F) (by exact r_167_26 hJ3.F) ?_
          refine r_iconst (2) dX12_set_115 rfl ?_
          refine r_iload_n dX12_set_116 rfl ?_
          refine r_iastoren (2) rfl dX12_set_117 (by exact k_198 hJ3.F) (vin (j := 2) (by omega) (by omega)) ?_
          have hJ4 := hJ3.up (z := 29) (v := z) (by omega) (l_han (i := 2) (by omega))
          refine r_aload_n dX12_set_118 rfl ?_
          refine r_getRc dX12_set_119 fgX12_52 rfl (by exact k_167 hJ4.F) (by exact r_167_26 hJ4.F) ?_
          refine r_iconst (3) dX12_set_122 rfl ?_
          refine r_iload dX12_set_123 rfl ?_
          refine r_iastoren (3) rfl dX12_set_125 (by exact k_198 hJ4.F) (vin (j := 3) (by omega) (by omega)) ?_
          have hJ5 := hJ4.up (z := 30) (v := w) (by omega) (l_han (i := 3) (by omega))
          refine r_iload dX12_set_126 rfl ?_
          refine r_ireturn dX12_set_128 rfl rfl ?_
          exact k j rfl hjn w36a w36b ⟨⟨w59a, w59b⟩, ⟨w69a, w69b⟩⟩ _ hJ5
        ·
          show Wp g mX12_set _ _ _ 72 _ (_ :: _) _ Q
          refine r_if_ne 79 dX12_set_72 rfl (fun hz => absurd hz (by decide)) (fun _ => ?_)
          refine r_iconst (1) dX12_set_75 rfl ?_
          refine r_goto 80 dX12_set_76 rfl ?_
          refine r_iconst (3) dX12_set_80 rfl ?_
          refine r_callV2 (ci := 12) (d1 := 0) (c1 := 0) (n1 := 0) dX12_set_81 mvX12_86 rfl ⟨(Nat.le_of_ble_eq_true rfl), rfl⟩ (Nat.le_of_ble_eq_true rfl) (by exact Nat.le_of_ble_eq_true rfl) (by exact k_167 hJ1.F) ?_
          refine S_bad1 hJ1.F hJ1.2.2 (by decide) ?_
          have hJ6 := hJ1.bad 3
          show Wp g mX12_set _ _ _ 84 _ (_ :: _) _ Q
          refine r_if_eq 89 dX12_set_84 rfl (fun hz => absurd hz (by decide)) (fun _ => ?_)
          refine r_iconst (0) dX12_set_87 rfl ?_
          refine r_ireturn dX12_set_88 rfl rfl ?_
          first | exact kb j rfl hjn w36a w36b (fun q => w59 q.1) _ hJ6 | exact kb j rfl hjn w36a w36b (fun q => w69 q.2) _ hJ6
      ·
        show Wp g mX12_set _ _ _ 62 _ (_ :: _) _ Q
        refine r_if_eq 75 dX12_set_62 rfl (fun _ => ?_) (fun hz => absurd hz (by decide))
        refine r_iconst (1) dX12_set_75 rfl ?_
        refine r_goto 80 dX12_set_76 rfl ?_
        refine r_iconst (3) dX12_set_80 rfl ?_
        refine r_callV2 (ci := 12) (d1 := 0) (c1 := 0) (n1 := 0) dX12_set_81 mvX12_86 rfl ⟨(Nat.le_of_ble_eq_true rfl), rfl⟩ (Nat.le_of_ble_eq_true rfl) (by exact Nat.le_of_ble_eq_true rfl) (by exact k_167 hJ1.F) ?_
        refine S_bad1 hJ1.F hJ1.2.2 (by decide) ?_
        have hJ7 := hJ1.bad 3
        show Wp g mX12_set _ _ _ 84 _ (_ :: _) _ Q
        refine r_if_eq 89 dX12_set_84 rfl (fun hz => absurd hz (by decide)) (fun _ => ?_)
        refine r_iconst (0) dX12_set_87 rfl ?_
        refine r_ireturn dX12_set_88 rfl rfl ?_
        first | exact kb j rfl hjn w36a w36b (fun q => w59 q.1) _ hJ7 | exact kb j rfl hjn w36a w36b (fun q => w69 q.2) _ hJ7
    ·
      show Wp g mX12_set _ _ _ 39 _ (_ :: _) _ Q
      refine r_if_ne 46 dX12_set_39 rfl (fun hz => absurd hz (by decide)) (fun _ => ?_)
      refine r_iconst (1) dX12_set_42 rfl ?_
      refine r_goto 47 dX12_set_43 rfl ?_
      refine r_iconst (2) dX12_set_47 rfl ?_
      refine r_callV2 (ci := 12) (d1 := 0) (c1 := 0) (n1 := 0) dX12_set_48 mvX12_86 rfl ⟨(Nat.le_of_ble_eq_true rfl), rfl⟩ (Nat.le_of_ble_eq_true rfl) (by exact Nat.le_of_ble_eq_true rfl) (by exact k_167 hJ1.F) ?_
      refine S_bad1 hJ1.F hJ1.2.2 (by decide) ?_
      have hJ8 := hJ1.bad 2
      show Wp g mX12_set _ _ _ 51 _ (_ :: _) _ Q
      refine r_if_ne 87 dX12_set_51 rfl (fun _ => ?_) (fun hz => absurd hz (by decide))
      refine r_iconst (0) dX12_set_87 rfl ?_
      refine r_ireturn dX12_set_88 rfl rfl ?_
      exact kt j rfl hjn w36 _ hJ8
  ·
    show Wp g mX12_set _ _ _ 11 _ (_ :: _) _ Q
    refine r_if_ne 18 dX12_set_11 rfl (fun hz => absurd hz (by decide)) (fun _ => ?_)
    refine r_iconst (1) dX12_set_14 rfl ?_
    refine r_goto 19 dX12_set_15 rfl ?_
    refine r_iconst (1) dX12_set_19 rfl ?_
    refine r_callV2 (ci := 12) (d1 := 0) (c1 := 0) (n1 := 0) dX12_set_20 mvX12_86 rfl ⟨(Nat.le_of_ble_eq_true rfl), rfl⟩ (Nat.le_of_ble_eq_true rfl) (by exact Nat.le_of_ble_eq_true rfl) (by exact k_167 hJ1.F) ?_
    refine S_bad1 hJ1.F hJ1.2.2 (by decide) ?_
    have hJ9 := hJ1.bad 1
    show Wp g mX12_set _ _ _ 23 _ (_ :: _) _ Q
    refine r_if_ne 87 dX12_set_23 rfl (fun _ => ?_) (fun hz => absurd hz (by decide))
    refine r_iconst (0) dX12_set_87 rfl ?_
    refine r_ireturn dX12_set_88 rfl rfl ?_
    exact kh h0 _ hJ9
theorem S_X12_ran {g : GG} {m : MM} {Q : Out → Prop} {f : Nat → Int32} {fs : Nat → Nat → Int32} {ic : Nat} {tp : Nat → Int32} {tn : Nat} {pl : Int32} {n1 n2 : Nat} {ts : Nat → (Nat → Int32) × Nat} (hV : Vf f) (hI : RI f fs ic tp tn pl n1 n2 ts m) {x y : Int32} (kh : ¬ (0 ≤ x ∧ x ≤ nI (nR f) - 1) → ∀ m', RJ f fs ic tp tn pl n1 n2 ts m 1 m' → Q (.inl (some (.int 0)), m')) (kb : (0 ≤ x ∧ x ≤ nI (nR f) - 1) → ¬ (0 ≤ y ∧ y ≤ 6) → ∀ m', RJ f fs ic tp tn pl n1 n2 ts m 2 m' → Q (.inl (some (.int 0)), m')) (k : ∀ r, r < nR f → x = nI r → ∀ i, i < 7 → y = nI i → ∀ m', RJ f fs ic tp tn pl n1 n2 ts m 0 m' → Q (.inl (some (.int (rn f r i))), m')) : Cl g 1 0 0 mX12_ran [.ref 167, .int x, .int y] m Q := by
  refine Cl.of rfl (by decide) (Nat.le_of_ble_eq_true rfl) ?_
  show Wp g mX12_ran 1 0 0 0 [.ref 167, .int x, .int y] [] m Q
  refine r_aload_n dX12_ran_0 rfl ?_
  refine r_iconst (0) dX12_ran_1 rfl ?_
  refine r_putI dX12_ran_2 (fpX12_79 _ rfl) rfl (by exact k_167 hI.1) ⟨rfl, rfl⟩ ?_
  have hJ1 := hI.go
  refine r_aload_n dX12_ran_5 rfl ?_
  refine r_iload_n dX12_ran_6 rfl ?_
  refine r_iconst (0) dX12_ran_7 rfl ?_
  refine r_aload_n dX12_ran_8 rfl ?_
  refine r_getIc (f 2) dX12_ran_9 fgX12_287 rfl (by exact k_167 hJ1.F) (by exact hJ1.g (by omega) l_2) ?_
  refine r_iconst (1) dX12_ran_12 rfl ?_
  refine r_isub dX12_ran_13 ?_
  refine r_callS3 (d1 := 0) (c1 := 0) (n1 := 0) dX12_ran_14 msX12_82 rfl (Nat.le_of_ble_eq_true rfl) (by exact Nat.le_of_ble_eq_true rfl) ?_
  refine S_X12_in (fun w14a w14b => ?_) (fun w14 => ?_)
  ·
    show Wp g mX12_ran _ _ _ 17 _ (_ :: _) _ Q
    refine r_if_ne 24 dX12_ran_17 rfl (fun _ => ?_) (fun hz => absurd hz (by decide))
    refine r_iconst (0) dX12_ran_24 rfl ?_
    refine r_iconst (1) dX12_ran_25 rfl ?_
    refine r_callV2 (ci := 12) (d1 := 0) (c1 := 0) (n1 := 0) dX12_ran_26 mvX12_86 rfl ⟨(Nat.le_of_ble_eq_true rfl), rfl⟩ (Nat.le_of_ble_eq_true rfl) (by exact Nat.le_of_ble_eq_true rfl) (by exact k_167 hJ1.F) ?_
    refine S_bad0 hJ1.F hJ1.2.2 ?_
    show Wp g mX12_ran _ _ _ 29 _ (_ :: _) _ Q
    refine r_if_ne 55 dX12_ran_29 rfl (fun hz => absurd hz (by decide)) (fun _ => ?_)
    refine r_aload_n dX12_ran_32 rfl ?_
    refine r_iload_n dX12_ran_33 rfl ?_
    refine r_iconst (0) dX12_ran_34 rfl ?_
    refine r_bipush (6) dX12_ran_35 rfl ?_
    refine r_callS3 (d1 := 0) (c1 := 0) (n1 := 0) dX12_ran_37 msX12_82 rfl (Nat.le_of_ble_eq_true rfl) (by exact Nat.le_of_ble_eq_true rfl) ?_
    refine S_X12_in (fun w37a w37b => ?_) (fun w37 => ?_)
    ·
      show Wp g mX12_ran _ _ _ 40 _ (_ :: _) _ Q
      refine r_if_ne 47 dX12_ran_40 rfl (fun _ => ?_) (fun hz => absurd hz (by decide))
      refine r_iconst (0) dX12_ran_47 rfl ?_
      refine r_iconst (2) dX12_ran_48 rfl ?_
      refine r_callV2 (ci := 12) (d1 := 0) (c1 := 0) (n1 := 0) dX12_ran_49 mvX12_86 rfl ⟨(Nat.le_of_ble_eq_true rfl), rfl⟩ (Nat.le_of_ble_eq_true rfl) (by exact Nat.le_of_ble_eq_true rfl) (by exact k_167 hJ1.F) ?_
      refine S_bad0 hJ1.F hJ1.2.2 ?_
      show Wp g mX12_ran _ _ _ 52 _ (_ :: _) _ Q
      refine r_if_eq 57 dX12_ran_52 rfl (fun _ => ?_) (fun hz => absurd hz (by decide))
      obtain ⟨r, hr, rfl⟩ := i32_below (n := nR f) (by have := hV.1.2.2.1.2; omega) w14a (by rw [← hV.1.2.2.1.1]; exact w14b)
      obtain ⟨i, hi, rfl⟩ := i32_small 6 (by omega) w37a w37b
      have h60 := hV.1.2.2.1.2
      refine r_aload_n dX12_ran_57 rfl ?_
      refine r_getRc dX12_ran_58 fgX12_58 rfl (by exact k_167 hJ1.F) (by exact r_167_32 hJ1.F) ?_
      refine r_iload_n dX12_ran_61 rfl ?_
      refine r_aaloadc (b := 200 + r) dX12_ran_62 ⟨Nat.le_of_ble_eq_true rfl, Nat.le_of_ble_eq_true rfl⟩ (by exact k_199 hJ1.F) (vin (by omega) (by omega)) (by rw [nI_cl _ (by omega)]; exact R_run hJ1.F (by omega)) ?_
      refine r_iload_n dX12_ran_63 rfl ?_
      refine r_ialoadc (rn f r i) dX12_ran_64 (by exact K_run hJ1.F (by omega)) (vin (by omega) (by omega)) (by rw [nI_cl _ (by omega)]; exact hJ1.g (by omega) (l_run (by omega) (by omega))) ?_
      refine r_ireturn dX12_ran_65 rfl rfl ?_
      exact k r hr rfl i (by omega) rfl _ hJ1
    ·
      show Wp g mX12_ran _ _ _ 40 _ (_ :: _) _ Q
      refine r_if_ne 47 dX12_ran_40 rfl (fun hz => absurd hz (by decide)) (fun _ => ?_)
      refine r_iconst (1) dX12_ran_43 rfl ?_
      refine r_goto 48 dX12_ran_44 rfl ?_
      refine r_iconst (2) dX12_ran_48 rfl ?_
      refine r_callV2 (ci := 12) (d1 := 0) (c1 := 0) (n1 := 0) dX12_ran_49 mvX12_86 rfl ⟨(Nat.le_of_ble_eq_true rfl), rfl⟩ (Nat.le_of_ble_eq_true rfl) (by exact Nat.le_of_ble_eq_true rfl) (by exact k_167 hJ1.F) ?_
      refine S_bad1 hJ1.F hJ1.2.2 (by decide) ?_
      have hJ2 := hJ1.bad 2
      show Wp g mX12_ran _ _ _ 52 _ (_ :: _) _ Q
      refine r_if_eq 57 dX12_ran_52 rfl (fun hz => absurd hz (by decide)) (fun _ => ?_)
      refine r_iconst (0) dX12_ran_55 rfl ?_
      refine r_ireturn dX12_ran_56 rfl rfl ?_
      exact kb (by rw [← hV.1.2.2.1.1]; exact ⟨w14a, w14b⟩) w37 _ hJ2
  ·
    show Wp g mX12_ran _ _ _ 17 _ (_ :: _) _ Q
    refine r_if_ne 24 dX12_ran_17 rfl (fun hz => absurd hz (by decide)) (fun _ => ?_)
    refine r_iconst (1) dX12_ran_20 rfl ?_
    refine r_goto 25 dX12_ran_21 rfl ?_
    refine r_iconst (1) dX12_ran_25 rfl ?_
    refine r_callV2 (ci := 12) (d1 := 0) (c1 := 0) (n1 := 0) dX12_ran_26 mvX12_86 rfl ⟨(Nat.le_of_ble_eq_true rfl), rfl⟩ (Nat.le_of_ble_eq_true rfl) (by exact Nat.le_of_ble_eq_true rfl) (by exact k_167 hJ1.F) ?_
    refine S_bad1 hJ1.F hJ1.2.2 (by decide) ?_
    have hJ3 := hJ1.bad 1
    show Wp g mX12_ran _ _ _ 29 _ (_ :: _) _ Q
    refine r_if_ne 55 dX12_ran_29 rfl (fun _ => ?_) (fun hz => absurd hz (by decide))
    refine r_iconst (0) dX12_ran_55 rfl ?_
    refine r_ireturn dX12_ran_56 rfl rfl ?_
    exact kh (by rw [← hV.1.2.2.1.1]; exact w14) _ hJ3
theorem runF_eq {f : Nat → Int32} {p : Int32} : (upF (upF (upF (upF (upF (upF (upF (upF f (217 + 7 * nR f + 0) (f (27))) (217 + 7 * nR f + 1) (f (28))) (217 + 7 * nR f + 2) (f (29))) (217 + 7 * nR f + 3) (f (30))) (217 + 7 * nR f + 4) (f (31))) (217 + 7 * nR f + 5) (f (32))) (217 + 7 * nR f + 6) p) 2 (nI (nR f + 1))) = runF f p := by
  funext z
  unfold runF
  by_cases c : z = 2
  · subst c; rw [upF_s, if_pos rfl]
  · rw [if_neg c, upF_n c rfl]
    by_cases c1 : 217 + 7 * nR f ≤ z ∧ z < 224 + 7 * nR f
    · rw [if_pos c1]
      have h : z = 217 + 7 * nR f + 0 ∨ z = 217 + 7 * nR f + 1 ∨ z = 217 + 7 * nR f + 2 ∨ z = 217 + 7 * nR f + 3 ∨ z = 217 + 7 * nR f + 4 ∨ z = 217 + 7 * nR f + 5 ∨ z = 217 + 7 * nR f + 6 := by omega
      rcases h with rfl | rfl | rfl | rfl | rfl | rfl | rfl
      · rw [if_neg (by omega), show 27 + (217 + 7 * nR f + 0 - (217 + 7 * nR f)) = 27 from by omega]; exact (upF_n (by omega) (upF_n (by omega) (upF_n (by omega) (upF_n (by omega) (upF_n (by omega) (upF_n (by omega) upF_s))))))
      · rw [if_neg (by omega), show 27 + (217 + 7 * nR f + 1 - (217 + 7 * nR f)) = 28 from by omega]; exact (upF_n (by omega) (upF_n (by omega) (upF_n (by omega) (upF_n (by omega) (upF_n (by omega) upF_s)))))
      · rw [if_neg (by omega), show 27 + (217 + 7 * nR f + 2 - (217 + 7 * nR f)) = 29 from by omega]; exact (upF_n (by omega) (upF_n (by omega) (upF_n (by omega) (upF_n (by omega) upF_s))))
      · rw [if_neg (by omega), show 27 + (217 + 7 * nR f + 3 - (217 + 7 * nR f)) = 30 from by omega]; exact (upF_n (by omega) (upF_n (by omega) (upF_n (by omega) upF_s)))
      · rw [if_neg (by omega), show 27 + (217 + 7 * nR f + 4 - (217 + 7 * nR f)) = 31 from by omega]; exact (upF_n (by omega) (upF_n (by omega) upF_s))
      · rw [if_neg (by omega), show 27 + (217 + 7 * nR f + 5 - (217 + 7 * nR f)) = 32 from by omega]; exact (upF_n (by omega) upF_s)
      · rw [if_pos (by omega)]; exact upF_s
    · rw [if_neg c1]; exact (upF_n (by omega) (upF_n (by omega) (upF_n (by omega) (upF_n (by omega) (upF_n (by omega) (upF_n (by omega) (upF_n (by omega) rfl)))))))
theorem S_X12_keepsRun {g : GG} {m : MM} {Q : Out → Prop} {f : Nat → Int32} {fs : Nat → Nat → Int32} {ic : Nat} {tp : Nat → Int32} {tn : Nat} {pl : Int32} {n1 n2 : Nat} {ts : Nat → (Nat → Int32) × Nat} {m0 : MM} {t : Int32} (hV : Vf f) (hJ : RJ f fs ic tp tn pl n1 n2 ts m0 t m) (hr : nR f < 60) {p : Int32} (k : ∀ m', RJ (runF f p) fs ic tp tn pl n1 n2 ts m0 t m' → Q (.inl (some (.int (nI (nR f)))), m')) : Cl g 0 0 0 mX12_keepsRun [.ref 167, .int p] m Q := by
  refine Cl.of rfl (by decide) (Nat.le_of_ble_eq_true rfl) ?_
  show Wp g mX12_keepsRun 0 0 0 0 [.ref 167, .int p, .retAddr 0] [] m Q
  have hc := hV.1.2.2.1.1
  refine r_iconst (0) dX12_keepsRun_0 rfl ?_
  refine si_2 dX12_keepsRun_1 rfl (Nat.le_of_ble_eq_true rfl) ?_
  refine r_iload_n dX12_keepsRun_2 rfl ?_
  refine r_bipush (6) dX12_keepsRun_3 rfl ?_
  refine r_icmp_ge 31 dX12_keepsRun_5 rfl (fun hz => absurd hz (by decide)) (fun _ => ?_)
  refine r_aload_n dX12_keepsRun_8 rfl ?_
  refine r_getRc dX12_keepsRun_9 fgX12_58 rfl (by exact k_167 hJ.F) (by exact r_167_32 hJ.F) ?_
  refine r_aload_n dX12_keepsRun_12 rfl ?_
  refine r_getIc (f 2) dX12_keepsRun_13 fgX12_287 rfl (by exact k_167 hJ.F) (by exact (hJ.g (by omega) l_2).trans rfl) ?_
  refine r_aaloadc (b := 200 + nR f) dX12_keepsRun_16 ⟨Nat.le_of_ble_eq_true rfl, Nat.le_of_ble_eq_true rfl⟩ (by exact k_199 hJ.F) (by rw [hc]; exact vin (by omega) (by omega)) (by exact R_run (i := nR f) hJ.F (by omega)) ?_
  refine r_iload_n dX12_keepsRun_17 rfl ?_
  refine r_aload_n dX12_keepsRun_18 rfl ?_
  refine r_getRc dX12_keepsRun_19 fgX12_52 rfl (by exact k_167 hJ.F) (by exact r_167_26 hJ.F) ?_
  refine r_iload_n dX12_keepsRun_22 rfl ?_
  refine r_ialoadc (f 27) dX12_keepsRun_23 (by exact k_198 hJ.F) (vin (j := 0) (by omega) (by omega)) (by exact (hJ.g (by omega) (l_han (i := 0) (by omega))).trans rfl) ?_
  refine r_iastoren (0) rfl dX12_keepsRun_24 (by exact K_run hJ.F (by omega)) (vin (j := 0) (by omega) (by omega)) ?_
  have hJ1 := hJ.up (z := 217 + 7 * nR f + 0) (v := f 27) (by omega) (l_run (r := nR f) (j := 0) (by omega) (by omega))
  refine ic_2 (1) dX12_keepsRun_25 rfl rfl (Nat.le_of_ble_eq_true rfl) ?_
  refine r_goto 2 dX12_keepsRun_28 rfl ?_
  refine r_iload_n dX12_keepsRun_2 rfl ?_
  refine r_bipush (6) dX12_keepsRun_3 rfl ?_
  refine r_icmp_ge 31 dX12_keepsRun_5 rfl (fun hz => absurd hz (by decide)) (fun _ => ?_)
  refine r_aload_n dX12_keepsRun_8 rfl ?_
  refine r_getRc dX12_keepsRun_9 fgX12_58 rfl (by exact k_167 hJ1.F) (by exact r_167_32 hJ1.F) ?_
  refine r_aload_n dX12_keepsRun_12 rfl ?_
  refine r_getIc (f 2) dX12_keepsRun_13 fgX12_287 rfl (by exact k_167 hJ1.F) (by exact (hJ1.g (by omega) l_2).trans (upF_n (by omega) rfl)) ?_
  refine r_aaloadc (b := 200 + nR f) dX12_keepsRun_16 ⟨Nat.le_of_ble_eq_true rfl, Nat.le_of_ble_eq_true rfl⟩ (by exact k_199 hJ1.F) (by rw [hc]; exact vin (by omega) (by omega)) (by exact R_run (i := nR f) hJ1.F (by omega)) ?_
  refine r_iload_n dX12_keepsRun_17 rfl ?_
  refine r_aload_n dX12_keepsRun_18 rfl ?_
  refine r_getRc dX12_keepsRun_19 fgX12_52 rfl (by exact k_167 hJ1.F) (by exact r_167_26 hJ1.F) ?_
  refine r_iload_n dX12_keepsRun_22 rfl ?_
  refine r_ialoadc (f 28) dX12_keepsRun_23 (by exact k_198 hJ1.F) (vin (j := 1) (by omega) (by omega)) (by exact (hJ1.g (by omega) (l_han (i := 1) (by omega))).trans (upF_n (by omega) rfl)) ?_
  refine r_iastoren (1) rfl dX12_keepsRun_24 (by exact K_run hJ1.F (by omega)) (vin (j := 1) (by omega) (by omega)) ?_
  have hJ2 := hJ1.up (z := 217 + 7 * nR f + 1) (v := f 28) (by omega) (l_run (r := nR f) (j := 1) (by omega) (by omega))
  refine ic_2 (1) dX12_keepsRun_25 rfl rfl (Nat.le_of_ble_eq_true rfl) ?_
  refine r_goto 2 dX12_keepsRun_28 rfl ?_
  refine r_iload_n dX12_keepsRun_2 rfl ?_
  refine r_bipush (6) dX12_keepsRun_3 rfl ?_
  refine r_icmp_ge 31 dX12_keepsRun_5 rfl (fun hz => absurd hz (by decide)) (fun _ => ?_)
  refine r_aload_n dX12_keepsRun_8 rfl ?_
  refine r_getRc dX12_keepsRun_9 fgX12_58 rfl (by exact k_167 hJ2.F) (by exact r_167_32 hJ2.F) ?_
  refine r_aload_n dX12_keepsRun_12 rfl ?_
  refine r_getIc (f 2) dX12_keepsRun_13 fgX12_287 rfl (by exact k_167 hJ2.F) (by exact (hJ2.g (by omega) l_2).trans (upF_n (by omega) (upF_n (by omega) rfl))) ?_
  refine r_aaloadc (b := 200 + nR f) dX12_keepsRun_16 ⟨Nat.le_of_ble_eq_true rfl, Nat.le_of_ble_eq_true rfl⟩ (by exact k_199 hJ2.F) (by rw [hc]; exact vin (by omega) (by omega)) (by exact R_run (i := nR f) hJ2.F (by omega)) ?_
  refine r_iload_n dX12_keepsRun_17 rfl ?_
  refine r_aload_n dX12_keepsRun_18 rfl ?_
  refine r_getRc dX12_keepsRun_19 fgX12_52 rfl (by exact k_167 hJ2.F) (by exact r_167_26 hJ2.F) ?_
  refine r_iload_n dX12_keepsRun_22 rfl ?_
  refine r_ialoadc (f 29) dX12_keepsRun_23 (by exact k_198 hJ2.F) (vin (j := 2) (by omega) (by omega)) (by exact (hJ2.g (by omega) (l_han (i := 2) (by omega))).trans (upF_n (by omega) (upF_n (by omega) rfl))) ?_
  refine r_iastoren (2) rfl dX12_keepsRun_24 (by exact K_run hJ2.F (by omega)) (vin (j := 2) (by omega) (by omega)) ?_
  have hJ3 := hJ2.up (z := 217 + 7 * nR f + 2) (v := f 29) (by omega) (l_run (r := nR f) (j := 2) (by omega) (by omega))
  refine ic_2 (1) dX12_keepsRun_25 rfl rfl (Nat.le_of_ble_eq_true rfl) ?_
  refine r_goto 2 dX12_keepsRun_28 rfl ?_
  refine r_iload_n dX12_keepsRun_2 rfl ?_
  refine r_bipush (6) dX12_keepsRun_3 rfl ?_
  refine r_icmp_ge 31 dX12_keepsRun_5 rfl (fun hz => absurd hz (by decide)) (fun _ => ?_)
  refine r_aload_n dX12_keepsRun_8 rfl ?_
  refine r_getRc dX12_keepsRun_9 fgX12_58 rfl (by exact k_167 hJ3.F) (by exact r_167_32 hJ3.F) ?_
  refine r_aload_n dX12_keepsRun_12 rfl ?_
  refine r_getIc (f 2) dX12_keepsRun_13 fgX12_287 rfl (by exact k_167 hJ3.F) (by exact (hJ3.g (by omega) l_2).trans (upF_n (by omega) (upF_n (by omega) (upF_n (by omega) rfl)))) ?_
  refine r_aaloadc (b := 200 + nR f) dX12_keepsRun_16 ⟨Nat.le_of_ble_eq_true rfl, Nat.le_of_ble_eq_true rfl⟩ (by exact k_199 hJ3.F) (by rw [hc]; exact vin (by omega) (by omega)) (by exact R_run (i := nR f) hJ3.F (by omega)) ?_
  refine r_iload_n dX12_keepsRun_17 rfl ?_
  refine r_aload_n dX12_keepsRun_18 rfl ?_
  refine r_getRc dX12_keepsRun_19 fgX12_52 rfl (by exact k_167 hJ3.F) (by exact r_167_26 hJ3.F) ?_
  refine r_iload_n dX12_keepsRun_22 rfl ?_
  refine r_ialoadc (f 30) dX12_keepsRun_23 (by exact k_198 hJ3.F) (vin (j := 3) (by omega) (by omega)) (by exact (hJ3.g (by omega) (l_han (i := 3) (by omega))).trans (upF_n (by omega) (upF_n (by omega) (upF_n (by omega) rfl)))) ?_
  refine r_iastoren (3) rfl dX12_keepsRun_24 (by exact K_run hJ3.F (by omega)) (vin (j := 3) (by omega) (by omega)) ?_
  have hJ4 := hJ3.up (z := 217 + 7 * nR f + 3) (v := f 30) (by omega) (l_run (r := nR f) (j := 3) (by omega) (by omega))
  refine ic_2 (1) dX12_keepsRun_25 rfl rfl (Nat.le_of_ble_eq_true rfl) ?_
  refine r_goto 2 dX12_keepsRun_28 rfl ?_
  refine r_iload_n dX12_keepsRun_2 rfl ?_
  refine r_bipush (6) dX12_keepsRun_3 rfl ?_
  refine r_icmp_ge 31 dX12_keepsRun_5 rfl (fun hz => absurd hz (by decide)) (fun _ => ?_)
  refine r_aload_n dX12_keepsRun_8 rfl ?_
  refine r_getRc dX12_keepsRun_9 fgX12_58 rfl (by exact k_167 hJ4.F) (by exact r_167_32 hJ4.F) ?_
  refine r_aload_n dX12_keepsRun_12 rfl ?_
  refine r_getIc (f 2) dX12_keepsRun_13 fgX12_287 rfl (by exact k_167 hJ4.F) (by exact (hJ4.g (by omega) l_2).trans (upF_n (by omega) (upF_n (by omega) (upF_n (by omega) (upF_n (by omega) rfl))))) ?_
  refine r_aaloadc (b := 200 + nR f) dX12_keepsRun_16 ⟨Nat.le_of_ble_eq_true rfl, Nat.le_of_ble_eq_true rfl⟩ (by exact k_199 hJ4.F) (by rw [hc]; exact vin (by omega) (by omega)) (by exact R_run (i := nR f) hJ4.F (by omega)) ?_
  refine r_iload_n dX12_keepsRun_17 rfl ?_
  refine r_aload_n dX12_keepsRun_18 rfl ?_
  refine r_getRc dX12_keepsRun_19 fgX12_52 rfl (by exact k_167 hJ4.F) (by exact r_167_26 hJ4.F) ?_
  refine r_iload_n dX12_keepsRun_22 rfl ?_
  refine r_ialoadc (f 31) dX12_keepsRun_23 (by exact k_198 hJ4.F) (vin (j := 4) (by omega) (by omega)) (by exact (hJ4.g (by omega) (l_han (i := 4) (by omega))).trans (upF_n (by omega) (upF_n (by omega) (upF_n (by omega) (upF_n (by omega) rfl))))) ?_
  refine r_iastoren (4) rfl dX12_keepsRun_24 (by exact K_run hJ4.F (by omega)) (vin (j := 4) (by omega) (by omega)) ?_
  have hJ5 := hJ4.up (z := 217 + 7 * nR f + 4) (v := f 31) (by omega) (l_run (r := nR f) (j := 4) (by omega) (by omega))
  refine ic_2 (1) dX12_keepsRun_25 rfl rfl (Nat.le_of_ble_eq_true rfl) ?_
  refine r_goto 2 dX12_keepsRun_28 rfl ?_
  refine r_iload_n dX12_keepsRun_2 rfl ?_
  refine r_bipush (6) dX12_keepsRun_3 rfl ?_
  refine r_icmp_ge 31 dX12_keepsRun_5 rfl (fun hz => absurd hz (by decide)) (fun _ => ?_)
  refine r_aload_n dX12_keepsRun_8 rfl ?_
  refine r_getRc dX12_keepsRun_9 fgX12_58 rfl (by exact k_167 hJ5.F) (by exact r_167_32 hJ5.F) ?_
  refine r_aload_n dX12_keepsRun_12 rfl ?_
  refine r_getIc (f 2) dX12_keepsRun_13 fgX12_287 rfl (by exact k_167 hJ5.F) (by exact (hJ5.g (by omega) l_2).trans (upF_n (by omega) (upF_n (by omega) (upF_n (by omega) (upF_n (by omega) (upF_n (by omega) rfl)))))) ?_
  refine r_aaloadc (b := 200 + nR f) dX12_keepsRun_16 ⟨Nat.le_of_ble_eq_true rfl, Nat.le_of_ble_eq_true rfl⟩ (by exact k_199 hJ5.F) (by rw [hc]; exact vin (by omega) (by omega)) (by exact R_run (i := nR f) hJ5.F (by omega)) ?_
  refine r_iload_n dX12_keepsRun_17 rfl ?_
  refine r_aload_n dX12_keepsRun_18 rfl ?_
  refine r_getRc dX12_keepsRun_19 fgX12_52 rfl (by exact k_167 hJ5.F) (by exact r_167_26 hJ5.F) ?_
  refine r_iload_n dX12_keepsRun_22 rfl ?_
  refine r_ialoadc (f 32) dX12_keepsRun_23 (by exact k_198 hJ5.F) (vin (j := 5) (by omega) (by omega)) (by exact (hJ5.g (by omega) (l_han (i := 5) (by omega))).trans (upF_n (by omega) (upF_n (by omega) (upF_n (by omega) (upF_n (by omega) (upF_n (by omega) rfl)))))) ?_
  refine r_iastoren (5) rfl dX12_keepsRun_24 (by exact K_run hJ5.F (by omega)) (vin (j := 5) (by omega) (by omega)) ?_
  have hJ6 := hJ5.up (z := 217 + 7 * nR f + 5) (v := f 32) (by omega) (l_run (r := nR f) (j := 5) (by omega) (by omega))
  refine ic_2 (1) dX12_keepsRun_25 rfl rfl (Nat.le_of_ble_eq_true rfl) ?_
  refine r_goto 2 dX12_keepsRun_28 rfl ?_
  refine r_iload_n dX12_keepsRun_2 rfl ?_
  refine r_bipush (6) dX12_keepsRun_3 rfl ?_
  refine r_icmp_ge 31 dX12_keepsRun_5 rfl (fun _ => ?_) (fun hz => absurd hz (by decide))
  refine r_aload_n dX12_keepsRun_31 rfl ?_
  refine r_getRc dX12_keepsRun_32 fgX12_58 rfl (by exact k_167 hJ6.F) (by exact r_167_32 hJ6.F) ?_
  refine r_aload_n dX12_keepsRun_35 rfl ?_
  refine r_getIc (f 2) dX12_keepsRun_36 fgX12_287 rfl (by exact k_167 hJ6.F) (by exact (hJ6.g (by omega) l_2).trans (upF_n (by omega) (upF_n (by omega) (upF_n (by omega) (upF_n (by omega) (upF_n (by omega) (upF_n (by omega) rfl))))))) ?_
  refine r_aaloadc (b := 200 + nR f) dX12_keepsRun_39 ⟨Nat.le_of_ble_eq_true rfl, Nat.le_of_ble_eq_true rfl⟩ (by exact k_199 hJ6.F) (by rw [hc]; exact vin (by omega) (by omega)) (by exact R_run (i := nR f) hJ6.F (by omega)) ?_
  refine r_bipush (6) dX12_keepsRun_40 rfl ?_
  refine r_iload_n dX12_keepsRun_42 rfl ?_
  refine r_iastoren (6) rfl dX12_keepsRun_43 (by exact K_run hJ6.F (by omega)) (vin (j := 6) (by omega) (by omega)) ?_
  have hJ7 := hJ6.up (z := 217 + 7 * nR f + 6) (v := p) (by omega) (l_run (r := nR f) (j := 6) (by omega) (by omega))
  refine r_aload_n dX12_keepsRun_44 rfl ?_
  refine r_dup dX12_keepsRun_45 rfl ?_
  refine r_getIc (f 2) dX12_keepsRun_46 fgX12_287 rfl (by exact k_167 hJ7.F) (by exact (hJ7.g (by omega) l_2).trans (upF_n (by omega) (upF_n (by omega) (upF_n (by omega) (upF_n (by omega) (upF_n (by omega) (upF_n (by omega) (upF_n (by omega) rfl)))))))) ?_
  refine r_iconst (1) dX12_keepsRun_49 rfl ?_
  refine r_iadd dX12_keepsRun_50 ?_
  rw [hc, nI_1]
  refine r_putI dX12_keepsRun_51 (fpX12_287 _ rfl) rfl (by exact k_167 hJ7.F) ⟨rfl, rfl⟩ ?_
  have hJ8 := hJ7.up (z := 2) (v := nI (nR f + 1)) (by omega) l_2
  refine r_aload_n dX12_keepsRun_54 rfl ?_
  refine r_getIc (nI (nR f + 1)) dX12_keepsRun_55 fgX12_287 rfl (by exact k_167 hJ8.F) (by exact ld_s) ?_
  refine r_iconst (1) dX12_keepsRun_58 rfl ?_
  refine r_isub dX12_keepsRun_59 ?_
  refine r_ireturn dX12_keepsRun_60 rfl rfl ?_
  rw [nI_p1]; rw [← runF_eq] at k; exact k _ hJ8
theorem S_X12_run {g : GG} {m : MM} {Q : Out → Prop} {f : Nat → Int32} {fs : Nat → Nat → Int32} {ic : Nat} {tp : Nat → Int32} {tn : Nat} {pl : Int32} {n1 n2 : Nat} {ts : Nat → (Nat → Int32) × Nat} (hV : Vf f) (hI : RI f fs ic tp tn pl n1 n2 ts m) {p : Int32} (ke : f 0 = 0 → ∀ m', RJ f fs ic tp tn pl n1 n2 ts m 1 m' → Q (.inl (some (.int 0)), m')) (kb : ¬ f 0 = 0 → ¬ (0 ≤ p ∧ p ≤ 1000000000) → ∀ m', RJ f fs ic tp tn pl n1 n2 ts m 2 m' → Q (.inl (some (.int 0)), m')) (kf : ¬ f 0 = 0 → (0 ≤ p ∧ p ≤ 1000000000) → nR f = 60 → ∀ m', RJ f fs ic tp tn pl n1 n2 ts m 0 m' → Q (.inl (some (.int (-1))), m')) (k : ¬ f 0 = 0 → (0 ≤ p ∧ p ≤ 1000000000) → nR f < 60 → ∀ m', RJ (runF f p) fs ic tp tn pl n1 n2 ts m 0 m' → Q (.inl (some (.int (nI (nR f)))), m')) : Cl g 1 0 0 mX12_run [.ref 167, .int p] m Q := by
  refine Cl.of rfl (by decide) (Nat.le_of_ble_eq_true rfl) ?_
  show Wp g mX12_run 1 0 0 0 [.ref 167, .int p] [] m Q
  refine r_aload_n dX12_run_0 rfl ?_
  refine r_iconst (0) dX12_run_1 rfl ?_
  refine r_putI dX12_run_2 (fpX12_79 _ rfl) rfl (by exact k_167 hI.1) ⟨rfl, rfl⟩ ?_
  have hJ1 := hI.go
  refine r_aload_n dX12_run_5 rfl ?_
  refine r_aload_n dX12_run_6 rfl ?_
  refine r_getIc (f 0) dX12_run_7 fgX12_90 rfl (by exact k_167 hJ1.F) (by exact hJ1.g (by omega) l_0) ?_
  refine r_if_ne 17 dX12_run_10 rfl (fun hz => ?_) (fun hz => ?_)
  ·
    refine r_iconst (0) dX12_run_17 rfl ?_
    refine r_iconst (1) dX12_run_18 rfl ?_
    refine r_callV2 (ci := 12) (d1 := 0) (c1 := 0) (n1 := 0) dX12_run_19 mvX12_86 rfl ⟨(Nat.le_of_ble_eq_true rfl), rfl⟩ (Nat.le_of_ble_eq_true rfl) (by exact Nat.le_of_ble_eq_true rfl) (by exact k_167 hJ1.F) ?_
    refine S_bad0 hJ1.F hJ1.2.2 ?_
    show Wp g mX12_run _ _ _ 22 _ (_ :: _) _ Q
    refine r_if_ne 49 dX12_run_22 rfl (fun hz => absurd hz (by decide)) (fun _ => ?_)
    refine r_aload_n dX12_run_25 rfl ?_
    refine r_iload_n dX12_run_26 rfl ?_
    refine r_iconst (0) dX12_run_27 rfl ?_
    refine r_ldcw (1000000000) dX12_run_28 ctX12_264 ?_
    refine r_callS3 (d1 := 0) (c1 := 0) (n1 := 0) dX12_run_31 msX12_82 rfl (Nat.le_of_ble_eq_true rfl) (by exact Nat.le_of_ble_eq_true rfl) ?_
    refine S_X12_in (fun w31a w31b => ?_) (fun w31 => ?_)
    ·
      show Wp g mX12_run _ _ _ 34 _ (_ :: _) _ Q
      refine r_if_ne 41 dX12_run_34 rfl (fun _ => ?_) (fun hz => absurd hz (by decide))
      refine r_iconst (0) dX12_run_41 rfl ?_
      refine r_iconst (2) dX12_run_42 rfl ?_
      refine r_callV2 (ci := 12) (d1 := 0) (c1 := 0) (n1 := 0) dX12_run_43 mvX12_86 rfl ⟨(Nat.le_of_ble_eq_true rfl), rfl⟩ (Nat.le_of_ble_eq_true rfl) (by exact Nat.le_of_ble_eq_true rfl) (by exact k_167 hJ1.F) ?_
      refine S_bad0 hJ1.F hJ1.2.2 ?_
      show Wp g mX12_run _ _ _ 46 _ (_ :: _) _ Q
      refine r_if_eq 51 dX12_run_46 rfl (fun _ => ?_) (fun hz => absurd hz (by decide))
      refine r_aload_n dX12_run_51 rfl ?_
      refine r_getIc (f 2) dX12_run_52 fgX12_287 rfl (by exact k_167 hJ1.F) (by exact hJ1.g (by omega) l_2) ?_
      refine r_bipush (60) dX12_run_55 rfl ?_
      refine r_icmp_ne 64 dX12_run_57 rfl (fun h6 => ?_) (fun h6 => ?_)
      ·
        have hl6 : nR f < 60 := by have := hV.1.2.2.1.2; exact Nat.lt_of_le_of_ne this (fun q => h6 (by rw [hV.1.2.2.1.1, q]; rfl))
        refine r_aload_n dX12_run_64 rfl ?_
        refine r_iload_n dX12_run_65 rfl ?_
        refine r_callV1 (ci := 12) (d1 := 0) (c1 := 0) (n1 := 0) dX12_run_66 mvX12_290 rfl ⟨(Nat.le_of_ble_eq_true rfl), rfl⟩ (Nat.le_of_ble_eq_true rfl) (by exact Nat.le_of_ble_eq_true rfl) (by exact k_167 hJ1.F) ?_
        refine S_X12_keepsRun hV hJ1 hl6 (fun m9 hJ9 => ?_)
        show Wp g mX12_run _ _ _ 69 _ (_ :: _) _ Q
        refine r_ireturn dX12_run_69 rfl rfl ?_
        exact k hz ⟨w31a, w31b⟩ hl6 m9 hJ9
      ·
        refine r_iconst (-1) dX12_run_60 rfl ?_
        refine r_goto 69 dX12_run_61 rfl ?_
        refine r_ireturn dX12_run_69 rfl rfl ?_
        exact kf hz ⟨w31a, w31b⟩ ((nI_eq (b := 60) (by have := hV.1.2.2.1.2; omega) (by omega)).mp (hV.1.2.2.1.1.symm.trans h6)) _ hJ1
    ·
      show Wp g mX12_run _ _ _ 34 _ (_ :: _) _ Q
      refine r_if_ne 41 dX12_run_34 rfl (fun hz => absurd hz (by decide)) (fun _ => ?_)
      refine r_iconst (1) dX12_run_37 rfl ?_
      refine r_goto 42 dX12_run_38 rfl ?_
      refine r_iconst (2) dX12_run_42 rfl ?_
      refine r_callV2 (ci := 12) (d1 := 0) (c1 := 0) (n1 := 0) dX12_run_43 mvX12_86 rfl ⟨(Nat.le_of_ble_eq_true rfl), rfl⟩ (Nat.le_of_ble_eq_true rfl) (by exact Nat.le_of_ble_eq_true rfl) (by exact k_167 hJ1.F) ?_
      refine S_bad1 hJ1.F hJ1.2.2 (by decide) ?_
      have hJ2 := hJ1.bad 2
      show Wp g mX12_run _ _ _ 46 _ (_ :: _) _ Q
      refine r_if_eq 51 dX12_run_46 rfl (fun hz => absurd hz (by decide)) (fun _ => ?_)
      refine r_iconst (0) dX12_run_49 rfl ?_
      refine r_ireturn dX12_run_50 rfl rfl ?_
      exact kb hz w31 _ hJ2
  ·
    refine r_iconst (1) dX12_run_13 rfl ?_
    refine r_goto 18 dX12_run_14 rfl ?_
    refine r_iconst (1) dX12_run_18 rfl ?_
    refine r_callV2 (ci := 12) (d1 := 0) (c1 := 0) (n1 := 0) dX12_run_19 mvX12_86 rfl ⟨(Nat.le_of_ble_eq_true rfl), rfl⟩ (Nat.le_of_ble_eq_true rfl) (by exact Nat.le_of_ble_eq_true rfl) (by exact k_167 hJ1.F) ?_
    refine S_bad1 hJ1.F hJ1.2.2 (by decide) ?_
    have hJ3 := hJ1.bad 1
    show Wp g mX12_run _ _ _ 22 _ (_ :: _) _ Q
    refine r_if_ne 49 dX12_run_22 rfl (fun _ => ?_) (fun hz => absurd hz (by decide))
    refine r_iconst (0) dX12_run_49 rfl ?_
    refine r_ireturn dX12_run_50 rfl rfl ?_
    exact ke hz _ hJ3
