theorem L_wc0_1 {g : GG} {m : MM} {Q : Out → Prop} (hF : Fx m)  (kx : ∀ (m1 : MM), (Off 5 40 m m1 ∧ ∀ j, j < 6 → HC 5 42 m m1 j) → Wp g mX10_copyFrom 5 0 0 41 [.ref 5, .ref 42, .int (nI 6)] [] (m1) Q) : ∀ (t i : Nat) (m1 : MM), i + t = 6 → (Off 5 40 m m1 ∧ ∀ j, j < i → HC 5 42 m m1 j) → Wp g mX10_copyFrom 5 0 0 2 [.ref 5, .ref 42, .int (nI i)] [] (m1) Q := by
  intro t
  induction t with
  | zero =>
    intro i m1 hi hI
    have hi : i = 6 := by omega
    subst hi
    have hF1 := Fx_of hI.1.1 hF
    refine r_iload_n dX10_copyFrom_2 rfl ?_
    refine r_aload_n dX10_copyFrom_3 rfl ?_
    refine r_getRc dX10_copyFrom_4 fgX10_11 rfl (by exact k_5 hF1) (by exact r_5_0 hF1) ?_
    refine r_alen _ dX10_copyFrom_7 ⟨Nat.le_of_ble_eq_true rfl, Nat.le_of_ble_eq_true rfl⟩ (by exact k_6 hF1) rfl ?_
    refine r_icmp_ge 41 dX10_copyFrom_8 rfl (fun h1 => ?_) (fun h1 => ?_)
    ·
      exact kx _ hI
    ·
      exact absurd (by decide) h1
  | succ t ih =>
    intro i m1 hi hI
    have hin : i < 6 := by omega
    have hF1 := Fx_of hI.1.1 hF
    refine r_iload_n dX10_copyFrom_2 rfl ?_
    refine r_aload_n dX10_copyFrom_3 rfl ?_
    refine r_getRc dX10_copyFrom_4 fgX10_11 rfl (by exact k_5 hF1) (by exact r_5_0 hF1) ?_
    refine r_alen _ dX10_copyFrom_7 ⟨Nat.le_of_ble_eq_true rfl, Nat.le_of_ble_eq_true rfl⟩ (by exact k_6 hF1) rfl ?_
    refine r_icmp_ge 41 dX10_copyFrom_8 rfl (fun h1 => ?_) (fun h1 => ?_)
    ·
      exact absurd h1 (nI_ge (a := i) (b := 6) hin (by omega))
    ·
      refine r_iload_n dX10_copyFrom_11 rfl ?_
      refine r_aload_n dX10_copyFrom_12 rfl ?_
      refine r_getRc dX10_copyFrom_13 fgX10_11 rfl (by exact k_42 hF1) (by exact r_42_0 hF1) ?_
      refine r_alen _ dX10_copyFrom_16 ⟨Nat.le_of_ble_eq_true rfl, Nat.le_of_ble_eq_true rfl⟩ (by exact k_43 hF1) rfl ?_
      refine r_icmp_ge 41 dX10_copyFrom_17 rfl (fun h2 => ?_) (fun h2 => ?_)
      ·
        exact absurd h2 (nI_ge (a := i) (b := 6) hin (by omega))
      ·
        refine r_aload_n dX10_copyFrom_20 rfl ?_
        refine r_getRc dX10_copyFrom_21 fgX10_11 rfl (by exact k_5 hF1) (by exact r_5_0 hF1) ?_
        refine r_iload_n dX10_copyFrom_24 rfl ?_
        refine r_aaloadc (b := 7 + 3 * i) dX10_copyFrom_25 ⟨Nat.le_of_ble_eq_true rfl, Nat.le_of_ble_eq_true rfl⟩ (by exact k_6 hF1) (vin (by omega) (by omega)) (by rw [nI_cl i (by omega)]; exact hu0_r hF1 (by omega)) ?_
        refine r_aload_n dX10_copyFrom_26 rfl ?_
        refine r_getRc dX10_copyFrom_27 fgX10_11 rfl (by exact k_42 hF1) (by exact r_42_0 hF1) ?_
        refine r_iload_n dX10_copyFrom_30 rfl ?_
        refine r_aaloadc (b := 44 + 3 * i) dX10_copyFrom_31 ⟨Nat.le_of_ble_eq_true rfl, Nat.le_of_ble_eq_true rfl⟩ (by exact k_43 hF1) (vin (by omega) (by omega)) (by rw [nI_cl i (by omega)]; exact hu1_r hF1 (by omega)) ?_
        refine r_callV1 (ci := 1) (d1 := 4) (c1 := 0) (n1 := 0) dX10_copyFrom_32 mvX10_60 rfl ⟨(Nat.le_of_ble_eq_true rfl), rfl⟩ (Nat.le_of_ble_eq_true rfl) (by exact Nat.le_of_ble_eq_true rfl) (by exact hu0_k hF1 (by omega)) ?_
        refine S_X1_copyFrom (by exact hu0_k hF1 (by omega)) (by exact hb0_r hF1 (by omega)) (by exact hb0_k hF1 (by omega)) (by exact hd0_r hF1 (by omega)) (by exact hd0_k hF1 (by omega)) (by exact hu1_k hF1 (by omega)) (by exact hb1_r hF1 (by omega)) (by exact hb1_k hF1 (by omega)) (by exact hd1_r hF1 (by omega)) (by exact hd1_k hF1 (by omega)) ⟨eq_false (by omega), eq_false (by omega), eq_false (by omega), eq_false (by omega), eq_false (by omega), eq_false (by omega), eq_false (by omega)⟩ ?_
        show Wp g mX10_copyFrom _ _ _ 35 _ [] _ Q
        refine ic_2 (1) dX10_copyFrom_35 rfl rfl (Nat.le_of_ble_eq_true rfl) ?_
        refine r_goto 2 dX10_copyFrom_38 rfl ?_
        rw [nI_1 i]
        have q9 : Off (7 + 3 * i) (7 + 3 * i + 2) m1 (hcM m1 (7 + 3 * i) (8 + 3 * i) (9 + 3 * i) (44 + 3 * i) (45 + 3 * i) (46 + 3 * i)) := by rw [show 8 + 3 * i = 7 + 3 * i + 1 from by omega, show 9 + 3 * i = 7 + 3 * i + 2 from by omega]; exact hcM_off
        refine ih (i + 1) _ (by omega) ⟨hI.1.tr (q9.wd (by omega) (by omega)), fun j hj => ?_⟩
        by_cases q : j = i
        · subst q; exact hcM_hc (w := 5) (v := 42) (by omega) (by omega) hI.1
        · exact (hI.2 j (by omega)).off q9 (by omega)
theorem S_shc0_1 {g : GG} {m : MM} {Q : Out → Prop} (hF : Fx m) {n : Nat} (hn : ldI m 70 1 = nI n) (h20 : n ≤ 20) (k : ∀ m', Off 33 34 m m' → ldI m' 33 1 = nI n → (∀ j, j < n → ldI m' 34 j = ldI m 71 j) → Q (.inl none, m')) : Cl g 2 0 0 mX8_copyFrom [.ref 32, .ref 69] m Q := by
  refine Cl.of rfl (by decide) (Nat.le_of_ble_eq_true rfl) ?_
  show Wp g mX8_copyFrom 2 0 0 0 [.ref 32, .ref 69] [] m Q
  refine r_aload_n dX8_copyFrom_0 rfl ?_
  refine r_getRc dX8_copyFrom_1 fgX8_14 rfl (by exact k_32 hF) (by exact r_32_0 hF) ?_
  refine r_aload_n dX8_copyFrom_4 rfl ?_
  refine r_getRc dX8_copyFrom_5 fgX8_14 rfl (by exact k_69 hF) (by exact r_69_0 hF) ?_
  refine r_callV1 (ci := 5) (d1 := 1) (c1 := 0) (n1 := 0) dX8_copyFrom_8 mvX8_64 rfl ⟨(Nat.le_of_ble_eq_true rfl), rfl⟩ (Nat.le_of_ble_eq_true rfl) (by exact Nat.le_of_ble_eq_true rfl) (by exact k_33 hF) ?_
  refine S_cpRow (a := 33) (b := 70) (z := 20) (z2 := 20) (n := n) (by exact k_33 hF) (by exact r_33_0 hF) (by exact k_34 hF) (by omega) (by exact k_70 hF) (by exact r_70_0 hF) (by exact k_71 hF) (by omega) hn (by omega) (by omega) (by omega) (fun m1 q1 hn1 hr1 => ?_)
  show Wp g mX8_copyFrom _ _ _ 11 _ [] _ Q
  refine r_return dX8_copyFrom_11 rfl ?_
  exact k m1 q1 hn1 hr1
theorem S_wcopy0_1 {g : GG} {m : MM} {Q : Out → Prop} (hF : Fx m) {f : Nat → Int32} (hC : VC f) (hW : Wd f 42 m) (hw4 : ldI m 66 4 = 0 ∨ ldI m 66 4 = 1) (hS12 : ∀ i, i < nH f → nS f i ≤ 12) (k : ∀ m', Off 5 40 m m' → Wd f 5 m' → Q (.inl none, m')) : Cl g 5 0 0 mX10_copyFrom [.ref 5, .ref 42] m Q := by
  refine Cl.of rfl (by decide) (Nat.le_of_ble_eq_true rfl) ?_
  show Wp g mX10_copyFrom 5 0 0 0 [.ref 5, .ref 42, .retAddr 0] [] m Q
  have b0 := hC.1.2
  have b1 := hC.2.1.2
  have b2 := hC.2.2.1.2
  have b3 := hC.2.2.2.1.2
  have b4 := hC.2.2.2.2.1.2
  have b5 := hC.2.2.2.2.2.2
  refine r_iconst (0) dX10_copyFrom_0 rfl ?_
  refine si_2 dX10_copyFrom_1 rfl (Nat.le_of_ble_eq_true rfl) ?_
  refine L_wc0_1 hF (fun m1 hI => ?_) 6 0 m (by omega) ⟨Off.rf, fun j hj => absurd hj (by omega)⟩
  have o1 := hI.1
  have hc1 := hI.2
  have hF1 := Fx_of o1.1 hF
  refine r_aload_n dX10_copyFrom_41 rfl ?_
  refine r_aload_n dX10_copyFrom_42 rfl ?_
  refine r_getI dX10_copyFrom_43 fgX10_64 rfl (by exact k_42 hF1) ?_
  refine r_putI dX10_copyFrom_46 (fpX10_64 _ rfl) rfl (by exact k_5 hF1) ⟨rfl, rfl⟩ ?_
  generalize hm2 : stI m1 5 1 (ldI m1 42 1) = m2
  have q2 : Off 5 5 m1 m2 := hm2 ▸ Off.rf.stI (by omega) (by omega)
  have o2 := (o1).tr ((q2).wd (by omega) (by omega))
  have hF2 := Fx_of o2.1 hF
  have hc2 := fun j hj => (hc1 j hj).off q2 (by omega)
  have e0_2 : ∀ j, j = 1 → ldI m2 5 j = ldI m 42 j := fun j hj => by rw [hj, ← hm2]; exact ld_s.trans ((o1.2 42 (by omega)).1 1)
  refine r_aload_n dX10_copyFrom_49 rfl ?_
  refine r_getRc dX10_copyFrom_50 fgX10_23 rfl (by exact k_5 hF2) (by exact r_5_2 hF2) ?_
  refine r_aload_n dX10_copyFrom_53 rfl ?_
  refine r_getRc dX10_copyFrom_54 fgX10_23 rfl (by exact k_42 hF2) (by exact r_42_2 hF2) ?_
  refine r_callV1 (ci := 5) (d1 := 1) (c1 := 0) (n1 := 0) dX10_copyFrom_57 mvX10_67 rfl ⟨(Nat.le_of_ble_eq_true rfl), rfl⟩ (Nat.le_of_ble_eq_true rfl) (by exact Nat.le_of_ble_eq_true rfl) (by exact k_25 hF2) ?_
  refine S_cpRow (a := 25) (b := 62) (z := 4) (z2 := 4) (n := nT f) (by exact k_25 hF2) (by exact r_25_0 hF2) (by exact k_26 hF2) (by omega) (by exact k_62 hF2) (by exact r_62_0 hF2) (by exact k_63 hF2) (by omega) (((o2.2 62 (by omega)).1 1).trans (hW.2.2.1.1.trans hC.2.1.1)) (by omega) (by omega) (by omega) (fun m3 q3 hn3 hr3 => ?_)
  have o3 := (o2).tr ((q3).wd (by omega) (by omega))
  have hF3 := Fx_of o3.1 hF
  have e0_3 := fun j hj => (((q3).2 5 (by omega)).1 j).trans (e0_2 j hj)
  have hc3 := fun j hj => (hc2 j hj).off q3 (by omega)
  have e20_3 : ∀ j, j = 1 → ldI m3 25 j = ldI m 62 j := fun j hj => by rw [hj]; exact hn3.trans (hW.2.2.1.1.trans hC.2.1.1).symm
  have e21_3 : ∀ j, j < nT f → ldI m3 26 j = ldI m 63 j := fun j hj => (hr3 j hj).trans ((o2.2 63 (by omega)).1 j)
  show Wp g mX10_copyFrom _ _ _ 60 _ [] _ Q
  refine r_aload_n dX10_copyFrom_60 rfl ?_
  refine r_getRc dX10_copyFrom_61 fgX10_27 rfl (by exact k_5 hF3) (by exact r_5_3 hF3) ?_
  refine r_aload_n dX10_copyFrom_64 rfl ?_
  refine r_getRc dX10_copyFrom_65 fgX10_27 rfl (by exact k_42 hF3) (by exact r_42_3 hF3) ?_
  refine r_callV1 (ci := 5) (d1 := 1) (c1 := 0) (n1 := 0) dX10_copyFrom_68 mvX10_67 rfl ⟨(Nat.le_of_ble_eq_true rfl), rfl⟩ (Nat.le_of_ble_eq_true rfl) (by exact Nat.le_of_ble_eq_true rfl) (by exact k_27 hF3) ?_
  refine S_cpRow (a := 27) (b := 64) (z := 4) (z2 := 4) (n := nT f) (by exact k_27 hF3) (by exact r_27_0 hF3) (by exact k_28 hF3) (by omega) (by exact k_64 hF3) (by exact r_64_0 hF3) (by exact k_65 hF3) (by omega) (((o3.2 64 (by omega)).1 1).trans (hW.2.2.1.2.1.trans hC.2.1.1)) (by omega) (by omega) (by omega) (fun m4 q4 hn4 hr4 => ?_)
  have o4 := (o3).tr ((q4).wd (by omega) (by omega))
  have hF4 := Fx_of o4.1 hF
  have e0_4 := fun j hj => (((q4).2 5 (by omega)).1 j).trans (e0_3 j hj)
  have e20_4 := fun j hj => (((q4).2 25 (by omega)).1 j).trans (e20_3 j hj)
  have e21_4 := fun j hj => (((q4).2 26 (by omega)).1 j).trans (e21_3 j hj)
  have hc4 := fun j hj => (hc3 j hj).off q4 (by omega)
  have e22_4 : ∀ j, j = 1 → ldI m4 27 j = ldI m 64 j := fun j hj => by rw [hj]; exact hn4.trans (hW.2.2.1.2.1.trans hC.2.1.1).symm
  have e23_4 : ∀ j, j < nT f → ldI m4 28 j = ldI m 65 j := fun j hj => (hr4 j hj).trans ((o3.2 65 (by omega)).1 j)
  show Wp g mX10_copyFrom _ _ _ 71 _ [] _ Q
  refine r_aload_n dX10_copyFrom_71 rfl ?_
  refine r_getRc dX10_copyFrom_72 fgX10_33 rfl (by exact k_5 hF4) (by exact r_5_4 hF4) ?_
  refine r_aload_n dX10_copyFrom_75 rfl ?_
  refine r_getRc dX10_copyFrom_76 fgX10_33 rfl (by exact k_42 hF4) (by exact r_42_4 hF4) ?_
  refine r_callV1 (ci := 6) (d1 := 1) (c1 := 0) (n1 := 0) dX10_copyFrom_79 mvX10_70 rfl ⟨(Nat.le_of_ble_eq_true rfl), rfl⟩ (Nat.le_of_ble_eq_true rfl) (by exact Nat.le_of_ble_eq_true rfl) (by exact k_29 hF4) ?_
  refine S_cpRun (a := 29) (b := 66) (by exact k_29 hF4) (by exact k_66 hF4) (by decide) (by rw [(o4.2 66 (by omega)).1 4]; exact hw4) (fun m5 q5 hr5 => ?_)
  have o5 := (o4).tr ((q5).wd (by omega) (by omega))
  have hF5 := Fx_of o5.1 hF
  have e0_5 := fun j hj => (((q5).2 5 (by omega)).1 j).trans (e0_4 j hj)
  have e20_5 := fun j hj => (((q5).2 25 (by omega)).1 j).trans (e20_4 j hj)
  have e21_5 := fun j hj => (((q5).2 26 (by omega)).1 j).trans (e21_4 j hj)
  have e22_5 := fun j hj => (((q5).2 27 (by omega)).1 j).trans (e22_4 j hj)
  have e23_5 := fun j hj => (((q5).2 28 (by omega)).1 j).trans (e23_4 j hj)
  have hc5 := fun j hj => (hc4 j hj).off q5 (by omega)
  have e24_5 : ∀ j, j < 6 → ldI m5 29 j = ldI m 66 j := fun j hj => (hr5 j hj).trans ((o4.2 66 (by omega)).1 j)
  show Wp g mX10_copyFrom _ _ _ 82 _ [] _ Q
  refine r_aload_n dX10_copyFrom_82 rfl ?_
  refine r_getRc dX10_copyFrom_83 fgX10_37 rfl (by exact k_5 hF5) (by exact r_5_5 hF5) ?_
  refine r_aload_n dX10_copyFrom_86 rfl ?_
  refine r_getRc dX10_copyFrom_87 fgX10_37 rfl (by exact k_42 hF5) (by exact r_42_5 hF5) ?_
  refine r_callV1 (ci := 5) (d1 := 1) (c1 := 0) (n1 := 0) dX10_copyFrom_90 mvX10_67 rfl ⟨(Nat.le_of_ble_eq_true rfl), rfl⟩ (Nat.le_of_ble_eq_true rfl) (by exact Nat.le_of_ble_eq_true rfl) (by exact k_30 hF5) ?_
  refine S_cpRow (a := 30) (b := 67) (z := 420) (z2 := 420) (n := 7 * nR f) (by exact k_30 hF5) (by exact r_30_0 hF5) (by exact k_31 hF5) (by omega) (by exact k_67 hF5) (by exact r_67_0 hF5) (by exact k_68 hF5) (by omega) (((o5.2 67 (by omega)).1 1).trans (hW.2.2.2.2.1.1)) (by omega) (by omega) (by omega) (fun m6 q6 hn6 hr6 => ?_)
  have o6 := (o5).tr ((q6).wd (by omega) (by omega))
  have hF6 := Fx_of o6.1 hF
  have e0_6 := fun j hj => (((q6).2 5 (by omega)).1 j).trans (e0_5 j hj)
  have e20_6 := fun j hj => (((q6).2 25 (by omega)).1 j).trans (e20_5 j hj)
  have e21_6 := fun j hj => (((q6).2 26 (by omega)).1 j).trans (e21_5 j hj)
  have e22_6 := fun j hj => (((q6).2 27 (by omega)).1 j).trans (e22_5 j hj)
  have e23_6 := fun j hj => (((q6).2 28 (by omega)).1 j).trans (e23_5 j hj)
  have e24_6 := fun j hj => (((q6).2 29 (by omega)).1 j).trans (e24_5 j hj)
  have hc6 := fun j hj => (hc5 j hj).off q6 (by omega)
  have e25_6 : ∀ j, j = 1 → ldI m6 30 j = ldI m 67 j := fun j hj => by rw [hj]; exact hn6.trans (hW.2.2.2.2.1.1).symm
  have e26_6 : ∀ j, j < 7 * nR f → ldI m6 31 j = ldI m 68 j := fun j hj => (hr6 j hj).trans ((o5.2 68 (by omega)).1 j)
  show Wp g mX10_copyFrom _ _ _ 93 _ [] _ Q
  refine r_aload_n dX10_copyFrom_93 rfl ?_
  refine r_getRc dX10_copyFrom_94 fgX10_43 rfl (by exact k_5 hF6) (by exact r_5_6 hF6) ?_
  refine r_aload_n dX10_copyFrom_97 rfl ?_
  refine r_getRc dX10_copyFrom_98 fgX10_43 rfl (by exact k_42 hF6) (by exact r_42_6 hF6) ?_
  refine r_callV1 (ci := 8) (d1 := 2) (c1 := 0) (n1 := 0) dX10_copyFrom_101 mvX10_73 rfl ⟨(Nat.le_of_ble_eq_true rfl), rfl⟩ (Nat.le_of_ble_eq_true rfl) (by exact Nat.le_of_ble_eq_true rfl) (by exact k_32 hF6) ?_
  refine S_shc0_1 hF6 (n := nE f) (((o6.2 70 (by omega)).1 1).trans (hW.2.2.2.2.2.1.1.trans hC.2.2.2.1.1)) (by omega) (fun m7 q7 hn7 hr7 => ?_)
  have o7 := (o6).tr ((q7).wd (by omega) (by omega))
  have hF7 := Fx_of o7.1 hF
  have e0_7 := fun j hj => (((q7).2 5 (by omega)).1 j).trans (e0_6 j hj)
  have e20_7 := fun j hj => (((q7).2 25 (by omega)).1 j).trans (e20_6 j hj)
  have e21_7 := fun j hj => (((q7).2 26 (by omega)).1 j).trans (e21_6 j hj)
  have e22_7 := fun j hj => (((q7).2 27 (by omega)).1 j).trans (e22_6 j hj)
  have e23_7 := fun j hj => (((q7).2 28 (by omega)).1 j).trans (e23_6 j hj)
  have e24_7 := fun j hj => (((q7).2 29 (by omega)).1 j).trans (e24_6 j hj)
  have e25_7 := fun j hj => (((q7).2 30 (by omega)).1 j).trans (e25_6 j hj)
  have e26_7 := fun j hj => (((q7).2 31 (by omega)).1 j).trans (e26_6 j hj)
  have hc7 := fun j hj => (hc6 j hj).off q7 (by omega)
  have e28_7 : ∀ j, j = 1 → ldI m7 33 j = ldI m 70 j := fun j hj => by rw [hj]; exact hn7.trans (hW.2.2.2.2.2.1.1.trans hC.2.2.2.1.1).symm
  have e29_7 : ∀ j, j < nE f → ldI m7 34 j = ldI m 71 j := fun j hj => (hr7 j hj).trans ((o6.2 71 (by omega)).1 j)
  show Wp g mX10_copyFrom _ _ _ 104 _ [] _ Q
  refine r_aload_n dX10_copyFrom_104 rfl ?_
  refine r_getRc dX10_copyFrom_105 fgX10_47 rfl (by exact k_5 hF7) (by exact r_5_7 hF7) ?_
  refine r_aload_n dX10_copyFrom_108 rfl ?_
  refine r_getRc dX10_copyFrom_109 fgX10_47 rfl (by exact k_42 hF7) (by exact r_42_7 hF7) ?_
  refine r_callV1 (ci := 5) (d1 := 1) (c1 := 0) (n1 := 0) dX10_copyFrom_112 mvX10_67 rfl ⟨(Nat.le_of_ble_eq_true rfl), rfl⟩ (Nat.le_of_ble_eq_true rfl) (by exact Nat.le_of_ble_eq_true rfl) (by exact k_35 hF7) ?_
  refine S_cpRow (a := 35) (b := 72) (z := 6) (z2 := 6) (n := nM f) (by exact k_35 hF7) (by exact r_35_0 hF7) (by exact k_36 hF7) (by omega) (by exact k_72 hF7) (by exact r_72_0 hF7) (by exact k_73 hF7) (by omega) (((o7.2 72 (by omega)).1 1).trans (hW.2.2.2.2.2.2.1.1.trans hC.2.2.2.2.1.1)) (by omega) (by omega) (by omega) (fun m8 q8 hn8 hr8 => ?_)
  have o8 := (o7).tr ((q8).wd (by omega) (by omega))
  have hF8 := Fx_of o8.1 hF
  have e0_8 := fun j hj => (((q8).2 5 (by omega)).1 j).trans (e0_7 j hj)
  have e20_8 := fun j hj => (((q8).2 25 (by omega)).1 j).trans (e20_7 j hj)
  have e21_8 := fun j hj => (((q8).2 26 (by omega)).1 j).trans (e21_7 j hj)
  have e22_8 := fun j hj => (((q8).2 27 (by omega)).1 j).trans (e22_7 j hj)
  have e23_8 := fun j hj => (((q8).2 28 (by omega)).1 j).trans (e23_7 j hj)
  have e24_8 := fun j hj => (((q8).2 29 (by omega)).1 j).trans (e24_7 j hj)
  have e25_8 := fun j hj => (((q8).2 30 (by omega)).1 j).trans (e25_7 j hj)
  have e26_8 := fun j hj => (((q8).2 31 (by omega)).1 j).trans (e26_7 j hj)
  have e28_8 := fun j hj => (((q8).2 33 (by omega)).1 j).trans (e28_7 j hj)
  have e29_8 := fun j hj => (((q8).2 34 (by omega)).1 j).trans (e29_7 j hj)
  have hc8 := fun j hj => (hc7 j hj).off q8 (by omega)
  have e30_8 : ∀ j, j = 1 → ldI m8 35 j = ldI m 72 j := fun j hj => by rw [hj]; exact hn8.trans (hW.2.2.2.2.2.2.1.1.trans hC.2.2.2.2.1.1).symm
  have e31_8 : ∀ j, j < nM f → ldI m8 36 j = ldI m 73 j := fun j hj => (hr8 j hj).trans ((o7.2 73 (by omega)).1 j)
  show Wp g mX10_copyFrom _ _ _ 115 _ [] _ Q
  refine r_aload_n dX10_copyFrom_115 rfl ?_
  refine r_getRc dX10_copyFrom_116 fgX10_50 rfl (by exact k_5 hF8) (by exact r_5_8 hF8) ?_
  refine r_aload_n dX10_copyFrom_119 rfl ?_
  refine r_getRc dX10_copyFrom_120 fgX10_50 rfl (by exact k_42 hF8) (by exact r_42_8 hF8) ?_
  refine r_callV1 (ci := 5) (d1 := 1) (c1 := 0) (n1 := 0) dX10_copyFrom_123 mvX10_67 rfl ⟨(Nat.le_of_ble_eq_true rfl), rfl⟩ (Nat.le_of_ble_eq_true rfl) (by exact Nat.le_of_ble_eq_true rfl) (by exact k_37 hF8) ?_
  refine S_cpRow (a := 37) (b := 74) (z := 8) (z2 := 8) (n := nFo f) (by exact k_37 hF8) (by exact r_37_0 hF8) (by exact k_38 hF8) (by omega) (by exact k_74 hF8) (by exact r_74_0 hF8) (by exact k_75 hF8) (by omega) (((o8.2 74 (by omega)).1 1).trans (hW.2.2.2.2.2.2.2.1.trans hC.2.2.2.2.2.1)) (by omega) (by omega) (by omega) (fun m9 q9 hn9 hr9 => ?_)
  have o9 := (o8).tr ((q9).wd (by omega) (by omega))
  have hF9 := Fx_of o9.1 hF
  have e0_9 := fun j hj => (((q9).2 5 (by omega)).1 j).trans (e0_8 j hj)
  have e20_9 := fun j hj => (((q9).2 25 (by omega)).1 j).trans (e20_8 j hj)
  have e21_9 := fun j hj => (((q9).2 26 (by omega)).1 j).trans (e21_8 j hj)
  have e22_9 := fun j hj => (((q9).2 27 (by omega)).1 j).trans (e22_8 j hj)
  have e23_9 := fun j hj => (((q9).2 28 (by omega)).1 j).trans (e23_8 j hj)
  have e24_9 := fun j hj => (((q9).2 29 (by omega)).1 j).trans (e24_8 j hj)
  have e25_9 := fun j hj => (((q9).2 30 (by omega)).1 j).trans (e25_8 j hj)
  have e26_9 := fun j hj => (((q9).2 31 (by omega)).1 j).trans (e26_8 j hj)
  have e28_9 := fun j hj => (((q9).2 33 (by omega)).1 j).trans (e28_8 j hj)
  have e29_9 := fun j hj => (((q9).2 34 (by omega)).1 j).trans (e29_8 j hj)
  have e30_9 := fun j hj => (((q9).2 35 (by omega)).1 j).trans (e30_8 j hj)
  have e31_9 := fun j hj => (((q9).2 36 (by omega)).1 j).trans (e31_8 j hj)
  have hc9 := fun j hj => (hc8 j hj).off q9 (by omega)
  have e32_9 : ∀ j, j = 1 → ldI m9 37 j = ldI m 74 j := fun j hj => by rw [hj]; exact hn9.trans (hW.2.2.2.2.2.2.2.1.trans hC.2.2.2.2.2.1).symm
  have e33_9 : ∀ j, j < nFo f → ldI m9 38 j = ldI m 75 j := fun j hj => (hr9 j hj).trans ((o8.2 75 (by omega)).1 j)
  show Wp g mX10_copyFrom _ _ _ 126 _ [] _ Q
  refine r_aload_n dX10_copyFrom_126 rfl ?_
  refine r_getRc dX10_copyFrom_127 fgX10_53 rfl (by exact k_5 hF9) (by exact r_5_9 hF9) ?_
  refine r_aload_n dX10_copyFrom_130 rfl ?_
  refine r_getRc dX10_copyFrom_131 fgX10_53 rfl (by exact k_42 hF9) (by exact r_42_9 hF9) ?_
  refine r_callV1 (ci := 5) (d1 := 1) (c1 := 0) (n1 := 0) dX10_copyFrom_134 mvX10_67 rfl ⟨(Nat.le_of_ble_eq_true rfl), rfl⟩ (Nat.le_of_ble_eq_true rfl) (by exact Nat.le_of_ble_eq_true rfl) (by exact k_39 hF9) ?_
  refine S_cpRow (a := 39) (b := 76) (z := 8) (z2 := 8) (n := nFo f) (by exact k_39 hF9) (by exact r_39_0 hF9) (by exact k_40 hF9) (by omega) (by exact k_76 hF9) (by exact r_76_0 hF9) (by exact k_77 hF9) (by omega) (((o9.2 76 (by omega)).1 1).trans (hW.2.2.2.2.2.2.2.2.1.trans hC.2.2.2.2.2.1)) (by omega) (by omega) (by omega) (fun m10 q10 hn10 hr10 => ?_)
  have o10 := (o9).tr ((q10).wd (by omega) (by omega))
  have hF10 := Fx_of o10.1 hF
  have e0_10 := fun j hj => (((q10).2 5 (by omega)).1 j).trans (e0_9 j hj)
  have e20_10 := fun j hj => (((q10).2 25 (by omega)).1 j).trans (e20_9 j hj)
  have e21_10 := fun j hj => (((q10).2 26 (by omega)).1 j).trans (e21_9 j hj)
  have e22_10 := fun j hj => (((q10).2 27 (by omega)).1 j).trans (e22_9 j hj)
  have e23_10 := fun j hj => (((q10).2 28 (by omega)).1 j).trans (e23_9 j hj)
  have e24_10 := fun j hj => (((q10).2 29 (by omega)).1 j).trans (e24_9 j hj)
  have e25_10 := fun j hj => (((q10).2 30 (by omega)).1 j).trans (e25_9 j hj)
  have e26_10 := fun j hj => (((q10).2 31 (by omega)).1 j).trans (e26_9 j hj)
  have e28_10 := fun j hj => (((q10).2 33 (by omega)).1 j).trans (e28_9 j hj)
  have e29_10 := fun j hj => (((q10).2 34 (by omega)).1 j).trans (e29_9 j hj)
  have e30_10 := fun j hj => (((q10).2 35 (by omega)).1 j).trans (e30_9 j hj)
  have e31_10 := fun j hj => (((q10).2 36 (by omega)).1 j).trans (e31_9 j hj)
  have e32_10 := fun j hj => (((q10).2 37 (by omega)).1 j).trans (e32_9 j hj)
  have e33_10 := fun j hj => (((q10).2 38 (by omega)).1 j).trans (e33_9 j hj)
  have hc10 := fun j hj => (hc9 j hj).off q10 (by omega)
  have e34_10 : ∀ j, j = 1 → ldI m10 39 j = ldI m 76 j := fun j hj => by rw [hj]; exact hn10.trans (hW.2.2.2.2.2.2.2.2.1.trans hC.2.2.2.2.2.1).symm
  have e35_10 : ∀ j, j < nFo f → ldI m10 40 j = ldI m 77 j := fun j hj => (hr10 j hj).trans ((o9.2 77 (by omega)).1 j)
  show Wp g mX10_copyFrom _ _ _ 137 _ [] _ Q
  refine r_aload_n dX10_copyFrom_137 rfl ?_
  refine r_aload_n dX10_copyFrom_138 rfl ?_
  refine r_getI dX10_copyFrom_139 fgX10_56 rfl (by exact k_42 hF10) ?_
  refine r_putI dX10_copyFrom_142 (fpX10_56 _ rfl) rfl (by exact k_5 hF10) ⟨rfl, rfl⟩ ?_
  refine r_return dX10_copyFrom_145 rfl ?_
  have qz : Off 5 5 m10 (stI m10 5 10 (ldI m10 42 10)) := Off.rf.stI (by omega) (by omega)
  have tz : ∀ a, 5 < a → ∀ k, ldI (stI m10 5 10 (ldI m10 42 10)) a k = ldI m10 a k := fun a ha k => (qz.2 a (by omega)).1 k
  have oz : Off 5 40 m (stI m10 5 10 (ldI m10 42 10)) := o10.tr (qz.wd (by omega) (by omega))
  refine k (stI m10 5 10 (ldI m10 42 10)) oz ⟨⟨(ld_n (by omega) (e0_10 1 rfl)).trans hW.1.1, ld_s.trans (((o10.2 42 (by omega)).1 10).trans hW.1.2)⟩, fun i hi => ?_, ⟨(tz _ (by omega) 1).trans ((e20_10 1 rfl).trans hW.2.2.1.1), (tz _ (by omega) 1).trans ((e22_10 1 rfl).trans hW.2.2.1.2.1), fun j hj => ⟨(tz _ (by omega) j).trans ((e21_10 j hj).trans (hW.2.2.1.2.2 j hj).1), (tz _ (by omega) j).trans ((e23_10 j hj).trans (hW.2.2.1.2.2 j hj).2)⟩⟩, fun j hj => (tz _ (by omega) j).trans ((e24_10 j hj).trans (hW.2.2.2.1 j hj)), ⟨(tz _ (by omega) 1).trans ((e25_10 1 rfl).trans hW.2.2.2.2.1.1), fun j hj => (tz _ (by omega) j).trans ((e26_10 j hj).trans (hW.2.2.2.2.1.2 j hj))⟩, ⟨(tz _ (by omega) 1).trans ((e28_10 1 rfl).trans hW.2.2.2.2.2.1.1), fun j hj => (tz _ (by omega) j).trans ((e29_10 j hj).trans (hW.2.2.2.2.2.1.2 j hj))⟩, ⟨(tz _ (by omega) 1).trans ((e30_10 1 rfl).trans hW.2.2.2.2.2.2.1.1), fun j hj => (tz _ (by omega) j).trans ((e31_10 j hj).trans (hW.2.2.2.2.2.2.1.2 j hj))⟩, (tz _ (by omega) 1).trans ((e32_10 1 rfl).trans hW.2.2.2.2.2.2.2.1), (tz _ (by omega) 1).trans ((e34_10 1 rfl).trans hW.2.2.2.2.2.2.2.2.1), fun j hj => ⟨(tz _ (by omega) j).trans ((e33_10 j hj).trans (hW.2.2.2.2.2.2.2.2.2 j hj).1), (tz _ (by omega) j).trans ((e35_10 j hj).trans (hW.2.2.2.2.2.2.2.2.2 j hj).2)⟩⟩
  have hci := (hc10 i (by omega)).off qz (by omega)
  have wi := hW.2.1 i hi
  have s12 := hS12 i hi
  exact ⟨hci.1.trans wi.1, hci.2.1.trans wi.2.1, fun s hs => ⟨(hci.2.2 s (by omega)).1.trans (wi.2.2 s hs).1, (hci.2.2 s (by omega)).2.trans (wi.2.2 s hs).2⟩⟩
theorem L_wc1_0 {g : GG} {m : MM} {Q : Out → Prop} (hF : Fx m)  (kx : ∀ (m1 : MM), (Off 42 77 m m1 ∧ ∀ j, j < 6 → HC 42 5 m m1 j) → Wp g mX10_copyFrom 5 0 0 41 [.ref 42, .ref 5, .int (nI 6)] [] (m1) Q) : ∀ (t i : Nat) (m1 : MM), i + t = 6 → (Off 42 77 m m1 ∧ ∀ j, j < i → HC 42 5 m m1 j) → Wp g mX10_copyFrom 5 0 0 2 [.ref 42, .ref 5, .int (nI i)] [] (m1) Q := by
  intro t
  induction t with
  | zero =>
    intro i m1 hi hI
    have hi : i = 6 := by omega
    subst hi
    have hF1 := Fx_of hI.1.1 hF
    refine r_iload_n dX10_copyFrom_2 rfl ?_
    refine r_aload_n dX10_copyFrom_3 rfl ?_
    refine r_getRc dX10_copyFrom_4 fgX10_11 rfl (by exact k_42 hF1) (by exact r_42_0 hF1) ?_
    refine r_alen _ dX10_copyFrom_7 ⟨Nat.le_of_ble_eq_true rfl, Nat.le_of_ble_eq_true rfl⟩ (by exact k_43 hF1) rfl ?_
    refine r_icmp_ge 41 dX10_copyFrom_8 rfl (fun h1 => ?_) (fun h1 => ?_)
    ·
      exact kx _ hI
    ·
      exact absurd (by decide) h1
  | succ t ih =>
    intro i m1 hi hI
    have hin : i < 6 := by omega
    have hF1 := Fx_of hI.1.1 hF
    refine r_iload_n dX10_copyFrom_2 rfl ?_
    refine r_aload_n dX10_copyFrom_3 rfl ?_
    refine r_getRc dX10_copyFrom_4 fgX10_11 rfl (by exact k_42 hF1) (by exact r_42_0 hF1) ?_
    refine r_alen _ dX10_copyFrom_7 ⟨Nat.le_of_ble_eq_true rfl, Nat.le_of_ble_eq_true rfl⟩ (by exact k_43 hF1) rfl ?_
    refine r_icmp_ge 41 dX10_copyFrom_8 rfl (fun h1 => ?_) (fun h1 => ?_)
    ·
      exact absurd h1 (nI_ge (a := i) (b := 6) hin (by omega))
    ·
      refine r_iload_n dX10_copyFrom_11 rfl ?_
      refine r_aload_n dX10_copyFrom_12 rfl ?_
      refine r_getRc dX10_copyFrom_13 fgX10_11 rfl (by exact k_5 hF1) (by exact r_5_0 hF1) ?_
      refine r_alen _ dX10_copyFrom_16 ⟨Nat.le_of_ble_eq_true rfl, Nat.le_of_ble_eq_true rfl⟩ (by exact k_6 hF1) rfl ?_
      refine r_icmp_ge 41 dX10_copyFrom_17 rfl (fun h2 => ?_) (fun h2 => ?_)
      ·
        exact absurd h2 (nI_ge (a := i) (b := 6) hin (by omega))
      ·
        refine r_aload_n dX10_copyFrom_20 rfl ?_
        refine r_getRc dX10_copyFrom_21 fgX10_11 rfl (by exact k_42 hF1) (by exact r_42_0 hF1) ?_
        refine r_iload_n dX10_copyFrom_24 rfl ?_
        refine r_aaloadc (b := 44 + 3 * i) dX10_copyFrom_25 ⟨Nat.le_of_ble_eq_true rfl, Nat.le_of_ble_eq_true rfl⟩ (by exact k_43 hF1) (vin (by omega) (by omega)) (by rw [nI_cl i (by omega)]; exact hu1_r hF1 (by omega)) ?_
        refine r_aload_n dX10_copyFrom_26 rfl ?_
        refine r_getRc dX10_copyFrom_27 fgX10_11 rfl (by exact k_5 hF1) (by exact r_5_0 hF1) ?_
        refine r_iload_n dX10_copyFrom_30 rfl ?_
        refine r_aaloadc (b := 7 + 3 * i) dX10_copyFrom_31 ⟨Nat.le_of_ble_eq_true rfl, Nat.le_of_ble_eq_true rfl⟩ (by exact k_6 hF1) (vin (by omega) (by omega)) (by rw [nI_cl i (by omega)]; exact hu0_r hF1 (by omega)) ?_
        refine r_callV1 (ci := 1) (d1 := 4) (c1 := 0) (n1 := 0) dX10_copyFrom_32 mvX10_60 rfl ⟨(Nat.le_of_ble_eq_true rfl), rfl⟩ (Nat.le_of_ble_eq_true rfl) (by exact Nat.le_of_ble_eq_true rfl) (by exact hu1_k hF1 (by omega)) ?_
        refine S_X1_copyFrom (by exact hu1_k hF1 (by omega)) (by exact hb1_r hF1 (by omega)) (by exact hb1_k hF1 (by omega)) (by exact hd1_r hF1 (by omega)) (by exact hd1_k hF1 (by omega)) (by exact hu0_k hF1 (by omega)) (by exact hb0_r hF1 (by omega)) (by exact hb0_k hF1 (by omega)) (by exact hd0_r hF1 (by omega)) (by exact hd0_k hF1 (by omega)) ⟨eq_false (by omega), eq_false (by omega), eq_false (by omega), eq_false (by omega), eq_false (by omega), eq_false (by omega), eq_false (by omega)⟩ ?_
        show Wp g mX10_copyFrom _ _ _ 35 _ [] _ Q
        refine ic_2 (1) dX10_copyFrom_35 rfl rfl (Nat.le_of_ble_eq_true rfl) ?_
        refine r_goto 2 dX10_copyFrom_38 rfl ?_
        rw [nI_1 i]
        have q9 : Off (44 + 3 * i) (44 + 3 * i + 2) m1 (hcM m1 (44 + 3 * i) (45 + 3 * i) (46 + 3 * i) (7 + 3 * i) (8 + 3 * i) (9 + 3 * i)) := by rw [show 45 + 3 * i = 44 + 3 * i + 1 from by omega, show 46 + 3 * i = 44 + 3 * i + 2 from by omega]; exact hcM_off
        refine ih (i + 1) _ (by omega) ⟨hI.1.tr (q9.wd (by omega) (by omega)), fun j hj => ?_⟩
        by_cases q : j = i
        · subst q; exact hcM_hc (w := 42) (v := 5) (by omega) (by omega) hI.1
        · exact (hI.2 j (by omega)).off q9 (by omega)
theorem S_shc1_0 {g : GG} {m : MM} {Q : Out → Prop} (hF : Fx m) {n : Nat} (hn : ldI m 33 1 = nI n) (h20 : n ≤ 20) (k : ∀ m', Off 70 71 m m' → ldI m' 70 1 = nI n → (∀ j, j < n → ldI m' 71 j = ldI m 34 j) → Q (.inl none, m')) : Cl g 2 0 0 mX8_copyFrom [.ref 69, .ref 32] m Q := by
  refine Cl.of rfl (by decide) (Nat.le_of_ble_eq_true rfl) ?_
  show Wp g mX8_copyFrom 2 0 0 0 [.ref 69, .ref 32] [] m Q
  refine r_aload_n dX8_copyFrom_0 rfl ?_
  refine r_getRc dX8_copyFrom_1 fgX8_14 rfl (by exact k_69 hF) (by exact r_69_0 hF) ?_
  refine r_aload_n dX8_copyFrom_4 rfl ?_
  refine r_getRc dX8_copyFrom_5 fgX8_14 rfl (by exact k_32 hF) (by exact r_32_0 hF) ?_
  refine r_callV1 (ci := 5) (d1 := 1) (c1 := 0) (n1 := 0) dX8_copyFrom_8 mvX8_64 rfl ⟨(Nat.le_of_ble_eq_true rfl), rfl⟩ (Nat.le_of_ble_eq_true rfl) (by exact Nat.le_of_ble_eq_true rfl) (by exact k_70 hF) ?_
  refine S_cpRow (a := 70) (b := 33) (z := 20) (z2 := 20) (n := n) (by exact k_70 hF) (by exact r_70_0 hF) (by exact k_71 hF) (by omega) (by exact k_33 hF) (by exact r_33_0 hF) (by exact k_34 hF) (by omega) hn (by omega) (by omega) (by omega) (fun m1 q1 hn1 hr1 => ?_)
  show Wp g mX8_copyFrom _ _ _ 11 _ [] _ Q
  refine r_return dX8_copyFrom_11 rfl ?_
  exact k m1 q1 hn1 hr1
theorem S_wcopy1_0 {g : GG} {m : MM} {Q : Out → Prop} (hF : Fx m) {f : Nat → Int32} (hC : VC f) (hW : Wd f 5 m) (hw4 : ldI m 29 4 = 0 ∨ ldI m 29 4 = 1) (hS12 : ∀ i, i < nH f → nS f i ≤ 12) (k : ∀ m', Off 42 77 m m' → Wd f 42 m' → Q (.inl none, m')) : Cl g 5 0 0 mX10_copyFrom [.ref 42, .ref 5] m Q := by
  refine Cl.of rfl (by decide) (Nat.le_of_ble_eq_true rfl) ?_
  show Wp g mX10_copyFrom 5 0 0 0 [.ref 42, .ref 5, .retAddr 0] [] m Q
  have b0 := hC.1.2
  have b1 := hC.2.1.2
  have b2 := hC.2.2.1.2
  have b3 := hC.2.2.2.1.2
  have b4 := hC.2.2.2.2.1.2
  have b5 := hC.2.2.2.2.2.2
  refine r_iconst (0) dX10_copyFrom_0 rfl ?_
  refine si_2 dX10_copyFrom_1 rfl (Nat.le_of_ble_eq_true rfl) ?_
  refine L_wc1_0 hF (fun m1 hI => ?_) 6 0 m (by omega) ⟨Off.rf, fun j hj => absurd hj (by omega)⟩
  have o1 := hI.1
  have hc1 := hI.2
  have hF1 := Fx_of o1.1 hF
  refine r_aload_n dX10_copyFrom_41 rfl ?_
  refine r_aload_n dX10_copyFrom_42 rfl ?_
  refine r_getI dX10_copyFrom_43 fgX10_64 rfl (by exact k_5 hF1) ?_
  refine r_putI dX10_copyFrom_46 (fpX10_64 _ rfl) rfl (by exact k_42 hF1) ⟨rfl, rfl⟩ ?_
  generalize hm2 : stI m1 42 1 (ldI m1 5 1) = m2
  have q2 : Off 42 42 m1 m2 := hm2 ▸ Off.rf.stI (by omega) (by omega)
  have o2 := (o1).tr ((q2).wd (by omega) (by omega))
  have hF2 := Fx_of o2.1 hF
  have hc2 := fun j hj => (hc1 j hj).off q2 (by omega)
  have e0_2 : ∀ j, j = 1 → ldI m2 42 j = ldI m 5 j := fun j hj => by rw [hj, ← hm2]; exact ld_s.trans ((o1.2 5 (by omega)).1 1)
  refine r_aload_n dX10_copyFrom_49 rfl ?_
  refine r_getRc dX10_copyFrom_50 fgX10_23 rfl (by exact k_42 hF2) (by exact r_42_2 hF2) ?_
  refine r_aload_n dX10_copyFrom_53 rfl ?_
  refine r_getRc dX10_copyFrom_54 fgX10_23 rfl (by exact k_5 hF2) (by exact r_5_2 hF2) ?_
  refine r_callV1 (ci := 5) (d1 := 1) (c1 := 0) (n1 := 0) dX10_copyFrom_57 mvX10_67 rfl ⟨(Nat.le_of_ble_eq_true rfl), rfl⟩ (Nat.le_of_ble_eq_true rfl) (by exact Nat.le_of_ble_eq_true rfl) (by exact k_62 hF2) ?_
  refine S_cpRow (a := 62) (b := 25) (z := 4) (z2 := 4) (n := nT f) (by exact k_62 hF2) (by exact r_62_0 hF2) (by exact k_63 hF2) (by omega) (by exact k_25 hF2) (by exact r_25_0 hF2) (by exact k_26 hF2) (by omega) (((o2.2 25 (by omega)).1 1).trans (hW.2.2.1.1.trans hC.2.1.1)) (by omega) (by omega) (by omega) (fun m3 q3 hn3 hr3 => ?_)
  have o3 := (o2).tr ((q3).wd (by omega) (by omega))
  have hF3 := Fx_of o3.1 hF
  have e0_3 := fun j hj => (((q3).2 42 (by omega)).1 j).trans (e0_2 j hj)
  have hc3 := fun j hj => (hc2 j hj).off q3 (by omega)
  have e20_3 : ∀ j, j = 1 → ldI m3 62 j = ldI m 25 j := fun j hj => by rw [hj]; exact hn3.trans (hW.2.2.1.1.trans hC.2.1.1).symm
  have e21_3 : ∀ j, j < nT f → ldI m3 63 j = ldI m 26 j := fun j hj => (hr3 j hj).trans ((o2.2 26 (by omega)).1 j)
  show Wp g mX10_copyFrom _ _ _ 60 _ [] _ Q
  refine r_aload_n dX10_copyFrom_60 rfl ?_
  refine r_getRc dX10_copyFrom_61 fgX10_27 rfl (by exact k_42 hF3) (by exact r_42_3 hF3) ?_
  refine r_aload_n dX10_copyFrom_64 rfl ?_
  refine r_getRc dX10_copyFrom_65 fgX10_27 rfl (by exact k_5 hF3) (by exact r_5_3 hF3) ?_
  refine r_callV1 (ci := 5) (d1 := 1) (c1 := 0) (n1 := 0) dX10_copyFrom_68 mvX10_67 rfl ⟨(Nat.le_of_ble_eq_true rfl), rfl⟩ (Nat.le_of_ble_eq_true rfl) (by exact Nat.le_of_ble_eq_true rfl) (by exact k_64 hF3) ?_
  refine S_cpRow (a := 64) (b := 27) (z := 4) (z2 := 4) (n := nT f) (by exact k_64 hF3) (by exact r_64_0 hF3) (by exact k_65 hF3) (by omega) (by exact k_27 hF3) (by exact r_27_0 hF3) (by exact k_28 hF3) (by omega) (((o3.2 27 (by omega)).1 1).trans (hW.2.2.1.2.1.trans hC.2.1.1)) (by omega) (by omega) (by omega) (fun m4 q4 hn4 hr4 => ?_)
  have o4 := (o3).tr ((q4).wd (by omega) (by omega))
  have hF4 := Fx_of o4.1 hF
  have e0_4 := fun j hj => (((q4).2 42 (by omega)).1 j).trans (e0_3 j hj)
  have e20_4 := fun j hj => (((q4).2 62 (by omega)).1 j).trans (e20_3 j hj)
  have e21_4 := fun j hj => (((q4).2 63 (by omega)).1 j).trans (e21_3 j hj)
  have hc4 := fun j hj => (hc3 j hj).off q4 (by omega)
  have e22_4 : ∀ j, j = 1 → ldI m4 64 j = ldI m 27 j := fun j hj => by rw [hj]; exact hn4.trans (hW.2.2.1.2.1.trans hC.2.1.1).symm
  have e23_4 : ∀ j, j < nT f → ldI m4 65 j = ldI m 28 j := fun j hj => (hr4 j hj).trans ((o3.2 28 (by omega)).1 j)
  show Wp g mX10_copyFrom _ _ _ 71 _ [] _ Q
  refine r_aload_n dX10_copyFrom_71 rfl ?_
  refine r_getRc dX10_copyFrom_72 fgX10_33 rfl (by exact k_42 hF4) (by exact r_42_4 hF4) ?_
  refine r_aload_n dX10_copyFrom_75 rfl ?_
  refine r_getRc dX10_copyFrom_76 fgX10_33 rfl (by exact k_5 hF4) (by exact r_5_4 hF4) ?_
  refine r_callV1 (ci := 6) (d1 := 1) (c1 := 0) (n1 := 0) dX10_copyFrom_79 mvX10_70 rfl ⟨(Nat.le_of_ble_eq_true rfl), rfl⟩ (Nat.le_of_ble_eq_true rfl) (by exact Nat.le_of_ble_eq_true rfl) (by exact k_66 hF4) ?_
  refine S_cpRun (a := 66) (b := 29) (by exact k_66 hF4) (by exact k_29 hF4) (by decide) (by rw [(o4.2 29 (by omega)).1 4]; exact hw4) (fun m5 q5 hr5 => ?_)
  have o5 := (o4).tr ((q5).wd (by omega) (by omega))
  have hF5 := Fx_of o5.1 hF
  have e0_5 := fun j hj => (((q5).2 42 (by omega)).1 j).trans (e0_4 j hj)
  have e20_5 := fun j hj => (((q5).2 62 (by omega)).1 j).trans (e20_4 j hj)
  have e21_5 := fun j hj => (((q5).2 63 (by omega)).1 j).trans (e21_4 j hj)
  have e22_5 := fun j hj => (((q5).2 64 (by omega)).1 j).trans (e22_4 j hj)
  have e23_5 := fun j hj => (((q5).2 65 (by omega)).1 j).trans (e23_4 j hj)
  have hc5 := fun j hj => (hc4 j hj).off q5 (by omega)
  have e24_5 : ∀ j, j < 6 → ldI m5 66 j = ldI m 29 j := fun j hj => (hr5 j hj).trans ((o4.2 29 (by omega)).1 j)
  show Wp g mX10_copyFrom _ _ _ 82 _ [] _ Q
  refine r_aload_n dX10_copyFrom_82 rfl ?_
  refine r_getRc dX10_copyFrom_83 fgX10_37 rfl (by exact k_42 hF5) (by exact r_42_5 hF5) ?_
  refine r_aload_n dX10_copyFrom_86 rfl ?_
  refine r_getRc dX10_copyFrom_87 fgX10_37 rfl (by exact k_5 hF5) (by exact r_5_5 hF5) ?_
  refine r_callV1 (ci := 5) (d1 := 1) (c1 := 0) (n1 := 0) dX10_copyFrom_90 mvX10_67 rfl ⟨(Nat.le_of_ble_eq_true rfl), rfl⟩ (Nat.le_of_ble_eq_true rfl) (by exact Nat.le_of_ble_eq_true rfl) (by exact k_67 hF5) ?_
  refine S_cpRow (a := 67) (b := 30) (z := 420) (z2 := 420) (n := 7 * nR f) (by exact k_67 hF5) (by exact r_67_0 hF5) (by exact k_68 hF5) (by omega) (by exact k_30 hF5) (by exact r_30_0 hF5) (by exact k_31 hF5) (by omega) (((o5.2 30 (by omega)).1 1).trans (hW.2.2.2.2.1.1)) (by omega) (by omega) (by omega) (fun m6 q6 hn6 hr6 => ?_)
  have o6 := (o5).tr ((q6).wd (by omega) (by omega))
  have hF6 := Fx_of o6.1 hF
  have e0_6 := fun j hj => (((q6).2 42 (by omega)).1 j).trans (e0_5 j hj)
  have e20_6 := fun j hj => (((q6).2 62 (by omega)).1 j).trans (e20_5 j hj)
  have e21_6 := fun j hj => (((q6).2 63 (by omega)).1 j).trans (e21_5 j hj)
  have e22_6 := fun j hj => (((q6).2 64 (by omega)).1 j).trans (e22_5 j hj)
  have e23_6 := fun j hj => (((q6).2 65 (by omega)).1 j).trans (e23_5 j hj)
  have e24_6 := fun j hj => (((q6).2 66 (by omega)).1 j).trans (e24_5 j hj)
  have hc6 := fun j hj => (hc5 j hj).off q6 (by omega)
  have e25_6 : ∀ j, j = 1 → ldI m6 67 j = ldI m 30 j := fun j hj => by rw [hj]; exact hn6.trans (hW.2.2.2.2.1.1).symm
  have e26_6 : ∀ j, j < 7 * nR f → ldI m6 68 j = ldI m 31 j := fun j hj => (hr6 j hj).trans ((o5.2 31 (by omega)).1 j)
  show Wp g mX10_copyFrom _ _ _ 93 _ [] _ Q
  refine r_aload_n dX10_copyFrom_93 rfl ?_
  refine r_getRc dX10_copyFrom_94 fgX10_43 rfl (by exact k_42 hF6) (by exact r_42_6 hF6) ?_
  refine r_aload_n dX10_copyFrom_97 rfl ?_
  refine r_getRc dX10_copyFrom_98 fgX10_43 rfl (by exact k_5 hF6) (by exact r_5_6 hF6) ?_
  refine r_callV1 (ci := 8) (d1 := 2) (c1 := 0) (n1 := 0) dX10_copyFrom_101 mvX10_73 rfl ⟨(Nat.le_of_ble_eq_true rfl), rfl⟩ (Nat.le_of_ble_eq_true rfl) (by exact Nat.le_of_ble_eq_true rfl) (by exact k_69 hF6) ?_
  refine S_shc1_0 hF6 (n := nE f) (((o6.2 33 (by omega)).1 1).trans (hW.2.2.2.2.2.1.1.trans hC.2.2.2.1.1)) (by omega) (fun m7 q7 hn7 hr7 => ?_)
  have o7 := (o6).tr ((q7).wd (by omega) (by omega))
  have hF7 := Fx_of o7.1 hF
  have e0_7 := fun j hj => (((q7).2 42 (by omega)).1 j).trans (e0_6 j hj)
  have e20_7 := fun j hj => (((q7).2 62 (by omega)).1 j).trans (e20_6 j hj)
  have e21_7 := fun j hj => (((q7).2 63 (by omega)).1 j).trans (e21_6 j hj)
  have e22_7 := fun j hj => (((q7).2 64 (by omega)).1 j).trans (e22_6 j hj)
  have e23_7 := fun j hj => (((q7).2 65 (by omega)).1 j).trans (e23_6 j hj)
  have e24_7 := fun j hj => (((q7).2 66 (by omega)).1 j).trans (e24_6 j hj)
  have e25_7 := fun j hj => (((q7).2 67 (by omega)).1 j).trans (e25_6 j hj)
  have e26_7 := fun j hj => (((q7).2 68 (by omega)).1 j).trans (e26_6 j hj)
  have hc7 := fun j hj => (hc6 j hj).off q7 (by omega)
  have e28_7 : ∀ j, j = 1 → ldI m7 70 j = ldI m 33 j := fun j hj => by rw [hj]; exact hn7.trans (hW.2.2.2.2.2.1.1.trans hC.2.2.2.1.1).symm
  have e29_7 : ∀ j, j < nE f → ldI m7 71 j = ldI m 34 j := fun j hj => (hr7 j hj).trans ((o6.2 34 (by omega)).1 j)
  show Wp g mX10_copyFrom _ _ _ 104 _ [] _ Q
  refine r_aload_n dX10_copyFrom_104 rfl ?_
  refine r_getRc dX10_copyFrom_105 fgX10_47 rfl (by exact k_42 hF7) (by exact r_42_7 hF7) ?_
  refine r_aload_n dX10_copyFrom_108 rfl ?_
  refine r_getRc dX10_copyFrom_109 fgX10_47 rfl (by exact k_5 hF7) (by exact r_5_7 hF7) ?_
  refine r_callV1 (ci := 5) (d1 := 1) (c1 := 0) (n1 := 0) dX10_copyFrom_112 mvX10_67 rfl ⟨(Nat.le_of_ble_eq_true rfl), rfl⟩ (Nat.le_of_ble_eq_true rfl) (by exact Nat.le_of_ble_eq_true rfl) (by exact k_72 hF7) ?_
  refine S_cpRow (a := 72) (b := 35) (z := 6) (z2 := 6) (n := nM f) (by exact k_72 hF7) (by exact r_72_0 hF7) (by exact k_73 hF7) (by omega) (by exact k_35 hF7) (by exact r_35_0 hF7) (by exact k_36 hF7) (by omega) (((o7.2 35 (by omega)).1 1).trans (hW.2.2.2.2.2.2.1.1.trans hC.2.2.2.2.1.1)) (by omega) (by omega) (by omega) (fun m8 q8 hn8 hr8 => ?_)
  have o8 := (o7).tr ((q8).wd (by omega) (by omega))
  have hF8 := Fx_of o8.1 hF
  have e0_8 := fun j hj => (((q8).2 42 (by omega)).1 j).trans (e0_7 j hj)
  have e20_8 := fun j hj => (((q8).2 62 (by omega)).1 j).trans (e20_7 j hj)
  have e21_8 := fun j hj => (((q8).2 63 (by omega)).1 j).trans (e21_7 j hj)
  have e22_8 := fun j hj => (((q8).2 64 (by omega)).1 j).trans (e22_7 j hj)
  have e23_8 := fun j hj => (((q8).2 65 (by omega)).1 j).trans (e23_7 j hj)
  have e24_8 := fun j hj => (((q8).2 66 (by omega)).1 j).trans (e24_7 j hj)
  have e25_8 := fun j hj => (((q8).2 67 (by omega)).1 j).trans (e25_7 j hj)
  have e26_8 := fun j hj => (((q8).2 68 (by omega)).1 j).trans (e26_7 j hj)
  have e28_8 := fun j hj => (((q8).2 70 (by omega)).1 j).trans (e28_7 j hj)
  have e29_8 := fun j hj => (((q8).2 71 (by omega)).1 j).trans (e29_7 j hj)
  have hc8 := fun j hj => (hc7 j hj).off q8 (by omega)
  have e30_8 : ∀ j, j = 1 → ldI m8 72 j = ldI m 35 j := fun j hj => by rw [hj]; exact hn8.trans (hW.2.2.2.2.2.2.1.1.trans hC.2.2.2.2.1.1).symm
  have e31_8 : ∀ j, j < nM f → ldI m8 73 j = ldI m 36 j := fun j hj => (hr8 j hj).trans ((o7.2 36 (by omega)).1 j)
  show Wp g mX10_copyFrom _ _ _ 115 _ [] _ Q
  refine r_aload_n dX10_copyFrom_115 rfl ?_
  refine r_getRc dX10_copyFrom_116 fgX10_50 rfl (by exact k_42 hF8) (by exact r_42_8 hF8) ?_
  refine r_aload_n dX10_copyFrom_119 rfl ?_
  refine r_getRc dX10_copyFrom_120 fgX10_50 rfl (by exact k_5 hF8) (by exact r_5_8 hF8) ?_
  refine r_callV1 (ci := 5) (d1 := 1) (c1 := 0) (n1 := 0) dX10_copyFrom_123 mvX10_67 rfl ⟨(Nat.le_of_ble_eq_true rfl), rfl⟩ (Nat.le_of_ble_eq_true rfl) (by exact Nat.le_of_ble_eq_true rfl) (by exact k_74 hF8) ?_
  refine S_cpRow (a := 74) (b := 37) (z := 8) (z2 := 8) (n := nFo f) (by exact k_74 hF8) (by exact r_74_0 hF8) (by exact k_75 hF8) (by omega) (by exact k_37 hF8) (by exact r_37_0 hF8) (by exact k_38 hF8) (by omega) (((o8.2 37 (by omega)).1 1).trans (hW.2.2.2.2.2.2.2.1.trans hC.2.2.2.2.2.1)) (by omega) (by omega) (by omega) (fun m9 q9 hn9 hr9 => ?_)
  have o9 := (o8).tr ((q9).wd (by omega) (by omega))
  have hF9 := Fx_of o9.1 hF
  have e0_9 := fun j hj => (((q9).2 42 (by omega)).1 j).trans (e0_8 j hj)
  have e20_9 := fun j hj => (((q9).2 62 (by omega)).1 j).trans (e20_8 j hj)
  have e21_9 := fun j hj => (((q9).2 63 (by omega)).1 j).trans (e21_8 j hj)
  have e22_9 := fun j hj => (((q9).2 64 (by omega)).1 j).trans (e22_8 j hj)
  have e23_9 := fun j hj => (((q9).2 65 (by omega)).1 j).trans (e23_8 j hj)
  have e24_9 := fun j hj => (((q9).2 66 (by omega)).1 j).trans (e24_8 j hj)
  have e25_9 := fun j hj => (((q9).2 67 (by omega)).1 j).trans (e25_8 j hj)
  have e26_9 := fun j hj => (((q9).2 68 (by omega)).1 j).trans (e26_8 j hj)
  have e28_9 := fun j hj => (((q9).2 70 (by omega)).1 j).trans (e28_8 j hj)
  have e29_9 := fun j hj => (((q9).2 71 (by omega)).1 j).trans (e29_8 j hj)
  have e30_9 := fun j hj => (((q9).2 72 (by omega)).1 j).trans (e30_8 j hj)
  have e31_9 := fun j hj => (((q9).2 73 (by omega)).1 j).trans (e31_8 j hj)
  have hc9 := fun j hj => (hc8 j hj).off q9 (by omega)
  have e32_9 : ∀ j, j = 1 → ldI m9 74 j = ldI m 37 j := fun j hj => by rw [hj]; exact hn9.trans (hW.2.2.2.2.2.2.2.1.trans hC.2.2.2.2.2.1).symm
  have e33_9 : ∀ j, j < nFo f → ldI m9 75 j = ldI m 38 j := fun j hj => (hr9 j hj).trans ((o8.2 38 (by omega)).1 j)
  show Wp g mX10_copyFrom _ _ _ 126 _ [] _ Q
  refine r_aload_n dX10_copyFrom_126 rfl ?_
  refine r_getRc dX10_copyFrom_127 fgX10_53 rfl (by exact k_42 hF9) (by exact r_42_9 hF9) ?_
  refine r_aload_n dX10_copyFrom_130 rfl ?_
  refine r_getRc dX10_copyFrom_131 fgX10_53 rfl (by exact k_5 hF9) (by exact r_5_9 hF9) ?_
  refine r_callV1 (ci := 5) (d1 := 1) (c1 := 0) (n1 := 0) dX10_copyFrom_134 mvX10_67 rfl ⟨(Nat.le_of_ble_eq_true rfl), rfl⟩ (Nat.le_of_ble_eq_true rfl) (by exact Nat.le_of_ble_eq_true rfl) (by exact k_76 hF9) ?_
  refine S_cpRow (a := 76) (b := 39) (z := 8) (z2 := 8) (n := nFo f) (by exact k_76 hF9) (by exact r_76_0 hF9) (by exact k_77 hF9) (by omega) (by exact k_39 hF9) (by exact r_39_0 hF9) (by exact k_40 hF9) (by omega) (((o9.2 39 (by omega)).1 1).trans (hW.2.2.2.2.2.2.2.2.1.trans hC.2.2.2.2.2.1)) (by omega) (by omega) (by omega) (fun m10 q10 hn10 hr10 => ?_)
  have o10 := (o9).tr ((q10).wd (by omega) (by omega))
  have hF10 := Fx_of o10.1 hF
  have e0_10 := fun j hj => (((q10).2 42 (by omega)).1 j).trans (e0_9 j hj)
  have e20_10 := fun j hj => (((q10).2 62 (by omega)).1 j).trans (e20_9 j hj)
  have e21_10 := fun j hj => (((q10).2 63 (by omega)).1 j).trans (e21_9 j hj)
  have e22_10 := fun j hj => (((q10).2 64 (by omega)).1 j).trans (e22_9 j hj)
  have e23_10 := fun j hj => (((q10).2 65 (by omega)).1 j).trans (e23_9 j hj)
  have e24_10 := fun j hj => (((q10).2 66 (by omega)).1 j).trans (e24_9 j hj)
  have e25_10 := fun j hj => (((q10).2 67 (by omega)).1 j).trans (e25_9 j hj)
  have e26_10 := fun j hj => (((q10).2 68 (by omega)).1 j).trans (e26_9 j hj)
  have e28_10 := fun j hj => (((q10).2 70 (by omega)).1 j).trans (e28_9 j hj)
  have e29_10 := fun j hj => (((q10).2 71 (by omega)).1 j).trans (e29_9 j hj)
  have e30_10 := fun j hj => (((q10).2 72 (by omega)).1 j).trans (e30_9 j hj)
  have e31_10 := fun j hj => (((q10).2 73 (by omega)).1 j).trans (e31_9 j hj)
  have e32_10 := fun j hj => (((q10).2 74 (by omega)).1 j).trans (e32_9 j hj)
  have e33_10 := fun j hj => (((q10).2 75 (by omega)).1 j).trans (e33_9 j hj)
  have hc10 := fun j hj => (hc9 j hj).off q10 (by omega)
  have e34_10 : ∀ j, j = 1 → ldI m10 76 j = ldI m 39 j := fun j hj => by rw [hj]; exact hn10.trans (hW.2.2.2.2.2.2.2.2.1.trans hC.2.2.2.2.2.1).symm
  have e35_10 : ∀ j, j < nFo f → ldI m10 77 j = ldI m 40 j := fun j hj => (hr10 j hj).trans ((o9.2 40 (by omega)).1 j)
  show Wp g mX10_copyFrom _ _ _ 137 _ [] _ Q
  refine r_aload_n dX10_copyFrom_137 rfl ?_
  refine r_aload_n dX10_copyFrom_138 rfl ?_
  refine r_getI dX10_copyFrom_139 fgX10_56 rfl (by exact k_5 hF10) ?_
  refine r_putI dX10_copyFrom_142 (fpX10_56 _ rfl) rfl (by exact k_42 hF10) ⟨rfl, rfl⟩ ?_
  refine r_return dX10_copyFrom_145 rfl ?_
  have qz : Off 42 42 m10 (stI m10 42 10 (ldI m10 5 10)) := Off.rf.stI (by omega) (by omega)
  have tz : ∀ a, 42 < a → ∀ k, ldI (stI m10 42 10 (ldI m10 5 10)) a k = ldI m10 a k := fun a ha k => (qz.2 a (by omega)).1 k
  have oz : Off 42 77 m (stI m10 42 10 (ldI m10 5 10)) := o10.tr (qz.wd (by omega) (by omega))
  refine k (stI m10 42 10 (ldI m10 5 10)) oz ⟨⟨(ld_n (by omega) (e0_10 1 rfl)).trans hW.1.1, ld_s.trans (((o10.2 5 (by omega)).1 10).trans hW.1.2)⟩, fun i hi => ?_, ⟨(tz _ (by omega) 1).trans ((e20_10 1 rfl).trans hW.2.2.1.1), (tz _ (by omega) 1).trans ((e22_10 1 rfl).trans hW.2.2.1.2.1), fun j hj => ⟨(tz _ (by omega) j).trans ((e21_10 j hj).trans (hW.2.2.1.2.2 j hj).1), (tz _ (by omega) j).trans ((e23_10 j hj).trans (hW.2.2.1.2.2 j hj).2)⟩⟩, fun j hj => (tz _ (by omega) j).trans ((e24_10 j hj).trans (hW.2.2.2.1 j hj)), ⟨(tz _ (by omega) 1).trans ((e25_10 1 rfl).trans hW.2.2.2.2.1.1), fun j hj => (tz _ (by omega) j).trans ((e26_10 j hj).trans (hW.2.2.2.2.1.2 j hj))⟩, ⟨(tz _ (by omega) 1).trans ((e28_10 1 rfl).trans hW.2.2.2.2.2.1.1), fun j hj => (tz _ (by omega) j).trans ((e29_10 j hj).trans (hW.2.2.2.2.2.1.2 j hj))⟩, ⟨(tz _ (by omega) 1).trans ((e30_10 1 rfl).trans hW.2.2.2.2.2.2.1.1), fun j hj => (tz _ (by omega) j).trans ((e31_10 j hj).trans (hW.2.2.2.2.2.2.1.2 j hj))⟩, (tz _ (by omega) 1).trans ((e32_10 1 rfl).trans hW.2.2.2.2.2.2.2.1), (tz _ (by omega) 1).trans ((e34_10 1 rfl).trans hW.2.2.2.2.2.2.2.2.1), fun j hj => ⟨(tz _ (by omega) j).trans ((e33_10 j hj).trans (hW.2.2.2.2.2.2.2.2.2 j hj).1), (tz _ (by omega) j).trans ((e35_10 j hj).trans (hW.2.2.2.2.2.2.2.2.2 j hj).2)⟩⟩
  have hci := (hc10 i (by omega)).off qz (by omega)
  have wi := hW.2.1 i hi
  have s12 := hS12 i hi
  exact ⟨hci.1.trans wi.1, hci.2.1.trans wi.2.1, fun s hs => ⟨(hci.2.2 s (by omega)).1.trans (wi.2.2 s hs).1, (hci.2.2 s (by omega)).2.trans (wi.2.2 s hs).2⟩⟩
theorem L_wc0_2 {g : GG} {m : MM} {Q : Out → Prop} (hF : Fx m)  (kx : ∀ (m1 : MM), (Off 5 40 m m1 ∧ ∀ j, j < 6 → HC 5 78 m m1 j) → Wp g mX10_copyFrom 5 0 0 41 [.ref 5, .ref 78, .int (nI 6)] [] (m1) Q) : ∀ (t i : Nat) (m1 : MM), i + t = 6 → (Off 5 40 m m1 ∧ ∀ j, j < i → HC 5 78 m m1 j) → Wp g mX10_copyFrom 5 0 0 2 [.ref 5, .ref 78, .int (nI i)] [] (m1) Q := by
  intro t
  induction t with
  | zero =>
    intro i m1 hi hI
    have hi : i = 6 := by omega
    subst hi
    have hF1 := Fx_of hI.1.1 hF
    refine r_iload_n dX10_copyFrom_2 rfl ?_
    refine r_aload_n dX10_copyFrom_3 rfl ?_
    refine r_getRc dX10_copyFrom_4 fgX10_11 rfl (by exact k_5 hF1) (by exact r_5_0 hF1) ?_
    refine r_alen _ dX10_copyFrom_7 ⟨Nat.le_of_ble_eq_true rfl, Nat.le_of_ble_eq_true rfl⟩ (by exact k_6 hF1) rfl ?_
    refine r_icmp_ge 41 dX10_copyFrom_8 rfl (fun h1 => ?_) (fun h1 => ?_)
    ·
      exact kx _ hI
    ·
      exact absurd (by decide) h1
  | succ t ih =>
    intro i m1 hi hI
    have hin : i < 6 := by omega
    have hF1 := Fx_of hI.1.1 hF
    refine r_iload_n dX10_copyFrom_2 rfl ?_
    refine r_aload_n dX10_copyFrom_3 rfl ?_
    refine r_getRc dX10_copyFrom_4 fgX10_11 rfl (by exact k_5 hF1) (by exact r_5_0 hF1) ?_
    refine r_alen _ dX10_copyFrom_7 ⟨Nat.le_of_ble_eq_true rfl, Nat.le_of_ble_eq_true rfl⟩ (by exact k_6 hF1) rfl ?_
    refine r_icmp_ge 41 dX10_copyFrom_8 rfl (fun h1 => ?_) (fun h1 => ?_)
    ·
      exact absurd h1 (nI_ge (a := i) (b := 6) hin (by omega))
    ·
      refine r_iload_n dX10_copyFrom_11 rfl ?_
      refine r_aload_n dX10_copyFrom_12 rfl ?_
      refine r_getRc dX10_copyFrom_13 fgX10_11 rfl (by exact k_78 hF1) (by exact r_78_0 hF1) ?_
      refine r_alen _ dX10_copyFrom_16 ⟨Nat.le_of_ble_eq_true rfl, Nat.le_of_ble_eq_true rfl⟩ (by exact k_79 hF1) rfl ?_
      refine r_icmp_ge 41 dX10_copyFrom_17 rfl (fun h2 => ?_) (fun h2 => ?_)
      ·
        exact absurd h2 (nI_ge (a := i) (b := 6) hin (by omega))
      ·
        refine r_aload_n dX10_copyFrom_20 rfl ?_
        refine r_getRc dX10_copyFrom_21 fgX10_11 rfl (by exact k_5 hF1) (by exact r_5_0 hF1) ?_
        refine r_iload_n dX10_copyFrom_24 rfl ?_
        refine r_aaloadc (b := 7 + 3 * i) dX10_copyFrom_25 ⟨Nat.le_of_ble_eq_true rfl, Nat.le_of_ble_eq_true rfl⟩ (by exact k_6 hF1) (vin (by omega) (by omega)) (by rw [nI_cl i (by omega)]; exact hu0_r hF1 (by omega)) ?_
        refine r_aload_n dX10_copyFrom_26 rfl ?_
        refine r_getRc dX10_copyFrom_27 fgX10_11 rfl (by exact k_78 hF1) (by exact r_78_0 hF1) ?_
        refine r_iload_n dX10_copyFrom_30 rfl ?_
        refine r_aaloadc (b := 80 + 3 * i) dX10_copyFrom_31 ⟨Nat.le_of_ble_eq_true rfl, Nat.le_of_ble_eq_true rfl⟩ (by exact k_79 hF1) (vin (by omega) (by omega)) (by rw [nI_cl i (by omega)]; exact hu2_r hF1 (by omega)) ?_
        refine r_callV1 (ci := 1) (d1 := 4) (c1 := 0) (n1 := 0) dX10_copyFrom_32 mvX10_60 rfl ⟨(Nat.le_of_ble_eq_true rfl), rfl⟩ (Nat.le_of_ble_eq_true rfl) (by exact Nat.le_of_ble_eq_true rfl) (by exact hu0_k hF1 (by omega)) ?_
        refine S_X1_copyFrom (by exact hu0_k hF1 (by omega)) (by exact hb0_r hF1 (by omega)) (by exact hb0_k hF1 (by omega)) (by exact hd0_r hF1 (by omega)) (by exact hd0_k hF1 (by omega)) (by exact hu2_k hF1 (by omega)) (by exact hb2_r hF1 (by omega)) (by exact hb2_k hF1 (by omega)) (by exact hd2_r hF1 (by omega)) (by exact hd2_k hF1 (by omega)) ⟨eq_false (by omega), eq_false (by omega), eq_false (by omega), eq_false (by omega), eq_false (by omega), eq_false (by omega), eq_false (by omega)⟩ ?_
        show Wp g mX10_copyFrom _ _ _ 35 _ [] _ Q
        refine ic_2 (1) dX10_copyFrom_35 rfl rfl (Nat.le_of_ble_eq_true rfl) ?_
        refine r_goto 2 dX10_copyFrom_38 rfl ?_
        rw [nI_1 i]
        have q9 : Off (7 + 3 * i) (7 + 3 * i + 2) m1 (hcM m1 (7 + 3 * i) (8 + 3 * i) (9 + 3 * i) (80 + 3 * i) (81 + 3 * i) (82 + 3 * i)) := by rw [show 8 + 3 * i = 7 + 3 * i + 1 from by omega, show 9 + 3 * i = 7 + 3 * i + 2 from by omega]; exact hcM_off
        refine ih (i + 1) _ (by omega) ⟨hI.1.tr (q9.wd (by omega) (by omega)), fun j hj => ?_⟩
        by_cases q : j = i
        · subst q; exact hcM_hc (w := 5) (v := 78) (by omega) (by omega) hI.1
        · exact (hI.2 j (by omega)).off q9 (by omega)
theorem S_shc0_2 {g : GG} {m : MM} {Q : Out → Prop} (hF : Fx m) {n : Nat} (hn : ldI m 106 1 = nI n) (h20 : n ≤ 20) (k : ∀ m', Off 33 34 m m' → ldI m' 33 1 = nI n → (∀ j, j < n → ldI m' 34 j = ldI m 107 j) → Q (.inl none, m')) : Cl g 2 0 0 mX8_copyFrom [.ref 32, .ref 105] m Q := by
  refine Cl.of rfl (by decide) (Nat.le_of_ble_eq_true rfl) ?_
  show Wp g mX8_copyFrom 2 0 0 0 [.ref 32, .ref 105] [] m Q
  refine r_aload_n dX8_copyFrom_0 rfl ?_
  refine r_getRc dX8_copyFrom_1 fgX8_14 rfl (by exact k_32 hF) (by exact r_32_0 hF) ?_
  refine r_aload_n dX8_copyFrom_4 rfl ?_
  refine r_getRc dX8_copyFrom_5 fgX8_14 rfl (by exact k_105 hF) (by exact r_105_0 hF) ?_
  refine r_callV1 (ci := 5) (d1 := 1) (c1 := 0) (n1 := 0) dX8_copyFrom_8 mvX8_64 rfl ⟨(Nat.le_of_ble_eq_true rfl), rfl⟩ (Nat.le_of_ble_eq_true rfl) (by exact Nat.le_of_ble_eq_true rfl) (by exact k_33 hF) ?_
  refine S_cpRow (a := 33) (b := 106) (z := 20) (z2 := 20) (n := n) (by exact k_33 hF) (by exact r_33_0 hF) (by exact k_34 hF) (by omega) (by exact k_106 hF) (by exact r_106_0 hF) (by exact k_107 hF) (by omega) hn (by omega) (by omega) (by omega) (fun m1 q1 hn1 hr1 => ?_)
  show Wp g mX8_copyFrom _ _ _ 11 _ [] _ Q
  refine r_return dX8_copyFrom_11 rfl ?_
  exact k m1 q1 hn1 hr1
theorem S_wcopy0_2 {g : GG} {m : MM} {Q : Out → Prop} (hF : Fx m) {f : Nat → Int32} (hC : VC f) (hW : Wd f 78 m) (hw4 : ldI m 102 4 = 0 ∨ ldI m 102 4 = 1) (hS12 : ∀ i, i < nH f → nS f i ≤ 12) (k : ∀ m', Off 5 40 m m' → Wd f 5 m' → Q (.inl none, m')) : Cl g 5 0 0 mX10_copyFrom [.ref 5, .ref 78] m Q := by
  refine Cl.of rfl (by decide) (Nat.le_of_ble_eq_true rfl) ?_
  show Wp g mX10_copyFrom 5 0 0 0 [.ref 5, .ref 78, .retAddr 0] [] m Q
  have b0 := hC.1.2
  have b1 := hC.2.1.2
  have b2 := hC.2.2.1.2
  have b3 := hC.2.2.2.1.2
  have b4 := hC.2.2.2.2.1.2
  have b5 := hC.2.2.2.2.2.2
  refine r_iconst (0) dX10_copyFrom_0 rfl ?_
  refine si_2 dX10_copyFrom_1 rfl (Nat.le_of_ble_eq_true rfl) ?_
  refine L_wc0_2 hF (fun m1 hI => ?_) 6 0 m (by omega) ⟨Off.rf, fun j hj => absurd hj (by omega)⟩
  have o1 := hI.1
  have hc1 := hI.2
  have hF1 := Fx_of o1.1 hF
  refine r_aload_n dX10_copyFrom_41 rfl ?_
  refine r_aload_n dX10_copyFrom_42 rfl ?_
  refine r_getI dX10_copyFrom_43 fgX10_64 rfl (by exact k_78 hF1) ?_
  refine r_putI dX10_copyFrom_46 (fpX10_64 _ rfl) rfl (by exact k_5 hF1) ⟨rfl, rfl⟩ ?_
  generalize hm2 : stI m1 5 1 (ldI m1 78 1) = m2
  have q2 : Off 5 5 m1 m2 := hm2 ▸ Off.rf.stI (by omega) (by omega)
  have o2 := (o1).tr ((q2).wd (by omega) (by omega))
  have hF2 := Fx_of o2.1 hF
  have hc2 := fun j hj => (hc1 j hj).off q2 (by omega)
  have e0_2 : ∀ j, j = 1 → ldI m2 5 j = ldI m 78 j := fun j hj => by rw [hj, ← hm2]; exact ld_s.trans ((o1.2 78 (by omega)).1 1)
  refine r_aload_n dX10_copyFrom_49 rfl ?_
  refine r_getRc dX10_copyFrom_50 fgX10_23 rfl (by exact k_5 hF2) (by exact r_5_2 hF2) ?_
  refine r_aload_n dX10_copyFrom_53 rfl ?_
  refine r_getRc dX10_copyFrom_54 fgX10_23 rfl (by exact k_78 hF2) (by exact r_78_2 hF2) ?_
  refine r_callV1 (ci := 5) (d1 := 1) (c1 := 0) (n1 := 0) dX10_copyFrom_57 mvX10_67 rfl ⟨(Nat.le_of_ble_eq_true rfl), rfl⟩ (Nat.le_of_ble_eq_true rfl) (by exact Nat.le_of_ble_eq_true rfl) (by exact k_25 hF2) ?_
  refine S_cpRow (a := 25) (b := 98) (z := 4) (z2 := 4) (n := nT f) (by exact k_25 hF2) (by exact r_25_0 hF2) (by exact k_26 hF2) (by omega) (by exact k_98 hF2) (by exact r_98_0 hF2) (by exact k_99 hF2) (by omega) (((o2.2 98 (by omega)).1 1).trans (hW.2.2.1.1.trans hC.2.1.1)) (by omega) (by omega) (by omega) (fun m3 q3 hn3 hr3 => ?_)
  have o3 := (o2).tr ((q3).wd (by omega) (by omega))
  have hF3 := Fx_of o3.1 hF
  have e0_3 := fun j hj => (((q3).2 5 (by omega)).1 j).trans (e0_2 j hj)
  have hc3 := fun j hj => (hc2 j hj).off q3 (by omega)
  have e20_3 : ∀ j, j = 1 → ldI m3 25 j = ldI m 98 j := fun j hj => by rw [hj]; exact hn3.trans (hW.2.2.1.1.trans hC.2.1.1).symm
  have e21_3 : ∀ j, j < nT f → ldI m3 26 j = ldI m 99 j := fun j hj => (hr3 j hj).trans ((o2.2 99 (by omega)).1 j)
  show Wp g mX10_copyFrom _ _ _ 60 _ [] _ Q
  refine r_aload_n dX10_copyFrom_60 rfl ?_
  refine r_getRc dX10_copyFrom_61 fgX10_27 rfl (by exact k_5 hF3) (by exact r_5_3 hF3) ?_
  refine r_aload_n dX10_copyFrom_64 rfl ?_
  refine r_getRc dX10_copyFrom_65 fgX10_27 rfl (by exact k_78 hF3) (by exact r_78_3 hF3) ?_
  refine r_callV1 (ci := 5) (d1 := 1) (c1 := 0) (n1 := 0) dX10_copyFrom_68 mvX10_67 rfl ⟨(Nat.le_of_ble_eq_true rfl), rfl⟩ (Nat.le_of_ble_eq_true rfl) (by exact Nat.le_of_ble_eq_true rfl) (by exact k_27 hF3) ?_
  refine S_cpRow (a := 27) (b := 100) (z := 4) (z2 := 4) (n := nT f) (by exact k_27 hF3) (by exact r_27_0 hF3) (by exact k_28 hF3) (by omega) (by exact k_100 hF3) (by exact r_100_0 hF3) (by exact k_101 hF3) (by omega) (((o3.2 100 (by omega)).1 1).trans (hW.2.2.1.2.1.trans hC.2.1.1)) (by omega) (by omega) (by omega) (fun m4 q4 hn4 hr4 => ?_)
  have o4 := (o3).tr ((q4).wd (by omega) (by omega))
  have hF4 := Fx_of o4.1 hF
  have e0_4 := fun j hj => (((q4).2 5 (by omega)).1 j).trans (e0_3 j hj)
  have e20_4 := fun j hj => (((q4).2 25 (by omega)).1 j).trans (e20_3 j hj)
  have e21_4 := fun j hj => (((q4).2 26 (by omega)).1 j).trans (e21_3 j hj)
  have hc4 := fun j hj => (hc3 j hj).off q4 (by omega)
  have e22_4 : ∀ j, j = 1 → ldI m4 27 j = ldI m 100 j := fun j hj => by rw [hj]; exact hn4.trans (hW.2.2.1.2.1.trans hC.2.1.1).symm
  have e23_4 : ∀ j, j < nT f → ldI m4 28 j = ldI m 101 j := fun j hj => (hr4 j hj).trans ((o3.2 101 (by omega)).1 j)
  show Wp g mX10_copyFrom _ _ _ 71 _ [] _ Q
  refine r_aload_n dX10_copyFrom_71 rfl ?_
  refine r_getRc dX10_copyFrom_72 fgX10_33 rfl (by exact k_5 hF4) (by exact r_5_4 hF4) ?_
  refine r_aload_n dX10_copyFrom_75 rfl ?_
  refine r_getRc dX10_copyFrom_76 fgX10_33 rfl (by exact k_78 hF4) (by exact r_78_4 hF4) ?_
  refine r_callV1 (ci := 6) (d1 := 1) (c1 := 0) (n1 := 0) dX10_copyFrom_79 mvX10_70 rfl ⟨(Nat.le_of_ble_eq_true rfl), rfl⟩ (Nat.le_of_ble_eq_true rfl) (by exact Nat.le_of_ble_eq_true rfl) (by exact k_29 hF4) ?_
  refine S_cpRun (a := 29) (b := 102) (by exact k_29 hF4) (by exact k_102 hF4) (by decide) (by rw [(o4.2 102 (by omega)).1 4]; exact hw4) (fun m5 q5 hr5 => ?_)
  have o5 := (o4).tr ((q5).wd (by omega) (by omega))
  have hF5 := Fx_of o5.1 hF
  have e0_5 := fun j hj => (((q5).2 5 (by omega)).1 j).trans (e0_4 j hj)
  have e20_5 := fun j hj => (((q5).2 25 (by omega)).1 j).trans (e20_4 j hj)
  have e21_5 := fun j hj => (((q5).2 26 (by omega)).1 j).trans (e21_4 j hj)
  have e22_5 := fun j hj => (((q5).2 27 (by omega)).1 j).trans (e22_4 j hj)
  have e23_5 := fun j hj => (((q5).2 28 (by omega)).1 j).trans (e23_4 j hj)
  have hc5 := fun j hj => (hc4 j hj).off q5 (by omega)
  have e24_5 : ∀ j, j < 6 → ldI m5 29 j = ldI m 102 j := fun j hj => (hr5 j hj).trans ((o4.2 102 (by omega)).1 j)
  show Wp g mX10_copyFrom _ _ _ 82 _ [] _ Q
  refine r_aload_n dX10_copyFrom_82 rfl ?_
  refine r_getRc dX10_copyFrom_83 fgX10_37 rfl (by exact k_5 hF5) (by exact r_5_5 hF5) ?_
  refine r_aload_n dX10_copyFrom_86 rfl ?_
  refine r_getRc dX10_copyFrom_87 fgX10_37 rfl (by exact k_78 hF5) (by exact r_78_5 hF5) ?_
  refine r_callV1 (ci := 5) (d1 := 1) (c1 := 0) (n1 := 0) dX10_copyFrom_90 mvX10_67 rfl ⟨(Nat.le_of_ble_eq_true rfl), rfl⟩ (Nat.le_of_ble_eq_true rfl) (by exact Nat.le_of_ble_eq_true rfl) (by exact k_30 hF5) ?_
  refine S_cpRow (a := 30) (b := 103) (z := 420) (z2 := 420) (n := 7 * nR f) (by exact k_30 hF5) (by exact r_30_0 hF5) (by exact k_31 hF5) (by omega) (by exact k_103 hF5) (by exact r_103_0 hF5) (by exact k_104 hF5) (by omega) (((o5.2 103 (by omega)).1 1).trans (hW.2.2.2.2.1.1)) (by omega) (by omega) (by omega) (fun m6 q6 hn6 hr6 => ?_)
  have o6 := (o5).tr ((q6).wd (by omega) (by omega))
  have hF6 := Fx_of o6.1 hF
  have e0_6 := fun j hj => (((q6).2 5 (by omega)).1 j).trans (e0_5 j hj)
  have e20_6 := fun j hj => (((q6).2 25 (by omega)).1 j).trans (e20_5 j hj)
  have e21_6 := fun j hj => (((q6).2 26 (by omega)).1 j).trans (e21_5 j hj)
  have e22_6 := fun j hj => (((q6).2 27 (by omega)).1 j).trans (e22_5 j hj)
  have e23_6 := fun j hj => (((q6).2 28 (by omega)).1 j).trans (e23_5 j hj)
  have e24_6 := fun j hj => (((q6).2 29 (by omega)).1 j).trans (e24_5 j hj)
  have hc6 := fun j hj => (hc5 j hj).off q6 (by omega)
  have e25_6 : ∀ j, j = 1 → ldI m6 30 j = ldI m 103 j := fun j hj => by rw [hj]; exact hn6.trans (hW.2.2.2.2.1.1).symm
  have e26_6 : ∀ j, j < 7 * nR f → ldI m6 31 j = ldI m 104 j := fun j hj => (hr6 j hj).trans ((o5.2 104 (by omega)).1 j)
  show Wp g mX10_copyFrom _ _ _ 93 _ [] _ Q
  refine r_aload_n dX10_copyFrom_93 rfl ?_
  refine r_getRc dX10_copyFrom_94 fgX10_43 rfl (by exact k_5 hF6) (by exact r_5_6 hF6) ?_
  refine r_aload_n dX10_copyFrom_97 rfl ?_
  refine r_getRc dX10_copyFrom_98 fgX10_43 rfl (by exact k_78 hF6) (by exact r_78_6 hF6) ?_
  refine r_callV1 (ci := 8) (d1 := 2) (c1 := 0) (n1 := 0) dX10_copyFrom_101 mvX10_73 rfl ⟨(Nat.le_of_ble_eq_true rfl), rfl⟩ (Nat.le_of_ble_eq_true rfl) (by exact Nat.le_of_ble_eq_true rfl) (by exact k_32 hF6) ?_
  refine S_shc0_2 hF6 (n := nE f) (((o6.2 106 (by omega)).1 1).trans (hW.2.2.2.2.2.1.1.trans hC.2.2.2.1.1)) (by omega) (fun m7 q7 hn7 hr7 => ?_)
  have o7 := (o6).tr ((q7).wd (by omega) (by omega))
  have hF7 := Fx_of o7.1 hF
  have e0_7 := fun j hj => (((q7).2 5 (by omega)).1 j).trans (e0_6 j hj)
  have e20_7 := fun j hj => (((q7).2 25 (by omega)).1 j).trans (e20_6 j hj)
  have e21_7 := fun j hj => (((q7).2 26 (by omega)).1 j).trans (e21_6 j hj)
  have e22_7 := fun j hj => (((q7).2 27 (by omega)).1 j).trans (e22_6 j hj)
  have e23_7 := fun j hj => (((q7).2 28 (by omega)).1 j).trans (e23_6 j hj)
  have e24_7 := fun j hj => (((q7).2 29 (by omega)).1 j).trans (e24_6 j hj)
  have e25_7 := fun j hj => (((q7).2 30 (by omega)).1 j).trans (e25_6 j hj)
  have e26_7 := fun j hj => (((q7).2 31 (by omega)).1 j).trans (e26_6 j hj)
  have hc7 := fun j hj => (hc6 j hj).off q7 (by omega)
  have e28_7 : ∀ j, j = 1 → ldI m7 33 j = ldI m 106 j := fun j hj => by rw [hj]; exact hn7.trans (hW.2.2.2.2.2.1.1.trans hC.2.2.2.1.1).symm
  have e29_7 : ∀ j, j < nE f → ldI m7 34 j = ldI m 107 j := fun j hj => (hr7 j hj).trans ((o6.2 107 (by omega)).1 j)
  show Wp g mX10_copyFrom _ _ _ 104 _ [] _ Q
  refine r_aload_n dX10_copyFrom_104 rfl ?_
  refine r_getRc dX10_copyFrom_105 fgX10_47 rfl (by exact k_5 hF7) (by exact r_5_7 hF7) ?_
  refine r_aload_n dX10_copyFrom_108 rfl ?_
  refine r_getRc dX10_copyFrom_109 fgX10_47 rfl (by exact k_78 hF7) (by exact r_78_7 hF7) ?_
  refine r_callV1 (ci := 5) (d1 := 1) (c1 := 0) (n1 := 0) dX10_copyFrom_112 mvX10_67 rfl ⟨(Nat.le_of_ble_eq_true rfl), rfl⟩ (Nat.le_of_ble_eq_true rfl) (by exact Nat.le_of_ble_eq_true rfl) (by exact k_35 hF7) ?_
  refine S_cpRow (a := 35) (b := 108) (z := 6) (z2 := 6) (n := nM f) (by exact k_35 hF7) (by exact r_35_0 hF7) (by exact k_36 hF7) (by omega) (by exact k_108 hF7) (by exact r_108_0 hF7) (by exact k_109 hF7) (by omega) (((o7.2 108 (by omega)).1 1).trans (hW.2.2.2.2.2.2.1.1.trans hC.2.2.2.2.1.1)) (by omega) (by omega) (by omega) (fun m8 q8 hn8 hr8 => ?_)
  have o8 := (o7).tr ((q8).wd (by omega) (by omega))
  have hF8 := Fx_of o8.1 hF
  have e0_8 := fun j hj => (((q8).2 5 (by omega)).1 j).trans (e0_7 j hj)
  have e20_8 := fun j hj => (((q8).2 25 (by omega)).1 j).trans (e20_7 j hj)
  have e21_8 := fun j hj => (((q8).2 26 (by omega)).1 j).trans (e21_7 j hj)
  have e22_8 := fun j hj => (((q8).2 27 (by omega)).1 j).trans (e22_7 j hj)
  have e23_8 := fun j hj => (((q8).2 28 (by omega)).1 j).trans (e23_7 j hj)
  have e24_8 := fun j hj => (((q8).2 29 (by omega)).1 j).trans (e24_7 j hj)
  have e25_8 := fun j hj => (((q8).2 30 (by omega)).1 j).trans (e25_7 j hj)
  have e26_8 := fun j hj => (((q8).2 31 (by omega)).1 j).trans (e26_7 j hj)
  have e28_8 := fun j hj => (((q8).2 33 (by omega)).1 j).trans (e28_7 j hj)
  have e29_8 := fun j hj => (((q8).2 34 (by omega)).1 j).trans (e29_7 j hj)
  have hc8 := fun j hj => (hc7 j hj).off q8 (by omega)
  have e30_8 : ∀ j, j = 1 → ldI m8 35 j = ldI m 108 j := fun j hj => by rw [hj]; exact hn8.trans (hW.2.2.2.2.2.2.1.1.trans hC.2.2.2.2.1.1).symm
  have e31_8 : ∀ j, j < nM f → ldI m8 36 j = ldI m 109 j := fun j hj => (hr8 j hj).trans ((o7.2 109 (by omega)).1 j)
  show Wp g mX10_copyFrom _ _ _ 115 _ [] _ Q
  refine r_aload_n dX10_copyFrom_115 rfl ?_
  refine r_getRc dX10_copyFrom_116 fgX10_50 rfl (by exact k_5 hF8) (by exact r_5_8 hF8) ?_
  refine r_aload_n dX10_copyFrom_119 rfl ?_
  refine r_getRc dX10_copyFrom_120 fgX10_50 rfl (by exact k_78 hF8) (by exact r_78_8 hF8) ?_
  refine r_callV1 (ci := 5) (d1 := 1) (c1 := 0) (n1 := 0) dX10_copyFrom_123 mvX10_67 rfl ⟨(Nat.le_of_ble_eq_true rfl), rfl⟩ (Nat.le_of_ble_eq_true rfl) (by exact Nat.le_of_ble_eq_true rfl) (by exact k_37 hF8) ?_
  refine S_cpRow (a := 37) (b := 110) (z := 8) (z2 := 8) (n := nFo f) (by exact k_37 hF8) (by exact r_37_0 hF8) (by exact k_38 hF8) (by omega) (by exact k_110 hF8) (by exact r_110_0 hF8) (by exact k_111 hF8) (by omega) (((o8.2 110 (by omega)).1 1).trans (hW.2.2.2.2.2.2.2.1.trans hC.2.2.2.2.2.1)) (by omega) (by omega) (by omega) (fun m9 q9 hn9 hr9 => ?_)
  have o9 := (o8).tr ((q9).wd (by omega) (by omega))
  have hF9 := Fx_of o9.1 hF
  have e0_9 := fun j hj => (((q9).2 5 (by omega)).1 j).trans (e0_8 j hj)
  have e20_9 := fun j hj => (((q9).2 25 (by omega)).1 j).trans (e20_8 j hj)
  have e21_9 := fun j hj => (((q9).2 26 (by omega)).1 j).trans (e21_8 j hj)
  have e22_9 := fun j hj => (((q9).2 27 (by omega)).1 j).trans (e22_8 j hj)
  have e23_9 := fun j hj => (((q9).2 28 (by omega)).1 j).trans (e23_8 j hj)
  have e24_9 := fun j hj => (((q9).2 29 (by omega)).1 j).trans (e24_8 j hj)
  have e25_9 := fun j hj => (((q9).2 30 (by omega)).1 j).trans (e25_8 j hj)
  have e26_9 := fun j hj => (((q9).2 31 (by omega)).1 j).trans (e26_8 j hj)
  have e28_9 := fun j hj => (((q9).2 33 (by omega)).1 j).trans (e28_8 j hj)
  have e29_9 := fun j hj => (((q9).2 34 (by omega)).1 j).trans (e29_8 j hj)
  have e30_9 := fun j hj => (((q9).2 35 (by omega)).1 j).trans (e30_8 j hj)
  have e31_9 := fun j hj => (((q9).2 36 (by omega)).1 j).trans (e31_8 j hj)
  have hc9 := fun j hj => (hc8 j hj).off q9 (by omega)
  have e32_9 : ∀ j, j = 1 → ldI m9 37 j = ldI m 110 j := fun j hj => by rw [hj]; exact hn9.trans (hW.2.2.2.2.2.2.2.1.trans hC.2.2.2.2.2.1).symm
  have e33_9 : ∀ j, j < nFo f → ldI m9 38 j = ldI m 111 j := fun j hj => (hr9 j hj).trans ((o8.2 111 (by omega)).1 j)
  show Wp g mX10_copyFrom _ _ _ 126 _ [] _ Q
  refine r_aload_n dX10_copyFrom_126 rfl ?_
  refine r_getRc dX10_copyFrom_127 fgX10_53 rfl (by exact k_5 hF9) (by exact r_5_9 hF9) ?_
  refine r_aload_n dX10_copyFrom_130 rfl ?_
  refine r_getRc dX10_copyFrom_131 fgX10_53 rfl (by exact k_78 hF9) (by exact r_78_9 hF9) ?_
  refine r_callV1 (ci := 5) (d1 := 1) (c1 := 0) (n1 := 0) dX10_copyFrom_134 mvX10_67 rfl ⟨(Nat.le_of_ble_eq_true rfl), rfl⟩ (Nat.le_of_ble_eq_true rfl) (by exact Nat.le_of_ble_eq_true rfl) (by exact k_39 hF9) ?_
  refine S_cpRow (a := 39) (b := 112) (z := 8) (z2 := 8) (n := nFo f) (by exact k_39 hF9) (by exact r_39_0 hF9) (by exact k_40 hF9) (by omega) (by exact k_112 hF9) (by exact r_112_0 hF9) (by exact k_113 hF9) (by omega) (((o9.2 112 (by omega)).1 1).trans (hW.2.2.2.2.2.2.2.2.1.trans hC.2.2.2.2.2.1)) (by omega) (by omega) (by omega) (fun m10 q10 hn10 hr10 => ?_)
  have o10 := (o9).tr ((q10).wd (by omega) (by omega))
  have hF10 := Fx_of o10.1 hF
  have e0_10 := fun j hj => (((q10).2 5 (by omega)).1 j).trans (e0_9 j hj)
  have e20_10 := fun j hj => (((q10).2 25 (by omega)).1 j).trans (e20_9 j hj)
  have e21_10 := fun j hj => (((q10).2 26 (by omega)).1 j).trans (e21_9 j hj)
  have e22_10 := fun j hj => (((q10).2 27 (by omega)).1 j).trans (e22_9 j hj)
  have e23_10 := fun j hj => (((q10).2 28 (by omega)).1 j).trans (e23_9 j hj)
  have e24_10 := fun j hj => (((q10).2 29 (by omega)).1 j).trans (e24_9 j hj)
  have e25_10 := fun j hj => (((q10).2 30 (by omega)).1 j).trans (e25_9 j hj)
  have e26_10 := fun j hj => (((q10).2 31 (by omega)).1 j).trans (e26_9 j hj)
  have e28_10 := fun j hj => (((q10).2 33 (by omega)).1 j).trans (e28_9 j hj)
  have e29_10 := fun j hj => (((q10).2 34 (by omega)).1 j).trans (e29_9 j hj)
  have e30_10 := fun j hj => (((q10).2 35 (by omega)).1 j).trans (e30_9 j hj)
  have e31_10 := fun j hj => (((q10).2 36 (by omega)).1 j).trans (e31_9 j hj)
  have e32_10 := fun j hj => (((q10).2 37 (by omega)).1 j).trans (e32_9 j hj)
  have e33_10 := fun j hj => (((q10).2 38 (by omega)).1 j).trans (e33_9 j hj)
  have hc10 := fun j hj => (hc9 j hj).off q10 (by omega)
  have e34_10 : ∀ j, j = 1 → ldI m10 39 j = ldI m 112 j := fun j hj => by rw [hj]; exact hn10.trans (hW.2.2.2.2.2.2.2.2.1.trans hC.2.2.2.2.2.1).symm
  have e35_10 : ∀ j, j < nFo f → ldI m10 40 j = ldI m 113 j := fun j hj => (hr10 j hj).trans ((o9.2 113 (by omega)).1 j)
  show Wp g mX10_copyFrom _ _ _ 137 _ [] _ Q
  refine r_aload_n dX10_copyFrom_137 rfl ?_
  refine r_aload_n dX10_copyFrom_138 rfl ?_
  refine r_getI dX10_copyFrom_139 fgX10_56 rfl (by exact k_78 hF10) ?_
  refine r_putI dX10_copyFrom_142 (fpX10_56 _ rfl) rfl (by exact k_5 hF10) ⟨rfl, rfl⟩ ?_
  refine r_return dX10_copyFrom_145 rfl ?_
  have qz : Off 5 5 m10 (stI m10 5 10 (ldI m10 78 10)) := Off.rf.stI (by omega) (by omega)
  have tz : ∀ a, 5 < a → ∀ k, ldI (stI m10 5 10 (ldI m10 78 10)) a k = ldI m10 a k := fun a ha k => (qz.2 a (by omega)).1 k
  have oz : Off 5 40 m (stI m10 5 10 (ldI m10 78 10)) := o10.tr (qz.wd (by omega) (by omega))
  refine k (stI m10 5 10 (ldI m10 78 10)) oz ⟨⟨(ld_n (by omega) (e0_10 1 rfl)).trans hW.1.1, ld_s.trans (((o10.2 78 (by omega)).1 10).trans hW.1.2)⟩, fun i hi => ?_, ⟨(tz _ (by omega) 1).trans ((e20_10 1 rfl).trans hW.2.2.1.1), (tz _ (by omega) 1).trans ((e22_10 1 rfl).trans hW.2.2.1.2.1), fun j hj => ⟨(tz _ (by omega) j).trans ((e21_10 j hj).trans (hW.2.2.1.2.2 j hj).1), (tz _ (by omega) j).trans ((e23_10 j hj).trans (hW.2.2.1.2.2 j hj).2)⟩⟩, fun j hj => (tz _ (by omega) j).trans ((e24_10 j hj).trans (hW.2.2.2.1 j hj)), ⟨(tz _ (by omega) 1).trans ((e25_10 1 rfl).trans hW.2.2.2.2.1.1), fun j hj => (tz _ (by omega) j).trans ((e26_10 j hj).trans (hW.2.2.2.2.1.2 j hj))⟩, ⟨(tz _ (by omega) 1).trans ((e28_10 1 rfl).trans hW.2.2.2.2.2.1.1), fun j hj => (tz _ (by omega) j).trans ((e29_10 j hj).trans (hW.2.2.2.2.2.1.2 j hj))⟩, ⟨(tz _ (by omega) 1).trans ((e30_10 1 rfl).trans hW.2.2.2.2.2.2.1.1), fun j hj => (tz _ (by omega) j).trans ((e31_10 j hj).trans (hW.2.2.2.2.2.2.1.2 j hj))⟩, (tz _ (by omega) 1).trans ((e32_10 1 rfl).trans hW.2.2.2.2.2.2.2.1), (tz _ (by omega) 1).trans ((e34_10 1 rfl).trans hW.2.2.2.2.2.2.2.2.1), fun j hj => ⟨(tz _ (by omega) j).trans ((e33_10 j hj).trans (hW.2.2.2.2.2.2.2.2.2 j hj).1), (tz _ (by omega) j).trans ((e35_10 j hj).trans (hW.2.2.2.2.2.2.2.2.2 j hj).2)⟩⟩
  have hci := (hc10 i (by omega)).off qz (by omega)
  have wi := hW.2.1 i hi
  have s12 := hS12 i hi
  exact ⟨hci.1.trans wi.1, hci.2.1.trans wi.2.1, fun s hs => ⟨(hci.2.2 s (by omega)).1.trans (wi.2.2 s hs).1, (hci.2.2 s (by omega)).2.trans (wi.2.2 s hs).2⟩⟩
theorem L_wc2_0 {g : GG} {m : MM} {Q : Out → Prop} (hF : Fx m)  (kx : ∀ (m1 : MM), (Off 78 113 m m1 ∧ ∀ j, j < 6 → HC 78 5 m m1 j) → Wp g mX10_copyFrom 5 0 0 41 [.ref 78, .ref 5, .int (nI 6)] [] (m1) Q) : ∀ (t i : Nat) (m1 : MM), i + t = 6 → (Off 78 113 m m1 ∧ ∀ j, j < i → HC 78 5 m m1 j) → Wp g mX10_copyFrom 5 0 0 2 [.ref 78, .ref 5, .int (nI i)] [] (m1) Q := by
  intro t
  induction t with
  | zero =>
    intro i m1 hi hI
    have hi : i = 6 := by omega
    subst hi
    have hF1 := Fx_of hI.1.1 hF
    refine r_iload_n dX10_copyFrom_2 rfl ?_
    refine r_aload_n dX10_copyFrom_3 rfl ?_
    refine r_getRc dX10_copyFrom_4 fgX10_11 rfl (by exact k_78 hF1) (by exact r_78_0 hF1) ?_
    refine r_alen _ dX10_copyFrom_7 ⟨Nat.le_of_ble_eq_true rfl, Nat.le_of_ble_eq_true rfl⟩ (by exact k_79 hF1) rfl ?_
    refine r_icmp_ge 41 dX10_copyFrom_8 rfl (fun h1 => ?_) (fun h1 => ?_)
    ·
      exact kx _ hI
    ·
      exact absurd (by decide) h1
  | succ t ih =>
    intro i m1 hi hI
    have hin : i < 6 := by omega
    have hF1 := Fx_of hI.1.1 hF
    refine r_iload_n dX10_copyFrom_2 rfl ?_
    refine r_aload_n dX10_copyFrom_3 rfl ?_
    refine r_getRc dX10_copyFrom_4 fgX10_11 rfl (by exact k_78 hF1) (by exact r_78_0 hF1) ?_
    refine r_alen _ dX10_copyFrom_7 ⟨Nat.le_of_ble_eq_true rfl, Nat.le_of_ble_eq_true rfl⟩ (by exact k_79 hF1) rfl ?_
    refine r_icmp_ge 41 dX10_copyFrom_8 rfl (fun h1 => ?_) (fun h1 => ?_)
    ·
      exact absurd h1 (nI_ge (a := i) (b := 6) hin (by omega))
    ·
      refine r_iload_n dX10_copyFrom_11 rfl ?_
      refine r_aload_n dX10_copyFrom_12 rfl ?_
      refine r_getRc dX10_copyFrom_13 fgX10_11 rfl (by exact k_5 hF1) (by exact r_5_0 hF1) ?_
      refine r_alen _ dX10_copyFrom_16 ⟨Nat.le_of_ble_eq_true rfl, Nat.le_of_ble_eq_true rfl⟩ (by exact k_6 hF1) rfl ?_
      refine r_icmp_ge 41 dX10_copyFrom_17 rfl (fun h2 => ?_) (fun h2 => ?_)
      ·
        exact absurd h2 (nI_ge (a := i) (b := 6) hin (by omega))
      ·
        refine r_aload_n dX10_copyFrom_20 rfl ?_
        refine r_getRc dX10_copyFrom_21 fgX10_11 rfl (by exact k_78 hF1) (by exact r_78_0 hF1) ?_
        refine r_iload_n dX10_copyFrom_24 rfl ?_
        refine r_aaloadc (b := 80 + 3 * i) dX10_copyFrom_25 ⟨Nat.le_of_ble_eq_true rfl, Nat.le_of_ble_eq_true rfl⟩ (by exact k_79 hF1) (vin (by omega) (by omega)) (by rw [nI_cl i (by omega)]; exact hu2_r hF1 (by omega)) ?_
        refine r_aload_n dX10_copyFrom_26 rfl ?_
        refine r_getRc dX10_copyFrom_27 fgX10_11 rfl (by exact k_5 hF1) (by exact r_5_0 hF1) ?_
        refine r_iload_n dX10_copyFrom_30 rfl ?_
        refine r_aaloadc (b := 7 + 3 * i) dX10_copyFrom_31 ⟨Nat.le_of_ble_eq_true rfl, Nat.le_of_ble_eq_true rfl⟩ (by exact k_6 hF1) (vin (by omega) (by omega)) (by rw [nI_cl i (by omega)]; exact hu0_r hF1 (by omega)) ?_
        refine r_callV1 (ci := 1) (d1 := 4) (c1 := 0) (n1 := 0) dX10_copyFrom_32 mvX10_60 rfl ⟨(Nat.le_of_ble_eq_true rfl), rfl⟩ (Nat.le_of_ble_eq_true rfl) (by exact Nat.le_of_ble_eq_true rfl) (by exact hu2_k hF1 (by omega)) ?_
        refine S_X1_copyFrom (by exact hu2_k hF1 (by omega)) (by exact hb2_r hF1 (by omega)) (by exact hb2_k hF1 (by omega)) (by exact hd2_r hF1 (by omega)) (by exact hd2_k hF1 (by omega)) (by exact hu0_k hF1 (by omega)) (by exact hb0_r hF1 (by omega)) (by exact hb0_k hF1 (by omega)) (by exact hd0_r hF1 (by omega)) (by exact hd0_k hF1 (by omega)) ⟨eq_false (by omega), eq_false (by omega), eq_false (by omega), eq_false (by omega), eq_false (by omega), eq_false (by omega), eq_false (by omega)⟩ ?_
        show Wp g mX10_copyFrom _ _ _ 35 _ [] _ Q
        refine ic_2 (1) dX10_copyFrom_35 rfl rfl (Nat.le_of_ble_eq_true rfl) ?_
        refine r_goto 2 dX10_copyFrom_38 rfl ?_
        rw [nI_1 i]
        have q9 : Off (80 + 3 * i) (80 + 3 * i + 2) m1 (hcM m1 (80 + 3 * i) (81 + 3 * i) (82 + 3 * i) (7 + 3 * i) (8 + 3 * i) (9 + 3 * i)) := by rw [show 81 + 3 * i = 80 + 3 * i + 1 from by omega, show 82 + 3 * i = 80 + 3 * i + 2 from by omega]; exact hcM_off
        refine ih (i + 1) _ (by omega) ⟨hI.1.tr (q9.wd (by omega) (by omega)), fun j hj => ?_⟩
        by_cases q : j = i
        · subst q; exact hcM_hc (w := 78) (v := 5) (by omega) (by omega) hI.1
        · exact (hI.2 j (by omega)).off q9 (by omega)
theorem S_shc2_0 {g : GG} {m : MM} {Q : Out → Prop} (hF : Fx m) {n : Nat} (hn : ldI m 33 1 = nI n) (h20 : n ≤ 20) (k : ∀ m', Off 106 107 m m' → ldI m' 106 1 = nI n → (∀ j, j < n → ldI m' 107 j = ldI m 34 j) → Q (.inl none, m')) : Cl g 2 0 0 mX8_copyFrom [.ref 105, .ref 32] m Q := by
  refine Cl.of rfl (by decide) (Nat.le_of_ble_eq_true rfl) ?_
  show Wp g mX8_copyFrom 2 0 0 0 [.ref 105, .ref 32] [] m Q
  refine r_aload_n dX8_copyFrom_0 rfl ?_
  refine r_getRc dX8_copyFrom_1 fgX8_14 rfl (by exact k_105 hF) (by exact r_105_0 hF) ?_
  refine r_aload_n dX8_copyFrom_4 rfl ?_
  refine r_getRc dX8_copyFrom_5 fgX8_14 rfl (by exact k_32 hF) (by exact r_32_0 hF) ?_
  refine r_callV1 (ci := 5) (d1 := 1) (c1 := 0) (n1 := 0) dX8_copyFrom_8 mvX8_64 rfl ⟨(Nat.le_of_ble_eq_true rfl), rfl⟩ (Nat.le_of_ble_eq_true rfl) (by exact Nat.le_of_ble_eq_true rfl) (by exact k_106 hF) ?_
  refine S_cpRow (a := 106) (b := 33) (z := 20) (z2 := 20) (n := n) (by exact k_106 hF) (by exact r_106_0 hF) (by exact k_107 hF) (by omega) (by exact k_33 hF) (by exact r_33_0 hF) (by exact k_34 hF) (by omega) hn (by omega) (by omega) (by omega) (fun m1 q1 hn1 hr1 => ?_)
  show Wp g mX8_copyFrom _ _ _ 11 _ [] _ Q
  refine r_return dX8_copyFrom_11 rfl ?_
  exact k m1 q1 hn1 hr1
theorem S_wcopy2_0 {g : GG} {m : MM} {Q : Out → Prop} (hF : Fx m) {f : Nat → Int32} (hC : VC f) (hW : Wd f 5 m) (hw4 : ldI m 29 4 = 0 ∨ ldI m 29 4 = 1) (hS12 : ∀ i, i < nH f → nS f i ≤ 12) (k : ∀ m', Off 78 113 m m' → Wd f 78 m' → Q (.inl none, m')) : Cl g 5 0 0 mX10_copyFrom [.ref 78, .ref 5] m Q := by
  refine Cl.of rfl (by decide) (Nat.le_of_ble_eq_true rfl) ?_
  show Wp g mX10_copyFrom 5 0 0 0 [.ref 78, .ref 5, .retAddr 0] [] m Q
  have b0 := hC.1.2
  have b1 := hC.2.1.2
  have b2 := hC.2.2.1.2
  have b3 := hC.2.2.2.1.2
  have b4 := hC.2.2.2.2.1.2
  have b5 := hC.2.2.2.2.2.2
  refine r_iconst (0) dX10_copyFrom_0 rfl ?_
  refine si_2 dX10_copyFrom_1 rfl (Nat.le_of_ble_eq_true rfl) ?_
  refine L_wc2_0 hF (fun m1 hI => ?_) 6 0 m (by omega) ⟨Off.rf, fun j hj => absurd hj (by omega)⟩
  have o1 := hI.1
  have hc1 := hI.2
  have hF1 := Fx_of o1.1 hF
  refine r_aload_n dX10_copyFrom_41 rfl ?_
  refine r_aload_n dX10_copyFrom_42 rfl ?_
  refine r_getI dX10_copyFrom_43 fgX10_64 rfl (by exact k_5 hF1) ?_
  refine r_putI dX10_copyFrom_46 (fpX10_64 _ rfl) rfl (by exact k_78 hF1) ⟨rfl, rfl⟩ ?_
  generalize hm2 : stI m1 78 1 (ldI m1 5 1) = m2
  have q2 : Off 78 78 m1 m2 := hm2 ▸ Off.rf.stI (by omega) (by omega)
  have o2 := (o1).tr ((q2).wd (by omega) (by omega))
  have hF2 := Fx_of o2.1 hF
  have hc2 := fun j hj => (hc1 j hj).off q2 (by omega)
  have e0_2 : ∀ j, j = 1 → ldI m2 78 j = ldI m 5 j := fun j hj => by rw [hj, ← hm2]; exact ld_s.trans ((o1.2 5 (by omega)).1 1)
  refine r_aload_n dX10_copyFrom_49 rfl ?_
  refine r_getRc dX10_copyFrom_50 fgX10_23 rfl (by exact k_78 hF2) (by exact r_78_2 hF2) ?_
  refine r_aload_n dX10_copyFrom_53 rfl ?_
  refine r_getRc dX10_copyFrom_54 fgX10_23 rfl (by exact k_5 hF2) (by exact r_5_2 hF2) ?_
  refine r_callV1 (ci := 5) (d1 := 1) (c1 := 0) (n1 := 0) dX10_copyFrom_57 mvX10_67 rfl ⟨(Nat.le_of_ble_eq_true rfl), rfl⟩ (Nat.le_of_ble_eq_true rfl) (by exact Nat.le_of_ble_eq_true rfl) (by exact k_98 hF2) ?_
  refine S_cpRow (a := 98) (b := 25) (z := 4) (z2 := 4) (n := nT f) (by exact k_98 hF2) (by exact r_98_0 hF2) (by exact k_99 hF2) (by omega) (by exact k_25 hF2) (by exact r_25_0 hF2) (by exact k_26 hF2) (by omega) (((o2.2 25 (by omega)).1 1).trans (hW.2.2.1.1.trans hC.2.1.1)) (by omega) (by omega) (by omega) (fun m3 q3 hn3 hr3 => ?_)
  have o3 := (o2).tr ((q3).wd (by omega) (by omega))
  have hF3 := Fx_of o3.1 hF
  have e0_3 := fun j hj => (((q3).2 78 (by omega)).1 j).trans (e0_2 j hj)
  have hc3 := fun j hj => (hc2 j hj).off q3 (by omega)
  have e20_3 : ∀ j, j = 1 → ldI m3 98 j = ldI m 25 j := fun j hj => by rw [hj]; exact hn3.trans (hW.2.2.1.1.trans hC.2.1.1).symm
  have e21_3 : ∀ j, j < nT f → ldI m3 99 j = ldI m 26 j := fun j hj => (hr3 j hj).trans ((o2.2 26 (by omega)).1 j)
  show Wp g mX10_copyFrom _ _ _ 60 _ [] _ Q
  refine r_aload_n dX10_copyFrom_60 rfl ?_
  refine r_getRc dX10_copyFrom_61 fgX10_27 rfl (by exact k_78 hF3) (by exact r_78_3 hF3) ?_
  refine r_aload_n dX10_copyFrom_64 rfl ?_
  refine r_getRc dX10_copyFrom_65 fgX10_27 rfl (by exact k_5 hF3) (by exact r_5_3 hF3) ?_
  refine r_callV1 (ci := 5) (d1 := 1) (c1 := 0) (n1 := 0) dX10_copyFrom_68 mvX10_67 rfl ⟨(Nat.le_of_ble_eq_true rfl), rfl⟩ (Nat.le_of_ble_eq_true rfl) (by exact Nat.le_of_ble_eq_true rfl) (by exact k_100 hF3) ?_
  refine S_cpRow (a := 100) (b := 27) (z := 4) (z2 := 4) (n := nT f) (by exact k_100 hF3) (by exact r_100_0 hF3) (by exact k_101 hF3) (by omega) (by exact k_27 hF3) (by exact r_27_0 hF3) (by exact k_28 hF3) (by omega) (((o3.2 27 (by omega)).1 1).trans (hW.2.2.1.2.1.trans hC.2.1.1)) (by omega) (by omega) (by omega) (fun m4 q4 hn4 hr4 => ?_)
  have o4 := (o3).tr ((q4).wd (by omega) (by omega))
  have hF4 := Fx_of o4.1 hF
  have e0_4 := fun j hj => (((q4).2 78 (by omega)).1 j).trans (e0_3 j hj)
  have e20_4 := fun j hj => (((q4).2 98 (by omega)).1 j).trans (e20_3 j hj)
  have e21_4 := fun j hj => (((q4).2 99 (by omega)).1 j).trans (e21_3 j hj)
  have hc4 := fun j hj => (hc3 j hj).off q4 (by omega)
  have e22_4 : ∀ j, j = 1 → ldI m4 100 j = ldI m 27 j := fun j hj => by rw [hj]; exact hn4.trans (hW.2.2.1.2.1.trans hC.2.1.1).symm
  have e23_4 : ∀ j, j < nT f → ldI m4 101 j = ldI m 28 j := fun j hj => (hr4 j hj).trans ((o3.2 28 (by omega)).1 j)
  show Wp g mX10_copyFrom _ _ _ 71 _ [] _ Q
  refine r_aload_n dX10_copyFrom_71 rfl ?_
  refine r_getRc dX10_copyFrom_72 fgX10_33 rfl (by exact k_78 hF4) (by exact r_78_4 hF4) ?_
  refine r_aload_n dX10_copyFrom_75 rfl ?_
  refine r_getRc dX10_copyFrom_76 fgX10_33 rfl (by exact k_5 hF4) (by exact r_5_4 hF4) ?_
  refine r_callV1 (ci := 6) (d1 := 1) (c1 := 0) (n1 := 0) dX10_copyFrom_79 mvX10_70 rfl ⟨(Nat.le_of_ble_eq_true rfl), rfl⟩ (Nat.le_of_ble_eq_true rfl) (by exact Nat.le_of_ble_eq_true rfl) (by exact k_102 hF4) ?_
  refine S_cpRun (a := 102) (b := 29) (by exact k_102 hF4) (by exact k_29 hF4) (by decide) (by rw [(o4.2 29 (by omega)).1 4]; exact hw4) (fun m5 q5 hr5 => ?_)
  have o5 := (o4).tr ((q5).wd (by omega) (by omega))
  have hF5 := Fx_of o5.1 hF
  have e0_5 := fun j hj => (((q5).2 78 (by omega)).1 j).trans (e0_4 j hj)
  have e20_5 := fun j hj => (((q5).2 98 (by omega)).1 j).trans (e20_4 j hj)
  have e21_5 := fun j hj => (((q5).2 99 (by omega)).1 j).trans (e21_4 j hj)
  have e22_5 := fun j hj => (((q5).2 100 (by omega)).1 j).trans (e22_4 j hj)
  have e23_5 := fun j hj => (((q5).2 101 (by omega)).1 j).trans (e23_4 j hj)
  have hc5 := fun j hj => (hc4 j hj).off q5 (by omega)
  have e24_5 : ∀ j, j < 6 → ldI m5 102 j = ldI m 29 j := fun j hj => (hr5 j hj).trans ((o4.2 29 (by omega)).1 j)
  show Wp g mX10_copyFrom _ _ _ 82 _ [] _ Q
  refine r_aload_n dX10_copyFrom_82 rfl ?_
  refine r_getRc dX10_copyFrom_83 fgX10_37 rfl (by exact k_78 hF5) (by exact r_78_5 hF5) ?_
  refine r_aload_n dX10_copyFrom_86 rfl ?_
  refine r_getRc dX10_copyFrom_87 fgX10_37 rfl (by exact k_5 hF5) (by exact r_5_5 hF5) ?_
  refine r_callV1 (ci := 5) (d1 := 1) (c1 := 0) (n1 := 0) dX10_copyFrom_90 mvX10_67 rfl ⟨(Nat.le_of_ble_eq_true rfl), rfl⟩ (Nat.le_of_ble_eq_true rfl) (by exact Nat.le_of_ble_eq_true rfl) (by exact k_103 hF5) ?_
  refine S_cpRow (a := 103) (b := 30) (z := 420) (z2 := 420) (n := 7 * nR f) (by exact k_103 hF5) (by exact r_103_0 hF5) (by exact k_104 hF5) (by omega) (by exact k_30 hF5) (by exact r_30_0 hF5) (by exact k_31 hF5) (by omega) (((o5.2 30 (by omega)).1 1).trans (hW.2.2.2.2.1.1)) (by omega) (by omega) (by omega) (fun m6 q6 hn6 hr6 => ?_)
  have o6 := (o5).tr ((q6).wd (by omega) (by omega))
  have hF6 := Fx_of o6.1 hF
  have e0_6 := fun j hj => (((q6).2 78 (by omega)).1 j).trans (e0_5 j hj)
  have e20_6 := fun j hj => (((q6).2 98 (by omega)).1 j).trans (e20_5 j hj)
  have e21_6 := fun j hj => (((q6).2 99 (by omega)).1 j).trans (e21_5 j hj)
  have e22_6 := fun j hj => (((q6).2 100 (by omega)).1 j).trans (e22_5 j hj)
  have e23_6 := fun j hj => (((q6).2 101 (by omega)).1 j).trans (e23_5 j hj)
  have e24_6 := fun j hj => (((q6).2 102 (by omega)).1 j).trans (e24_5 j hj)
  have hc6 := fun j hj => (hc5 j hj).off q6 (by omega)
  have e25_6 : ∀ j, j = 1 → ldI m6 103 j = ldI m 30 j := fun j hj => by rw [hj]; exact hn6.trans (hW.2.2.2.2.1.1).symm
  have e26_6 : ∀ j, j < 7 * nR f → ldI m6 104 j = ldI m 31 j := fun j hj => (hr6 j hj).trans ((o5.2 31 (by omega)).1 j)
  show Wp g mX10_copyFrom _ _ _ 93 _ [] _ Q
  refine r_aload_n dX10_copyFrom_93 rfl ?_
  refine r_getRc dX10_copyFrom_94 fgX10_43 rfl (by exact k_78 hF6) (by exact r_78_6 hF6) ?_
  refine r_aload_n dX10_copyFrom_97 rfl ?_
  refine r_getRc dX10_copyFrom_98 fgX10_43 rfl (by exact k_5 hF6) (by exact r_5_6 hF6) ?_
  refine r_callV1 (ci := 8) (d1 := 2) (c1 := 0) (n1 := 0) dX10_copyFrom_101 mvX10_73 rfl ⟨(Nat.le_of_ble_eq_true rfl), rfl⟩ (Nat.le_of_ble_eq_true rfl) (by exact Nat.le_of_ble_eq_true rfl) (by exact k_105 hF6) ?_
  refine S_shc2_0 hF6 (n := nE f) (((o6.2 33 (by omega)).1 1).trans (hW.2.2.2.2.2.1.1.trans hC.2.2.2.1.1)) (by omega) (fun m7 q7 hn7 hr7 => ?_)
  have o7 := (o6).tr ((q7).wd (by omega) (by omega))
  have hF7 := Fx_of o7.1 hF
  have e0_7 := fun j hj => (((q7).2 78 (by omega)).1 j).trans (e0_6 j hj)
  have e20_7 := fun j hj => (((q7).2 98 (by omega)).1 j).trans (e20_6 j hj)
  have e21_7 := fun j hj => (((q7).2 99 (by omega)).1 j).trans (e21_6 j hj)
  have e22_7 := fun j hj => (((q7).2 100 (by omega)).1 j).trans (e22_6 j hj)
  have e23_7 := fun j hj => (((q7).2 101 (by omega)).1 j).trans (e23_6 j hj)
  have e24_7 := fun j hj => (((q7).2 102 (by omega)).1 j).trans (e24_6 j hj)
  have e25_7 := fun j hj => (((q7).2 103 (by omega)).1 j).trans (e25_6 j hj)
  have e26_7 := fun j hj => (((q7).2 104 (by omega)).1 j).trans (e26_6 j hj)
  have hc7 := fun j hj => (hc6 j hj).off q7 (by omega)
  have e28_7 : ∀ j, j = 1 → ldI m7 106 j = ldI m 33 j := fun j hj => by rw [hj]; exact hn7.trans (hW.2.2.2.2.2.1.1.trans hC.2.2.2.1.1).symm
  have e29_7 : ∀ j, j < nE f → ldI m7 107 j = ldI m 34 j := fun j hj => (hr7 j hj).trans ((o6.2 34 (by omega)).1 j)
  show Wp g mX10_copyFrom _ _ _ 104 _ [] _ Q
  refine r_aload_n dX10_copyFrom_104 rfl ?_
  refine r_getRc dX10_copyFrom_105 fgX10_47 rfl (by exact k_78 hF7) (by exact r_78_7 hF7) ?_
  refine r_aload_n dX10_copyFrom_108 rfl ?_
  refine r_getRc dX10_copyFrom_109 fgX10_47 rfl (by exact k_5 hF7) (by exact r_5_7 hF7) ?_
  refine r_callV1 (ci := 5) (d1 := 1) (c1 := 0) (n1 := 0) dX10_copyFrom_112 mvX10_67 rfl ⟨(Nat.le_of_ble_eq_true rfl), rfl⟩ (Nat.le_of_ble_eq_true rfl) (by exact Nat.le_of_ble_eq_true rfl) (by exact k_108 hF7) ?_
  refine S_cpRow (a := 108) (b := 35) (z := 6) (z2 := 6) (n := nM f) (by exact k_108 hF7) (by exact r_108_0 hF7) (by exact k_109 hF7) (by omega) (by exact k_35 hF7) (by exact r_35_0 hF7) (by exact k_36 hF7) (by omega) (((o7.2 35 (by omega)).1 1).trans (hW.2.2.2.2.2.2.1.1.trans hC.2.2.2.2.1.1)) (by omega) (by omega) (by omega) (fun m8 q8 hn8 hr8 => ?_)
  have o8 := (o7).tr ((q8).wd (by omega) (by omega))
  have hF8 := Fx_of o8.1 hF
  have e0_8 := fun j hj => (((q8).2 78 (by omega)).1 j).trans (e0_7 j hj)
  have e20_8 := fun j hj => (((q8).2 98 (by omega)).1 j).trans (e20_7 j hj)
  have e21_8 := fun j hj => (((q8).2 99 (by omega)).1 j).trans (e21_7 j hj)
  have e22_8 := fun j hj => (((q8).2 100 (by omega)).1 j).trans (e22_7 j hj)
  have e23_8 := fun j hj => (((q8).2 101 (by omega)).1 j).trans (e23_7 j hj)
  have e24_8 := fun j hj => (((q8).2 102 (by omega)).1 j).trans (e24_7 j hj)
  have e25_8 := fun j hj => (((q8).2 103 (by omega)).1 j).trans (e25_7 j hj)
  have e26_8 := fun j hj => (((q8).2 104 (by omega)).1 j).trans (e26_7 j hj)
  have e28_8 := fun j hj => (((q8).2 106 (by omega)).1 j).trans (e28_7 j hj)
  have e29_8 := fun j hj => (((q8).2 107 (by omega)).1 j).trans (e29_7 j hj)
  have hc8 := fun j hj => (hc7 j hj).off q8 (by omega)
  have e30_8 : ∀ j, j = 1 → ldI m8 108 j = ldI m 35 j := fun j hj => by rw [hj]; exact hn8.trans (hW.2.2.2.2.2.2.1.1.trans hC.2.2.2.2.1.1).symm
  have e31_8 : ∀ j, j < nM f → ldI m8 109 j = ldI m 36 j := fun j hj => (hr8 j hj).trans ((o7.2 36 (by omega)).1 j)
  show Wp g mX10_copyFrom _ _ _ 115 _ [] _ Q
  refine r_aload_n dX10_copyFrom_115 rfl ?_
  refine r_getRc dX10_copyFrom_116 fgX10_50 rfl (by exact k_78 hF8) (by exact r_78_8 hF8) ?_
  refine r_aload_n dX10_copyFrom_119 rfl ?_
  refine r_getRc dX10_copyFrom_120 fgX10_50 rfl (by exact k_5 hF8) (by exact r_5_8 hF8) ?_
  refine r_callV1 (ci := 5) (d1 := 1) (c1 := 0) (n1 := 0) dX10_copyFrom_123 mvX10_67 rfl ⟨(Nat.le_of_ble_eq_true rfl), rfl⟩ (Nat.le_of_ble_eq_true rfl) (by exact Nat.le_of_ble_eq_true rfl) (by exact k_110 hF8) ?_
  refine S_cpRow (a := 110) (b := 37) (z := 8) (z2 := 8) (n := nFo f) (by exact k_110 hF8) (by exact r_110_0 hF8) (by exact k_111 hF8) (by omega) (by exact k_37 hF8) (by exact r_37_0 hF8) (by exact k_38 hF8) (by omega) (((o8.2 37 (by omega)).1 1).trans (hW.2.2.2.2.2.2.2.1.trans hC.2.2.2.2.2.1)) (by omega) (by omega) (by omega) (fun m9 q9 hn9 hr9 => ?_)
  have o9 := (o8).tr ((q9).wd (by omega) (by omega))
  have hF9 := Fx_of o9.1 hF
  have e0_9 := fun j hj => (((q9).2 78 (by omega)).1 j).trans (e0_8 j hj)
  have e20_9 := fun j hj => (((q9).2 98 (by omega)).1 j).trans (e20_8 j hj)
  have e21_9 := fun j hj => (((q9).2 99 (by omega)).1 j).trans (e21_8 j hj)
  have e22_9 := fun j hj => (((q9).2 100 (by omega)).1 j).trans (e22_8 j hj)
  have e23_9 := fun j hj => (((q9).2 101 (by omega)).1 j).trans (e23_8 j hj)
  have e24_9 := fun j hj => (((q9).2 102 (by omega)).1 j).trans (e24_8 j hj)
  have e25_9 := fun j hj => (((q9).2 103 (by omega)).1 j).trans (e25_8 j hj)
  have e26_9 := fun j hj => (((q9).2 104 (by omega)).1 j).trans (e26_8 j hj)
  have e28_9 := fun j hj => (((q9).2 106 (by omega)).1 j).trans (e28_8 j hj)
  have e29_9 := fun j hj => (((q9).2 107 (by omega)).1 j).trans (e29_8 j hj)
  have e30_9 := fun j hj => (((q9).2 108 (by omega)).1 j).trans (e30_8 j hj)
  have e31_9 := fun j hj => (((q9).2 109 (by omega)).1 j).trans (e31_8 j hj)
  have hc9 := fun j hj => (hc8 j hj).off q9 (by omega)
  have e32_9 : ∀ j, j = 1 → ldI m9 110 j = ldI m 37 j := fun j hj => by rw [hj]; exact hn9.trans (hW.2.2.2.2.2.2.2.1.trans hC.2.2.2.2.2.1).symm
  have e33_9 : ∀ j, j < nFo f → ldI m9 111 j = ldI m 38 j := fun j hj => (hr9 j hj).trans ((o8.2 38 (by omega)).1 j)
  show Wp g mX10_copyFrom _ _ _ 126 _ [] _ Q
  refine r_aload_n dX10_copyFrom_126 rfl ?_
  refine r_getRc dX10_copyFrom_127 fgX10_53 rfl (by exact k_78 hF9) (by exact r_78_9 hF9) ?_
  refine r_aload_n dX10_copyFrom_130 rfl ?_
  refine r_getRc dX10_copyFrom_131 fgX10_53 rfl (by exact k_5 hF9) (by exact r_5_9 hF9) ?_
  refine r_callV1 (ci := 5) (d1 := 1) (c1 := 0) (n1 := 0) dX10_copyFrom_134 mvX10_67 rfl ⟨(Nat.le_of_ble_eq_true rfl), rfl⟩ (Nat.le_of_ble_eq_true rfl) (by exact Nat.le_of_ble_eq_true rfl) (by exact k_112 hF9) ?_
  refine S_cpRow (a := 112) (b := 39) (z := 8) (z2 := 8) (n := nFo f) (by exact k_112 hF9) (by exact r_112_0 hF9) (by exact k_113 hF9) (by omega) (by exact k_39 hF9) (by exact r_39_0 hF9) (by exact k_40 hF9) (by omega) (((o9.2 39 (by omega)).1 1).trans (hW.2.2.2.2.2.2.2.2.1.trans hC.2.2.2.2.2.1)) (by omega) (by omega) (by omega) (fun m10 q10 hn10 hr10 => ?_)
  have o10 := (o9).tr ((q10).wd (by omega) (by omega))
  have hF10 := Fx_of o10.1 hF
  have e0_10 := fun j hj => (((q10).2 78 (by omega)).1 j).trans (e0_9 j hj)
  have e20_10 := fun j hj => (((q10).2 98 (by omega)).1 j).trans (e20_9 j hj)
  have e21_10 := fun j hj => (((q10).2 99 (by omega)).1 j).trans (e21_9 j hj)
  have e22_10 := fun j hj => (((q10).2 100 (by omega)).1 j).trans (e22_9 j hj)
  have e23_10 := fun j hj => (((q10).2 101 (by omega)).1 j).trans (e23_9 j hj)
  have e24_10 := fun j hj => (((q10).2 102 (by omega)).1 j).trans (e24_9 j hj)
  have e25_10 := fun j hj => (((q10).2 103 (by omega)).1 j).trans (e25_9 j hj)
  have e26_10 := fun j hj => (((q10).2 104 (by omega)).1 j).trans (e26_9 j hj)
  have e28_10 := fun j hj => (((q10).2 106 (by omega)).1 j).trans (e28_9 j hj)
  have e29_10 := fun j hj => (((q10).2 107 (by omega)).1 j).trans (e29_9 j hj)
  have e30_10 := fun j hj => (((q10).2 108 (by omega)).1 j).trans (e30_9 j hj)
  have e31_10 := fun j hj => (((q10).2 109 (by omega)).1 j).trans (e31_9 j hj)
  have e32_10 := fun j hj => (((q10).2 110 (by omega)).1 j).trans (e32_9 j hj)
  have e33_10 := fun j hj => (((q10).2 111 (by omega)).1 j).trans (e33_9 j hj)
  have hc10 := fun j hj => (hc9 j hj).off q10 (by omega)
  have e34_10 : ∀ j, j = 1 → ldI m10 112 j = ldI m 39 j := fun j hj => by rw [hj]; exact hn10.trans (hW.2.2.2.2.2.2.2.2.1.trans hC.2.2.2.2.2.1).symm
  have e35_10 : ∀ j, j < nFo f → ldI m10 113 j = ldI m 40 j := fun j hj => (hr10 j hj).trans ((o9.2 40 (by omega)).1 j)
  show Wp g mX10_copyFrom _ _ _ 137 _ [] _ Q
  refine r_aload_n dX10_copyFrom_137 rfl ?_
  refine r_aload_n dX10_copyFrom_138 rfl ?_
  refine r_getI dX10_copyFrom_139 fgX10_56 rfl (by exact k_5 hF10) ?_
  refine r_putI dX10_copyFrom_142 (fpX10_56 _ rfl) rfl (by exact k_78 hF10) ⟨rfl, rfl⟩ ?_
  refine r_return dX10_copyFrom_145 rfl ?_
  have qz : Off 78 78 m10 (stI m10 78 10 (ldI m10 5 10)) := Off.rf.stI (by omega) (by omega)
  have tz : ∀ a, 78 < a → ∀ k, ldI (stI m10 78 10 (ldI m10 5 10)) a k = ldI m10 a k := fun a ha k => (qz.2 a (by omega)).1 k
  have oz : Off 78 113 m (stI m10 78 10 (ldI m10 5 10)) := o10.tr (qz.wd (by omega) (by omega))
  refine k (stI m10 78 10 (ldI m10 5 10)) oz ⟨⟨(ld_n (by omega) (e0_10 1 rfl)).trans hW.1.1, ld_s.trans (((o10.2 5 (by omega)).1 10).trans hW.1.2)⟩, fun i hi => ?_, ⟨(tz _ (by omega) 1).trans ((e20_10 1 rfl).trans hW.2.2.1.1), (tz _ (by omega) 1).trans ((e22_10 1 rfl).trans hW.2.2.1.2.1), fun j hj => ⟨(tz _ (by omega) j).trans ((e21_10 j hj).trans (hW.2.2.1.2.2 j hj).1), (tz _ (by omega) j).trans ((e23_10 j hj).trans (hW.2.2.1.2.2 j hj).2)⟩⟩, fun j hj => (tz _ (by omega) j).trans ((e24_10 j hj).trans (hW.2.2.2.1 j hj)), ⟨(tz _ (by omega) 1).trans ((e25_10 1 rfl).trans hW.2.2.2.2.1.1), fun j hj => (tz _ (by omega) j).trans ((e26_10 j hj).trans (hW.2.2.2.2.1.2 j hj))⟩, ⟨(tz _ (by omega) 1).trans ((e28_10 1 rfl).trans hW.2.2.2.2.2.1.1), fun j hj => (tz _ (by omega) j).trans ((e29_10 j hj).trans (hW.2.2.2.2.2.1.2 j hj))⟩, ⟨(tz _ (by omega) 1).trans ((e30_10 1 rfl).trans hW.2.2.2.2.2.2.1.1), fun j hj => (tz _ (by omega) j).trans ((e31_10 j hj).trans (hW.2.2.2.2.2.2.1.2 j hj))⟩, (tz _ (by omega) 1).trans ((e32_10 1 rfl).trans hW.2.2.2.2.2.2.2.1), (tz _ (by omega) 1).trans ((e34_10 1 rfl).trans hW.2.2.2.2.2.2.2.2.1), fun j hj => ⟨(tz _ (by omega) j).trans ((e33_10 j hj).trans (hW.2.2.2.2.2.2.2.2.2 j hj).1), (tz _ (by omega) j).trans ((e35_10 j hj).trans (hW.2.2.2.2.2.2.2.2.2 j hj).2)⟩⟩
  have hci := (hc10 i (by omega)).off qz (by omega)
  have wi := hW.2.1 i hi
  have s12 := hS12 i hi
  exact ⟨hci.1.trans wi.1, hci.2.1.trans wi.2.1, fun s hs => ⟨(hci.2.2 s (by omega)).1.trans (wi.2.2 s hs).1, (hci.2.2 s (by omega)).2.trans (wi.2.2 s hs).2⟩⟩
theorem L_wc0_3 {g : GG} {m : MM} {Q : Out → Prop} (hF : Fx m)  (kx : ∀ (m1 : MM), (Off 5 40 m m1 ∧ ∀ j, j < 6 → HC 5 114 m m1 j) → Wp g mX10_copyFrom 5 0 0 41 [.ref 5, .ref 114, .int (nI 6)] [] (m1) Q) : ∀ (t i : Nat) (m1 : MM), i + t = 6 → (Off 5 40 m m1 ∧ ∀ j, j < i → HC 5 114 m m1 j) → Wp g mX10_copyFrom 5 0 0 2 [.ref 5, .ref 114, .int (nI i)] [] (m1) Q := by
  intro t
  induction t with
  | zero =>
    intro i m1 hi hI
    have hi : i = 6 := by omega
    subst hi
    have hF1 := Fx_of hI.1.1 hF
    refine r_iload_n dX10_copyFrom_2 rfl ?_
    refine r_aload_n dX10_copyFrom_3 rfl ?_
    refine r_getRc dX10_copyFrom_4 fgX10_11 rfl (by exact k_5 hF1) (by exact r_5_0 hF1) ?_
    refine r_alen _ dX10_copyFrom_7 ⟨Nat.le_of_ble_eq_true rfl, Nat.le_of_ble_eq_true rfl⟩ (by exact k_6 hF1) rfl ?_
    refine r_icmp_ge 41 dX10_copyFrom_8 rfl (fun h1 => ?_) (fun h1 => ?_)
    ·
      exact kx _ hI
    ·
      exact absurd (by decide) h1
  | succ t ih =>
    intro i m1 hi hI
    have hin : i < 6 := by omega
    have hF1 := Fx_of hI.1.1 hF
    refine r_iload_n dX10_copyFrom_2 rfl ?_
    refine r_aload_n dX10_copyFrom_3 rfl ?_
    refine r_getRc dX10_copyFrom_4 fgX10_11 rfl (by exact k_5 hF1) (by exact r_5_0 hF1) ?_
    refine r_alen _ dX10_copyFrom_7 ⟨Nat.le_of_ble_eq_true rfl, Nat.le_of_ble_eq_true rfl⟩ (by exact k_6 hF1) rfl ?_
    refine r_icmp_ge 41 dX10_copyFrom_8 rfl (fun h1 => ?_) (fun h1 => ?_)
    ·
      exact absurd h1 (nI_ge (a := i) (b := 6) hin (by omega))
    ·
      refine r_iload_n dX10_copyFrom_11 rfl ?_
      refine r_aload_n dX10_copyFrom_12 rfl ?_
      refine r_getRc dX10_copyFrom_13 fgX10_11 rfl (by exact k_114 hF1) (by exact r_114_0 hF1) ?_
      refine r_alen _ dX10_copyFrom_16 ⟨Nat.le_of_ble_eq_true rfl, Nat.le_of_ble_eq_true rfl⟩ (by exact k_115 hF1) rfl ?_
      refine r_icmp_ge 41 dX10_copyFrom_17 rfl (fun h2 => ?_) (fun h2 => ?_)
      ·
        exact absurd h2 (nI_ge (a := i) (b := 6) hin (by omega))
      ·
        refine r_aload_n dX10_copyFrom_20 rfl ?_
        refine r_getRc dX10_copyFrom_21 fgX10_11 rfl (by exact k_5 hF1) (by exact r_5_0 hF1) ?_
        refine r_iload_n dX10_copyFrom_24 rfl ?_
        refine r_aaloadc (b := 7 + 3 * i) dX10_copyFrom_25 ⟨Nat.le_of_ble_eq_true rfl, Nat.le_of_ble_eq_true rfl⟩ (by exact k_6 hF1) (vin (by omega) (by omega)) (by rw [nI_cl i (by omega)]; exact hu0_r hF1 (by omega)) ?_
        refine r_aload_n dX10_copyFrom_26 rfl ?_
        refine r_getRc dX10_copyFrom_27 fgX10_11 rfl (by exact k_114 hF1) (by exact r_114_0 hF1) ?_
        refine r_iload_n dX10_copyFrom_30 rfl ?_
        refine r_aaloadc (b := 116 + 3 * i) dX10_copyFrom_31 ⟨Nat.le_of_ble_eq_true rfl, Nat.le_of_ble_eq_true rfl⟩ (by exact k_115 hF1) (vin (by omega) (by omega)) (by rw [nI_cl i (by omega)]; exact hu3_r hF1 (by omega)) ?_
        refine r_callV1 (ci := 1) (d1 := 4) (c1 := 0) (n1 := 0) dX10_copyFrom_32 mvX10_60 rfl ⟨(Nat.le_of_ble_eq_true rfl), rfl⟩ (Nat.le_of_ble_eq_true rfl) (by exact Nat.le_of_ble_eq_true rfl) (by exact hu0_k hF1 (by omega)) ?_
        refine S_X1_copyFrom (by exact hu0_k hF1 (by omega)) (by exact hb0_r hF1 (by omega)) (by exact hb0_k hF1 (by omega)) (by exact hd0_r hF1 (by omega)) (by exact hd0_k hF1 (by omega)) (by exact hu3_k hF1 (by omega)) (by exact hb3_r hF1 (by omega)) (by exact hb3_k hF1 (by omega)) (by exact hd3_r hF1 (by omega)) (by exact hd3_k hF1 (by omega)) ⟨eq_false (by omega), eq_false (by omega), eq_false (by omega), eq_false (by omega), eq_false (by omega), eq_false (by omega), eq_false (by omega)⟩ ?_
        show Wp g mX10_copyFrom _ _ _ 35 _ [] _ Q
        refine ic_2 (1) dX10_copyFrom_35 rfl rfl (Nat.le_of_ble_eq_true rfl) ?_
        refine r_goto 2 dX10_copyFrom_38 rfl ?_
        rw [nI_1 i]
        have q9 : Off (7 + 3 * i) (7 + 3 * i + 2) m1 (hcM m1 (7 + 3 * i) (8 + 3 * i) (9 + 3 * i) (116 + 3 * i) (117 + 3 * i) (118 + 3 * i)) := by rw [show 8 + 3 * i = 7 + 3 * i + 1 from by omega, show 9 + 3 * i = 7 + 3 * i + 2 from by omega]; exact hcM_off
        refine ih (i + 1) _ (by omega) ⟨hI.1.tr (q9.wd (by omega) (by omega)), fun j hj => ?_⟩
        by_cases q : j = i
        · subst q; exact hcM_hc (w := 5) (v := 114) (by omega) (by omega) hI.1
        · exact (hI.2 j (by omega)).off q9 (by omega)
theorem S_shc0_3 {g : GG} {m : MM} {Q : Out → Prop} (hF : Fx m) {n : Nat} (hn : ldI m 142 1 = nI n) (h20 : n ≤ 20) (k : ∀ m', Off 33 34 m m' → ldI m' 33 1 = nI n → (∀ j, j < n → ldI m' 34 j = ldI m 143 j) → Q (.inl none, m')) : Cl g 2 0 0 mX8_copyFrom [.ref 32, .ref 141] m Q := by
  refine Cl.of rfl (by decide) (Nat.le_of_ble_eq_true rfl) ?_
  show Wp g mX8_copyFrom 2 0 0 0 [.ref 32, .ref 141] [] m Q
  refine r_aload_n dX8_copyFrom_0 rfl ?_
  refine r_getRc dX8_copyFrom_1 fgX8_14 rfl (by exact k_32 hF) (by exact r_32_0 hF) ?_
  refine r_aload_n dX8_copyFrom_4 rfl ?_
  refine r_getRc dX8_copyFrom_5 fgX8_14 rfl (by exact k_141 hF) (by exact r_141_0 hF) ?_
  refine r_callV1 (ci := 5) (d1 := 1) (c1 := 0) (n1 := 0) dX8_copyFrom_8 mvX8_64 rfl ⟨(Nat.le_of_ble_eq_true rfl), rfl⟩ (Nat.le_of_ble_eq_true rfl) (by exact Nat.le_of_ble_eq_true rfl) (by exact k_33 hF) ?_
  refine S_cpRow (a := 33) (b := 142) (z := 20) (z2 := 20) (n := n) (by exact k_33 hF) (by exact r_33_0 hF) (by exact k_34 hF) (by omega) (by exact k_142 hF) (by exact r_142_0 hF) (by exact k_143 hF) (by omega) hn (by omega) (by omega) (by omega) (fun m1 q1 hn1 hr1 => ?_)
  show Wp g mX8_copyFrom _ _ _ 11 _ [] _ Q
  refine r_return dX8_copyFrom_11 rfl ?_
  exact k m1 q1 hn1 hr1
theorem S_wcopy0_3 {g : GG} {m : MM} {Q : Out → Prop} (hF : Fx m) {f : Nat → Int32} (hC : VC f) (hW : Wd f 114 m) (hw4 : ldI m 138 4 = 0 ∨ ldI m 138 4 = 1) (hS12 : ∀ i, i < nH f → nS f i ≤ 12) (k : ∀ m', Off 5 40 m m' → Wd f 5 m' → Q (.inl none, m')) : Cl g 5 0 0 mX10_copyFrom [.ref 5, .ref 114] m Q := by
  refine Cl.of rfl (by decide) (Nat.le_of_ble_eq_true rfl) ?_
  show Wp g mX10_copyFrom 5 0 0 0 [.ref 5, .ref 114, .retAddr 0] [] m Q
  have b0 := hC.1.2
  have b1 := hC.2.1.2
  have b2 := hC.2.2.1.2
  have b3 := hC.2.2.2.1.2
  have b4 := hC.2.2.2.2.1.2
  have b5 := hC.2.2.2.2.2.2
  refine r_iconst (0) dX10_copyFrom_0 rfl ?_
  refine si_2 dX10_copyFrom_1 rfl (Nat.le_of_ble_eq_true rfl) ?_
  refine L_wc0_3 hF (fun m1 hI => ?_) 6 0 m (by omega) ⟨Off.rf, fun j hj => absurd hj (by omega)⟩
  have o1 := hI.1
  have hc1 := hI.2
  have hF1 := Fx_of o1.1 hF
  refine r_aload_n dX10_copyFrom_41 rfl ?_
  refine r_aload_n dX10_copyFrom_42 rfl ?_
  refine r_getI dX10_copyFrom_43 fgX10_64 rfl (by exact k_114 hF1) ?_
  refine r_putI dX10_copyFrom_46 (fpX10_64 _ rfl) rfl (by exact k_5 hF1) ⟨rfl, rfl⟩ ?_
  generalize hm2 : stI m1 5 1 (ldI m1 114 1) = m2
  have q2 : Off 5 5 m1 m2 := hm2 ▸ Off.rf.stI (by omega) (by omega)
  have o2 := (o1).tr ((q2).wd (by omega) (by omega))
  have hF2 := Fx_of o2.1 hF
  have hc2 := fun j hj => (hc1 j hj).off q2 (by omega)
  have e0_2 : ∀ j, j = 1 → ldI m2 5 j = ldI m 114 j := fun j hj => by rw [hj, ← hm2]; exact ld_s.trans ((o1.2 114 (by omega)).1 1)
  refine r_aload_n dX10_copyFrom_49 rfl ?_
  refine r_getRc dX10_copyFrom_50 fgX10_23 rfl (by exact k_5 hF2) (by exact r_5_2 hF2) ?_
  refine r_aload_n dX10_copyFrom_53 rfl ?_
  refine r_getRc dX10_copyFrom_54 fgX10_23 rfl (by exact k_114 hF2) (by exact r_114_2 hF2) ?_
  refine r_callV1 (ci := 5) (d1 := 1) (c1 := 0) (n1 := 0) dX10_copyFrom_57 mvX10_67 rfl ⟨(Nat.le_of_ble_eq_true rfl), rfl⟩ (Nat.le_of_ble_eq_true rfl) (by exact Nat.le_of_ble_eq_true rfl) (by exact k_25 hF2) ?_
  refine S_cpRow (a := 25) (b := 134) (z := 4) (z2 := 4) (n := nT f) (by exact k_25 hF2) (by exact r_25_0 hF2) (by exact k_26 hF2) (by omega) (by exact k_134 hF2) (by exact r_134_0 hF2) (by exact k_135 hF2) (by omega) (((o2.2 134 (by omega)).1 1).trans (hW.2.2.1.1.trans hC.2.1.1)) (by omega) (by omega) (by omega) (fun m3 q3 hn3 hr3 => ?_)
  have o3 := (o2).tr ((q3).wd (by omega) (by omega))
  have hF3 := Fx_of o3.1 hF
  have e0_3 := fun j hj => (((q3).2 5 (by omega)).1 j).trans (e0_2 j hj)
  have hc3 := fun j hj => (hc2 j hj).off q3 (by omega)
  have e20_3 : ∀ j, j = 1 → ldI m3 25 j = ldI m 134 j := fun j hj => by rw [hj]; exact hn3.trans (hW.2.2.1.1.trans hC.2.1.1).symm
  have e21_3 : ∀ j, j < nT f → ldI m3 26 j = ldI m 135 j := fun j hj => (hr3 j hj).trans ((o2.2 135 (by omega)).1 j)
  show Wp g mX10_copyFrom _ _ _ 60 _ [] _ Q
  refine r_aload_n dX10_copyFrom_60 rfl ?_
  refine r_getRc dX10_copyFrom_61 fgX10_27 rfl (by exact k_5 hF3) (by exact r_5_3 hF3) ?_
  refine r_aload_n dX10_copyFrom_64 rfl ?_
  refine r_getRc dX10_copyFrom_65 fgX10_27 rfl (by exact k_114 hF3) (by exact r_114_3 hF3) ?_
  refine r_callV1 (ci := 5) (d1 := 1) (c1 := 0) (n1 := 0) dX10_copyFrom_68 mvX10_67 rfl ⟨(Nat.le_of_ble_eq_true rfl), rfl⟩ (Nat.le_of_ble_eq_true rfl) (by exact Nat.le_of_ble_eq_true rfl) (by exact k_27 hF3) ?_
  refine S_cpRow (a := 27) (b := 136) (z := 4) (z2 := 4) (n := nT f) (by exact k_27 hF3) (by exact r_27_0 hF3) (by exact k_28 hF3) (by omega) (by exact k_136 hF3) (by exact r_136_0 hF3) (by exact k_137 hF3) (by omega) (((o3.2 136 (by omega)).1 1).trans (hW.2.2.1.2.1.trans hC.2.1.1)) (by omega) (by omega) (by omega) (fun m4 q4 hn4 hr4 => ?_)
  have o4 := (o3).tr ((q4).wd (by omega) (by omega))
  have hF4 := Fx_of o4.1 hF
  have e0_4 := fun j hj => (((q4).2 5 (by omega)).1 j).trans (e0_3 j hj)
  have e20_4 := fun j hj => (((q4).2 25 (by omega)).1 j).trans (e20_3 j hj)
  have e21_4 := fun j hj => (((q4).2 26 (by omega)).1 j).trans (e21_3 j hj)
  have hc4 := fun j hj => (hc3 j hj).off q4 (by omega)
  have e22_4 : ∀ j, j = 1 → ldI m4 27 j = ldI m 136 j := fun j hj => by rw [hj]; exact hn4.trans (hW.2.2.1.2.1.trans hC.2.1.1).symm
  have e23_4 : ∀ j, j < nT f → ldI m4 28 j = ldI m 137 j := fun j hj => (hr4 j hj).trans ((o3.2 137 (by omega)).1 j)
  show Wp g mX10_copyFrom _ _ _ 71 _ [] _ Q
  refine r_aload_n dX10_copyFrom_71 rfl ?_
  refine r_getRc dX10_copyFrom_72 fgX10_33 rfl (by exact k_5 hF4) (by exact r_5_4 hF4) ?_
  refine r_aload_n dX10_copyFrom_75 rfl ?_
  refine r_getRc dX10_copyFrom_76 fgX10_33 rfl (by exact k_114 hF4) (by exact r_114_4 hF4) ?_
  refine r_callV1 (ci := 6) (d1 := 1) (c1 := 0) (n1 := 0) dX10_copyFrom_79 mvX10_70 rfl ⟨(Nat.le_of_ble_eq_true rfl), rfl⟩ (Nat.le_of_ble_eq_true rfl) (by exact Nat.le_of_ble_eq_true rfl) (by exact k_29 hF4) ?_
  refine S_cpRun (a := 29) (b := 138) (by exact k_29 hF4) (by exact k_138 hF4) (by decide) (by rw [(o4.2 138 (by omega)).1 4]; exact hw4) (fun m5 q5 hr5 => ?_)
  have o5 := (o4).tr ((q5).wd (by omega) (by omega))
  have hF5 := Fx_of o5.1 hF
  have e0_5 := fun j hj => (((q5).2 5 (by omega)).1 j).trans (e0_4 j hj)
  have e20_5 := fun j hj => (((q5).2 25 (by omega)).1 j).trans (e20_4 j hj)
  have e21_5 := fun j hj => (((q5).2 26 (by omega)).1 j).trans (e21_4 j hj)
  have e22_5 := fun j hj => (((q5).2 27 (by omega)).1 j).trans (e22_4 j hj)
  have e23_5 := fun j hj => (((q5).2 28 (by omega)).1 j).trans (e23_4 j hj)
  have hc5 := fun j hj => (hc4 j hj).off q5 (by omega)
  have e24_5 : ∀ j, j < 6 → ldI m5 29 j = ldI m 138 j := fun j hj => (hr5 j hj).trans ((o4.2 138 (by omega)).1 j)
  show Wp g mX10_copyFrom _ _ _ 82 _ [] _ Q
  refine r_aload_n dX10_copyFrom_82 rfl ?_
  refine r_getRc dX10_copyFrom_83 fgX10_37 rfl (by exact k_5 hF5) (by exact r_5_5 hF5) ?_
  refine r_aload_n dX10_copyFrom_86 rfl ?_
  refine r_getRc dX10_copyFrom_87 fgX10_37 rfl (by exact k_114 hF5) (by exact r_114_5 hF5) ?_
  refine r_callV1 (ci := 5) (d1 := 1) (c1 := 0) (n1 := 0) dX10_copyFrom_90 mvX10_67 rfl ⟨(Nat.le_of_ble_eq_true rfl), rfl⟩ (Nat.le_of_ble_eq_true rfl) (by exact Nat.le_of_ble_eq_true rfl) (by exact k_30 hF5) ?_
  refine S_cpRow (a := 30) (b := 139) (z := 420) (z2 := 420) (n := 7 * nR f) (by exact k_30 hF5) (by exact r_30_0 hF5) (by exact k_31 hF5) (by omega) (by exact k_139 hF5) (by exact r_139_0 hF5) (by exact k_140 hF5) (by omega) (((o5.2 139 (by omega)).1 1).trans (hW.2.2.2.2.1.1)) (by omega) (by omega) (by omega) (fun m6 q6 hn6 hr6 => ?_)
  have o6 := (o5).tr ((q6).wd (by omega) (by omega))
  have hF6 := Fx_of o6.1 hF
  have e0_6 := fun j hj => (((q6).2 5 (by omega)).1 j).trans (e0_5 j hj)
  have e20_6 := fun j hj => (((q6).2 25 (by omega)).1 j).trans (e20_5 j hj)
  have e21_6 := fun j hj => (((q6).2 26 (by omega)).1 j).trans (e21_5 j hj)
  have e22_6 := fun j hj => (((q6).2 27 (by omega)).1 j).trans (e22_5 j hj)
  have e23_6 := fun j hj => (((q6).2 28 (by omega)).1 j).trans (e23_5 j hj)
  have e24_6 := fun j hj => (((q6).2 29 (by omega)).1 j).trans (e24_5 j hj)
  have hc6 := fun j hj => (hc5 j hj).off q6 (by omega)
  have e25_6 : ∀ j, j = 1 → ldI m6 30 j = ldI m 139 j := fun j hj => by rw [hj]; exact hn6.trans (hW.2.2.2.2.1.1).symm
  have e26_6 : ∀ j, j < 7 * nR f → ldI m6 31 j = ldI m 140 j := fun j hj => (hr6 j hj).trans ((o5.2 140 (by omega)).1 j)
  show Wp g mX10_copyFrom _ _ _ 93 _ [] _ Q
  refine r_aload_n dX10_copyFrom_93 rfl ?_
  refine r_getRc dX10_copyFrom_94 fgX10_43 rfl (by exact k_5 hF6) (by exact r_5_6 hF6) ?_
  refine r_aload_n dX10_copyFrom_97 rfl ?_
  refine r_getRc dX10_copyFrom_98 fgX10_43 rfl (by exact k_114 hF6) (by exact r_114_6 hF6) ?_
  refine r_callV1 (ci := 8) (d1 := 2) (c1 := 0) (n1 := 0) dX10_copyFrom_101 mvX10_73 rfl ⟨(Nat.le_of_ble_eq_true rfl), rfl⟩ (Nat.le_of_ble_eq_true rfl) (by exact Nat.le_of_ble_eq_true rfl) (by exact k_32 hF6) ?_
  refine S_shc0_3 hF6 (n := nE f) (((o6.2 142 (by omega)).1 1).trans (hW.2.2.2.2.2.1.1.trans hC.2.2.2.1.1)) (by omega) (fun m7 q7 hn7 hr7 => ?_)
  have o7 := (o6).tr ((q7).wd (by omega) (by omega))
  have hF7 := Fx_of o7.1 hF
  have e0_7 := fun j hj => (((q7).2 5 (by omega)).1 j).trans (e0_6 j hj)
  have e20_7 := fun j hj => (((q7).2 25 (by omega)).1 j).trans (e20_6 j hj)
  have e21_7 := fun j hj => (((q7).2 26 (by omega)).1 j).trans (e21_6 j hj)
  have e22_7 := fun j hj => (((q7).2 27 (by omega)).1 j).trans (e22_6 j hj)
  have e23_7 := fun j hj => (((q7).2 28 (by omega)).1 j).trans (e23_6 j hj)
  have e24_7 := fun j hj => (((q7).2 29 (by omega)).1 j).trans (e24_6 j hj)
  have e25_7 := fun j hj => (((q7).2 30 (by omega)).1 j).trans (e25_6 j hj)
  have e26_7 := fun j hj => (((q7).2 31 (by omega)).1 j).trans (e26_6 j hj)
  have hc7 := fun j hj => (hc6 j hj).off q7 (by omega)
  have e28_7 : ∀ j, j = 1 → ldI m7 33 j = ldI m 142 j := fun j hj => by rw [hj]; exact hn7.trans (hW.2.2.2.2.2.1.1.trans hC.2.2.2.1.1).symm
  have e29_7 : ∀ j, j < nE f → ldI m7 34 j = ldI m 143 j := fun j hj => (hr7 j hj).trans ((o6.2 143 (by omega)).1 j)
  show Wp g mX10_copyFrom _ _ _ 104 _ [] _ Q
  refine r_aload_n dX10_copyFrom_104 rfl ?_
  refine r_getRc dX10_copyFrom_105 fgX10_47 rfl (by exact k_5 hF7) (by exact r_5_7 hF7) ?_
  refine r_aload_n dX10_copyFrom_108 rfl ?_
  refine r_getRc dX10_copyFrom_109 fgX10_47 rfl (by exact k_114 hF7) (by exact r_114_7 hF7) ?_
  refine r_callV1 (ci := 5) (d1 := 1) (c1 := 0) (n1 := 0) dX10_copyFrom_112 mvX10_67 rfl ⟨(Nat.le_of_ble_eq_true rfl), rfl⟩ (Nat.le_of_ble_eq_true rfl) (by exact Nat.le_of_ble_eq_true rfl) (by exact k_35 hF7) ?_
  refine S_cpRow (a := 35) (b := 144) (z := 6) (z2 := 6) (n := nM f) (by exact k_35 hF7) (by exact r_35_0 hF7) (by exact k_36 hF7) (by omega) (by exact k_144 hF7) (by exact r_144_0 hF7) (by exact k_145 hF7) (by omega) (((o7.2 144 (by omega)).1 1).trans (hW.2.2.2.2.2.2.1.1.trans hC.2.2.2.2.1.1)) (by omega) (by omega) (by omega) (fun m8 q8 hn8 hr8 => ?_)
  have o8 := (o7).tr ((q8).wd (by omega) (by omega))
  have hF8 := Fx_of o8.1 hF
  have e0_8 := fun j hj => (((q8).2 5 (by omega)).1 j).trans (e0_7 j hj)
  have e20_8 := fun j hj => (((q8).2 25 (by omega)).1 j).trans (e20_7 j hj)
  have e21_8 := fun j hj => (((q8).2 26 (by omega)).1 j).trans (e21_7 j hj)
  have e22_8 := fun j hj => (((q8).2 27 (by omega)).1 j).trans (e22_7 j hj)
  have e23_8 := fun j hj => (((q8).2 28 (by omega)).1 j).trans (e23_7 j hj)
  have e24_8 := fun j hj => (((q8).2 29 (by omega)).1 j).trans (e24_7 j hj)
  have e25_8 := fun j hj => (((q8).2 30 (by omega)).1 j).trans (e25_7 j hj)
  have e26_8 := fun j hj => (((q8).2 31 (by omega)).1 j).trans (e26_7 j hj)
  have e28_8 := fun j hj => (((q8).2 33 (by omega)).1 j).trans (e28_7 j hj)
  have e29_8 := fun j hj => (((q8).2 34 (by omega)).1 j).trans (e29_7 j hj)
  have hc8 := fun j hj => (hc7 j hj).off q8 (by omega)
  have e30_8 : ∀ j, j = 1 → ldI m8 35 j = ldI m 144 j := fun j hj => by rw [hj]; exact hn8.trans (hW.2.2.2.2.2.2.1.1.trans hC.2.2.2.2.1.1).symm
  have e31_8 : ∀ j, j < nM f → ldI m8 36 j = ldI m 145 j := fun j hj => (hr8 j hj).trans ((o7.2 145 (by omega)).1 j)
  show Wp g mX10_copyFrom _ _ _ 115 _ [] _ Q
  refine r_aload_n dX10_copyFrom_115 rfl ?_
  refine r_getRc dX10_copyFrom_116 fgX10_50 rfl (by exact k_5 hF8) (by exact r_5_8 hF8) ?_
  refine r_aload_n dX10_copyFrom_119 rfl ?_
  refine r_getRc dX10_copyFrom_120 fgX10_50 rfl (by exact k_114 hF8) (by exact r_114_8 hF8) ?_
  refine r_callV1 (ci := 5) (d1 := 1) (c1 := 0) (n1 := 0) dX10_copyFrom_123 mvX10_67 rfl ⟨(Nat.le_of_ble_eq_true rfl), rfl⟩ (Nat.le_of_ble_eq_true rfl) (by exact Nat.le_of_ble_eq_true rfl) (by exact k_37 hF8) ?_
  refine S_cpRow (a := 37) (b := 146) (z := 8) (z2 := 8) (n := nFo f) (by exact k_37 hF8) (by exact r_37_0 hF8) (by exact k_38 hF8) (by omega) (by exact k_146 hF8) (by exact r_146_0 hF8) (by exact k_147 hF8) (by omega) (((o8.2 146 (by omega)).1 1).trans (hW.2.2.2.2.2.2.2.1.trans hC.2.2.2.2.2.1)) (by omega) (by omega) (by omega) (fun m9 q9 hn9 hr9 => ?_)
  have o9 := (o8).tr ((q9).wd (by omega) (by omega))
  have hF9 := Fx_of o9.1 hF
  have e0_9 := fun j hj => (((q9).2 5 (by omega)).1 j).trans (e0_8 j hj)
  have e20_9 := fun j hj => (((q9).2 25 (by omega)).1 j).trans (e20_8 j hj)
  have e21_9 := fun j hj => (((q9).2 26 (by omega)).1 j).trans (e21_8 j hj)
  have e22_9 := fun j hj => (((q9).2 27 (by omega)).1 j).trans (e22_8 j hj)
  have e23_9 := fun j hj => (((q9).2 28 (by omega)).1 j).trans (e23_8 j hj)
  have e24_9 := fun j hj => (((q9).2 29 (by omega)).1 j).trans (e24_8 j hj)
  have e25_9 := fun j hj => (((q9).2 30 (by omega)).1 j).trans (e25_8 j hj)
  have e26_9 := fun j hj => (((q9).2 31 (by omega)).1 j).trans (e26_8 j hj)
  have e28_9 := fun j hj => (((q9).2 33 (by omega)).1 j).trans (e28_8 j hj)
  have e29_9 := fun j hj => (((q9).2 34 (by omega)).1 j).trans (e29_8 j hj)
  have e30_9 := fun j hj => (((q9).2 35 (by omega)).1 j).trans (e30_8 j hj)
  have e31_9 := fun j hj => (((q9).2 36 (by omega)).1 j).trans (e31_8 j hj)
  have hc9 := fun j hj => (hc8 j hj).off q9 (by omega)
  have e32_9 : ∀ j, j = 1 → ldI m9 37 j = ldI m 146 j := fun j hj => by rw [hj]; exact hn9.trans (hW.2.2.2.2.2.2.2.1.trans hC.2.2.2.2.2.1).symm
  have e33_9 : ∀ j, j < nFo f → ldI m9 38 j = ldI m 147 j := fun j hj => (hr9 j hj).trans ((o8.2 147 (by omega)).1 j)
  show Wp g mX10_copyFrom _ _ _ 126 _ [] _ Q
  refine r_aload_n dX10_copyFrom_126 rfl ?_
  refine r_getRc dX10_copyFrom_127 fgX10_53 rfl (by exact k_5 hF9) (by exact r_5_9 hF9) ?_
  refine r_aload_n dX10_copyFrom_130 rfl ?_
  refine r_getRc dX10_copyFrom_131 fgX10_53 rfl (by exact k_114 hF9) (by exact r_114_9 hF9) ?_
  refine r_callV1 (ci := 5) (d1 := 1) (c1 := 0) (n1 := 0) dX10_copyFrom_134 mvX10_67 rfl ⟨(Nat.le_of_ble_eq_true rfl), rfl⟩ (Nat.le_of_ble_eq_true rfl) (by exact Nat.le_of_ble_eq_true rfl) (by exact k_39 hF9) ?_
  refine S_cpRow (a := 39) (b := 148) (z := 8) (z2 := 8) (n := nFo f) (by exact k_39 hF9) (by exact r_39_0 hF9) (by exact k_40 hF9) (by omega) (by exact k_148 hF9) (by exact r_148_0 hF9) (by exact k_149 hF9) (by omega) (((o9.2 148 (by omega)).1 1).trans (hW.2.2.2.2.2.2.2.2.1.trans hC.2.2.2.2.2.1)) (by omega) (by omega) (by omega) (fun m10 q10 hn10 hr10 => ?_)
  have o10 := (o9).tr ((q10).wd (by omega) (by omega))
  have hF10 := Fx_of o10.1 hF
  have e0_10 := fun j hj => (((q10).2 5 (by omega)).1 j).trans (e0_9 j hj)
  have e20_10 := fun j hj => (((q10).2 25 (by omega)).1 j).trans (e20_9 j hj)
  have e21_10 := fun j hj => (((q10).2 26 (by omega)).1 j).trans (e21_9 j hj)
  have e22_10 := fun j hj => (((q10).2 27 (by omega)).1 j).trans (e22_9 j hj)
  have e23_10 := fun j hj => (((q10).2 28 (by omega)).1 j).trans (e23_9 j hj)
  have e24_10 := fun j hj => (((q10).2 29 (by omega)).1 j).trans (e24_9 j hj)
  have e25_10 := fun j hj => (((q10).2 30 (by omega)).1 j).trans (e25_9 j hj)
  have e26_10 := fun j hj => (((q10).2 31 (by omega)).1 j).trans (e26_9 j hj)
  have e28_10 := fun j hj => (((q10).2 33 (by omega)).1 j).trans (e28_9 j hj)
  have e29_10 := fun j hj => (((q10).2 34 (by omega)).1 j).trans (e29_9 j hj)
  have e30_10 := fun j hj => (((q10).2 35 (by omega)).1 j).trans (e30_9 j hj)
  have e31_10 := fun j hj => (((q10).2 36 (by omega)).1 j).trans (e31_9 j hj)
  have e32_10 := fun j hj => (((q10).2 37 (by omega)).1 j).trans (e32_9 j hj)
  have e33_10 := fun j hj => (((q10).2 38 (by omega)).1 j).trans (e33_9 j hj)
  have hc10 := fun j hj => (hc9 j hj).off q10 (by omega)
  have e34_10 : ∀ j, j = 1 → ldI m10 39 j = ldI m 148 j := fun j hj => by rw [hj]; exact hn10.trans (hW.2.2.2.2.2.2.2.2.1.trans hC.2.2.2.2.2.1).symm
  have e35_10 : ∀ j, j < nFo f → ldI m10 40 j = ldI m 149 j := fun j hj => (hr10 j hj).trans ((o9.2 149 (by omega)).1 j)
  show Wp g mX10_copyFrom _ _ _ 137 _ [] _ Q
  refine r_aload_n dX10_copyFrom_137 rfl ?_
  refine r_aload_n dX10_copyFrom_138 rfl ?_
  refine r_getI dX10_copyFrom_139 fgX10_56 rfl (by exact k_114 hF10) ?_
  refine r_putI dX10_copyFrom_142 (fpX10_56 _ rfl) rfl (by exact k_5 hF10) ⟨rfl, rfl⟩ ?_
  refine r_return dX10_copyFrom_145 rfl ?_
  have qz : Off 5 5 m10 (stI m10 5 10 (ldI m10 114 10)) := Off.rf.stI (by omega) (by omega)
  have tz : ∀ a, 5 < a → ∀ k, ldI (stI m10 5 10 (ldI m10 114 10)) a k = ldI m10 a k := fun a ha k => (qz.2 a (by omega)).1 k
  have oz : Off 5 40 m (stI m10 5 10 (ldI m10 114 10)) := o10.tr (qz.wd (by omega) (by omega))
  refine k (stI m10 5 10 (ldI m10 114 10)) oz ⟨⟨(ld_n (by omega) (e0_10 1 rfl)).trans hW.1.1, ld_s.trans (((o10.2 114 (by omega)).1 10).trans hW.1.2)⟩, fun i hi => ?_, ⟨(tz _ (by omega) 1).trans ((e20_10 1 rfl).trans hW.2.2.1.1), (tz _ (by omega) 1).trans ((e22_10 1 rfl).trans hW.2.2.1.2.1), fun j hj => ⟨(tz _ (by omega) j).trans ((e21_10 j hj).trans (hW.2.2.1.2.2 j hj).1), (tz _ (by omega) j).trans ((e23_10 j hj).trans (hW.2.2.1.2.2 j hj).2)⟩⟩, fun j hj => (tz _ (by omega) j).trans ((e24_10 j hj).trans (hW.2.2.2.1 j hj)), ⟨(tz _ (by omega) 1).trans ((e25_10 1 rfl).trans hW.2.2.2.2.1.1), fun j hj => (tz _ (by omega) j).trans ((e26_10 j hj).trans (hW.2.2.2.2.1.2 j hj))⟩, ⟨(tz _ (by omega) 1).trans ((e28_10 1 rfl).trans hW.2.2.2.2.2.1.1), fun j hj => (tz _ (by omega) j).trans ((e29_10 j hj).trans (hW.2.2.2.2.2.1.2 j hj))⟩, ⟨(tz _ (by omega) 1).trans ((e30_10 1 rfl).trans hW.2.2.2.2.2.2.1.1), fun j hj => (tz _ (by omega) j).trans ((e31_10 j hj).trans (hW.2.2.2.2.2.2.1.2 j hj))⟩, (tz _ (by omega) 1).trans ((e32_10 1 rfl).trans hW.2.2.2.2.2.2.2.1), (tz _ (by omega) 1).trans ((e34_10 1 rfl).trans hW.2.2.2.2.2.2.2.2.1), fun j hj => ⟨(tz _ (by omega) j).trans ((e33_10 j hj).trans (hW.2.2.2.2.2.2.2.2.2 j hj).1), (tz _ (by omega) j).trans ((e35_10 j hj).trans (hW.2.2.2.2.2.2.2.2.2 j hj).2)⟩⟩
  have hci := (hc10 i (by omega)).off qz (by omega)
  have wi := hW.2.1 i hi
  have s12 := hS12 i hi
  exact ⟨hci.1.trans wi.1, hci.2.1.trans wi.2.1, fun s hs => ⟨(hci.2.2 s (by omega)).1.trans (wi.2.2 s hs).1, (hci.2.2 s (by omega)).2.trans (wi.2.2 s hs).2⟩⟩
theorem L_wc3_0 {g : GG} {m : MM} {Q : Out → Prop} (hF : Fx m)  (kx : ∀ (m1 : MM), (Off 114 149 m m1 ∧ ∀ j, j < 6 → HC 114 5 m m1 j) → Wp g mX10_copyFrom 5 0 0 41 [.ref 114, .ref 5, .int (nI 6)] [] (m1) Q) : ∀ (t i : Nat) (m1 : MM), i + t = 6 → (Off 114 149 m m1 ∧ ∀ j, j < i → HC 114 5 m m1 j) → Wp g mX10_copyFrom 5 0 0 2 [.ref 114, .ref 5, .int (nI i)] [] (m1) Q := by
  intro t
  induction t with
  | zero =>
    intro i m1 hi hI
    have hi : i = 6 := by omega
    subst hi
    have hF1 := Fx_of hI.1.1 hF
    refine r_iload_n dX10_copyFrom_2 rfl ?_
    refine r_aload_n dX10_copyFrom_3 rfl ?_
    refine r_getRc dX10_copyFrom_4 fgX10_11 rfl (by exact k_114 hF1) (by exact r_114_0 hF1) ?_
    refine r_alen _ dX10_copyFrom_7 ⟨Nat.le_of_ble_eq_true rfl, Nat.le_of_ble_eq_true rfl⟩ (by exact k_115 hF1) rfl ?_
    refine r_icmp_ge 41 dX10_copyFrom_8 rfl (fun h1 => ?_) (fun h1 => ?_)
    ·
      exact kx _ hI
    ·
      exact absurd (by decide) h1
  | succ t ih =>
    intro i m1 hi hI
    have hin : i < 6 := by omega
    have hF1 := Fx_of hI.1.1 hF
    refine r_iload_n dX10_copyFrom_2 rfl ?_
    refine r_aload_n dX10_copyFrom_3 rfl ?_
    refine r_getRc dX10_copyFrom_4 fgX10_11 rfl (by exact k_114 hF1) (by exact r_114_0 hF1) ?_
    refine r_alen _ dX10_copyFrom_7 ⟨Nat.le_of_ble_eq_true rfl, Nat.le_of_ble_eq_true rfl⟩ (by exact k_115 hF1) rfl ?_
    refine r_icmp_ge 41 dX10_copyFrom_8 rfl (fun h1 => ?_) (fun h1 => ?_)
    ·
      exact absurd h1 (nI_ge (a := i) (b := 6) hin (by omega))
    ·
      refine r_iload_n dX10_copyFrom_11 rfl ?_
      refine r_aload_n dX10_copyFrom_12 rfl ?_
      refine r_getRc dX10_copyFrom_13 fgX10_11 rfl (by exact k_5 hF1) (by exact r_5_0 hF1) ?_
      refine r_alen _ dX10_copyFrom_16 ⟨Nat.le_of_ble_eq_true rfl, Nat.le_of_ble_eq_true rfl⟩ (by exact k_6 hF1) rfl ?_
      refine r_icmp_ge 41 dX10_copyFrom_17 rfl (fun h2 => ?_) (fun h2 => ?_)
      ·
        exact absurd h2 (nI_ge (a := i) (b := 6) hin (by omega))
      ·
        refine r_aload_n dX10_copyFrom_20 rfl ?_
        refine r_getRc dX10_copyFrom_21 fgX10_11 rfl (by exact k_114 hF1) (by exact r_114_0 hF1) ?_
        refine r_iload_n dX10_copyFrom_24 rfl ?_
        refine r_aaloadc (b := 116 + 3 * i) dX10_copyFrom_25 ⟨Nat.le_of_ble_eq_true rfl, Nat.le_of_ble_eq_true rfl⟩ (by exact k_115 hF1) (vin (by omega) (by omega)) (by rw [nI_cl i (by omega)]; exact hu3_r hF1 (by omega)) ?_
        refine r_aload_n dX10_copyFrom_26 rfl ?_
        refine r_getRc dX10_copyFrom_27 fgX10_11 rfl (by exact k_5 hF1) (by exact r_5_0 hF1) ?_
        refine r_iload_n dX10_copyFrom_30 rfl ?_
        refine r_aaloadc (b := 7 + 3 * i) dX10_copyFrom_31 ⟨Nat.le_of_ble_eq_true rfl, Nat.le_of_ble_eq_true rfl⟩ (by exact k_6 hF1) (vin (by omega) (by omega)) (by rw [nI_cl i (by omega)]; exact hu0_r hF1 (by omega)) ?_
        refine r_callV1 (ci := 1) (d1 := 4) (c1 := 0) (n1 := 0) dX10_copyFrom_32 mvX10_60 rfl ⟨(Nat.le_of_ble_eq_true rfl), rfl⟩ (Nat.le_of_ble_eq_true rfl) (by exact Nat.le_of_ble_eq_true rfl) (by exact hu3_k hF1 (by omega)) ?_
        refine S_X1_copyFrom (by exact hu3_k hF1 (by omega)) (by exact hb3_r hF1 (by omega)) (by exact hb3_k hF1 (by omega)) (by exact hd3_r hF1 (by omega)) (by exact hd3_k hF1 (by omega)) (by exact hu0_k hF1 (by omega)) (by exact hb0_r hF1 (by omega)) (by exact hb0_k hF1 (by omega)) (by exact hd0_r hF1 (by omega)) (by exact hd0_k hF1 (by omega)) ⟨eq_false (by omega), eq_false (by omega), eq_false (by omega), eq_false (by omega), eq_false (by omega), eq_false (by omega), eq_false (by omega)⟩ ?_
        show Wp g mX10_copyFrom _ _ _ 35 _ [] _ Q
        refine ic_2 (1) dX10_copyFrom_35 rfl rfl (Nat.le_of_ble_eq_true rfl) ?_
        refine r_goto 2 dX10_copyFrom_38 rfl ?_
        rw [nI_1 i]
        have q9 : Off (116 + 3 * i) (116 + 3 * i + 2) m1 (hcM m1 (116 + 3 * i) (117 + 3 * i) (118 + 3 * i) (7 + 3 * i) (8 + 3 * i) (9 + 3 * i)) := by rw [show 117 + 3 * i = 116 + 3 * i + 1 from by omega, show 118 + 3 * i = 116 + 3 * i + 2 from by omega]; exact hcM_off
        refine ih (i + 1) _ (by omega) ⟨hI.1.tr (q9.wd (by omega) (by omega)), fun j hj => ?_⟩
        by_cases q : j = i
        · subst q; exact hcM_hc (w := 114) (v := 5) (by omega) (by omega) hI.1
        · exact (hI.2 j (by omega)).off q9 (by omega)
theorem S_shc3_0 {g : GG} {m : MM} {Q : Out → Prop} (hF : Fx m) {n : Nat} (hn : ldI m 33 1 = nI n) (h20 : n ≤ 20) (k : ∀ m', Off 142 143 m m' → ldI m' 142 1 = nI n → (∀ j, j < n → ldI m' 143 j = ldI m 34 j) → Q (.inl none, m')) : Cl g 2 0 0 mX8_copyFrom [.ref 141, .ref 32] m Q := by
  refine Cl.of rfl (by decide) (Nat.le_of_ble_eq_true rfl) ?_
  show Wp g mX8_copyFrom 2 0 0 0 [.ref 141, .ref 32] [] m Q
  refine r_aload_n dX8_copyFrom_0 rfl ?_
  refine r_getRc dX8_copyFrom_1 fgX8_14 rfl (by exact k_141 hF) (by exact r_141_0 hF) ?_
  refine r_aload_n dX8_copyFrom_4 rfl ?_
  refine r_getRc dX8_copyFrom_5 fgX8_14 rfl (by exact k_32 hF) (by exact r_32_0 hF) ?_
  refine r_callV1 (ci := 5) (d1 := 1) (c1 := 0) (n1 := 0) dX8_copyFrom_8 mvX8_64 rfl ⟨(Nat.le_of_ble_eq_true rfl), rfl⟩ (Nat.le_of_ble_eq_true rfl) (by exact Nat.le_of_ble_eq_true rfl) (by exact k_142 hF) ?_
  refine S_cpRow (a := 142) (b := 33) (z := 20) (z2 := 20) (n := n) (by exact k_142 hF) (by exact r_142_0 hF) (by exact k_143 hF) (by omega) (by exact k_33 hF) (by exact r_33_0 hF) (by exact k_34 hF) (by omega) hn (by omega) (by omega) (by omega) (fun m1 q1 hn1 hr1 => ?_)
  show Wp g mX8_copyFrom _ _ _ 11 _ [] _ Q
  refine r_return dX8_copyFrom_11 rfl ?_
  exact k m1 q1 hn1 hr1
theorem S_wcopy3_0 {g : GG} {m : MM} {Q : Out → Prop} (hF : Fx m) {f : Nat → Int32} (hC : VC f) (hW : Wd f 5 m) (hw4 : ldI m 29 4 = 0 ∨ ldI m 29 4 = 1) (hS12 : ∀ i, i < nH f → nS f i ≤ 12) (k : ∀ m', Off 114 149 m m' → Wd f 114 m' → Q (.inl none, m')) : Cl g 5 0 0 mX10_copyFrom [.ref 114, .ref 5] m Q := by
  refine Cl.of rfl (by decide) (Nat.le_of_ble_eq_true rfl) ?_
  show Wp g mX10_copyFrom 5 0 0 0 [.ref 114, .ref 5, .retAddr 0] [] m Q
  have b0 := hC.1.2
  have b1 := hC.2.1.2
  have b2 := hC.2.2.1.2
  have b3 := hC.2.2.2.1.2
  have b4 := hC.2.2.2.2.1.2
  have b5 := hC.2.2.2.2.2.2
  refine r_iconst (0) dX10_copyFrom_0 rfl ?_
  refine si_2 dX10_copyFrom_1 rfl (Nat.le_of_ble_eq_true rfl) ?_
  refine L_wc3_0 hF (fun m1 hI => ?_) 6 0 m (by omega) ⟨Off.rf, fun j hj => absurd hj (by omega)⟩
  have o1 := hI.1
  have hc1 := hI.2
  have hF1 := Fx_of o1.1 hF
  refine r_aload_n dX10_copyFrom_41 rfl ?_
  refine r_aload_n dX10_copyFrom_42 rfl ?_
  refine r_getI dX10_copyFrom_43 fgX10_64 rfl (by exact k_5 hF1) ?_
  refine r_putI dX10_copyFrom_46 (fpX10_64 _ rfl) rfl (by exact k_114 hF1) ⟨rfl, rfl⟩ ?_
  generalize hm2 : stI m1 114 1 (ldI m1 5 1) = m2
  have q2 : Off 114 114 m1 m2 := hm2 ▸ Off.rf.stI (by omega) (by omega)
  have o2 := (o1).tr ((q2).wd (by omega) (by omega))
  have hF2 := Fx_of o2.1 hF
  have hc2 := fun j hj => (hc1 j hj).off q2 (by omega)
  have e0_2 : ∀ j, j = 1 → ldI m2 114 j = ldI m 5 j := fun j hj => by rw [hj, ← hm2]; exact ld_s.trans ((o1.2 5 (by omega)).1 1)
  refine r_aload_n dX10_copyFrom_49 rfl ?_
  refine r_getRc dX10_copyFrom_50 fgX10_23 rfl (by exact k_114 hF2) (by exact r_114_2 hF2) ?_
  refine r_aload_n dX10_copyFrom_53 rfl ?_
  refine r_getRc dX10_copyFrom_54 fgX10_23 rfl (by exact k_5 hF2) (by exact r_5_2 hF2) ?_
  refine r_callV1 (ci := 5) (d1 := 1) (c1 := 0) (n1 := 0) dX10_copyFrom_57 mvX10_67 rfl ⟨(Nat.le_of_ble_eq_true rfl), rfl⟩ (Nat.le_of_ble_eq_true rfl) (by exact Nat.le_of_ble_eq_true rfl) (by exact k_134 hF2) ?_
  refine S_cpRow (a := 134) (b := 25) (z := 4) (z2 := 4) (n := nT f) (by exact k_134 hF2) (by exact r_134_0 hF2) (by exact k_135 hF2) (by omega) (by exact k_25 hF2) (by exact r_25_0 hF2) (by exact k_26 hF2) (by omega) (((o2.2 25 (by omega)).1 1).trans (hW.2.2.1.1.trans hC.2.1.1)) (by omega) (by omega) (by omega) (fun m3 q3 hn3 hr3 => ?_)
  have o3 := (o2).tr ((q3).wd (by omega) (by omega))
  have hF3 := Fx_of o3.1 hF
  have e0_3 := fun j hj => (((q3).2 114 (by omega)).1 j).trans (e0_2 j hj)
  have hc3 := fun j hj => (hc2 j hj).off q3 (by omega)
  have e20_3 : ∀ j, j = 1 → ldI m3 134 j = ldI m 25 j := fun j hj => by rw [hj]; exact hn3.trans (hW.2.2.1.1.trans hC.2.1.1).symm
  have e21_3 : ∀ j, j < nT f → ldI m3 135 j = ldI m 26 j := fun j hj => (hr3 j hj).trans ((o2.2 26 (by omega)).1 j)
  show Wp g mX10_copyFrom _ _ _ 60 _ [] _ Q
  refine r_aload_n dX10_copyFrom_60 rfl ?_
  refine r_getRc dX10_copyFrom_61 fgX10_27 rfl (by exact k_114 hF3) (by exact r_114_3 hF3) ?_
  refine r_aload_n dX10_copyFrom_64 rfl ?_
  refine r_getRc dX10_copyFrom_65 fgX10_27 rfl (by exact k_5 hF3) (by exact r_5_3 hF3) ?_
  refine r_callV1 (ci := 5) (d1 := 1) (c1 := 0) (n1 := 0) dX10_copyFrom_68 mvX10_67 rfl ⟨(Nat.le_of_ble_eq_true rfl), rfl⟩ (Nat.le_of_ble_eq_true rfl) (by exact Nat.le_of_ble_eq_true rfl) (by exact k_136 hF3) ?_
  refine S_cpRow (a := 136) (b := 27) (z := 4) (z2 := 4) (n := nT f) (by exact k_136 hF3) (by exact r_136_0 hF3) (by exact k_137 hF3) (by omega) (by exact k_27 hF3) (by exact r_27_0 hF3) (by exact k_28 hF3) (by omega) (((o3.2 27 (by omega)).1 1).trans (hW.2.2.1.2.1.trans hC.2.1.1)) (by omega) (by omega) (by omega) (fun m4 q4 hn4 hr4 => ?_)
  have o4 := (o3).tr ((q4).wd (by omega) (by omega))
  have hF4 := Fx_of o4.1 hF
  have e0_4 := fun j hj => (((q4).2 114 (by omega)).1 j).trans (e0_3 j hj)
  have e20_4 := fun j hj => (((q4).2 134 (by omega)).1 j).trans (e20_3 j hj)
  have e21_4 := fun j hj => (((q4).2 135 (by omega)).1 j).trans (e21_3 j hj)
  have hc4 := fun j hj => (hc3 j hj).off q4 (by omega)
  have e22_4 : ∀ j, j = 1 → ldI m4 136 j = ldI m 27 j := fun j hj => by rw [hj]; exact hn4.trans (hW.2.2.1.2.1.trans hC.2.1.1).symm
  have e23_4 : ∀ j, j < nT f → ldI m4 137 j = ldI m 28 j := fun j hj => (hr4 j hj).trans ((o3.2 28 (by omega)).1 j)
  show Wp g mX10_copyFrom _ _ _ 71 _ [] _ Q
  refine r_aload_n dX10_copyFrom_71 rfl ?_
  refine r_getRc dX10_copyFrom_72 fgX10_33 rfl (by exact k_114 hF4) (by exact r_114_4 hF4) ?_
  refine r_aload_n dX10_copyFrom_75 rfl ?_
  refine r_getRc dX10_copyFrom_76 fgX10_33 rfl (by exact k_5 hF4) (by exact r_5_4 hF4) ?_
  refine r_callV1 (ci := 6) (d1 := 1) (c1 := 0) (n1 := 0) dX10_copyFrom_79 mvX10_70 rfl ⟨(Nat.le_of_ble_eq_true rfl), rfl⟩ (Nat.le_of_ble_eq_true rfl) (by exact Nat.le_of_ble_eq_true rfl) (by exact k_138 hF4) ?_
  refine S_cpRun (a := 138) (b := 29) (by exact k_138 hF4) (by exact k_29 hF4) (by decide) (by rw [(o4.2 29 (by omega)).1 4]; exact hw4) (fun m5 q5 hr5 => ?_)
  have o5 := (o4).tr ((q5).wd (by omega) (by omega))
  have hF5 := Fx_of o5.1 hF
  have e0_5 := fun j hj => (((q5).2 114 (by omega)).1 j).trans (e0_4 j hj)
  have e20_5 := fun j hj => (((q5).2 134 (by omega)).1 j).trans (e20_4 j hj)
  have e21_5 := fun j hj => (((q5).2 135 (by omega)).1 j).trans (e21_4 j hj)
  have e22_5 := fun j hj => (((q5).2 136 (by omega)).1 j).trans (e22_4 j hj)
  have e23_5 := fun j hj => (((q5).2 137 (by omega)).1 j).trans (e23_4 j hj)
  have hc5 := fun j hj => (hc4 j hj).off q5 (by omega)
  have e24_5 : ∀ j, j < 6 → ldI m5 138 j = ldI m 29 j := fun j hj => (hr5 j hj).trans ((o4.2 29 (by omega)).1 j)
  show Wp g mX10_copyFrom _ _ _ 82 _ [] _ Q
  refine r_aload_n dX10_copyFrom_82 rfl ?_
  refine r_getRc dX10_copyFrom_83 fgX10_37 rfl (by exact k_114 hF5) (by exact r_114_5 hF5) ?_
  refine r_aload_n dX10_copyFrom_86 rfl ?_
  refine r_getRc dX10_copyFrom_87 fgX10_37 rfl (by exact k_5 hF5) (by exact r_5_5 hF5) ?_
  refine r_callV1 (ci := 5) (d1 := 1) (c1 := 0) (n1 := 0) dX10_copyFrom_90 mvX10_67 rfl ⟨(Nat.le_of_ble_eq_true rfl), rfl⟩ (Nat.le_of_ble_eq_true rfl) (by exact Nat.le_of_ble_eq_true rfl) (by exact k_139 hF5) ?_
  refine S_cpRow (a := 139) (b := 30) (z := 420) (z2 := 420) (n := 7 * nR f) (by exact k_139 hF5) (by exact r_139_0 hF5) (by exact k_140 hF5) (by omega) (by exact k_30 hF5) (by exact r_30_0 hF5) (by exact k_31 hF5) (by omega) (((o5.2 30 (by omega)).1 1).trans (hW.2.2.2.2.1.1)) (by omega) (by omega) (by omega) (fun m6 q6 hn6 hr6 => ?_)
  have o6 := (o5).tr ((q6).wd (by omega) (by omega))
  have hF6 := Fx_of o6.1 hF
  have e0_6 := fun j hj => (((q6).2 114 (by omega)).1 j).trans (e0_5 j hj)
  have e20_6 := fun j hj => (((q6).2 134 (by omega)).1 j).trans (e20_5 j hj)
  have e21_6 := fun j hj => (((q6).2 135 (by omega)).1 j).trans (e21_5 j hj)
  have e22_6 := fun j hj => (((q6).2 136 (by omega)).1 j).trans (e22_5 j hj)
  have e23_6 := fun j hj => (((q6).2 137 (by omega)).1 j).trans (e23_5 j hj)
  have e24_6 := fun j hj => (((q6).2 138 (by omega)).1 j).trans (e24_5 j hj)
  have hc6 := fun j hj => (hc5 j hj).off q6 (by omega)
  have e25_6 : ∀ j, j = 1 → ldI m6 139 j = ldI m 30 j := fun j hj => by rw [hj]; exact hn6.trans (hW.2.2.2.2.1.1).symm
  have e26_6 : ∀ j, j < 7 * nR f → ldI m6 140 j = ldI m 31 j := fun j hj => (hr6 j hj).trans ((o5.2 31 (by omega)).1 j)
  show Wp g mX10_copyFrom _ _ _ 93 _ [] _ Q
  refine r_aload_n dX10_copyFrom_93 rfl ?_
  refine r_getRc dX10_copyFrom_94 fgX10_43 rfl (by exact k_114 hF6) (by exact r_114_6 hF6) ?_
  refine r_aload_n dX10_copyFrom_97 rfl ?_
  refine r_getRc dX10_copyFrom_98 fgX10_43 rfl (by exact k_5 hF6) (by exact r_5_6 hF6) ?_
  refine r_callV1 (ci := 8) (d1 := 2) (c1 := 0) (n1 := 0) dX10_copyFrom_101 mvX10_73 rfl ⟨(Nat.le_of_ble_eq_true rfl), rfl⟩ (Nat.le_of_ble_eq_true rfl) (by exact Nat.le_of_ble_eq_true rfl) (by exact k_141 hF6) ?_
  refine S_shc3_0 hF6 (n := nE f) (((o6.2 33 (by omega)).1 1).trans (hW.2.2.2.2.2.1.1.trans hC.2.2.2.1.1)) (by omega) (fun m7 q7 hn7 hr7 => ?_)
  have o7 := (o6).tr ((q7).wd (by omega) (by omega))
  have hF7 := Fx_of o7.1 hF
  have e0_7 := fun j hj => (((q7).2 114 (by omega)).1 j).trans (e0_6 j hj)
  have e20_7 := fun j hj => (((q7).2 134 (by omega)).1 j).trans (e20_6 j hj)
  have e21_7 := fun j hj => (((q7).2 135 (by omega)).1 j).trans (e21_6 j hj)
  have e22_7 := fun j hj => (((q7).2 136 (by omega)).1 j).trans (e22_6 j hj)
  have e23_7 := fun j hj => (((q7).2 137 (by omega)).1 j).trans (e23_6 j hj)
  have e24_7 := fun j hj => (((q7).2 138 (by omega)).1 j).trans (e24_6 j hj)
  have e25_7 := fun j hj => (((q7).2 139 (by omega)).1 j).trans (e25_6 j hj)
  have e26_7 := fun j hj => (((q7).2 140 (by omega)).1 j).trans (e26_6 j hj)
  have hc7 := fun j hj => (hc6 j hj).off q7 (by omega)
  have e28_7 : ∀ j, j = 1 → ldI m7 142 j = ldI m 33 j := fun j hj => by rw [hj]; exact hn7.trans (hW.2.2.2.2.2.1.1.trans hC.2.2.2.1.1).symm
  have e29_7 : ∀ j, j < nE f → ldI m7 143 j = ldI m 34 j := fun j hj => (hr7 j hj).trans ((o6.2 34 (by omega)).1 j)
  show Wp g mX10_copyFrom _ _ _ 104 _ [] _ Q
  refine r_aload_n dX10_copyFrom_104 rfl ?_
  refine r_getRc dX10_copyFrom_105 fgX10_47 rfl (by exact k_114 hF7) (by exact r_114_7 hF7) ?_
  refine r_aload_n dX10_copyFrom_108 rfl ?_
  refine r_getRc dX10_copyFrom_109 fgX10_47 rfl (by exact k_5 hF7) (by exact r_5_7 hF7) ?_
  refine r_callV1 (ci := 5) (d1 := 1) (c1 := 0) (n1 := 0) dX10_copyFrom_112 mvX10_67 rfl ⟨(Nat.le_of_ble_eq_true rfl), rfl⟩ (Nat.le_of_ble_eq_true rfl) (by exact Nat.le_of_ble_eq_true rfl) (by exact k_144 hF7) ?_
  refine S_cpRow (a := 144) (b := 35) (z := 6) (z2 := 6) (n := nM f) (by exact k_144 hF7) (by exact r_144_0 hF7) (by exact k_145 hF7) (by omega) (by exact k_35 hF7) (by exact r_35_0 hF7) (by exact k_36 hF7) (by omega) (((o7.2 35 (by omega)).1 1).trans (hW.2.2.2.2.2.2.1.1.trans hC.2.2.2.2.1.1)) (by omega) (by omega) (by omega) (fun m8 q8 hn8 hr8 => ?_)
  have o8 := (o7).tr ((q8).wd (by omega) (by omega))
  have hF8 := Fx_of o8.1 hF
  have e0_8 := fun j hj => (((q8).2 114 (by omega)).1 j).trans (e0_7 j hj)
  have e20_8 := fun j hj => (((q8).2 134 (by omega)).1 j).trans (e20_7 j hj)
  have e21_8 := fun j hj => (((q8).2 135 (by omega)).1 j).trans (e21_7 j hj)
  have e22_8 := fun j hj => (((q8).2 136 (by omega)).1 j).trans (e22_7 j hj)
  have e23_8 := fun j hj => (((q8).2 137 (by omega)).1 j).trans (e23_7 j hj)
  have e24_8 := fun j hj => (((q8).2 138 (by omega)).1 j).trans (e24_7 j hj)
  have e25_8 := fun j hj => (((q8).2 139 (by omega)).1 j).trans (e25_7 j hj)
  have e26_8 := fun j hj => (((q8).2 140 (by omega)).1 j).trans (e26_7 j hj)
  have e28_8 := fun j hj => (((q8).2 142 (by omega)).1 j).trans (e28_7 j hj)
  have e29_8 := fun j hj => (((q8).2 143 (by omega)).1 j).trans (e29_7 j hj)
  have hc8 := fun j hj => (hc7 j hj).off q8 (by omega)
  have e30_8 : ∀ j, j = 1 → ldI m8 144 j = ldI m 35 j := fun j hj => by rw [hj]; exact hn8.trans (hW.2.2.2.2.2.2.1.1.trans hC.2.2.2.2.1.1).symm
  have e31_8 : ∀ j, j < nM f → ldI m8 145 j = ldI m 36 j := fun j hj => (hr8 j hj).trans ((o7.2 36 (by omega)).1 j)
  show Wp g mX10_copyFrom _ _ _ 115 _ [] _ Q
  refine r_aload_n dX10_copyFrom_115 rfl ?_
  refine r_getRc dX10_copyFrom_116 fgX10_50 rfl (by exact k_114 hF8) (by exact r_114_8 hF8) ?_
  refine r_aload_n dX10_copyFrom_119 rfl ?_
  refine r_getRc dX10_copyFrom_120 fgX10_50 rfl (by exact k_5 hF8) (by exact r_5_8 hF8) ?_
  refine r_callV1 (ci := 5) (d1 := 1) (c1 := 0) (n1 := 0) dX10_copyFrom_123 mvX10_67 rfl ⟨(Nat.le_of_ble_eq_true rfl), rfl⟩ (Nat.le_of_ble_eq_true rfl) (by exact Nat.le_of_ble_eq_true rfl) (by exact k_146 hF8) ?_
  refine S_cpRow (a := 146) (b := 37) (z := 8) (z2 := 8) (n := nFo f) (by exact k_146 hF8) (by exact r_146_0 hF8) (by exact k_147 hF8) (by omega) (by exact k_37 hF8) (by exact r_37_0 hF8) (by exact k_38 hF8) (by omega) (((o8.2 37 (by omega)).1 1).trans (hW.2.2.2.2.2.2.2.1.trans hC.2.2.2.2.2.1)) (by omega) (by omega) (by omega) (fun m9 q9 hn9 hr9 => ?_)
  have o9 := (o8).tr ((q9).wd (by omega) (by omega))
  have hF9 := Fx_of o9.1 hF
  have e0_9 := fun j hj => (((q9).2 114 (by omega)).1 j).trans (e0_8 j hj)
  have e20_9 := fun j hj => (((q9).2 134 (by omega)).1 j).trans (e20_8 j hj)
  have e21_9 := fun j hj => (((q9).2 135 (by omega)).1 j).trans (e21_8 j hj)
  have e22_9 := fun j hj => (((q9).2 136 (by omega)).1 j).trans (e22_8 j hj)
  have e23_9 := fun j hj => (((q9).2 137 (by omega)).1 j).trans (e23_8 j hj)
  have e24_9 := fun j hj => (((q9).2 138 (by omega)).1 j).trans (e24_8 j hj)
  have e25_9 := fun j hj => (((q9).2 139 (by omega)).1 j).trans (e25_8 j hj)
  have e26_9 := fun j hj => (((q9).2 140 (by omega)).1 j).trans (e26_8 j hj)
  have e28_9 := fun j hj => (((q9).2 142 (by omega)).1 j).trans (e28_8 j hj)
  have e29_9 := fun j hj => (((q9).2 143 (by omega)).1 j).trans (e29_8 j hj)
  have e30_9 := fun j hj => (((q9).2 144 (by omega)).1 j).trans (e30_8 j hj)
  have e31_9 := fun j hj => (((q9).2 145 (by omega)).1 j).trans (e31_8 j hj)
  have hc9 := fun j hj => (hc8 j hj).off q9 (by omega)
  have e32_9 : ∀ j, j = 1 → ldI m9 146 j = ldI m 37 j := fun j hj => by rw [hj]; exact hn9.trans (hW.2.2.2.2.2.2.2.1.trans hC.2.2.2.2.2.1).symm
  have e33_9 : ∀ j, j < nFo f → ldI m9 147 j = ldI m 38 j := fun j hj => (hr9 j hj).trans ((o8.2 38 (by omega)).1 j)
  show Wp g mX10_copyFrom _ _ _ 126 _ [] _ Q
  refine r_aload_n dX10_copyFrom_126 rfl ?_
  refine r_getRc dX10_copyFrom_127 fgX10_53 rfl (by exact k_114 hF9) (by exact r_114_9 hF9) ?_
  refine r_aload_n dX10_copyFrom_130 rfl ?_
  refine r_getRc dX10_copyFrom_131 fgX10_53 rfl (by exact k_5 hF9) (by exact r_5_9 hF9) ?_
  refine r_callV1 (ci := 5) (d1 := 1) (c1 := 0) (n1 := 0) dX10_copyFrom_134 mvX10_67 rfl ⟨(Nat.le_of_ble_eq_true rfl), rfl⟩ (Nat.le_of_ble_eq_true rfl) (by exact Nat.le_of_ble_eq_true rfl) (by exact k_148 hF9) ?_
  refine S_cpRow (a := 148) (b := 39) (z := 8) (z2 := 8) (n := nFo f) (by exact k_148 hF9) (by exact r_148_0 hF9) (by exact k_149 hF9) (by omega) (by exact k_39 hF9) (by exact r_39_0 hF9) (by exact k_40 hF9) (by omega) (((o9.2 39 (by omega)).1 1).trans (hW.2.2.2.2.2.2.2.2.1.trans hC.2.2.2.2.2.1)) (by omega) (by omega) (by omega) (fun m10 q10 hn10 hr10 => ?_)
  have o10 := (o9).tr ((q10).wd (by omega) (by omega))
  have hF10 := Fx_of o10.1 hF
  have e0_10 := fun j hj => (((q10).2 114 (by omega)).1 j).trans (e0_9 j hj)
  have e20_10 := fun j hj => (((q10).2 134 (by omega)).1 j).trans (e20_9 j hj)
  have e21_10 := fun j hj => (((q10).2 135 (by omega)).1 j).trans (e21_9 j hj)
  have e22_10 := fun j hj => (((q10).2 136 (by omega)).1 j).trans (e22_9 j hj)
  have e23_10 := fun j hj => (((q10).2 137 (by omega)).1 j).trans (e23_9 j hj)
  have e24_10 := fun j hj => (((q10).2 138 (by omega)).1 j).trans (e24_9 j hj)
  have e25_10 := fun j hj => (((q10).2 139 (by omega)).1 j).trans (e25_9 j hj)
  have e26_10 := fun j hj => (((q10).2 140 (by omega)).1 j).trans (e26_9 j hj)
  have e28_10 := fun j hj => (((q10).2 142 (by omega)).1 j).trans (e28_9 j hj)
  have e29_10 := fun j hj => (((q10).2 143 (by omega)).1 j).trans (e29_9 j hj)
  have e30_10 := fun j hj => (((q10).2 144 (by omega)).1 j).trans (e30_9 j hj)
  have e31_10 := fun j hj => (((q10).2 145 (by omega)).1 j).trans (e31_9 j hj)
  have e32_10 := fun j hj => (((q10).2 146 (by omega)).1 j).trans (e32_9 j hj)
  have e33_10 := fun j hj => (((q10).2 147 (by omega)).1 j).trans (e33_9 j hj)
  have hc10 := fun j hj => (hc9 j hj).off q10 (by omega)
  have e34_10 : ∀ j, j = 1 → ldI m10 148 j = ldI m 39 j := fun j hj => by rw [hj]; exact hn10.trans (hW.2.2.2.2.2.2.2.2.1.trans hC.2.2.2.2.2.1).symm
  have e35_10 : ∀ j, j < nFo f → ldI m10 149 j = ldI m 40 j := fun j hj => (hr10 j hj).trans ((o9.2 40 (by omega)).1 j)
  show Wp g mX10_copyFrom _ _ _ 137 _ [] _ Q
  refine r_aload_n dX10_copyFrom_137 rfl ?_
  refine r_aload_n dX10_copyFrom_138 rfl ?_
  refine r_getI dX10_copyFrom_139 fgX10_56 rfl (by exact k_5 hF10) ?_
  refine r_putI dX10_copyFrom_142 (fpX10_56 _ rfl) rfl (by exact k_114 hF10) ⟨rfl, rfl⟩ ?_
  refine r_return dX10_copyFrom_145 rfl ?_
  have qz : Off 114 114 m10 (stI m10 114 10 (ldI m10 5 10)) := Off.rf.stI (by omega) (by omega)
  have tz : ∀ a, 114 < a → ∀ k, ldI (stI m10 114 10 (ldI m10 5 10)) a k = ldI m10 a k := fun a ha k => (qz.2 a (by omega)).1 k
  have oz : Off 114 149 m (stI m10 114 10 (ldI m10 5 10)) := o10.tr (qz.wd (by omega) (by omega))
  refine k (stI m10 114 10 (ldI m10 5 10)) oz ⟨⟨(ld_n (by omega) (e0_10 1 rfl)).trans hW.1.1, ld_s.trans (((o10.2 5 (by omega)).1 10).trans hW.1.2)⟩, fun i hi => ?_, ⟨(tz _ (by omega) 1).trans ((e20_10 1 rfl).trans hW.2.2.1.1), (tz _ (by omega) 1).trans ((e22_10 1 rfl).trans hW.2.2.1.2.1), fun j hj => ⟨(tz _ (by omega) j).trans ((e21_10 j hj).trans (hW.2.2.1.2.2 j hj).1), (tz _ (by omega) j).trans ((e23_10 j hj).trans (hW.2.2.1.2.2 j hj).2)⟩⟩, fun j hj => (tz _ (by omega) j).trans ((e24_10 j hj).trans (hW.2.2.2.1 j hj)), ⟨(tz _ (by omega) 1).trans ((e25_10 1 rfl).trans hW.2.2.2.2.1.1), fun j hj => (tz _ (by omega) j).trans ((e26_10 j hj).trans (hW.2.2.2.2.1.2 j hj))⟩, ⟨(tz _ (by omega) 1).trans ((e28_10 1 rfl).trans hW.2.2.2.2.2.1.1), fun j hj => (tz _ (by omega) j).trans ((e29_10 j hj).trans (hW.2.2.2.2.2.1.2 j hj))⟩, ⟨(tz _ (by omega) 1).trans ((e30_10 1 rfl).trans hW.2.2.2.2.2.2.1.1), fun j hj => (tz _ (by omega) j).trans ((e31_10 j hj).trans (hW.2.2.2.2.2.2.1.2 j hj))⟩, (tz _ (by omega) 1).trans ((e32_10 1 rfl).trans hW.2.2.2.2.2.2.2.1), (tz _ (by omega) 1).trans ((e34_10 1 rfl).trans hW.2.2.2.2.2.2.2.2.1), fun j hj => ⟨(tz _ (by omega) j).trans ((e33_10 j hj).trans (hW.2.2.2.2.2.2.2.2.2 j hj).1), (tz _ (by omega) j).trans ((e35_10 j hj).trans (hW.2.2.2.2.2.2.2.2.2 j hj).2)⟩⟩
  have hci := (hc10 i (by omega)).off qz (by omega)
  have wi := hW.2.1 i hi
  have s12 := hS12 i hi
  exact ⟨hci.1.trans wi.1, hci.2.1.trans wi.2.1, fun s hs => ⟨(hci.2.2 s (by omega)).1.trans (wi.2.2 s hs).1, (hci.2.2 s (by omega)).2.trans (wi.2.2 s hs).2⟩⟩
