def NmK (V : Nat → Int64) (p : Nat → Bool) (M : MM) : Prop := ∀ j, p j = true → ldL M 178 j = V j
theorem NmK.st {V : Nat → Int64} {p : Nat → Bool} {M : MM} {v : Int64} (h : NmK V p M) (j : Nat) (hv : v = V j) : NmK V (fun i => p i || decide (i = j)) (stL M 178 j v) := fun i hi => by
  show (if 178 = 178 ∧ i = j then v else ldL M 178 i) = V i
  by_cases q : i = j
  · rw [if_pos ⟨rfl, q⟩, q]; exact hv
  · rw [if_neg (fun z => q z.2)]
    refine h i ?_
    simp only [decide_eq_false q, Bool.or_false] at hi; exact hi
theorem sd_none {f : Nat → Int32} {s : Int32} : (0 : Int64) = sdV f s (-1) := by
  unfold sdV
  rw [atV_out (Or.inl (by decide)), atV_out (Or.inl (by decide))]; rfl
theorem wd_nz {f : Nat → Int32} {t : Nat} (hV : Vf f) (ht : t < nT f) : ¬ (f (19 + t)).toInt64 * (f (23 + t)).toInt64 = 0 := fun q => by
  obtain ⟨a, c⟩ := hV.2.2.1 t ht
  have m := mulB (x := (f (19 + t)).toInt64) (y := (f (23 + t)).toInt64) (A := 200) (B := 200) (by rw [Int32.toInt_toInt64]; exact ⟨by have := a.1; omega, a.2⟩) (by rw [Int32.toInt_toInt64]; exact ⟨by have := c.1; omega, c.2⟩) (by omega)
  have z := congrArg Int64.toInt q
  rw [m.1, Int32.toInt_toInt64, Int32.toInt_toInt64] at z
  have y : (0 : Int64).toInt = 0 := rfl
  have : 1 * 1 ≤ (f (19 + t)).toInt * (f (23 + t)).toInt := Int.mul_le_mul a.1 c.1 (by omega) (by have := a.1; omega)
  omega
theorem sd_some {f : Nat → Int32} {s : Int32} {t : Nat} (hV : Vf f) (ht : t < nT f) : 100 * s.toInt64 / ((f (19 + t)).toInt64 * (f (23 + t)).toInt64) = sdV f s (nI t) := by
  unfold sdV ovF
  rw [atV_in ht (by have := hV.1.2.1.2; omega), atV_in ht (by have := hV.1.2.1.2; omega), if_neg (wd_nz hV ht)]
theorem S_tells {g : GG} {m : MM} {Q : Out → Prop} {f : Nat → Int32} {fs : Nat → Nat → Int32} {ic : Nat} {tp : Nat → Int32} {tn : Nat} {pl : Int32} {n1 n2 : Nat} {ts : Nat → (Nat → Int32) × Nat} (hV : Vf f) (hI : RI f fs ic tp tn pl n1 n2 ts m) {h : Nat} (hh : h < nH f) {k sp tk wi mo : Int32} (hk : iv 1 40 k) (htk : tk = -1 ∨ ∃ t, tk = nI t ∧ t < nT f) (hwi : wi = 0 ∨ wi = 1) (kk : ∀ m', Sw m m' → (∀ j, j < 10 → ldL m' 178 j = NmH f h (r6 (nI h) k sp tk wi mo) j) → Q (.inl none, m')) : Cl g 1 0 0 mX12_tellsNames [.ref 167, .int (nI h), .int k, .int sp, .int tk, .int wi, .int mo] m Q := by
  have hF0 := hI.1
  have hL := (hV.2.1 h hh).1
  have ml := mLn_b hL hk
  have e0 : ¬ (mdH f h k 0).toInt64 = 0 := fun q => by have z := congrArg Int64.toInt q; rw [Int32.toInt_toInt64] at z; have y : (0 : Int64).toInt = 0 := rfl; have w := ml.1.1; have w2 : (mdH f h k 0).toInt = (mLn (f (7 + h)) k).toInt := rfl; omega
  have hK0 : NmK (NmH f h (r6 (nI h) k sp tk wi mo)) (fun _ => false) m := fun j hj => Bool.noConfusion hj
  have s0 : Sw m m := Sw.rf
  refine Cl.of rfl (by decide) (Nat.le_of_ble_eq_true rfl) ?_
  show Wp g mX12_tellsNames 1 0 0 0 [.ref 167, .int (nI h), .int k, .int sp, .int tk, .int wi, .int mo, .retAddr 0] [] m Q
  refine r_iconst (0) dX12_tellsNames_0 rfl ?_
  refine si_7 dX12_tellsNames_1 (by first | rfl | assumption) (Nat.le_of_ble_eq_true rfl) ?_
  refine r_iload dX12_tellsNames_3 rfl ?_
  refine r_iconst (5) dX12_tellsNames_5 rfl ?_
  refine r_icmp_ge 41 dX12_tellsNames_6 rfl (fun hz => absurd hz (by decide)) (fun _ => ?_)
  refine r_aload_n dX12_tellsNames_9 rfl ?_
  refine r_getRc dX12_tellsNames_10 fgX12_27 rfl (by exact k_167 (s0.1.F hF0)) (by exact r_167_16 (s0.1.F hF0)) ?_
  refine r_iload dX12_tellsNames_13 rfl ?_
  refine r_if_ne 22 dX12_tellsNames_15 rfl (fun hz => absurd hz (by decide)) (fun _ => ?_)
  refine r_iconst (0) dX12_tellsNames_18 rfl ?_
  refine r_goto 26 dX12_tellsNames_19 rfl ?_
  refine r_aload_n dX12_tellsNames_26 rfl ?_
  refine r_iload_n dX12_tellsNames_27 rfl ?_
  refine r_iload_n dX12_tellsNames_28 rfl ?_
  refine r_iload dX12_tellsNames_29 rfl ?_
  refine r_callV3 (ci := 12) (d1 := 0) (c1 := 0) (n1 := 0) dX12_tellsNames_31 mvX12_101 rfl ⟨(Nat.le_of_ble_eq_true rfl), rfl⟩ (Nat.le_of_ble_eq_true rfl) (by exact Nat.le_of_ble_eq_true rfl) (by exact k_167 (s0.1.F hF0)) ?_
  refine S_rmod0 hV (hI.sc s0.1) hh hk ?_
  show Wp g mX12_tellsNames _ _ _ 34 _ (_ :: _) _ Q
  refine r_lastoren (0) rfl dX12_tellsNames_34 (by exact k_178 (s0.1.F hF0)) (vin (j := 0) (by omega) (by omega)) ?_
  have hK1 := hK0.st 0 (v := (mdH f h k 0).toInt64) rfl
  have s1 := s0.l (a := 178) (k := 0) (v := (mdH f h k 0).toInt64) (by omega) (by omega)
  change Wp g mX12_tellsNames _ _ _ _ _ _ (stL m 178 0 ((mdH f h k 0).toInt64)) Q
  generalize stL m 178 0 ((mdH f h k 0).toInt64) = M1 at hK1 s1 ⊢
  refine ic_7 (1) dX12_tellsNames_35 rfl rfl (Nat.le_of_ble_eq_true rfl) ?_
  refine r_goto 3 dX12_tellsNames_38 rfl ?_
  rw [show ((0 : Int32) + 1) = 1 from rfl]
  refine r_iload dX12_tellsNames_3 rfl ?_
  refine r_iconst (5) dX12_tellsNames_5 rfl ?_
  refine r_icmp_ge 41 dX12_tellsNames_6 rfl (fun hz => absurd hz (by decide)) (fun _ => ?_)
  refine r_aload_n dX12_tellsNames_9 rfl ?_
  refine r_getRc dX12_tellsNames_10 fgX12_27 rfl (by exact k_167 (s1.1.F hF0)) (by exact r_167_16 (s1.1.F hF0)) ?_
  refine r_iload dX12_tellsNames_13 rfl ?_
  refine r_if_ne 22 dX12_tellsNames_15 rfl (fun _ => ?_) (fun hz => absurd hz (by decide))
  refine r_iload dX12_tellsNames_22 rfl ?_
  refine r_iconst (1) dX12_tellsNames_24 rfl ?_
  refine r_iadd dX12_tellsNames_25 ?_
  refine r_aload_n dX12_tellsNames_26 rfl ?_
  refine r_iload_n dX12_tellsNames_27 rfl ?_
  refine r_iload_n dX12_tellsNames_28 rfl ?_
  refine r_iload dX12_tellsNames_29 rfl ?_
  refine r_callV3 (ci := 12) (d1 := 0) (c1 := 0) (n1 := 0) dX12_tellsNames_31 mvX12_101 rfl ⟨(Nat.le_of_ble_eq_true rfl), rfl⟩ (Nat.le_of_ble_eq_true rfl) (by exact Nat.le_of_ble_eq_true rfl) (by exact k_167 (s1.1.F hF0)) ?_
  refine S_rmod1 hV (hI.sc s1.1) hh hk ?_
  show Wp g mX12_tellsNames _ _ _ 34 _ (_ :: _) _ Q
  refine r_lastoren (2) rfl dX12_tellsNames_34 (by exact k_178 (s1.1.F hF0)) (vin (j := 2) (by omega) (by omega)) ?_
  have hK2 := hK1.st 2 (v := (mdH f h k 1).toInt64) rfl
  have s2 := s1.l (a := 178) (k := 2) (v := (mdH f h k 1).toInt64) (by omega) (by omega)
  change Wp g mX12_tellsNames _ _ _ _ _ _ (stL M1 178 2 ((mdH f h k 1).toInt64)) Q
  generalize stL M1 178 2 ((mdH f h k 1).toInt64) = M2 at hK2 s2 ⊢
  refine ic_7 (1) dX12_tellsNames_35 rfl rfl (Nat.le_of_ble_eq_true rfl) ?_
  refine r_goto 3 dX12_tellsNames_38 rfl ?_
  rw [show ((1 : Int32) + 1) = 2 from rfl]
  refine r_iload dX12_tellsNames_3 rfl ?_
  refine r_iconst (5) dX12_tellsNames_5 rfl ?_
  refine r_icmp_ge 41 dX12_tellsNames_6 rfl (fun hz => absurd hz (by decide)) (fun _ => ?_)
  refine r_aload_n dX12_tellsNames_9 rfl ?_
  refine r_getRc dX12_tellsNames_10 fgX12_27 rfl (by exact k_167 (s2.1.F hF0)) (by exact r_167_16 (s2.1.F hF0)) ?_
  refine r_iload dX12_tellsNames_13 rfl ?_
  refine r_if_ne 22 dX12_tellsNames_15 rfl (fun _ => ?_) (fun hz => absurd hz (by decide))
  refine r_iload dX12_tellsNames_22 rfl ?_
  refine r_iconst (1) dX12_tellsNames_24 rfl ?_
  refine r_iadd dX12_tellsNames_25 ?_
  refine r_aload_n dX12_tellsNames_26 rfl ?_
  refine r_iload_n dX12_tellsNames_27 rfl ?_
  refine r_iload_n dX12_tellsNames_28 rfl ?_
  refine r_iload dX12_tellsNames_29 rfl ?_
  refine r_callV3 (ci := 12) (d1 := 0) (c1 := 0) (n1 := 0) dX12_tellsNames_31 mvX12_101 rfl ⟨(Nat.le_of_ble_eq_true rfl), rfl⟩ (Nat.le_of_ble_eq_true rfl) (by exact Nat.le_of_ble_eq_true rfl) (by exact k_167 (s2.1.F hF0)) ?_
  refine S_rmod2 hV (hI.sc s2.1) hh hk ?_
  show Wp g mX12_tellsNames _ _ _ 34 _ (_ :: _) _ Q
  refine r_lastoren (3) rfl dX12_tellsNames_34 (by exact k_178 (s2.1.F hF0)) (vin (j := 3) (by omega) (by omega)) ?_
  have hK3 := hK2.st 3 (v := (mdH f h k 2).toInt64) rfl
  have s3 := s2.l (a := 178) (k := 3) (v := (mdH f h k 2).toInt64) (by omega) (by omega)
  change Wp g mX12_tellsNames _ _ _ _ _ _ (stL M2 178 3 ((mdH f h k 2).toInt64)) Q
  generalize stL M2 178 3 ((mdH f h k 2).toInt64) = M3 at hK3 s3 ⊢
  refine ic_7 (1) dX12_tellsNames_35 rfl rfl (Nat.le_of_ble_eq_true rfl) ?_
  refine r_goto 3 dX12_tellsNames_38 rfl ?_
  rw [show ((2 : Int32) + 1) = 3 from rfl]
  refine r_iload dX12_tellsNames_3 rfl ?_
  refine r_iconst (5) dX12_tellsNames_5 rfl ?_
  refine r_icmp_ge 41 dX12_tellsNames_6 rfl (fun hz => absurd hz (by decide)) (fun _ => ?_)
  refine r_aload_n dX12_tellsNames_9 rfl ?_
  refine r_getRc dX12_tellsNames_10 fgX12_27 rfl (by exact k_167 (s3.1.F hF0)) (by exact r_167_16 (s3.1.F hF0)) ?_
  refine r_iload dX12_tellsNames_13 rfl ?_
  refine r_if_ne 22 dX12_tellsNames_15 rfl (fun _ => ?_) (fun hz => absurd hz (by decide))
  refine r_iload dX12_tellsNames_22 rfl ?_
  refine r_iconst (1) dX12_tellsNames_24 rfl ?_
  refine r_iadd dX12_tellsNames_25 ?_
  refine r_aload_n dX12_tellsNames_26 rfl ?_
  refine r_iload_n dX12_tellsNames_27 rfl ?_
  refine r_iload_n dX12_tellsNames_28 rfl ?_
  refine r_iload dX12_tellsNames_29 rfl ?_
  refine r_callV3 (ci := 12) (d1 := 0) (c1 := 0) (n1 := 0) dX12_tellsNames_31 mvX12_101 rfl ⟨(Nat.le_of_ble_eq_true rfl), rfl⟩ (Nat.le_of_ble_eq_true rfl) (by exact Nat.le_of_ble_eq_true rfl) (by exact k_167 (s3.1.F hF0)) ?_
  refine S_rmod3 hV (hI.sc s3.1) hh hk ?_
  show Wp g mX12_tellsNames _ _ _ 34 _ (_ :: _) _ Q
  refine r_lastoren (4) rfl dX12_tellsNames_34 (by exact k_178 (s3.1.F hF0)) (vin (j := 4) (by omega) (by omega)) ?_
  have hK4 := hK3.st 4 (v := (mdH f h k 3).toInt64) rfl
  have s4 := s3.l (a := 178) (k := 4) (v := (mdH f h k 3).toInt64) (by omega) (by omega)
  change Wp g mX12_tellsNames _ _ _ _ _ _ (stL M3 178 4 ((mdH f h k 3).toInt64)) Q
  generalize stL M3 178 4 ((mdH f h k 3).toInt64) = M4 at hK4 s4 ⊢
  refine ic_7 (1) dX12_tellsNames_35 rfl rfl (Nat.le_of_ble_eq_true rfl) ?_
  refine r_goto 3 dX12_tellsNames_38 rfl ?_
  rw [show ((3 : Int32) + 1) = 4 from rfl]
  refine r_iload dX12_tellsNames_3 rfl ?_
  refine r_iconst (5) dX12_tellsNames_5 rfl ?_
  refine r_icmp_ge 41 dX12_tellsNames_6 rfl (fun hz => absurd hz (by decide)) (fun _ => ?_)
  refine r_aload_n dX12_tellsNames_9 rfl ?_
  refine r_getRc dX12_tellsNames_10 fgX12_27 rfl (by exact k_167 (s4.1.F hF0)) (by exact r_167_16 (s4.1.F hF0)) ?_
  refine r_iload dX12_tellsNames_13 rfl ?_
  refine r_if_ne 22 dX12_tellsNames_15 rfl (fun _ => ?_) (fun hz => absurd hz (by decide))
  refine r_iload dX12_tellsNames_22 rfl ?_
  refine r_iconst (1) dX12_tellsNames_24 rfl ?_
  refine r_iadd dX12_tellsNames_25 ?_
  refine r_aload_n dX12_tellsNames_26 rfl ?_
  refine r_iload_n dX12_tellsNames_27 rfl ?_
  refine r_iload_n dX12_tellsNames_28 rfl ?_
  refine r_iload dX12_tellsNames_29 rfl ?_
  refine r_callV3 (ci := 12) (d1 := 0) (c1 := 0) (n1 := 0) dX12_tellsNames_31 mvX12_101 rfl ⟨(Nat.le_of_ble_eq_true rfl), rfl⟩ (Nat.le_of_ble_eq_true rfl) (by exact Nat.le_of_ble_eq_true rfl) (by exact k_167 (s4.1.F hF0)) ?_
  refine S_rmod4 hV (hI.sc s4.1) hh hk ?_
  show Wp g mX12_tellsNames _ _ _ 34 _ (_ :: _) _ Q
  refine r_lastoren (5) rfl dX12_tellsNames_34 (by exact k_178 (s4.1.F hF0)) (vin (j := 5) (by omega) (by omega)) ?_
  have hK5 := hK4.st 5 (v := (mdH f h k 4).toInt64) rfl
  have s5 := s4.l (a := 178) (k := 5) (v := (mdH f h k 4).toInt64) (by omega) (by omega)
  change Wp g mX12_tellsNames _ _ _ _ _ _ (stL M4 178 5 ((mdH f h k 4).toInt64)) Q
  generalize stL M4 178 5 ((mdH f h k 4).toInt64) = M5 at hK5 s5 ⊢
  refine ic_7 (1) dX12_tellsNames_35 rfl rfl (Nat.le_of_ble_eq_true rfl) ?_
  refine r_goto 3 dX12_tellsNames_38 rfl ?_
  rw [show ((4 : Int32) + 1) = 5 from rfl]
  refine r_iload dX12_tellsNames_3 rfl ?_
  refine r_iconst (5) dX12_tellsNames_5 rfl ?_
  refine r_icmp_ge 41 dX12_tellsNames_6 rfl (fun _ => ?_) (fun hz => absurd hz (by decide))
  refine r_aload_n dX12_tellsNames_41 rfl ?_
  refine r_getRc dX12_tellsNames_42 fgX12_27 rfl (by exact k_167 (s5.1.F hF0)) (by exact r_167_16 (s5.1.F hF0)) ?_
  refine r_iconst (1) dX12_tellsNames_45 rfl ?_
  refine r_iload_n dX12_tellsNames_46 rfl ?_
  refine r_i2l dX12_tellsNames_47 ?_
  refine r_lastoren (1) rfl dX12_tellsNames_48 (by exact k_178 (s5.1.F hF0)) (vin (j := 1) (by omega) (by omega)) ?_
  have hK6 := hK5.st 1 (v := sp.toInt64) rfl
  have s6 := s5.l (a := 178) (k := 1) (v := sp.toInt64) (by omega) (by omega)
  change Wp g mX12_tellsNames _ _ _ _ _ _ (stL M5 178 1 (sp.toInt64)) Q
  generalize stL M5 178 1 (sp.toInt64) = M6 at hK6 s6 ⊢
  refine r_aload_n dX12_tellsNames_49 rfl ?_
  refine r_getRc dX12_tellsNames_50 fgX12_27 rfl (by exact k_167 (s6.1.F hF0)) (by exact r_167_16 (s6.1.F hF0)) ?_
  refine r_bipush (6) dX12_tellsNames_53 rfl ?_
  refine r_ldc2 (100) dX12_tellsNames_55 ctX12_97 ?_
  refine r_iload_n dX12_tellsNames_58 rfl ?_
  refine r_i2l dX12_tellsNames_59 ?_
  refine r_lmul dX12_tellsNames_60 ?_
  refine r_iload_n dX12_tellsNames_61 rfl ?_
  refine r_i2l dX12_tellsNames_62 ?_
  refine r_lmul dX12_tellsNames_63 ?_
  refine r_aload_n dX12_tellsNames_64 rfl ?_
  refine r_getRc dX12_tellsNames_65 fgX12_27 rfl (by exact k_167 (s6.1.F hF0)) (by exact r_167_16 (s6.1.F hF0)) ?_
  refine r_iconst (0) dX12_tellsNames_68 rfl ?_
  refine r_laloadc ((mdH f h k 0).toInt64) dX12_tellsNames_69 (by exact k_178 (s6.1.F hF0)) (vin (j := 0) (by omega) (by omega)) (by exact hK6 0 rfl) ?_
  refine r_ldiv dX12_tellsNames_70 e0 ?_
  refine r_lastoren (6) rfl dX12_tellsNames_71 (by exact k_178 (s6.1.F hF0)) (vin (j := 6) (by omega) (by omega)) ?_
  have hK7 := hK6.st 6 (v := 100 * sp.toInt64 * sp.toInt64 / (mdH f h k 0).toInt64) (show _ = ovF _ _ from (if_neg e0).symm)
  have s7 := s6.l (a := 178) (k := 6) (v := 100 * sp.toInt64 * sp.toInt64 / (mdH f h k 0).toInt64) (by omega) (by omega)
  change Wp g mX12_tellsNames _ _ _ _ _ _ (stL M6 178 6 (100 * sp.toInt64 * sp.toInt64 / (mdH f h k 0).toInt64)) Q
  generalize stL M6 178 6 (100 * sp.toInt64 * sp.toInt64 / (mdH f h k 0).toInt64) = M7 at hK7 s7 ⊢
  refine r_aload_n dX12_tellsNames_72 rfl ?_
  refine r_getRc dX12_tellsNames_73 fgX12_27 rfl (by exact k_167 (s7.1.F hF0)) (by exact r_167_16 (s7.1.F hF0)) ?_
  refine r_bipush (7) dX12_tellsNames_76 rfl ?_
  refine r_iload dX12_tellsNames_78 rfl ?_
  refine r_i2l dX12_tellsNames_80 ?_
  refine r_lastoren (7) rfl dX12_tellsNames_81 (by exact k_178 (s7.1.F hF0)) (vin (j := 7) (by omega) (by omega)) ?_
  have hK8 := hK7.st 7 (v := wi.toInt64) (show _ = (if wi = 0 then (0 : Int64) else 1) from by rcases hwi with q | q <;> rw [q] <;> rfl)
  have s8 := s7.l (a := 178) (k := 7) (v := wi.toInt64) (by omega) (by omega)
  change Wp g mX12_tellsNames _ _ _ _ _ _ (stL M7 178 7 (wi.toInt64)) Q
  generalize stL M7 178 7 (wi.toInt64) = M8 at hK8 s8 ⊢
  refine r_aload_n dX12_tellsNames_82 rfl ?_
  refine r_getRc dX12_tellsNames_83 fgX12_27 rfl (by exact k_167 (s8.1.F hF0)) (by exact r_167_16 (s8.1.F hF0)) ?_
  refine r_bipush (8) dX12_tellsNames_86 rfl ?_
  refine r_iload dX12_tellsNames_88 rfl ?_
  refine r_iconst (-1) dX12_tellsNames_90 rfl ?_
  refine r_icmp_ne 98 dX12_tellsNames_91 rfl (fun htn => ?_) (fun htn => ?_)
  ·
    obtain ⟨t, rfl, ht⟩ := htk.resolve_left htn
    have ht4 := hV.1.2.1.2
    refine r_ldc2 (100) dX12_tellsNames_98 ctX12_97 ?_
    refine r_aload_n dX12_tellsNames_101 rfl ?_
    refine r_iload_n dX12_tellsNames_102 rfl ?_
    refine r_iload_n dX12_tellsNames_103 rfl ?_
    refine r_iconst (5) dX12_tellsNames_104 rfl ?_
    refine r_callV3 (ci := 12) (d1 := 0) (c1 := 0) (n1 := 0) dX12_tellsNames_105 mvX12_101 rfl ⟨(Nat.le_of_ble_eq_true rfl), rfl⟩ (Nat.le_of_ble_eq_true rfl) (by exact Nat.le_of_ble_eq_true rfl) (by exact k_167 (s8.1.F hF0)) ?_
    refine S_rmod5 hV (hI.sc s8.1) hh hk ?_
    show Wp g mX12_tellsNames _ _ _ 108 _ (_ :: _) _ Q
    refine r_lmul dX12_tellsNames_108 ?_
    refine r_aload_n dX12_tellsNames_109 rfl ?_
    refine r_getRc dX12_tellsNames_110 fgX12_46 rfl (by exact k_167 (s8.1.F hF0)) (by exact r_167_24 (s8.1.F hF0)) ?_
    refine r_iload dX12_tellsNames_113 rfl ?_
    refine r_ialoadc (f (19 + t)) dX12_tellsNames_115 (by exact k_196 (s8.1.F hF0)) (vin (by omega) (by omega)) (by rw [nI_cl _ (by omega)]; exact (hI.sc s8.1).2.1.at (by omega) (l_wid (by omega))) ?_
    refine r_i2l dX12_tellsNames_116 ?_
    refine r_aload_n dX12_tellsNames_117 rfl ?_
    refine r_getRc dX12_tellsNames_118 fgX12_49 rfl (by exact k_167 (s8.1.F hF0)) (by exact r_167_25 (s8.1.F hF0)) ?_
    refine r_iload dX12_tellsNames_121 rfl ?_
    refine r_ialoadc (f (23 + t)) dX12_tellsNames_123 (by exact k_197 (s8.1.F hF0)) (vin (by omega) (by omega)) (by rw [nI_cl _ (by omega)]; exact (hI.sc s8.1).2.1.at (by omega) (l_dep (by omega))) ?_
    refine r_i2l dX12_tellsNames_124 ?_
    refine r_lmul dX12_tellsNames_125 ?_
    refine r_ldiv dX12_tellsNames_126 (wd_nz hV ht) ?_
    refine r_lastoren (8) rfl dX12_tellsNames_127 (by exact k_178 (s8.1.F hF0)) (vin (j := 8) (by omega) (by omega)) ?_
    have hK9 := hK8.st 8 (v := 100 * (mdH f h k 5).toInt64 / ((f (19 + t)).toInt64 * (f (23 + t)).toInt64)) (sd_some hV ht)
    have s9 := s8.l (a := 178) (k := 8) (v := 100 * (mdH f h k 5).toInt64 / ((f (19 + t)).toInt64 * (f (23 + t)).toInt64)) (by omega) (by omega)
    change Wp g mX12_tellsNames _ _ _ _ _ _ (stL M8 178 8 (100 * (mdH f h k 5).toInt64 / ((f (19 + t)).toInt64 * (f (23 + t)).toInt64))) Q
    generalize stL M8 178 8 (100 * (mdH f h k 5).toInt64 / ((f (19 + t)).toInt64 * (f (23 + t)).toInt64)) = M9 at hK9 s9 ⊢
    refine r_aload_n dX12_tellsNames_128 rfl ?_
    refine r_getRc dX12_tellsNames_129 fgX12_27 rfl (by exact k_167 (s9.1.F hF0)) (by exact r_167_16 (s9.1.F hF0)) ?_
    refine r_bipush (9) dX12_tellsNames_132 rfl ?_
    refine r_iload dX12_tellsNames_134 rfl ?_
    refine r_i2l dX12_tellsNames_136 ?_
    refine r_lastoren (9) rfl dX12_tellsNames_137 (by exact k_178 (s9.1.F hF0)) (vin (j := 9) (by omega) (by omega)) ?_
    have hK10 := hK9.st 9 (v := mo.toInt64) rfl
    have s10 := s9.l (a := 178) (k := 9) (v := mo.toInt64) (by omega) (by omega)
    change Wp g mX12_tellsNames _ _ _ _ _ _ (stL M9 178 9 (mo.toInt64)) Q
    generalize stL M9 178 9 (mo.toInt64) = M10 at hK10 s10 ⊢
    refine r_return dX12_tellsNames_138 rfl ?_
    exact kk M10 s10 (fun j hj => hK10 j (by rcases j with _ | _ | _ | _ | _ | _ | _ | _ | _ | _ | j <;> first | rfl | omega))
  ·
    refine r_lconst (0) dX12_tellsNames_94 rfl ?_
    refine r_goto 127 dX12_tellsNames_95 rfl ?_
    refine r_lastoren (8) rfl dX12_tellsNames_127 (by exact k_178 (s8.1.F hF0)) (vin (j := 8) (by omega) (by omega)) ?_
    have hK9 := hK8.st 8 (v := 0) (by show (0 : Int64) = sdV f _ tk; rw [htn]; exact sd_none)
    have s9 := s8.l (a := 178) (k := 8) (v := 0) (by omega) (by omega)
    change Wp g mX12_tellsNames _ _ _ _ _ _ (stL M8 178 8 (0)) Q
    generalize stL M8 178 8 (0) = M9 at hK9 s9 ⊢
    refine r_aload_n dX12_tellsNames_128 rfl ?_
    refine r_getRc dX12_tellsNames_129 fgX12_27 rfl (by exact k_167 (s9.1.F hF0)) (by exact r_167_16 (s9.1.F hF0)) ?_
    refine r_bipush (9) dX12_tellsNames_132 rfl ?_
    refine r_iload dX12_tellsNames_134 rfl ?_
    refine r_i2l dX12_tellsNames_136 ?_
    refine r_lastoren (9) rfl dX12_tellsNames_137 (by exact k_178 (s9.1.F hF0)) (vin (j := 9) (by omega) (by omega)) ?_
    have hK10 := hK9.st 9 (v := mo.toInt64) rfl
    have s10 := s9.l (a := 178) (k := 9) (v := mo.toInt64) (by omega) (by omega)
    change Wp g mX12_tellsNames _ _ _ _ _ _ (stL M9 178 9 (mo.toInt64)) Q
    generalize stL M9 178 9 (mo.toInt64) = M10 at hK10 s10 ⊢
    refine r_return dX12_tellsNames_138 rfl ?_
    exact kk M10 s10 (fun j hj => hK10 j (by rcases j with _ | _ | _ | _ | _ | _ | _ | _ | _ | _ | j <;> first | rfl | omega))
theorem hd_r6 {f : Nat → Int32} : ∀ j, j < 6 → r6 (f 27) (f 28) (f 29) (f 30) (f 31) (f 32) j = hd f j
  | 0, _ => rfl
  | 1, _ => rfl
  | 2, _ => rfl
  | 3, _ => rfl
  | 4, _ => rfl
  | 5, _ => rfl
  | j + 6, h => absurd h (by omega)
theorem NmH_congr {f r r' : Nat → Int32} {h : Nat} (e : ∀ j, j < 6 → r j = r' j) : NmH f h r = NmH f h r' := by
  funext j
  unfold NmH
  rw [e 1 (by omega), e 2 (by omega), e 3 (by omega), e 4 (by omega), e 5 (by omega)]
theorem S_atHand {g : GG} {m : MM} {Q : Out → Prop} {f : Nat → Int32} {fs : Nat → Nat → Int32} {ic : Nat} {tp : Nat → Int32} {tn : Nat} {pl : Int32} {n1 n2 : Nat} {ts : Nat → (Nat → Int32) × Nat} (hV : Vf f) (hI : RI f fs ic tp tn pl n1 n2 ts m) (h0 : ¬ f 0 = 0) (kk : ∀ m', Sw m m' → (∀ j, j < 10 → ldL m' 178 j = NmH f (hH f) (hd f) j) → Q (.inl none, m')) : Cl g 2 0 0 mX12_atHand [.ref 167] m Q := by
  have hF := hI.1
  have hx := hH_of hV h0
  refine Cl.of rfl (by decide) (Nat.le_of_ble_eq_true rfl) ?_
  show Wp g mX12_atHand 2 0 0 0 [.ref 167] [] m Q
  refine r_aload_n dX12_atHand_0 rfl ?_
  refine r_aload_n dX12_atHand_1 rfl ?_
  refine r_getRc dX12_atHand_2 fgX12_52 rfl (by exact k_167 hF) (by exact r_167_26 hF) ?_
  refine r_iconst (0) dX12_atHand_5 rfl ?_
  refine r_ialoadc (f 27) dX12_atHand_6 (by exact k_198 hF) (vin (j := 0) (by omega) (by omega)) (by exact hI.2.1.at (by omega) (l_han (i := 0) (by omega))) ?_
  refine r_aload_n dX12_atHand_7 rfl ?_
  refine r_getRc dX12_atHand_8 fgX12_52 rfl (by exact k_167 hF) (by exact r_167_26 hF) ?_
  refine r_iconst (1) dX12_atHand_11 rfl ?_
  refine r_ialoadc (f 28) dX12_atHand_12 (by exact k_198 hF) (vin (j := 1) (by omega) (by omega)) (by exact hI.2.1.at (by omega) (l_han (i := 1) (by omega))) ?_
  refine r_aload_n dX12_atHand_13 rfl ?_
  refine r_getRc dX12_atHand_14 fgX12_52 rfl (by exact k_167 hF) (by exact r_167_26 hF) ?_
  refine r_iconst (2) dX12_atHand_17 rfl ?_
  refine r_ialoadc (f 29) dX12_atHand_18 (by exact k_198 hF) (vin (j := 2) (by omega) (by omega)) (by exact hI.2.1.at (by omega) (l_han (i := 2) (by omega))) ?_
  refine r_aload_n dX12_atHand_19 rfl ?_
  refine r_getRc dX12_atHand_20 fgX12_52 rfl (by exact k_167 hF) (by exact r_167_26 hF) ?_
  refine r_iconst (3) dX12_atHand_23 rfl ?_
  refine r_ialoadc (f 30) dX12_atHand_24 (by exact k_198 hF) (vin (j := 3) (by omega) (by omega)) (by exact hI.2.1.at (by omega) (l_han (i := 3) (by omega))) ?_
  refine r_aload_n dX12_atHand_25 rfl ?_
  refine r_getRc dX12_atHand_26 fgX12_52 rfl (by exact k_167 hF) (by exact r_167_26 hF) ?_
  refine r_iconst (4) dX12_atHand_29 rfl ?_
  refine r_ialoadc (f 31) dX12_atHand_30 (by exact k_198 hF) (vin (j := 4) (by omega) (by omega)) (by exact hI.2.1.at (by omega) (l_han (i := 4) (by omega))) ?_
  refine r_aload_n dX12_atHand_31 rfl ?_
  refine r_getRc dX12_atHand_32 fgX12_52 rfl (by exact k_167 hF) (by exact r_167_26 hF) ?_
  refine r_iconst (5) dX12_atHand_35 rfl ?_
  refine r_ialoadc (f 32) dX12_atHand_36 (by exact k_198 hF) (vin (j := 5) (by omega) (by omega)) (by exact hI.2.1.at (by omega) (l_han (i := 5) (by omega))) ?_
  refine r_callV6 (ci := 12) (d1 := 1) (c1 := 0) (n1 := 0) dX12_atHand_37 mvX12_245 rfl ⟨(Nat.le_of_ble_eq_true rfl), rfl⟩ (Nat.le_of_ble_eq_true rfl) (by exact Nat.le_of_ble_eq_true rfl) (by exact k_167 hF) ?_
  rw [hx.1]
  refine S_tells hV hI hx.2 hV.2.2.2.1.2.1 hV.2.2.2.1.2.2.2.1 hV.2.2.2.1.2.2.2.2.1 (fun m1 s1 n1 => ?_)
  show Wp g mX12_atHand _ _ _ 40 _ [] _ Q
  refine r_return dX12_atHand_40 rfl ?_
  exact kk m1 s1 (fun j hj => by rw [n1 j hj]; exact congrFun (NmH_congr (fun j hj => by rw [← hx.1]; exact hd_r6 j hj)) j)
theorem S_skinOf {g : GG} {m : MM} {Q : Out → Prop} {f : Nat → Int32} {fs : Nat → Nat → Int32} {ic : Nat} {tp : Nat → Int32} {tn : Nat} {pl : Int32} {n1 n2 : Nat} {ts : Nat → (Nat → Int32) × Nat} (hI : RI f fs ic tp tn pl n1 n2 ts m) {l : Nat} (hl : l < n1) {st : List Int32} {T : TL} (hx : texP (ts l).1 (ts l).2 false = .inr (st, T)) {N : Nat → Int64} (hN : ∀ j, j < 10 → ldL m 178 j = N j) (k : ∀ m', Sw m m' → (∀ j, j < 10 → ldL m' 178 j = N j) → (∀ j, j < 8 → ldL m' 179 j = capT (nI j) (T (cut N) j)) → Q (.inl (some (.long (skF (T (cut N))))), m')) : Cl g 33 0 0 mX12_skinOf [.ref 167, .int (nI l)] m Q := by
  have hF := hI.1
  refine Cl.of rfl (by decide) (Nat.le_of_ble_eq_true rfl) ?_
  show Wp g mX12_skinOf 33 0 0 0 [.ref 167, .int (nI l)] [] m Q
  refine r_aload_n dX12_skinOf_0 rfl ?_
  refine r_iload_n dX12_skinOf_1 rfl ?_
  refine r_callV1 (ci := 12) (d1 := 32) (c1 := 0) (n1 := 0) dX12_skinOf_2 mvX12_235 rfl ⟨(Nat.le_of_ble_eq_true rfl), rfl⟩ (Nat.le_of_ble_eq_true rfl) (by exact Nat.le_of_ble_eq_true rfl) (by exact k_167 hF) ?_
  refine S_asks0 hI hl hx hN (fun m1 s1 hN1 ht1 => ?_)
  have hF := s1.1.F hI.1
  show Wp g mX12_skinOf _ _ _ 5 _ [] _ Q
  refine r_aload_n dX12_skinOf_5 rfl ?_
  refine r_getRc dX12_skinOf_6 fgX12_31 rfl (by exact k_167 hF) (by exact r_167_17 hF) ?_
  refine r_iconst (0) dX12_skinOf_9 rfl ?_
  refine r_laloadc (capT 0 (T (cut N) 0)) dX12_skinOf_10 (by exact k_179 hF) (vin (j := 0) (by omega) (by omega)) (by exact ht1 0 (by omega)) ?_
  refine r_aload_n dX12_skinOf_11 rfl ?_
  refine r_getRc dX12_skinOf_12 fgX12_31 rfl (by exact k_167 hF) (by exact r_167_17 hF) ?_
  refine r_iconst (0) dX12_skinOf_15 rfl ?_
  refine r_laloadc (capT 0 (T (cut N) 0)) dX12_skinOf_16 (by exact k_179 hF) (vin (j := 0) (by omega) (by omega)) (by exact ht1 0 (by omega)) ?_
  refine r_aload_n dX12_skinOf_17 rfl ?_
  refine r_getRc dX12_skinOf_18 fgX12_31 rfl (by exact k_167 hF) (by exact r_167_17 hF) ?_
  refine r_iconst (4) dX12_skinOf_21 rfl ?_
  refine r_laloadc (capT 4 (T (cut N) 4)) dX12_skinOf_22 (by exact k_179 hF) (vin (j := 4) (by omega) (by omega)) (by exact ht1 4 (by omega)) ?_
  refine r_lmul dX12_skinOf_23 ?_
  refine r_ldc2 (100) dX12_skinOf_24 ctX12_97 ?_
  refine r_ldiv dX12_skinOf_27 (by decide) ?_
  refine r_ladd dX12_skinOf_28 ?_
  refine r_lreturn dX12_skinOf_29 rfl ?_
  exact k m1 s1 hN1 ht1
theorem S_allOf {g : GG} {m : MM} {Q : Out → Prop} {f : Nat → Int32} {fs : Nat → Nat → Int32} {ic : Nat} {tp : Nat → Int32} {tn : Nat} {pl : Int32} {n1 n2 : Nat} {ts : Nat → (Nat → Int32) × Nat} (hI : RI f fs ic tp tn pl n1 n2 ts m) {l : Nat} (hl : l < n1) {st : List Int32} {T : TL} (hx : texP (ts l).1 (ts l).2 false = .inr (st, T)) {N : Nat → Int64} (hN : ∀ j, j < 10 → ldL m 178 j = N j) (k : ∀ m', Sw m m' → (∀ j, j < 10 → ldL m' 178 j = N j) → (∀ j, j < 8 → ldL m' 179 j = capT (nI j) (T (cut N) j)) → Q (.inl (some (.long (alF (T (cut N))))), m')) : Cl g 34 0 0 mX12_allOf [.ref 167, .int (nI l)] m Q := by
  have hF := hI.1
  refine Cl.of rfl (by decide) (Nat.le_of_ble_eq_true rfl) ?_
  show Wp g mX12_allOf 34 0 0 0 [.ref 167, .int (nI l), .retAddr 0, .retAddr 0] [] m Q
  refine r_aload_n dX12_allOf_0 rfl ?_
  refine r_iload_n dX12_allOf_1 rfl ?_
  refine r_callV1 (ci := 12) (d1 := 33) (c1 := 0) (n1 := 0) dX12_allOf_2 mvX12_238 rfl ⟨(Nat.le_of_ble_eq_true rfl), rfl⟩ (Nat.le_of_ble_eq_true rfl) (by exact Nat.le_of_ble_eq_true rfl) (by exact k_167 hF) ?_
  refine S_skinOf hI hl hx hN (fun m1 s1 hN1 ht1 => ?_)
  have hF := s1.1.F hI.1
  show Wp g mX12_allOf _ _ _ 5 _ (_ :: _) _ Q
  refine sl_2 dX12_allOf_5 rfl (Nat.le_of_ble_eq_true rfl) ?_
  refine r_lload_n dX12_allOf_6 rfl ?_
  refine r_aload_n dX12_allOf_7 rfl ?_
  refine r_getRc dX12_allOf_8 fgX12_31 rfl (by exact k_167 hF) (by exact r_167_17 hF) ?_
  refine r_iconst (1) dX12_allOf_11 rfl ?_
  refine r_laloadc (capT 1 (T (cut N) 1)) dX12_allOf_12 (by exact k_179 hF) (vin (j := 1) (by omega) (by omega)) (by exact ht1 1 (by omega)) ?_
  refine r_ladd dX12_allOf_13 ?_
  refine r_aload_n dX12_allOf_14 rfl ?_
  refine r_getRc dX12_allOf_15 fgX12_31 rfl (by exact k_167 hF) (by exact r_167_17 hF) ?_
  refine r_iconst (2) dX12_allOf_18 rfl ?_
  refine r_laloadc (capT 2 (T (cut N) 2)) dX12_allOf_19 (by exact k_179 hF) (vin (j := 2) (by omega) (by omega)) (by exact ht1 2 (by omega)) ?_
  refine r_ladd dX12_allOf_20 ?_
  refine r_lreturn dX12_allOf_21 rfl ?_
  exact k m1 s1 hN1 ht1
theorem S_pullOf {g : GG} {m : MM} {Q : Out → Prop} {f : Nat → Int32} {fs : Nat → Nat → Int32} {ic : Nat} {tp : Nat → Int32} {tn : Nat} {pl : Int32} {n1 n2 : Nat} {ts : Nat → (Nat → Int32) × Nat} (hI : RI f fs ic tp tn pl n1 n2 ts m) {l : Nat} (hl : l < n1) {st : List Int32} {T : TL} (hx : texP (ts l).1 (ts l).2 false = .inr (st, T)) {N : Nat → Int64} (hN : ∀ j, j < 10 → ldL m 178 j = N j) (k : ∀ m', Sw m m' → (∀ j, j < 10 → ldL m' 178 j = N j) → (∀ j, j < 8 → ldL m' 179 j = capT (nI j) (T (cut N) j)) → Q (.inl (some (.long (puF (T (cut N))))), m')) : Cl g 35 0 0 mX12_pullOf [.ref 167, .int (nI l)] m Q := by
  have hF := hI.1
  refine Cl.of rfl (by decide) (Nat.le_of_ble_eq_true rfl) ?_
  show Wp g mX12_pullOf 35 0 0 0 [.ref 167, .int (nI l), .retAddr 0, .retAddr 0] [] m Q
  refine r_aload_n dX12_pullOf_0 rfl ?_
  refine r_iload_n dX12_pullOf_1 rfl ?_
  refine r_callV1 (ci := 12) (d1 := 34) (c1 := 0) (n1 := 0) dX12_pullOf_2 mvX12_242 rfl ⟨(Nat.le_of_ble_eq_true rfl), rfl⟩ (Nat.le_of_ble_eq_true rfl) (by exact Nat.le_of_ble_eq_true rfl) (by exact k_167 hF) ?_
  refine S_allOf hI hl hx hN (fun m1 s1 hN1 ht1 => ?_)
  have hF := s1.1.F hI.1
  show Wp g mX12_pullOf _ _ _ 5 _ (_ :: _) _ Q
  refine sl_2 dX12_pullOf_5 rfl (Nat.le_of_ble_eq_true rfl) ?_
  refine r_lload_n dX12_pullOf_6 rfl ?_
  refine r_lload_n dX12_pullOf_7 rfl ?_
  refine r_aload_n dX12_pullOf_8 rfl ?_
  refine r_getRc dX12_pullOf_9 fgX12_31 rfl (by exact k_167 hF) (by exact r_167_17 hF) ?_
  refine r_iconst (3) dX12_pullOf_12 rfl ?_
  refine r_laloadc (capT 3 (T (cut N) 3)) dX12_pullOf_13 (by exact k_179 hF) (vin (j := 3) (by omega) (by omega)) (by exact ht1 3 (by omega)) ?_
  refine r_lmul dX12_pullOf_14 ?_
  refine r_ldc2 (100) dX12_pullOf_15 ctX12_97 ?_
  refine r_ldiv dX12_pullOf_18 (by decide) ?_
  refine r_ladd dX12_pullOf_19 ?_
  refine r_lreturn dX12_pullOf_20 rfl ?_
  exact k m1 s1 hN1 ht1
theorem S_rmodA {g : GG} {m : MM} {Q : Out → Prop} {f : Nat → Int32} {fs : Nat → Nat → Int32} {ic : Nat} {tp : Nat → Int32} {tn : Nat} {pl : Int32} {n1 n2 : Nat} {ts : Nat → (Nat → Int32) × Nat} (hV : Vf f) (hI : RI f fs ic tp tn pl n1 n2 ts m) {h : Nat} (hh : h < nH f) {k : Int32} (hk : iv 1 40 k) {i : Nat} (hi : i < 6) (kk : Q (.inl (some (.long (mdH f h k i).toInt64)), m)) : Cl g 0 0 0 mX12_modelOf [.ref 167, .int (nI h), .int k, .int (nI i)] m Q := by
  rcases i with _ | _ | _ | _ | _ | _ | i
  · exact S_rmod0 hV hI hh hk kk
  · exact S_rmod1 hV hI hh hk kk
  · exact S_rmod2 hV hI hh hk kk
  · exact S_rmod3 hV hI hh hk kk
  · exact S_rmod4 hV hI hh hk kk
  · exact S_rmod5 hV hI hh hk kk
  · omega
theorem i3264 (x : Int32) : x.toInt64.toInt32 = x := by simp
theorem S_X12_model {g : GG} {m : MM} {Q : Out → Prop} {f : Nat → Int32} {fs : Nat → Nat → Int32} {ic : Nat} {tp : Nat → Int32} {tn : Nat} {pl : Int32} {n1 n2 : Nat} {ts : Nat → (Nat → Int32) × Nat} (hV : Vf f) (hI : RI f fs ic tp tn pl n1 n2 ts m) {x y z : Int32} (kh : (x < 0 ∨ nI (nH f) ≤ x) → ∀ m', RJ f fs ic tp tn pl n1 n2 ts m 1 m' → Q (.inl (some (.int 0)), m')) (kb : ∀ j, x = nI j → j < nH f → ¬ ((1 ≤ y ∧ y ≤ 40) ∧ 0 ≤ z ∧ z ≤ 5) → ∀ m', RJ f fs ic tp tn pl n1 n2 ts m 2 m' → Q (.inl (some (.int 0)), m')) (k : ∀ j, x = nI j → j < nH f → (1 ≤ y ∧ y ≤ 40) → ∀ i, i < 6 → z = nI i → ∀ m', RJ f fs ic tp tn pl n1 n2 ts m 0 m' → Q (.inl (some (.int (mdH f j y i))), m')) : Cl g 2 0 0 mX12_model [.ref 167, .int x, .int y, .int z] m Q := by
  refine Cl.of rfl (by decide) (Nat.le_of_ble_eq_true rfl) ?_
  show Wp g mX12_model 2 0 0 0 [.ref 167, .int x, .int y, .int z] [] m Q
  refine r_aload_n dX12_model_0 rfl ?_
  refine r_iconst (0) dX12_model_1 rfl ?_
  refine r_putI dX12_model_2 (fpX12_79 _ rfl) rfl (by exact k_167 hI.1) ⟨rfl, rfl⟩ ?_
  have hJ1 := hI.go
  refine r_aload_n dX12_model_5 rfl ?_
  refine r_aload_n dX12_model_6 rfl ?_
  refine r_iload_n dX12_model_7 rfl ?_
  refine r_callV1 (ci := 12) (d1 := 1) (c1 := 0) (n1 := 0) dX12_model_8 mvX12_93 rfl ⟨(Nat.le_of_ble_eq_true rfl), rfl⟩ (Nat.le_of_ble_eq_true rfl) (by exact Nat.le_of_ble_eq_true rfl) (by exact k_167 hJ1.F) ?_
  refine S_X12_isHull hV hJ1 (fun j hj hjn => ?_) (fun h0 => ?_)
  ·
    subst hj
    show Wp g mX12_model _ _ _ 11 _ (_ :: _) _ Q
    refine r_if_ne 18 dX12_model_11 rfl (fun _ => ?_) (fun hz => absurd hz (by decide))
    refine r_iconst (0) dX12_model_18 rfl ?_
    refine r_iconst (1) dX12_model_19 rfl ?_
    refine r_callV2 (ci := 12) (d1 := 0) (c1 := 0) (n1 := 0) dX12_model_20 mvX12_86 rfl ⟨(Nat.le_of_ble_eq_true rfl), rfl⟩ (Nat.le_of_ble_eq_true rfl) (by exact Nat.le_of_ble_eq_true rfl) (by exact k_167 hJ1.F) ?_
    refine S_bad0 hJ1.F hJ1.2.2 ?_
    show Wp g mX12_model _ _ _ 23 _ (_ :: _) _ Q
    refine r_if_ne 58 dX12_model_23 rfl (fun hz => absurd hz (by decide)) (fun _ => ?_)
    refine r_aload_n dX12_model_26 rfl ?_
    refine r_iload_n dX12_model_27 rfl ?_
    refine r_iconst (1) dX12_model_28 rfl ?_
    refine r_bipush (40) dX12_model_29 rfl ?_
    refine r_callS3 (d1 := 0) (c1 := 0) (n1 := 0) dX12_model_31 msX12_82 rfl (Nat.le_of_ble_eq_true rfl) (by exact Nat.le_of_ble_eq_true rfl) ?_
    refine S_X12_in (fun w31a w31b => ?_) (fun w31 => ?_)
    ·
      show Wp g mX12_model _ _ _ 34 _ (_ :: _) _ Q
      refine r_if_eq 46 dX12_model_34 rfl (fun hz => absurd hz (by decide)) (fun _ => ?_)
      refine r_iload_n dX12_model_37 rfl ?_
      refine r_iconst (0) dX12_model_38 rfl ?_
      refine r_iconst (5) dX12_model_39 rfl ?_
      refine r_callS3 (d1 := 0) (c1 := 0) (n1 := 0) dX12_model_40 msX12_82 rfl (Nat.le_of_ble_eq_true rfl) (by exact Nat.le_of_ble_eq_true rfl) ?_
      refine S_X12_in (fun w40a w40b => ?_) (fun w40 => ?_)
      ·
        show Wp g mX12_model _ _ _ 43 _ (_ :: _) _ Q
        refine r_if_ne 50 dX12_model_43 rfl (fun _ => ?_) (fun hz => absurd hz (by decide))
        refine r_iconst (0) dX12_model_50 rfl ?_
        refine r_iconst (2) dX12_model_51 rfl ?_
        refine r_callV2 (ci := 12) (d1 := 0) (c1 := 0) (n1 := 0) dX12_model_52 mvX12_86 rfl ⟨(Nat.le_of_ble_eq_true rfl), rfl⟩ (Nat.le_of_ble_eq_true rfl) (by exact Nat.le_of_ble_eq_true rfl) (by exact k_167 hJ1.F) ?_
        refine S_bad0 hJ1.F hJ1.2.2 ?_
        show Wp g mX12_model _ _ _ 55 _ (_ :: _) _ Q
        refine r_if_eq 60 dX12_model_55 rfl (fun _ => ?_) (fun hz => absurd hz (by decide))
        refine r_aload_n dX12_model_60 rfl ?_
        refine r_iload_n dX12_model_61 rfl ?_
        refine r_iload_n dX12_model_62 rfl ?_
        refine r_iload_n dX12_model_63 rfl ?_
        refine r_callV3 (ci := 12) (d1 := 0) (c1 := 0) (n1 := 0) dX12_model_64 mvX12_101 rfl ⟨(Nat.le_of_ble_eq_true rfl), rfl⟩ (Nat.le_of_ble_eq_true rfl) (by exact Nat.le_of_ble_eq_true rfl) (by exact k_167 hJ1.F) ?_
        obtain ⟨i, hi, rfl⟩ := i32_small 5 (by omega) w40a w40b
        refine S_rmodA hV hJ1.1 hjn (iv_mk w31a w31b) (i := i) (by omega) ?_
        show Wp g mX12_model _ _ _ 67 _ (_ :: _) _ Q
        refine r_l2i dX12_model_67 ?_
        refine r_ireturn dX12_model_68 rfl rfl ?_
        rw [i3264]; exact k j rfl hjn ⟨w31a, w31b⟩ i (by omega) rfl _ hJ1
      ·
        show Wp g mX12_model _ _ _ 43 _ (_ :: _) _ Q
        refine r_if_ne 50 dX12_model_43 rfl (fun hz => absurd hz (by decide)) (fun _ => ?_)
        refine r_iconst (1) dX12_model_46 rfl ?_
        refine r_goto 51 dX12_model_47 rfl ?_
        refine r_iconst (2) dX12_model_51 rfl ?_
        refine r_callV2 (ci := 12) (d1 := 0) (c1 := 0) (n1 := 0) dX12_model_52 mvX12_86 rfl ⟨(Nat.le_of_ble_eq_true rfl), rfl⟩ (Nat.le_of_ble_eq_true rfl) (by exact Nat.le_of_ble_eq_true rfl) (by exact k_167 hJ1.F) ?_
        refine S_bad1 hJ1.F hJ1.2.2 (by decide) ?_
        have hJ2 := hJ1.bad 2
        show Wp g mX12_model _ _ _ 55 _ (_ :: _) _ Q
        refine r_if_eq 60 dX12_model_55 rfl (fun hz => absurd hz (by decide)) (fun _ => ?_)
        refine r_iconst (0) dX12_model_58 rfl ?_
        refine r_ireturn dX12_model_59 rfl rfl ?_
        first | exact kb j rfl hjn (fun q => w31 q.1) _ hJ2 | exact kb j rfl hjn (fun q => w40 q.2) _ hJ2
    ·
      show Wp g mX12_model _ _ _ 34 _ (_ :: _) _ Q
      refine r_if_eq 46 dX12_model_34 rfl (fun _ => ?_) (fun hz => absurd hz (by decide))
      refine r_iconst (1) dX12_model_46 rfl ?_
      refine r_goto 51 dX12_model_47 rfl ?_
      refine r_iconst (2) dX12_model_51 rfl ?_
      refine r_callV2 (ci := 12) (d1 := 0) (c1 := 0) (n1 := 0) dX12_model_52 mvX12_86 rfl ⟨(Nat.le_of_ble_eq_true rfl), rfl⟩ (Nat.le_of_ble_eq_true rfl) (by exact Nat.le_of_ble_eq_true rfl) (by exact k_167 hJ1.F) ?_
      refine S_bad1 hJ1.F hJ1.2.2 (by decide) ?_
      have hJ3 := hJ1.bad 2
      show Wp g mX12_model _ _ _ 55 _ (_ :: _) _ Q
      refine r_if_eq 60 dX12_model_55 rfl (fun hz => absurd hz (by decide)) (fun _ => ?_)
      refine r_iconst (0) dX12_model_58 rfl ?_
      refine r_ireturn dX12_model_59 rfl rfl ?_
      first | exact kb j rfl hjn (fun q => w31 q.1) _ hJ3 | exact kb j rfl hjn (fun q => w40 q.2) _ hJ3
  ·
    show Wp g mX12_model _ _ _ 11 _ (_ :: _) _ Q
    refine r_if_ne 18 dX12_model_11 rfl (fun hz => absurd hz (by decide)) (fun _ => ?_)
    refine r_iconst (1) dX12_model_14 rfl ?_
    refine r_goto 19 dX12_model_15 rfl ?_
    refine r_iconst (1) dX12_model_19 rfl ?_
    refine r_callV2 (ci := 12) (d1 := 0) (c1 := 0) (n1 := 0) dX12_model_20 mvX12_86 rfl ⟨(Nat.le_of_ble_eq_true rfl), rfl⟩ (Nat.le_of_ble_eq_true rfl) (by exact Nat.le_of_ble_eq_true rfl) (by exact k_167 hJ1.F) ?_
    refine S_bad1 hJ1.F hJ1.2.2 (by decide) ?_
    have hJ4 := hJ1.bad 1
    show Wp g mX12_model _ _ _ 23 _ (_ :: _) _ Q
    refine r_if_ne 58 dX12_model_23 rfl (fun _ => ?_) (fun hz => absurd hz (by decide))
    refine r_iconst (0) dX12_model_58 rfl ?_
    refine r_ireturn dX12_model_59 rfl rfl ?_
    exact kh h0 _ hJ4
theorem S_X12_name {g : GG} {m : MM} {Q : Out → Prop} {f : Nat → Int32} {fs : Nat → Nat → Int32} {ic : Nat} {tp : Nat → Int32} {tn : Nat} {pl : Int32} {n1 n2 : Nat} {ts : Nat → (Nat → Int32) × Nat} (hV : Vf f) (hI : RI f fs ic tp tn pl n1 n2 ts m) {x : Int32} (ke : f 0 = 0 → ∀ m', RJ f fs ic tp tn pl n1 n2 ts m 1 m' → Q (.inl (some (.int 0)), m')) (kb : ¬ f 0 = 0 → ¬ (0 ≤ x ∧ x ≤ 9) → ∀ m', RJ f fs ic tp tn pl n1 n2 ts m 2 m' → Q (.inl (some (.int 0)), m')) (k : ¬ f 0 = 0 → ∀ i, i < 10 → x = nI i → ∀ m', RJ f fs ic tp tn pl n1 n2 ts m 0 m' → Q (.inl (some (.int (NmH f (hH f) (hd f) i).toInt32)), m')) : Cl g 3 0 0 mX12_name [.ref 167, .int x] m Q := by
  refine Cl.of rfl (by decide) (Nat.le_of_ble_eq_true rfl) ?_
  show Wp g mX12_name 3 0 0 0 [.ref 167, .int x] [] m Q
  refine r_aload_n dX12_name_0 rfl ?_
  refine r_iconst (0) dX12_name_1 rfl ?_
  refine r_putI dX12_name_2 (fpX12_79 _ rfl) rfl (by exact k_167 hI.1) ⟨rfl, rfl⟩ ?_
  have hJ1 := hI.go
  refine r_aload_n dX12_name_5 rfl ?_
  refine r_aload_n dX12_name_6 rfl ?_
  refine r_getIc (f 0) dX12_name_7 fgX12_90 rfl (by exact k_167 hJ1.F) (by exact hJ1.g (by omega) l_0) ?_
  refine r_if_ne 17 dX12_name_10 rfl (fun hz => ?_) (fun hz => ?_)
  ·
    refine r_iconst (0) dX12_name_17 rfl ?_
    refine r_iconst (1) dX12_name_18 rfl ?_
    refine r_callV2 (ci := 12) (d1 := 0) (c1 := 0) (n1 := 0) dX12_name_19 mvX12_86 rfl ⟨(Nat.le_of_ble_eq_true rfl), rfl⟩ (Nat.le_of_ble_eq_true rfl) (by exact Nat.le_of_ble_eq_true rfl) (by exact k_167 hJ1.F) ?_
    refine S_bad0 hJ1.F hJ1.2.2 ?_
    show Wp g mX12_name _ _ _ 22 _ (_ :: _) _ Q
    refine r_if_ne 48 dX12_name_22 rfl (fun hz => absurd hz (by decide)) (fun _ => ?_)
    refine r_aload_n dX12_name_25 rfl ?_
    refine r_iload_n dX12_name_26 rfl ?_
    refine r_iconst (0) dX12_name_27 rfl ?_
    refine r_bipush (9) dX12_name_28 rfl ?_
    refine r_callS3 (d1 := 0) (c1 := 0) (n1 := 0) dX12_name_30 msX12_82 rfl (Nat.le_of_ble_eq_true rfl) (by exact Nat.le_of_ble_eq_true rfl) ?_
    refine S_X12_in (fun w30a w30b => ?_) (fun w30 => ?_)
    ·
      show Wp g mX12_name _ _ _ 33 _ (_ :: _) _ Q
      refine r_if_ne 40 dX12_name_33 rfl (fun _ => ?_) (fun hz => absurd hz (by decide))
      refine r_iconst (0) dX12_name_40 rfl ?_
      refine r_iconst (2) dX12_name_41 rfl ?_
      refine r_callV2 (ci := 12) (d1 := 0) (c1 := 0) (n1 := 0) dX12_name_42 mvX12_86 rfl ⟨(Nat.le_of_ble_eq_true rfl), rfl⟩ (Nat.le_of_ble_eq_true rfl) (by exact Nat.le_of_ble_eq_true rfl) (by exact k_167 hJ1.F) ?_
      refine S_bad0 hJ1.F hJ1.2.2 ?_
      show Wp g mX12_name _ _ _ 45 _ (_ :: _) _ Q
      refine r_if_eq 50 dX12_name_45 rfl (fun _ => ?_) (fun hz => absurd hz (by decide))
      refine r_aload_n dX12_name_50 rfl ?_
      refine r_callV0 (ci := 12) (d1 := 2) (c1 := 0) (n1 := 0) dX12_name_51 mvX12_249 rfl ⟨(Nat.le_of_ble_eq_true rfl), rfl⟩ (Nat.le_of_ble_eq_true rfl) (by exact Nat.le_of_ble_eq_true rfl) (by exact k_167 hJ1.F) ?_
      obtain ⟨i, hi, rfl⟩ := i32_small 9 (by omega) w30a w30b
      refine S_atHand hV hJ1.1 hz (fun m8 s8 n8 => ?_)
      have hJ8 := hJ1.sc s8.1 s8.2
      show Wp g mX12_name _ _ _ 54 _ [] _ Q
      refine r_aload_n dX12_name_54 rfl ?_
      refine r_getRc dX12_name_55 fgX12_27 rfl (by exact k_167 hJ8.F) (by exact r_167_16 hJ8.F) ?_
      refine r_iload_n dX12_name_58 rfl ?_
      refine r_laloadc (NmH f (hH f) (hd f) i) dX12_name_59 (by exact k_178 hJ8.F) (vin (by omega) (by omega)) (by rw [nI_cl _ (by omega)]; exact n8 i (by omega)) ?_
      refine r_l2i dX12_name_60 ?_
      refine r_ireturn dX12_name_61 rfl rfl ?_
      exact k hz i (by omega) rfl _ hJ8
    ·
      show Wp g mX12_name _ _ _ 33 _ (_ :: _) _ Q
      refine r_if_ne 40 dX12_name_33 rfl (fun hz => absurd hz (by decide)) (fun _ => ?_)
      refine r_iconst (1) dX12_name_36 rfl ?_
      refine r_goto 41 dX12_name_37 rfl ?_
      refine r_iconst (2) dX12_name_41 rfl ?_
      refine r_callV2 (ci := 12) (d1 := 0) (c1 := 0) (n1 := 0) dX12_name_42 mvX12_86 rfl ⟨(Nat.le_of_ble_eq_true rfl), rfl⟩ (Nat.le_of_ble_eq_true rfl) (by exact Nat.le_of_ble_eq_true rfl) (by exact k_167 hJ1.F) ?_
      refine S_bad1 hJ1.F hJ1.2.2 (by decide) ?_
      have hJ2 := hJ1.bad 2
      show Wp g mX12_name _ _ _ 45 _ (_ :: _) _ Q
      refine r_if_eq 50 dX12_name_45 rfl (fun hz => absurd hz (by decide)) (fun _ => ?_)
      refine r_iconst (0) dX12_name_48 rfl ?_
      refine r_ireturn dX12_name_49 rfl rfl ?_
      exact kb hz w30 _ hJ2
  ·
    refine r_iconst (1) dX12_name_13 rfl ?_
    refine r_goto 18 dX12_name_14 rfl ?_
    refine r_iconst (1) dX12_name_18 rfl ?_
    refine r_callV2 (ci := 12) (d1 := 0) (c1 := 0) (n1 := 0) dX12_name_19 mvX12_86 rfl ⟨(Nat.le_of_ble_eq_true rfl), rfl⟩ (Nat.le_of_ble_eq_true rfl) (by exact Nat.le_of_ble_eq_true rfl) (by exact k_167 hJ1.F) ?_
    refine S_bad1 hJ1.F hJ1.2.2 (by decide) ?_
    have hJ3 := hJ1.bad 1
    show Wp g mX12_name _ _ _ 22 _ (_ :: _) _ Q
    refine r_if_ne 48 dX12_name_22 rfl (fun _ => ?_) (fun hz => absurd hz (by decide))
    refine r_iconst (0) dX12_name_48 rfl ?_
    refine r_ireturn dX12_name_49 rfl rfl ?_
    exact ke hz _ hJ3
