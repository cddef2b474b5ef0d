theorem mnP_le (x : Int64) : (mnP x).toInt ≤ 1000000000 := by
  unfold mnP
  split
  · decide
  · rename_i h; rw [Int64.lt_iff_toInt_lt] at h; have : (1000000000 : Int64).toInt = 1000000000 := rfl; omega
theorem mnP_ge {x : Int64} (h : 0 ≤ x.toInt) : 0 ≤ (mnP x).toInt := by
  unfold mnP
  split
  · decide
  · exact h
theorem i64_32 {x : Int64} (h0 : 0 ≤ x.toInt) (h : x.toInt ≤ 2147483647) : x.toInt32.toInt = x.toInt := by
  rw [Int64.toInt_toInt32]; exact Int.bmod_eq_of_le (by omega) (by omega)
theorem dwV_iv {f : Nat → Int32} {h : Nat} {T : (Nat → Int64) → Nat → Int64} {x : Int32} : iv 0 1000000000 (dwV f h T x) := by
  have h0 : 0 ≤ (if 0 < dwP f h T x then dwP f h T x else 0 : Int64).toInt := by
    split
    · rename_i q; rw [Int64.lt_iff_toInt_lt] at q; have : (0 : Int64).toInt = 0 := rfl; omega
    · decide
  have h1 := mnP_le (if 0 < dwP f h T x then dwP f h T x else 0)
  have h2 := mnP_ge h0
  unfold iv dwV
  rw [i64_32 h2 (by omega)]; exact ⟨h2, h1⟩
theorem sed_nR {f : Nat → Int32} {v : Int32} : nR (sedF f v) = nR f := by unfold nR; rw [show sedF f v 2 = f 2 from upF_n (by decide) rfl]
theorem sed_nH {f : Nat → Int32} {v : Int32} : nH (sedF f v) = nH f := by unfold nH; rw [show sedF f v 0 = f 0 from upF_n (by decide) rfl]
theorem tw_ok {x : Int32} (h0 : 0 ≤ x) (h : x ≤ 50) : ¬ 2 * x + 1 ≤ 0 := by
  rw [Int32.le_iff_toInt_le] at h0 h ⊢
  have a2 : (0 : Int32).toInt = 0 := rfl
  have a3 : (50 : Int32).toInt = 50 := rfl
  have e : (2 * x + 1 : Int32).toInt = 2 * x.toInt + 1 := by
    rw [Int32.toInt_add, Int32.toInt_mul]; show Int.bmod (Int.bmod (2 * x.toInt) (2 ^ 32) + 1) (2 ^ 32) = _
    rw [Int.bmod_eq_of_le (n := 2 * x.toInt) (by omega) (by omega), Int.bmod_eq_of_le (by omega) (by omega)]
  omega
theorem S_X11_tow {g : GG} {m : MM} {Q : Out → Prop} {f : Nat → Int32} {fs : Nat → Nat → Int32} {ic : Nat} {tp : Nat → Int32} {tn : Nat} {pl : Int32} {n1 : Nat} {T1 : Nat → (Nat → Int64) → Nat → Int64} {n2 : Nat} {T2 : Nat → (Nat → Int64) → Nat → Int64} (hC : CI f fs ic tp tn pl n1 T1 n2 T2 m) {l x : Int32} (ke : f 0 = 0 → Q (.inr EISE, m)) (kl : ¬ f 0 = 0 → (l < 0 ∨ nI n1 ≤ l) → Q (.inr EIOB, m)) (kb : ¬ f 0 = 0 → ∀ j155, l = nI j155 → j155 < n1 → ¬ (0 ≤ x ∧ x ≤ 50) → Q (.inr EIAE, m)) (kf : ¬ f 0 = 0 → ∀ j155, l = nI j155 → j155 < n1 → (0 ≤ x ∧ x ≤ 50) → nR f = 60 → Q (.inl (some (.int (-1))), m)) (k : ¬ f 0 = 0 → ∀ j155, l = nI j155 → j155 < n1 → (0 ≤ x ∧ x ≤ 50) → nR f < 60 → ∀ m', CI (runF (sedF f (f 6 * 1103515245 + 12345)) (dwV f (hH f) (T1 j155) x)) fs ic tp tn pl n1 T1 n2 T2 m' → NoR m m' → Q (.inl (some (.int (nI (nR f)))), m')) : Cl g 7 3 18 mX11_tow [.ref 4, .int l, .int x] m Q := by
  refine Cl.of rfl (by decide) (Nat.le_of_ble_eq_true rfl) ?_
  show Wp g mX11_tow 7 3 18 0 [.ref 4, .int l, .int x, .retAddr 0] [] m Q
  have hF := hC.1
  have hV := hC.2.1
  have hW := hC.2.2.1
  have hS155 := hC.2.2.2.2.2.2.1
  have hS157 := hC.2.2.2.2.2.2.2
  have h6 := hV.1.2.2.1.2
  refine r_aload_n dX11_tow_0 rfl ?_
  refine r_callV0 (ci := 11) (d1 := 6) (c1 := 1) (n1 := 6) dX11_tow_1 mvX11_151 rfl ⟨(Nat.le_of_ble_eq_true rfl), rfl⟩ (Nat.le_of_ble_eq_true rfl) (by exact Nat.le_of_ble_eq_true rfl) (by exact k_4 hF) ?_
  refine S_X11_demandAnyHull hF hV hW (fun a1 => ?_) (fun a0 => ?_)
  ·
    show Wp g mX11_tow _ _ _ 4 _ [] _ Q
    refine r_aload_n dX11_tow_4 rfl ?_
    refine r_getRc dX11_tow_5 fgX11_39 rfl (by exact k_4 hF) (by exact r_4_4 hF) ?_
    refine r_iload_n dX11_tow_8 rfl ?_
    refine r_callS2 (d1 := 6) (c1 := 1) (n1 := 6) dX11_tow_9 msX11_157 rfl (Nat.le_of_ble_eq_true rfl) (by exact Nat.le_of_ble_eq_true rfl) ?_
    refine S_demP155 hF hS155 (fun j155 hj155 hjn155 hp155 => ?_) (fun p155 => ?_)
    ·
      subst hj155
      show Wp g mX11_tow _ _ _ 12 _ (_ :: _) _ Q
      refine sa_3 dX11_tow_12 rfl (Nat.le_of_ble_eq_true rfl) ?_
      refine r_iload_n dX11_tow_13 rfl ?_
      refine r_iconst (0) dX11_tow_14 rfl ?_
      refine r_bipush (50) dX11_tow_15 rfl ?_
      refine r_callS3 (d1 := 0) (c1 := 0) (n1 := 0) dX11_tow_17 msX11_59 rfl (Nat.le_of_ble_eq_true rfl) (by exact Nat.le_of_ble_eq_true rfl) ?_
      refine S_X11_isWithin (fun w17a w17b => ?_) (fun w17 => ?_)
      ·
        show Wp g mX11_tow _ _ _ 20 _ (_ :: _) _ Q
        refine r_callS1 (d1 := 6) (c1 := 1) (n1 := 6) dX11_tow_20 msX11_63 rfl (Nat.le_of_ble_eq_true rfl) (by exact Nat.le_of_ble_eq_true rfl) ?_
        refine S_demand1 ?_
        show Wp g mX11_tow _ _ _ 23 _ [] _ Q
        refine r_aload_n dX11_tow_23 rfl ?_
        refine r_getRc dX11_tow_24 fgX11_12 rfl (by exact k_4 hF) (by exact r_4_0 hF) ?_
        refine r_getRc dX11_tow_27 fgX11_189 rfl (by exact k_5 hF) (by exact r_5_5 hF) ?_
        refine r_callV0 (ci := 5) (d1 := 0) (c1 := 0) (n1 := 0) dX11_tow_30 mvX11_192 rfl ⟨(Nat.le_of_ble_eq_true rfl), rfl⟩ (Nat.le_of_ble_eq_true rfl) (by exact Nat.le_of_ble_eq_true rfl) (by exact k_30 hF) ?_
        refine S_X5_isFull (a := 30) (c := 31) (z := 420) (n := 7 * nR f) (by exact k_30 hF) (by exact r_30_0 hF) (by exact k_31 hF) (by omega) (by exact hW.2.2.2.2.1.1) (by omega) (fun h60 => ?_) (fun h60 => ?_)
        ·
          show Wp g mX11_tow _ _ _ 33 _ (_ :: _) _ Q
          refine r_if_eq 38 dX11_tow_33 rfl (fun hz => absurd hz (by decide)) (fun _ => ?_)
          refine r_iconst (-1) dX11_tow_36 rfl ?_
          refine r_ireturn dX11_tow_37 rfl rfl ?_
          exact kf a1 j155 rfl hjn155 ⟨w17a, w17b⟩ (by omega)
        ·
          show Wp g mX11_tow _ _ _ 33 _ (_ :: _) _ Q
          refine r_if_eq 38 dX11_tow_33 rfl (fun _ => ?_) (fun hz => absurd hz (by decide))
          refine r_aload_n dX11_tow_38 rfl ?_
          refine r_getRc dX11_tow_39 fgX11_12 rfl (by exact k_4 hF) (by exact r_4_0 hF) ?_
          refine r_aload_n dX11_tow_42 rfl ?_
          refine r_getRc dX11_tow_43 fgX11_51 rfl (by exact k_4 hF) (by exact r_4_6 hF) ?_
          refine r_aload_n dX11_tow_46 rfl ?_
          refine r_iload_n dX11_tow_47 rfl ?_
          refine r_callV2 (ci := 0) (d1 := 4) (c1 := 0) (n1 := 0) dX11_tow_48 mvX11_193 rfl ⟨(Nat.le_of_ble_eq_true rfl), rfl⟩ (Nat.le_of_ble_eq_true rfl) (by exact Nat.le_of_ble_eq_true rfl) (by exact k_159 hF) ?_
          have hx := hH_of hV a1
          refine S_X0_drawnPull hF hV hW hx.1 hx.2 hp155 (tw_ok w17a w17b) (fun m1 o1 => ?_)
          have hC1 := hC.off o1 (by omega) (by omega)
          have hW2 := Wd_sed (v := (f 6 * 1103515245 + 12345)) hV hC1.2.2.1
          have hF2 := Fx_of (m := m1) (m' := stI m1 5 10 (f 6 * 1103515245 + 12345)) rfl hC1.1
          have hV2 := Vf_sed (v := (f 6 * 1103515245 + 12345)) hV
          show Wp g mX11_tow _ _ _ 51 _ (_ :: _) _ Q
          refine r_callV1 (ci := 10) (d1 := 2) (c1 := 0) (n1 := 0) dX11_tow_51 mvX11_186 rfl ⟨(Nat.le_of_ble_eq_true rfl), rfl⟩ (Nat.le_of_ble_eq_true rfl) (by exact Nat.le_of_ble_eq_true rfl) (by exact k_5 hF2) ?_
          refine S_X10_addRun hF2 hW2.2.2.2.2.1.1 hV2.1.2.2.1.2 (by rw [show ldI (stI m1 5 10 (f 6 * 1103515245 + 12345)) 29 4 = sedF f (f 6 * 1103515245 + 12345) 31 from hW2.2.2.2.1 4 (by omega)]; exact hV2.2.2.2.1.2.2.2.2.1) (fun h61 => absurd h61 (by rw [sed_nR]; omega)) (fun h61 => ?_)
          show Wp g mX11_tow _ _ _ 54 _ (_ :: _) _ Q
          refine r_ireturn dX11_tow_54 rfl rfl ?_
          have o9 : Off 5 40 m1 (adN (stI m1 5 10 (f 6 * 1103515245 + 12345)) (nR (sedF f (f 6 * 1103515245 + 12345))) (runv (stI m1 5 10 (f 6 * 1103515245 + 12345)) (dwV f (hH f) (T1 j155) x)) 7) := ((Off.rf (lo := 5) (hi := 40)).stI (by omega) (by omega)).tr ((adN_off 7).wd (by omega) (by omega))
          have k9 := k a1 j155 rfl hjn155 ⟨w17a, w17b⟩ (by omega) _ (hC1.now o9 (Vf_run hV2 (by rw [sed_nH]; exact nH_pos hV a1) h61 dwV_iv) (Wd_run hV2 hW2 h61)) ((o1.nor (by omega)).tr (o9.nor (by omega)))
          rw [sed_nR] at k9 ⊢; exact k9
      ·
        show Wp g mX11_tow _ _ _ 20 _ (_ :: _) _ Q
        refine r_callS1 (d1 := 6) (c1 := 1) (n1 := 6) dX11_tow_20 msX11_63 rfl (Nat.le_of_ble_eq_true rfl) (by exact Nat.le_of_ble_eq_true rfl) ?_
        refine S_demand0 ?_
        exact kb a1 j155 rfl hjn155 w17
    ·
      exact kl a1 p155
  ·
    exact ke a0
theorem S_X11_fault {g : GG} {m : MM} {Q : Out → Prop} {f : Nat → Int32} {fs : Nat → Nat → Int32} {ic : Nat} {tp : Nat → Int32} {tn : Nat} {pl : Int32} {n1 : Nat} {T1 : Nat → (Nat → Int64) → Nat → Int64} {n2 : Nat} {T2 : Nat → (Nat → Int64) → Nat → Int64} (hC : CI f fs ic tp tn pl n1 T1 n2 T2 m) (k : Q (.inl (some (.int pl)), m)) : Cl g 0 0 0 mX11_fault [.ref 4] m Q := by
  refine Cl.of rfl (by decide) (Nat.le_of_ble_eq_true rfl) ?_
  show Wp g mX11_fault 0 0 0 0 [.ref 4] [] m Q
  have hF := hC.1
  have hV := hC.2.1
  have hW := hC.2.2.1
  refine r_aload_n dX11_fault_0 rfl ?_
  refine r_getIc (pl) dX11_fault_1 fgX11_55 rfl (by exact k_4 hF) (by exact hC.2.2.2.2.2.1) ?_
  refine r_ireturn dX11_fault_4 rfl rfl ?_
  exact k
def coV (f : Nat → Int32) (ic tn n1 n2 : Nat) : Nat → Int32 := fun j => match j with
  | 0 => f 0
  | 1 => f 1
  | 2 => nI n1
  | 3 => nI n2
  | 4 => nI (nR f)
  | 5 => f 3
  | 6 => f 4
  | 7 => f 5
  | 8 => nI ic
  | 9 => nI tn
  | _ => f 6
theorem S_count0 {g : GG} {m : MM} {Q : Out → Prop} {f : Nat → Int32} {fs : Nat → Nat → Int32} {ic : Nat} {tp : Nat → Int32} {tn : Nat} {pl : Int32} {n1 : Nat} {T1 : Nat → (Nat → Int64) → Nat → Int64} {n2 : Nat} {T2 : Nat → (Nat → Int64) → Nat → Int64} (hC : CI f fs ic tp tn pl n1 T1 n2 T2 m) (k : Q (.inl (some (.int (coV f ic tn n1 n2 0))), m)) : Cl g 2 0 0 mX11_count [.ref 4, .int 0] m Q := by
  refine Cl.of rfl (by decide) (Nat.le_of_ble_eq_true rfl) ?_
  show Wp g mX11_count 2 0 0 0 [.ref 4, .int 0] [] m Q
  have hF := hC.1
  have hV := hC.2.1
  have hW := hC.2.2.1
  have hS155 := hC.2.2.2.2.2.2.1
  have hS157 := hC.2.2.2.2.2.2.2
  refine r_iload_n dX11_count_0 rfl ?_
  refine r_tabIn 60 dX11_count_1 (by decide) (by decide) rfl rfl ?_
  refine r_aload_n dX11_count_60 rfl ?_
  refine r_getRc dX11_count_61 fgX11_12 rfl (by exact k_4 hF) (by exact r_4_0 hF) ?_
  refine r_getIc (f 0) dX11_count_64 fgX11_286 rfl (by exact k_5 hF) (by exact hW.1.1) ?_
  refine r_ireturn dX11_count_67 rfl rfl ?_
  exact k
theorem S_count1 {g : GG} {m : MM} {Q : Out → Prop} {f : Nat → Int32} {fs : Nat → Nat → Int32} {ic : Nat} {tp : Nat → Int32} {tn : Nat} {pl : Int32} {n1 : Nat} {T1 : Nat → (Nat → Int64) → Nat → Int64} {n2 : Nat} {T2 : Nat → (Nat → Int64) → Nat → Int64} (hC : CI f fs ic tp tn pl n1 T1 n2 T2 m) (k : Q (.inl (some (.int (coV f ic tn n1 n2 1))), m)) : Cl g 2 0 0 mX11_count [.ref 4, .int 1] m Q := by
  refine Cl.of rfl (by decide) (Nat.le_of_ble_eq_true rfl) ?_
  show Wp g mX11_count 2 0 0 0 [.ref 4, .int 1] [] m Q
  have hF := hC.1
  have hV := hC.2.1
  have hW := hC.2.2.1
  have hS155 := hC.2.2.2.2.2.2.1
  have hS157 := hC.2.2.2.2.2.2.2
  refine r_iload_n dX11_count_0 rfl ?_
  refine r_tabIn 68 dX11_count_1 (by decide) (by decide) rfl rfl ?_
  refine r_aload_n dX11_count_68 rfl ?_
  refine r_getRc dX11_count_69 fgX11_12 rfl (by exact k_4 hF) (by exact r_4_0 hF) ?_
  refine r_getRc dX11_count_72 fgX11_289 rfl (by exact k_5 hF) (by exact r_5_2 hF) ?_
  refine r_callV0 (ci := 5) (d1 := 0) (c1 := 0) (n1 := 0) dX11_count_75 mvX11_99 rfl ⟨(Nat.le_of_ble_eq_true rfl), rfl⟩ (Nat.le_of_ble_eq_true rfl) (by exact Nat.le_of_ble_eq_true rfl) (by exact k_25 hF) ?_
  refine S_X5_filled (by exact k_25 hF) ?_
  rw [show ldI m 25 1 = f 1 from hW.2.2.1.1]
  show Wp g mX11_count _ _ _ 78 _ (_ :: _) _ Q
  refine r_ireturn dX11_count_78 rfl rfl ?_
  exact k
theorem S_count2 {g : GG} {m : MM} {Q : Out → Prop} {f : Nat → Int32} {fs : Nat → Nat → Int32} {ic : Nat} {tp : Nat → Int32} {tn : Nat} {pl : Int32} {n1 : Nat} {T1 : Nat → (Nat → Int64) → Nat → Int64} {n2 : Nat} {T2 : Nat → (Nat → Int64) → Nat → Int64} (hC : CI f fs ic tp tn pl n1 T1 n2 T2 m) (k : Q (.inl (some (.int (coV f ic tn n1 n2 2))), m)) : Cl g 2 0 0 mX11_count [.ref 4, .int 2] m Q := by
  refine Cl.of rfl (by decide) (Nat.le_of_ble_eq_true rfl) ?_
  show Wp g mX11_count 2 0 0 0 [.ref 4, .int 2] [] m Q
  have hF := hC.1
  have hV := hC.2.1
  have hW := hC.2.2.1
  have hS155 := hC.2.2.2.2.2.2.1
  have hS157 := hC.2.2.2.2.2.2.2
  refine r_iload_n dX11_count_0 rfl ?_
  refine r_tabIn 79 dX11_count_1 (by decide) (by decide) rfl rfl ?_
  refine r_aload_n dX11_count_79 rfl ?_
  refine r_getRc dX11_count_80 fgX11_39 rfl (by exact k_4 hF) (by exact r_4_4 hF) ?_
  refine r_callV0 (ci := 7) (d1 := 0) (c1 := 0) (n1 := 0) dX11_count_83 mvX11_292 rfl ⟨(Nat.le_of_ble_eq_true rfl), rfl⟩ (Nat.le_of_ble_eq_true rfl) (by exact Nat.le_of_ble_eq_true rfl) (by exact k_155 hF) ?_
  refine S_X7_filled (by exact k_155 hF) ?_
  rw [show ldI m 155 1 = nI n1 from hS155.1]
  show Wp g mX11_count _ _ _ 86 _ (_ :: _) _ Q
  refine r_ireturn dX11_count_86 rfl rfl ?_
  exact k
theorem S_count3 {g : GG} {m : MM} {Q : Out → Prop} {f : Nat → Int32} {fs : Nat → Nat → Int32} {ic : Nat} {tp : Nat → Int32} {tn : Nat} {pl : Int32} {n1 : Nat} {T1 : Nat → (Nat → Int64) → Nat → Int64} {n2 : Nat} {T2 : Nat → (Nat → Int64) → Nat → Int64} (hC : CI f fs ic tp tn pl n1 T1 n2 T2 m) (k : Q (.inl (some (.int (coV f ic tn n1 n2 3))), m)) : Cl g 2 0 0 mX11_count [.ref 4, .int 3] m Q := by
  refine Cl.of rfl (by decide) (Nat.le_of_ble_eq_true rfl) ?_
  show Wp g mX11_count 2 0 0 0 [.ref 4, .int 3] [] m Q
  have hF := hC.1
  have hV := hC.2.1
  have hW := hC.2.2.1
  have hS155 := hC.2.2.2.2.2.2.1
  have hS157 := hC.2.2.2.2.2.2.2
  refine r_iload_n dX11_count_0 rfl ?_
  refine r_tabIn 87 dX11_count_1 (by decide) (by decide) rfl rfl ?_
  refine r_aload_n dX11_count_87 rfl ?_
  refine r_getRc dX11_count_88 fgX11_43 rfl (by exact k_4 hF) (by exact r_4_5 hF) ?_
  refine r_callV0 (ci := 7) (d1 := 0) (c1 := 0) (n1 := 0) dX11_count_91 mvX11_292 rfl ⟨(Nat.le_of_ble_eq_true rfl), rfl⟩ (Nat.le_of_ble_eq_true rfl) (by exact Nat.le_of_ble_eq_true rfl) (by exact k_157 hF) ?_
  refine S_X7_filled (by exact k_157 hF) ?_
  rw [show ldI m 157 1 = nI n2 from hS157.1]
  show Wp g mX11_count _ _ _ 94 _ (_ :: _) _ Q
  refine r_ireturn dX11_count_94 rfl rfl ?_
  exact k
theorem S_count4 {g : GG} {m : MM} {Q : Out → Prop} {f : Nat → Int32} {fs : Nat → Nat → Int32} {ic : Nat} {tp : Nat → Int32} {tn : Nat} {pl : Int32} {n1 : Nat} {T1 : Nat → (Nat → Int64) → Nat → Int64} {n2 : Nat} {T2 : Nat → (Nat → Int64) → Nat → Int64} (hC : CI f fs ic tp tn pl n1 T1 n2 T2 m) (k : Q (.inl (some (.int (coV f ic tn n1 n2 4))), m)) : Cl g 2 0 0 mX11_count [.ref 4, .int 4] m Q := by
  refine Cl.of rfl (by decide) (Nat.le_of_ble_eq_true rfl) ?_
  show Wp g mX11_count 2 0 0 0 [.ref 4, .int 4] [] m Q
  have hF := hC.1
  have hV := hC.2.1
  have hW := hC.2.2.1
  have hS155 := hC.2.2.2.2.2.2.1
  have hS157 := hC.2.2.2.2.2.2.2
  refine r_iload_n dX11_count_0 rfl ?_
  refine r_tabIn 95 dX11_count_1 (by decide) (by decide) rfl rfl ?_
  refine r_aload_n dX11_count_95 rfl ?_
  refine r_getRc dX11_count_96 fgX11_12 rfl (by exact k_4 hF) (by exact r_4_0 hF) ?_
  refine r_callV0 (ci := 10) (d1 := 1) (c1 := 0) (n1 := 0) dX11_count_99 mvX11_196 rfl ⟨(Nat.le_of_ble_eq_true rfl), rfl⟩ (Nat.le_of_ble_eq_true rfl) (by exact Nat.le_of_ble_eq_true rfl) (by exact k_5 hF) ?_
  refine S_runN hF hV hW ?_
  show Wp g mX11_count _ _ _ 102 _ (_ :: _) _ Q
  refine r_ireturn dX11_count_102 rfl rfl ?_
  exact k
theorem S_count5 {g : GG} {m : MM} {Q : Out → Prop} {f : Nat → Int32} {fs : Nat → Nat → Int32} {ic : Nat} {tp : Nat → Int32} {tn : Nat} {pl : Int32} {n1 : Nat} {T1 : Nat → (Nat → Int64) → Nat → Int64} {n2 : Nat} {T2 : Nat → (Nat → Int64) → Nat → Int64} (hC : CI f fs ic tp tn pl n1 T1 n2 T2 m) (k : Q (.inl (some (.int (coV f ic tn n1 n2 5))), m)) : Cl g 2 0 0 mX11_count [.ref 4, .int 5] m Q := by
  refine Cl.of rfl (by decide) (Nat.le_of_ble_eq_true rfl) ?_
  show Wp g mX11_count 2 0 0 0 [.ref 4, .int 5] [] m Q
  have hF := hC.1
  have hV := hC.2.1
  have hW := hC.2.2.1
  have hS155 := hC.2.2.2.2.2.2.1
  have hS157 := hC.2.2.2.2.2.2.2
  refine r_iload_n dX11_count_0 rfl ?_
  refine r_tabIn 103 dX11_count_1 (by decide) (by decide) rfl rfl ?_
  refine r_aload_n dX11_count_103 rfl ?_
  refine r_getRc dX11_count_104 fgX11_12 rfl (by exact k_4 hF) (by exact r_4_0 hF) ?_
  refine r_getRc dX11_count_107 fgX11_219 rfl (by exact k_5 hF) (by exact r_5_6 hF) ?_
  refine r_callV0 (ci := 8) (d1 := 1) (c1 := 0) (n1 := 0) dX11_count_110 mvX11_228 rfl ⟨(Nat.le_of_ble_eq_true rfl), rfl⟩ (Nat.le_of_ble_eq_true rfl) (by exact Nat.le_of_ble_eq_true rfl) (by exact k_32 hF) ?_
  refine S_X8_known hF ?_
  rw [show ldI m 33 1 = f 3 from hW.2.2.2.2.2.1.1]
  show Wp g mX11_count _ _ _ 113 _ (_ :: _) _ Q
  refine r_ireturn dX11_count_113 rfl rfl ?_
  exact k
theorem S_count6 {g : GG} {m : MM} {Q : Out → Prop} {f : Nat → Int32} {fs : Nat → Nat → Int32} {ic : Nat} {tp : Nat → Int32} {tn : Nat} {pl : Int32} {n1 : Nat} {T1 : Nat → (Nat → Int64) → Nat → Int64} {n2 : Nat} {T2 : Nat → (Nat → Int64) → Nat → Int64} (hC : CI f fs ic tp tn pl n1 T1 n2 T2 m) (k : Q (.inl (some (.int (coV f ic tn n1 n2 6))), m)) : Cl g 2 0 0 mX11_count [.ref 4, .int 6] m Q := by
  refine Cl.of rfl (by decide) (Nat.le_of_ble_eq_true rfl) ?_
  show Wp g mX11_count 2 0 0 0 [.ref 4, .int 6] [] m Q
  have hF := hC.1
  have hV := hC.2.1
  have hW := hC.2.2.1
  have hS155 := hC.2.2.2.2.2.2.1
  have hS157 := hC.2.2.2.2.2.2.2
  refine r_iload_n dX11_count_0 rfl ?_
  refine r_tabIn 114 dX11_count_1 (by decide) (by decide) rfl rfl ?_
  refine r_aload_n dX11_count_114 rfl ?_
  refine r_getRc dX11_count_115 fgX11_12 rfl (by exact k_4 hF) (by exact r_4_0 hF) ?_
  refine r_getRc dX11_count_118 fgX11_257 rfl (by exact k_5 hF) (by exact r_5_7 hF) ?_
  refine r_callV0 (ci := 5) (d1 := 0) (c1 := 0) (n1 := 0) dX11_count_121 mvX11_99 rfl ⟨(Nat.le_of_ble_eq_true rfl), rfl⟩ (Nat.le_of_ble_eq_true rfl) (by exact Nat.le_of_ble_eq_true rfl) (by exact k_35 hF) ?_
  refine S_X5_filled (by exact k_35 hF) ?_
  rw [show ldI m 35 1 = f 4 from hW.2.2.2.2.2.2.1.1]
  show Wp g mX11_count _ _ _ 124 _ (_ :: _) _ Q
  refine r_ireturn dX11_count_124 rfl rfl ?_
  exact k
theorem S_count7 {g : GG} {m : MM} {Q : Out → Prop} {f : Nat → Int32} {fs : Nat → Nat → Int32} {ic : Nat} {tp : Nat → Int32} {tn : Nat} {pl : Int32} {n1 : Nat} {T1 : Nat → (Nat → Int64) → Nat → Int64} {n2 : Nat} {T2 : Nat → (Nat → Int64) → Nat → Int64} (hC : CI f fs ic tp tn pl n1 T1 n2 T2 m) (k : Q (.inl (some (.int (coV f ic tn n1 n2 7))), m)) : Cl g 2 0 0 mX11_count [.ref 4, .int 7] m Q := by
  refine Cl.of rfl (by decide) (Nat.le_of_ble_eq_true rfl) ?_
  show Wp g mX11_count 2 0 0 0 [.ref 4, .int 7] [] m Q
  have hF := hC.1
  have hV := hC.2.1
  have hW := hC.2.2.1
  have hS155 := hC.2.2.2.2.2.2.1
  have hS157 := hC.2.2.2.2.2.2.2
  refine r_iload_n dX11_count_0 rfl ?_
  refine r_tabIn 125 dX11_count_1 (by decide) (by decide) rfl rfl ?_
  refine r_aload_n dX11_count_125 rfl ?_
  refine r_getRc dX11_count_126 fgX11_12 rfl (by exact k_4 hF) (by exact r_4_0 hF) ?_
  refine r_getRc dX11_count_129 fgX11_293 rfl (by exact k_5 hF) (by exact r_5_8 hF) ?_
  refine r_callV0 (ci := 5) (d1 := 0) (c1 := 0) (n1 := 0) dX11_count_132 mvX11_99 rfl ⟨(Nat.le_of_ble_eq_true rfl), rfl⟩ (Nat.le_of_ble_eq_true rfl) (by exact Nat.le_of_ble_eq_true rfl) (by exact k_37 hF) ?_
  refine S_X5_filled (by exact k_37 hF) ?_
  rw [show ldI m 37 1 = f 5 from hW.2.2.2.2.2.2.2.1]
  show Wp g mX11_count _ _ _ 135 _ (_ :: _) _ Q
  refine r_ireturn dX11_count_135 rfl rfl ?_
  exact k
theorem S_count8 {g : GG} {m : MM} {Q : Out → Prop} {f : Nat → Int32} {fs : Nat → Nat → Int32} {ic : Nat} {tp : Nat → Int32} {tn : Nat} {pl : Int32} {n1 : Nat} {T1 : Nat → (Nat → Int64) → Nat → Int64} {n2 : Nat} {T2 : Nat → (Nat → Int64) → Nat → Int64} (hC : CI f fs ic tp tn pl n1 T1 n2 T2 m) (k : Q (.inl (some (.int (coV f ic tn n1 n2 8))), m)) : Cl g 2 0 0 mX11_count [.ref 4, .int 8] m Q := by
  refine Cl.of rfl (by decide) (Nat.le_of_ble_eq_true rfl) ?_
  show Wp g mX11_count 2 0 0 0 [.ref 4, .int 8] [] m Q
  have hF := hC.1
  have hV := hC.2.1
  have hW := hC.2.2.1
  have hS155 := hC.2.2.2.2.2.2.1
  have hS157 := hC.2.2.2.2.2.2.2
  refine r_iload_n dX11_count_0 rfl ?_
  refine r_tabIn 136 dX11_count_1 (by decide) (by decide) rfl rfl ?_
  refine r_aload_n dX11_count_136 rfl ?_
  refine r_getIc (nI ic) dX11_count_137 fgX11_280 rfl (by exact k_4 hF) (by exact hC.2.2.2.1.1) ?_
  refine r_ireturn dX11_count_140 rfl rfl ?_
  exact k
theorem S_count9 {g : GG} {m : MM} {Q : Out → Prop} {f : Nat → Int32} {fs : Nat → Nat → Int32} {ic : Nat} {tp : Nat → Int32} {tn : Nat} {pl : Int32} {n1 : Nat} {T1 : Nat → (Nat → Int64) → Nat → Int64} {n2 : Nat} {T2 : Nat → (Nat → Int64) → Nat → Int64} (hC : CI f fs ic tp tn pl n1 T1 n2 T2 m) (k : Q (.inl (some (.int (coV f ic tn n1 n2 9))), m)) : Cl g 2 0 0 mX11_count [.ref 4, .int 9] m Q := by
  refine Cl.of rfl (by decide) (Nat.le_of_ble_eq_true rfl) ?_
  show Wp g mX11_count 2 0 0 0 [.ref 4, .int 9] [] m Q
  have hF := hC.1
  have hV := hC.2.1
  have hW := hC.2.2.1
  have hS155 := hC.2.2.2.2.2.2.1
  have hS157 := hC.2.2.2.2.2.2.2
  refine r_iload_n dX11_count_0 rfl ?_
  refine r_tabIn 141 dX11_count_1 (by decide) (by decide) rfl rfl ?_
  refine r_aload_n dX11_count_141 rfl ?_
  refine r_getRc dX11_count_142 fgX11_25 rfl (by exact k_4 hF) (by exact r_4_2 hF) ?_
  refine r_callV0 (ci := 5) (d1 := 0) (c1 := 0) (n1 := 0) dX11_count_145 mvX11_99 rfl ⟨(Nat.le_of_ble_eq_true rfl), rfl⟩ (Nat.le_of_ble_eq_true rfl) (by exact Nat.le_of_ble_eq_true rfl) (by exact k_150 hF) ?_
  refine S_X5_filled (by exact k_150 hF) ?_
  rw [show ldI m 150 1 = nI tn from hC.2.2.2.2.1.1]
  show Wp g mX11_count _ _ _ 148 _ (_ :: _) _ Q
  refine r_ireturn dX11_count_148 rfl rfl ?_
  exact k
theorem S_count10 {g : GG} {m : MM} {Q : Out → Prop} {f : Nat → Int32} {fs : Nat → Nat → Int32} {ic : Nat} {tp : Nat → Int32} {tn : Nat} {pl : Int32} {n1 : Nat} {T1 : Nat → (Nat → Int64) → Nat → Int64} {n2 : Nat} {T2 : Nat → (Nat → Int64) → Nat → Int64} (hC : CI f fs ic tp tn pl n1 T1 n2 T2 m) (k : Q (.inl (some (.int (coV f ic tn n1 n2 10))), m)) : Cl g 2 0 0 mX11_count [.ref 4, .int 10] m Q := by
  refine Cl.of rfl (by decide) (Nat.le_of_ble_eq_true rfl) ?_
  show Wp g mX11_count 2 0 0 0 [.ref 4, .int 10] [] m Q
  have hF := hC.1
  have hV := hC.2.1
  have hW := hC.2.2.1
  have hS155 := hC.2.2.2.2.2.2.1
  have hS157 := hC.2.2.2.2.2.2.2
  refine r_iload_n dX11_count_0 rfl ?_
  refine r_tabIn 149 dX11_count_1 (by decide) (by decide) rfl rfl ?_
  refine r_aload_n dX11_count_149 rfl ?_
  refine r_getRc dX11_count_150 fgX11_12 rfl (by exact k_4 hF) (by exact r_4_0 hF) ?_
  refine r_getIc (f 6) dX11_count_153 fgX11_205 rfl (by exact k_5 hF) (by exact hW.1.2) ?_
  refine r_ireturn dX11_count_156 rfl rfl ?_
  exact k
theorem S_countO {g : GG} {m : MM} {Q : Out → Prop} {x : Int32} (h : x.toInt < 0 ∨ 10 < x.toInt) (k : Q (.inl (some (.int (-1))), m)) : Cl g 2 0 0 mX11_count [.ref 4, .int x] m Q := by
  refine Cl.of rfl (by decide) (Nat.le_of_ble_eq_true rfl) ?_
  show Wp g mX11_count 2 0 0 0 [.ref 4, .int x] [] m Q
  refine r_iload_n dX11_count_0 rfl ?_
  refine r_tabOut 157 dX11_count_1 h rfl ?_
  refine r_iconst (-1) dX11_count_157 rfl ?_
  refine r_ireturn dX11_count_158 rfl rfl ?_
  exact k
theorem S_X11_count {g : GG} {m : MM} {Q : Out → Prop} {f : Nat → Int32} {fs : Nat → Nat → Int32} {ic : Nat} {tp : Nat → Int32} {tn : Nat} {pl : Int32} {n1 : Nat} {T1 : Nat → (Nat → Int64) → Nat → Int64} {n2 : Nat} {T2 : Nat → (Nat → Int64) → Nat → Int64} (hC : CI f fs ic tp tn pl n1 T1 n2 T2 m) {x : Int32} (k1 : ∀ j, j < 11 → x = nI j → Q (.inl (some (.int (coV f ic tn n1 n2 j))), m)) (k0 : ¬ (0 ≤ x ∧ x ≤ 10) → Q (.inl (some (.int (-1))), m)) : Cl g 2 0 0 mX11_count [.ref 4, .int x] m Q := by
  by_cases h : 0 ≤ x ∧ x ≤ 10
  · obtain ⟨j, hj, rfl⟩ := i32_small 10 (by omega) h.1 h.2
    have k9 := k1 j (by omega) rfl
    rcases j with _ | _ | _ | _ | _ | _ | _ | _ | _ | _ | _ | j
    · exact S_count0 hC k9
    · exact S_count1 hC k9
    · exact S_count2 hC k9
    · exact S_count3 hC k9
    · exact S_count4 hC k9
    · exact S_count5 hC k9
    · exact S_count6 hC k9
    · exact S_count7 hC k9
    · exact S_count8 hC k9
    · exact S_count9 hC k9
    · exact S_count10 hC k9
    · omega
  · refine S_countO ?_ (k0 h)
    simp only [Int32.le_iff_toInt_le] at h
    have a2 : (0 : Int32).toInt = 0 := rfl
    have a3 : (10 : Int32).toInt = 10 := rfl
    omega
def byt (x : Int32) (k : Nat) : Int32 := us x (nI (24 - 8 * k)) &&& 255
def fdF (tp : Nat → Int32) (tn : Nat) (x : Int32) : Nat → Int32 := fun j => if j < tn then tp j else byt x (j - tn)
theorem byt_iv (x : Int32) (k : Nat) : iv 0 255 (byt x k) := by
  unfold iv byt
  have h : ((us x (nI (24 - 8 * k)) &&& 255) : Int32).toInt = (((us x (nI (24 - 8 * k))).toBitVec &&& 255#32).toInt) := by rfl
  rw [h, BitVec.toInt_eq_toNat_of_lt]
  · have := Nat.and_le_right (n := (us x (nI (24 - 8 * k))).toBitVec.toNat) (m := 255)
    rw [BitVec.toNat_and]; show _ ∧ (((us x (nI (24 - 8 * k))).toBitVec.toNat &&& 255 : Nat) : Int) ≤ 255; omega
  · have := Nat.and_le_right (n := (us x (nI (24 - 8 * k))).toBitVec.toNat) (m := 255)
    rw [BitVec.toNat_and]; show 2 * ((us x (nI (24 - 8 * k))).toBitVec.toNat &&& 255) < 2 ^ 32; omega
def fbM (m : MM) (tn : Nat) (x : Int32) : MM := stI (stI (stI (stI (stI (stI (stI (stI m 151 tn (byt x 0)) 150 1 (nI (tn + 1))) 151 (tn + 1) (byt x 1)) 150 1 (nI (tn + 1 + 1))) 151 (tn + 1 + 1) (byt x 2)) 150 1 (nI (tn + 1 + 1 + 1))) 151 (tn + 1 + 1 + 1) (byt x 3)) 150 1 (nI (tn + 1 + 1 + 1 + 1))
theorem fbM_off {m : MM} {tn : Nat} {x : Int32} : Off 150 151 m (fbM m tn x) := (((((((Off.rf.stI (by omega) (by omega)).stI (by omega) (by omega)).stI (by omega) (by omega)).stI (by omega) (by omega)).stI (by omega) (by omega)).stI (by omega) (by omega)).stI (by omega) (by omega)).stI (by omega) (by omega)
/-- a new tape -/
theorem CI.tap {f : Nat → Int32} {fs : Nat → Nat → Int32} {ic : Nat} {tp : Nat → Int32} {tn : Nat} {pl : Int32} {n1 : Nat} {T1 : Nat → (Nat → Int64) → Nat → Int64} {n2 : Nat} {T2 : Nat → (Nat → Int64) → Nat → Int64} {m m' : MM} {tp' : Nat → Int32} {tn' : Nat} (h : CI f fs ic tp tn pl n1 T1 n2 T2 m) (o : Off 150 151 m m') (h1 : ldI m' 150 1 = nI tn') (h2 : tn' ≤ 400) (h3 : ∀ j, j < tn' → ldI m' 151 j = tp' j ∧ iv 0 255 (tp' j)) : CI f fs ic tp' tn' pl n1 T1 n2 T2 m' := by
  obtain ⟨a, b, c, ⟨d1, d2, d3⟩, ⟨e1, e2, e3⟩, g1, i1, i2⟩ := h
  exact ⟨Fx_of o.1 a, b, c.off o (by omega) b.1.1.2, ⟨((o.2 4 (by omega)).1 7).trans d1, d2, fun k hk => ⟨(d3 k hk).1, (d3 k hk).2.off o (by omega) (d3 k hk).1.1.1.2⟩⟩, ⟨h1, h2, h3⟩, ((o.2 4 (by omega)).1 8).trans g1, i1.off o (by omega) (by omega), i2.off o (by omega) (by omega)⟩
theorem CI_fb {f : Nat → Int32} {fs : Nat → Nat → Int32} {ic : Nat} {tp : Nat → Int32} {tn : Nat} {pl : Int32} {n1 : Nat} {T1 : Nat → (Nat → Int64) → Nat → Int64} {n2 : Nat} {T2 : Nat → (Nat → Int64) → Nat → Int64} {m : MM} {x : Int32} (h : CI f fs ic tp tn pl n1 T1 n2 T2 m) (ht : tn + 4 ≤ 400) : CI f fs ic (fdF tp tn x) (tn + 4) pl n1 T1 n2 T2 (fbM m tn x) := by
  refine h.tap fbM_off ld_s ht (fun j hj => ?_)
  have e := h.2.2.2.2.1.2.2
  by_cases q : j < tn
  · rw [show fdF tp tn x j = tp j from if_pos q]
    exact ⟨ld_n (by omega) (ld_n (by omega) (ld_n (by omega) (ld_n (by omega) (ld_n (by omega) (ld_n (by omega) (ld_n (by omega) (ld_n (by omega) (e j q).1))))))), (e j q).2⟩
  · rw [show fdF tp tn x j = byt x (j - tn) from if_neg q]
    refine ⟨?_, byt_iv x _⟩
    obtain ⟨u, rfl⟩ : ∃ u, j = tn + u := ⟨j - tn, by omega⟩
    rw [show tn + u - tn = u from by omega]
    rcases u with _ | _ | _ | _ | u
    · exact ld_n (by omega) (ld_n (by omega) (ld_n (by omega) (ld_n (by omega) (ld_n (by omega) (ld_n (by omega) (ld_n (by omega) ld_s))))))
    · exact ld_n (by omega) (ld_n (by omega) (ld_n (by omega) (ld_n (by omega) (ld_n (by omega) ld_s))))
    · exact ld_n (by omega) (ld_n (by omega) (ld_n (by omega) ld_s))
    · exact ld_n (by omega) ld_s
    · omega
theorem S_X11_feedBytes {g : GG} {m : MM} {Q : Out → Prop} (hF : Fx m) {tn : Nat} (hn : ldI m 150 1 = nI tn) (ht : tn + 4 ≤ 400) {x : Int32} (k : Q (.inl none, fbM m tn x)) : Cl g 1 0 0 mX11_feedBytes [.ref 4, .int x] m Q := by
  refine Cl.of rfl (by decide) (Nat.le_of_ble_eq_true rfl) ?_
  show Wp g mX11_feedBytes 1 0 0 0 [.ref 4, .int x, .retAddr 0] [] m Q
  refine r_bipush (24) dX11_feedBytes_0 rfl ?_
  refine si_2 dX11_feedBytes_2 rfl (Nat.le_of_ble_eq_true rfl) ?_
  refine r_iload_n dX11_feedBytes_3 rfl ?_
  refine r_if_lt 27 dX11_feedBytes_4 rfl (fun hz => absurd hz (by decide)) (fun _ => ?_)
  refine r_aload_n dX11_feedBytes_7 rfl ?_
  refine r_getRc dX11_feedBytes_8 fgX11_25 rfl (by exact k_4 hF) (by exact r_4_2 hF) ?_
  refine r_iload_n dX11_feedBytes_11 rfl ?_
  refine r_iload_n dX11_feedBytes_12 rfl ?_
  refine r_iushr dX11_feedBytes_13 ?_
  refine r_sipush (255) dX11_feedBytes_14 rfl ?_
  refine r_iand dX11_feedBytes_17 ?_
  refine r_callV1 (ci := 5) (d1 := 0) (c1 := 0) (n1 := 0) dX11_feedBytes_18 mvX11_260 rfl ⟨(Nat.le_of_ble_eq_true rfl), rfl⟩ (Nat.le_of_ble_eq_true rfl) (by exact Nat.le_of_ble_eq_true rfl) (by exact k_150 hF) ?_
  refine S_X5_add (m := m) (v := byt x 0) (a := 150) (c := 151) (z := 400) (n := tn) (by exact k_150 hF) (by exact r_150_0 hF) (by exact k_151 hF) (by omega) hn (by omega) (by decide) (fun _ => ?_) (fun h9 => absurd h9 (by omega))
  show Wp g mX11_feedBytes _ _ _ 21 _ [] _ Q
  refine ic_2 (-8) dX11_feedBytes_21 rfl rfl (Nat.le_of_ble_eq_true rfl) ?_
  refine r_goto 3 dX11_feedBytes_24 rfl ?_
  refine r_iload_n dX11_feedBytes_3 rfl ?_
  refine r_if_lt 27 dX11_feedBytes_4 rfl (fun hz => absurd hz (by decide)) (fun _ => ?_)
  refine r_aload_n dX11_feedBytes_7 rfl ?_
  refine r_getRc dX11_feedBytes_8 fgX11_25 rfl (by exact k_4 hF) (by exact r_4_2 hF) ?_
  refine r_iload_n dX11_feedBytes_11 rfl ?_
  refine r_iload_n dX11_feedBytes_12 rfl ?_
  refine r_iushr dX11_feedBytes_13 ?_
  refine r_sipush (255) dX11_feedBytes_14 rfl ?_
  refine r_iand dX11_feedBytes_17 ?_
  refine r_callV1 (ci := 5) (d1 := 0) (c1 := 0) (n1 := 0) dX11_feedBytes_18 mvX11_260 rfl ⟨(Nat.le_of_ble_eq_true rfl), rfl⟩ (Nat.le_of_ble_eq_true rfl) (by exact Nat.le_of_ble_eq_true rfl) (by exact k_150 hF) ?_
  refine S_X5_add (m := (stI (stI m 151 (tn) (byt x 0)) 150 1 (nI (tn + 1)))) (v := byt x 1) (a := 150) (c := 151) (z := 400) (n := tn + 1) (by exact k_150 hF) (by exact r_150_0 hF) (by exact k_151 hF) (by omega) ld_s (by omega) (by decide) (fun _ => ?_) (fun h9 => absurd h9 (by omega))
  show Wp g mX11_feedBytes _ _ _ 21 _ [] _ Q
  refine ic_2 (-8) dX11_feedBytes_21 rfl rfl (Nat.le_of_ble_eq_true rfl) ?_
  refine r_goto 3 dX11_feedBytes_24 rfl ?_
  refine r_iload_n dX11_feedBytes_3 rfl ?_
  refine r_if_lt 27 dX11_feedBytes_4 rfl (fun hz => absurd hz (by decide)) (fun _ => ?_)
  refine r_aload_n dX11_feedBytes_7 rfl ?_
  refine r_getRc dX11_feedBytes_8 fgX11_25 rfl (by exact k_4 hF) (by exact r_4_2 hF) ?_
  refine r_iload_n dX11_feedBytes_11 rfl ?_
  refine r_iload_n dX11_feedBytes_12 rfl ?_
  refine r_iushr dX11_feedBytes_13 ?_
  refine r_sipush (255) dX11_feedBytes_14 rfl ?_
  refine r_iand dX11_feedBytes_17 ?_
  refine r_callV1 (ci := 5) (d1 := 0) (c1 := 0) (n1 := 0) dX11_feedBytes_18 mvX11_260 rfl ⟨(Nat.le_of_ble_eq_true rfl), rfl⟩ (Nat.le_of_ble_eq_true rfl) (by exact Nat.le_of_ble_eq_true rfl) (by exact k_150 hF) ?_
  refine S_X5_add (m := (stI (stI (stI (stI m 151 (tn) (byt x 0)) 150 1 (nI (tn + 1))) 151 (tn + 1) (byt x 1)) 150 1 (nI (tn + 1 + 1)))) (v := byt x 2) (a := 150) (c := 151) (z := 400) (n := tn + 1 + 1) (by exact k_150 hF) (by exact r_150_0 hF) (by exact k_151 hF) (by omega) ld_s (by omega) (by decide) (fun _ => ?_) (fun h9 => absurd h9 (by omega))
  show Wp g mX11_feedBytes _ _ _ 21 _ [] _ Q
  refine ic_2 (-8) dX11_feedBytes_21 rfl rfl (Nat.le_of_ble_eq_true rfl) ?_
  refine r_goto 3 dX11_feedBytes_24 rfl ?_
  refine r_iload_n dX11_feedBytes_3 rfl ?_
  refine r_if_lt 27 dX11_feedBytes_4 rfl (fun hz => absurd hz (by decide)) (fun _ => ?_)
  refine r_aload_n dX11_feedBytes_7 rfl ?_
  refine r_getRc dX11_feedBytes_8 fgX11_25 rfl (by exact k_4 hF) (by exact r_4_2 hF) ?_
  refine r_iload_n dX11_feedBytes_11 rfl ?_
  refine r_iload_n dX11_feedBytes_12 rfl ?_
  refine r_iushr dX11_feedBytes_13 ?_
  refine r_sipush (255) dX11_feedBytes_14 rfl ?_
  refine r_iand dX11_feedBytes_17 ?_
  refine r_callV1 (ci := 5) (d1 := 0) (c1 := 0) (n1 := 0) dX11_feedBytes_18 mvX11_260 rfl ⟨(Nat.le_of_ble_eq_true rfl), rfl⟩ (Nat.le_of_ble_eq_true rfl) (by exact Nat.le_of_ble_eq_true rfl) (by exact k_150 hF) ?_
  refine S_X5_add (m := (stI (stI (stI (stI (stI (stI m 151 (tn) (byt x 0)) 150 1 (nI (tn + 1))) 151 (tn + 1) (byt x 1)) 150 1 (nI (tn + 1 + 1))) 151 (tn + 1 + 1) (byt x 2)) 150 1 (nI (tn + 1 + 1 + 1)))) (v := byt x 3) (a := 150) (c := 151) (z := 400) (n := tn + 1 + 1 + 1) (by exact k_150 hF) (by exact r_150_0 hF) (by exact k_151 hF) (by omega) ld_s (by omega) (by decide) (fun _ => ?_) (fun h9 => absurd h9 (by omega))
  show Wp g mX11_feedBytes _ _ _ 21 _ [] _ Q
  refine ic_2 (-8) dX11_feedBytes_21 rfl rfl (Nat.le_of_ble_eq_true rfl) ?_
  refine r_goto 3 dX11_feedBytes_24 rfl ?_
  refine r_iload_n dX11_feedBytes_3 rfl ?_
  refine r_if_lt 27 dX11_feedBytes_4 rfl (fun _ => ?_) (fun hz => absurd hz (by decide))
  refine r_return dX11_feedBytes_27 rfl ?_
  exact k
theorem fd_le {tn : Nat} (h : tn ≤ 400) : (nI tn + 20 ≤ 400) ↔ tn + 20 ≤ 400 := by
  rw [show nI tn + 20 = nI (tn + 20) from Int32.toInt_inj.mp (by rw [Int32.toInt_add, nI_int _ (by omega), nI_int _ (by omega)]; show Int.bmod ((tn : Int) + 20) (2 ^ 32) = _; rw [Int.bmod_eq_of_le (by omega) (by omega)]; omega), Int32.le_iff_toInt_le, nI_int _ (by omega)]
  show ((tn + 20 : Nat) : Int) ≤ 400 ↔ _
  omega
theorem S_X11_feed {g : GG} {m : MM} {Q : Out → Prop} {f : Nat → Int32} {fs : Nat → Nat → Int32} {ic : Nat} {tp : Nat → Int32} {tn : Nat} {pl : Int32} {n1 : Nat} {T1 : Nat → (Nat → Int64) → Nat → Int64} {n2 : Nat} {T2 : Nat → (Nat → Int64) → Nat → Int64} (hC : CI f fs ic tp tn pl n1 T1 n2 T2 m) {a0 b0 c0 d0 e0 : Int32} (kf : ¬ tn + 20 ≤ 400 → Q (.inl (some (.int (-1))), m)) (k : tn + 20 ≤ 400 → ∀ m', CI f fs ic (fdF (fdF (fdF (fdF (fdF tp tn a0) (tn + 4) b0) (tn + 4 + 4) c0) (tn + 4 + 4 + 4) d0) (tn + 4 + 4 + 4 + 4) e0) (tn + 4 + 4 + 4 + 4 + 4) pl n1 T1 n2 T2 m' → NoR m m' → Q (.inl (some (.int (nI (tn + 4 + 4 + 4 + 4 + 4)))), m')) : Cl g 2 0 0 mX11_feed [.ref 4, .int a0, .int b0, .int c0, .int d0, .int e0] m Q := by
  refine Cl.of rfl (by decide) (Nat.le_of_ble_eq_true rfl) ?_
  show Wp g mX11_feed 2 0 0 0 [.ref 4, .int a0, .int b0, .int c0, .int d0, .int e0] [] m Q
  have hF := hC.1
  have hV := hC.2.1
  have hW := hC.2.2.1
  have ht4 := hC.2.2.2.2.1.2.1
  refine r_aload_n dX11_feed_0 rfl ?_
  refine r_getRc dX11_feed_1 fgX11_25 rfl (by exact k_4 hF) (by exact r_4_2 hF) ?_
  refine r_callV0 (ci := 5) (d1 := 0) (c1 := 0) (n1 := 0) dX11_feed_4 mvX11_99 rfl ⟨(Nat.le_of_ble_eq_true rfl), rfl⟩ (Nat.le_of_ble_eq_true rfl) (by exact Nat.le_of_ble_eq_true rfl) (by exact k_150 hF) ?_
  refine S_X5_filled (by exact k_150 hF) ?_
  rw [show ldI m 150 1 = nI tn from hC.2.2.2.2.1.1]
  show Wp g mX11_feed _ _ _ 7 _ (_ :: _) _ Q
  refine r_bipush (20) dX11_feed_7 rfl ?_
  refine r_iadd dX11_feed_9 ?_
  refine r_sipush (400) dX11_feed_10 rfl ?_
  refine r_icmp_le 18 dX11_feed_13 rfl (fun hz => ?_) (fun hz => ?_)
  ·
    have hz9 := (fd_le ht4).mp hz
    refine r_aload_n dX11_feed_18 rfl ?_
    refine r_iload_n dX11_feed_19 rfl ?_
    refine r_callV1 (ci := 11) (d1 := 1) (c1 := 0) (n1 := 0) dX11_feed_20 mvX11_103 rfl ⟨(Nat.le_of_ble_eq_true rfl), rfl⟩ (Nat.le_of_ble_eq_true rfl) (by exact Nat.le_of_ble_eq_true rfl) (by exact k_4 hF) ?_
    refine S_X11_feedBytes hC.1 hC.2.2.2.2.1.1 (by omega) ?_
    have hC1 := CI_fb (x := a0) hC (by omega)
    have nr1 : NoR m (fbM m (tn) a0) := fbM_off.nor (by omega)
    generalize hM1 : fbM m (tn) a0 = M1 at hC1 nr1 ⊢
    show Wp g mX11_feed _ _ _ 23 _ [] _ Q
    refine r_aload_n dX11_feed_23 rfl ?_
    refine r_iload_n dX11_feed_24 rfl ?_
    refine r_callV1 (ci := 11) (d1 := 1) (c1 := 0) (n1 := 0) dX11_feed_25 mvX11_103 rfl ⟨(Nat.le_of_ble_eq_true rfl), rfl⟩ (Nat.le_of_ble_eq_true rfl) (by exact Nat.le_of_ble_eq_true rfl) (by exact k_4 hC1.1) ?_
    refine S_X11_feedBytes hC1.1 hC1.2.2.2.2.1.1 (by omega) ?_
    have hC2 := CI_fb (x := b0) hC1 (by omega)
    have nr2 : NoR m (fbM M1 (tn + 4) b0) := NoR.tr nr1 (fbM_off.nor (by omega))
    generalize hM2 : fbM M1 (tn + 4) b0 = M2 at hC2 nr2 ⊢
    show Wp g mX11_feed _ _ _ 28 _ [] _ Q
    refine r_aload_n dX11_feed_28 rfl ?_
    refine r_iload_n dX11_feed_29 rfl ?_
    refine r_callV1 (ci := 11) (d1 := 1) (c1 := 0) (n1 := 0) dX11_feed_30 mvX11_103 rfl ⟨(Nat.le_of_ble_eq_true rfl), rfl⟩ (Nat.le_of_ble_eq_true rfl) (by exact Nat.le_of_ble_eq_true rfl) (by exact k_4 hC2.1) ?_
    refine S_X11_feedBytes hC2.1 hC2.2.2.2.2.1.1 (by omega) ?_
    have hC3 := CI_fb (x := c0) hC2 (by omega)
    have nr3 : NoR m (fbM M2 (tn + 4 + 4) c0) := NoR.tr nr2 (fbM_off.nor (by omega))
    generalize hM3 : fbM M2 (tn + 4 + 4) c0 = M3 at hC3 nr3 ⊢
    show Wp g mX11_feed _ _ _ 33 _ [] _ Q
    refine r_aload_n dX11_feed_33 rfl ?_
    refine r_iload dX11_feed_34 rfl ?_
    refine r_callV1 (ci := 11) (d1 := 1) (c1 := 0) (n1 := 0) dX11_feed_36 mvX11_103 rfl ⟨(Nat.le_of_ble_eq_true rfl), rfl⟩ (Nat.le_of_ble_eq_true rfl) (by exact Nat.le_of_ble_eq_true rfl) (by exact k_4 hC3.1) ?_
    refine S_X11_feedBytes hC3.1 hC3.2.2.2.2.1.1 (by omega) ?_
    have hC4 := CI_fb (x := d0) hC3 (by omega)
    have nr4 : NoR m (fbM M3 (tn + 4 + 4 + 4) d0) := NoR.tr nr3 (fbM_off.nor (by omega))
    generalize hM4 : fbM M3 (tn + 4 + 4 + 4) d0 = M4 at hC4 nr4 ⊢
    show Wp g mX11_feed _ _ _ 39 _ [] _ Q
    refine r_aload_n dX11_feed_39 rfl ?_
    refine r_iload dX11_feed_40 rfl ?_
    refine r_callV1 (ci := 11) (d1 := 1) (c1 := 0) (n1 := 0) dX11_feed_42 mvX11_103 rfl ⟨(Nat.le_of_ble_eq_true rfl), rfl⟩ (Nat.le_of_ble_eq_true rfl) (by exact Nat.le_of_ble_eq_true rfl) (by exact k_4 hC4.1) ?_
    refine S_X11_feedBytes hC4.1 hC4.2.2.2.2.1.1 (by omega) ?_
    have hC5 := CI_fb (x := e0) hC4 (by omega)
    have nr5 : NoR m (fbM M4 (tn + 4 + 4 + 4 + 4) e0) := NoR.tr nr4 (fbM_off.nor (by omega))
    generalize hM5 : fbM M4 (tn + 4 + 4 + 4 + 4) e0 = M5 at hC5 nr5 ⊢
    show Wp g mX11_feed _ _ _ 45 _ [] _ Q
    refine r_aload_n dX11_feed_45 rfl ?_
    refine r_getRc dX11_feed_46 fgX11_25 rfl (by exact k_4 hC5.1) (by exact r_4_2 hC5.1) ?_
    refine r_callV0 (ci := 5) (d1 := 0) (c1 := 0) (n1 := 0) dX11_feed_49 mvX11_99 rfl ⟨(Nat.le_of_ble_eq_true rfl), rfl⟩ (Nat.le_of_ble_eq_true rfl) (by exact Nat.le_of_ble_eq_true rfl) (by exact k_150 hC5.1) ?_
    refine S_X5_filled (by exact k_150 hC5.1) ?_
    rw [hC5.2.2.2.2.1.1]
    show Wp g mX11_feed _ _ _ 52 _ (_ :: _) _ Q
    refine r_ireturn dX11_feed_52 rfl rfl ?_
    exact k ((fd_le ht4).mp hz) _ hC5 nr5
  ·
    refine r_iconst (-1) dX11_feed_16 rfl ?_
    refine r_ireturn dX11_feed_17 rfl rfl ?_
    exact kf (fun q => hz ((fd_le ht4).mpr q))
