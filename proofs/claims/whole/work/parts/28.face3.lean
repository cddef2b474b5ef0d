def sedF (f : Nat → Int32) (v : Int32) : Nat → Int32 := upF f 6 v
theorem Vf_sed {f : Nat → Int32} {v : Int32} (hV : Vf f) : Vf (sedF f v) := Vf_S hV (fun z hz => upF_n hz rfl)
theorem Wd_sed {f : Nat → Int32} {m : MM} {v : Int32} (hV : Vf f) (hW : Wd f 5 m) : Wd (sedF f v) 5 (stI m 5 10 v) := by
  have o : Off 5 5 m (stI m 5 10 v) := Off.rf.stI (by omega) (by omega)
  exact Wd_S hV hW (fun z hz => upF_n hz rfl) (ld_n (by decide) rfl) (fun a ha _ _ k => (o.2 a (by omega)).1 k) (ld_s.trans upF_s.symm)
theorem S_X11_seed {g : GG} {m : MM} {Q : Out → Prop} {f : Nat → Int32} {fs : Nat → Nat → Int32} {ic : Nat} {tp : Nat → Int32} {tn : Nat} {pl : Int32} {n1 : Nat} {T1 : Nat → (Nat → Int64) → Nat → Int64} {n2 : Nat} {T2 : Nat → (Nat → Int64) → Nat → Int64} (hC : CI f fs ic tp tn pl n1 T1 n2 T2 m) {x : Int32} (k : ∀ m', CI (sedF f x) fs ic tp tn pl n1 T1 n2 T2 m' → NoR m m' → Q (.inl (some (.int (f 6))), m')) : Cl g 0 0 0 mX11_seed [.ref 4, .int x] m Q := by
  refine Cl.of rfl (by decide) (Nat.le_of_ble_eq_true rfl) ?_
  show Wp g mX11_seed 0 0 0 0 [.ref 4, .int x, .retAddr 0] [] m Q
  have hF := hC.1
  have hV := hC.2.1
  have hW := hC.2.2.1
  refine r_aload_n dX11_seed_0 rfl ?_
  refine r_getRc dX11_seed_1 fgX11_12 rfl (by exact k_4 hF) (by exact r_4_0 hF) ?_
  refine r_getIc (f 6) dX11_seed_4 fgX11_205 rfl (by exact k_5 hF) (by exact hW.1.2) ?_
  refine si_2 dX11_seed_7 rfl (Nat.le_of_ble_eq_true rfl) ?_
  refine r_aload_n dX11_seed_8 rfl ?_
  refine r_getRc dX11_seed_9 fgX11_12 rfl (by exact k_4 hF) (by exact r_4_0 hF) ?_
  refine r_iload_n dX11_seed_12 rfl ?_
  refine r_putI dX11_seed_13 (fpX11_205 _ rfl) rfl (by exact k_5 hF) ⟨rfl, rfl⟩ ?_
  refine r_iload_n dX11_seed_16 rfl ?_
  refine r_ireturn dX11_seed_17 rfl rfl ?_
  exact k _ (hC.now (Off.rf.stI (by omega) (by omega)) (Vf_sed hV) (Wd_sed hV hW)) ((Off.rf (lo := 5) (hi := 5)).stI (by omega) (by omega) |>.nor (by omega))
def aneF (f : Nat → Int32) : Nat → Int32 := upF f 4 0
theorem aneF_M {f : Nat → Int32} : nM (aneF f) = 0 := by show (upF f 4 0 4).toNatClampNeg = _; rw [upF_s]; rfl
theorem Vf_ane {f : Nat → Int32} (hV : Vf f) : Vf (aneF f) := Vf_M hV (fun z hz => upF_n (by omega) rfl) (by rw [aneF_M]; exact ⟨upF_s, by omega⟩) (by rw [aneF_M]; exact fun j hj => absurd hj (by omega))
theorem Wd_ane {f : Nat → Int32} {m : MM} (hV : Vf f) (hW : Wd f 5 m) : Wd (aneF f) 5 (stI m 35 1 0) := by
  have o : Off 35 35 m (stI m 35 1 0) := Off.rf.stI (by omega) (by omega)
  exact Wd_M hV hW (fun z hz => upF_n (by omega) rfl) ((o.2 5 (by omega)).1 1) ((o.2 5 (by omega)).1 10) (fun a ha _ _ k => (o.2 a (by omega)).1 k) ⟨ld_s.trans upF_s.symm, by rw [aneF_M]; exact fun j hj => absurd hj (by omega)⟩
theorem S_X11_anew {g : GG} {m : MM} {Q : Out → Prop} {f : Nat → Int32} {fs : Nat → Nat → Int32} {ic : Nat} {tp : Nat → Int32} {tn : Nat} {pl : Int32} {n1 : Nat} {T1 : Nat → (Nat → Int64) → Nat → Int64} {n2 : Nat} {T2 : Nat → (Nat → Int64) → Nat → Int64} (hC : CI f fs ic tp tn pl n1 T1 n2 T2 m) (k : ∀ m', CI (aneF f) fs ic tp tn pl n1 T1 n2 T2 m' → NoR m m' → Q (.inl (some (.int (f 4))), m')) : Cl g 1 0 0 mX11_anew [.ref 4] m Q := by
  refine Cl.of rfl (by decide) (Nat.le_of_ble_eq_true rfl) ?_
  show Wp g mX11_anew 1 0 0 0 [.ref 4, .retAddr 0] [] m Q
  have hF := hC.1
  have hV := hC.2.1
  have hW := hC.2.2.1
  refine r_aload_n dX11_anew_0 rfl ?_
  refine r_getRc dX11_anew_1 fgX11_12 rfl (by exact k_4 hF) (by exact r_4_0 hF) ?_
  refine r_getRc dX11_anew_4 fgX11_257 rfl (by exact k_5 hF) (by exact r_5_7 hF) ?_
  refine r_callV0 (ci := 5) (d1 := 0) (c1 := 0) (n1 := 0) dX11_anew_7 mvX11_99 rfl ⟨(Nat.le_of_ble_eq_true rfl), rfl⟩ (Nat.le_of_ble_eq_true rfl) (by exact Nat.le_of_ble_eq_true rfl) (by exact k_35 hF) ?_
  refine S_X5_filled (by exact k_35 hF) ?_
  rw [show ldI m 35 1 = f 4 from hW.2.2.2.2.2.2.1.1]
  show Wp g mX11_anew _ _ _ 10 _ (_ :: _) _ Q
  refine si_1 dX11_anew_10 rfl (Nat.le_of_ble_eq_true rfl) ?_
  refine r_aload_n dX11_anew_11 rfl ?_
  refine r_getRc dX11_anew_12 fgX11_12 rfl (by exact k_4 hF) (by exact r_4_0 hF) ?_
  refine r_getRc dX11_anew_15 fgX11_257 rfl (by exact k_5 hF) (by exact r_5_7 hF) ?_
  refine r_callV0 (ci := 5) (d1 := 0) (c1 := 0) (n1 := 0) dX11_anew_18 mvX11_110 rfl ⟨(Nat.le_of_ble_eq_true rfl), rfl⟩ (Nat.le_of_ble_eq_true rfl) (by exact Nat.le_of_ble_eq_true rfl) (by exact k_35 hF) ?_
  refine S_X5_empty (by exact k_35 hF) ?_
  show Wp g mX11_anew _ _ _ 21 _ [] _ Q
  refine r_iload_n dX11_anew_21 rfl ?_
  refine r_ireturn dX11_anew_22 rfl rfl ?_
  exact k _ (hC.now (Off.rf.stI (by omega) (by omega)) (Vf_ane hV) (Wd_ane hV hW)) ((Off.rf (lo := 35) (hi := 35)).stI (by omega) (by omega) |>.nor (by omega))
def milF (f : Nat → Int32) (x y : Int32) : Nat → Int32 := upF (upF (upF f (637 + 2 * nM f) x) (638 + 2 * nM f) y) 4 (nI (nM f + 1))
theorem milF_M {f : Nat → Int32} {x y : Int32} (h : nM f < 6) : nM (milF f x y) = nM f + 1 := by show (upF _ 4 _ 4).toNatClampNeg = _; rw [upF_s, nI_cl _ (by omega)]
theorem milF_o {f : Nat → Int32} {x y : Int32} {z : Nat} (h : z ≠ 4) (h1 : z ≠ 637 + 2 * nM f) (h2 : z ≠ 638 + 2 * nM f) : milF f x y z = f z := upF_n h (upF_n h2 (upF_n h1 rfl))
theorem milF_x {f : Nat → Int32} {x y : Int32} : milF f x y (637 + 2 * nM f) = x := upF_n (by omega) (upF_n (by omega) upF_s)
theorem milF_y {f : Nat → Int32} {x y : Int32} : milF f x y (638 + 2 * nM f) = y := upF_n (by omega) upF_s
theorem Vf_mil {f : Nat → Int32} {x y : Int32} (hV : Vf f) (h : nM f < 6) (hx : iv 0 999 x) (hy : iv (-99) 99 y) : Vf (milF f x y) := by
  refine Vf_M hV (fun z hz => milF_o (by omega) (by omega) (by omega)) ?_ ?_
  · rw [milF_M h]; exact ⟨upF_s, by omega⟩
  · rw [milF_M h]
    intro j hj
    by_cases q : j = nM f
    · subst q; rw [milF_x, milF_y]; exact ⟨hx, hy⟩
    · rw [milF_o (by omega) (by omega) (by omega), milF_o (by omega) (by omega) (by omega)]; exact hV.2.2.2.2.2.2.1 j (by omega)
theorem Wd_mil {f : Nat → Int32} {m : MM} {x y : Int32} (hV : Vf f) (hW : Wd f 5 m) (h : nM f < 6) : Wd (milF f x y) 5 (stI (stI m 36 (nM f) (x + y / 10)) 35 1 (nI (nM f + 1))) := by
  have o : Off 35 36 m (stI (stI m 36 (nM f) (x + y / 10)) 35 1 (nI (nM f + 1))) := (Off.rf.stI (by omega) (by omega)).stI (by omega) (by omega)
  refine Wd_M hV hW (fun z hz => milF_o (by omega) (by omega) (by omega)) ((o.2 5 (by omega)).1 1) ((o.2 5 (by omega)).1 10) (fun a ha _ _ k => (o.2 a (by omega)).1 k) ⟨ld_s.trans (show milF f x y 4 = _ from upF_s).symm, ?_⟩
  rw [milF_M h]
  intro j hj
  by_cases q : j = nM f
  · subst q; rw [milF_x, milF_y]; exact ld_n (by omega) ld_s
  · rw [milF_o (by omega) (by omega) (by omega), milF_o (by omega) (by omega) (by omega)]; exact ld_n (by omega) (ld_n (by omega) (hW.2.2.2.2.2.2.1.2 j (by omega)))
theorem S_X11_mile {g : GG} {m : MM} {Q : Out → Prop} {f : Nat → Int32} {fs : Nat → Nat → Int32} {ic : Nat} {tp : Nat → Int32} {tn : Nat} {pl : Int32} {n1 : Nat} {T1 : Nat → (Nat → Int64) → Nat → Int64} {n2 : Nat} {T2 : Nat → (Nat → Int64) → Nat → Int64} (hC : CI f fs ic tp tn pl n1 T1 n2 T2 m) {x y : Int32} (kb : ¬ ((0 ≤ x ∧ x ≤ 999) ∧ -99 ≤ y ∧ y ≤ 99) → Q (.inr EIAE, m)) (kf : ((0 ≤ x ∧ x ≤ 999) ∧ -99 ≤ y ∧ y ≤ 99) → nM f = 6 → Q (.inl (some (.int (-1))), m)) (k : ((0 ≤ x ∧ x ≤ 999) ∧ -99 ≤ y ∧ y ≤ 99) → nM f < 6 → ∀ m', CI (milF f x y) fs ic tp tn pl n1 T1 n2 T2 m' → NoR m m' → Q (.inl (some (.int (nI (nM f + 1)))), m')) : Cl g 7 1 6 mX11_mile [.ref 4, .int x, .int y] m Q := by
  refine Cl.of rfl (by decide) (Nat.le_of_ble_eq_true rfl) ?_
  show Wp g mX11_mile 7 1 6 0 [.ref 4, .int x, .int y] [] m Q
  have hF := hC.1
  have hV := hC.2.1
  have hW := hC.2.2.1
  have hn := hW.2.2.2.2.2.2.1.1.trans hV.1.2.2.2.2.1.1
  have hM := hV.1.2.2.2.2.1.2
  refine r_iload_n dX11_mile_0 rfl ?_
  refine r_iconst (0) dX11_mile_1 rfl ?_
  refine r_sipush (999) dX11_mile_2 rfl ?_
  refine r_callS3 (d1 := 0) (c1 := 0) (n1 := 0) dX11_mile_5 msX11_59 rfl (Nat.le_of_ble_eq_true rfl) (by exact Nat.le_of_ble_eq_true rfl) ?_
  refine S_X11_isWithin (fun w5a w5b => ?_) (fun w5 => ?_)
  ·
    show Wp g mX11_mile _ _ _ 8 _ (_ :: _) _ Q
    refine r_if_eq 26 dX11_mile_8 rfl (fun hz => absurd hz (by decide)) (fun _ => ?_)
    refine r_iload_n dX11_mile_11 rfl ?_
    refine r_bipush (-99) dX11_mile_12 rfl ?_
    refine r_bipush (99) dX11_mile_14 rfl ?_
    refine r_callS3 (d1 := 0) (c1 := 0) (n1 := 0) dX11_mile_16 msX11_59 rfl (Nat.le_of_ble_eq_true rfl) (by exact Nat.le_of_ble_eq_true rfl) ?_
    refine S_X11_isWithin (fun w16a w16b => ?_) (fun w16 => ?_)
    ·
      show Wp g mX11_mile _ _ _ 19 _ (_ :: _) _ Q
      refine r_if_eq 26 dX11_mile_19 rfl (fun hz => absurd hz (by decide)) (fun _ => ?_)
      refine r_iconst (1) dX11_mile_22 rfl ?_
      refine r_goto 27 dX11_mile_23 rfl ?_
      refine r_callS1 (d1 := 6) (c1 := 1) (n1 := 6) dX11_mile_27 msX11_63 rfl (Nat.le_of_ble_eq_true rfl) (by exact Nat.le_of_ble_eq_true rfl) ?_
      refine S_demand1 ?_
      show Wp g mX11_mile _ _ _ 30 _ [] _ Q
      refine r_aload_n dX11_mile_30 rfl ?_
      refine r_getRc dX11_mile_31 fgX11_12 rfl (by exact k_4 hF) (by exact r_4_0 hF) ?_
      refine r_getRc dX11_mile_34 fgX11_257 rfl (by exact k_5 hF) (by exact r_5_7 hF) ?_
      refine r_callV0 (ci := 5) (d1 := 0) (c1 := 0) (n1 := 0) dX11_mile_37 mvX11_192 rfl ⟨(Nat.le_of_ble_eq_true rfl), rfl⟩ (Nat.le_of_ble_eq_true rfl) (by exact Nat.le_of_ble_eq_true rfl) (by exact k_35 hF) ?_
      refine S_X5_isFull (a := 35) (c := 36) (z := 6) (n := nM f) (by exact k_35 hF) (by exact r_35_0 hF) (by exact k_36 hF) (by omega) hn hM (fun h6 => ?_) (fun h6 => ?_)
      ·
        show Wp g mX11_mile _ _ _ 40 _ (_ :: _) _ Q
        refine r_if_eq 45 dX11_mile_40 rfl (fun hz => absurd hz (by decide)) (fun _ => ?_)
        refine r_iconst (-1) dX11_mile_43 rfl ?_
        refine r_ireturn dX11_mile_44 rfl rfl ?_
        exact kf ⟨⟨w5a, w5b⟩, ⟨w16a, w16b⟩⟩ h6
      ·
        show Wp g mX11_mile _ _ _ 40 _ (_ :: _) _ Q
        refine r_if_eq 45 dX11_mile_40 rfl (fun _ => ?_) (fun hz => absurd hz (by decide))
        refine r_aload_n dX11_mile_45 rfl ?_
        refine r_getRc dX11_mile_46 fgX11_12 rfl (by exact k_4 hF) (by exact r_4_0 hF) ?_
        refine r_getRc dX11_mile_49 fgX11_257 rfl (by exact k_5 hF) (by exact r_5_7 hF) ?_
        refine r_iload_n dX11_mile_52 rfl ?_
        refine r_iload_n dX11_mile_53 rfl ?_
        refine r_bipush (10) dX11_mile_54 rfl ?_
        refine r_idiv dX11_mile_56 (by decide) ?_
        refine r_iadd dX11_mile_57 ?_
        refine r_callV1 (ci := 5) (d1 := 0) (c1 := 0) (n1 := 0) dX11_mile_58 mvX11_260 rfl ⟨(Nat.le_of_ble_eq_true rfl), rfl⟩ (Nat.le_of_ble_eq_true rfl) (by exact Nat.le_of_ble_eq_true rfl) (by exact k_35 hF) ?_
        refine S_X5_add (a := 35) (c := 36) (z := 6) (n := nM f) (by exact k_35 hF) (by exact r_35_0 hF) (by exact k_36 hF) (by omega) hn hM (by decide) (fun _ => ?_) (fun h9 => absurd h9 (by omega))
        show Wp g mX11_mile _ _ _ 61 _ [] _ Q
        refine r_aload_n dX11_mile_61 rfl ?_
        refine r_getRc dX11_mile_62 fgX11_12 rfl (by exact k_4 hF) (by exact r_4_0 hF) ?_
        refine r_getRc dX11_mile_65 fgX11_257 rfl (by exact k_5 hF) (by exact r_5_7 hF) ?_
        refine r_callV0 (ci := 5) (d1 := 0) (c1 := 0) (n1 := 0) dX11_mile_68 mvX11_99 rfl ⟨(Nat.le_of_ble_eq_true rfl), rfl⟩ (Nat.le_of_ble_eq_true rfl) (by exact Nat.le_of_ble_eq_true rfl) (by exact k_35 hF) ?_
        refine S_X5_filled (by exact k_35 hF) ?_
        show Wp g mX11_mile _ _ _ 71 _ (_ :: _) _ Q
        refine r_ireturn dX11_mile_71 rfl rfl ?_
        have o9 : Off 35 36 m (stI (stI m 36 (nM f) (x + y / 10)) 35 1 (nI (nM f + 1))) := (Off.rf.stI (by omega) (by omega)).stI (by omega) (by omega)
        have k9 := k ⟨⟨w5a, w5b⟩, ⟨w16a, w16b⟩⟩ h6 _ (hC.now (o9.wd (by omega) (by omega)) (Vf_mil hV h6 (iv_mk w5a w5b) (iv_mk w16a w16b)) (Wd_mil hV hW h6)) (o9.nor (by omega))
        rw [show nI (nM f + 1) = ldI (stI (stI m 36 (nM f) (x + y / 10)) 35 1 (nI (nM f + 1))) 35 1 from ld_s.symm] at k9
        exact k9
    ·
      show Wp g mX11_mile _ _ _ 19 _ (_ :: _) _ Q
      refine r_if_eq 26 dX11_mile_19 rfl (fun _ => ?_) (fun hz => absurd hz (by decide))
      refine r_iconst (0) dX11_mile_26 rfl ?_
      refine r_callS1 (d1 := 6) (c1 := 1) (n1 := 6) dX11_mile_27 msX11_63 rfl (Nat.le_of_ble_eq_true rfl) (by exact Nat.le_of_ble_eq_true rfl) ?_
      refine S_demand0 ?_
      first | exact kb (fun q => w5 q.1) | exact kb (fun q => w16 q.2)
  ·
    show Wp g mX11_mile _ _ _ 8 _ (_ :: _) _ Q
    refine r_if_eq 26 dX11_mile_8 rfl (fun _ => ?_) (fun hz => absurd hz (by decide))
    refine r_iconst (0) dX11_mile_26 rfl ?_
    refine r_callS1 (d1 := 6) (c1 := 1) (n1 := 6) dX11_mile_27 msX11_63 rfl (Nat.le_of_ble_eq_true rfl) (by exact Nat.le_of_ble_eq_true rfl) ?_
    refine S_demand0 ?_
    first | exact kb (fun q => w5 q.1) | exact kb (fun q => w16 q.2)
def earF (f : Nat → Int32) (x y : Int32) : Nat → Int32 := upF (upF (upF f (33 + nE f) x) (53 + nE f) y) 3 (nI (nE f + 1))
theorem earF_E {f : Nat → Int32} {x y : Int32} (h : nE f < 20) : nE (earF f x y) = nE f + 1 := by show (upF _ 3 _ 3).toNatClampNeg = _; rw [upF_s, nI_cl _ (by omega)]
theorem earF_o {f : Nat → Int32} {x y : Int32} {z : Nat} (h : z ≠ 3) (h1 : z ≠ 33 + nE f) (h2 : z ≠ 53 + nE f) : earF f x y z = f z := upF_n h (upF_n h2 (upF_n h1 rfl))
theorem earF_x {f : Nat → Int32} {x y : Int32} : earF f x y (33 + nE f) = x := upF_n (by omega) (upF_n (by omega) upF_s)
theorem earF_y {f : Nat → Int32} {x y : Int32} : earF f x y (53 + nE f) = y := upF_n (by omega) upF_s
theorem Vf_ear {f : Nat → Int32} {x y : Int32} (hV : Vf f) (h : nE f < 20) (hx : iv 1 1000000000 x) (hy : iv 0 1000000000 y) : Vf (earF f x y) := by
  refine Vf_E hV (fun z hz => earF_o (by omega) (by omega) (by omega)) ?_ ?_
  · rw [earF_E h]; exact ⟨upF_s, by omega⟩
  · rw [earF_E h]
    intro j hj
    by_cases q : j = nE f
    · subst q; rw [earF_x, earF_y]; exact ⟨hx, hy⟩
    · rw [earF_o (by omega) (by omega) (by omega), earF_o (by omega) (by omega) (by omega)]; exact hV.2.2.2.2.2.1 j (by omega)
theorem Wd_ear {f : Nat → Int32} {m : MM} {x y : Int32} (hV : Vf f) (hW : Wd f 5 m) (h : nE f < 20) : Wd (earF f x y) 5 (stI (stI m 34 (nE f) (rat x y)) 33 1 (nI (nE f + 1))) := by
  have o : Off 33 34 m (stI (stI m 34 (nE f) (rat x y)) 33 1 (nI (nE f + 1))) := (Off.rf.stI (by omega) (by omega)).stI (by omega) (by omega)
  refine Wd_E hV hW (fun z hz => earF_o (by omega) (by omega) (by omega)) ((o.2 5 (by omega)).1 1) ((o.2 5 (by omega)).1 10) (fun a ha _ _ k => (o.2 a (by omega)).1 k) ⟨ld_s.trans (show earF f x y 3 = _ from upF_s).symm, ?_⟩
  rw [earF_E h]
  intro j hj
  by_cases q : j = nE f
  · subst q; rw [earF_x, earF_y]; exact ld_n (by omega) ld_s
  · rw [earF_o (by omega) (by omega) (by omega), earF_o (by omega) (by omega) (by omega)]; exact ld_n (by omega) (ld_n (by omega) (hW.2.2.2.2.2.1.2 j (by omega)))
theorem pos64 {x : Int32} (h : 1 ≤ x) : ¬ x.toInt64 = 0 := by
  intro q
  have := congrArg Int64.toInt q
  rw [Int32.toInt_toInt64] at this
  have h2 := Int32.le_iff_toInt_le.mp h
  rw [this] at h2
  exact absurd h2 (by decide)
theorem S_X11_earlier {g : GG} {m : MM} {Q : Out → Prop} {f : Nat → Int32} {fs : Nat → Nat → Int32} {ic : Nat} {tp : Nat → Int32} {tn : Nat} {pl : Int32} {n1 : Nat} {T1 : Nat → (Nat → Int64) → Nat → Int64} {n2 : Nat} {T2 : Nat → (Nat → Int64) → Nat → Int64} (hC : CI f fs ic tp tn pl n1 T1 n2 T2 m) {x y : Int32} (kb : ¬ ((1 ≤ x ∧ x ≤ 1000000000) ∧ 0 ≤ y ∧ y ≤ 1000000000) → Q (.inr EIAE, m)) (kf : ((1 ≤ x ∧ x ≤ 1000000000) ∧ 0 ≤ y ∧ y ≤ 1000000000) → nE f = 20 → Q (.inl (some (.int (-1))), m)) (k : ((1 ≤ x ∧ x ≤ 1000000000) ∧ 0 ≤ y ∧ y ≤ 1000000000) → nE f < 20 → ∀ m', CI (earF f x y) fs ic tp tn pl n1 T1 n2 T2 m' → NoR m m' → Q (.inl (some (.int (nI (nE f + 1)))), m')) : Cl g 7 1 6 mX11_earlier [.ref 4, .int x, .int y] m Q := by
  refine Cl.of rfl (by decide) (Nat.le_of_ble_eq_true rfl) ?_
  show Wp g mX11_earlier 7 1 6 0 [.ref 4, .int x, .int y] [] m Q
  have hF := hC.1
  have hV := hC.2.1
  have hW := hC.2.2.1
  have hn := hW.2.2.2.2.2.1.1.trans hV.1.2.2.2.1.1
  have hE := hV.1.2.2.2.1.2
  refine r_iload_n dX11_earlier_0 rfl ?_
  refine r_iconst (1) dX11_earlier_1 rfl ?_
  refine r_ldc (1000000000) dX11_earlier_2 ctX11_165 ?_
  refine r_callS3 (d1 := 0) (c1 := 0) (n1 := 0) dX11_earlier_4 msX11_59 rfl (Nat.le_of_ble_eq_true rfl) (by exact Nat.le_of_ble_eq_true rfl) ?_
  refine S_X11_isWithin (fun w4a w4b => ?_) (fun w4 => ?_)
  ·
    show Wp g mX11_earlier _ _ _ 7 _ (_ :: _) _ Q
    refine r_if_eq 24 dX11_earlier_7 rfl (fun hz => absurd hz (by decide)) (fun _ => ?_)
    refine r_iload_n dX11_earlier_10 rfl ?_
    refine r_iconst (0) dX11_earlier_11 rfl ?_
    refine r_ldc (1000000000) dX11_earlier_12 ctX11_165 ?_
    refine r_callS3 (d1 := 0) (c1 := 0) (n1 := 0) dX11_earlier_14 msX11_59 rfl (Nat.le_of_ble_eq_true rfl) (by exact Nat.le_of_ble_eq_true rfl) ?_
    refine S_X11_isWithin (fun w14a w14b => ?_) (fun w14 => ?_)
    ·
      show Wp g mX11_earlier _ _ _ 17 _ (_ :: _) _ Q
      refine r_if_eq 24 dX11_earlier_17 rfl (fun hz => absurd hz (by decide)) (fun _ => ?_)
      refine r_iconst (1) dX11_earlier_20 rfl ?_
      refine r_goto 25 dX11_earlier_21 rfl ?_
      refine r_callS1 (d1 := 6) (c1 := 1) (n1 := 6) dX11_earlier_25 msX11_63 rfl (Nat.le_of_ble_eq_true rfl) (by exact Nat.le_of_ble_eq_true rfl) ?_
      refine S_demand1 ?_
      show Wp g mX11_earlier _ _ _ 28 _ [] _ Q
      refine r_aload_n dX11_earlier_28 rfl ?_
      refine r_getRc dX11_earlier_29 fgX11_12 rfl (by exact k_4 hF) (by exact r_4_0 hF) ?_
      refine r_getRc dX11_earlier_32 fgX11_219 rfl (by exact k_5 hF) (by exact r_5_6 hF) ?_
      refine r_iload_n dX11_earlier_35 rfl ?_
      refine r_iload_n dX11_earlier_36 rfl ?_
      refine r_callV2 (ci := 8) (d1 := 1) (c1 := 0) (n1 := 0) dX11_earlier_37 mvX11_223 rfl ⟨(Nat.le_of_ble_eq_true rfl), rfl⟩ (Nat.le_of_ble_eq_true rfl) (by exact Nat.le_of_ble_eq_true rfl) (by exact k_32 hF) ?_
      refine S_X8_addShip hF hn hE (pos64 w4a) (fun h20 => ?_) (fun h20 => ?_)
      ·
        show Wp g mX11_earlier _ _ _ 40 _ (_ :: _) _ Q
        refine r_ireturn dX11_earlier_40 rfl rfl ?_
        exact kf ⟨⟨w4a, w4b⟩, ⟨w14a, w14b⟩⟩ h20
      ·
        show Wp g mX11_earlier _ _ _ 40 _ (_ :: _) _ Q
        refine r_ireturn dX11_earlier_40 rfl rfl ?_
        have o9 : Off 33 34 m (stI (stI m 34 (nE f) (rat x y)) 33 1 (nI (nE f + 1))) := (Off.rf.stI (by omega) (by omega)).stI (by omega) (by omega)
        exact k ⟨⟨w4a, w4b⟩, ⟨w14a, w14b⟩⟩ h20 _ (hC.now (o9.wd (by omega) (by omega)) (Vf_ear hV h20 (iv_mk w4a w4b) (iv_mk w14a w14b)) (Wd_ear hV hW h20)) (o9.nor (by omega))
    ·
      show Wp g mX11_earlier _ _ _ 17 _ (_ :: _) _ Q
      refine r_if_eq 24 dX11_earlier_17 rfl (fun _ => ?_) (fun hz => absurd hz (by decide))
      refine r_iconst (0) dX11_earlier_24 rfl ?_
      refine r_callS1 (d1 := 6) (c1 := 1) (n1 := 6) dX11_earlier_25 msX11_63 rfl (Nat.le_of_ble_eq_true rfl) (by exact Nat.le_of_ble_eq_true rfl) ?_
      refine S_demand0 ?_
      first | exact kb (fun q => w4 q.1) | exact kb (fun q => w14 q.2)
  ·
    show Wp g mX11_earlier _ _ _ 7 _ (_ :: _) _ Q
    refine r_if_eq 24 dX11_earlier_7 rfl (fun _ => ?_) (fun hz => absurd hz (by decide))
    refine r_iconst (0) dX11_earlier_24 rfl ?_
    refine r_callS1 (d1 := 6) (c1 := 1) (n1 := 6) dX11_earlier_25 msX11_63 rfl (Nat.le_of_ble_eq_true rfl) (by exact Nat.le_of_ble_eq_true rfl) ?_
    refine S_demand0 ?_
    first | exact kb (fun q => w4 q.1) | exact kb (fun q => w14 q.2)
def fouF (f : Nat → Int32) (x y : Int32) : Nat → Int32 := upF (upF (upF f (649 + 2 * nFo f) x) (650 + 2 * nFo f) y) 5 (nI (nFo f + 1))
theorem fouF_F {f : Nat → Int32} {x y : Int32} (h : nFo f < 8) : nFo (fouF f x y) = nFo f + 1 := by show (upF _ 5 _ 5).toNatClampNeg = _; rw [upF_s, nI_cl _ (by omega)]
theorem fouF_o {f : Nat → Int32} {x y : Int32} {z : Nat} (h : z ≠ 5) (h1 : z ≠ 649 + 2 * nFo f) (h2 : z ≠ 650 + 2 * nFo f) : fouF f x y z = f z := upF_n h (upF_n h2 (upF_n h1 rfl))
theorem fouF_x {f : Nat → Int32} {x y : Int32} : fouF f x y (649 + 2 * nFo f) = x := upF_n (by omega) (upF_n (by omega) upF_s)
theorem fouF_y {f : Nat → Int32} {x y : Int32} : fouF f x y (650 + 2 * nFo f) = y := upF_n (by omega) upF_s
theorem Vf_fou {f : Nat → Int32} {x y : Int32} (hV : Vf f) (h : nFo f < 8) (hx : iv 0 999 x) (hy : iv 0 999 y) (hl : nFo f = 0 ∨ f (649 + 2 * (nFo f - 1)) < x) : Vf (fouF f x y) := by
  refine Vf_F hV (fun z hz => fouF_o (by omega) (by omega) (by omega)) ?_ ⟨?_, ?_⟩
  · rw [fouF_F h]; exact ⟨upF_s, by omega⟩
  · rw [fouF_F h]
    intro j hj
    by_cases q : j = nFo f
    · subst q; rw [fouF_x, fouF_y]; exact ⟨hx, hy⟩
    · rw [fouF_o (by omega) (by omega) (by omega), fouF_o (by omega) (by omega) (by omega)]; exact hV.2.2.2.2.2.2.2.1 j (by omega)
  · rw [fouF_F h]
    intro j hj
    by_cases q : j + 1 = nFo f
    · rw [fouF_o (by omega) (by omega) (by omega), show 651 + 2 * j = 649 + 2 * nFo f from by omega, fouF_x]
      rcases hl with z | z
      · omega
      · rw [show j = nFo f - 1 from by omega]; exact z
    · rw [fouF_o (by omega) (by omega) (by omega), fouF_o (by omega) (by omega) (by omega)]; exact hV.2.2.2.2.2.2.2.2 j (by omega)
theorem adF_off {m : MM} {n : Nat} {x y : Int32} : Off 37 40 m (adF m n x y) := (((Off.rf.stI (by omega) (by omega)).stI (by omega) (by omega)).stI (by omega) (by omega)).stI (by omega) (by omega)
theorem Wd_fou {f : Nat → Int32} {m : MM} {x y : Int32} (hV : Vf f) (hW : Wd f 5 m) (h : nFo f < 8) : Wd (fouF f x y) 5 (adF m (nFo f) x y) := by
  have o := adF_off (m := m) (n := nFo f) (x := x) (y := y)
  refine Wd_F hV hW (fun z hz => fouF_o (by omega) (by omega) (by omega)) ((o.2 5 (by omega)).1 1) ((o.2 5 (by omega)).1 10) (fun a ha _ _ k => (o.2 a (by omega)).1 k) ⟨(ld_n (by decide) (ld_n (by omega) ld_s)).trans (show fouF f x y 5 = _ from upF_s).symm, ld_s.trans (show fouF f x y 5 = _ from upF_s).symm, ?_⟩
  rw [fouF_F h]
  intro j hj
  by_cases q : j = nFo f
  · subst q; rw [fouF_x, fouF_y]; exact ⟨ld_n (by omega) (ld_n (by omega) (ld_n (by omega) ld_s)), ld_n (by omega) ld_s⟩
  · rw [fouF_o (by omega) (by omega) (by omega), fouF_o (by omega) (by omega) (by omega)]
    exact ⟨ld_n (by omega) (ld_n (by omega) (ld_n (by omega) (ld_n (by omega) (hW.2.2.2.2.2.2.2.2.2 j (by omega)).1))), ld_n (by omega) (ld_n (by omega) (ld_n (by omega) (ld_n (by omega) (hW.2.2.2.2.2.2.2.2.2 j (by omega)).2)))⟩
theorem S_X11_foul {g : GG} {m : MM} {Q : Out → Prop} {f : Nat → Int32} {fs : Nat → Nat → Int32} {ic : Nat} {tp : Nat → Int32} {tn : Nat} {pl : Int32} {n1 : Nat} {T1 : Nat → (Nat → Int64) → Nat → Int64} {n2 : Nat} {T2 : Nat → (Nat → Int64) → Nat → Int64} (hC : CI f fs ic tp tn pl n1 T1 n2 T2 m) {x y : Int32} (kb : ¬ ((0 ≤ x ∧ x ≤ 999) ∧ 0 ≤ y ∧ y ≤ 999) → Q (.inr EIAE, m)) (k8 : ((0 ≤ x ∧ x ≤ 999) ∧ 0 ≤ y ∧ y ≤ 999) → nFo f = 8 → Q (.inl (some (.int (-1))), m)) (k2 : ((0 ≤ x ∧ x ≤ 999) ∧ 0 ≤ y ∧ y ≤ 999) → nFo f < 8 → 0 < nFo f → x ≤ f (649 + 2 * (nFo f - 1)) → Q (.inl (some (.int (-2))), m)) (k : ((0 ≤ x ∧ x ≤ 999) ∧ 0 ≤ y ∧ y ≤ 999) → nFo f < 8 → (nFo f = 0 ∨ f (649 + 2 * (nFo f - 1)) < x) → ∀ m', CI (fouF f x y) fs ic tp tn pl n1 T1 n2 T2 m' → NoR m m' → Q (.inl (some (.int (nI (nFo f + 1)))), m')) : Cl g 7 1 6 mX11_foul [.ref 4, .int x, .int y] m Q := by
  refine Cl.of rfl (by decide) (Nat.le_of_ble_eq_true rfl) ?_
  show Wp g mX11_foul 7 1 6 0 [.ref 4, .int x, .int y] [] m Q
  have hF := hC.1
  have hV := hC.2.1
  have hW := hC.2.2.1
  have hn := hW.2.2.2.2.2.2.2.1.trans hV.1.2.2.2.2.2.1
  have hn2 := hW.2.2.2.2.2.2.2.2.1.trans hV.1.2.2.2.2.2.1
  have hF8 := hV.1.2.2.2.2.2.2
  refine r_iload_n dX11_foul_0 rfl ?_
  refine r_iconst (0) dX11_foul_1 rfl ?_
  refine r_sipush (999) dX11_foul_2 rfl ?_
  refine r_callS3 (d1 := 0) (c1 := 0) (n1 := 0) dX11_foul_5 msX11_59 rfl (Nat.le_of_ble_eq_true rfl) (by exact Nat.le_of_ble_eq_true rfl) ?_
  refine S_X11_isWithin (fun w5a w5b => ?_) (fun w5 => ?_)
  ·
    show Wp g mX11_foul _ _ _ 8 _ (_ :: _) _ Q
    refine r_if_eq 26 dX11_foul_8 rfl (fun hz => absurd hz (by decide)) (fun _ => ?_)
    refine r_iload_n dX11_foul_11 rfl ?_
    refine r_iconst (0) dX11_foul_12 rfl ?_
    refine r_sipush (999) dX11_foul_13 rfl ?_
    refine r_callS3 (d1 := 0) (c1 := 0) (n1 := 0) dX11_foul_16 msX11_59 rfl (Nat.le_of_ble_eq_true rfl) (by exact Nat.le_of_ble_eq_true rfl) ?_
    refine S_X11_isWithin (fun w16a w16b => ?_) (fun w16 => ?_)
    ·
      show Wp g mX11_foul _ _ _ 19 _ (_ :: _) _ Q
      refine r_if_eq 26 dX11_foul_19 rfl (fun hz => absurd hz (by decide)) (fun _ => ?_)
      refine r_iconst (1) dX11_foul_22 rfl ?_
      refine r_goto 27 dX11_foul_23 rfl ?_
      refine r_callS1 (d1 := 6) (c1 := 1) (n1 := 6) dX11_foul_27 msX11_63 rfl (Nat.le_of_ble_eq_true rfl) (by exact Nat.le_of_ble_eq_true rfl) ?_
      refine S_demand1 ?_
      show Wp g mX11_foul _ _ _ 30 _ [] _ Q
      refine r_aload_n dX11_foul_30 rfl ?_
      refine r_getRc dX11_foul_31 fgX11_12 rfl (by exact k_4 hF) (by exact r_4_0 hF) ?_
      refine r_iload_n dX11_foul_34 rfl ?_
      refine r_iload_n dX11_foul_35 rfl ?_
      refine r_callV2 (ci := 10) (d1 := 1) (c1 := 0) (n1 := 0) dX11_foul_36 mvX11_274 rfl ⟨(Nat.le_of_ble_eq_true rfl), rfl⟩ (Nat.le_of_ble_eq_true rfl) (by exact Nat.le_of_ble_eq_true rfl) (by exact k_5 hF) ?_
      refine S_X10_addFouling hF hn hn2 hF8 (fun h8 => ?_) (fun h8 hp h9 => ?_) (fun h8 h9 => ?_)
      ·
        show Wp g mX11_foul _ _ _ 39 _ (_ :: _) _ Q
        refine r_ireturn dX11_foul_39 rfl rfl ?_
        exact k8 ⟨⟨w5a, w5b⟩, ⟨w16a, w16b⟩⟩ h8
      ·
        show Wp g mX11_foul _ _ _ 39 _ (_ :: _) _ Q
        refine r_ireturn dX11_foul_39 rfl rfl ?_
        exact k2 ⟨⟨w5a, w5b⟩, ⟨w16a, w16b⟩⟩ h8 hp (by have z := (hW.2.2.2.2.2.2.2.2.2 (nFo f - 1) (by omega)).1; rw [← z]; exact h9)
      ·
        show Wp g mX11_foul _ _ _ 39 _ (_ :: _) _ Q
        refine r_ireturn dX11_foul_39 rfl rfl ?_
        have h9 : nFo f = 0 ∨ f (649 + 2 * (nFo f - 1)) < x := (Nat.eq_zero_or_pos (nFo f)).imp id (fun z => by rw [← (hW.2.2.2.2.2.2.2.2.2 (nFo f - 1) (by omega)).1]; exact h9.resolve_left (by omega))
        exact k ⟨⟨w5a, w5b⟩, ⟨w16a, w16b⟩⟩ h8 h9 _ (hC.now (adF_off.wd (by omega) (by omega)) (Vf_fou hV h8 (iv_mk w5a w5b) (iv_mk w16a w16b) h9) (Wd_fou hV hW h8)) (adF_off.nor (by omega))
    ·
      show Wp g mX11_foul _ _ _ 19 _ (_ :: _) _ Q
      refine r_if_eq 26 dX11_foul_19 rfl (fun _ => ?_) (fun hz => absurd hz (by decide))
      refine r_iconst (0) dX11_foul_26 rfl ?_
      refine r_callS1 (d1 := 6) (c1 := 1) (n1 := 6) dX11_foul_27 msX11_63 rfl (Nat.le_of_ble_eq_true rfl) (by exact Nat.le_of_ble_eq_true rfl) ?_
      refine S_demand0 ?_
      first | exact kb (fun q => w5 q.1) | exact kb (fun q => w16 q.2)
  ·
    show Wp g mX11_foul _ _ _ 8 _ (_ :: _) _ Q
    refine r_if_eq 26 dX11_foul_8 rfl (fun _ => ?_) (fun hz => absurd hz (by decide))
    refine r_iconst (0) dX11_foul_26 rfl ?_
    refine r_callS1 (d1 := 6) (c1 := 1) (n1 := 6) dX11_foul_27 msX11_63 rfl (Nat.le_of_ble_eq_true rfl) (by exact Nat.le_of_ble_eq_true rfl) ?_
    refine S_demand0 ?_
    first | exact kb (fun q => w5 q.1) | exact kb (fun q => w16 q.2)
