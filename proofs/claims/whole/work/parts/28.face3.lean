def sedF (f : Nat → Int32) (v : Int32) : Nat → Int32 := upF f 6 v
theorem Vf_sed {f : Nat → Int32} {v : Int32} (hV : Vf f) : Vf (sedF f v) := Vf_S hV (fun z hz => upF_n hz rfl)
theorem Wd_sed {f : Nat → Int32} {m : MM} {v : Int32} (hV : Vf f) (hW : Wd f 5 m) : Wd (sedF f v) 5 (stI m 5 10 v) := by
  have o : Off 5 5 m (stI m 5 10 v) := Off.rf.stI (by omega) (by omega)
  exact Wd_S hV hW (fun z hz => upF_n hz rfl) (ld_n (by decide) rfl) (fun a ha _ _ k => (o.2 a (by omega)).1 k) (ld_s.trans upF_s.symm)
theorem S_X11_seed {g : GG} {m : MM} {Q : Out → Prop} {f : Nat → Int32} {fs : Nat → Nat → Int32} {ic : Nat} {tp : Nat → Int32} {tn : Nat} {pl : Int32} {n1 : Nat} {T1 : Nat → (Nat → Int64) → Nat → Int64} {n2 : Nat} {T2 : Nat → (Nat → Int64) → Nat → Int64} (hC : CI f fs ic tp tn pl n1 T1 n2 T2 m) {x : Int32} (k : ∀ m', CI (sedF f x) fs ic tp tn pl n1 T1 n2 T2 m' → NoR m m' → Q (.inl (some (.int (f 6))), m')) : Cl g 0 0 0 mX11_seed [.ref 4, .int x] m Q := by
  refine Cl.of rfl (by decide) (Nat.le_of_ble_eq_true rfl) ?_
  show Wp g mX11_seed 0 0 0 0 [.ref 4, .int x, .retAddr 0] [] m Q
  have hF := hC.1
  have hV := hC.2.1
  have hW := hC.2.2.1
  refine r_aload_n dX11_seed_0 rfl ?_
  refine r_getRc dX11_seed_1 fgX11_12 rfl (by exact k_4 hF) (by exact r_4_0 hF) ?_
  refine r_getIc (f 6) dX11_seed_4 fgX11_205 rfl (by exact k_5 hF) (by exact hW.1.2) ?_
  refine si_2 dX11_seed_7 rfl (Nat.le_of_ble_eq_true rfl) ?_
  refine r_aload_n dX11_seed_8 rfl ?_
  refine r_getRc dX11_seed_9 fgX11_12 rfl (by exact k_4 hF) (by exact r_4_0 hF) ?_
  refine r_iload_n dX11_seed_12 rfl ?_
  refine r_putI dX11_seed_13 (fpX11_205 _ rfl) rfl (by exact k_5 hF) ⟨rfl, rfl⟩ ?_
  refine r_iload_n dX11_seed_16 rfl ?_
  refine r_ireturn dX11_seed_17 rfl rfl ?_
  exact k _ (hC.now (Off.rf.stI (by omega) (by omega)) (Vf_sed hV) (Wd_sed hV hW)) ((Off.rf (lo := 5) (hi := 5)).stI (by omega) (by omega) |>.nor (by omega))
def aneF (f : Nat → Int32) : Nat → Int32 := upF f 4 0
theorem aneF_M {f : Nat → Int32} : nM (aneF f) = 0 := by show (upF f 4 0 4).toNatClampNeg = _; rw [upF_s]; rfl
theorem Vf_ane {f : Nat → Int32} (hV : Vf f) : Vf (aneF f) := Vf_M hV (fun z hz => upF_n (by omega) rfl) (by rw [aneF_M]; exact ⟨upF_s, by omega⟩) (by rw [aneF_M]; exact fun j hj => absurd hj (by omega))
theorem Wd_ane {f : Nat → Int32} {m : MM} (hV : Vf f) (hW : Wd f 5 m) : Wd (aneF f) 5 (stI m 35 1 0) := by
  have o : Off 35 35 m (stI m 35 1 0) := Off.rf.stI (by omega) (by omega)
  exact Wd_M hV hW (fun z hz => upF_n (by omega) rfl) ((o.2 5 (by omega)).1 1) ((o.2 5 (by omega)).1 10) (fun a ha _ _ k => (o.2 a (by omega)).1 k) ⟨ld_s.trans upF_s.symm, by rw [aneF_M]; exact fun j hj => absurd hj (by omega)⟩
theorem S_X11_anew {g : GG} {m : MM} {Q : Out → Prop} {f : Nat → Int32} {fs : Nat → Nat → Int32} {ic : Nat} {tp : Nat → Int32} {tn : Nat} {pl : Int32} {n1 : Nat} {T1 : Nat → (Nat → Int64) → Nat → Int64} {n2 : Nat} {T2 : Nat → (Nat → Int64) → Nat → Int64} (hC : CI f fs ic tp tn pl n1 T1 n2 T2 m) (k : ∀ m', CI (aneF f) fs ic tp tn pl n1 T1 n2 T2 m' → NoR m m' → Q (.inl (some (.int (f 4))), m')) : Cl g 1 0 0 mX11_anew [.ref 4] m Q := by
  refine Cl.of rfl (by decide) (Nat.le_of_ble_eq_true rfl) ?_
  show Wp g mX11_anew 1 0 0 0 [.ref 4, .retAddr 0] [] m Q
  have hF := hC.1
  have hV := hC.2.1
  have hW := hC.2.2.1
  refine r_aload_n dX11_anew_0 rfl ?_
  refine r_getRc dX11_anew_1 fgX11_12 rfl (by exact k_4 hF) (by exact r_4_0 hF) ?_
  refine r_getRc dX11_anew_4 fgX11_257 rfl (by exact k_5 hF) (by exact r_5_7 hF) ?_
  refine r_callV0 (ci := 5) (d1 := 0) (c1 := 0) (n1 := 0) dX11_anew_7 mvX11_99 rfl ⟨(Nat.le_of_ble_eq_true rfl), rfl⟩ (Nat.le_of_ble_eq_true rfl) (by exact Nat.le_of_ble_eq_true rfl) (by exact k_35 hF) ?_
  refine S_X5_filled (by exact k_35 hF) ?_
  rw [show ldI m 35 1 = f 4 from hW.2.2.2.2.2.2.1.1]
  show Wp g mX11_anew _ _ _ 10 _ (_ :: _) _ Q
  refine si_1 dX11_anew_10 rfl (Nat.le_of_ble_eq_true rfl) ?_
  refine r_aload_n dX11_anew_11 rfl ?_
  refine r_getRc dX11_anew_12 fgX11_12 rfl (by exact k_4 hF) (by exact r_4_0 hF) ?_
  refine r_getRc dX11_anew_15 fgX11_257 rfl (by exact k_5 hF) (by exact r_5_7 hF) ?_
  refine r_callV0 (ci := 5) (d1 := 0) (c1 := 0) (n1 := 0) dX11_anew_18 mvX11_110 rfl ⟨(Nat.le_of_ble_eq_true rfl), rfl⟩ (Nat.le_of_ble_eq_true rfl) (by exact Nat.le_of_ble_eq_true rfl) (by exact k_35 hF) ?_
  refine S_X5_empty (by exact k_35 hF) ?_
  show Wp g mX11_anew _ _ _ 21 _ [] _ Q
  refine r_iload_n dX11_anew_21 rfl ?_
  refine r_ireturn dX11_anew_22 rfl rfl ?_
  exact k _ (hC.now (Off.rf.stI (by omega) (by omega)) (Vf_ane hV) (Wd_ane hV hW)) ((Off.rf (lo := 35) (hi := 35)).stI (by omega) (by omega) |>.nor (by omega))
def milF (f : Nat → Int32) (x y : Int32) : Nat → Int32 := upF (upF (upF f (637 + 2 * nM f) x) (638 + 2 * nM f) y) 4 (nI (nM f + 1))
theorem milF_M {f : Nat → Int32} {x y : Int32} (h : nM f < 6) : nM (milF f x y) = nM f + 1 := by show (upF _ 4 _ 4).toNatClampNeg = _; rw [upF_s, nI_cl _ (by omega)]
theorem milF_o {f : Nat → Int32} {x y : Int32} {z : Nat} (h : z ≠ 4) (h1 : z ≠ 637 + 2 * nM f) (h2 : z ≠ 638 + 2 * nM f) : milF f x y z = f z := upF_n h (upF_n h2 (upF_n h1 rfl))
theorem milF_x {f : Nat → Int32} {x y : Int32} : milF f x y (637 + 2 * nM f) = x := upF_n (by omega) (upF_n (by omega) upF_s)
theorem milF_y {f : Nat → Int32} {x y : Int32} : milF f x y (638 + 2 * nM f) = y := upF_n (by omega) upF_s
theorem Vf_mil {f : Nat → Int32} {x y : Int32} (hV : Vf f) (h : nM f < 6) (hx : iv 0 999 x) (hy : iv (-99) 99 y) : Vf (milF f x y) := by
  refine Vf_M hV (fun z hz => milF_o (by omega) (by omega) (by omega)) ?_ ?_
  · rw [milF_M h]; exact ⟨upF_s, by omega⟩
  · rw [milF_M h]
    intro j hj
    by_cases q : j = nM f
    · subst q; rw [milF_x, milF_y]; exact ⟨hx, hy⟩
    · rw [milF_o (by omega) (by omega) (by omega), milF_o (by omega) (by omega) (by omega)]; exact hV.2.2.2.2.2.2.1 j (by omega)
theorem Wd_mil {f : Nat → Int32} {m : MM} {x y : Int32} (hV : Vf f) (hW : Wd f 5 m) (h : nM f < 6) : Wd (milF f x y) 5 (stI (stI m 36 (nM f) (x + y / 10)) 35 1 (nI (nM f + 1))) := by
  have o : Off 35 36 m (stI (stI m 36 (nM f) (x + y / 10)) 35 1 (nI (nM f + 1))) := (Off.rf.stI (by omega) (by omega)).stI (by omega) (by omega)
  refine Wd_M hV hW (fun z hz => milF_o (by omega) (by omega) (by omega)) ((o.2 5 (by omega)).1 1) ((o.2 5 (by omega)).1 10) (fun a ha _ _ k => (o.2 a (by omega)).1 k) ⟨ld_s.trans (show milF f x y 4 = _ from upF_s).symm, ?_⟩
  rw [milF_M h]
  intro j hj
  by_cases q : j = nM f
  · subst q; rw [milF_x, milF_y]; exact ld_n (by omega) ld_s
  · rw [milF_o (by omega) (by omega) (by omega), milF_o (by omega) (by omega) (by omega)]; exact ld_n (by omega) (ld_n (by omega) (hW.2.2.2.2.2.2.1.2 j (by omega)))
theorem S_X11_mile {g : GG} {m : MM} {Q : Out → Prop} {f : Nat → Int32} {fs : Nat → Nat → Int32} {ic : Nat} {tp : Nat → Int32} {tn : Nat} {pl : Int32} {n1 : Nat} {T1 : Nat → (Nat → Int64) → Nat → Int64} {n2 : Nat} {T2 : Nat → (Nat → Int64) → Nat → Int64} (hC : CI f fs ic tp tn pl n1 T1 n2 T2 m) {x y : Int32} (kb : ¬ ((0 ≤ x ∧ x ≤ 999) ∧ -99 ≤ y ∧ y ≤ 99) → Q (.inr EIAE, m)) (kf : ((0 ≤ x ∧ x ≤ 999) ∧ -99 ≤ y ∧ y ≤ 99) → nM f = 6 → Q (.inl (some (.int (-1))), m)) (k : ((0 ≤ x ∧ x ≤ 999) ∧ -99 ≤ y ∧ y ≤ 99) → nM f < 6 → ∀ m', CI (milF f x y) fs ic tp tn pl n1 T1 n2 T2 m' → NoR m m' → Q (.inl (some (.int (nI (nM f + 1)))), m')) : Cl g 7 1 6 mX11_mile [.ref 4, .int x, .int y] m Q := by
  refine Cl.of rfl (by decide) (Nat.le_of_ble_eq_true rfl) ?_
  show Wp g mX11_mile 7 1 6 0 [.ref 4, .int x, .int y] [] m Q
  have hF := hC.1
  have hV := hC.2.1
  have hW := hC.2.2.1
  have hn := hW.2.2.2.2.2.2.1.1.trans hV.1.2.2.2.2.1.1
  have hM := hV.1.2.2.2.2.1.2
  refine r_iload_n dX11_mile_0 rfl ?_
  refine r_iconst (0) dX11_mile_1 rfl ?_
  refine r_sipush (999) dX11_mile_2 rfl ?_
  refine r_callS3 (d1 := 0) (c1 := 0) (n1 := 0) dX11_mile_5 msX11_59 rfl (Nat.le_of_ble_eq_true rfl) (by exact Nat.le_of_ble_eq_true rfl) ?_
  refine S_X11_isWithin (fun w5a w5b => ?_) (fun w5 => ?_)
  ·
    show Wp g mX11_mile _ _ _ 8 _ (_ :: _) _ Q
    refine r_if_eq 26 dX11_mile_8 rfl (fun hz => absurd hz (by decide)) (fun _ => ?_)
    refine r_iload_n dX11_mile_11 rfl ?_
    refine r_bipush (-99) dX11_mile_12 rfl ?_
    refine r_bipush (99) dX11_mile_14 rfl ?_
    refine r_callS3 (d1 := 0) (c1 := 0) (n1 := 0) dX11_mile_16 msX11_59 rfl (Nat.le_of_ble_eq_true rfl) (by exact Nat.le_of_ble_eq_true rfl) ?_
    refine S_X11_isWithin (fun w16a w16b => ?_) (fun w16 => ?_)
    ·
      show Wp g mX11_mile _ _ _ 19 _ (_ :: _) _ Q
      refine r_if_eq 26 dX11_mile_19 rfl (fun hz => absurd hz (by decide)) (fun _ => ?_)
      refine r_iconst (1) dX11_mile_22 rfl ?_
      refine r_goto 27 dX11_mile_23 rfl ?_
      refine r_callS1 (d1 := 6) (c1 := 1) (n1 := 6) dX11_mile_27 msX11_63 rfl (Nat.le_of_ble_eq_true rfl) (by exact Nat.le_of_ble_eq_true rfl) ?_
      refine S_demand1 ?_
      show Wp g mX11_mile _ _ _ 30 _ [] _ Q
      refine r_aload_n dX11_mile_30 rfl ?_
      refine r_getRc dX11_mile_31 fgX11_12 rfl (by exact k_4 hF) (by exact r_4_0 hF) ?_
      refine r_getRc dX11_mile_34 fgX11_257 rfl (by exact k_5 hF) (by exact r_5_7 hF) ?_
      refine r_callV0 (ci := 5) (d1 := 0) (c1 := 0) (n1 := 0) dX11_mile_37 mvX11_192 rfl ⟨(Nat.le_of_ble_eq_true rfl), rfl⟩ (Nat.le_of_ble_eq_true rfl) (by exact Nat.le_of_ble_eq_true rfl) (by exact k_35 hF) ?_
      refine S_X5_isFull (a := 35) (c := 36) (z := 6) (n := nM f) (by exact k_35 hF) (by exact r_35_0 hF) (by exact k_36 hF) (by omega) hn hM (fun h6 => ?_) (fun h6 => ?_)
      ·
        show Wp g mX11_mile _ _ _ 40 _ (_ :: _) _ Q
        refine r_if_eq 45 dX11_mile_40 rfl (fun hz => absurd hz (by decide)) (fun _ => ?_)
        refine r_iconst (-1) dX11_mile_43 rfl ?_
        refine r_ireturn dX11_mile_44 rfl rfl ?_
        exact kf ⟨⟨w5a, w5b⟩, ⟨w16a, w16b⟩⟩ h6
      ·
        show Wp g mX11_mile _ _ _ 40 _ (_ :: _) _ Q
        refine r_if_eq 45 dX11_mile_40 rfl (fun _ => ?_) (fun hz => absurd hz (by decide))
        refine r_aload_n dX11_mile_45 rfl ?_
        refine r_getRc dX11_mile_46 fgX11_12 rfl (by exact k_4 hF) (by exact r_4_0 hF) ?_
        refine r_getRc dX11_mile_49 fgX11_257 rfl (by exact k_5 hF) (by exact r_5_7 hF) ?_
        refine r_iload_n dX11_mile_52 rfl ?_
        refine r_iload_n dX11_mile_53 rfl ?_
        refine r_bipush (10) dX11_mile_54 rfl ?_
        refine r_idiv dX11_mile_56 (by decide) ?_
        refine r_iadd dX11_mile_57 ?_
        refine r_callV1 (ci := 5) (d1 := 0) (c1 := 0) (n1 := 0) dX11_mile_58 mvX11_260 rfl ⟨(Nat.le_of_ble_eq_true rfl), rfl⟩ (Nat.le_of_ble_eq_true rfl) (by exact Nat.le_of_ble_eq_true rfl) (by exact k_35 hF) ?_
        refine S_X5_add (a := 35) (c := 36) (z := 6) (n := nM f) (by exact k_35 hF) (by exact r_35_0 hF) (by exact k_36 hF) (by omega) hn hM (by decide) (fun _ => ?_) (fun h9 => absurd h9 (by omega))
        show Wp g mX11_mile _ _ _ 61 _ [] _ Q
        refine r_aload_n dX11_mile_61 rfl ?_
        refine r_getRc dX11_mile_62 fgX11_12 rfl (by exact k_4 hF) (by exact r_4_0 hF) ?_
        refine r_getRc dX11_mile_65 fgX11_257 rfl (by exact k_5 hF) (by exact r_5_7 hF) ?_
        refine r_callV0 (ci := 5) (d1 := 0) (c1 := 0) (n1 := 0) dX11_mile_68 mvX11_99 rfl ⟨(Nat.le_of_ble_eq_true rfl), rfl⟩ (Nat.le_of_ble_eq_true rfl) (by exact Nat.le_of_ble_eq_true rfl) (by exact k_35 hF) ?_
        refine S_X5_filled (by exact k_35 hF) ?_
        show Wp g mX11_mile _ _ _ 71 _ (_ :: _) _ Q
        refine r_ireturn dX11_mile_71 rfl rfl ?_
        have o9 : Off 35 36 m (stI (stI m 36 (nM f) (x + y / 10)) 35 1 (nI (nM f + 1))) := (Off.rf.stI (by omega) (by omega)).stI (by omega) (by omega)
        have k9 := k ⟨⟨w5a, w5b⟩, ⟨w16a, w16b⟩⟩ h6 _ (hC.now (o9.wd (by omega) (by omega)) (Vf_mil hV h6 (iv_mk w5a w5b) (iv_mk w16a w16b)) (Wd_mil hV hW h6)) (o9.nor (by omega))
        rw [show nI (nM f + 1) = ldI (stI (stI m 36 (nM f) (x + y / 10)) 35 1 (nI (nM f + 1))) 35 1 from ld_s.symm] at k9
        exact k9
    ·
      show Wp g mX11_mile _ _ _ 19 _ (_ :: _) _ Q
      refine r_if_eq 26 dX11_mile_19 rfl (fun _ => ?_) (fun hz => absurd hz (by decide))
      refine r_iconst (0) dX11_mile_26 rfl ?_
      refine r_callS1 (d1 := 6) (c1 := 1) (n1 := 6) dX11_mile_27 msX11_63 rfl (Nat.le_of_ble_eq_true rfl) (by exact Nat.le_of_ble_eq_true rfl) ?_
      refine S_demand0 ?_
      first | exact kb (fun q => w5 q.1) | exact kb (fun q => w16 q.2)
  ·
    show Wp g mX11_mile _ _ _ 8 _ (_ :: _) _ Q
    refine r_if_eq 26 dX11_mile_8 rfl (fun _ => ?_) (fun hz => absurd hz (by decide))
    refine r_iconst (0) dX11_mile_26 rfl ?_
    refine r_callS1 (d1 := 6) (c1 := 1) (n1 := 6) dX11_mile_27 msX11_63 rfl (Nat.le_of_ble_eq_true rfl) (by exact Nat.le_of_ble_eq_true rfl) ?_
    refine S_demand0 ?_
    first | exact kb (fun q => w5 q.1) | exact kb (fun q => w16 q.2)
