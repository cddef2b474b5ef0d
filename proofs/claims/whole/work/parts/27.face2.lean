/-- nothing of the reference (nor of what lies behind it) is touched -/
def NoR (m m' : MM) : Prop := m'.2.2 = m.2.2 ∧ ∀ a, 166 < a → (∀ k, ldI m' a k = ldI m a k) ∧ ∀ k, ldL m' a k = ldL m a k
theorem NoR.rf {m : MM} : NoR m m := ⟨rfl, fun _ _ => ⟨fun _ => rfl, fun _ => rfl⟩⟩
theorem Off.nor {lo hi : Nat} {m m' : MM} (o : Off lo hi m m') (h : hi ≤ 166) : NoR m m' := ⟨o.1, fun a ha => o.2 a (by omega)⟩
theorem NoR.tr {m m' m2 : MM} (h : NoR m m') (h2 : NoR m' m2) : NoR m m2 := ⟨h2.1.trans h.1, fun a ha => ⟨fun k => ((h2.2 a ha).1 k).trans ((h.2 a ha).1 k), fun k => ((h2.2 a ha).2 k).trans ((h.2 a ha).2 k)⟩⟩
theorem iv_mk {a b x : Int32} (h1 : a ≤ x) (h2 : x ≤ b) : iv a.toInt b.toInt x := ⟨Int32.le_iff_toInt_le.mp h1, Int32.le_iff_toInt_le.mp h2⟩
def tanF (f : Nat → Int32) (x y : Int32) : Nat → Int32 := upF (upF (upF f (19 + nT f) x) (23 + nT f) y) 1 (nI (nT f + 1))
theorem tanF_T {f : Nat → Int32} {x y : Int32} (h : nT f < 4) : nT (tanF f x y) = nT f + 1 := by show (upF _ 1 _ 1).toNatClampNeg = _; rw [upF_s, nI_cl _ (by omega)]
theorem Vf_tan {f : Nat → Int32} {x y : Int32} (hV : Vf f) (h : nT f < 4) (hx : iv 1 200 x) (hy : iv 1 200 y) : Vf (tanF f x y) := by
  refine Vf_T hV (fun z hz => upF_n (by omega) (upF_n (by omega) (upF_n (by omega) rfl))) ?_ ?_ ?_
  · rw [tanF_T h]; exact ⟨upF_s, by omega⟩
  · rw [tanF_T h]; omega
  · rw [tanF_T h]
    intro j hj
    by_cases q : j = nT f
    · subst q
      rw [show tanF f x y (19 + nT f) = x from upF_n (by omega) (upF_n (by omega) upF_s), show tanF f x y (23 + nT f) = y from upF_n (by omega) upF_s]; exact ⟨hx, hy⟩
    · rw [show tanF f x y (19 + j) = f (19 + j) from upF_n (by omega) (upF_n (by omega) (upF_n (by omega) rfl)), show tanF f x y (23 + j) = f (23 + j) from upF_n (by omega) (upF_n (by omega) (upF_n (by omega) rfl))]; exact hV.2.2.1 j (by omega)
theorem adT_off {m : MM} {n : Nat} {x y : Int32} : Off 25 28 m (adT m n x y) := (((Off.rf.stI (by omega) (by omega)).stI (by omega) (by omega)).stI (by omega) (by omega)).stI (by omega) (by omega)
theorem Wd_tan {f : Nat → Int32} {m : MM} {x y : Int32} (hV : Vf f) (hW : Wd f 5 m) (h : nT f < 4) : Wd (tanF f x y) 5 (adT m (nT f) x y) := by
  have o := adT_off (m := m) (n := nT f) (x := x) (y := y)
  refine Wd_T hV hW (fun z hz => upF_n (by omega) (upF_n (by omega) (upF_n (by omega) rfl))) ((o.2 5 (by omega)).1 1) ((o.2 5 (by omega)).1 10) (fun a ha _ _ k => (o.2 a ha).1 k) ⟨?_, ?_, ?_⟩
  · rw [show tanF f x y 1 = nI (nT f + 1) from upF_s]; exact ld_n (by decide) (ld_n (by omega) ld_s)
  · rw [show tanF f x y 1 = nI (nT f + 1) from upF_s]; exact ld_s
  · rw [tanF_T h]
    intro j hj
    by_cases q : j = nT f
    · subst q
      rw [show tanF f x y (19 + nT f) = x from upF_n (by omega) (upF_n (by omega) upF_s), show tanF f x y (23 + nT f) = y from upF_n (by omega) upF_s]
      exact ⟨ld_n (by omega) (ld_n (by omega) (ld_n (by omega) ld_s)), ld_n (by omega) ld_s⟩
    · rw [show tanF f x y (19 + j) = f (19 + j) from upF_n (by omega) (upF_n (by omega) (upF_n (by omega) rfl)), show tanF f x y (23 + j) = f (23 + j) from upF_n (by omega) (upF_n (by omega) (upF_n (by omega) rfl))]
      exact ⟨ld_n (by omega) (ld_n (by omega) (ld_n (by omega) (ld_n (by omega) (hW.2.2.1.2.2 j (by omega)).1))), ld_n (by omega) (ld_n (by omega) (ld_n (by omega) (ld_n (by omega) (hW.2.2.1.2.2 j (by omega)).2)))⟩
theorem S_X11_tank {g : GG} {m : MM} {Q : Out → Prop} {f : Nat → Int32} {fs : Nat → Nat → Int32} {ic : Nat} {tp : Nat → Int32} {tn : Nat} {pl : Int32} {n1 : Nat} {T1 : Nat → (Nat → Int64) → Nat → Int64} {n2 : Nat} {T2 : Nat → (Nat → Int64) → Nat → Int64} (hC : CI f fs ic tp tn pl n1 T1 n2 T2 m) {x y : Int32} (kb : ¬ ((1 ≤ x ∧ x ≤ 200) ∧ 1 ≤ y ∧ y ≤ 200) → Q (.inr EIAE, m)) (kf : ((1 ≤ x ∧ x ≤ 200) ∧ 1 ≤ y ∧ y ≤ 200) → nT f = 4 → Q (.inl (some (.int (-1))), m)) (k : ((1 ≤ x ∧ x ≤ 200) ∧ 1 ≤ y ∧ y ≤ 200) → nT f < 4 → ∀ m', CI (tanF f x y) fs ic tp tn pl n1 T1 n2 T2 m' → NoR m m' → Q (.inl (some (.int (nI (nT f)))), m')) : Cl g 7 1 6 mX11_tank [.ref 4, .int x, .int y] m Q := by
  refine Cl.of rfl (by decide) (Nat.le_of_ble_eq_true rfl) ?_
  show Wp g mX11_tank 7 1 6 0 [.ref 4, .int x, .int y] [] m Q
  have hF := hC.1
  have hV := hC.2.1
  have hW := hC.2.2.1
  refine r_iload_n dX11_tank_0 rfl ?_
  refine r_iconst (1) dX11_tank_1 rfl ?_
  refine r_sipush (200) dX11_tank_2 rfl ?_
  refine r_callS3 (d1 := 0) (c1 := 0) (n1 := 0) dX11_tank_5 msX11_59 rfl (Nat.le_of_ble_eq_true rfl) (by exact Nat.le_of_ble_eq_true rfl) ?_
  refine S_X11_isWithin (fun w5a w5b => ?_) (fun w5 => ?_)
  ·
    show Wp g mX11_tank _ _ _ 8 _ (_ :: _) _ Q
    refine r_if_eq 26 dX11_tank_8 rfl (fun hz => absurd hz (by decide)) (fun _ => ?_)
    refine r_iload_n dX11_tank_11 rfl ?_
    refine r_iconst (1) dX11_tank_12 rfl ?_
    refine r_sipush (200) dX11_tank_13 rfl ?_
    refine r_callS3 (d1 := 0) (c1 := 0) (n1 := 0) dX11_tank_16 msX11_59 rfl (Nat.le_of_ble_eq_true rfl) (by exact Nat.le_of_ble_eq_true rfl) ?_
    refine S_X11_isWithin (fun w16a w16b => ?_) (fun w16 => ?_)
    ·
      show Wp g mX11_tank _ _ _ 19 _ (_ :: _) _ Q
      refine r_if_eq 26 dX11_tank_19 rfl (fun hz => absurd hz (by decide)) (fun _ => ?_)
      refine r_iconst (1) dX11_tank_22 rfl ?_
      refine r_goto 27 dX11_tank_23 rfl ?_
      refine r_callS1 (d1 := 6) (c1 := 1) (n1 := 6) dX11_tank_27 msX11_63 rfl (Nat.le_of_ble_eq_true rfl) (by exact Nat.le_of_ble_eq_true rfl) ?_
      refine S_demand1 ?_
      show Wp g mX11_tank _ _ _ 30 _ [] _ Q
      refine r_aload_n dX11_tank_30 rfl ?_
      refine r_getRc dX11_tank_31 fgX11_12 rfl (by exact k_4 hF) (by exact r_4_0 hF) ?_
      refine r_iload_n dX11_tank_34 rfl ?_
      refine r_iload_n dX11_tank_35 rfl ?_
      refine r_callV2 (ci := 10) (d1 := 1) (c1 := 0) (n1 := 0) dX11_tank_36 mvX11_96 rfl ⟨(Nat.le_of_ble_eq_true rfl), rfl⟩ (Nat.le_of_ble_eq_true rfl) (by exact Nat.le_of_ble_eq_true rfl) (by exact k_5 hF) ?_
      refine S_X10_addTank hF (hW.2.2.1.1.trans hV.1.2.1.1) (hW.2.2.1.2.1.trans hV.1.2.1.1) hV.1.2.1.2 (fun h4 => ?_) (fun h4 => ?_)
      ·
        show Wp g mX11_tank _ _ _ 39 _ (_ :: _) _ Q
        refine r_ireturn dX11_tank_39 rfl rfl ?_
        exact kf ⟨⟨w5a, w5b⟩, ⟨w16a, w16b⟩⟩ h4
      ·
        show Wp g mX11_tank _ _ _ 39 _ (_ :: _) _ Q
        refine r_ireturn dX11_tank_39 rfl rfl ?_
        exact k ⟨⟨w5a, w5b⟩, ⟨w16a, w16b⟩⟩ h4 _ (hC.now (adT_off.wd (by omega) (by omega)) (Vf_tan hV h4 (iv_mk w5a w5b) (iv_mk w16a w16b)) (Wd_tan hV hW h4)) (adT_off.nor (by omega))
    ·
      show Wp g mX11_tank _ _ _ 19 _ (_ :: _) _ Q
      refine r_if_eq 26 dX11_tank_19 rfl (fun _ => ?_) (fun hz => absurd hz (by decide))
      refine r_iconst (0) dX11_tank_26 rfl ?_
      refine r_callS1 (d1 := 6) (c1 := 1) (n1 := 6) dX11_tank_27 msX11_63 rfl (Nat.le_of_ble_eq_true rfl) (by exact Nat.le_of_ble_eq_true rfl) ?_
      refine S_demand0 ?_
      first | exact kb (fun q => w5 q.1) | exact kb (fun q => w16 q.2)
  ·
    show Wp g mX11_tank _ _ _ 8 _ (_ :: _) _ Q
    refine r_if_eq 26 dX11_tank_8 rfl (fun _ => ?_) (fun hz => absurd hz (by decide))
    refine r_iconst (0) dX11_tank_26 rfl ?_
    refine r_callS1 (d1 := 6) (c1 := 1) (n1 := 6) dX11_tank_27 msX11_63 rfl (Nat.le_of_ble_eq_true rfl) (by exact Nat.le_of_ble_eq_true rfl) ?_
    refine S_demand0 ?_
    first | exact kb (fun q => w5 q.1) | exact kb (fun q => w16 q.2)
theorem S_X11_demandTank {g : GG} {m : MM} {Q : Out → Prop} (hF : Fx m) {f : Nat → Int32} (hV : Vf f) (hW : Wd f 5 m) {x : Int32} (k1 : -1 ≤ x → x ≤ f 1 - 1 → Q (.inl none, m)) (k0 : ¬ (-1 ≤ x ∧ x ≤ f 1 - 1) → Q (.inr EIOB, m)) : Cl g 6 1 6 mX11_demandTank [.ref 4, .int x] m Q := by
  refine Cl.of rfl (by decide) (Nat.le_of_ble_eq_true rfl) ?_
  show Wp g mX11_demandTank 6 1 6 0 [.ref 4, .int x] [] m Q
  refine r_iload_n dX11_demandTank_0 rfl ?_
  refine r_iconst (-1) dX11_demandTank_1 rfl ?_
  refine r_aload_n dX11_demandTank_2 rfl ?_
  refine r_getRc dX11_demandTank_3 fgX11_12 rfl (by exact k_4 hF) (by exact r_4_0 hF) ?_
  refine r_getRc dX11_demandTank_6 fgX11_289 rfl (by exact k_5 hF) (by exact r_5_2 hF) ?_
  refine r_callV0 (ci := 5) (d1 := 0) (c1 := 0) (n1 := 0) dX11_demandTank_9 mvX11_99 rfl ⟨(Nat.le_of_ble_eq_true rfl), rfl⟩ (Nat.le_of_ble_eq_true rfl) (by exact Nat.le_of_ble_eq_true rfl) (by exact k_25 hF) ?_
  refine S_X5_filled (by exact k_25 hF) ?_
  rw [show ldI m 25 1 = f 1 from hW.2.2.1.1]
  show Wp g mX11_demandTank _ _ _ 12 _ (_ :: _) _ Q
  refine r_iconst (1) dX11_demandTank_12 rfl ?_
  refine r_isub dX11_demandTank_13 ?_
  refine r_callS3 (d1 := 0) (c1 := 0) (n1 := 0) dX11_demandTank_14 msX11_59 rfl (Nat.le_of_ble_eq_true rfl) (by exact Nat.le_of_ble_eq_true rfl) ?_
  refine S_X11_isWithin (fun w14a w14b => ?_) (fun w14 => ?_)
  ·
    show Wp g mX11_demandTank _ _ _ 17 _ (_ :: _) _ Q
    refine r_if_ne 28 dX11_demandTank_17 rfl (fun _ => ?_) (fun hz => absurd hz (by decide))
    refine r_return dX11_demandTank_28 rfl ?_
    exact k1 w14a w14b
  ·
    show Wp g mX11_demandTank _ _ _ 17 _ (_ :: _) _ Q
    refine r_if_ne 28 dX11_demandTank_17 rfl (fun hz => absurd hz (by decide)) (fun _ => ?_)
    refine th_IOB rfl rfl dX11_demandTank_20 dX11_demandTank_23 dX11_demandTank_24 dX11_demandTank_27 (Nat.le_of_ble_eq_true rfl) (by exact Nat.le_of_ble_eq_true rfl) ?_
    exact k0 w14
theorem S_demP155 {g : GG} {m : MM} {Q : Out → Prop} (hF : Fx m) {n : Nat} {Ts : Nat → (Nat → Int64) → Nat → Int64} (hS : Shf 155 156 4 n Ts m) {x : Int32} (k1 : ∀ j, x = nI j → j < n → Pr (Ts j) (ldR m 156 j) m → Q (.inl (some (.ref (ldR m 156 j))), m)) (k0 : (x < 0 ∨ nI n ≤ x) → Q (.inr EIOB, m)) : Cl g 6 1 6 mX11_demandProgram [.ref 155, .int x] m Q := by
  refine Cl.of rfl (by decide) (Nat.le_of_ble_eq_true rfl) ?_
  show Wp g mX11_demandProgram 6 1 6 0 [.ref 155, .int x, .retAddr 0] [] m Q
  refine r_aload_n dX11_demandProgram_0 rfl ?_
  refine r_iload_n dX11_demandProgram_1 rfl ?_
  refine r_callV1 (ci := 7) (d1 := 0) (c1 := 0) (n1 := 0) dX11_demandProgram_2 mvX11_308 rfl ⟨(Nat.le_of_ble_eq_true rfl), rfl⟩ (Nat.le_of_ble_eq_true rfl) (by exact Nat.le_of_ble_eq_true rfl) (by exact k_155 hF) ?_
  refine S_X7_at (by exact k_155 hF) (by exact r_155_0 hF) (by exact k_156 hF) (by omega) hS.1 hS.2.1 (fun j hj hjn => ?_) (fun h9 => ?_)
  ·
    have hpi := hS.2.2 j hjn
    show Wp g mX11_demandProgram _ _ _ 5 _ (_ :: _) _ Q
    refine sa_2 dX11_demandProgram_5 rfl (Nat.le_of_ble_eq_true rfl) ?_
    refine r_aload_n dX11_demandProgram_6 rfl ?_
    refine r_ifnonnull 18 dX11_demandProgram_7 rfl (fun hnull => ?_) (fun hnull => ?_)
    ·
      refine r_aload_n dX11_demandProgram_18 rfl ?_
      refine r_areturn dX11_demandProgram_19 rfl rfl ?_
      exact k1 j hj hjn hpi
    ·
      refine th_IOB rfl rfl dX11_demandProgram_10 dX11_demandProgram_13 dX11_demandProgram_14 dX11_demandProgram_17 (Nat.le_of_ble_eq_true rfl) (by exact Nat.le_of_ble_eq_true rfl) ?_
      exact absurd hnull (by have := hpi.1; omega)
  ·
    show Wp g mX11_demandProgram _ _ _ 5 _ (_ :: _) _ Q
    refine sa_2 dX11_demandProgram_5 rfl (Nat.le_of_ble_eq_true rfl) ?_
    refine r_aload_n dX11_demandProgram_6 rfl ?_
    refine r_ifnonnull 18 dX11_demandProgram_7 rfl (fun hz => absurd hz (by decide)) (fun _ => ?_)
    refine th_IOB rfl rfl dX11_demandProgram_10 dX11_demandProgram_13 dX11_demandProgram_14 dX11_demandProgram_17 (Nat.le_of_ble_eq_true rfl) (by exact Nat.le_of_ble_eq_true rfl) ?_
    exact k0 h9
theorem S_demP157 {g : GG} {m : MM} {Q : Out → Prop} (hF : Fx m) {n : Nat} {Ts : Nat → (Nat → Int64) → Nat → Int64} (hS : Shf 157 158 3 n Ts m) {x : Int32} (k1 : ∀ j, x = nI j → j < n → Pr (Ts j) (ldR m 158 j) m → Q (.inl (some (.ref (ldR m 158 j))), m)) (k0 : (x < 0 ∨ nI n ≤ x) → Q (.inr EIOB, m)) : Cl g 6 1 6 mX11_demandProgram [.ref 157, .int x] m Q := by
  refine Cl.of rfl (by decide) (Nat.le_of_ble_eq_true rfl) ?_
  show Wp g mX11_demandProgram 6 1 6 0 [.ref 157, .int x, .retAddr 0] [] m Q
  refine r_aload_n dX11_demandProgram_0 rfl ?_
  refine r_iload_n dX11_demandProgram_1 rfl ?_
  refine r_callV1 (ci := 7) (d1 := 0) (c1 := 0) (n1 := 0) dX11_demandProgram_2 mvX11_308 rfl ⟨(Nat.le_of_ble_eq_true rfl), rfl⟩ (Nat.le_of_ble_eq_true rfl) (by exact Nat.le_of_ble_eq_true rfl) (by exact k_157 hF) ?_
  refine S_X7_at (by exact k_157 hF) (by exact r_157_0 hF) (by exact k_158 hF) (by omega) hS.1 hS.2.1 (fun j hj hjn => ?_) (fun h9 => ?_)
  ·
    have hpi := hS.2.2 j hjn
    show Wp g mX11_demandProgram _ _ _ 5 _ (_ :: _) _ Q
    refine sa_2 dX11_demandProgram_5 rfl (Nat.le_of_ble_eq_true rfl) ?_
    refine r_aload_n dX11_demandProgram_6 rfl ?_
    refine r_ifnonnull 18 dX11_demandProgram_7 rfl (fun hnull => ?_) (fun hnull => ?_)
    ·
      refine r_aload_n dX11_demandProgram_18 rfl ?_
      refine r_areturn dX11_demandProgram_19 rfl rfl ?_
      exact k1 j hj hjn hpi
    ·
      refine th_IOB rfl rfl dX11_demandProgram_10 dX11_demandProgram_13 dX11_demandProgram_14 dX11_demandProgram_17 (Nat.le_of_ble_eq_true rfl) (by exact Nat.le_of_ble_eq_true rfl) ?_
      exact absurd hnull (by have := hpi.1; omega)
  ·
    show Wp g mX11_demandProgram _ _ _ 5 _ (_ :: _) _ Q
    refine sa_2 dX11_demandProgram_5 rfl (Nat.le_of_ble_eq_true rfl) ?_
    refine r_aload_n dX11_demandProgram_6 rfl ?_
    refine r_ifnonnull 18 dX11_demandProgram_7 rfl (fun hz => absurd hz (by decide)) (fun _ => ?_)
    refine th_IOB rfl rfl dX11_demandProgram_10 dX11_demandProgram_13 dX11_demandProgram_14 dX11_demandProgram_17 (Nat.le_of_ble_eq_true rfl) (by exact Nat.le_of_ble_eq_true rfl) ?_
    exact k0 h9
def setF (f : Nat → Int32) (x y z w : Int32) : Nat → Int32 := upF (upF (upF (upF f 27 x) 28 y) 29 z) 30 w
theorem setF_o {f : Nat → Int32} {x y z w : Int32} {j : Nat} (h : j < 27 ∨ 30 < j) : setF f x y z w j = f j := upF_n (by omega) (upF_n (by omega) (upF_n (by omega) (upF_n (by omega) rfl)))
theorem setF_0 {f : Nat → Int32} {x y z w : Int32} : setF f x y z w 27 = x := upF_n (by omega) (upF_n (by omega) (upF_n (by omega) upF_s))
theorem setF_1 {f : Nat → Int32} {x y z w : Int32} : setF f x y z w 28 = y := upF_n (by omega) (upF_n (by omega) upF_s)
theorem setF_2 {f : Nat → Int32} {x y z w : Int32} : setF f x y z w 29 = z := upF_n (by omega) upF_s
theorem setF_3 {f : Nat → Int32} {x y z w : Int32} : setF f x y z w 30 = w := upF_s
theorem tank_of {f : Nat → Int32} {w : Int32} (hV : Vf f) (h1 : -1 ≤ w) (h2 : w ≤ f 1 - 1) : w = -1 ∨ ∃ t, w = nI t ∧ t < nT f := by
  obtain ⟨c, d⟩ := hV.1.2.1
  rw [c] at h2
  have e : (nI (nT f) - 1).toInt = (nT f : Int) - 1 := by
    rw [Int32.toInt_sub, nI_int _ (by omega)]; show Int.bmod ((nT f : Int) - 1) (2 ^ 32) = _
    rw [Int.bmod_eq_of_le (by omega) (by omega)]
  rw [Int32.le_iff_toInt_le] at h1 h2
  have m1 : (-1 : Int32).toInt = -1 := rfl
  by_cases q : w = -1
  · exact Or.inl q
  · have q2 : w.toInt ≠ -1 := fun z => q (Int32.toInt_inj.mp (z.trans m1.symm))
    refine Or.inr ⟨w.toInt.toNat, Int32.toInt_inj.mp ?_, by omega⟩
    rw [nI_int _ (by omega)]; omega
theorem Vf_set {f : Nat → Int32} {y z w : Int32} {h : Nat} (hV : Vf f) (hh : h < nH f) (hy : iv 1 40 y) (hz : iv 1 99 z) (hw : w = -1 ∨ ∃ t, w = nI t ∧ t < nT f) : Vf (setF f (nI h) y z w) := by
  have e0 : nH (setF f (nI h) y z w) = nH f := by unfold nH; rw [setF_o (by omega)]
  have e1 : nT (setF f (nI h) y z w) = nT f := by unfold nT; rw [setF_o (by omega)]
  refine Vf_D hV (fun z hz => setF_o (by omega)) ?_
  rw [e0, e1, setF_0, setF_1, setF_2, setF_3, setF_o (by omega), setF_o (by omega)]
  exact ⟨⟨h, rfl, Or.inl hh⟩, hy, hz, hw, hV.2.2.2.1.2.2.2.2.1, hV.2.2.2.1.2.2.2.2.2⟩
theorem rPl_off {m : MM} {a : Nat} {x y z w : Int32} : Off a a m (rPl m a x y z w) := (((Off.rf.stI (by omega) (by omega)).stI (by omega) (by omega)).stI (by omega) (by omega)).stI (by omega) (by omega)
theorem Wd_set {f : Nat → Int32} {m : MM} {x y z w : Int32} (hV : Vf f) (hW : Wd f 5 m) : Wd (setF f x y z w) 5 (rPl m 29 x y z w) := by
  have o := rPl_off (m := m) (a := 29) (x := x) (y := y) (z := z) (w := w)
  refine Wd_D hV hW (fun z hz => setF_o (by omega)) ((o.2 5 (by omega)).1 1) ((o.2 5 (by omega)).1 10) (fun a ha _ _ k => (o.2 a (by omega)).1 k) (fun j hj => ?_)
  rcases j with _ | _ | _ | _ | _ | _ | j
  · exact (ld_n (by omega) (ld_n (by omega) (ld_n (by omega) ld_s))).trans setF_0.symm
  · exact (ld_n (by omega) (ld_n (by omega) ld_s)).trans setF_1.symm
  · exact (ld_n (by omega) ld_s).trans setF_2.symm
  · exact ld_s.trans setF_3.symm
  · exact (ld_n (by omega) (ld_n (by omega) (ld_n (by omega) (ld_n (by omega) (hW.2.2.2.1 4 (by omega)))))).trans (setF_o (by omega)).symm
  · exact (ld_n (by omega) (ld_n (by omega) (ld_n (by omega) (ld_n (by omega) (hW.2.2.2.1 5 (by omega)))))).trans (setF_o (by omega)).symm
  · omega
def trmF (f : Nat → Int32) (x y : Int32) : Nat → Int32 := upF (upF f 31 x) 32 y
theorem trmF_o {f : Nat → Int32} {x y : Int32} {j : Nat} (h : j < 31 ∨ 32 < j) : trmF f x y j = f j := upF_n (by omega) (upF_n (by omega) rfl)
theorem Vf_trm {f : Nat → Int32} {x y : Int32} (hV : Vf f) (hx : x = 0 ∨ x = 1) (hy : iv 0 99 y) : Vf (trmF f x y) := by
  have e0 : nH (trmF f x y) = nH f := by unfold nH; rw [trmF_o (by omega)]
  have e1 : nT (trmF f x y) = nT f := by unfold nT; rw [trmF_o (by omega)]
  refine Vf_D hV (fun z hz => trmF_o (by omega)) ?_
  rw [e0, e1, trmF_o (by omega), trmF_o (by omega), trmF_o (by omega), trmF_o (by omega), show trmF f x y 31 = x from upF_n (by omega) upF_s, show trmF f x y 32 = y from upF_s]
  exact ⟨hV.2.2.2.1.1, hV.2.2.2.1.2.1, hV.2.2.2.1.2.2.1, hV.2.2.2.1.2.2.2.1, hx, hy⟩
theorem rDr_off {m : MM} {a : Nat} {x y : Int32} : Off a a m (rDr m a x y) := (Off.rf.stI (by omega) (by omega)).stI (by omega) (by omega)
theorem Wd_trm {f : Nat → Int32} {m : MM} {x y : Int32} (hV : Vf f) (hW : Wd f 5 m) : Wd (trmF f x y) 5 (rDr m 29 x y) := by
  have o := rDr_off (m := m) (a := 29) (x := x) (y := y)
  refine Wd_D hV hW (fun z hz => trmF_o (by omega)) ((o.2 5 (by omega)).1 1) ((o.2 5 (by omega)).1 10) (fun a ha _ _ k => (o.2 a (by omega)).1 k) (fun j hj => ?_)
  rcases j with _ | _ | _ | _ | _ | _ | j
  · exact (ld_n (by omega) (ld_n (by omega) (hW.2.2.2.1 0 (by omega)))).trans (trmF_o (by omega)).symm
  · exact (ld_n (by omega) (ld_n (by omega) (hW.2.2.2.1 1 (by omega)))).trans (trmF_o (by omega)).symm
  · exact (ld_n (by omega) (ld_n (by omega) (hW.2.2.2.1 2 (by omega)))).trans (trmF_o (by omega)).symm
  · exact (ld_n (by omega) (ld_n (by omega) (hW.2.2.2.1 3 (by omega)))).trans (trmF_o (by omega)).symm
  · exact (ld_n (by omega) ld_s).trans (show trmF f x y 31 = x from upF_n (by omega) upF_s).symm
  · exact ld_s.trans (show trmF f x y 32 = y from upF_s).symm
  · omega
theorem S_X11_set {g : GG} {m : MM} {Q : Out → Prop} {f : Nat → Int32} {fs : Nat → Nat → Int32} {ic : Nat} {tp : Nat → Int32} {tn : Nat} {pl : Int32} {n1 : Nat} {T1 : Nat → (Nat → Int64) → Nat → Int64} {n2 : Nat} {T2 : Nat → (Nat → Int64) → Nat → Int64} (hC : CI f fs ic tp tn pl n1 T1 n2 T2 m) {x y z w : Int32} (kh : (x < 0 ∨ nI (nH f) ≤ x) → Q (.inr ENSE, m)) (kt : ∀ j, x = nI j → j < nH f → ¬ (-1 ≤ w ∧ w ≤ f 1 - 1) → Q (.inr EIOB, m)) (kb : ∀ j, x = nI j → j < nH f → -1 ≤ w → w ≤ f 1 - 1 → ¬ ((1 ≤ y ∧ y ≤ 40) ∧ 1 ≤ z ∧ z ≤ 99) → Q (.inr EIAE, m)) (k : ∀ j, x = nI j → j < nH f → -1 ≤ w → w ≤ f 1 - 1 → ((1 ≤ y ∧ y ≤ 40) ∧ 1 ≤ z ∧ z ≤ 99) → ∀ m', CI (setF f x y z w) fs ic tp tn pl n1 T1 n2 T2 m' → NoR m m' → Q (.inl (some (.int (f 28))), m')) : Cl g 7 3 18 mX11_set [.ref 4, .int x, .int y, .int z, .int w] m Q := by
  refine Cl.of rfl (by decide) (Nat.le_of_ble_eq_true rfl) ?_
  show Wp g mX11_set 7 3 18 0 [.ref 4, .int x, .int y, .int z, .int w, .retAddr 0] [] m Q
  have hF := hC.1
  have hV := hC.2.1
  have hW := hC.2.2.1
  refine r_aload_n dX11_set_0 rfl ?_
  refine r_iload_n dX11_set_1 rfl ?_
  refine r_callV1 (ci := 11) (d1 := 6) (c1 := 1) (n1 := 6) dX11_set_2 mvX11_71 rfl ⟨(Nat.le_of_ble_eq_true rfl), rfl⟩ (Nat.le_of_ble_eq_true rfl) (by exact Nat.le_of_ble_eq_true rfl) (by exact k_4 hF) ?_
  refine S_X11_demandHull hF hV hW (fun j hj hjn => ?_) (fun h0 => ?_)
  ·
    subst hj
    show Wp g mX11_set _ _ _ 5 _ (_ :: _) _ Q
    refine r_pop dX11_set_5 rfl ?_
    refine r_aload_n dX11_set_6 rfl ?_
    refine r_iload dX11_set_7 rfl ?_
    refine r_callV1 (ci := 11) (d1 := 6) (c1 := 1) (n1 := 6) dX11_set_9 mvX11_128 rfl ⟨(Nat.le_of_ble_eq_true rfl), rfl⟩ (Nat.le_of_ble_eq_true rfl) (by exact Nat.le_of_ble_eq_true rfl) (by exact k_4 hF) ?_
    refine S_X11_demandTank hF hV hW (fun t1 t2 => ?_) (fun t0 => ?_)
    ·
      show Wp g mX11_set _ _ _ 12 _ [] _ Q
      refine r_iload_n dX11_set_12 rfl ?_
      refine r_iconst (1) dX11_set_13 rfl ?_
      refine r_bipush (40) dX11_set_14 rfl ?_
      refine r_callS3 (d1 := 0) (c1 := 0) (n1 := 0) dX11_set_16 msX11_59 rfl (Nat.le_of_ble_eq_true rfl) (by exact Nat.le_of_ble_eq_true rfl) ?_
      refine S_X11_isWithin (fun w16a w16b => ?_) (fun w16 => ?_)
      ·
        show Wp g mX11_set _ _ _ 19 _ (_ :: _) _ Q
        refine r_if_eq 36 dX11_set_19 rfl (fun hz => absurd hz (by decide)) (fun _ => ?_)
        refine r_iload_n dX11_set_22 rfl ?_
        refine r_iconst (1) dX11_set_23 rfl ?_
        refine r_bipush (99) dX11_set_24 rfl ?_
        refine r_callS3 (d1 := 0) (c1 := 0) (n1 := 0) dX11_set_26 msX11_59 rfl (Nat.le_of_ble_eq_true rfl) (by exact Nat.le_of_ble_eq_true rfl) ?_
        refine S_X11_isWithin (fun w26a w26b => ?_) (fun w26 => ?_)
        ·
          show Wp g mX11_set _ _ _ 29 _ (_ :: _) _ Q
          refine r_if_eq 36 dX11_set_29 rfl (fun hz => absurd hz (by decide)) (fun _ => ?_)
          refine r_iconst (1) dX11_set_32 rfl ?_
          refine r_goto 37 dX11_set_33 rfl ?_
          refine r_callS1 (d1 := 6) (c1 := 1) (n1 := 6) dX11_set_37 msX11_63 rfl (Nat.le_of_ble_eq_true rfl) (by exact Nat.le_of_ble_eq_true rfl) ?_
          refine S_demand1 ?_
          show Wp g mX11_set _ _ _ 40 _ [] _ Q
          refine r_aload_n dX11_set_40 rfl ?_
          refine r_getRc dX11_set_41 fgX11_12 rfl (by exact k_4 hF) (by exact r_4_0 hF) ?_
          refine r_getRc dX11_set_44 fgX11_131 rfl (by exact k_5 hF) (by exact r_5_4 hF) ?_
          refine r_getIc (f 28) dX11_set_47 fgX11_135 rfl (by exact k_29 hF) (by exact hW.2.2.2.1 1 (by omega)) ?_
          refine si_5 dX11_set_50 rfl (Nat.le_of_ble_eq_true rfl) ?_
          refine r_aload_n dX11_set_52 rfl ?_
          refine r_getRc dX11_set_53 fgX11_12 rfl (by exact k_4 hF) (by exact r_4_0 hF) ?_
          refine r_getRc dX11_set_56 fgX11_131 rfl (by exact k_5 hF) (by exact r_5_4 hF) ?_
          refine r_iload_n dX11_set_59 rfl ?_
          refine r_iload_n dX11_set_60 rfl ?_
          refine r_iload_n dX11_set_61 rfl ?_
          refine r_iload dX11_set_62 rfl ?_
          refine r_callV4 (ci := 6) (d1 := 0) (c1 := 0) (n1 := 0) dX11_set_64 mvX11_140 rfl ⟨(Nat.le_of_ble_eq_true rfl), rfl⟩ (Nat.le_of_ble_eq_true rfl) (by exact Nat.le_of_ble_eq_true rfl) (by exact k_29 hF) ?_
          refine S_X6_place (by exact k_29 hF) ?_
          show Wp g mX11_set _ _ _ 67 _ [] _ Q
          refine r_iload dX11_set_67 rfl ?_
          refine r_ireturn dX11_set_69 rfl rfl ?_
          exact k j rfl hjn t1 t2 ⟨⟨w16a, w16b⟩, ⟨w26a, w26b⟩⟩ _ (hC.now (rPl_off.wd (by omega) (by omega)) (Vf_set hV hjn (iv_mk w16a w16b) (iv_mk w26a w26b) (tank_of hV t1 t2)) (Wd_set hV hW)) (rPl_off.nor (by omega))
        ·
          show Wp g mX11_set _ _ _ 29 _ (_ :: _) _ Q
          refine r_if_eq 36 dX11_set_29 rfl (fun _ => ?_) (fun hz => absurd hz (by decide))
          refine r_iconst (0) dX11_set_36 rfl ?_
          refine r_callS1 (d1 := 6) (c1 := 1) (n1 := 6) dX11_set_37 msX11_63 rfl (Nat.le_of_ble_eq_true rfl) (by exact Nat.le_of_ble_eq_true rfl) ?_
          refine S_demand0 ?_
          first | exact kb j rfl hjn t1 t2 (fun q => w16 q.1) | exact kb j rfl hjn t1 t2 (fun q => w26 q.2)
      ·
        show Wp g mX11_set _ _ _ 19 _ (_ :: _) _ Q
        refine r_if_eq 36 dX11_set_19 rfl (fun _ => ?_) (fun hz => absurd hz (by decide))
        refine r_iconst (0) dX11_set_36 rfl ?_
        refine r_callS1 (d1 := 6) (c1 := 1) (n1 := 6) dX11_set_37 msX11_63 rfl (Nat.le_of_ble_eq_true rfl) (by exact Nat.le_of_ble_eq_true rfl) ?_
        refine S_demand0 ?_
        first | exact kb j rfl hjn t1 t2 (fun q => w16 q.1) | exact kb j rfl hjn t1 t2 (fun q => w26 q.2)
    ·
      exact kt j rfl hjn t0
  ·
    exact kh h0
theorem S_X11_trim {g : GG} {m : MM} {Q : Out → Prop} {f : Nat → Int32} {fs : Nat → Nat → Int32} {ic : Nat} {tp : Nat → Int32} {tn : Nat} {pl : Int32} {n1 : Nat} {T1 : Nat → (Nat → Int64) → Nat → Int64} {n2 : Nat} {T2 : Nat → (Nat → Int64) → Nat → Int64} (hC : CI f fs ic tp tn pl n1 T1 n2 T2 m) {x y : Int32} (hx : x = 0 ∨ x = 1) (kb : ¬ (0 ≤ y ∧ y ≤ 99) → Q (.inr EIAE, m)) (k : (0 ≤ y ∧ y ≤ 99) → ∀ m', CI (trmF f x y) fs ic tp tn pl n1 T1 n2 T2 m' → NoR m m' → Q (.inl (some (.int (f 32))), m')) : Cl g 7 1 6 mX11_trim [.ref 4, .int x, .int y] m Q := by
  refine Cl.of rfl (by decide) (Nat.le_of_ble_eq_true rfl) ?_
  show Wp g mX11_trim 7 1 6 0 [.ref 4, .int x, .int y, .retAddr 0] [] m Q
  have hF := hC.1
  have hV := hC.2.1
  have hW := hC.2.2.1
  refine r_iload_n dX11_trim_0 rfl ?_
  refine r_iconst (0) dX11_trim_1 rfl ?_
  refine r_bipush (99) dX11_trim_2 rfl ?_
  refine r_callS3 (d1 := 0) (c1 := 0) (n1 := 0) dX11_trim_4 msX11_59 rfl (Nat.le_of_ble_eq_true rfl) (by exact Nat.le_of_ble_eq_true rfl) ?_
  refine S_X11_isWithin (fun w4a w4b => ?_) (fun w4 => ?_)
  ·
    show Wp g mX11_trim _ _ _ 7 _ (_ :: _) _ Q
    refine r_callS1 (d1 := 6) (c1 := 1) (n1 := 6) dX11_trim_7 msX11_63 rfl (Nat.le_of_ble_eq_true rfl) (by exact Nat.le_of_ble_eq_true rfl) ?_
    refine S_demand1 ?_
    show Wp g mX11_trim _ _ _ 10 _ [] _ Q
    refine r_aload_n dX11_trim_10 rfl ?_
    refine r_getRc dX11_trim_11 fgX11_12 rfl (by exact k_4 hF) (by exact r_4_0 hF) ?_
    refine r_getRc dX11_trim_14 fgX11_131 rfl (by exact k_5 hF) (by exact r_5_4 hF) ?_
    refine r_getIc (f 32) dX11_trim_17 fgX11_144 rfl (by exact k_29 hF) (by exact hW.2.2.2.1 5 (by omega)) ?_
    refine si_3 dX11_trim_20 rfl (Nat.le_of_ble_eq_true rfl) ?_
    refine r_aload_n dX11_trim_21 rfl ?_
    refine r_getRc dX11_trim_22 fgX11_12 rfl (by exact k_4 hF) (by exact r_4_0 hF) ?_
    refine r_getRc dX11_trim_25 fgX11_131 rfl (by exact k_5 hF) (by exact r_5_4 hF) ?_
    refine r_iload_n dX11_trim_28 rfl ?_
    refine r_iload_n dX11_trim_29 rfl ?_
    refine r_callV2 (ci := 6) (d1 := 0) (c1 := 0) (n1 := 0) dX11_trim_30 mvX11_147 rfl ⟨(Nat.le_of_ble_eq_true rfl), rfl⟩ (Nat.le_of_ble_eq_true rfl) (by exact Nat.le_of_ble_eq_true rfl) (by exact k_29 hF) ?_
    refine S_X6_dress (by exact k_29 hF) hx ?_
    show Wp g mX11_trim _ _ _ 33 _ [] _ Q
    refine r_iload_n dX11_trim_33 rfl ?_
    refine r_ireturn dX11_trim_34 rfl rfl ?_
    exact k ⟨w4a, w4b⟩ _ (hC.now (rDr_off.wd (by omega) (by omega)) (Vf_trm hV hx (iv_mk w4a w4b)) (Wd_trm hV hW)) (rDr_off.nor (by omega))
  ·
    show Wp g mX11_trim _ _ _ 7 _ (_ :: _) _ Q
    refine r_callS1 (d1 := 6) (c1 := 1) (n1 := 6) dX11_trim_7 msX11_63 rfl (Nat.le_of_ble_eq_true rfl) (by exact Nat.le_of_ble_eq_true rfl) ?_
    refine S_demand0 ?_
    exact kb w4
