/-- nothing of the reference (nor of what lies behind it) is touched -/
def NoR (m m' : MM) : Prop := m'.2.2 = m.2.2 ∧ ∀ a, 166 < a → (∀ k, ldI m' a k = ldI m a k) ∧ ∀ k, ldL m' a k = ldL m a k
theorem NoR.rf {m : MM} : NoR m m := ⟨rfl, fun _ _ => ⟨fun _ => rfl, fun _ => rfl⟩⟩
theorem Off.nor {lo hi : Nat} {m m' : MM} (o : Off lo hi m m') (h : hi ≤ 166) : NoR m m' := ⟨o.1, fun a ha => o.2 a (by omega)⟩
theorem NoR.tr {m m' m2 : MM} (h : NoR m m') (h2 : NoR m' m2) : NoR m m2 := ⟨h2.1.trans h.1, fun a ha => ⟨fun k => ((h2.2 a ha).1 k).trans ((h.2 a ha).1 k), fun k => ((h2.2 a ha).2 k).trans ((h.2 a ha).2 k)⟩⟩
theorem iv_mk {a b x : Int32} (h1 : a ≤ x) (h2 : x ≤ b) : iv a.toInt b.toInt x := ⟨Int32.le_iff_toInt_le.mp h1, Int32.le_iff_toInt_le.mp h2⟩
def tanF (f : Nat → Int32) (x y : Int32) : Nat → Int32 := upF (upF (upF f (19 + nT f) x) (23 + nT f) y) 1 (nI (nT f + 1))
theorem tanF_T {f : Nat → Int32} {x y : Int32} (h : nT f < 4) : nT (tanF f x y) = nT f + 1 := by show (upF _ 1 _ 1).toNatClampNeg = _; rw [upF_s, nI_cl _ (by omega)]
theorem Vf_tan {f : Nat → Int32} {x y : Int32} (hV : Vf f) (h : nT f < 4) (hx : iv 1 200 x) (hy : iv 1 200 y) : Vf (tanF f x y) := by
  refine Vf_T hV (fun z hz => upF_n (by omega) (upF_n (by omega) (upF_n (by omega) rfl))) ?_ ?_ ?_
  · rw [tanF_T h]; exact ⟨upF_s, by omega⟩
  · rw [tanF_T h]; omega
  · rw [tanF_T h]
    intro j hj
    by_cases q : j = nT f
    · subst q
      rw [show tanF f x y (19 + nT f) = x from upF_n (by omega) (upF_n (by omega) upF_s), show tanF f x y (23 + nT f) = y from upF_n (by omega) upF_s]; exact ⟨hx, hy⟩
    · rw [show tanF f x y (19 + j) = f (19 + j) from upF_n (by omega) (upF_n (by omega) (upF_n (by omega) rfl)), show tanF f x y (23 + j) = f (23 + j) from upF_n (by omega) (upF_n (by omega) (upF_n (by omega) rfl))]; exact hV.2.2.1 j (by omega)
theorem adT_off {m : MM} {n : Nat} {x y : Int32} : Off 25 28 m (adT m n x y) := (((Off.rf.stI (by omega) (by omega)).stI (by omega) (by omega)).stI (by omega) (by omega)).stI (by omega) (by omega)
theorem Wd_tan {f : Nat → Int32} {m : MM} {x y : Int32} (hV : Vf f) (hW : Wd f 5 m) (h : nT f < 4) : Wd (tanF f x y) 5 (adT m (nT f) x y) := by
  have o := adT_off (m := m) (n := nT f) (x := x) (y := y)
  refine Wd_T hV hW (fun z hz => upF_n (by omega) (upF_n (by omega) (upF_n (by omega) rfl))) ((o.2 5 (by omega)).1 1) ((o.2 5 (by omega)).1 10) (fun a ha _ _ k => (o.2 a ha).1 k) ⟨?_, ?_, ?_⟩
  · rw [show tanF f x y 1 = nI (nT f + 1) from upF_s]; exact ld_n (by decide) (ld_n (by omega) ld_s)
  · rw [show tanF f x y 1 = nI (nT f + 1) from upF_s]; exact ld_s
  · rw [tanF_T h]
    intro j hj
    by_cases q : j = nT f
    · subst q
      rw [show tanF f x y (19 + nT f) = x from upF_n (by omega) (upF_n (by omega) upF_s), show tanF f x y (23 + nT f) = y from upF_n (by omega) upF_s]
      exact ⟨ld_n (by omega) (ld_n (by omega) (ld_n (by omega) ld_s)), ld_n (by omega) ld_s⟩
    · rw [show tanF f x y (19 + j) = f (19 + j) from upF_n (by omega) (upF_n (by omega) (upF_n (by omega) rfl)), show tanF f x y (23 + j) = f (23 + j) from upF_n (by omega) (upF_n (by omega) (upF_n (by omega) rfl))]
      exact ⟨ld_n (by omega) (ld_n (by omega) (ld_n (by omega) (ld_n (by omega) (hW.2.2.1.2.2 j (by omega)).1))), ld_n (by omega) (ld_n (by omega) (ld_n (by omega) (ld_n (by omega) (hW.2.2.1.2.2 j (by omega)).2)))⟩
theorem S_X11_tank {g : GG} {m : MM} {Q : Out → Prop} {f : Nat → Int32} {fs : Nat → Nat → Int32} {ic : Nat} {tp : Nat → Int32} {tn : Nat} {pl : Int32} {n1 : Nat} {T1 : Nat → (Nat → Int64) → Nat → Int64} {n2 : Nat} {T2 : Nat → (Nat → Int64) → Nat → Int64} (hC : CI f fs ic tp tn pl n1 T1 n2 T2 m) {x y : Int32} (kb : ¬ ((1 ≤ x ∧ x ≤ 200) ∧ 1 ≤ y ∧ y ≤ 200) → Q (.inr EIAE, m)) (kf : ((1 ≤ x ∧ x ≤ 200) ∧ 1 ≤ y ∧ y ≤ 200) → nT f = 4 → Q (.inl (some (.int (-1))), m)) (k : ((1 ≤ x ∧ x ≤ 200) ∧ 1 ≤ y ∧ y ≤ 200) → nT f < 4 → ∀ m', CI (tanF f x y) fs ic tp tn pl n1 T1 n2 T2 m' → NoR m m' → Q (.inl (some (.int (nI (nT f)))), m')) : Cl g 7 1 6 mX11_tank [.ref 4, .int x, .int y] m Q := by
  refine Cl.of rfl (by decide) (Nat.le_of_ble_eq_true rfl) ?_
  show Wp g mX11_tank 7 1 6 0 [.ref 4, .int x, .int y] [] m Q
  have hF := hC.1
  have hV := hC.2.1
  have hW := hC.2.2.1
  refine r_iload_n dX11_tank_0 rfl ?_
  refine r_iconst (1) dX11_tank_1 rfl ?_
  refine r_sipush (200) dX11_tank_2 rfl ?_
  refine r_callS3 (d1 := 0) (c1 := 0) (n1 := 0) dX11_tank_5 msX11_59 rfl (Nat.le_of_ble_eq_true rfl) (by exact Nat.le_of_ble_eq_true rfl) ?_
  refine S_X11_isWithin (fun w5a w5b => ?_) (fun w5 => ?_)
  ·
    show Wp g mX11_tank _ _ _ 8 _ (_ :: _) _ Q
    refine r_if_eq 26 dX11_tank_8 rfl (fun hz => absurd hz (by decide)) (fun _ => ?_)
    refine r_iload_n dX11_tank_11 rfl ?_
    refine r_iconst (1) dX11_tank_12 rfl ?_
    refine r_sipush (200) dX11_tank_13 rfl ?_
    refine r_callS3 (d1 := 0) (c1 := 0) (n1 := 0) dX11_tank_16 msX11_59 rfl (Nat.le_of_ble_eq_true rfl) (by exact Nat.le_of_ble_eq_true rfl) ?_
    refine S_X11_isWithin (fun w16a w16b => ?_) (fun w16 => ?_)
    ·
      show Wp g mX11_tank _ _ _ 19 _ (_ :: _) _ Q
      refine r_if_eq 26 dX11_tank_19 rfl (fun hz => absurd hz (by decide)) (fun _ => ?_)
      refine r_iconst (1) dX11_tank_22 rfl ?_
      refine r_goto 27 dX11_tank_23 rfl ?_
      refine r_callS1 (d1 := 6) (c1 := 1) (n1 := 6) dX11_tank_27 msX11_63 rfl (Nat.le_of_ble_eq_true rfl) (by exact Nat.le_of_ble_eq_true rfl) ?_
      refine S_demand1 ?_
      show Wp g mX11_tank _ _ _ 30 _ [] _ Q
      refine r_aload_n dX11_tank_30 rfl ?_
      refine r_getRc dX11_tank_31 fgX11_12 rfl (by exact k_4 hF) (by exact r_4_0 hF) ?_
      refine r_iload_n dX11_tank_34 rfl ?_
      refine r_iload_n dX11_tank_35 rfl ?_
      refine r_callV2 (ci := 10) (d1 := 1) (c1 := 0) (n1 := 0) dX11_tank_36 mvX11_96 rfl ⟨(Nat.le_of_ble_eq_true rfl), rfl⟩ (Nat.le_of_ble_eq_true rfl) (by exact Nat.le_of_ble_eq_true rfl) (by exact k_5 hF) ?_
      refine S_X10_addTank hF (hW.2.2.1.1.trans hV.1.2.1.1) (hW.2.2.1.2.1.trans hV.1.2.1.1) hV.1.2.1.2 (fun h4 => ?_) (fun h4 => ?_)
      ·
        show Wp g mX11_tank _ _ _ 39 _ (_ :: _) _ Q
        refine r_ireturn dX11_tank_39 rfl rfl ?_
        exact kf ⟨⟨w5a, w5b⟩, ⟨w16a, w16b⟩⟩ h4
      ·
        show Wp g mX11_tank _ _ _ 39 _ (_ :: _) _ Q
        refine r_ireturn dX11_tank_39 rfl rfl ?_
        exact k ⟨⟨w5a, w5b⟩, ⟨w16a, w16b⟩⟩ h4 _ (hC.now (adT_off.wd (by omega) (by omega)) (Vf_tan hV h4 (iv_mk w5a w5b) (iv_mk w16a w16b)) (Wd_tan hV hW h4)) (adT_off.nor (by omega))
    ·
      show Wp g mX11_tank _ _ _ 19 _ (_ :: _) _ Q
      refine r_if_eq 26 dX11_tank_19 rfl (fun _ => ?_) (fun hz => absurd hz (by decide))
      refine r_iconst (0) dX11_tank_26 rfl ?_
      refine r_callS1 (d1 := 6) (c1 := 1) (n1 := 6) dX11_tank_27 msX11_63 rfl (Nat.le_of_ble_eq_true rfl) (by exact Nat.le_of_ble_eq_true rfl) ?_
      refine S_demand0 ?_
      first | exact kb (fun q => w5 q.1) | exact kb (fun q => w16 q.2)
  ·
    show Wp g mX11_tank _ _ _ 8 _ (_ :: _) _ Q
    refine r_if_eq 26 dX11_tank_8 rfl (fun _ => ?_) (fun hz => absurd hz (by decide))
    refine r_iconst (0) dX11_tank_26 rfl ?_
    refine r_callS1 (d1 := 6) (c1 := 1) (n1 := 6) dX11_tank_27 msX11_63 rfl (Nat.le_of_ble_eq_true rfl) (by exact Nat.le_of_ble_eq_true rfl) ?_
    refine S_demand0 ?_
    first | exact kb (fun q => w5 q.1) | exact kb (fun q => w16 q.2)
