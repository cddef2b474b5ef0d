/-- the reference inside a call: thrown is t, and only it has moved since m0 -/
def RJ (f : Nat → Int32) (fs : Nat → Nat → Int32) (ic : Nat) (tp : Nat → Int32) (tn : Nat) (pl : Int32) (n1 n2 : Nat) (ts : Nat → (Nat → Int32) × Nat) (m0 : MM) (t : Int32) (m : MM) : Prop := RI f fs ic tp tn pl n1 n2 ts m ∧ Off 167 282 m0 m ∧ ldI m 167 0 = t
section RJs
variable {f : Nat → Int32} {fs : Nat → Nat → Int32} {ic : Nat} {tp : Nat → Int32} {tn : Nat} {pl : Int32} {n1 n2 : Nat} {ts : Nat → (Nat → Int32) × Nat} {m0 m m' : MM} {t : Int32}
theorem RI.go (h : RI f fs ic tp tn pl n1 n2 ts m) : RJ f fs ic tp tn pl n1 n2 ts m 0 (stI m 167 0 0) := ⟨h.sc (Sc.rf.s (Or.inl rfl)), Off.rf.stI (by omega) (by omega), ld_s⟩
theorem RJ.bad (h : RJ f fs ic tp tn pl n1 n2 ts m0 t m) (w : Int32) : RJ f fs ic tp tn pl n1 n2 ts m0 w (stI m 167 0 w) := ⟨h.1.sc (Sc.rf.s (Or.inl rfl)), h.2.1.stI (by omega) (by omega), ld_s⟩
theorem RJ.sc (h : RJ f fs ic tp tn pl n1 n2 ts m0 t m) (s : Sc m m') (e : ldI m' 167 0 = ldI m 167 0) : RJ f fs ic tp tn pl n1 n2 ts m0 t m' := ⟨h.1.sc s, h.2.1.tr s.off, e.trans h.2.2⟩
theorem lA_ok {z : Nat} (h : z < 665) : ¬ (lA z = 167 ∧ (lK z = 0 ∨ lK z = 1 ∨ lK z = 3 ∨ lK z = 13 ∨ lK z = 14 ∨ lK z = 42)) ∧ ¬ (168 ≤ lA z ∧ lA z ≤ 177) ∧ 167 ≤ lA z ∧ lA z ≤ 278 := by
  by_cases c1 : z < 7
  · have : z = 0 ∨ z = 1 ∨ z = 2 ∨ z = 3 ∨ z = 4 ∨ z = 5 ∨ z = 6 := by omega
    rcases this with rfl | rfl | rfl | rfl | rfl | rfl | rfl <;> decide
  · have e : lA z ≠ 167 ∧ ¬ (168 ≤ lA z ∧ lA z ≤ 177) ∧ 167 ≤ lA z ∧ lA z ≤ 278 := by
      unfold lA
      rw [if_neg c1]
      repeat' split
      all_goals omega
    exact ⟨fun q => e.1 q.1, e.2⟩
theorem RJ.up (h : RJ f fs ic tp tn pl n1 n2 ts m0 t m) {z a k : Nat} {v : Int32} (hz : z < 665) (e : lA z = a ∧ lK z = k) : RJ (upF f z v) fs ic tp tn pl n1 n2 ts m0 t (stI m a k v) := by
  have w := lA_ok hz
  rw [e.1, e.2] at w
  refine ⟨h.1.of (Fx_of (m := m) rfl h.1.1) (h.1.2.1.set hz e) (fun b j hb => ld_n (by omega) rfl), h.2.1.stI (by omega) (by omega), ?_⟩
  exact ld_n (by omega) h.2.2
theorem RJ.g (h : RJ f fs ic tp tn pl n1 n2 ts m0 t m) {z a k : Nat} (hz : z < 665) (e : lA z = a ∧ lK z = k) : ldI m a k = f z := h.1.2.1.at hz e
theorem RJ.F (h : RJ f fs ic tp tn pl n1 n2 ts m0 t m) : Fx m := h.1.1
end RJs
theorem R_bea {m : MM} (hF : Fx m) {i : Nat} (h : i < 6) : ldR m 182 i = 183 + i := fr hF ⟨by decide, by decide, by decide⟩ ((by decide : ∀ i, i < 6 → R0 182 i = 183 + i) i h)
theorem K_bea {m : MM} (hF : Fx m) {i : Nat} (h : i < 6) : kdl m (183 + i) = some (13, 12) := by
  have z := fk hF (183 - 4 + i) ((by decide +kernel : ∀ i, i < 6 → S0[183 - 4 + i]? = some (13, 12)) i h)
  rw [show 183 - 4 + i + 4 = 183 + i from by omega] at z; exact z
theorem R_dra {m : MM} (hF : Fx m) {i : Nat} (h : i < 6) : ldR m 189 i = 190 + i := fr hF ⟨by decide, by decide, by decide⟩ ((by decide : ∀ i, i < 6 → R0 189 i = 190 + i) i h)
theorem K_dra {m : MM} (hF : Fx m) {i : Nat} (h : i < 6) : kdl m (190 + i) = some (13, 12) := by
  have z := fk hF (190 - 4 + i) ((by decide +kernel : ∀ i, i < 6 → S0[190 - 4 + i]? = some (13, 12)) i h)
  rw [show 190 - 4 + i + 4 = 190 + i from by omega] at z; exact z
theorem R_run {m : MM} (hF : Fx m) {i : Nat} (h : i < 60) : ldR m 199 i = 200 + i := fr hF ⟨by decide, by decide, by decide⟩ ((by decide : ∀ i, i < 60 → R0 199 i = 200 + i) i h)
theorem K_run {m : MM} (hF : Fx m) {i : Nat} (h : i < 60) : kdl m (200 + i) = some (13, 7) := by
  have z := fk hF (200 - 4 + i) ((by decide +kernel : ∀ i, i < 60 → S0[200 - 4 + i]? = some (13, 7)) i h)
  rw [show 200 - 4 + i + 4 = 200 + i from by omega] at z; exact z
theorem R_mil {m : MM} (hF : Fx m) {i : Nat} (h : i < 6) : ldR m 263 i = 264 + i := fr hF ⟨by decide, by decide, by decide⟩ ((by decide : ∀ i, i < 6 → R0 263 i = 264 + i) i h)
theorem K_mil {m : MM} (hF : Fx m) {i : Nat} (h : i < 6) : kdl m (264 + i) = some (13, 2) := by
  have z := fk hF (264 - 4 + i) ((by decide +kernel : ∀ i, i < 6 → S0[264 - 4 + i]? = some (13, 2)) i h)
  rw [show 264 - 4 + i + 4 = 264 + i from by omega] at z; exact z
theorem R_fou {m : MM} (hF : Fx m) {i : Nat} (h : i < 8) : ldR m 270 i = 271 + i := fr hF ⟨by decide, by decide, by decide⟩ ((by decide : ∀ i, i < 8 → R0 270 i = 271 + i) i h)
theorem K_fou {m : MM} (hF : Fx m) {i : Nat} (h : i < 8) : kdl m (271 + i) = some (13, 2) := by
  have z := fk hF (271 - 4 + i) ((by decide +kernel : ∀ i, i < 8 → S0[271 - 4 + i]? = some (13, 2)) i h)
  rw [show 271 - 4 + i + 4 = 271 + i from by omega] at z; exact z
theorem R_kep {m : MM} (hF : Fx m) {i : Nat} (h : i < 3) : ldR m 279 i = 280 + i := fr hF ⟨by decide, by decide, by decide⟩ ((by decide : ∀ i, i < 3 → R0 279 i = 280 + i) i h)
theorem K_kep {m : MM} (hF : Fx m) {i : Nat} (h : i < 3) : kdl m (280 + i) = some (13, 800) := by
  have z := fk hF (280 - 4 + i) ((by decide +kernel : ∀ i, i < 3 → S0[280 - 4 + i]? = some (13, 800)) i h)
  rw [show 280 - 4 + i + 4 = 280 + i from by omega] at z; exact z
theorem R_txt {m : MM} (hF : Fx m) {i : Nat} (h : i < 7) : ldR m 169 i = 170 + i := fr hF ⟨by decide, by decide, by decide⟩ ((by decide : ∀ i, i < 7 → R0 169 i = 170 + i) i h)
theorem K_txt {m : MM} (hF : Fx m) {i : Nat} (h : i < 7) : kdl m (170 + i) = some (13, 400) := by
  have z := fk hF (170 - 4 + i) ((by decide +kernel : ∀ i, i < 7 → S0[170 - 4 + i]? = some (13, 400)) i h)
  rw [show 170 - 4 + i + 4 = 170 + i from by omega] at z; exact z
theorem S_X12_in {g : GG} {m : MM} {Q : Out → Prop} {x lo hi : Int32} (k1 : lo ≤ x → x ≤ hi → Q (.inl (some (.int 1)), m)) (k0 : ¬ (lo ≤ x ∧ x ≤ hi) → Q (.inl (some (.int 0)), m)) : Cl g 0 0 0 mX12_in [.int x, .int lo, .int hi] m Q := by
  refine Cl.of rfl (by decide) (Nat.le_of_ble_eq_true rfl) ?_
  show Wp g mX12_in 0 0 0 0 [.int x, .int lo, .int hi] [] m Q
  refine r_iload_n dX12_in_0 rfl ?_
  refine r_iload_n dX12_in_1 rfl ?_
  refine r_icmp_lt 14 dX12_in_2 rfl (fun a => ?_) (fun a => ?_)
  ·
    refine r_iconst (0) dX12_in_14 rfl ?_
    refine r_ireturn dX12_in_15 rfl rfl ?_
    exact k0 (fun q => i32_nlt.mpr q.1 a)
  ·
    refine r_iload_n dX12_in_5 rfl ?_
    refine r_iload_n dX12_in_6 rfl ?_
    refine r_icmp_gt 14 dX12_in_7 rfl (fun c => ?_) (fun c => ?_)
    ·
      refine r_iconst (0) dX12_in_14 rfl ?_
      refine r_ireturn dX12_in_15 rfl rfl ?_
      exact k0 (fun q => i32_nlt.mpr q.2 c)
    ·
      refine r_iconst (1) dX12_in_10 rfl ?_
      refine r_goto 15 dX12_in_11 rfl ?_
      refine r_ireturn dX12_in_15 rfl rfl ?_
      exact k1 (i32_nlt.mp a) (i32_nlt.mp c)
theorem S_bad0 {g : GG} {m : MM} {Q : Out → Prop} (hF : Fx m) (h : ldI m 167 0 = 0) {w : Int32} (k : Q (.inl (some (.int 0)), m)) : Cl g 0 0 0 mX12_bad [.ref 167, .int 0, .int w] m Q := by
  refine Cl.of rfl (by decide) (Nat.le_of_ble_eq_true rfl) ?_
  show Wp g mX12_bad 0 0 0 0 [.ref 167, .int 0, .int w] [] m Q
  refine r_iload_n dX12_bad_0 rfl ?_
  refine r_if_eq 16 dX12_bad_1 rfl (fun _ => ?_) (fun hz => absurd hz (by decide))
  refine r_aload_n dX12_bad_16 rfl ?_
  refine r_getIc (0) dX12_bad_17 fgX12_79 rfl (by exact k_167 hF) (by exact h) ?_
  refine r_if_eq 27 dX12_bad_20 rfl (fun _ => ?_) (fun hz => absurd hz (by decide))
  refine r_iconst (0) dX12_bad_27 rfl ?_
  refine r_ireturn dX12_bad_28 rfl rfl ?_
  exact k
theorem S_bad1 {g : GG} {m : MM} {Q : Out → Prop} (hF : Fx m) (h : ldI m 167 0 = 0) {w : Int32} (hw : ¬ w = 0) (k : Q (.inl (some (.int 1)), stI m 167 0 w)) : Cl g 0 0 0 mX12_bad [.ref 167, .int 1, .int w] m Q := by
  refine Cl.of rfl (by decide) (Nat.le_of_ble_eq_true rfl) ?_
  show Wp g mX12_bad 0 0 0 0 [.ref 167, .int 1, .int w] [] m Q
  refine r_iload_n dX12_bad_0 rfl ?_
  refine r_if_eq 16 dX12_bad_1 rfl (fun hz => absurd hz (by decide)) (fun _ => ?_)
  refine r_aload_n dX12_bad_4 rfl ?_
  refine r_getIc (0) dX12_bad_5 fgX12_79 rfl (by exact k_167 hF) (by exact h) ?_
  refine r_if_ne 16 dX12_bad_8 rfl (fun hz => absurd hz (by decide)) (fun _ => ?_)
  refine r_aload_n dX12_bad_11 rfl ?_
  refine r_iload_n dX12_bad_12 rfl ?_
  refine r_putI dX12_bad_13 (fpX12_79 _ rfl) rfl (by exact k_167 hF) ⟨rfl, rfl⟩ ?_
  have hF9 : Fx (stI m 167 0 w) := Fx_of (m := m) rfl hF
  refine r_aload_n dX12_bad_16 rfl ?_
  refine r_getIc (w) dX12_bad_17 fgX12_79 rfl (by exact k_167 hF9) (by exact ld_s) ?_
  refine r_if_eq 27 dX12_bad_20 rfl (fun hz => ?_) (fun hz => ?_)
  ·
    refine r_iconst (0) dX12_bad_27 rfl ?_
    refine r_ireturn dX12_bad_28 rfl rfl ?_
    exact absurd hz hw
  ·
    refine r_iconst (1) dX12_bad_23 rfl ?_
    refine r_goto 28 dX12_bad_24 rfl ?_
    refine r_ireturn dX12_bad_28 rfl rfl ?_
    exact k
theorem S_thrown {g : GG} {m : MM} {Q : Out → Prop} (hF : Fx m) (k : Q (.inl (some (.int (ldI m 167 0))), m)) : Cl g 0 0 0 mX12_thrown [.ref 167] m Q := by
  refine Cl.of rfl (by decide) (Nat.le_of_ble_eq_true rfl) ?_
  show Wp g mX12_thrown 0 0 0 0 [.ref 167] [] m Q
  refine r_aload_n dX12_thrown_0 rfl ?_
  refine r_getI dX12_thrown_1 fgX12_79 rfl (by exact k_167 hF) ?_
  refine r_ireturn dX12_thrown_4 rfl rfl ?_
  exact k
theorem S_X12_tank {g : GG} {m : MM} {Q : Out → Prop} {f : Nat → Int32} {fs : Nat → Nat → Int32} {ic : Nat} {tp : Nat → Int32} {tn : Nat} {pl : Int32} {n1 n2 : Nat} {ts : Nat → (Nat → Int32) × Nat} (hV : Vf f) (hI : RI f fs ic tp tn pl n1 n2 ts m) {x y : Int32} (kb : ¬ ((1 ≤ x ∧ x ≤ 200) ∧ 1 ≤ y ∧ y ≤ 200) → ∀ m', RJ f fs ic tp tn pl n1 n2 ts m 1 m' → Q (.inl (some (.int 0)), m')) (kf : ((1 ≤ x ∧ x ≤ 200) ∧ 1 ≤ y ∧ y ≤ 200) → nT f = 4 → ∀ m', RJ f fs ic tp tn pl n1 n2 ts m 0 m' → Q (.inl (some (.int (-1))), m')) (k : ((1 ≤ x ∧ x ≤ 200) ∧ 1 ≤ y ∧ y ≤ 200) → nT f < 4 → ∀ m', RJ (tanF f x y) fs ic tp tn pl n1 n2 ts m 0 m' → Q (.inl (some (.int (nI (nT f)))), m')) : Cl g 1 0 0 mX12_tank [.ref 167, .int x, .int y] m Q := by
  refine Cl.of rfl (by decide) (Nat.le_of_ble_eq_true rfl) ?_
  show Wp g mX12_tank 1 0 0 0 [.ref 167, .int x, .int y] [] m Q
  have hc := hV.1.2.1.1
  refine r_aload_n dX12_tank_0 rfl ?_
  refine r_iconst (0) dX12_tank_1 rfl ?_
  refine r_putI dX12_tank_2 (fpX12_79 _ rfl) rfl (by exact k_167 hI.1) ⟨rfl, rfl⟩ ?_
  have hJ1 := hI.go
  refine r_aload_n dX12_tank_5 rfl ?_
  refine r_iload_n dX12_tank_6 rfl ?_
  refine r_iconst (1) dX12_tank_7 rfl ?_
  refine r_sipush (200) dX12_tank_8 rfl ?_
  refine r_callS3 (d1 := 0) (c1 := 0) (n1 := 0) dX12_tank_11 msX12_82 rfl (Nat.le_of_ble_eq_true rfl) (by exact Nat.le_of_ble_eq_true rfl) ?_
  refine S_X12_in (fun w11a w11b => ?_) (fun w11 => ?_)
  ·
    show Wp g mX12_tank _ _ _ 14 _ (_ :: _) _ Q
    refine r_if_eq 28 dX12_tank_14 rfl (fun hz => absurd hz (by decide)) (fun _ => ?_)
    refine r_iload_n dX12_tank_17 rfl ?_
    refine r_iconst (1) dX12_tank_18 rfl ?_
    refine r_sipush (200) dX12_tank_19 rfl ?_
    refine r_callS3 (d1 := 0) (c1 := 0) (n1 := 0) dX12_tank_22 msX12_82 rfl (Nat.le_of_ble_eq_true rfl) (by exact Nat.le_of_ble_eq_true rfl) ?_
    refine S_X12_in (fun w22a w22b => ?_) (fun w22 => ?_)
    ·
      show Wp g mX12_tank _ _ _ 25 _ (_ :: _) _ Q
      refine r_if_ne 32 dX12_tank_25 rfl (fun _ => ?_) (fun hz => absurd hz (by decide))
      refine r_iconst (0) dX12_tank_32 rfl ?_
      refine r_iconst (1) dX12_tank_33 rfl ?_
      refine r_callV2 (ci := 12) (d1 := 0) (c1 := 0) (n1 := 0) dX12_tank_34 mvX12_86 rfl ⟨(Nat.le_of_ble_eq_true rfl), rfl⟩ (Nat.le_of_ble_eq_true rfl) (by exact Nat.le_of_ble_eq_true rfl) (by exact k_167 hJ1.F) ?_
      refine S_bad0 hJ1.F hJ1.2.2 ?_
      show Wp g mX12_tank _ _ _ 37 _ (_ :: _) _ Q
      refine r_if_eq 42 dX12_tank_37 rfl (fun _ => ?_) (fun hz => absurd hz (by decide))
      refine r_aload_n dX12_tank_42 rfl ?_
      refine r_getIc (f 1) dX12_tank_43 fgX12_105 rfl (by exact k_167 hJ1.F) (by exact hJ1.g (by omega) l_1) ?_
      refine r_iconst (4) dX12_tank_46 rfl ?_
      refine r_icmp_ne 52 dX12_tank_47 rfl (fun h4 => ?_) (fun h4 => ?_)
      ·
        have ht4 : nT f < 4 := by have := hV.1.2.1.2; exact Nat.lt_of_le_of_ne this (fun q => h4 (by rw [hc, q]; rfl))
        refine r_aload_n dX12_tank_52 rfl ?_
        refine r_getRc dX12_tank_53 fgX12_46 rfl (by exact k_167 hJ1.F) (by exact r_167_24 hJ1.F) ?_
        refine r_aload_n dX12_tank_56 rfl ?_
        refine r_getIc (f 1) dX12_tank_57 fgX12_105 rfl (by exact k_167 hJ1.F) (by exact hJ1.g (by omega) l_1) ?_
        refine r_iload_n dX12_tank_60 rfl ?_
        refine r_iastoren (nT f) (by rw [hc, nI_cl _ (by omega)]) dX12_tank_61 (by exact k_196 hJ1.F) (by rw [hc]; exact vin (by omega) (by omega)) ?_
        have hJ2 := hJ1.up (z := 19 + nT f) (v := x) (by omega) (l_wid (by omega))
        refine r_aload_n dX12_tank_62 rfl ?_
        refine r_getRc dX12_tank_63 fgX12_49 rfl (by exact k_167 hJ2.F) (by exact r_167_25 hJ2.F) ?_
        refine r_aload_n dX12_tank_66 rfl ?_
        refine r_getIc (f 1) dX12_tank_67 fgX12_105 rfl (by exact k_167 hJ2.F) (by exact (hJ2.g (by omega) l_1).trans (upF_n (by omega) rfl)) ?_
        refine r_iload_n dX12_tank_70 rfl ?_
        refine r_iastoren (nT f) (by rw [hc, nI_cl _ (by omega)]) dX12_tank_71 (by exact k_197 hJ2.F) (by rw [hc]; exact vin (by omega) (by omega)) ?_
        have hJ3 := hJ2.up (z := 23 + nT f) (v := y) (by omega) (l_dep (by omega))
        refine r_aload_n dX12_tank_72 rfl ?_
        refine r_dup dX12_tank_73 rfl ?_
        refine r_getIc (f 1) dX12_tank_74 fgX12_105 rfl (by exact k_167 hJ3.F) (by exact (hJ3.g (by omega) l_1).trans (upF_n (by omega) (upF_n (by omega) rfl))) ?_
        refine r_iconst (1) dX12_tank_77 rfl ?_
        refine r_iadd dX12_tank_78 ?_
        rw [hc, nI_1]
        refine r_putI dX12_tank_79 (fpX12_105 _ rfl) rfl (by exact k_167 hJ3.F) ⟨rfl, rfl⟩ ?_
        have hJ4 := hJ3.up (z := 1) (v := nI (nT f + 1)) (by omega) l_1
        refine r_aload_n dX12_tank_82 rfl ?_
        refine r_getIc (nI (nT f + 1)) dX12_tank_83 fgX12_105 rfl (by exact k_167 hJ4.F) (by exact ld_s) ?_
        refine r_iconst (1) dX12_tank_86 rfl ?_
        refine r_isub dX12_tank_87 ?_
        refine r_ireturn dX12_tank_88 rfl rfl ?_
        rw [nI_p1]; exact k ⟨⟨w11a, w11b⟩, ⟨w22a, w22b⟩⟩ ht4 _ hJ4
      ·
        refine r_iconst (-1) dX12_tank_50 rfl ?_
        refine r_ireturn dX12_tank_51 rfl rfl ?_
        exact kf ⟨⟨w11a, w11b⟩, ⟨w22a, w22b⟩⟩ (by have := hc.symm.trans h4; exact (nI_eq (b := 4) (by have := hV.1.2.1.2; omega) (by omega)).mp this) _ hJ1
    ·
      show Wp g mX12_tank _ _ _ 25 _ (_ :: _) _ Q
      refine r_if_ne 32 dX12_tank_25 rfl (fun hz => absurd hz (by decide)) (fun _ => ?_)
      refine r_iconst (1) dX12_tank_28 rfl ?_
      refine r_goto 33 dX12_tank_29 rfl ?_
      refine r_iconst (1) dX12_tank_33 rfl ?_
      refine r_callV2 (ci := 12) (d1 := 0) (c1 := 0) (n1 := 0) dX12_tank_34 mvX12_86 rfl ⟨(Nat.le_of_ble_eq_true rfl), rfl⟩ (Nat.le_of_ble_eq_true rfl) (by exact Nat.le_of_ble_eq_true rfl) (by exact k_167 hJ1.F) ?_
      refine S_bad1 hJ1.F hJ1.2.2 (by decide) ?_
      have hJ5 := hJ1.bad 1
      show Wp g mX12_tank _ _ _ 37 _ (_ :: _) _ Q
      refine r_if_eq 42 dX12_tank_37 rfl (fun hz => absurd hz (by decide)) (fun _ => ?_)
      refine r_iconst (0) dX12_tank_40 rfl ?_
      refine r_ireturn dX12_tank_41 rfl rfl ?_
      first | exact kb (fun q => w11 q.1) _ hJ5 | exact kb (fun q => w22 q.2) _ hJ5
  ·
    show Wp g mX12_tank _ _ _ 14 _ (_ :: _) _ Q
    refine r_if_eq 28 dX12_tank_14 rfl (fun _ => ?_) (fun hz => absurd hz (by decide))
    refine r_iconst (1) dX12_tank_28 rfl ?_
    refine r_goto 33 dX12_tank_29 rfl ?_
    refine r_iconst (1) dX12_tank_33 rfl ?_
    refine r_callV2 (ci := 12) (d1 := 0) (c1 := 0) (n1 := 0) dX12_tank_34 mvX12_86 rfl ⟨(Nat.le_of_ble_eq_true rfl), rfl⟩ (Nat.le_of_ble_eq_true rfl) (by exact Nat.le_of_ble_eq_true rfl) (by exact k_167 hJ1.F) ?_
    refine S_bad1 hJ1.F hJ1.2.2 (by decide) ?_
    have hJ6 := hJ1.bad 1
    show Wp g mX12_tank _ _ _ 37 _ (_ :: _) _ Q
    refine r_if_eq 42 dX12_tank_37 rfl (fun hz => absurd hz (by decide)) (fun _ => ?_)
    refine r_iconst (0) dX12_tank_40 rfl ?_
    refine r_ireturn dX12_tank_41 rfl rfl ?_
    first | exact kb (fun q => w11 q.1) _ hJ6 | exact kb (fun q => w22 q.2) _ hJ6
