/-! lines exchanged -/
def BqK (m m' : MM) : Prop := (∀ k, ldI m' 167 k = ldI m 167 k) ∧ ∀ k, ldL m' 167 k = ldL m 167 k
def BtQ (m : MM) (s : Int64 × Int32 × Int32 × Int32) : Prop := ldL m 167 41 = s.1 ∧ ldI m 167 38 = s.2.1 ∧ (s.2.1 = -1 ∨ (ldI m 167 39 = s.2.2.1 ∧ ldI m 167 40 = s.2.2.2))
theorem BtQ.k {m m' : MM} {s : Int64 × Int32 × Int32 × Int32} (h : BtQ m s) (e : BqK m m') : BtQ m' s := ⟨(e.2 41).trans h.1, (e.1 38).trans h.2.1, h.2.2.imp id (fun z => ⟨(e.1 39).trans z.1, (e.1 40).trans z.2⟩)⟩
theorem BtQ.sc {m m' : MM} {s : Int64 × Int32 × Int32 × Int32} (h : BtQ m s) (e : Sc m m') : BtQ m' s := ⟨((e.2.2 167 41 (by unfold scS; omega) (by omega)).2 rfl).trans h.1, (e.2.2 167 38 (by unfold scS; omega) (by omega)).1.trans h.2.1, h.2.2.imp id (fun z => ⟨(e.2.2 167 39 (by unfold scS; omega) (by omega)).1.trans z.1, (e.2.2 167 40 (by unfold scS; omega) (by omega)).1.trans z.2⟩)⟩
theorem lA_bst {z : Nat} (h : z < 665) : ¬ (lA z = 167 ∧ 38 ≤ lK z) := by
  by_cases c1 : z < 7
  · have : z = 0 ∨ z = 1 ∨ z = 2 ∨ z = 3 ∨ z = 4 ∨ z = 5 ∨ z = 6 := by omega
    rcases this with rfl | rfl | rfl | rfl | rfl | rfl | rfl <;> decide
  · have e : lA z ≠ 167 := by
      unfold lA
      rw [if_neg c1]
      repeat' split
      all_goals omega
    exact fun q => e q.1
section RJb
variable {f : Nat → Int32} {fs : Nat → Nat → Int32} {ic : Nat} {tp : Nat → Int32} {tn : Nat} {pl : Int32} {n1 n2 : Nat} {ts : Nat → (Nat → Int32) × Nat} {m0 m : MM} {t : Int32}
theorem RJ.b (h : RJ f fs ic tp tn pl n1 n2 ts m0 t m) {k : Nat} (v : Int32) (h1 : 38 ≤ k) (h2 : k ≤ 40) : RJ f fs ic tp tn pl n1 n2 ts m0 t (stI m 167 k v) := ⟨h.1.of (Fx_of (m := m) rfl h.1.1) (fun z hz => ld_n (fun q => lA_bst hz ⟨q.1, by omega⟩) (h.1.2.1 z hz)) (fun a j ha => ld_n (by omega) rfl), h.2.1.stI (by omega) (by omega), ld_n (by omega) h.2.2⟩
theorem RJ.bl (h : RJ f fs ic tp tn pl n1 n2 ts m0 t m) {k : Nat} (v : Int64) : RJ f fs ic tp tn pl n1 n2 ts m0 t (stL m 167 k v) := ⟨h.1.of (Fx_of (m := m) rfl h.1.1) (fun z hz => h.1.2.1 z hz) (fun a j ha => rfl), ⟨h.2.1.1, fun a ha => ⟨(h.2.1.2 a ha).1, fun j => (if_neg (by omega)).trans ((h.2.1.2 a ha).2 j)⟩⟩, h.2.2⟩
end RJb
theorem in_dec {x : Int32} (h : iv 0 60 x) : (0 ≤ x - 1 ∧ x - 1 ≤ 60) ↔ 0 < x := by
  unfold iv at h
  have e : (x - 1).toInt = x.toInt - 1 := by
    rw [Int32.toInt_sub]; show Int.bmod (x.toInt - 1) (2 ^ 32) = _
    rw [Int.bmod_eq_of_le (by omega) (by omega)]
  rw [Int32.le_iff_toInt_le, Int32.le_iff_toInt_le, Int32.lt_iff_toInt_lt, e]
  have a : (0 : Int32).toInt = 0 := rfl
  have b : (60 : Int32).toInt = 60 := rfl
  omega
theorem in_inc {x : Int32} (h : iv 0 60 x) : (0 ≤ x + 1 ∧ x + 1 ≤ 60) ↔ x < 60 := by
  unfold iv at h
  have e : (x + 1).toInt = x.toInt + 1 := by
    rw [Int32.toInt_add]; show Int.bmod (x.toInt + 1) (2 ^ 32) = _
    rw [Int.bmod_eq_of_le (by omega) (by omega)]
  rw [Int32.le_iff_toInt_le, Int32.le_iff_toInt_le, Int32.lt_iff_toInt_lt, e]
  have a : (0 : Int32).toInt = 0 := rfl
  have b : (60 : Int32).toInt = 60 := rfl
  omega
theorem i32_mm (x : Int32) : x - 1 - -1 = x := by rw [← Int32.toBitVec_inj]; simp
theorem i32_pm (x : Int32) : x + 1 + -1 = x := by rw [Int32.add_assoc, show (1 : Int32) + -1 = 0 from by decide, Int32.add_zero]
theorem iv_in {x : Int32} (h : iv 0 60 x) : 0 ≤ x ∧ x ≤ 60 := ⟨Int32.le_iff_toInt_le.mpr h.1, Int32.le_iff_toInt_le.mpr h.2⟩
theorem xf_back {f : Nat → Int32} {b i j : Nat} (h : i ≠ j) : upF (upF (xf f b i j) (b + i) (f (b + i))) (b + j) (f (b + j)) = f := by
  funext z
  by_cases q : z = b + j
  · subst q; exact upF_s
  · rw [upF_n q rfl]
    by_cases q2 : z = b + i
    · subst q2; exact upF_s
    · rw [upF_n q2 rfl]; exact xf_o q2 q
theorem S_chg0p {g : GG} {m : MM} {Q : Out → Prop} {f : Nat → Int32} {fs : Nat → Nat → Int32} {ic : Nat} {tp : Nat → Int32} {tn : Nat} {pl : Int32} {n1 n2 : Nat} {ts : Nat → (Nat → Int32) × Nat} {m0 : MM} {t : Int32} (hV : Vf f) {h i j : Nat} (hh0 : f 27 = nI h) (hh : h < nH f) (hi : i < nS f h) (hj : j < nS f h) (hij : i ≠ j) (hJ : RJ f fs ic tp tn pl n1 n2 ts m0 t m) (k1 : XF f (73 + 24 * h) i j → ∀ m', RJ (xf f (73 + 24 * h) i j) fs ic tp tn pl n1 n2 ts m0 t m' → BqK m m' → Q (.inl (some (.int 1)), m')) (k0 : ¬ XF f (73 + 24 * h) i j → Q (.inl (some (.int 0)), m)) : Cl g 1 0 0 mX12_changes [.ref 167, .int 0, .int (nI i), .int (nI j), .int (1)] m Q := by
  refine Cl.of rfl (by decide) (Nat.le_of_ble_eq_true rfl) ?_
  show Wp g mX12_changes 1 0 0 0 [.ref 167, .int 0, .int (nI i), .int (nI j), .int (1), .retAddr 0] [] m Q
  have hJ1 := hJ
  have h6 : h < 6 := by have := hV.1.1.2; omega
  have h12 := (hV.2.1 h hh).2.2.2.1
  have vi := ((hV.2.1 h hh).2.2.2.2 i hi).1
  have vj := ((hV.2.1 h hh).2.2.2.2 j hj).1
  refine r_iload_n dX12_changes_0 rfl ?_
  refine r_if_ne 18 dX12_changes_1 rfl (fun hz => absurd hz (by decide)) (fun _ => ?_)
  refine r_aload_n dX12_changes_4 rfl ?_
  refine r_getRc dX12_changes_5 fgX12_40 rfl (by exact k_167 hJ1.F) (by exact r_167_22 hJ1.F) ?_
  refine r_aload_n dX12_changes_8 rfl ?_
  refine r_getRc dX12_changes_9 fgX12_52 rfl (by exact k_167 hJ1.F) (by exact r_167_26 hJ1.F) ?_
  refine r_iconst (0) dX12_changes_12 rfl ?_
  refine r_ialoadc (nI h) dX12_changes_13 (by exact k_198 hJ1.F) (vin (j := 0) (by omega) (by omega)) (by exact (hJ1.g (by omega) (l_han (i := 0) (by omega))).trans hh0) ?_
  refine r_aaloadc (b := 183 + h) dX12_changes_14 ⟨Nat.le_of_ble_eq_true rfl, Nat.le_of_ble_eq_true rfl⟩ (by exact k_182 hJ1.F) (vin (by omega) (by omega)) (by rw [nI_cl _ (by omega)]; exact R_bea hJ1.F (by omega)) ?_
  refine r_goto 29 dX12_changes_15 rfl ?_
  refine sa_5 dX12_changes_29 rfl (Nat.le_of_ble_eq_true rfl) ?_
  refine r_aload dX12_changes_31 rfl ?_
  refine r_iload_n dX12_changes_33 rfl ?_
  refine r_ialoadc (f (73 + 24 * h + i)) dX12_changes_34 (by exact K_bea hJ1.F (by omega)) (vin (by omega) (by omega)) (by rw [nI_cl _ (by omega)]; exact (hJ1.g (by omega) (l_bea (by omega) (by omega)))) ?_
  refine r_iload dX12_changes_35 rfl ?_
  refine r_isub dX12_changes_37 ?_
  refine r_iconst (0) dX12_changes_38 rfl ?_
  refine r_bipush (60) dX12_changes_39 rfl ?_
  refine r_callS3 (d1 := 0) (c1 := 0) (n1 := 0) dX12_changes_41 msX12_82 rfl (Nat.le_of_ble_eq_true rfl) (by exact Nat.le_of_ble_eq_true rfl) ?_
  refine S_X12_in (fun w41a w41b => ?_) (fun w41 => ?_)
  ·
    show Wp g mX12_changes _ _ _ 44 _ (_ :: _) _ Q
    refine r_if_eq 63 dX12_changes_44 rfl (fun hz => absurd hz (by decide)) (fun _ => ?_)
    refine r_aload dX12_changes_47 rfl ?_
    refine r_iload_n dX12_changes_49 rfl ?_
    refine r_ialoadc (f (73 + 24 * h + j)) dX12_changes_50 (by exact K_bea hJ1.F (by omega)) (vin (by omega) (by omega)) (by rw [nI_cl _ (by omega)]; exact (hJ1.g (by omega) (l_bea (by omega) (by omega)))) ?_
    refine r_iload dX12_changes_51 rfl ?_
    refine r_iadd dX12_changes_53 ?_
    refine r_iconst (0) dX12_changes_54 rfl ?_
    refine r_bipush (60) dX12_changes_55 rfl ?_
    refine r_callS3 (d1 := 0) (c1 := 0) (n1 := 0) dX12_changes_57 msX12_82 rfl (Nat.le_of_ble_eq_true rfl) (by exact Nat.le_of_ble_eq_true rfl) ?_
    refine S_X12_in (fun w57a w57b => ?_) (fun w57 => ?_)
    ·
      show Wp g mX12_changes _ _ _ 60 _ (_ :: _) _ Q
      refine r_if_ne 65 dX12_changes_60 rfl (fun _ => ?_) (fun hz => absurd hz (by decide))
      refine r_aload dX12_changes_65 rfl ?_
      refine r_iload_n dX12_changes_67 rfl ?_
      refine r_dup2 dX12_changes_68 rfl rfl ?_
      refine r_ialoadc (f (73 + 24 * h + i)) dX12_changes_69 (by exact K_bea hJ1.F (by omega)) (vin (by omega) (by omega)) (by rw [nI_cl _ (by omega)]; exact (hJ1.g (by omega) (l_bea (by omega) (by omega)))) ?_
      refine r_iload dX12_changes_70 rfl ?_
      refine r_isub dX12_changes_72 ?_
      refine r_iastoren (i) (nI_cl _ (by omega)) dX12_changes_73 (by exact K_bea hJ1.F (by omega)) (vin (by omega) (by omega)) ?_
      have hJ2 := hJ1.up (z := 73 + 24 * h + i) (v := f (73 + 24 * h + i) - 1) (by omega) (l_bea (by omega) (by omega))
      refine r_aload dX12_changes_74 rfl ?_
      refine r_iload_n dX12_changes_76 rfl ?_
      refine r_dup2 dX12_changes_77 rfl rfl ?_
      refine r_ialoadc (f (73 + 24 * h + j)) dX12_changes_78 (by exact K_bea hJ2.F (by omega)) (vin (by omega) (by omega)) (by rw [nI_cl _ (by omega)]; exact (hJ2.g (by omega) (l_bea (by omega) (by omega))).trans (upF_n (by omega) rfl)) ?_
      refine r_iload dX12_changes_79 rfl ?_
      refine r_iadd dX12_changes_81 ?_
      refine r_iastoren (j) (nI_cl _ (by omega)) dX12_changes_82 (by exact K_bea hJ2.F (by omega)) (vin (by omega) (by omega)) ?_
      have hJ3 := hJ2.up (z := 73 + 24 * h + j) (v := f (73 + 24 * h + j) + 1) (by omega) (l_bea (by omega) (by omega))
      refine r_iconst (1) dX12_changes_83 rfl ?_
      refine r_ireturn dX12_changes_84 rfl rfl ?_
      exact k1 ⟨hij, (in_dec vi).mp ⟨w41a, w41b⟩, (in_inc vj).mp ⟨w57a, w57b⟩⟩ _ hJ3 ⟨fun k => ld_n (by omega) (ld_n (by omega) rfl), fun k => rfl⟩
    ·
      show Wp g mX12_changes _ _ _ 60 _ (_ :: _) _ Q
      refine r_if_ne 65 dX12_changes_60 rfl (fun hz => absurd hz (by decide)) (fun _ => ?_)
      refine r_iconst (0) dX12_changes_63 rfl ?_
      refine r_ireturn dX12_changes_64 rfl rfl ?_
      first | exact k0 (fun q => w57 ((in_inc vj).mpr q.2.2)) | exact k0 (fun q => w41 ((in_dec vi).mpr q.2.1))
  ·
    show Wp g mX12_changes _ _ _ 44 _ (_ :: _) _ Q
    refine r_if_eq 63 dX12_changes_44 rfl (fun _ => ?_) (fun hz => absurd hz (by decide))
    refine r_iconst (0) dX12_changes_63 rfl ?_
    refine r_ireturn dX12_changes_64 rfl rfl ?_
    first | exact k0 (fun q => w57 ((in_inc vj).mpr q.2.2)) | exact k0 (fun q => w41 ((in_dec vi).mpr q.2.1))
theorem S_chg0m {g : GG} {m : MM} {Q : Out → Prop} {f : Nat → Int32} {fs : Nat → Nat → Int32} {ic : Nat} {tp : Nat → Int32} {tn : Nat} {pl : Int32} {n1 n2 : Nat} {ts : Nat → (Nat → Int32) × Nat} {m0 : MM} {t : Int32} (hV : Vf f) {h i j : Nat} (hh0 : (xf f (73 + 24 * h) i j) 27 = nI h) (hh : h < nH f) (hi : i < nS f h) (hj : j < nS f h) (hij : i ≠ j) (hJ : RJ (xf f (73 + 24 * h) i j) fs ic tp tn pl n1 n2 ts m0 t m) (k : ∀ m', RJ f fs ic tp tn pl n1 n2 ts m0 t m' → BqK m m' → Q (.inl (some (.int 1)), m')) : Cl g 1 0 0 mX12_changes [.ref 167, .int 0, .int (nI i), .int (nI j), .int (-1)] m Q := by
  refine Cl.of rfl (by decide) (Nat.le_of_ble_eq_true rfl) ?_
  show Wp g mX12_changes 1 0 0 0 [.ref 167, .int 0, .int (nI i), .int (nI j), .int (-1), .retAddr 0] [] m Q
  have hJ1 := hJ
  have h6 : h < 6 := by have := hV.1.1.2; omega
  have h12 := (hV.2.1 h hh).2.2.2.1
  have vi := ((hV.2.1 h hh).2.2.2.2 i hi).1
  have vj := ((hV.2.1 h hh).2.2.2.2 j hj).1
  refine r_iload_n dX12_changes_0 rfl ?_
  refine r_if_ne 18 dX12_changes_1 rfl (fun hz => absurd hz (by decide)) (fun _ => ?_)
  refine r_aload_n dX12_changes_4 rfl ?_
  refine r_getRc dX12_changes_5 fgX12_40 rfl (by exact k_167 hJ1.F) (by exact r_167_22 hJ1.F) ?_
  refine r_aload_n dX12_changes_8 rfl ?_
  refine r_getRc dX12_changes_9 fgX12_52 rfl (by exact k_167 hJ1.F) (by exact r_167_26 hJ1.F) ?_
  refine r_iconst (0) dX12_changes_12 rfl ?_
  refine r_ialoadc (nI h) dX12_changes_13 (by exact k_198 hJ1.F) (vin (j := 0) (by omega) (by omega)) (by exact (hJ1.g (by omega) (l_han (i := 0) (by omega))).trans hh0) ?_
  refine r_aaloadc (b := 183 + h) dX12_changes_14 ⟨Nat.le_of_ble_eq_true rfl, Nat.le_of_ble_eq_true rfl⟩ (by exact k_182 hJ1.F) (vin (by omega) (by omega)) (by rw [nI_cl _ (by omega)]; exact R_bea hJ1.F (by omega)) ?_
  refine r_goto 29 dX12_changes_15 rfl ?_
  refine sa_5 dX12_changes_29 rfl (Nat.le_of_ble_eq_true rfl) ?_
  refine r_aload dX12_changes_31 rfl ?_
  refine r_iload_n dX12_changes_33 rfl ?_
  refine r_ialoadc (f (73 + 24 * h + i) - 1) dX12_changes_34 (by exact K_bea hJ1.F (by omega)) (vin (by omega) (by omega)) (by rw [nI_cl _ (by omega)]; exact (hJ1.g (by omega) (l_bea (by omega) (by omega))).trans (xf_i hij)) ?_
  refine r_iload dX12_changes_35 rfl ?_
  refine r_isub dX12_changes_37 ?_
  rw [i32_mm]
  refine r_iconst (0) dX12_changes_38 rfl ?_
  refine r_bipush (60) dX12_changes_39 rfl ?_
  refine r_callS3 (d1 := 0) (c1 := 0) (n1 := 0) dX12_changes_41 msX12_82 rfl (Nat.le_of_ble_eq_true rfl) (by exact Nat.le_of_ble_eq_true rfl) ?_
  refine S_X12_in (fun w41a w41b => ?_) (fun w41 => ?_)
  ·
    show Wp g mX12_changes _ _ _ 44 _ (_ :: _) _ Q
    refine r_if_eq 63 dX12_changes_44 rfl (fun hz => absurd hz (by decide)) (fun _ => ?_)
    refine r_aload dX12_changes_47 rfl ?_
    refine r_iload_n dX12_changes_49 rfl ?_
    refine r_ialoadc (f (73 + 24 * h + j) + 1) dX12_changes_50 (by exact K_bea hJ1.F (by omega)) (vin (by omega) (by omega)) (by rw [nI_cl _ (by omega)]; exact (hJ1.g (by omega) (l_bea (by omega) (by omega))).trans xf_j) ?_
    refine r_iload dX12_changes_51 rfl ?_
    refine r_iadd dX12_changes_53 ?_
    rw [i32_pm]
    refine r_iconst (0) dX12_changes_54 rfl ?_
    refine r_bipush (60) dX12_changes_55 rfl ?_
    refine r_callS3 (d1 := 0) (c1 := 0) (n1 := 0) dX12_changes_57 msX12_82 rfl (Nat.le_of_ble_eq_true rfl) (by exact Nat.le_of_ble_eq_true rfl) ?_
    refine S_X12_in (fun w57a w57b => ?_) (fun w57 => ?_)
    ·
      show Wp g mX12_changes _ _ _ 60 _ (_ :: _) _ Q
      refine r_if_ne 65 dX12_changes_60 rfl (fun _ => ?_) (fun hz => absurd hz (by decide))
      refine r_aload dX12_changes_65 rfl ?_
      refine r_iload_n dX12_changes_67 rfl ?_
      refine r_dup2 dX12_changes_68 rfl rfl ?_
      refine r_ialoadc (f (73 + 24 * h + i) - 1) dX12_changes_69 (by exact K_bea hJ1.F (by omega)) (vin (by omega) (by omega)) (by rw [nI_cl _ (by omega)]; exact (hJ1.g (by omega) (l_bea (by omega) (by omega))).trans (xf_i hij)) ?_
      refine r_iload dX12_changes_70 rfl ?_
      refine r_isub dX12_changes_72 ?_
      rw [i32_mm]
      refine r_iastoren (i) (nI_cl _ (by omega)) dX12_changes_73 (by exact K_bea hJ1.F (by omega)) (vin (by omega) (by omega)) ?_
      have hJ2 := hJ1.up (z := 73 + 24 * h + i) (v := f (73 + 24 * h + i)) (by omega) (l_bea (by omega) (by omega))
      refine r_aload dX12_changes_74 rfl ?_
      refine r_iload_n dX12_changes_76 rfl ?_
      refine r_dup2 dX12_changes_77 rfl rfl ?_
      refine r_ialoadc (f (73 + 24 * h + j) + 1) dX12_changes_78 (by exact K_bea hJ2.F (by omega)) (vin (by omega) (by omega)) (by rw [nI_cl _ (by omega)]; exact (hJ2.g (by omega) (l_bea (by omega) (by omega))).trans (upF_n (by omega) xf_j)) ?_
      refine r_iload dX12_changes_79 rfl ?_
      refine r_iadd dX12_changes_81 ?_
      rw [i32_pm]
      refine r_iastoren (j) (nI_cl _ (by omega)) dX12_changes_82 (by exact K_bea hJ2.F (by omega)) (vin (by omega) (by omega)) ?_
      have hJ3 := hJ2.up (z := 73 + 24 * h + j) (v := f (73 + 24 * h + j)) (by omega) (l_bea (by omega) (by omega))
      refine r_iconst (1) dX12_changes_83 rfl ?_
      refine r_ireturn dX12_changes_84 rfl rfl ?_
      rw [xf_back hij] at hJ3
      exact k _ hJ3 ⟨fun k => ld_n (by omega) (ld_n (by omega) rfl), fun k => rfl⟩
    ·
      show Wp g mX12_changes _ _ _ 60 _ (_ :: _) _ Q
      refine r_if_ne 65 dX12_changes_60 rfl (fun hz => absurd hz (by decide)) (fun _ => ?_)
      refine r_iconst (0) dX12_changes_63 rfl ?_
      refine r_ireturn dX12_changes_64 rfl rfl ?_
      first | exact absurd (iv_in vj) w57 | exact absurd (iv_in vi) w41
  ·
    show Wp g mX12_changes _ _ _ 44 _ (_ :: _) _ Q
    refine r_if_eq 63 dX12_changes_44 rfl (fun _ => ?_) (fun hz => absurd hz (by decide))
    refine r_iconst (0) dX12_changes_63 rfl ?_
    refine r_ireturn dX12_changes_64 rfl rfl ?_
    first | exact absurd (iv_in vj) w57 | exact absurd (iv_in vi) w41
theorem S_chg1p {g : GG} {m : MM} {Q : Out → Prop} {f : Nat → Int32} {fs : Nat → Nat → Int32} {ic : Nat} {tp : Nat → Int32} {tn : Nat} {pl : Int32} {n1 n2 : Nat} {ts : Nat → (Nat → Int32) × Nat} {m0 : MM} {t : Int32} (hV : Vf f) {h i j : Nat} (hh0 : f 27 = nI h) (hh : h < nH f) (hi : i < nS f h) (hj : j < nS f h) (hij : i ≠ j) (hJ : RJ f fs ic tp tn pl n1 n2 ts m0 t m) (k1 : XF f (85 + 24 * h) i j → ∀ m', RJ (xf f (85 + 24 * h) i j) fs ic tp tn pl n1 n2 ts m0 t m' → BqK m m' → Q (.inl (some (.int 1)), m')) (k0 : ¬ XF f (85 + 24 * h) i j → Q (.inl (some (.int 0)), m)) : Cl g 1 0 0 mX12_changes [.ref 167, .int 1, .int (nI i), .int (nI j), .int (1)] m Q := by
  refine Cl.of rfl (by decide) (Nat.le_of_ble_eq_true rfl) ?_
  show Wp g mX12_changes 1 0 0 0 [.ref 167, .int 1, .int (nI i), .int (nI j), .int (1), .retAddr 0] [] m Q
  have hJ1 := hJ
  have h6 : h < 6 := by have := hV.1.1.2; omega
  have h12 := (hV.2.1 h hh).2.2.2.1
  have vi := ((hV.2.1 h hh).2.2.2.2 i hi).2
  have vj := ((hV.2.1 h hh).2.2.2.2 j hj).2
  refine r_iload_n dX12_changes_0 rfl ?_
  refine r_if_ne 18 dX12_changes_1 rfl (fun _ => ?_) (fun hz => absurd hz (by decide))
  refine r_aload_n dX12_changes_18 rfl ?_
  refine r_getRc dX12_changes_19 fgX12_43 rfl (by exact k_167 hJ1.F) (by exact r_167_23 hJ1.F) ?_
  refine r_aload_n dX12_changes_22 rfl ?_
  refine r_getRc dX12_changes_23 fgX12_52 rfl (by exact k_167 hJ1.F) (by exact r_167_26 hJ1.F) ?_
  refine r_iconst (0) dX12_changes_26 rfl ?_
  refine r_ialoadc (nI h) dX12_changes_27 (by exact k_198 hJ1.F) (vin (j := 0) (by omega) (by omega)) (by exact (hJ1.g (by omega) (l_han (i := 0) (by omega))).trans hh0) ?_
  refine r_aaloadc (b := 190 + h) dX12_changes_28 ⟨Nat.le_of_ble_eq_true rfl, Nat.le_of_ble_eq_true rfl⟩ (by exact k_189 hJ1.F) (vin (by omega) (by omega)) (by rw [nI_cl _ (by omega)]; exact R_dra hJ1.F (by omega)) ?_
  refine sa_5 dX12_changes_29 rfl (Nat.le_of_ble_eq_true rfl) ?_
  refine r_aload dX12_changes_31 rfl ?_
  refine r_iload_n dX12_changes_33 rfl ?_
  refine r_ialoadc (f (85 + 24 * h + i)) dX12_changes_34 (by exact K_dra hJ1.F (by omega)) (vin (by omega) (by omega)) (by rw [nI_cl _ (by omega)]; exact (hJ1.g (by omega) (l_dra (by omega) (by omega)))) ?_
  refine r_iload dX12_changes_35 rfl ?_
  refine r_isub dX12_changes_37 ?_
  refine r_iconst (0) dX12_changes_38 rfl ?_
  refine r_bipush (60) dX12_changes_39 rfl ?_
  refine r_callS3 (d1 := 0) (c1 := 0) (n1 := 0) dX12_changes_41 msX12_82 rfl (Nat.le_of_ble_eq_true rfl) (by exact Nat.le_of_ble_eq_true rfl) ?_
  refine S_X12_in (fun w41a w41b => ?_) (fun w41 => ?_)
  ·
    show Wp g mX12_changes _ _ _ 44 _ (_ :: _) _ Q
    refine r_if_eq 63 dX12_changes_44 rfl (fun hz => absurd hz (by decide)) (fun _ => ?_)
    refine r_aload dX12_changes_47 rfl ?_
    refine r_iload_n dX12_changes_49 rfl ?_
    refine r_ialoadc (f (85 + 24 * h + j)) dX12_changes_50 (by exact K_dra hJ1.F (by omega)) (vin (by omega) (by omega)) (by rw [nI_cl _ (by omega)]; exact (hJ1.g (by omega) (l_dra (by omega) (by omega)))) ?_
    refine r_iload dX12_changes_51 rfl ?_
    refine r_iadd dX12_changes_53 ?_
    refine r_iconst (0) dX12_changes_54 rfl ?_
    refine r_bipush (60) dX12_changes_55 rfl ?_
    refine r_callS3 (d1 := 0) (c1 := 0) (n1 := 0) dX12_changes_57 msX12_82 rfl (Nat.le_of_ble_eq_true rfl) (by exact Nat.le_of_ble_eq_true rfl) ?_
    refine S_X12_in (fun w57a w57b => ?_) (fun w57 => ?_)
    ·
      show Wp g mX12_changes _ _ _ 60 _ (_ :: _) _ Q
      refine r_if_ne 65 dX12_changes_60 rfl (fun _ => ?_) (fun hz => absurd hz (by decide))
      refine r_aload dX12_changes_65 rfl ?_
      refine r_iload_n dX12_changes_67 rfl ?_
      refine r_dup2 dX12_changes_68 rfl rfl ?_
      refine r_ialoadc (f (85 + 24 * h + i)) dX12_changes_69 (by exact K_dra hJ1.F (by omega)) (vin (by omega) (by omega)) (by rw [nI_cl _ (by omega)]; exact (hJ1.g (by omega) (l_dra (by omega) (by omega)))) ?_
      refine r_iload dX12_changes_70 rfl ?_
      refine r_isub dX12_changes_72 ?_
      refine r_iastoren (i) (nI_cl _ (by omega)) dX12_changes_73 (by exact K_dra hJ1.F (by omega)) (vin (by omega) (by omega)) ?_
      have hJ2 := hJ1.up (z := 85 + 24 * h + i) (v := f (85 + 24 * h + i) - 1) (by omega) (l_dra (by omega) (by omega))
      refine r_aload dX12_changes_74 rfl ?_
      refine r_iload_n dX12_changes_76 rfl ?_
      refine r_dup2 dX12_changes_77 rfl rfl ?_
      refine r_ialoadc (f (85 + 24 * h + j)) dX12_changes_78 (by exact K_dra hJ2.F (by omega)) (vin (by omega) (by omega)) (by rw [nI_cl _ (by omega)]; exact (hJ2.g (by omega) (l_dra (by omega) (by omega))).trans (upF_n (by omega) rfl)) ?_
      refine r_iload dX12_changes_79 rfl ?_
      refine r_iadd dX12_changes_81 ?_
      refine r_iastoren (j) (nI_cl _ (by omega)) dX12_changes_82 (by exact K_dra hJ2.F (by omega)) (vin (by omega) (by omega)) ?_
      have hJ3 := hJ2.up (z := 85 + 24 * h + j) (v := f (85 + 24 * h + j) + 1) (by omega) (l_dra (by omega) (by omega))
      refine r_iconst (1) dX12_changes_83 rfl ?_
      refine r_ireturn dX12_changes_84 rfl rfl ?_
      exact k1 ⟨hij, (in_dec vi).mp ⟨w41a, w41b⟩, (in_inc vj).mp ⟨w57a, w57b⟩⟩ _ hJ3 ⟨fun k => ld_n (by omega) (ld_n (by omega) rfl), fun k => rfl⟩
    ·
      show Wp g mX12_changes _ _ _ 60 _ (_ :: _) _ Q
      refine r_if_ne 65 dX12_changes_60 rfl (fun hz => absurd hz (by decide)) (fun _ => ?_)
      refine r_iconst (0) dX12_changes_63 rfl ?_
      refine r_ireturn dX12_changes_64 rfl rfl ?_
      first | exact k0 (fun q => w57 ((in_inc vj).mpr q.2.2)) | exact k0 (fun q => w41 ((in_dec vi).mpr q.2.1))
  ·
    show Wp g mX12_changes _ _ _ 44 _ (_ :: _) _ Q
    refine r_if_eq 63 dX12_changes_44 rfl (fun _ => ?_) (fun hz => absurd hz (by decide))
    refine r_iconst (0) dX12_changes_63 rfl ?_
    refine r_ireturn dX12_changes_64 rfl rfl ?_
    first | exact k0 (fun q => w57 ((in_inc vj).mpr q.2.2)) | exact k0 (fun q => w41 ((in_dec vi).mpr q.2.1))
theorem S_chg1m {g : GG} {m : MM} {Q : Out → Prop} {f : Nat → Int32} {fs : Nat → Nat → Int32} {ic : Nat} {tp : Nat → Int32} {tn : Nat} {pl : Int32} {n1 n2 : Nat} {ts : Nat → (Nat → Int32) × Nat} {m0 : MM} {t : Int32} (hV : Vf f) {h i j : Nat} (hh0 : (xf f (85 + 24 * h) i j) 27 = nI h) (hh : h < nH f) (hi : i < nS f h) (hj : j < nS f h) (hij : i ≠ j) (hJ : RJ (xf f (85 + 24 * h) i j) fs ic tp tn pl n1 n2 ts m0 t m) (k : ∀ m', RJ f fs ic tp tn pl n1 n2 ts m0 t m' → BqK m m' → Q (.inl (some (.int 1)), m')) : Cl g 1 0 0 mX12_changes [.ref 167, .int 1, .int (nI i), .int (nI j), .int (-1)] m Q := by
  refine Cl.of rfl (by decide) (Nat.le_of_ble_eq_true rfl) ?_
  show Wp g mX12_changes 1 0 0 0 [.ref 167, .int 1, .int (nI i), .int (nI j), .int (-1), .retAddr 0] [] m Q
  have hJ1 := hJ
  have h6 : h < 6 := by have := hV.1.1.2; omega
  have h12 := (hV.2.1 h hh).2.2.2.1
  have vi := ((hV.2.1 h hh).2.2.2.2 i hi).2
  have vj := ((hV.2.1 h hh).2.2.2.2 j hj).2
  refine r_iload_n dX12_changes_0 rfl ?_
  refine r_if_ne 18 dX12_changes_1 rfl (fun _ => ?_) (fun hz => absurd hz (by decide))
  refine r_aload_n dX12_changes_18 rfl ?_
  refine r_getRc dX12_changes_19 fgX12_43 rfl (by exact k_167 hJ1.F) (by exact r_167_23 hJ1.F) ?_
  refine r_aload_n dX12_changes_22 rfl ?_
  refine r_getRc dX12_changes_23 fgX12_52 rfl (by exact k_167 hJ1.F) (by exact r_167_26 hJ1.F) ?_
  refine r_iconst (0) dX12_changes_26 rfl ?_
  refine r_ialoadc (nI h) dX12_changes_27 (by exact k_198 hJ1.F) (vin (j := 0) (by omega) (by omega)) (by exact (hJ1.g (by omega) (l_han (i := 0) (by omega))).trans hh0) ?_
  refine r_aaloadc (b := 190 + h) dX12_changes_28 ⟨Nat.le_of_ble_eq_true rfl, Nat.le_of_ble_eq_true rfl⟩ (by exact k_189 hJ1.F) (vin (by omega) (by omega)) (by rw [nI_cl _ (by omega)]; exact R_dra hJ1.F (by omega)) ?_
  refine sa_5 dX12_changes_29 rfl (Nat.le_of_ble_eq_true rfl) ?_
  refine r_aload dX12_changes_31 rfl ?_
  refine r_iload_n dX12_changes_33 rfl ?_
  refine r_ialoadc (f (85 + 24 * h + i) - 1) dX12_changes_34 (by exact K_dra hJ1.F (by omega)) (vin (by omega) (by omega)) (by rw [nI_cl _ (by omega)]; exact (hJ1.g (by omega) (l_dra (by omega) (by omega))).trans (xf_i hij)) ?_
  refine r_iload dX12_changes_35 rfl ?_
  refine r_isub dX12_changes_37 ?_
  rw [i32_mm]
  refine r_iconst (0) dX12_changes_38 rfl ?_
  refine r_bipush (60) dX12_changes_39 rfl ?_
  refine r_callS3 (d1 := 0) (c1 := 0) (n1 := 0) dX12_changes_41 msX12_82 rfl (Nat.le_of_ble_eq_true rfl) (by exact Nat.le_of_ble_eq_true rfl) ?_
  refine S_X12_in (fun w41a w41b => ?_) (fun w41 => ?_)
  ·
    show Wp g mX12_changes _ _ _ 44 _ (_ :: _) _ Q
    refine r_if_eq 63 dX12_changes_44 rfl (fun hz => absurd hz (by decide)) (fun _ => ?_)
    refine r_aload dX12_changes_47 rfl ?_
    refine r_iload_n dX12_changes_49 rfl ?_
    refine r_ialoadc (f (85 + 24 * h + j) + 1) dX12_changes_50 (by exact K_dra hJ1.F (by omega)) (vin (by omega) (by omega)) (by rw [nI_cl _ (by omega)]; exact (hJ1.g (by omega) (l_dra (by omega) (by omega))).trans xf_j) ?_
    refine r_iload dX12_changes_51 rfl ?_
    refine r_iadd dX12_changes_53 ?_
    rw [i32_pm]
    refine r_iconst (0) dX12_changes_54 rfl ?_
    refine r_bipush (60) dX12_changes_55 rfl ?_
    refine r_callS3 (d1 := 0) (c1 := 0) (n1 := 0) dX12_changes_57 msX12_82 rfl (Nat.le_of_ble_eq_true rfl) (by exact Nat.le_of_ble_eq_true rfl) ?_
    refine S_X12_in (fun w57a w57b => ?_) (fun w57 => ?_)
    ·
      show Wp g mX12_changes _ _ _ 60 _ (_ :: _) _ Q
      refine r_if_ne 65 dX12_changes_60 rfl (fun _ => ?_) (fun hz => absurd hz (by decide))
      refine r_aload dX12_changes_65 rfl ?_
      refine r_iload_n dX12_changes_67 rfl ?_
      refine r_dup2 dX12_changes_68 rfl rfl ?_
      refine r_ialoadc (f (85 + 24 * h + i) - 1) dX12_changes_69 (by exact K_dra hJ1.F (by omega)) (vin (by omega) (by omega)) (by rw [nI_cl _ (by omega)]; exact (hJ1.g (by omega) (l_dra (by omega) (by omega))).trans (xf_i hij)) ?_
      refine r_iload dX12_changes_70 rfl ?_
      refine r_isub dX12_changes_72 ?_
      rw [i32_mm]
      refine r_iastoren (i) (nI_cl _ (by omega)) dX12_changes_73 (by exact K_dra hJ1.F (by omega)) (vin (by omega) (by omega)) ?_
      have hJ2 := hJ1.up (z := 85 + 24 * h + i) (v := f (85 + 24 * h + i)) (by omega) (l_dra (by omega) (by omega))
      refine r_aload dX12_changes_74 rfl ?_
      refine r_iload_n dX12_changes_76 rfl ?_
      refine r_dup2 dX12_changes_77 rfl rfl ?_
      refine r_ialoadc (f (85 + 24 * h + j) + 1) dX12_changes_78 (by exact K_dra hJ2.F (by omega)) (vin (by omega) (by omega)) (by rw [nI_cl _ (by omega)]; exact (hJ2.g (by omega) (l_dra (by omega) (by omega))).trans (upF_n (by omega) xf_j)) ?_
      refine r_iload dX12_changes_79 rfl ?_
      refine r_iadd dX12_changes_81 ?_
      rw [i32_pm]
      refine r_iastoren (j) (nI_cl _ (by omega)) dX12_changes_82 (by exact K_dra hJ2.F (by omega)) (vin (by omega) (by omega)) ?_
      have hJ3 := hJ2.up (z := 85 + 24 * h + j) (v := f (85 + 24 * h + j)) (by omega) (l_dra (by omega) (by omega))
      refine r_iconst (1) dX12_changes_83 rfl ?_
      refine r_ireturn dX12_changes_84 rfl rfl ?_
      rw [xf_back hij] at hJ3
      exact k _ hJ3 ⟨fun k => ld_n (by omega) (ld_n (by omega) rfl), fun k => rfl⟩
    ·
      show Wp g mX12_changes _ _ _ 60 _ (_ :: _) _ Q
      refine r_if_ne 65 dX12_changes_60 rfl (fun hz => absurd hz (by decide)) (fun _ => ?_)
      refine r_iconst (0) dX12_changes_63 rfl ?_
      refine r_ireturn dX12_changes_64 rfl rfl ?_
      first | exact absurd (iv_in vj) w57 | exact absurd (iv_in vi) w41
  ·
    show Wp g mX12_changes _ _ _ 44 _ (_ :: _) _ Q
    refine r_if_eq 63 dX12_changes_44 rfl (fun _ => ?_) (fun hz => absurd hz (by decide))
    refine r_iconst (0) dX12_changes_63 rfl ?_
    refine r_ireturn dX12_changes_64 rfl rfl ?_
    first | exact absurd (iv_in vj) w57 | exact absurd (iv_in vi) w41
theorem S_chgp {g : GG} {m : MM} {Q : Out → Prop} {f : Nat → Int32} {fs : Nat → Nat → Int32} {ic : Nat} {tp : Nat → Int32} {tn : Nat} {pl : Int32} {n1 n2 : Nat} {ts : Nat → (Nat → Int32) × Nat} {m0 : MM} {t : Int32} (hV : Vf f) {h i j K : Nat} (hh0 : f 27 = nI h) (hh : h < nH f) (hi : i < nS f h) (hj : j < nS f h) (hij : i ≠ j) (hK2 : K < 2) (hJ : RJ f fs ic tp tn pl n1 n2 ts m0 t m) (k1 : XF f (hb h K) i j → ∀ m', RJ (xf f (hb h K) i j) fs ic tp tn pl n1 n2 ts m0 t m' → BqK m m' → Q (.inl (some (.int 1)), m')) (k0 : ¬ XF f (hb h K) i j → Q (.inl (some (.int 0)), m)) : Cl g 1 0 0 mX12_changes [.ref 167, .int (nI K), .int (nI i), .int (nI j), .int 1] m Q := by
  rcases K with _ | _ | K
  · exact S_chg0p hV hh0 hh hi hj hij hJ k1 k0
  · exact S_chg1p hV hh0 hh hi hj hij hJ k1 k0
  · omega
theorem S_chgm {g : GG} {m : MM} {Q : Out → Prop} {f : Nat → Int32} {fs : Nat → Nat → Int32} {ic : Nat} {tp : Nat → Int32} {tn : Nat} {pl : Int32} {n1 n2 : Nat} {ts : Nat → (Nat → Int32) × Nat} {m0 : MM} {t : Int32} (hV : Vf f) {h i j K : Nat} (hh0 : (xf f (hb h K) i j) 27 = nI h) (hh : h < nH f) (hi : i < nS f h) (hj : j < nS f h) (hij : i ≠ j) (hK2 : K < 2) (hJ : RJ (xf f (hb h K) i j) fs ic tp tn pl n1 n2 ts m0 t m) (k : ∀ m', RJ f fs ic tp tn pl n1 n2 ts m0 t m' → BqK m m' → Q (.inl (some (.int 1)), m')) : Cl g 1 0 0 mX12_changes [.ref 167, .int (nI K), .int (nI i), .int (nI j), .int (-1)] m Q := by
  rcases K with _ | _ | K
  · exact S_chg0m hV hh0 hh hi hj hij hJ k
  · exact S_chg1m hV hh0 hh hi hj hij hJ k
  · omega
theorem hb_ge {h K : Nat} : 73 ≤ hb h K := by unfold hb; split <;> omega
theorem hb_lt {h K x : Nat} (h6 : h < 6) (hx : x < 12) : hb h K + x < 217 := by unfold hb; split <;> omega
theorem Vf_xh {f : Nat → Int32} {h i j K : Nat} (hV : Vf f) (hh : h < nH f) (hi : i < nS f h) (hj : j < nS f h) (hx : XF f (hb h K) i j) : Vf (xf f (hb h K) i j) := by
  by_cases c : K = 0
  · have e : hb h K = 73 + 24 * h := if_pos c
    rw [e] at hx ⊢; exact Vf_xf0 hV hh hi hj hx
  · have e : hb h K = 85 + 24 * h := if_neg c
    rw [e] at hx ⊢; exact Vf_xf1 hV hh hi hj hx
theorem xh_o {f : Nat → Int32} {h i j K x : Nat} (h6 : h < 6) (hi : i < 12) (hj : j < 12) (hx : x < 73 ∨ 217 ≤ x) : (xf f (hb h K) i j) x = f x := xf_o (by have := hb_ge (h := h) (K := K); have := hb_lt (h := h) (K := K) h6 hi; omega) (by have := hb_ge (h := h) (K := K); have := hb_lt (h := h) (K := K) h6 hj; omega)
theorem rem_nI {v n : Nat} (hv : v < 2 ^ 31) (h0 : 0 < n) (hn : n < 2 ^ 31) : nI v - nI v / nI n * nI n = nI (v % n) := by
  rw [pk_div hv h0 hn, pk_mul, pk_sub (Nat.div_mul_le_self v n)]
  congr 1
  have := Nat.div_add_mod v n
  rw [Nat.mul_comm] at this
  omega
theorem i64_n32 {a b : Int32} : (a.toInt64 < b.toInt64) ↔ ¬ b ≤ a := by
  rw [Int64.lt_iff_toInt_lt, Int32.le_iff_toInt_le, Int32.toInt_toInt64, Int32.toInt_toInt64]; omega
