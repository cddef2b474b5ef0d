theorem w_rng {way : Bool} {j : Nat} {x : Int32} (hx : x = nI (256 + j)) (hj : j < 25) : (if way = true then 5 ≤ x - 256 ∧ x - 256 ≤ 7 else 0 ≤ x - 256 ∧ x - 256 ≤ 4) ↔ (if way = true then 5 ≤ j ∧ j ≤ 7 else j ≤ 4) := by
  have e : x - 256 = nI j := by rw [hx]; exact Int32.toInt_inj.mp (by rw [Int32.toInt_sub, nI_int _ (by omega), nI_int _ (by omega)]; show Int.bmod (((256 + j : Nat) : Int) - 256) (2 ^ 32) = _; rw [Int.bmod_eq_of_le (by omega) (by omega)]; omega)
  rw [e]
  have i := nI_int j (by omega)
  have a0 : (0 : Int32).toInt = 0 := rfl
  have a4 : (4 : Int32).toInt = 4 := rfl
  have a5 : (5 : Int32).toInt = 5 := rfl
  have a7 : (7 : Int32).toInt = 7 := rfl
  cases way
  · show (0 ≤ nI j ∧ nI j ≤ 4) ↔ j ≤ 4
    rw [Int32.le_iff_toInt_le, Int32.le_iff_toInt_le]; omega
  · show (5 ≤ nI j ∧ nI j ≤ 7) ↔ 5 ≤ j ∧ j ≤ 7
    rw [Int32.le_iff_toInt_le, Int32.le_iff_toInt_le]; omega
theorem w_tk {way : Bool} {x : Int32} (h : if way = true then 5 ≤ x - 256 ∧ x - 256 ≤ 7 else 0 ≤ x - 256 ∧ x - 256 ≤ 4) (hx : -1000 ≤ x.toInt ∧ x.toInt ≤ 1000) : ∃ j, j < 8 ∧ x = nI (256 + j) ∧ (if way = true then 5 ≤ j ∧ j ≤ 7 else j ≤ 4) := by
  have e : (x - 256).toInt = x.toInt - 256 := by rw [Int32.toInt_sub]; show Int.bmod (x.toInt - 256) (2 ^ 32) = _; rw [Int.bmod_eq_of_le (by omega) (by omega)]
  have a0 : (0 : Int32).toInt = 0 := rfl
  have a4 : (4 : Int32).toInt = 4 := rfl
  have a5 : (5 : Int32).toInt = 5 := rfl
  have a7 : (7 : Int32).toInt = 7 := rfl
  cases way
  · have h : 0 ≤ x - 256 ∧ x - 256 ≤ 4 := h
    rw [Int32.le_iff_toInt_le, Int32.le_iff_toInt_le] at h
    refine ⟨(x.toInt - 256).toNat, by omega, Int32.toInt_inj.mp (by rw [nI_int _ (by omega)]; omega), (by show (x.toInt - 256).toNat ≤ 4; omega)⟩
  · have h : 5 ≤ x - 256 ∧ x - 256 ≤ 7 := h
    rw [Int32.le_iff_toInt_le, Int32.le_iff_toInt_le] at h
    refine ⟨(x.toInt - 256).toNat, by omega, Int32.toInt_inj.mp (by rw [nI_int _ (by omega)]; omega), (by show 5 ≤ (x.toInt - 256).toNat ∧ (x.toInt - 256).toNat ≤ 7; omega)⟩
theorem tk_rng {b : Nat → Int32} {n s : Nat} (hb : ∀ j, j < n → iv 0 255 (b j)) : -1000 ≤ (tkP b n s).toInt ∧ (tkP b n s).toInt ≤ 1000 := by
  unfold tkP
  split
  · decide
  · split
    · decide
    · split
      · rcases wIx_cases (b := b) (s := s) (e := rE b n isLt s) wds 256 (by decide) with y | ⟨j, j1, j2, y⟩
        · rw [y]; decide
        · rw [y]
          have j3 : j < 281 := j2
          rw [nI_int j (by omega)]; omega
      · have := hb s (by omega); unfold iv at this; omega
theorem S_wordOf0 {g : GG} {m : MM} {Q : Out → Prop} {b : Nat → Int32} {n a o s : Nat} (h : RPa b n a o m) (hs : rE b n isBl a = s) (hw : ldI m 167 15 = 0) (k1 : ∀ j, j < 8 → (if false = true then 5 ≤ j ∧ j ≤ 7 else j ≤ 4) → tkP b n s = nI (256 + j) → ∀ m', Sy m m' → RPa b n s o m' → Q (.inl (some (.int (nI j))), m')) (k0 : ¬ (if false = true then 5 ≤ wrd b n s ∧ wrd b n s ≤ 7 else 0 ≤ wrd b n s ∧ wrd b n s ≤ 4) → ∀ m', Sy m m' → RPa b n s o m' → Q (.inl (some (.int (-1))), m')) : Cl g 4 0 0 mX12_wordOf [.ref 167] m Q := by
  refine Cl.of rfl (by decide) (Nat.le_of_ble_eq_true rfl) ?_
  show Wp g mX12_wordOf 4 0 0 0 [.ref 167] [] m Q
  have hss : rE b n isBl s = s := by rw [← hs]; exact rE_id
  refine r_aload_n dX12_wordOf_0 rfl ?_
  refine r_getIc (0) dX12_wordOf_1 fgX12_207 rfl (by exact k_167 h.1.1) (by exact hw) ?_
  refine r_if_eq 68 dX12_wordOf_4 rfl (fun _ => ?_) (fun hz => absurd hz (by decide))
  refine r_aload_n dX12_wordOf_68 rfl ?_
  refine r_bipush (19) dX12_wordOf_69 rfl ?_
  refine r_bipush (11) dX12_wordOf_71 rfl ?_
  refine r_bipush (9) dX12_wordOf_73 rfl ?_
  refine r_bipush (14) dX12_wordOf_75 rfl ?_
  refine r_iconst (0) dX12_wordOf_77 rfl ?_
  refine r_iconst (0) dX12_wordOf_78 rfl ?_
  refine r_callV6 (ci := 12) (d1 := 3) (c1 := 0) (n1 := 0) dX12_wordOf_79 mvX12_159 rfl ⟨(Nat.le_of_ble_eq_true rfl), rfl⟩ (Nat.le_of_ble_eq_true rfl) (by exact Nat.le_of_ble_eq_true rfl) (by exact k_167 h.1.1) ?_
  refine S_isW0 h hs (fun t0 m1 q1 h1 => ?_) (fun t0 m1 q1 h1 => ?_)
  ·
    have y1 := Sy.rf.tr q1
    show Wp g mX12_wordOf _ _ _ 82 _ (_ :: _) _ Q
    refine r_if_eq 87 dX12_wordOf_82 rfl (fun hz => absurd hz (by decide)) (fun _ => ?_)
    refine r_iconst (0) dX12_wordOf_85 rfl ?_
    refine r_ireturn dX12_wordOf_86 rfl rfl ?_
    exact k1 0 (by decide) (by decide) t0 m1 y1 h1
  ·
    have y1 := Sy.rf.tr q1
    show Wp g mX12_wordOf _ _ _ 82 _ (_ :: _) _ Q
    refine r_if_eq 87 dX12_wordOf_82 rfl (fun _ => ?_) (fun hz => absurd hz (by decide))
    refine r_aload_n dX12_wordOf_87 rfl ?_
    refine r_bipush (23) dX12_wordOf_88 rfl ?_
    refine r_iconst (1) dX12_wordOf_90 rfl ?_
    refine r_bipush (22) dX12_wordOf_91 rfl ?_
    refine r_iconst (5) dX12_wordOf_93 rfl ?_
    refine r_iconst (0) dX12_wordOf_94 rfl ?_
    refine r_iconst (0) dX12_wordOf_95 rfl ?_
    refine r_callV6 (ci := 12) (d1 := 3) (c1 := 0) (n1 := 0) dX12_wordOf_96 mvX12_159 rfl ⟨(Nat.le_of_ble_eq_true rfl), rfl⟩ (Nat.le_of_ble_eq_true rfl) (by exact Nat.le_of_ble_eq_true rfl) (by exact k_167 h1.1.1) ?_
    refine S_isW1 h1 hss (fun t1 m2 q2 h2 => ?_) (fun t1 m2 q2 h2 => ?_)
    ·
      have y2 := y1.tr q2
      show Wp g mX12_wordOf _ _ _ 99 _ (_ :: _) _ Q
      refine r_if_eq 104 dX12_wordOf_99 rfl (fun hz => absurd hz (by decide)) (fun _ => ?_)
      refine r_iconst (1) dX12_wordOf_102 rfl ?_
      refine r_ireturn dX12_wordOf_103 rfl rfl ?_
      exact k1 1 (by decide) (by decide) t1 m2 y2 h2
    ·
      have y2 := y1.tr q2
      show Wp g mX12_wordOf _ _ _ 99 _ (_ :: _) _ Q
      refine r_if_eq 104 dX12_wordOf_99 rfl (fun _ => ?_) (fun hz => absurd hz (by decide))
      refine r_aload_n dX12_wordOf_104 rfl ?_
      refine r_iconst (5) dX12_wordOf_105 rfl ?_
      refine r_iconst (4) dX12_wordOf_106 rfl ?_
      refine r_iconst (4) dX12_wordOf_107 rfl ?_
      refine r_bipush (25) dX12_wordOf_108 rfl ?_
      refine r_iconst (0) dX12_wordOf_110 rfl ?_
      refine r_iconst (0) dX12_wordOf_111 rfl ?_
      refine r_callV6 (ci := 12) (d1 := 3) (c1 := 0) (n1 := 0) dX12_wordOf_112 mvX12_159 rfl ⟨(Nat.le_of_ble_eq_true rfl), rfl⟩ (Nat.le_of_ble_eq_true rfl) (by exact Nat.le_of_ble_eq_true rfl) (by exact k_167 h2.1.1) ?_
      refine S_isW2 h2 hss (fun t2 m3 q3 h3 => ?_) (fun t2 m3 q3 h3 => ?_)
      ·
        have y3 := y2.tr q3
        show Wp g mX12_wordOf _ _ _ 115 _ (_ :: _) _ Q
        refine r_if_eq 120 dX12_wordOf_115 rfl (fun hz => absurd hz (by decide)) (fun _ => ?_)
        refine r_iconst (2) dX12_wordOf_118 rfl ?_
        refine r_ireturn dX12_wordOf_119 rfl rfl ?_
        exact k1 2 (by decide) (by decide) t2 m3 y3 h3
      ·
        have y3 := y2.tr q3
        show Wp g mX12_wordOf _ _ _ 115 _ (_ :: _) _ Q
        refine r_if_eq 120 dX12_wordOf_115 rfl (fun _ => ?_) (fun hz => absurd hz (by decide))
        refine r_aload_n dX12_wordOf_120 rfl ?_
        refine r_bipush (19) dX12_wordOf_121 rfl ?_
        refine r_bipush (9) dX12_wordOf_123 rfl ?_
        refine r_iconst (4) dX12_wordOf_125 rfl ?_
        refine r_iconst (5) dX12_wordOf_126 rfl ?_
        refine r_bipush (19) dX12_wordOf_127 rfl ?_
        refine r_iconst (0) dX12_wordOf_129 rfl ?_
        refine r_callV6 (ci := 12) (d1 := 3) (c1 := 0) (n1 := 0) dX12_wordOf_130 mvX12_159 rfl ⟨(Nat.le_of_ble_eq_true rfl), rfl⟩ (Nat.le_of_ble_eq_true rfl) (by exact Nat.le_of_ble_eq_true rfl) (by exact k_167 h3.1.1) ?_
        refine S_isW3 h3 hss (fun t3 m4 q4 h4 => ?_) (fun t3 m4 q4 h4 => ?_)
        ·
          have y4 := y3.tr q4
          show Wp g mX12_wordOf _ _ _ 133 _ (_ :: _) _ Q
          refine r_if_eq 138 dX12_wordOf_133 rfl (fun hz => absurd hz (by decide)) (fun _ => ?_)
          refine r_iconst (3) dX12_wordOf_136 rfl ?_
          refine r_ireturn dX12_wordOf_137 rfl rfl ?_
          exact k1 3 (by decide) (by decide) t3 m4 y4 h4
        ·
          have y4 := y3.tr q4
          show Wp g mX12_wordOf _ _ _ 133 _ (_ :: _) _ Q
          refine r_if_eq 138 dX12_wordOf_133 rfl (fun _ => ?_) (fun hz => absurd hz (by decide))
          refine r_aload_n dX12_wordOf_138 rfl ?_
          refine r_bipush (6) dX12_wordOf_139 rfl ?_
          refine r_bipush (15) dX12_wordOf_141 rfl ?_
          refine r_bipush (21) dX12_wordOf_143 rfl ?_
          refine r_bipush (12) dX12_wordOf_145 rfl ?_
          refine r_iconst (0) dX12_wordOf_147 rfl ?_
          refine r_iconst (0) dX12_wordOf_148 rfl ?_
          refine r_callV6 (ci := 12) (d1 := 3) (c1 := 0) (n1 := 0) dX12_wordOf_149 mvX12_159 rfl ⟨(Nat.le_of_ble_eq_true rfl), rfl⟩ (Nat.le_of_ble_eq_true rfl) (by exact Nat.le_of_ble_eq_true rfl) (by exact k_167 h4.1.1) ?_
          refine S_isW4 h4 hss (fun t4 m5 q5 h5 => ?_) (fun t4 m5 q5 h5 => ?_)
          ·
            have y5 := y4.tr q5
            show Wp g mX12_wordOf _ _ _ 152 _ (_ :: _) _ Q
            refine r_if_eq 159 dX12_wordOf_152 rfl (fun hz => absurd hz (by decide)) (fun _ => ?_)
            refine r_iconst (4) dX12_wordOf_155 rfl ?_
            refine r_goto 160 dX12_wordOf_156 rfl ?_
            refine r_ireturn dX12_wordOf_160 rfl rfl ?_
            exact k1 4 (by decide) (by decide) t4 m5 y5 h5
          ·
            have y5 := y4.tr q5
            show Wp g mX12_wordOf _ _ _ 152 _ (_ :: _) _ Q
            refine r_if_eq 159 dX12_wordOf_152 rfl (fun _ => ?_) (fun hz => absurd hz (by decide))
            refine r_iconst (-1) dX12_wordOf_159 rfl ?_
            refine r_ireturn dX12_wordOf_160 rfl rfl ?_
            refine k0 (fun q => ?_) m5 y5 h5
            obtain ⟨j, j8, jx, jr⟩ := w_tk (way := false) q (tk_rng h.1.2.2.1)
            have jr : j ≤ 4 := jr
            have jc : j = 0 ∨ j = 1 ∨ j = 2 ∨ j = 3 ∨ j = 4 := by omega
            rcases jc with rfl | rfl | rfl | rfl | rfl
            · exact t0 jx
            · exact t1 jx
            · exact t2 jx
            · exact t3 jx
            · exact t4 jx
theorem S_wordOf1 {g : GG} {m : MM} {Q : Out → Prop} {b : Nat → Int32} {n a o s : Nat} (h : RPa b n a o m) (hs : rE b n isBl a = s) (hw : ldI m 167 15 = 1) (k1 : ∀ j, j < 8 → (if true = true then 5 ≤ j ∧ j ≤ 7 else j ≤ 4) → tkP b n s = nI (256 + j) → ∀ m', Sy m m' → RPa b n s o m' → Q (.inl (some (.int (nI j))), m')) (k0 : ¬ (if true = true then 5 ≤ wrd b n s ∧ wrd b n s ≤ 7 else 0 ≤ wrd b n s ∧ wrd b n s ≤ 4) → ∀ m', Sy m m' → RPa b n s o m' → Q (.inl (some (.int (-1))), m')) : Cl g 4 0 0 mX12_wordOf [.ref 167] m Q := by
  refine Cl.of rfl (by decide) (Nat.le_of_ble_eq_true rfl) ?_
  show Wp g mX12_wordOf 4 0 0 0 [.ref 167] [] m Q
  have hss : rE b n isBl s = s := by rw [← hs]; exact rE_id
  refine r_aload_n dX12_wordOf_0 rfl ?_
  refine r_getIc (1) dX12_wordOf_1 fgX12_207 rfl (by exact k_167 h.1.1) (by exact hw) ?_
  refine r_if_eq 68 dX12_wordOf_4 rfl (fun hz => absurd hz (by decide)) (fun _ => ?_)
  refine r_aload_n dX12_wordOf_7 rfl ?_
  refine r_bipush (15) dX12_wordOf_8 rfl ?_
  refine r_bipush (6) dX12_wordOf_10 rfl ?_
  refine r_bipush (6) dX12_wordOf_12 rfl ?_
  refine r_iconst (0) dX12_wordOf_14 rfl ?_
  refine r_iconst (0) dX12_wordOf_15 rfl ?_
  refine r_iconst (0) dX12_wordOf_16 rfl ?_
  refine r_callV6 (ci := 12) (d1 := 3) (c1 := 0) (n1 := 0) dX12_wordOf_17 mvX12_159 rfl ⟨(Nat.le_of_ble_eq_true rfl), rfl⟩ (Nat.le_of_ble_eq_true rfl) (by exact Nat.le_of_ble_eq_true rfl) (by exact k_167 h.1.1) ?_
  refine S_isW5 h hs (fun t5 m1 q1 h1 => ?_) (fun t5 m1 q1 h1 => ?_)
  ·
    have y1 := Sy.rf.tr q1
    show Wp g mX12_wordOf _ _ _ 20 _ (_ :: _) _ Q
    refine r_if_eq 27 dX12_wordOf_20 rfl (fun hz => absurd hz (by decide)) (fun _ => ?_)
    refine r_iconst (5) dX12_wordOf_23 rfl ?_
    refine r_goto 67 dX12_wordOf_24 rfl ?_
    refine r_ireturn dX12_wordOf_67 rfl rfl ?_
    exact k1 5 (by decide) (by decide) t5 m1 y1 h1
  ·
    have y1 := Sy.rf.tr q1
    show Wp g mX12_wordOf _ _ _ 20 _ (_ :: _) _ Q
    refine r_if_eq 27 dX12_wordOf_20 rfl (fun _ => ?_) (fun hz => absurd hz (by decide))
    refine r_aload_n dX12_wordOf_27 rfl ?_
    refine r_iconst (1) dX12_wordOf_28 rfl ?_
    refine r_iconst (4) dX12_wordOf_29 rfl ?_
    refine r_iconst (4) dX12_wordOf_30 rfl ?_
    refine r_iconst (0) dX12_wordOf_31 rfl ?_
    refine r_iconst (0) dX12_wordOf_32 rfl ?_
    refine r_iconst (0) dX12_wordOf_33 rfl ?_
    refine r_callV6 (ci := 12) (d1 := 3) (c1 := 0) (n1 := 0) dX12_wordOf_34 mvX12_159 rfl ⟨(Nat.le_of_ble_eq_true rfl), rfl⟩ (Nat.le_of_ble_eq_true rfl) (by exact Nat.le_of_ble_eq_true rfl) (by exact k_167 h1.1.1) ?_
    refine S_isW6 h1 hss (fun t6 m2 q2 h2 => ?_) (fun t6 m2 q2 h2 => ?_)
    ·
      have y2 := y1.tr q2
      show Wp g mX12_wordOf _ _ _ 37 _ (_ :: _) _ Q
      refine r_if_eq 45 dX12_wordOf_37 rfl (fun hz => absurd hz (by decide)) (fun _ => ?_)
      refine r_bipush (6) dX12_wordOf_40 rfl ?_
      refine r_goto 67 dX12_wordOf_42 rfl ?_
      refine r_ireturn dX12_wordOf_67 rfl rfl ?_
      exact k1 6 (by decide) (by decide) t6 m2 y2 h2
    ·
      have y2 := y1.tr q2
      show Wp g mX12_wordOf _ _ _ 37 _ (_ :: _) _ Q
      refine r_if_eq 45 dX12_wordOf_37 rfl (fun _ => ?_) (fun hz => absurd hz (by decide))
      refine r_aload_n dX12_wordOf_45 rfl ?_
      refine r_bipush (13) dX12_wordOf_46 rfl ?_
      refine r_bipush (15) dX12_wordOf_48 rfl ?_
      refine r_bipush (18) dX12_wordOf_50 rfl ?_
      refine r_iconst (5) dX12_wordOf_52 rfl ?_
      refine r_iconst (0) dX12_wordOf_53 rfl ?_
      refine r_iconst (0) dX12_wordOf_54 rfl ?_
      refine r_callV6 (ci := 12) (d1 := 3) (c1 := 0) (n1 := 0) dX12_wordOf_55 mvX12_159 rfl ⟨(Nat.le_of_ble_eq_true rfl), rfl⟩ (Nat.le_of_ble_eq_true rfl) (by exact Nat.le_of_ble_eq_true rfl) (by exact k_167 h2.1.1) ?_
      refine S_isW7 h2 hss (fun t7 m3 q3 h3 => ?_) (fun t7 m3 q3 h3 => ?_)
      ·
        have y3 := y2.tr q3
        show Wp g mX12_wordOf _ _ _ 58 _ (_ :: _) _ Q
        refine r_if_eq 66 dX12_wordOf_58 rfl (fun hz => absurd hz (by decide)) (fun _ => ?_)
        refine r_bipush (7) dX12_wordOf_61 rfl ?_
        refine r_goto 67 dX12_wordOf_63 rfl ?_
        refine r_ireturn dX12_wordOf_67 rfl rfl ?_
        exact k1 7 (by decide) (by decide) t7 m3 y3 h3
      ·
        have y3 := y2.tr q3
        show Wp g mX12_wordOf _ _ _ 58 _ (_ :: _) _ Q
        refine r_if_eq 66 dX12_wordOf_58 rfl (fun _ => ?_) (fun hz => absurd hz (by decide))
        refine r_iconst (-1) dX12_wordOf_66 rfl ?_
        refine r_ireturn dX12_wordOf_67 rfl rfl ?_
        refine k0 (fun q => ?_) m3 y3 h3
        obtain ⟨j, j8, jx, jr⟩ := w_tk (way := true) q (tk_rng h.1.2.2.1)
        have jr : 5 ≤ j ∧ j ≤ 7 := jr
        have jc : j = 5 ∨ j = 6 ∨ j = 7 := by omega
        rcases jc with rfl | rfl | rfl
        · exact t5 jx
        · exact t6 jx
        · exact t7 jx
/-- tells after a clause -/
def tlU (t : Nat → Int64) (w : Nat) (v c : Int64) : Nat → Int64 := fun j => if j = w ∧ ¬ c = 0 then v else t j
def Sw (m m' : MM) : Prop := Sc m m' ∧ ldI m' 167 0 = ldI m 167 0
theorem Sw.rf {m : MM} : Sw m m := ⟨Sc.rf, rfl⟩
theorem Sw.tr {m m1 m2 : MM} (h : Sw m m1) (h2 : Sw m1 m2) : Sw m m2 := ⟨h.1.tr h2.1, h2.2.trans h.2⟩
theorem Sw.s {m m1 : MM} {k : Nat} {v : Int32} (h : Sw m m1) (hk : scS k) (h0 : k ≠ 0) : Sw m (stI m1 167 k v) := ⟨h.1.s hk, ld_n (by omega) h.2⟩
theorem Sw.l {m m1 : MM} {a k : Nat} {v : Int64} (h : Sw m m1) (h1 : 168 ≤ a) (h2 : a ≤ 282) : Sw m (stL m1 a k v) := ⟨h.1.l h1 h2, h.2⟩
theorem sy_sc {m m' : MM} (s : Sy m m') : Sw m m' := by
  refine ⟨?_, s.2.1 167 0 (by omega)⟩
  refine ⟨s.1, fun a ha => ⟨fun k => s.2.1 a k (by omega), fun k => ?_⟩, fun a k h1 _ => ⟨s.2.1 a k (fun q => h1 ⟨q.1, by unfold scS; omega⟩), fun _ => s.2.2 a k trivial⟩⟩
  exact s.2.2 a k trivial
theorem ll178 {m : MM} {w j : Nat} {v : Int64} {c : Int32} : ldL (stI (stL m 179 w v) 167 9 c) 178 j = ldL m 178 j := by
  show (if 178 = 179 ∧ j = w then v else ldL m 178 j) = _
  rw [if_neg (by omega)]
theorem TxB_c9 {b : Nat → Int32} {n w : Nat} {m : MM} {c : Int32} {v : Int64} (h : TxB b n m) : TxB b n (stI (stL m 179 w v) 167 9 c) ∧ TxB b n (stI m 167 9 c) := by
  obtain ⟨a, d, e, f, g⟩ := h
  refine ⟨⟨Fx_of (m := m) rfl a, d, e, ld_n (by decide) f, ?_⟩, ⟨Fx_of (m := m) rfl a, d, e, ld_n (by decide) f, ?_⟩⟩
  all_goals
    rcases g with ⟨g1, g2⟩ | ⟨w, w7, g1, g2⟩
    · exact Or.inl ⟨ld_n (by decide) g1, fun k hk => ld_n (by omega) (g2 k hk)⟩
    · exact Or.inr ⟨w, w7, ld_n (by decide) g1, fun k hk => ld_n (by omega) (g2 k hk)⟩
theorem RE_cl {b : Nat → Int32} {n K w : Nat} {e : Er} {m : MM} {c : Int32} {v : Int64} (h : RE b n K e m) : RE b n K e (stI (stL m 179 w v) 167 9 c) := by
  obtain ⟨a, ⟨c1, c2, x, c3, c4⟩, d1, d2, d3⟩ := h
  exact ⟨(TxB_c9 a).1, ⟨c1, c2, x, c3, ld_n (by decide) c4⟩, ld_n (by decide) d1, d2, ld_n (by decide) d3⟩
theorem RE_c9 {b : Nat → Int32} {n K : Nat} {e : Er} {m : MM} {c : Int32} (h : RE b n K e m) : RE b n K e (stI m 167 9 c) := by
  obtain ⟨a, ⟨c1, c2, x, c3, c4⟩, d1, d2, d3⟩ := h
  exact ⟨(TxB_c9 (w := 0) (v := 0) a).2, ⟨c1, c2, x, c3, ld_n (by decide) c4⟩, ld_n (by decide) d1, d2, ld_n (by decide) d3⟩
theorem RP_cl {b : Nat → Int32} {n a o w : Nat} {m : MM} {c : Int32} {v : Int64} (h : RPa b n a o m) : RPa b n a o (stI (stL m 179 w v) 167 9 c) := ⟨(TxB_c9 h.1).1, ld_n (by decide) h.2.1, h.2.2.1, ld_n (by decide) h.2.2.2.1, ld_n (by decide) h.2.2.2.2.1, ld_n (by decide) h.2.2.2.2.2⟩
theorem RP_c9 {b : Nat → Int32} {n a o : Nat} {m : MM} {c : Int32} (h : RPa b n a o m) : RPa b n a o (stI m 167 9 c) := ⟨(TxB_c9 (w := 0) (v := 0) h.1).2, ld_n (by decide) h.2.1, h.2.2.1, ld_n (by decide) h.2.2.2.1, ld_n (by decide) h.2.2.2.2.1, ld_n (by decide) h.2.2.2.2.2⟩
theorem S_rclause0 {g : GG} {m : MM} {Q : Out → Prop} {b : Nat → Int32} {n s i : Nat} {N : Nat → Int64} (h : RP b n s 0 m) (hN : ∀ j, j < 10 → ldL m 178 j = N j) (hw : ldI m 167 15 = 0) (hc9 : ldI m 167 9 = nI i) (hi : i ≤ 16) (k0 : ∀ e, claP b n false i s = .inl e → ∀ m', Sw m m' → RE b n (n + 1) e m' → Q (.inl none, m')) (k1 : ∀ r, claP b n false i s = .inr r → ∀ m', Sw m m' → RP b n r.1 0 m' → (∀ j, j < 10 → ldL m' 178 j = N j) → ldI m' 167 15 = 0 → ldI m' 167 9 = nI (i + 1) → (∀ j, j < 8 → ldL m' 179 j = tlU (ldL m 179) r.2.2.1.toNatClampNeg (r.2.2.2.1 (cut N)) (r.2.2.2.2 (cut N)) j) → Q (.inl none, m')) : Cl g 30 0 0 mX12_clause [.ref 167] m Q := by
  obtain ⟨a, h, hs⟩ := h
  refine Cl.of rfl (by decide) (Nat.le_of_ble_eq_true rfl) ?_
  show Wp g mX12_clause 30 0 0 0 [.ref 167, .retAddr 0, .retAddr 0, .retAddr 0, .retAddr 0] [] m Q
  have hn4 := h.1.2.1
  have hb := h.1.2.2.1
  have hss : rE b n isBl s = s := by rw [← hs]; exact rE_id
  have hsn : s ≤ n := by rw [← hs]; exact rE_n h.2.2.1
  refine r_aload_n dX12_clause_0 rfl ?_
  refine r_callV0 (ci := 12) (d1 := 4) (c1 := 0) (n1 := 0) dX12_clause_1 mvX12_211 rfl ⟨(Nat.le_of_ble_eq_true rfl), rfl⟩ (by omega) (by exact Nat.le_of_ble_eq_true rfl) (by exact k_167 h.1.1) ?_
  refine S_wordOf0 h hs hw (fun wj w8 wr wt m1 q1 h1 => ?_) (fun wn m2 q2 h2 => ?_)
  ·
    have y1 := q1
    have hne : ¬ nI wj = -1 := fun q => by have z := congrArg Int32.toInt q; rw [nI_int wj (by omega)] at z; have y : (-1 : Int32).toInt = -1 := rfl; omega
    have cw : (if false = true then 5 ≤ wrd b n s ∧ wrd b n s ≤ 7 else 0 ≤ wrd b n s ∧ wrd b n s ≤ 4) := (w_rng (way := false) wt (by omega)).mpr wr
    have wd : wrd b n s = nI wj := by unfold wrd; rw [wt]; exact Int32.toInt_inj.mp (by rw [Int32.toInt_sub, nI_int _ (by omega), nI_int _ (by omega)]; show Int.bmod (((256 + wj : Nat) : Int) - 256) (2 ^ 32) = _; rw [Int.bmod_eq_of_le (by omega) (by omega)]; omega)
    have nw := nx_w (i := wj) (by omega) hb wt
    have w9 := ad_of wt (fun q => by have z := congrArg Int32.toInt q; rw [nI_int _ (by omega)] at z; have y : (-1 : Int32).toInt = -1 := rfl; omega)
    show Wp g mX12_clause _ _ _ 4 _ (_ :: _) _ Q
    refine si_1 dX12_clause_4 (by first | rfl | assumption) (Nat.le_of_ble_eq_true rfl) ?_
    refine r_iload_n dX12_clause_5 rfl ?_
    refine r_iconst (-1) dX12_clause_6 rfl ?_
    refine r_icmp_ne 22 dX12_clause_7 rfl (fun wq => ?_) (fun wq => ?_)
    ·
      refine r_aload_n dX12_clause_22 rfl ?_
      refine r_getIc (nI i) dX12_clause_23 fgX12_214 rfl (by exact k_167 h1.1.1) (by exact (y1.2.1 167 9 (by omega)).trans hc9) ?_
      refine r_bipush (16) dX12_clause_26 rfl ?_
      refine r_icmp_ne 40 dX12_clause_28 rfl (fun c16 => ?_) (fun c16 => ?_)
      ·
        refine r_aload_n dX12_clause_40 rfl ?_
        refine r_getIc (0) dX12_clause_41 fgX12_124 rfl (by exact k_167 h1.1.1) (by exact h1.2.2.2.2.1) ?_
        refine r_if_eq 48 dX12_clause_44 rfl (fun _ => ?_) (fun hz => absurd hz (by decide))
        refine r_aload_n dX12_clause_48 rfl ?_
        refine r_callV0 (ci := 12) (d1 := 1) (c1 := 0) (n1 := 0) dX12_clause_49 mvX12_174 rfl ⟨(Nat.le_of_ble_eq_true rfl), rfl⟩ (by omega) (by exact Nat.le_of_ble_eq_true rfl) (by exact k_167 h1.1.1) ?_
        refine S_skipP h1 (fun m3 q3 h3 => ?_)
        have y3 := y1.tr q3
        show Wp g mX12_clause _ _ _ 52 _ [] _ Q
        refine r_aload_n dX12_clause_52 rfl ?_
        refine r_callV0 (ci := 12) (d1 := 26) (c1 := 0) (n1 := 0) dX12_clause_53 mvX12_181 rfl ⟨(Nat.le_of_ble_eq_true rfl), rfl⟩ (by omega) (by exact Nat.le_of_ble_eq_true rfl) (by exact k_167 h3.1.1) ?_
        refine S_rsum6 _ (adP b n s) N _ ⟨_, h3, by unfold adP; rw [nw.1]⟩ (y3.n hN) (fun er her m4 v4 q4 h4 => ?_) (fun r hr m5 q5 h5 => ?_)
        ·
          have y4 := y3.tr q4
          show Wp g mX12_clause _ _ _ 56 _ (_ :: _) _ Q
          refine sl_2 dX12_clause_56 (by first | rfl | assumption) (Nat.le_of_ble_eq_true rfl) ?_
          refine r_iconst (1) dX12_clause_57 rfl ?_
          refine si_4 dX12_clause_58 (by first | rfl | assumption) (Nat.le_of_ble_eq_true rfl) ?_
          refine r_aload_n dX12_clause_60 rfl ?_
          refine r_getIc (er.1) dX12_clause_61 fgX12_124 rfl (by exact k_167 h4.1.1) (by exact h4.2.2.1) ?_
          refine r_if_ne 92 dX12_clause_64 rfl (fun f1 => ?_) (fun f1 => ?_)
          ·
            refine r_aload_n dX12_clause_92 rfl ?_
            refine r_getIc (er.1) dX12_clause_93 fgX12_124 rfl (by exact k_167 h4.1.1) (by exact h4.2.2.1) ?_
            refine r_if_ne 105 dX12_clause_96 rfl (fun f2 => ?_) (fun f2 => ?_)
            ·
              refine r_iload dX12_clause_105 rfl ?_
              refine r_if_eq 117 dX12_clause_107 rfl (fun hz => absurd hz (by decide)) (fun _ => ?_)
              refine r_aload_n dX12_clause_110 rfl ?_
              refine r_getRc dX12_clause_111 fgX12_31 rfl (by exact k_167 h4.1.1) (by exact r_167_17 h4.1.1) ?_
              refine r_iload_n dX12_clause_114 rfl ?_
              refine r_lload_n dX12_clause_115 rfl ?_
              refine r_lastoren (wj) (nI_cl _ (by omega)) dX12_clause_116 (by exact k_179 h4.1.1) (vin (by omega) (by omega)) ?_
              refine r_aload_n dX12_clause_117 rfl ?_
              refine r_dup dX12_clause_118 rfl ?_
              refine r_getIc (nI i) dX12_clause_119 fgX12_214 rfl (by exact k_167 h4.1.1) (by exact (y4.2.1 167 9 (by omega)).trans hc9) ?_
              refine r_iconst (1) dX12_clause_122 rfl ?_
              refine r_iadd dX12_clause_123 ?_
              refine r_putI dX12_clause_124 (fpX12_214 _ rfl) rfl (by exact k_167 h4.1.1) ⟨rfl, rfl⟩ ?_
              refine r_return dX12_clause_127 rfl ?_
              have ti : ¬ 16 ≤ i := fun z => c16 (by rw [show i = 16 from by omega]; rfl)
              have hz := fun v => RE_cl (v := v) (w := wj) (c := nI (i + 1)) h4.up
              rw [nI_1]
              first
                | exact k0 er ((if_pos cw).trans ((if_neg ti).trans (rB_l her))) _ (((sy_sc y4).l (a := 179) (k := wj) (by omega) (by omega)).s (k := 9) (by unfold scS; omega) (by decide)) (hz _)
                | exact k0 ec ((if_pos cw).trans ((if_neg ti).trans ((rB_r hr).trans ((if_pos t21).trans (rB_l hec))))) _ (((sy_sc y4).l (a := 179) (k := wj) (by omega) (by omega)).s (k := 9) (by unfold scS; omega) (by decide)) (hz _)
                | exact k0 (1, c.1) ((if_pos cw).trans ((if_neg ti).trans ((rB_r hr).trans ((if_pos t21).trans ((rB_r hc).trans (if_neg (fun z => g59 ((ch_tk (by unfold isCh; decide)).mpr z)))))))) _ (((sy_sc y4).l (a := 179) (k := wj) (by omega) (by omega)).s (k := 9) (by unfold scS; omega) (by decide)) (hz _)
                | exact k0 (1, r.1) ((if_pos cw).trans ((if_neg ti).trans ((rB_r hr).trans ((if_neg t21).trans (if_neg (fun z => g59 ((ch_tk (by unfold isCh; decide)).mpr z))))))) _ (((sy_sc y4).l (a := 179) (k := wj) (by omega) (by omega)).s (k := 9) (by unfold scS; omega) (by decide)) (hz _)
            ·
              exact absurd f2 h4.2.2.2.1
          ·
            exact absurd f1 h4.2.2.2.1
        ·
          obtain ⟨a5, h5, e5⟩ := h5
          have y5 := y3.tr q5
          have hrr : rE b n isBl r.1 = r.1 := by rw [← e5]; exact rE_id
          show Wp g mX12_clause _ _ _ 56 _ (_ :: _) _ Q
          refine sl_2 dX12_clause_56 (by first | rfl | assumption) (Nat.le_of_ble_eq_true rfl) ?_
          refine r_iconst (1) dX12_clause_57 rfl ?_
          refine si_4 dX12_clause_58 (by first | rfl | assumption) (Nat.le_of_ble_eq_true rfl) ?_
          refine r_aload_n dX12_clause_60 rfl ?_
          refine r_getIc (0) dX12_clause_61 fgX12_124 rfl (by exact k_167 h5.1.1) (by exact h5.2.2.2.2.1) ?_
          refine r_if_ne 92 dX12_clause_64 rfl (fun hz => absurd hz (by decide)) (fun _ => ?_)
          refine r_aload_n dX12_clause_67 rfl ?_
          refine r_bipush (9) dX12_clause_68 rfl ?_
          refine r_bipush (6) dX12_clause_70 rfl ?_
          refine r_iconst (0) dX12_clause_72 rfl ?_
          refine r_iconst (0) dX12_clause_73 rfl ?_
          refine r_iconst (0) dX12_clause_74 rfl ?_
          refine r_iconst (0) dX12_clause_75 rfl ?_
          refine r_callV6 (ci := 12) (d1 := 3) (c1 := 0) (n1 := 0) dX12_clause_76 mvX12_159 rfl ⟨(Nat.le_of_ble_eq_true rfl), rfl⟩ (by omega) (by exact Nat.le_of_ble_eq_true rfl) (by exact k_167 h5.1.1) ?_
          refine S_isW21 h5 e5 (fun t21 m6 q6 h6 => ?_) (fun t21 m7 q7 h7 => ?_)
          ·
            have y6 := y5.tr q6
            have w21 := nx_w (i := 21) (by omega) hb t21
            show Wp g mX12_clause _ _ _ 79 _ (_ :: _) _ Q
            refine r_if_eq 92 dX12_clause_79 rfl (fun hz => absurd hz (by decide)) (fun _ => ?_)
            refine r_aload_n dX12_clause_82 rfl ?_
            refine r_callV0 (ci := 12) (d1 := 1) (c1 := 0) (n1 := 0) dX12_clause_83 mvX12_174 rfl ⟨(Nat.le_of_ble_eq_true rfl), rfl⟩ (by omega) (by exact Nat.le_of_ble_eq_true rfl) (by exact k_167 h6.1.1) ?_
            refine S_skipP h6 (fun m8 q8 h8 => ?_)
            have y8 := y6.tr q8
            show Wp g mX12_clause _ _ _ 86 _ [] _ Q
            refine r_aload_n dX12_clause_86 rfl ?_
            refine r_callV0 (ci := 12) (d1 := 29) (c1 := 0) (n1 := 0) dX12_clause_87 mvX12_201 rfl ⟨(Nat.le_of_ble_eq_true rfl), rfl⟩ (by omega) (by exact Nat.le_of_ble_eq_true rfl) (by exact k_167 h8.1.1) ?_
            refine S_rors6 _ (adP b n r.1) N _ ⟨_, h8, by unfold adP; rw [w21.1]⟩ (y8.n hN) (fun ec hec m9 v9 hv9 q9 h9 => ?_) (fun c hc m10 q10 h10 => ?_)
            ·
              have y9 := y8.tr q9
              show Wp g mX12_clause _ _ _ 90 _ (_ :: _) _ Q
              refine si_4 dX12_clause_90 (by first | rfl | assumption) (Nat.le_of_ble_eq_true rfl) ?_
              refine r_aload_n dX12_clause_92 rfl ?_
              refine r_getIc (ec.1) dX12_clause_93 fgX12_124 rfl (by exact k_167 h9.1.1) (by exact h9.2.2.1) ?_
              refine r_if_ne 105 dX12_clause_96 rfl (fun f2 => ?_) (fun f2 => ?_)
              ·
                refine r_iload dX12_clause_105 rfl ?_
                refine r_if_eq 117 dX12_clause_107 rfl (fun ch => ?_) (fun ch => ?_)
                ·
                  refine r_aload_n dX12_clause_117 rfl ?_
                  refine r_dup dX12_clause_118 rfl ?_
                  refine r_getIc (nI i) dX12_clause_119 fgX12_214 rfl (by exact k_167 h9.1.1) (by exact (y9.2.1 167 9 (by omega)).trans hc9) ?_
                  refine r_iconst (1) dX12_clause_122 rfl ?_
                  refine r_iadd dX12_clause_123 ?_
                  refine r_putI dX12_clause_124 (fpX12_214 _ rfl) rfl (by exact k_167 h9.1.1) ⟨rfl, rfl⟩ ?_
                  refine r_return dX12_clause_127 rfl ?_
                  have ti : ¬ 16 ≤ i := fun z => c16 (by rw [show i = 16 from by omega]; rfl)
                  have hz := RE_c9 (c := nI (i + 1)) h9
                  rw [nI_1]
                  first
                    | exact k0 er ((if_pos cw).trans ((if_neg ti).trans (rB_l her))) _ ((sy_sc y9).s (k := 9) (by unfold scS; omega) (by decide)) hz
                    | exact k0 ec ((if_pos cw).trans ((if_neg ti).trans ((rB_r hr).trans ((if_pos t21).trans (rB_l hec))))) _ ((sy_sc y9).s (k := 9) (by unfold scS; omega) (by decide)) hz
                    | exact k0 (1, c.1) ((if_pos cw).trans ((if_neg ti).trans ((rB_r hr).trans ((if_pos t21).trans ((rB_r hc).trans (if_neg (fun z => g59 ((ch_tk (by unfold isCh; decide)).mpr z)))))))) _ ((sy_sc y9).s (k := 9) (by unfold scS; omega) (by decide)) hz
                    | exact k0 (1, r.1) ((if_pos cw).trans ((if_neg ti).trans ((rB_r hr).trans ((if_neg t21).trans (if_neg (fun z => g59 ((ch_tk (by unfold isCh; decide)).mpr z))))))) _ ((sy_sc y9).s (k := 9) (by unfold scS; omega) (by decide)) hz
                ·
                  refine r_aload_n dX12_clause_110 rfl ?_
                  refine r_getRc dX12_clause_111 fgX12_31 rfl (by exact k_167 h9.1.1) (by exact r_167_17 h9.1.1) ?_
                  refine r_iload_n dX12_clause_114 rfl ?_
                  refine r_lload_n dX12_clause_115 rfl ?_
                  refine r_lastoren (wj) (nI_cl _ (by omega)) dX12_clause_116 (by exact k_179 h9.1.1) (vin (by omega) (by omega)) ?_
                  refine r_aload_n dX12_clause_117 rfl ?_
                  refine r_dup dX12_clause_118 rfl ?_
                  refine r_getIc (nI i) dX12_clause_119 fgX12_214 rfl (by exact k_167 h9.1.1) (by exact (y9.2.1 167 9 (by omega)).trans hc9) ?_
                  refine r_iconst (1) dX12_clause_122 rfl ?_
                  refine r_iadd dX12_clause_123 ?_
                  refine r_putI dX12_clause_124 (fpX12_214 _ rfl) rfl (by exact k_167 h9.1.1) ⟨rfl, rfl⟩ ?_
                  refine r_return dX12_clause_127 rfl ?_
                  have ti : ¬ 16 ≤ i := fun z => c16 (by rw [show i = 16 from by omega]; rfl)
                  have hz := fun v => RE_cl (v := v) (w := wj) (c := nI (i + 1)) h9
                  rw [nI_1]
                  first
                    | exact k0 er ((if_pos cw).trans ((if_neg ti).trans (rB_l her))) _ (((sy_sc y9).l (a := 179) (k := wj) (by omega) (by omega)).s (k := 9) (by unfold scS; omega) (by decide)) (hz _)
                    | exact k0 ec ((if_pos cw).trans ((if_neg ti).trans ((rB_r hr).trans ((if_pos t21).trans (rB_l hec))))) _ (((sy_sc y9).l (a := 179) (k := wj) (by omega) (by omega)).s (k := 9) (by unfold scS; omega) (by decide)) (hz _)
                    | exact k0 (1, c.1) ((if_pos cw).trans ((if_neg ti).trans ((rB_r hr).trans ((if_pos t21).trans ((rB_r hc).trans (if_neg (fun z => g59 ((ch_tk (by unfold isCh; decide)).mpr z)))))))) _ (((sy_sc y9).l (a := 179) (k := wj) (by omega) (by omega)).s (k := 9) (by unfold scS; omega) (by decide)) (hz _)
                    | exact k0 (1, r.1) ((if_pos cw).trans ((if_neg ti).trans ((rB_r hr).trans ((if_neg t21).trans (if_neg (fun z => g59 ((ch_tk (by unfold isCh; decide)).mpr z))))))) _ (((sy_sc y9).l (a := 179) (k := wj) (by omega) (by omega)).s (k := 9) (by unfold scS; omega) (by decide)) (hz _)
              ·
                exact absurd f2 h9.2.2.2.1
            ·
              obtain ⟨a10, h10, e10⟩ := h10
              have y10 := y8.tr q10
              show Wp g mX12_clause _ _ _ 90 _ (_ :: _) _ Q
              refine si_4 dX12_clause_90 (by first | rfl | assumption) (Nat.le_of_ble_eq_true rfl) ?_
              refine r_aload_n dX12_clause_92 rfl ?_
              refine r_getIc (0) dX12_clause_93 fgX12_124 rfl (by exact k_167 h10.1.1) (by exact h10.2.2.2.2.1) ?_
              refine r_if_ne 105 dX12_clause_96 rfl (fun hz => absurd hz (by decide)) (fun _ => ?_)
              refine r_aload_n dX12_clause_99 rfl ?_
              refine r_bipush (59) dX12_clause_100 rfl ?_
              refine r_callV1 (ci := 12) (d1 := 2) (c1 := 0) (n1 := 0) dX12_clause_102 mvX12_184 rfl ⟨(Nat.le_of_ble_eq_true rfl), rfl⟩ (by omega) (by exact Nat.le_of_ble_eq_true rfl) (by exact k_167 h10.1.1) ?_
              refine S_signP h10 (by decide) (fun g59 m11 q11 h11 => ?_) (fun g59 m12 q12 h12 => ?_)
              ·
                have y11 := y10.tr q11
                rw [e10] at g59 h11
                show Wp g mX12_clause _ _ _ 105 _ [] _ Q
                refine r_iload dX12_clause_105 rfl ?_
                refine r_if_eq 117 dX12_clause_107 rfl (fun ch => ?_) (fun ch => ?_)
                ·
                  refine r_aload_n dX12_clause_117 rfl ?_
                  refine r_dup dX12_clause_118 rfl ?_
                  refine r_getIc (nI i) dX12_clause_119 fgX12_214 rfl (by exact k_167 h11.1.1) (by exact (y11.2.1 167 9 (by omega)).trans hc9) ?_
                  refine r_iconst (1) dX12_clause_122 rfl ?_
                  refine r_iadd dX12_clause_123 ?_
                  refine r_putI dX12_clause_124 (fpX12_214 _ rfl) rfl (by exact k_167 h11.1.1) ⟨rfl, rfl⟩ ?_
                  refine r_return dX12_clause_127 rfl ?_
                  have ti : ¬ 16 ≤ i := fun z => c16 (by rw [show i = 16 from by omega]; rfl)
                  rw [nI_1]
                  have g9 := (ch_tk (c := 59) (by unfold isCh; decide)).mp g59
                  have n9 := nx_ch (c := 59) (by unfold isCh; decide) g59
                  refine k1 (adP b n c.1, r.2.1 ++ c.2.1 ++ [wrd b n s * 512 + 4], wrd b n s, r.2.2, c.2.2) ((if_pos cw).trans ((if_neg ti).trans ((rB_r hr).trans ((if_pos t21).trans ((rB_r hc).trans (if_pos g9)))))) _ ((sy_sc y11).s (k := 9) (by unfold scS; omega) (by decide)) ⟨_, RP_c9 h11, congrArg (rE b n isBl) n9.2.symm⟩ (y11.n hN) (ld_n (by decide) ((y11.2.1 167 15 (by omega)).trans hw)) ld_s (fun j hj => ?_)
                  dsimp only; rw [wd, nI_cl wj (by omega)]
                  unfold tlU
                  have nz : c.2.2 (cut N) = 0 := Classical.byContradiction (fun q => absurd ((if_neg q).symm.trans ch) (by decide))
                  rw [if_neg (fun z => z.2 nz)]; exact y11.2.2 179 j (by decide)
                ·
                  refine r_aload_n dX12_clause_110 rfl ?_
                  refine r_getRc dX12_clause_111 fgX12_31 rfl (by exact k_167 h11.1.1) (by exact r_167_17 h11.1.1) ?_
                  refine r_iload_n dX12_clause_114 rfl ?_
                  refine r_lload_n dX12_clause_115 rfl ?_
                  refine r_lastoren (wj) (nI_cl _ (by omega)) dX12_clause_116 (by exact k_179 h11.1.1) (vin (by omega) (by omega)) ?_
                  refine r_aload_n dX12_clause_117 rfl ?_
                  refine r_dup dX12_clause_118 rfl ?_
                  refine r_getIc (nI i) dX12_clause_119 fgX12_214 rfl (by exact k_167 h11.1.1) (by exact (y11.2.1 167 9 (by omega)).trans hc9) ?_
                  refine r_iconst (1) dX12_clause_122 rfl ?_
                  refine r_iadd dX12_clause_123 ?_
                  refine r_putI dX12_clause_124 (fpX12_214 _ rfl) rfl (by exact k_167 h11.1.1) ⟨rfl, rfl⟩ ?_
                  refine r_return dX12_clause_127 rfl ?_
                  have ti : ¬ 16 ≤ i := fun z => c16 (by rw [show i = 16 from by omega]; rfl)
                  rw [nI_1]
                  have g9 := (ch_tk (c := 59) (by unfold isCh; decide)).mp g59
                  have n9 := nx_ch (c := 59) (by unfold isCh; decide) g59
                  refine k1 (adP b n c.1, r.2.1 ++ c.2.1 ++ [wrd b n s * 512 + 4], wrd b n s, r.2.2, c.2.2) ((if_pos cw).trans ((if_neg ti).trans ((rB_r hr).trans ((if_pos t21).trans ((rB_r hc).trans (if_pos g9)))))) _ (((sy_sc y11).l (a := 179) (k := wj) (by omega) (by omega)).s (k := 9) (by unfold scS; omega) (by decide)) ⟨_, RP_cl h11, congrArg (rE b n isBl) n9.2.symm⟩ (fun j hj => ll178.trans (y11.n hN j hj)) (ld_n (by decide) ((y11.2.1 167 15 (by omega)).trans hw)) ld_s (fun j hj => ?_)
                  dsimp only; rw [wd, nI_cl wj (by omega)]
                  unfold tlU
                  have nz : ¬ c.2.2 (cut N) = 0 := fun q => ch (if_pos q)
                  by_cases qj : j = wj
                  · subst qj; rw [if_pos ⟨rfl, nz⟩]; exact if_pos ⟨rfl, rfl⟩
                  · rw [if_neg (fun z => qj z.1)]; exact (if_neg (fun z => qj z.2)).trans (y11.2.2 179 j (by decide))
              ·
                have y12 := y10.tr q12
                rw [e10] at g59 h12
                show Wp g mX12_clause _ _ _ 105 _ [] _ Q
                refine r_iload dX12_clause_105 rfl ?_
                refine r_if_eq 117 dX12_clause_107 rfl (fun ch => ?_) (fun ch => ?_)
                ·
                  refine r_aload_n dX12_clause_117 rfl ?_
                  refine r_dup dX12_clause_118 rfl ?_
                  refine r_getIc (nI i) dX12_clause_119 fgX12_214 rfl (by exact k_167 h12.1.1) (by exact (y12.2.1 167 9 (by omega)).trans hc9) ?_
                  refine r_iconst (1) dX12_clause_122 rfl ?_
                  refine r_iadd dX12_clause_123 ?_
                  refine r_putI dX12_clause_124 (fpX12_214 _ rfl) rfl (by exact k_167 h12.1.1) ⟨rfl, rfl⟩ ?_
                  refine r_return dX12_clause_127 rfl ?_
                  have ti : ¬ 16 ≤ i := fun z => c16 (by rw [show i = 16 from by omega]; rfl)
                  have hz := RE_c9 (c := nI (i + 1)) h12.up
                  rw [nI_1]
                  first
                    | exact k0 er ((if_pos cw).trans ((if_neg ti).trans (rB_l her))) _ ((sy_sc y12).s (k := 9) (by unfold scS; omega) (by decide)) hz
                    | exact k0 ec ((if_pos cw).trans ((if_neg ti).trans ((rB_r hr).trans ((if_pos t21).trans (rB_l hec))))) _ ((sy_sc y12).s (k := 9) (by unfold scS; omega) (by decide)) hz
                    | exact k0 (1, c.1) ((if_pos cw).trans ((if_neg ti).trans ((rB_r hr).trans ((if_pos t21).trans ((rB_r hc).trans (if_neg (fun z => g59 ((ch_tk (by unfold isCh; decide)).mpr z)))))))) _ ((sy_sc y12).s (k := 9) (by unfold scS; omega) (by decide)) hz
                    | exact k0 (1, r.1) ((if_pos cw).trans ((if_neg ti).trans ((rB_r hr).trans ((if_neg t21).trans (if_neg (fun z => g59 ((ch_tk (by unfold isCh; decide)).mpr z))))))) _ ((sy_sc y12).s (k := 9) (by unfold scS; omega) (by decide)) hz
                ·
                  refine r_aload_n dX12_clause_110 rfl ?_
                  refine r_getRc dX12_clause_111 fgX12_31 rfl (by exact k_167 h12.1.1) (by exact r_167_17 h12.1.1) ?_
                  refine r_iload_n dX12_clause_114 rfl ?_
                  refine r_lload_n dX12_clause_115 rfl ?_
                  refine r_lastoren (wj) (nI_cl _ (by omega)) dX12_clause_116 (by exact k_179 h12.1.1) (vin (by omega) (by omega)) ?_
                  refine r_aload_n dX12_clause_117 rfl ?_
                  refine r_dup dX12_clause_118 rfl ?_
                  refine r_getIc (nI i) dX12_clause_119 fgX12_214 rfl (by exact k_167 h12.1.1) (by exact (y12.2.1 167 9 (by omega)).trans hc9) ?_
                  refine r_iconst (1) dX12_clause_122 rfl ?_
                  refine r_iadd dX12_clause_123 ?_
                  refine r_putI dX12_clause_124 (fpX12_214 _ rfl) rfl (by exact k_167 h12.1.1) ⟨rfl, rfl⟩ ?_
                  refine r_return dX12_clause_127 rfl ?_
                  have ti : ¬ 16 ≤ i := fun z => c16 (by rw [show i = 16 from by omega]; rfl)
                  have hz := fun v => RE_cl (v := v) (w := wj) (c := nI (i + 1)) h12.up
                  rw [nI_1]
                  first
                    | exact k0 er ((if_pos cw).trans ((if_neg ti).trans (rB_l her))) _ (((sy_sc y12).l (a := 179) (k := wj) (by omega) (by omega)).s (k := 9) (by unfold scS; omega) (by decide)) (hz _)
                    | exact k0 ec ((if_pos cw).trans ((if_neg ti).trans ((rB_r hr).trans ((if_pos t21).trans (rB_l hec))))) _ (((sy_sc y12).l (a := 179) (k := wj) (by omega) (by omega)).s (k := 9) (by unfold scS; omega) (by decide)) (hz _)
                    | exact k0 (1, c.1) ((if_pos cw).trans ((if_neg ti).trans ((rB_r hr).trans ((if_pos t21).trans ((rB_r hc).trans (if_neg (fun z => g59 ((ch_tk (by unfold isCh; decide)).mpr z)))))))) _ (((sy_sc y12).l (a := 179) (k := wj) (by omega) (by omega)).s (k := 9) (by unfold scS; omega) (by decide)) (hz _)
                    | exact k0 (1, r.1) ((if_pos cw).trans ((if_neg ti).trans ((rB_r hr).trans ((if_neg t21).trans (if_neg (fun z => g59 ((ch_tk (by unfold isCh; decide)).mpr z))))))) _ (((sy_sc y12).l (a := 179) (k := wj) (by omega) (by omega)).s (k := 9) (by unfold scS; omega) (by decide)) (hz _)
          ·
            have y7 := y5.tr q7
            show Wp g mX12_clause _ _ _ 79 _ (_ :: _) _ Q
            refine r_if_eq 92 dX12_clause_79 rfl (fun _ => ?_) (fun hz => absurd hz (by decide))
            refine r_aload_n dX12_clause_92 rfl ?_
            refine r_getIc (0) dX12_clause_93 fgX12_124 rfl (by exact k_167 h7.1.1) (by exact h7.2.2.2.2.1) ?_
            refine r_if_ne 105 dX12_clause_96 rfl (fun hz => absurd hz (by decide)) (fun _ => ?_)
            refine r_aload_n dX12_clause_99 rfl ?_
            refine r_bipush (59) dX12_clause_100 rfl ?_
            refine r_callV1 (ci := 12) (d1 := 2) (c1 := 0) (n1 := 0) dX12_clause_102 mvX12_184 rfl ⟨(Nat.le_of_ble_eq_true rfl), rfl⟩ (by omega) (by exact Nat.le_of_ble_eq_true rfl) (by exact k_167 h7.1.1) ?_
            refine S_signP h7 (by decide) (fun g59 m13 q13 h13 => ?_) (fun g59 m14 q14 h14 => ?_)
            ·
              have y13 := y7.tr q13
              rw [hrr] at g59 h13
              show Wp g mX12_clause _ _ _ 105 _ [] _ Q
              refine r_iload dX12_clause_105 rfl ?_
              refine r_if_eq 117 dX12_clause_107 rfl (fun hz => absurd hz (by decide)) (fun _ => ?_)
              refine r_aload_n dX12_clause_110 rfl ?_
              refine r_getRc dX12_clause_111 fgX12_31 rfl (by exact k_167 h13.1.1) (by exact r_167_17 h13.1.1) ?_
              refine r_iload_n dX12_clause_114 rfl ?_
              refine r_lload_n dX12_clause_115 rfl ?_
              refine r_lastoren (wj) (nI_cl _ (by omega)) dX12_clause_116 (by exact k_179 h13.1.1) (vin (by omega) (by omega)) ?_
              refine r_aload_n dX12_clause_117 rfl ?_
              refine r_dup dX12_clause_118 rfl ?_
              refine r_getIc (nI i) dX12_clause_119 fgX12_214 rfl (by exact k_167 h13.1.1) (by exact (y13.2.1 167 9 (by omega)).trans hc9) ?_
              refine r_iconst (1) dX12_clause_122 rfl ?_
              refine r_iadd dX12_clause_123 ?_
              refine r_putI dX12_clause_124 (fpX12_214 _ rfl) rfl (by exact k_167 h13.1.1) ⟨rfl, rfl⟩ ?_
              refine r_return dX12_clause_127 rfl ?_
              have ti : ¬ 16 ≤ i := fun z => c16 (by rw [show i = 16 from by omega]; rfl)
              rw [nI_1]
              have g9 := (ch_tk (c := 59) (by unfold isCh; decide)).mp g59
              have n9 := nx_ch (c := 59) (by unfold isCh; decide) g59
              refine k1 (adP b n r.1, r.2.1 ++ [wrd b n s * 512 + 3], wrd b n s, r.2.2, fun _ => 1) ((if_pos cw).trans ((if_neg ti).trans ((rB_r hr).trans ((if_neg t21).trans (if_pos g9))))) _ (((sy_sc y13).l (a := 179) (k := wj) (by omega) (by omega)).s (k := 9) (by unfold scS; omega) (by decide)) ⟨_, RP_cl h13, congrArg (rE b n isBl) n9.2.symm⟩ (fun j hj => ll178.trans (y13.n hN j hj)) (ld_n (by decide) ((y13.2.1 167 15 (by omega)).trans hw)) ld_s (fun j hj => ?_)
              dsimp only; rw [wd, nI_cl wj (by omega)]
              unfold tlU
              have nz : ¬ (1 : Int64) = 0 := by decide
              by_cases qj : j = wj
              · subst qj; rw [if_pos ⟨rfl, nz⟩]; exact if_pos ⟨rfl, rfl⟩
              · rw [if_neg (fun z => qj z.1)]; exact (if_neg (fun z => qj z.2)).trans (y13.2.2 179 j (by decide))
            ·
              have y14 := y7.tr q14
              rw [hrr] at g59 h14
              show Wp g mX12_clause _ _ _ 105 _ [] _ Q
              refine r_iload dX12_clause_105 rfl ?_
              refine r_if_eq 117 dX12_clause_107 rfl (fun hz => absurd hz (by decide)) (fun _ => ?_)
              refine r_aload_n dX12_clause_110 rfl ?_
              refine r_getRc dX12_clause_111 fgX12_31 rfl (by exact k_167 h14.1.1) (by exact r_167_17 h14.1.1) ?_
              refine r_iload_n dX12_clause_114 rfl ?_
              refine r_lload_n dX12_clause_115 rfl ?_
              refine r_lastoren (wj) (nI_cl _ (by omega)) dX12_clause_116 (by exact k_179 h14.1.1) (vin (by omega) (by omega)) ?_
              refine r_aload_n dX12_clause_117 rfl ?_
              refine r_dup dX12_clause_118 rfl ?_
              refine r_getIc (nI i) dX12_clause_119 fgX12_214 rfl (by exact k_167 h14.1.1) (by exact (y14.2.1 167 9 (by omega)).trans hc9) ?_
              refine r_iconst (1) dX12_clause_122 rfl ?_
              refine r_iadd dX12_clause_123 ?_
              refine r_putI dX12_clause_124 (fpX12_214 _ rfl) rfl (by exact k_167 h14.1.1) ⟨rfl, rfl⟩ ?_
              refine r_return dX12_clause_127 rfl ?_
              have ti : ¬ 16 ≤ i := fun z => c16 (by rw [show i = 16 from by omega]; rfl)
              have hz := fun v => RE_cl (v := v) (w := wj) (c := nI (i + 1)) h14.up
              rw [nI_1]
              first
                | exact k0 er ((if_pos cw).trans ((if_neg ti).trans (rB_l her))) _ (((sy_sc y14).l (a := 179) (k := wj) (by omega) (by omega)).s (k := 9) (by unfold scS; omega) (by decide)) (hz _)
                | exact k0 ec ((if_pos cw).trans ((if_neg ti).trans ((rB_r hr).trans ((if_pos t21).trans (rB_l hec))))) _ (((sy_sc y14).l (a := 179) (k := wj) (by omega) (by omega)).s (k := 9) (by unfold scS; omega) (by decide)) (hz _)
                | exact k0 (1, c.1) ((if_pos cw).trans ((if_neg ti).trans ((rB_r hr).trans ((if_pos t21).trans ((rB_r hc).trans (if_neg (fun z => g59 ((ch_tk (by unfold isCh; decide)).mpr z)))))))) _ (((sy_sc y14).l (a := 179) (k := wj) (by omega) (by omega)).s (k := 9) (by unfold scS; omega) (by decide)) (hz _)
                | exact k0 (1, r.1) ((if_pos cw).trans ((if_neg ti).trans ((rB_r hr).trans ((if_neg t21).trans (if_neg (fun z => g59 ((ch_tk (by unfold isCh; decide)).mpr z))))))) _ (((sy_sc y14).l (a := 179) (k := wj) (by omega) (by omega)).s (k := 9) (by unfold scS; omega) (by decide)) (hz _)
      ·
        refine r_aload_n dX12_clause_31 rfl ?_
        refine r_iconst (3) dX12_clause_32 rfl ?_
        refine r_aload_n dX12_clause_33 rfl ?_
        refine r_getIc (nI s) dX12_clause_34 fgX12_117 rfl (by exact k_167 h1.1.1) (by exact h1.2.1) ?_
        refine r_callV2 (ci := 12) (d1 := 0) (c1 := 0) (n1 := 0) dX12_clause_37 mvX12_141 rfl ⟨(Nat.le_of_ble_eq_true rfl), rfl⟩ (by omega) (by exact Nat.le_of_ble_eq_true rfl) (by exact k_167 h1.1.1) ?_
        refine S_wrongP h1 (by decide) (fun m15 q15 h15 => ?_)
        have y15 := y1.tr q15
        show Wp g mX12_clause _ _ _ 40 _ [] _ Q
        refine r_aload_n dX12_clause_40 rfl ?_
        refine r_getIc (((3, s) : Er).1) dX12_clause_41 fgX12_124 rfl (by exact k_167 h15.1.1) (by exact h15.2.2.1) ?_
        refine r_if_eq 48 dX12_clause_44 rfl (fun f0 => ?_) (fun f0 => ?_)
        ·
          exact absurd f0 h15.2.2.2.1
        ·
          refine r_return dX12_clause_47 rfl ?_
          exact k0 (3, s) ((if_pos cw).trans (if_pos (by have := (nI_eq (b := 16) (by omega) (by omega)).mp c16; omega))) m15 (sy_sc y15) h15.up
    ·
      exact absurd wq hne
  ·
    have y2 := q2
    show Wp g mX12_clause _ _ _ 4 _ (_ :: _) _ Q
    refine si_1 dX12_clause_4 (by first | rfl | assumption) (Nat.le_of_ble_eq_true rfl) ?_
    refine r_iload_n dX12_clause_5 rfl ?_
    refine r_iconst (-1) dX12_clause_6 rfl ?_
    refine r_icmp_ne 22 dX12_clause_7 rfl (fun hz => absurd hz (by decide)) (fun _ => ?_)
    refine r_aload_n dX12_clause_10 rfl ?_
    refine r_iconst (1) dX12_clause_11 rfl ?_
    refine r_aload_n dX12_clause_12 rfl ?_
    refine r_getIc (nI s) dX12_clause_13 fgX12_117 rfl (by exact k_167 h2.1.1) (by exact h2.2.1) ?_
    refine r_callV2 (ci := 12) (d1 := 0) (c1 := 0) (n1 := 0) dX12_clause_16 mvX12_141 rfl ⟨(Nat.le_of_ble_eq_true rfl), rfl⟩ (by omega) (by exact Nat.le_of_ble_eq_true rfl) (by exact k_167 h2.1.1) ?_
    refine S_wrongP h2 (by decide) (fun m16 q16 h16 => ?_)
    have y16 := y2.tr q16
    show Wp g mX12_clause _ _ _ 19 _ [] _ Q
    refine r_goto 40 dX12_clause_19 rfl ?_
    refine r_aload_n dX12_clause_40 rfl ?_
    refine r_getIc (((1, s) : Er).1) dX12_clause_41 fgX12_124 rfl (by exact k_167 h16.1.1) (by exact h16.2.2.1) ?_
    refine r_if_eq 48 dX12_clause_44 rfl (fun f0 => ?_) (fun f0 => ?_)
    ·
      exact absurd f0 h16.2.2.2.1
    ·
      refine r_return dX12_clause_47 rfl ?_
      exact k0 (1, s) (if_neg wn) m16 (sy_sc y16) h16.up
theorem S_rclause1 {g : GG} {m : MM} {Q : Out → Prop} {b : Nat → Int32} {n s i : Nat} {N : Nat → Int64} (h : RP b n s 0 m) (hN : ∀ j, j < 10 → ldL m 178 j = N j) (hw : ldI m 167 15 = 1) (hc9 : ldI m 167 9 = nI i) (hi : i ≤ 16) (k0 : ∀ e, claP b n true i s = .inl e → ∀ m', Sw m m' → RE b n (n + 1) e m' → Q (.inl none, m')) (k1 : ∀ r, claP b n true i s = .inr r → ∀ m', Sw m m' → RP b n r.1 0 m' → (∀ j, j < 10 → ldL m' 178 j = N j) → ldI m' 167 15 = 1 → ldI m' 167 9 = nI (i + 1) → (∀ j, j < 8 → ldL m' 179 j = tlU (ldL m 179) r.2.2.1.toNatClampNeg (r.2.2.2.1 (cut N)) (r.2.2.2.2 (cut N)) j) → Q (.inl none, m')) : Cl g 30 0 0 mX12_clause [.ref 167] m Q := by
  obtain ⟨a, h, hs⟩ := h
  refine Cl.of rfl (by decide) (Nat.le_of_ble_eq_true rfl) ?_
  show Wp g mX12_clause 30 0 0 0 [.ref 167, .retAddr 0, .retAddr 0, .retAddr 0, .retAddr 0] [] m Q
  have hn4 := h.1.2.1
  have hb := h.1.2.2.1
  have hss : rE b n isBl s = s := by rw [← hs]; exact rE_id
  have hsn : s ≤ n := by rw [← hs]; exact rE_n h.2.2.1
  refine r_aload_n dX12_clause_0 rfl ?_
  refine r_callV0 (ci := 12) (d1 := 4) (c1 := 0) (n1 := 0) dX12_clause_1 mvX12_211 rfl ⟨(Nat.le_of_ble_eq_true rfl), rfl⟩ (by omega) (by exact Nat.le_of_ble_eq_true rfl) (by exact k_167 h.1.1) ?_
  refine S_wordOf1 h hs hw (fun wj w8 wr wt m1 q1 h1 => ?_) (fun wn m2 q2 h2 => ?_)
  ·
    have y1 := q1
    have hne : ¬ nI wj = -1 := fun q => by have z := congrArg Int32.toInt q; rw [nI_int wj (by omega)] at z; have y : (-1 : Int32).toInt = -1 := rfl; omega
    have cw : (if true = true then 5 ≤ wrd b n s ∧ wrd b n s ≤ 7 else 0 ≤ wrd b n s ∧ wrd b n s ≤ 4) := (w_rng (way := true) wt (by omega)).mpr wr
    have wd : wrd b n s = nI wj := by unfold wrd; rw [wt]; exact Int32.toInt_inj.mp (by rw [Int32.toInt_sub, nI_int _ (by omega), nI_int _ (by omega)]; show Int.bmod (((256 + wj : Nat) : Int) - 256) (2 ^ 32) = _; rw [Int.bmod_eq_of_le (by omega) (by omega)]; omega)
    have nw := nx_w (i := wj) (by omega) hb wt
    have w9 := ad_of wt (fun q => by have z := congrArg Int32.toInt q; rw [nI_int _ (by omega)] at z; have y : (-1 : Int32).toInt = -1 := rfl; omega)
    show Wp g mX12_clause _ _ _ 4 _ (_ :: _) _ Q
    refine si_1 dX12_clause_4 (by first | rfl | assumption) (Nat.le_of_ble_eq_true rfl) ?_
    refine r_iload_n dX12_clause_5 rfl ?_
    refine r_iconst (-1) dX12_clause_6 rfl ?_
    refine r_icmp_ne 22 dX12_clause_7 rfl (fun wq => ?_) (fun wq => ?_)
    ·
      refine r_aload_n dX12_clause_22 rfl ?_
      refine r_getIc (nI i) dX12_clause_23 fgX12_214 rfl (by exact k_167 h1.1.1) (by exact (y1.2.1 167 9 (by omega)).trans hc9) ?_
      refine r_bipush (16) dX12_clause_26 rfl ?_
      refine r_icmp_ne 40 dX12_clause_28 rfl (fun c16 => ?_) (fun c16 => ?_)
      ·
        refine r_aload_n dX12_clause_40 rfl ?_
        refine r_getIc (0) dX12_clause_41 fgX12_124 rfl (by exact k_167 h1.1.1) (by exact h1.2.2.2.2.1) ?_
        refine r_if_eq 48 dX12_clause_44 rfl (fun _ => ?_) (fun hz => absurd hz (by decide))
        refine r_aload_n dX12_clause_48 rfl ?_
        refine r_callV0 (ci := 12) (d1 := 1) (c1 := 0) (n1 := 0) dX12_clause_49 mvX12_174 rfl ⟨(Nat.le_of_ble_eq_true rfl), rfl⟩ (by omega) (by exact Nat.le_of_ble_eq_true rfl) (by exact k_167 h1.1.1) ?_
        refine S_skipP h1 (fun m3 q3 h3 => ?_)
        have y3 := y1.tr q3
        show Wp g mX12_clause _ _ _ 52 _ [] _ Q
        refine r_aload_n dX12_clause_52 rfl ?_
        refine r_callV0 (ci := 12) (d1 := 26) (c1 := 0) (n1 := 0) dX12_clause_53 mvX12_181 rfl ⟨(Nat.le_of_ble_eq_true rfl), rfl⟩ (by omega) (by exact Nat.le_of_ble_eq_true rfl) (by exact k_167 h3.1.1) ?_
        refine S_rsum6 _ (adP b n s) N _ ⟨_, h3, by unfold adP; rw [nw.1]⟩ (y3.n hN) (fun er her m4 v4 q4 h4 => ?_) (fun r hr m5 q5 h5 => ?_)
        ·
          have y4 := y3.tr q4
          show Wp g mX12_clause _ _ _ 56 _ (_ :: _) _ Q
          refine sl_2 dX12_clause_56 (by first | rfl | assumption) (Nat.le_of_ble_eq_true rfl) ?_
          refine r_iconst (1) dX12_clause_57 rfl ?_
          refine si_4 dX12_clause_58 (by first | rfl | assumption) (Nat.le_of_ble_eq_true rfl) ?_
          refine r_aload_n dX12_clause_60 rfl ?_
          refine r_getIc (er.1) dX12_clause_61 fgX12_124 rfl (by exact k_167 h4.1.1) (by exact h4.2.2.1) ?_
          refine r_if_ne 92 dX12_clause_64 rfl (fun f1 => ?_) (fun f1 => ?_)
          ·
            refine r_aload_n dX12_clause_92 rfl ?_
            refine r_getIc (er.1) dX12_clause_93 fgX12_124 rfl (by exact k_167 h4.1.1) (by exact h4.2.2.1) ?_
            refine r_if_ne 105 dX12_clause_96 rfl (fun f2 => ?_) (fun f2 => ?_)
            ·
              refine r_iload dX12_clause_105 rfl ?_
              refine r_if_eq 117 dX12_clause_107 rfl (fun hz => absurd hz (by decide)) (fun _ => ?_)
              refine r_aload_n dX12_clause_110 rfl ?_
              refine r_getRc dX12_clause_111 fgX12_31 rfl (by exact k_167 h4.1.1) (by exact r_167_17 h4.1.1) ?_
              refine r_iload_n dX12_clause_114 rfl ?_
              refine r_lload_n dX12_clause_115 rfl ?_
              refine r_lastoren (wj) (nI_cl _ (by omega)) dX12_clause_116 (by exact k_179 h4.1.1) (vin (by omega) (by omega)) ?_
              refine r_aload_n dX12_clause_117 rfl ?_
              refine r_dup dX12_clause_118 rfl ?_
              refine r_getIc (nI i) dX12_clause_119 fgX12_214 rfl (by exact k_167 h4.1.1) (by exact (y4.2.1 167 9 (by omega)).trans hc9) ?_
              refine r_iconst (1) dX12_clause_122 rfl ?_
              refine r_iadd dX12_clause_123 ?_
              refine r_putI dX12_clause_124 (fpX12_214 _ rfl) rfl (by exact k_167 h4.1.1) ⟨rfl, rfl⟩ ?_
              refine r_return dX12_clause_127 rfl ?_
              have ti : ¬ 16 ≤ i := fun z => c16 (by rw [show i = 16 from by omega]; rfl)
              have hz := fun v => RE_cl (v := v) (w := wj) (c := nI (i + 1)) h4.up
              rw [nI_1]
              first
                | exact k0 er ((if_pos cw).trans ((if_neg ti).trans (rB_l her))) _ (((sy_sc y4).l (a := 179) (k := wj) (by omega) (by omega)).s (k := 9) (by unfold scS; omega) (by decide)) (hz _)
                | exact k0 ec ((if_pos cw).trans ((if_neg ti).trans ((rB_r hr).trans ((if_pos t21).trans (rB_l hec))))) _ (((sy_sc y4).l (a := 179) (k := wj) (by omega) (by omega)).s (k := 9) (by unfold scS; omega) (by decide)) (hz _)
                | exact k0 (1, c.1) ((if_pos cw).trans ((if_neg ti).trans ((rB_r hr).trans ((if_pos t21).trans ((rB_r hc).trans (if_neg (fun z => g59 ((ch_tk (by unfold isCh; decide)).mpr z)))))))) _ (((sy_sc y4).l (a := 179) (k := wj) (by omega) (by omega)).s (k := 9) (by unfold scS; omega) (by decide)) (hz _)
                | exact k0 (1, r.1) ((if_pos cw).trans ((if_neg ti).trans ((rB_r hr).trans ((if_neg t21).trans (if_neg (fun z => g59 ((ch_tk (by unfold isCh; decide)).mpr z))))))) _ (((sy_sc y4).l (a := 179) (k := wj) (by omega) (by omega)).s (k := 9) (by unfold scS; omega) (by decide)) (hz _)
            ·
              exact absurd f2 h4.2.2.2.1
          ·
            exact absurd f1 h4.2.2.2.1
        ·
          obtain ⟨a5, h5, e5⟩ := h5
          have y5 := y3.tr q5
          have hrr : rE b n isBl r.1 = r.1 := by rw [← e5]; exact rE_id
          show Wp g mX12_clause _ _ _ 56 _ (_ :: _) _ Q
          refine sl_2 dX12_clause_56 (by first | rfl | assumption) (Nat.le_of_ble_eq_true rfl) ?_
          refine r_iconst (1) dX12_clause_57 rfl ?_
          refine si_4 dX12_clause_58 (by first | rfl | assumption) (Nat.le_of_ble_eq_true rfl) ?_
          refine r_aload_n dX12_clause_60 rfl ?_
          refine r_getIc (0) dX12_clause_61 fgX12_124 rfl (by exact k_167 h5.1.1) (by exact h5.2.2.2.2.1) ?_
          refine r_if_ne 92 dX12_clause_64 rfl (fun hz => absurd hz (by decide)) (fun _ => ?_)
          refine r_aload_n dX12_clause_67 rfl ?_
          refine r_bipush (9) dX12_clause_68 rfl ?_
          refine r_bipush (6) dX12_clause_70 rfl ?_
          refine r_iconst (0) dX12_clause_72 rfl ?_
          refine r_iconst (0) dX12_clause_73 rfl ?_
          refine r_iconst (0) dX12_clause_74 rfl ?_
          refine r_iconst (0) dX12_clause_75 rfl ?_
          refine r_callV6 (ci := 12) (d1 := 3) (c1 := 0) (n1 := 0) dX12_clause_76 mvX12_159 rfl ⟨(Nat.le_of_ble_eq_true rfl), rfl⟩ (by omega) (by exact Nat.le_of_ble_eq_true rfl) (by exact k_167 h5.1.1) ?_
          refine S_isW21 h5 e5 (fun t21 m6 q6 h6 => ?_) (fun t21 m7 q7 h7 => ?_)
          ·
            have y6 := y5.tr q6
            have w21 := nx_w (i := 21) (by omega) hb t21
            show Wp g mX12_clause _ _ _ 79 _ (_ :: _) _ Q
            refine r_if_eq 92 dX12_clause_79 rfl (fun hz => absurd hz (by decide)) (fun _ => ?_)
            refine r_aload_n dX12_clause_82 rfl ?_
            refine r_callV0 (ci := 12) (d1 := 1) (c1 := 0) (n1 := 0) dX12_clause_83 mvX12_174 rfl ⟨(Nat.le_of_ble_eq_true rfl), rfl⟩ (by omega) (by exact Nat.le_of_ble_eq_true rfl) (by exact k_167 h6.1.1) ?_
            refine S_skipP h6 (fun m8 q8 h8 => ?_)
            have y8 := y6.tr q8
            show Wp g mX12_clause _ _ _ 86 _ [] _ Q
            refine r_aload_n dX12_clause_86 rfl ?_
            refine r_callV0 (ci := 12) (d1 := 29) (c1 := 0) (n1 := 0) dX12_clause_87 mvX12_201 rfl ⟨(Nat.le_of_ble_eq_true rfl), rfl⟩ (by omega) (by exact Nat.le_of_ble_eq_true rfl) (by exact k_167 h8.1.1) ?_
            refine S_rors6 _ (adP b n r.1) N _ ⟨_, h8, by unfold adP; rw [w21.1]⟩ (y8.n hN) (fun ec hec m9 v9 hv9 q9 h9 => ?_) (fun c hc m10 q10 h10 => ?_)
            ·
              have y9 := y8.tr q9
              show Wp g mX12_clause _ _ _ 90 _ (_ :: _) _ Q
              refine si_4 dX12_clause_90 (by first | rfl | assumption) (Nat.le_of_ble_eq_true rfl) ?_
              refine r_aload_n dX12_clause_92 rfl ?_
              refine r_getIc (ec.1) dX12_clause_93 fgX12_124 rfl (by exact k_167 h9.1.1) (by exact h9.2.2.1) ?_
              refine r_if_ne 105 dX12_clause_96 rfl (fun f2 => ?_) (fun f2 => ?_)
              ·
                refine r_iload dX12_clause_105 rfl ?_
                refine r_if_eq 117 dX12_clause_107 rfl (fun ch => ?_) (fun ch => ?_)
                ·
                  refine r_aload_n dX12_clause_117 rfl ?_
                  refine r_dup dX12_clause_118 rfl ?_
                  refine r_getIc (nI i) dX12_clause_119 fgX12_214 rfl (by exact k_167 h9.1.1) (by exact (y9.2.1 167 9 (by omega)).trans hc9) ?_
                  refine r_iconst (1) dX12_clause_122 rfl ?_
                  refine r_iadd dX12_clause_123 ?_
                  refine r_putI dX12_clause_124 (fpX12_214 _ rfl) rfl (by exact k_167 h9.1.1) ⟨rfl, rfl⟩ ?_
                  refine r_return dX12_clause_127 rfl ?_
                  have ti : ¬ 16 ≤ i := fun z => c16 (by rw [show i = 16 from by omega]; rfl)
                  have hz := RE_c9 (c := nI (i + 1)) h9
                  rw [nI_1]
                  first
                    | exact k0 er ((if_pos cw).trans ((if_neg ti).trans (rB_l her))) _ ((sy_sc y9).s (k := 9) (by unfold scS; omega) (by decide)) hz
                    | exact k0 ec ((if_pos cw).trans ((if_neg ti).trans ((rB_r hr).trans ((if_pos t21).trans (rB_l hec))))) _ ((sy_sc y9).s (k := 9) (by unfold scS; omega) (by decide)) hz
                    | exact k0 (1, c.1) ((if_pos cw).trans ((if_neg ti).trans ((rB_r hr).trans ((if_pos t21).trans ((rB_r hc).trans (if_neg (fun z => g59 ((ch_tk (by unfold isCh; decide)).mpr z)))))))) _ ((sy_sc y9).s (k := 9) (by unfold scS; omega) (by decide)) hz
                    | exact k0 (1, r.1) ((if_pos cw).trans ((if_neg ti).trans ((rB_r hr).trans ((if_neg t21).trans (if_neg (fun z => g59 ((ch_tk (by unfold isCh; decide)).mpr z))))))) _ ((sy_sc y9).s (k := 9) (by unfold scS; omega) (by decide)) hz
                ·
                  refine r_aload_n dX12_clause_110 rfl ?_
                  refine r_getRc dX12_clause_111 fgX12_31 rfl (by exact k_167 h9.1.1) (by exact r_167_17 h9.1.1) ?_
                  refine r_iload_n dX12_clause_114 rfl ?_
                  refine r_lload_n dX12_clause_115 rfl ?_
                  refine r_lastoren (wj) (nI_cl _ (by omega)) dX12_clause_116 (by exact k_179 h9.1.1) (vin (by omega) (by omega)) ?_
                  refine r_aload_n dX12_clause_117 rfl ?_
                  refine r_dup dX12_clause_118 rfl ?_
                  refine r_getIc (nI i) dX12_clause_119 fgX12_214 rfl (by exact k_167 h9.1.1) (by exact (y9.2.1 167 9 (by omega)).trans hc9) ?_
                  refine r_iconst (1) dX12_clause_122 rfl ?_
                  refine r_iadd dX12_clause_123 ?_
                  refine r_putI dX12_clause_124 (fpX12_214 _ rfl) rfl (by exact k_167 h9.1.1) ⟨rfl, rfl⟩ ?_
                  refine r_return dX12_clause_127 rfl ?_
                  have ti : ¬ 16 ≤ i := fun z => c16 (by rw [show i = 16 from by omega]; rfl)
                  have hz := fun v => RE_cl (v := v) (w := wj) (c := nI (i + 1)) h9
                  rw [nI_1]
                  first
                    | exact k0 er ((if_pos cw).trans ((if_neg ti).trans (rB_l her))) _ (((sy_sc y9).l (a := 179) (k := wj) (by omega) (by omega)).s (k := 9) (by unfold scS; omega) (by decide)) (hz _)
                    | exact k0 ec ((if_pos cw).trans ((if_neg ti).trans ((rB_r hr).trans ((if_pos t21).trans (rB_l hec))))) _ (((sy_sc y9).l (a := 179) (k := wj) (by omega) (by omega)).s (k := 9) (by unfold scS; omega) (by decide)) (hz _)
                    | exact k0 (1, c.1) ((if_pos cw).trans ((if_neg ti).trans ((rB_r hr).trans ((if_pos t21).trans ((rB_r hc).trans (if_neg (fun z => g59 ((ch_tk (by unfold isCh; decide)).mpr z)))))))) _ (((sy_sc y9).l (a := 179) (k := wj) (by omega) (by omega)).s (k := 9) (by unfold scS; omega) (by decide)) (hz _)
                    | exact k0 (1, r.1) ((if_pos cw).trans ((if_neg ti).trans ((rB_r hr).trans ((if_neg t21).trans (if_neg (fun z => g59 ((ch_tk (by unfold isCh; decide)).mpr z))))))) _ (((sy_sc y9).l (a := 179) (k := wj) (by omega) (by omega)).s (k := 9) (by unfold scS; omega) (by decide)) (hz _)
              ·
                exact absurd f2 h9.2.2.2.1
            ·
              obtain ⟨a10, h10, e10⟩ := h10
              have y10 := y8.tr q10
              show Wp g mX12_clause _ _ _ 90 _ (_ :: _) _ Q
              refine si_4 dX12_clause_90 (by first | rfl | assumption) (Nat.le_of_ble_eq_true rfl) ?_
              refine r_aload_n dX12_clause_92 rfl ?_
              refine r_getIc (0) dX12_clause_93 fgX12_124 rfl (by exact k_167 h10.1.1) (by exact h10.2.2.2.2.1) ?_
              refine r_if_ne 105 dX12_clause_96 rfl (fun hz => absurd hz (by decide)) (fun _ => ?_)
              refine r_aload_n dX12_clause_99 rfl ?_
              refine r_bipush (59) dX12_clause_100 rfl ?_
              refine r_callV1 (ci := 12) (d1 := 2) (c1 := 0) (n1 := 0) dX12_clause_102 mvX12_184 rfl ⟨(Nat.le_of_ble_eq_true rfl), rfl⟩ (by omega) (by exact Nat.le_of_ble_eq_true rfl) (by exact k_167 h10.1.1) ?_
              refine S_signP h10 (by decide) (fun g59 m11 q11 h11 => ?_) (fun g59 m12 q12 h12 => ?_)
              ·
                have y11 := y10.tr q11
                rw [e10] at g59 h11
                show Wp g mX12_clause _ _ _ 105 _ [] _ Q
                refine r_iload dX12_clause_105 rfl ?_
                refine r_if_eq 117 dX12_clause_107 rfl (fun ch => ?_) (fun ch => ?_)
                ·
                  refine r_aload_n dX12_clause_117 rfl ?_
                  refine r_dup dX12_clause_118 rfl ?_
                  refine r_getIc (nI i) dX12_clause_119 fgX12_214 rfl (by exact k_167 h11.1.1) (by exact (y11.2.1 167 9 (by omega)).trans hc9) ?_
                  refine r_iconst (1) dX12_clause_122 rfl ?_
                  refine r_iadd dX12_clause_123 ?_
                  refine r_putI dX12_clause_124 (fpX12_214 _ rfl) rfl (by exact k_167 h11.1.1) ⟨rfl, rfl⟩ ?_
                  refine r_return dX12_clause_127 rfl ?_
                  have ti : ¬ 16 ≤ i := fun z => c16 (by rw [show i = 16 from by omega]; rfl)
                  rw [nI_1]
                  have g9 := (ch_tk (c := 59) (by unfold isCh; decide)).mp g59
                  have n9 := nx_ch (c := 59) (by unfold isCh; decide) g59
                  refine k1 (adP b n c.1, r.2.1 ++ c.2.1 ++ [wrd b n s * 512 + 4], wrd b n s, r.2.2, c.2.2) ((if_pos cw).trans ((if_neg ti).trans ((rB_r hr).trans ((if_pos t21).trans ((rB_r hc).trans (if_pos g9)))))) _ ((sy_sc y11).s (k := 9) (by unfold scS; omega) (by decide)) ⟨_, RP_c9 h11, congrArg (rE b n isBl) n9.2.symm⟩ (y11.n hN) (ld_n (by decide) ((y11.2.1 167 15 (by omega)).trans hw)) ld_s (fun j hj => ?_)
                  dsimp only; rw [wd, nI_cl wj (by omega)]
                  unfold tlU
                  have nz : c.2.2 (cut N) = 0 := Classical.byContradiction (fun q => absurd ((if_neg q).symm.trans ch) (by decide))
                  rw [if_neg (fun z => z.2 nz)]; exact y11.2.2 179 j (by decide)
                ·
                  refine r_aload_n dX12_clause_110 rfl ?_
                  refine r_getRc dX12_clause_111 fgX12_31 rfl (by exact k_167 h11.1.1) (by exact r_167_17 h11.1.1) ?_
                  refine r_iload_n dX12_clause_114 rfl ?_
                  refine r_lload_n dX12_clause_115 rfl ?_
                  refine r_lastoren (wj) (nI_cl _ (by omega)) dX12_clause_116 (by exact k_179 h11.1.1) (vin (by omega) (by omega)) ?_
                  refine r_aload_n dX12_clause_117 rfl ?_
                  refine r_dup dX12_clause_118 rfl ?_
                  refine r_getIc (nI i) dX12_clause_119 fgX12_214 rfl (by exact k_167 h11.1.1) (by exact (y11.2.1 167 9 (by omega)).trans hc9) ?_
                  refine r_iconst (1) dX12_clause_122 rfl ?_
                  refine r_iadd dX12_clause_123 ?_
                  refine r_putI dX12_clause_124 (fpX12_214 _ rfl) rfl (by exact k_167 h11.1.1) ⟨rfl, rfl⟩ ?_
                  refine r_return dX12_clause_127 rfl ?_
                  have ti : ¬ 16 ≤ i := fun z => c16 (by rw [show i = 16 from by omega]; rfl)
                  rw [nI_1]
                  have g9 := (ch_tk (c := 59) (by unfold isCh; decide)).mp g59
                  have n9 := nx_ch (c := 59) (by unfold isCh; decide) g59
                  refine k1 (adP b n c.1, r.2.1 ++ c.2.1 ++ [wrd b n s * 512 + 4], wrd b n s, r.2.2, c.2.2) ((if_pos cw).trans ((if_neg ti).trans ((rB_r hr).trans ((if_pos t21).trans ((rB_r hc).trans (if_pos g9)))))) _ (((sy_sc y11).l (a := 179) (k := wj) (by omega) (by omega)).s (k := 9) (by unfold scS; omega) (by decide)) ⟨_, RP_cl h11, congrArg (rE b n isBl) n9.2.symm⟩ (fun j hj => ll178.trans (y11.n hN j hj)) (ld_n (by decide) ((y11.2.1 167 15 (by omega)).trans hw)) ld_s (fun j hj => ?_)
                  dsimp only; rw [wd, nI_cl wj (by omega)]
                  unfold tlU
                  have nz : ¬ c.2.2 (cut N) = 0 := fun q => ch (if_pos q)
                  by_cases qj : j = wj
                  · subst qj; rw [if_pos ⟨rfl, nz⟩]; exact if_pos ⟨rfl, rfl⟩
                  · rw [if_neg (fun z => qj z.1)]; exact (if_neg (fun z => qj z.2)).trans (y11.2.2 179 j (by decide))
              ·
                have y12 := y10.tr q12
                rw [e10] at g59 h12
                show Wp g mX12_clause _ _ _ 105 _ [] _ Q
                refine r_iload dX12_clause_105 rfl ?_
                refine r_if_eq 117 dX12_clause_107 rfl (fun ch => ?_) (fun ch => ?_)
                ·
                  refine r_aload_n dX12_clause_117 rfl ?_
                  refine r_dup dX12_clause_118 rfl ?_
                  refine r_getIc (nI i) dX12_clause_119 fgX12_214 rfl (by exact k_167 h12.1.1) (by exact (y12.2.1 167 9 (by omega)).trans hc9) ?_
                  refine r_iconst (1) dX12_clause_122 rfl ?_
                  refine r_iadd dX12_clause_123 ?_
                  refine r_putI dX12_clause_124 (fpX12_214 _ rfl) rfl (by exact k_167 h12.1.1) ⟨rfl, rfl⟩ ?_
                  refine r_return dX12_clause_127 rfl ?_
                  have ti : ¬ 16 ≤ i := fun z => c16 (by rw [show i = 16 from by omega]; rfl)
                  have hz := RE_c9 (c := nI (i + 1)) h12.up
                  rw [nI_1]
                  first
                    | exact k0 er ((if_pos cw).trans ((if_neg ti).trans (rB_l her))) _ ((sy_sc y12).s (k := 9) (by unfold scS; omega) (by decide)) hz
                    | exact k0 ec ((if_pos cw).trans ((if_neg ti).trans ((rB_r hr).trans ((if_pos t21).trans (rB_l hec))))) _ ((sy_sc y12).s (k := 9) (by unfold scS; omega) (by decide)) hz
                    | exact k0 (1, c.1) ((if_pos cw).trans ((if_neg ti).trans ((rB_r hr).trans ((if_pos t21).trans ((rB_r hc).trans (if_neg (fun z => g59 ((ch_tk (by unfold isCh; decide)).mpr z)))))))) _ ((sy_sc y12).s (k := 9) (by unfold scS; omega) (by decide)) hz
                    | exact k0 (1, r.1) ((if_pos cw).trans ((if_neg ti).trans ((rB_r hr).trans ((if_neg t21).trans (if_neg (fun z => g59 ((ch_tk (by unfold isCh; decide)).mpr z))))))) _ ((sy_sc y12).s (k := 9) (by unfold scS; omega) (by decide)) hz
                ·
                  refine r_aload_n dX12_clause_110 rfl ?_
                  refine r_getRc dX12_clause_111 fgX12_31 rfl (by exact k_167 h12.1.1) (by exact r_167_17 h12.1.1) ?_
                  refine r_iload_n dX12_clause_114 rfl ?_
                  refine r_lload_n dX12_clause_115 rfl ?_
                  refine r_lastoren (wj) (nI_cl _ (by omega)) dX12_clause_116 (by exact k_179 h12.1.1) (vin (by omega) (by omega)) ?_
                  refine r_aload_n dX12_clause_117 rfl ?_
                  refine r_dup dX12_clause_118 rfl ?_
                  refine r_getIc (nI i) dX12_clause_119 fgX12_214 rfl (by exact k_167 h12.1.1) (by exact (y12.2.1 167 9 (by omega)).trans hc9) ?_
                  refine r_iconst (1) dX12_clause_122 rfl ?_
                  refine r_iadd dX12_clause_123 ?_
                  refine r_putI dX12_clause_124 (fpX12_214 _ rfl) rfl (by exact k_167 h12.1.1) ⟨rfl, rfl⟩ ?_
                  refine r_return dX12_clause_127 rfl ?_
                  have ti : ¬ 16 ≤ i := fun z => c16 (by rw [show i = 16 from by omega]; rfl)
                  have hz := fun v => RE_cl (v := v) (w := wj) (c := nI (i + 1)) h12.up
                  rw [nI_1]
                  first
                    | exact k0 er ((if_pos cw).trans ((if_neg ti).trans (rB_l her))) _ (((sy_sc y12).l (a := 179) (k := wj) (by omega) (by omega)).s (k := 9) (by unfold scS; omega) (by decide)) (hz _)
                    | exact k0 ec ((if_pos cw).trans ((if_neg ti).trans ((rB_r hr).trans ((if_pos t21).trans (rB_l hec))))) _ (((sy_sc y12).l (a := 179) (k := wj) (by omega) (by omega)).s (k := 9) (by unfold scS; omega) (by decide)) (hz _)
                    | exact k0 (1, c.1) ((if_pos cw).trans ((if_neg ti).trans ((rB_r hr).trans ((if_pos t21).trans ((rB_r hc).trans (if_neg (fun z => g59 ((ch_tk (by unfold isCh; decide)).mpr z)))))))) _ (((sy_sc y12).l (a := 179) (k := wj) (by omega) (by omega)).s (k := 9) (by unfold scS; omega) (by decide)) (hz _)
                    | exact k0 (1, r.1) ((if_pos cw).trans ((if_neg ti).trans ((rB_r hr).trans ((if_neg t21).trans (if_neg (fun z => g59 ((ch_tk (by unfold isCh; decide)).mpr z))))))) _ (((sy_sc y12).l (a := 179) (k := wj) (by omega) (by omega)).s (k := 9) (by unfold scS; omega) (by decide)) (hz _)
          ·
            have y7 := y5.tr q7
            show Wp g mX12_clause _ _ _ 79 _ (_ :: _) _ Q
            refine r_if_eq 92 dX12_clause_79 rfl (fun _ => ?_) (fun hz => absurd hz (by decide))
            refine r_aload_n dX12_clause_92 rfl ?_
            refine r_getIc (0) dX12_clause_93 fgX12_124 rfl (by exact k_167 h7.1.1) (by exact h7.2.2.2.2.1) ?_
            refine r_if_ne 105 dX12_clause_96 rfl (fun hz => absurd hz (by decide)) (fun _ => ?_)
            refine r_aload_n dX12_clause_99 rfl ?_
            refine r_bipush (59) dX12_clause_100 rfl ?_
            refine r_callV1 (ci := 12) (d1 := 2) (c1 := 0) (n1 := 0) dX12_clause_102 mvX12_184 rfl ⟨(Nat.le_of_ble_eq_true rfl), rfl⟩ (by omega) (by exact Nat.le_of_ble_eq_true rfl) (by exact k_167 h7.1.1) ?_
            refine S_signP h7 (by decide) (fun g59 m13 q13 h13 => ?_) (fun g59 m14 q14 h14 => ?_)
            ·
              have y13 := y7.tr q13
              rw [hrr] at g59 h13
              show Wp g mX12_clause _ _ _ 105 _ [] _ Q
              refine r_iload dX12_clause_105 rfl ?_
              refine r_if_eq 117 dX12_clause_107 rfl (fun hz => absurd hz (by decide)) (fun _ => ?_)
              refine r_aload_n dX12_clause_110 rfl ?_
              refine r_getRc dX12_clause_111 fgX12_31 rfl (by exact k_167 h13.1.1) (by exact r_167_17 h13.1.1) ?_
              refine r_iload_n dX12_clause_114 rfl ?_
              refine r_lload_n dX12_clause_115 rfl ?_
              refine r_lastoren (wj) (nI_cl _ (by omega)) dX12_clause_116 (by exact k_179 h13.1.1) (vin (by omega) (by omega)) ?_
              refine r_aload_n dX12_clause_117 rfl ?_
              refine r_dup dX12_clause_118 rfl ?_
              refine r_getIc (nI i) dX12_clause_119 fgX12_214 rfl (by exact k_167 h13.1.1) (by exact (y13.2.1 167 9 (by omega)).trans hc9) ?_
              refine r_iconst (1) dX12_clause_122 rfl ?_
              refine r_iadd dX12_clause_123 ?_
              refine r_putI dX12_clause_124 (fpX12_214 _ rfl) rfl (by exact k_167 h13.1.1) ⟨rfl, rfl⟩ ?_
              refine r_return dX12_clause_127 rfl ?_
              have ti : ¬ 16 ≤ i := fun z => c16 (by rw [show i = 16 from by omega]; rfl)
              rw [nI_1]
              have g9 := (ch_tk (c := 59) (by unfold isCh; decide)).mp g59
              have n9 := nx_ch (c := 59) (by unfold isCh; decide) g59
              refine k1 (adP b n r.1, r.2.1 ++ [wrd b n s * 512 + 3], wrd b n s, r.2.2, fun _ => 1) ((if_pos cw).trans ((if_neg ti).trans ((rB_r hr).trans ((if_neg t21).trans (if_pos g9))))) _ (((sy_sc y13).l (a := 179) (k := wj) (by omega) (by omega)).s (k := 9) (by unfold scS; omega) (by decide)) ⟨_, RP_cl h13, congrArg (rE b n isBl) n9.2.symm⟩ (fun j hj => ll178.trans (y13.n hN j hj)) (ld_n (by decide) ((y13.2.1 167 15 (by omega)).trans hw)) ld_s (fun j hj => ?_)
              dsimp only; rw [wd, nI_cl wj (by omega)]
              unfold tlU
              have nz : ¬ (1 : Int64) = 0 := by decide
              by_cases qj : j = wj
              · subst qj; rw [if_pos ⟨rfl, nz⟩]; exact if_pos ⟨rfl, rfl⟩
              · rw [if_neg (fun z => qj z.1)]; exact (if_neg (fun z => qj z.2)).trans (y13.2.2 179 j (by decide))
            ·
              have y14 := y7.tr q14
              rw [hrr] at g59 h14
              show Wp g mX12_clause _ _ _ 105 _ [] _ Q
              refine r_iload dX12_clause_105 rfl ?_
              refine r_if_eq 117 dX12_clause_107 rfl (fun hz => absurd hz (by decide)) (fun _ => ?_)
              refine r_aload_n dX12_clause_110 rfl ?_
              refine r_getRc dX12_clause_111 fgX12_31 rfl (by exact k_167 h14.1.1) (by exact r_167_17 h14.1.1) ?_
              refine r_iload_n dX12_clause_114 rfl ?_
              refine r_lload_n dX12_clause_115 rfl ?_
              refine r_lastoren (wj) (nI_cl _ (by omega)) dX12_clause_116 (by exact k_179 h14.1.1) (vin (by omega) (by omega)) ?_
              refine r_aload_n dX12_clause_117 rfl ?_
              refine r_dup dX12_clause_118 rfl ?_
              refine r_getIc (nI i) dX12_clause_119 fgX12_214 rfl (by exact k_167 h14.1.1) (by exact (y14.2.1 167 9 (by omega)).trans hc9) ?_
              refine r_iconst (1) dX12_clause_122 rfl ?_
              refine r_iadd dX12_clause_123 ?_
              refine r_putI dX12_clause_124 (fpX12_214 _ rfl) rfl (by exact k_167 h14.1.1) ⟨rfl, rfl⟩ ?_
              refine r_return dX12_clause_127 rfl ?_
              have ti : ¬ 16 ≤ i := fun z => c16 (by rw [show i = 16 from by omega]; rfl)
              have hz := fun v => RE_cl (v := v) (w := wj) (c := nI (i + 1)) h14.up
              rw [nI_1]
              first
                | exact k0 er ((if_pos cw).trans ((if_neg ti).trans (rB_l her))) _ (((sy_sc y14).l (a := 179) (k := wj) (by omega) (by omega)).s (k := 9) (by unfold scS; omega) (by decide)) (hz _)
                | exact k0 ec ((if_pos cw).trans ((if_neg ti).trans ((rB_r hr).trans ((if_pos t21).trans (rB_l hec))))) _ (((sy_sc y14).l (a := 179) (k := wj) (by omega) (by omega)).s (k := 9) (by unfold scS; omega) (by decide)) (hz _)
                | exact k0 (1, c.1) ((if_pos cw).trans ((if_neg ti).trans ((rB_r hr).trans ((if_pos t21).trans ((rB_r hc).trans (if_neg (fun z => g59 ((ch_tk (by unfold isCh; decide)).mpr z)))))))) _ (((sy_sc y14).l (a := 179) (k := wj) (by omega) (by omega)).s (k := 9) (by unfold scS; omega) (by decide)) (hz _)
                | exact k0 (1, r.1) ((if_pos cw).trans ((if_neg ti).trans ((rB_r hr).trans ((if_neg t21).trans (if_neg (fun z => g59 ((ch_tk (by unfold isCh; decide)).mpr z))))))) _ (((sy_sc y14).l (a := 179) (k := wj) (by omega) (by omega)).s (k := 9) (by unfold scS; omega) (by decide)) (hz _)
      ·
        refine r_aload_n dX12_clause_31 rfl ?_
        refine r_iconst (3) dX12_clause_32 rfl ?_
        refine r_aload_n dX12_clause_33 rfl ?_
        refine r_getIc (nI s) dX12_clause_34 fgX12_117 rfl (by exact k_167 h1.1.1) (by exact h1.2.1) ?_
        refine r_callV2 (ci := 12) (d1 := 0) (c1 := 0) (n1 := 0) dX12_clause_37 mvX12_141 rfl ⟨(Nat.le_of_ble_eq_true rfl), rfl⟩ (by omega) (by exact Nat.le_of_ble_eq_true rfl) (by exact k_167 h1.1.1) ?_
        refine S_wrongP h1 (by decide) (fun m15 q15 h15 => ?_)
        have y15 := y1.tr q15
        show Wp g mX12_clause _ _ _ 40 _ [] _ Q
        refine r_aload_n dX12_clause_40 rfl ?_
        refine r_getIc (((3, s) : Er).1) dX12_clause_41 fgX12_124 rfl (by exact k_167 h15.1.1) (by exact h15.2.2.1) ?_
        refine r_if_eq 48 dX12_clause_44 rfl (fun f0 => ?_) (fun f0 => ?_)
        ·
          exact absurd f0 h15.2.2.2.1
        ·
          refine r_return dX12_clause_47 rfl ?_
          exact k0 (3, s) ((if_pos cw).trans (if_pos (by have := (nI_eq (b := 16) (by omega) (by omega)).mp c16; omega))) m15 (sy_sc y15) h15.up
    ·
      exact absurd wq hne
  ·
    have y2 := q2
    show Wp g mX12_clause _ _ _ 4 _ (_ :: _) _ Q
    refine si_1 dX12_clause_4 (by first | rfl | assumption) (Nat.le_of_ble_eq_true rfl) ?_
    refine r_iload_n dX12_clause_5 rfl ?_
    refine r_iconst (-1) dX12_clause_6 rfl ?_
    refine r_icmp_ne 22 dX12_clause_7 rfl (fun hz => absurd hz (by decide)) (fun _ => ?_)
    refine r_aload_n dX12_clause_10 rfl ?_
    refine r_iconst (1) dX12_clause_11 rfl ?_
    refine r_aload_n dX12_clause_12 rfl ?_
    refine r_getIc (nI s) dX12_clause_13 fgX12_117 rfl (by exact k_167 h2.1.1) (by exact h2.2.1) ?_
    refine r_callV2 (ci := 12) (d1 := 0) (c1 := 0) (n1 := 0) dX12_clause_16 mvX12_141 rfl ⟨(Nat.le_of_ble_eq_true rfl), rfl⟩ (by omega) (by exact Nat.le_of_ble_eq_true rfl) (by exact k_167 h2.1.1) ?_
    refine S_wrongP h2 (by decide) (fun m16 q16 h16 => ?_)
    have y16 := y2.tr q16
    show Wp g mX12_clause _ _ _ 19 _ [] _ Q
    refine r_goto 40 dX12_clause_19 rfl ?_
    refine r_aload_n dX12_clause_40 rfl ?_
    refine r_getIc (((1, s) : Er).1) dX12_clause_41 fgX12_124 rfl (by exact k_167 h16.1.1) (by exact h16.2.2.1) ?_
    refine r_if_eq 48 dX12_clause_44 rfl (fun f0 => ?_) (fun f0 => ?_)
    ·
      exact absurd f0 h16.2.2.2.1
    ·
      refine r_return dX12_clause_47 rfl ?_
      exact k0 (1, s) (if_neg wn) m16 (sy_sc y16) h16.up
