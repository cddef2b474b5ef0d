theorem S_test0 {g : GG} {b : Nat → Int32} {n d d3 : Nat} (hd : 7 ≤ d) (h3 : d3 + 1 ≤ d) (hC : NtOK g b n mX4_readComparison [] 6 d3 (cmpP b n (sumP b n 0))) : NtOK g b n mX4_readTest [] 6 d (tesP b n 0) := by
  intro m s L Q h hl k0 k1
  refine Cl.of rfl (by decide) (Nat.le_of_ble_eq_true rfl) ?_
  show Wp g mX4_readTest d 0 0 0 [.ref 152] [] m Q
  have hn4 := h.1.2.1
  have hsn := h.2.1
  refine r_aload_n dX4_readTest_0 rfl ?_
  refine r_getIc (tkP b n s) dX4_readTest_1 fgX4_55 rfl (by exact k_152 h.F) (by exact h.tk) ?_
  refine r_sipush (280) dX4_readTest_4 rfl ?_
  refine r_icmp_ne 46 dX4_readTest_7 rfl (fun t1 => ?_) (fun t1 => ?_)
  ·
    refine r_aload_n dX4_readTest_46 rfl ?_
    refine r_getIc (tkP b n s) dX4_readTest_47 fgX4_55 rfl (by exact k_152 h.F) (by exact h.tk) ?_
    refine r_bipush (91) dX4_readTest_50 rfl ?_
    refine r_icmp_ne 90 dX4_readTest_52 rfl (fun t2 => ?_) (fun t2 => ?_)
    ·
      refine r_aload_n dX4_readTest_90 rfl ?_
      refine r_callV0 (ci := 4) (d1 := d3) (c1 := 0) (n1 := 0) dX4_readTest_91 mvX4_108 rfl ⟨(Nat.le_of_ble_eq_true rfl), rfl⟩ (by omega) (by exact Nat.le_of_ble_eq_true rfl) (by exact k_152 h.F) ?_
      refine hC _ _ _ _ h hl (fun er her m1 q1 h1 => ?_) (fun r hr m2 q2 h2 => ?_)
      ·
        have o1 := q1
        show Wp g mX4_readTest _ _ _ 94 _ [] _ Q
        refine r_return dX4_readTest_94 rfl ?_
        exact k0 er ((if_neg t1).trans ((if_neg t2).trans her)) _ o1 h1
      ·
        have o2 := q2
        show Wp g mX4_readTest _ _ _ 94 _ [] _ Q
        refine r_return dX4_readTest_94 rfl ?_
        exact k1 r ((if_neg t1).trans ((if_neg t2).trans hr)) _ o2 h2
    ·
      refine r_aload_n dX4_readTest_55 rfl ?_
      refine r_callV0 (ci := 4) (d1 := 1) (c1 := 0) (n1 := 0) dX4_readTest_56 mvX4_104 rfl ⟨(Nat.le_of_ble_eq_true rfl), rfl⟩ (by omega) (by exact Nat.le_of_ble_eq_true rfl) (by exact k_152 h.F) ?_
      refine S_opensS h (by omega) (fun ho1 => absurd ho1 (by omega)) (fun ho6 m3 q3 h3 => ?_)
      have o3 := q3
      show Wp g mX4_readTest _ _ _ 59 _ (_ :: _) _ Q
      refine r_if_eq 94 dX4_readTest_59 rfl (fun _ => ?_) (fun hz => absurd hz (by decide))
      refine r_return dX4_readTest_94 rfl ?_
      exact k0 (3, s) ((if_neg t1).trans (if_pos t2)) _ o3 h3
  ·
    refine r_aload_n dX4_readTest_10 rfl ?_
    refine r_callV0 (ci := 4) (d1 := 1) (c1 := 0) (n1 := 0) dX4_readTest_11 mvX4_104 rfl ⟨(Nat.le_of_ble_eq_true rfl), rfl⟩ (by omega) (by exact Nat.le_of_ble_eq_true rfl) (by exact k_152 h.F) ?_
    refine S_opensS h (by omega) (fun ho1 => absurd ho1 (by omega)) (fun ho6 m4 q4 h4 => ?_)
    have o4 := q4
    show Wp g mX4_readTest _ _ _ 14 _ (_ :: _) _ Q
    refine r_if_eq 94 dX4_readTest_14 rfl (fun _ => ?_) (fun hz => absurd hz (by decide))
    refine r_return dX4_readTest_94 rfl ?_
    exact k0 (3, s) (if_pos t1) _ o4 h4
theorem S_testS {g : GG} {b : Nat → Int32} {n o u d d1 d2 d3 : Nat} (hd : 8 ≤ d) (ho5 : o < 6) (h1d : d1 + 1 ≤ d) (h2d : d2 + 1 ≤ d) (h3 : d3 + 1 ≤ d) (hT : NtOK g b n mX4_readTest [] (o + 1) d1 (tesP b n u)) (hO : NtOK g b n mX4_readChain [.int 0] (o + 1) d2 (orsP b n u)) (hC : NtOK g b n mX4_readComparison [] o d3 (cmpP b n (sumP b n (u + 1)))) : NtOK g b n mX4_readTest [] o d (tesP b n (u + 1)) := by
  intro m s L Q h hl k0 k1
  have ho : o ≤ 6 := by omega
  refine Cl.of rfl (by decide) (Nat.le_of_ble_eq_true rfl) ?_
  show Wp g mX4_readTest d 0 0 0 [.ref 152] [] m Q
  have hn4 := h.1.2.1
  have hsn := h.2.1
  refine r_aload_n dX4_readTest_0 rfl ?_
  refine r_getIc (tkP b n s) dX4_readTest_1 fgX4_55 rfl (by exact k_152 h.F) (by exact h.tk) ?_
  refine r_sipush (280) dX4_readTest_4 rfl ?_
  refine r_icmp_ne 46 dX4_readTest_7 rfl (fun t1 => ?_) (fun t1 => ?_)
  ·
    refine r_aload_n dX4_readTest_46 rfl ?_
    refine r_getIc (tkP b n s) dX4_readTest_47 fgX4_55 rfl (by exact k_152 h.F) (by exact h.tk) ?_
    refine r_bipush (91) dX4_readTest_50 rfl ?_
    refine r_icmp_ne 90 dX4_readTest_52 rfl (fun t2 => ?_) (fun t2 => ?_)
    ·
      refine r_aload_n dX4_readTest_90 rfl ?_
      refine r_callV0 (ci := 4) (d1 := d3) (c1 := 0) (n1 := 0) dX4_readTest_91 mvX4_108 rfl ⟨(Nat.le_of_ble_eq_true rfl), rfl⟩ (by omega) (by exact Nat.le_of_ble_eq_true rfl) (by exact k_152 h.F) ?_
      refine hC _ _ _ _ h hl (fun er her m1 q1 h1 => ?_) (fun r hr m2 q2 h2 => ?_)
      ·
        have o1 := q1
        show Wp g mX4_readTest _ _ _ 94 _ [] _ Q
        refine r_return dX4_readTest_94 rfl ?_
        exact k0 er ((if_neg t1).trans ((if_neg t2).trans her)) _ o1 h1
      ·
        have o2 := q2
        show Wp g mX4_readTest _ _ _ 94 _ [] _ Q
        refine r_return dX4_readTest_94 rfl ?_
        exact k1 r ((if_neg t1).trans ((if_neg t2).trans hr)) _ o2 h2
    ·
      have w := ad_of t2 (by decide)
      refine r_aload_n dX4_readTest_55 rfl ?_
      refine r_callV0 (ci := 4) (d1 := 1) (c1 := 0) (n1 := 0) dX4_readTest_56 mvX4_104 rfl ⟨(Nat.le_of_ble_eq_true rfl), rfl⟩ (by omega) (by exact Nat.le_of_ble_eq_true rfl) (by exact k_152 h.F) ?_
      refine S_opensS h ho (fun ho1 m3 q3 h3 => ?_) (fun ho6 => absurd ho6 (by omega))
      have o3 := q3
      show Wp g mX4_readTest _ _ _ 59 _ (_ :: _) _ Q
      refine r_if_eq 94 dX4_readTest_59 rfl (fun hz => absurd hz (by decide)) (fun _ => ?_)
      refine r_aload_n dX4_readTest_62 rfl ?_
      refine r_callV0 (ci := 4) (d1 := 6) (c1 := 0) (n1 := 0) dX4_readTest_63 mvX4_52 rfl ⟨(Nat.le_of_ble_eq_true rfl), rfl⟩ (by omega) (by exact Nat.le_of_ble_eq_true rfl) (by exact k_152 h3.F) ?_
      refine S_advS h3 (fun m4 q4 h4 => ?_)
      have o4 := (o3 : Off 152 153 m _).tr q4
      show Wp g mX4_readTest _ _ _ 66 _ [] _ Q
      refine r_aload_n dX4_readTest_66 rfl ?_
      refine r_iconst (0) dX4_readTest_67 rfl ?_
      refine r_callV1 (ci := 4) (d1 := d2) (c1 := 0) (n1 := 0) dX4_readTest_68 mvX4_81 rfl ⟨(Nat.le_of_ble_eq_true rfl), rfl⟩ (by omega) (by exact Nat.le_of_ble_eq_true rfl) (by exact k_152 h4.F) ?_
      refine hO _ _ _ _ h4 (by omega) (fun er her m5 q5 h5 => ?_) (fun r hr m6 q6 h6 => ?_)
      ·
        have o5 := (o4 : Off 152 153 m _).tr q5
        show Wp g mX4_readTest _ _ _ 71 _ [] _ Q
        refine r_aload_n dX4_readTest_71 rfl ?_
        refine r_bipush (93) dX4_readTest_72 rfl ?_
        refine r_callV1 (ci := 4) (d1 := 7) (c1 := 0) (n1 := 0) dX4_readTest_74 mvX4_84 rfl ⟨(Nat.le_of_ble_eq_true rfl), rfl⟩ (by omega) (by exact Nat.le_of_ble_eq_true rfl) (by exact k_152 h5.F) ?_
        refine S_takeB h5 (by decide) (fun m7 q7 h7 => ?_)
        have o7 := (o5 : Off 152 153 m _).tr q7
        show Wp g mX4_readTest _ _ _ 77 _ [] _ Q
        refine r_aload_n dX4_readTest_77 rfl ?_
        refine r_dup dX4_readTest_78 rfl ?_
        refine r_getIc (nI (o + 1)) dX4_readTest_79 fgX4_43 rfl (by exact k_152 h7.F) (by exact h7.2.2.1) ?_
        refine r_iconst (1) dX4_readTest_82 rfl ?_
        refine r_isub dX4_readTest_83 ?_
        refine r_putI dX4_readTest_84 (fpX4_43 _ rfl) rfl (by exact k_152 h7.F) ⟨rfl, rfl⟩ ?_
        rw [nI_p1]
        have h8 := h7.st8 o
        have o8 := o7.tr (oft8 (v := nI o))
        refine r_goto 94 dX4_readTest_87 rfl ?_
        refine r_return dX4_readTest_94 rfl ?_
        first
          | exact k0 er ((if_neg t1).trans ((if_pos t2).trans (rB_l her))) _ o8 h8
          | exact k0 (1, r.1) ((if_neg t1).trans ((if_pos t2).trans ((rB_r hr).trans (if_neg t74)))) _ o8 h8
      ·
        have o6 := (o4 : Off 152 153 m _).tr q6
        show Wp g mX4_readTest _ _ _ 71 _ [] _ Q
        refine r_aload_n dX4_readTest_71 rfl ?_
        refine r_bipush (93) dX4_readTest_72 rfl ?_
        refine r_callV1 (ci := 4) (d1 := 7) (c1 := 0) (n1 := 0) dX4_readTest_74 mvX4_84 rfl ⟨(Nat.le_of_ble_eq_true rfl), rfl⟩ (by omega) (by exact Nat.le_of_ble_eq_true rfl) (by exact k_152 h6.F) ?_
        refine S_takeS h6 (fun t74 m9 q9 h9 => ?_) (fun t74 m10 q10 h10 => ?_)
        ·
          have o9 := (o6 : Off 152 153 m _).tr q9
          show Wp g mX4_readTest _ _ _ 77 _ [] _ Q
          refine r_aload_n dX4_readTest_77 rfl ?_
          refine r_dup dX4_readTest_78 rfl ?_
          refine r_getIc (nI (o + 1)) dX4_readTest_79 fgX4_43 rfl (by exact k_152 h9.F) (by exact h9.2.2.2.1) ?_
          refine r_iconst (1) dX4_readTest_82 rfl ?_
          refine r_isub dX4_readTest_83 ?_
          refine r_putI dX4_readTest_84 (fpX4_43 _ rfl) rfl (by exact k_152 h9.F) ⟨rfl, rfl⟩ ?_
          rw [nI_p1]
          have h11 := h9.st8 o
          have o11 := o9.tr (oft8 (v := nI o))
          refine r_goto 94 dX4_readTest_87 rfl ?_
          refine r_return dX4_readTest_94 rfl ?_
          exact k1 (adP b n r.1, r.2.1, r.2.2) ((if_neg t1).trans ((if_pos t2).trans ((rB_r hr).trans (if_pos t74)))) _ o11 h11
        ·
          have o10 := (o6 : Off 152 153 m _).tr q10
          show Wp g mX4_readTest _ _ _ 77 _ [] _ Q
          refine r_aload_n dX4_readTest_77 rfl ?_
          refine r_dup dX4_readTest_78 rfl ?_
          refine r_getIc (nI (o + 1)) dX4_readTest_79 fgX4_43 rfl (by exact k_152 h10.F) (by exact h10.2.2.1) ?_
          refine r_iconst (1) dX4_readTest_82 rfl ?_
          refine r_isub dX4_readTest_83 ?_
          refine r_putI dX4_readTest_84 (fpX4_43 _ rfl) rfl (by exact k_152 h10.F) ⟨rfl, rfl⟩ ?_
          rw [nI_p1]
          have h12 := h10.st8 o
          have o12 := o10.tr (oft8 (v := nI o))
          refine r_goto 94 dX4_readTest_87 rfl ?_
          refine r_return dX4_readTest_94 rfl ?_
          first
            | exact k0 er ((if_neg t1).trans ((if_pos t2).trans (rB_l her))) _ o12 h12
            | exact k0 (1, r.1) ((if_neg t1).trans ((if_pos t2).trans ((rB_r hr).trans (if_neg t74)))) _ o12 h12
  ·
    have w := ad_of t1 (by decide)
    refine r_aload_n dX4_readTest_10 rfl ?_
    refine r_callV0 (ci := 4) (d1 := 1) (c1 := 0) (n1 := 0) dX4_readTest_11 mvX4_104 rfl ⟨(Nat.le_of_ble_eq_true rfl), rfl⟩ (by omega) (by exact Nat.le_of_ble_eq_true rfl) (by exact k_152 h.F) ?_
    refine S_opensS h ho (fun ho1 m13 q13 h13 => ?_) (fun ho6 => absurd ho6 (by omega))
    have o13 := q13
    show Wp g mX4_readTest _ _ _ 14 _ (_ :: _) _ Q
    refine r_if_eq 94 dX4_readTest_14 rfl (fun hz => absurd hz (by decide)) (fun _ => ?_)
    refine r_aload_n dX4_readTest_17 rfl ?_
    refine r_callV0 (ci := 4) (d1 := 6) (c1 := 0) (n1 := 0) dX4_readTest_18 mvX4_52 rfl ⟨(Nat.le_of_ble_eq_true rfl), rfl⟩ (by omega) (by exact Nat.le_of_ble_eq_true rfl) (by exact k_152 h13.F) ?_
    refine S_advS h13 (fun m14 q14 h14 => ?_)
    have o14 := (o13 : Off 152 153 m _).tr q14
    show Wp g mX4_readTest _ _ _ 21 _ [] _ Q
    refine r_aload_n dX4_readTest_21 rfl ?_
    refine r_callV0 (ci := 4) (d1 := d1) (c1 := 0) (n1 := 0) dX4_readTest_22 mvX4_98 rfl ⟨(Nat.le_of_ble_eq_true rfl), rfl⟩ (by omega) (by exact Nat.le_of_ble_eq_true rfl) (by exact k_152 h14.F) ?_
    refine hT _ _ _ _ h14 (by omega) (fun er her m15 q15 h15 => ?_) (fun r hr m16 q16 h16 => ?_)
    ·
      have o15 := (o14 : Off 152 153 m _).tr q15
      show Wp g mX4_readTest _ _ _ 25 _ [] _ Q
      refine r_aload_n dX4_readTest_25 rfl ?_
      refine r_dup dX4_readTest_26 rfl ?_
      refine r_getIc (nI (o + 1)) dX4_readTest_27 fgX4_43 rfl (by exact k_152 h15.F) (by exact h15.2.2.1) ?_
      refine r_iconst (1) dX4_readTest_30 rfl ?_
      refine r_isub dX4_readTest_31 ?_
      refine r_putI dX4_readTest_32 (fpX4_43 _ rfl) rfl (by exact k_152 h15.F) ⟨rfl, rfl⟩ ?_
      rw [nI_p1]
      have h17 := h15.st8 o
      have o17 := o15.tr (oft8 (v := nI o))
      refine r_aload_n dX4_readTest_35 rfl ?_
      refine r_sipush (280) dX4_readTest_36 rfl ?_
      refine r_iconst (0) dX4_readTest_39 rfl ?_
      refine r_callV2 (ci := 4) (d1 := 0) (c1 := 0) (n1 := 0) dX4_readTest_40 mvX4_87 rfl ⟨(Nat.le_of_ble_eq_true rfl), rfl⟩ (by omega) (by exact Nat.le_of_ble_eq_true rfl) (by exact k_152 h17.F) ?_
      refine S_emitB h17 (fun m18 q18 h18 => ?_)
      have o18 := (o17 : Off 152 153 m _).tr q18
      show Wp g mX4_readTest _ _ _ 43 _ [] _ Q
      refine r_goto 94 dX4_readTest_43 rfl ?_
      refine r_return dX4_readTest_94 rfl ?_
      exact k0 er ((if_pos t1).trans (rB_l her)) _ o18 h18
    ·
      have o16 := (o14 : Off 152 153 m _).tr q16
      show Wp g mX4_readTest _ _ _ 25 _ [] _ Q
      refine r_aload_n dX4_readTest_25 rfl ?_
      refine r_dup dX4_readTest_26 rfl ?_
      refine r_getIc (nI (o + 1)) dX4_readTest_27 fgX4_43 rfl (by exact k_152 h16.F) (by exact h16.2.2.2.1) ?_
      refine r_iconst (1) dX4_readTest_30 rfl ?_
      refine r_isub dX4_readTest_31 ?_
      refine r_putI dX4_readTest_32 (fpX4_43 _ rfl) rfl (by exact k_152 h16.F) ⟨rfl, rfl⟩ ?_
      rw [nI_p1]
      have h19 := h16.st8 o
      have o19 := o16.tr (oft8 (v := nI o))
      refine r_aload_n dX4_readTest_35 rfl ?_
      refine r_sipush (280) dX4_readTest_36 rfl ?_
      refine r_iconst (0) dX4_readTest_39 rfl ?_
      refine r_callV2 (ci := 4) (d1 := 0) (c1 := 0) (n1 := 0) dX4_readTest_40 mvX4_87 rfl ⟨(Nat.le_of_ble_eq_true rfl), rfl⟩ (by omega) (by exact Nat.le_of_ble_eq_true rfl) (by exact k_152 h19.F) ?_
      refine S_emitS h19 (v := 280) rfl (by have v := tesP_g u _ w.2.2 r hr; rw [List.length_append]; omega) (fun m20 q20 h20 => ?_)
      have o20 := (o19 : Off 152 153 m _).tr q20
      show Wp g mX4_readTest _ _ _ 43 _ [] _ Q
      refine r_goto 94 dX4_readTest_43 rfl ?_
      refine r_return dX4_readTest_94 rfl ?_
      rw [List.append_assoc] at h20; exact k1 (r.1, r.2.1 ++ [280], fun N => if r.2.2 N = 0 then 1 else 0) ((if_pos t1).trans (rB_r hr)) _ o20 h20
theorem S_ors {g : GG} {b : Nat → Int32} {n u o d : Nat} (hd : 6 ≤ d) (hT : NtOK g b n mX4_readTest [] o d (tesP b n u)) : NtOK g b n mX4_readChain [.int 0] o (d + 4) (orsP b n u) := S_chain0 (d := d + 3) (by omega) (S_prt0 (S_chain1 (d := d + 1) (by omega) (S_prt1 hT) (tesP_g u))) (chn_g (tesP_g u) rfl)
theorem S_tst {g : GG} {b : Nat → Int32} {n : Nat} : ∀ u o, u + o = 6 → NtOK g b n mX4_readTest [] o (15 + 6 * u) (tesP b n u)
  | 0, o, h => by
    obtain rfl : o = 6 := by omega
    exact S_test0 (d3 := 14) (by omega) (by omega) (S_cmp (d := 13) (by omega) (sumP_g 0) (S_sum 0 6 (by omega)))
  | u + 1, o, h => by
    have ih := S_tst (g := g) (b := b) (n := n) u (o + 1) (by omega)
    exact S_testS (d1 := 15 + 6 * u) (d2 := 15 + 6 * u + 4) (d3 := 13 + 6 * (u + 1) + 1) (by omega) (by omega) (by omega) (by omega) (by omega) ih (S_ors (by omega) ih) (S_cmp (by omega) (sumP_g (u + 1)) (S_sum (u + 1) o (by omega)))
theorem S_ors6 {g : GG} {b : Nat → Int32} {n : Nat} : NtOK g b n mX4_readChain [.int 0] 0 55 (orsP b n 6) := S_ors (d := 51) (by omega) (S_tst 6 0 (by omega))
theorem S_sum6 {g : GG} {b : Nat → Int32} {n : Nat} : NtOK g b n mX4_readChain [.int 2] 0 49 (sumP b n 6) := S_sum 6 0 (by omega)
theorem claP_g0 {b : Nat → Int32} {n i s : Nat} (hs : s ≤ n) {z : Nat × List Int32 × Int32 × VF × VF} (h : claP b n false i s = .inr z) : s + z.2.1.length + 1 ≤ z.1 ∧ z.1 ≤ n := by
  unfold claP at h
  obtain ⟨c0, h⟩ := if_ok h
  have w : s < n ∧ s + 1 ≤ adP b n s ∧ adP b n s ≤ n := ad_of rfl (fun q => by unfold wrd at c0; rw [q] at c0; exact absurd c0 (by decide))
  by_cases c1 : 16 ≤ i
  · rw [if_pos c1] at h; cases h
  · rw [if_neg c1] at h
    obtain ⟨r, hr, h⟩ := rB_ok h
    have v := sumP_g 6 _ w.2.2 r hr
    by_cases c2 : tkP b n r.1 = 277
    · rw [if_pos c2] at h
      obtain ⟨c, hc, h⟩ := rB_ok h
      have w2 := ad_of c2 (by decide)
      have v2 := orsP_g 6 _ w2.2.2 c hc
      obtain ⟨c3, h⟩ := if_ok h
      have w3 := ad_of c3 (by decide)
      cases h
      show s + (r.2.1 ++ c.2.1 ++ [wrd b n s * 512 + 4]).length + 1 ≤ adP b n c.1 ∧ adP b n c.1 ≤ n
      rw [List.length_append, List.length_append, List.length_singleton]; omega
    · rw [if_neg c2] at h
      obtain ⟨c3, h⟩ := if_ok h
      have w3 := ad_of c3 (by decide)
      cases h
      show s + (r.2.1 ++ [wrd b n s * 512 + 3]).length + 1 ≤ adP b n r.1 ∧ adP b n r.1 ≤ n
      rw [List.length_append, List.length_singleton]; omega
theorem S_clause0 {g : GG} {m : MM} {Q : Out → Prop} {b : Nat → Int32} {n s i : Nat} {L : List Int32} (h : RS b n s 0 L m) (hl : L.length ≤ s) (hi : i ≤ 1000) (k0 : ∀ e, claP b n false i s = .inl e → ∀ m', Off 152 153 m m' → RB b n 0 e m' → Q (.inl none, m')) (k1 : ∀ r, claP b n false i s = .inr r → ∀ m', Off 152 153 m m' → RS b n r.1 0 (L ++ r.2.1) m' → Q (.inl none, m')) : Cl g 56 0 0 mX4_readClause [.ref 152, .int 0, .int (nI i)] m Q := by
  refine Cl.of rfl (by decide) (Nat.le_of_ble_eq_true rfl) ?_
  show Wp g mX4_readClause 56 0 0 0 [.ref 152, .int 0, .int (nI i), .retAddr 0, .retAddr 0, .retAddr 0] [] m Q
  have hn4 := h.1.2.1
  have hsn := h.2.1
  refine r_aload_n dX4_readClause_0 rfl ?_
  refine r_getIc (tkP b n s) dX4_readClause_1 fgX4_55 rfl (by exact k_152 h.F) (by exact h.tk) ?_
  refine r_sipush (256) dX4_readClause_4 rfl ?_
  refine r_isub dX4_readClause_7 ?_
  refine si_3 dX4_readClause_8 rfl (Nat.le_of_ble_eq_true rfl) ?_
  refine r_iload_n dX4_readClause_9 rfl ?_
  refine r_if_eq 23 dX4_readClause_10 rfl (fun _ => ?_) (fun hz => absurd hz (by decide))
  refine r_iload_n dX4_readClause_23 rfl ?_
  refine r_iconst (0) dX4_readClause_24 rfl ?_
  refine r_iconst (4) dX4_readClause_25 rfl ?_
  refine r_callN3 (d1 := 0) (c1 := 0) (n1 := 0) dX4_readClause_26 msX4_73 (by omega) (by exact Nat.le_of_ble_eq_true rfl) ?_
  refine S_X11_isWithin (fun za zb => ?_) (fun zc => ?_)
  ·
    show Wp g mX4_readClause _ _ _ 29 _ (_ :: _) _ Q
    refine si_4 dX4_readClause_29 rfl (Nat.le_of_ble_eq_true rfl) ?_
    refine r_iload dX4_readClause_31 rfl ?_
    refine r_if_ne 44 dX4_readClause_33 rfl (fun _ => ?_) (fun hz => absurd hz (by decide))
    have c0 : (if false = true then 5 ≤ wrd b n s ∧ wrd b n s ≤ 7 else 0 ≤ wrd b n s ∧ wrd b n s ≤ 4) := ⟨za, zb⟩
    have w : s < n ∧ s + 1 ≤ adP b n s ∧ adP b n s ≤ n := ad_of rfl (fun q => by unfold wrd at c0; rw [q] at c0; exact absurd c0 (by decide))
    refine r_iload_n dX4_readClause_44 rfl ?_
    refine r_bipush (16) dX4_readClause_45 rfl ?_
    refine r_icmp_lt 58 dX4_readClause_47 rfl (fun t1 => ?_) (fun t1 => ?_)
    ·
      have ti : ¬ 16 ≤ i := fun z => absurd t1 (nI_nlt (a := i) (b := 16) z (by omega))
      refine r_aload_n dX4_readClause_58 rfl ?_
      refine r_callV0 (ci := 4) (d1 := 6) (c1 := 0) (n1 := 0) dX4_readClause_59 mvX4_52 rfl ⟨(Nat.le_of_ble_eq_true rfl), rfl⟩ (by omega) (by exact Nat.le_of_ble_eq_true rfl) (by exact k_152 h.F) ?_
      refine S_advS h (fun m1 q1 h1 => ?_)
      have o1 := q1
      show Wp g mX4_readClause _ _ _ 62 _ [] _ Q
      refine r_aload_n dX4_readClause_62 rfl ?_
      refine r_iconst (2) dX4_readClause_63 rfl ?_
      refine r_callV1 (ci := 4) (d1 := 49) (c1 := 0) (n1 := 0) dX4_readClause_64 mvX4_81 rfl ⟨(Nat.le_of_ble_eq_true rfl), rfl⟩ (by omega) (by exact Nat.le_of_ble_eq_true rfl) (by exact k_152 h1.F) ?_
      refine S_sum6 _ _ _ _ h1 (by omega) (fun er her m2 q2 h2 => ?_) (fun r hr m3 q3 h3 => ?_)
      ·
        have o2 := (o1 : Off 152 153 m _).tr q2
        show Wp g mX4_readClause _ _ _ 67 _ [] _ Q
        refine r_aload_n dX4_readClause_67 rfl ?_
        refine r_getIc (-4) dX4_readClause_68 fgX4_55 rfl (by exact k_152 h2.F) (by exact h2.2.1) ?_
        refine r_sipush (277) dX4_readClause_71 rfl ?_
        refine r_icmp_ne 81 dX4_readClause_74 rfl (fun _ => ?_) (fun hz => absurd hz (by decide))
        refine r_iconst (0) dX4_readClause_81 rfl ?_
        refine si_5 dX4_readClause_82 rfl (Nat.le_of_ble_eq_true rfl) ?_
        refine r_iload dX4_readClause_84 rfl ?_
        refine r_if_eq 98 dX4_readClause_86 rfl (fun _ => ?_) (fun hz => absurd hz (by decide))
        refine r_aload_n dX4_readClause_98 rfl ?_
        refine r_bipush (59) dX4_readClause_99 rfl ?_
        refine r_callV1 (ci := 4) (d1 := 7) (c1 := 0) (n1 := 0) dX4_readClause_101 mvX4_84 rfl ⟨(Nat.le_of_ble_eq_true rfl), rfl⟩ (by omega) (by exact Nat.le_of_ble_eq_true rfl) (by exact k_152 h2.F) ?_
        refine S_takeB h2 (by decide) (fun m4 q4 h4 => ?_)
        have o4 := (o2 : Off 152 153 m _).tr q4
        show Wp g mX4_readClause _ _ _ 104 _ [] _ Q
        refine r_aload_n dX4_readClause_104 rfl ?_
        refine r_iload dX4_readClause_105 rfl ?_
        refine r_if_eq 114 dX4_readClause_107 rfl (fun _ => ?_) (fun hz => absurd hz (by decide))
        refine r_iconst (3) dX4_readClause_114 rfl ?_
        refine r_iload_n dX4_readClause_115 rfl ?_
        refine r_callV2 (ci := 4) (d1 := 0) (c1 := 0) (n1 := 0) dX4_readClause_116 mvX4_87 rfl ⟨(Nat.le_of_ble_eq_true rfl), rfl⟩ (by omega) (by exact Nat.le_of_ble_eq_true rfl) (by exact k_152 h4.F) ?_
        refine S_emitB h4 (fun m5 q5 h5 => ?_)
        have o5 := (o4 : Off 152 153 m _).tr q5
        show Wp g mX4_readClause _ _ _ 119 _ [] _ Q
        refine r_return dX4_readClause_119 rfl ?_
        exact k0 er ((if_pos c0).trans ((if_neg ti).trans (rB_l her))) _ o5 h5
      ·
        have o3 := (o1 : Off 152 153 m _).tr q3
        show Wp g mX4_readClause _ _ _ 67 _ [] _ Q
        refine r_aload_n dX4_readClause_67 rfl ?_
        refine r_getIc (tkP b n r.1) dX4_readClause_68 fgX4_55 rfl (by exact k_152 h3.F) (by exact h3.tk) ?_
        refine r_sipush (277) dX4_readClause_71 rfl ?_
        refine r_icmp_ne 81 dX4_readClause_74 rfl (fun t2 => ?_) (fun t2 => ?_)
        ·
          refine r_iconst (0) dX4_readClause_81 rfl ?_
          refine si_5 dX4_readClause_82 rfl (Nat.le_of_ble_eq_true rfl) ?_
          refine r_iload dX4_readClause_84 rfl ?_
          refine r_if_eq 98 dX4_readClause_86 rfl (fun _ => ?_) (fun hz => absurd hz (by decide))
          refine r_aload_n dX4_readClause_98 rfl ?_
          refine r_bipush (59) dX4_readClause_99 rfl ?_
          refine r_callV1 (ci := 4) (d1 := 7) (c1 := 0) (n1 := 0) dX4_readClause_101 mvX4_84 rfl ⟨(Nat.le_of_ble_eq_true rfl), rfl⟩ (by omega) (by exact Nat.le_of_ble_eq_true rfl) (by exact k_152 h3.F) ?_
          refine S_takeS h3 (fun t101 m6 q6 h6 => ?_) (fun t101 m7 q7 h7 => ?_)
          ·
            have o6 := (o3 : Off 152 153 m _).tr q6
            show Wp g mX4_readClause _ _ _ 104 _ [] _ Q
            refine r_aload_n dX4_readClause_104 rfl ?_
            refine r_iload dX4_readClause_105 rfl ?_
            refine r_if_eq 114 dX4_readClause_107 rfl (fun _ => ?_) (fun hz => absurd hz (by decide))
            refine r_iconst (3) dX4_readClause_114 rfl ?_
            refine r_iload_n dX4_readClause_115 rfl ?_
            refine r_callV2 (ci := 4) (d1 := 0) (c1 := 0) (n1 := 0) dX4_readClause_116 mvX4_87 rfl ⟨(Nat.le_of_ble_eq_true rfl), rfl⟩ (by omega) (by exact Nat.le_of_ble_eq_true rfl) (by exact k_152 h6.F) ?_
            refine S_emitS h6 (v := wrd b n s * 512 + 3) rfl (by have v := sumP_g 6 _ w.2.2 r hr; have w3 := ad_of t101 (by decide); rw [List.length_append]; omega) (fun m8 q8 h8 => ?_)
            have o8 := (o6 : Off 152 153 m _).tr q8
            show Wp g mX4_readClause _ _ _ 119 _ [] _ Q
            refine r_return dX4_readClause_119 rfl ?_
            rw [List.append_assoc] at h8
            exact k1 (adP b n r.1, r.2.1 ++ [wrd b n s * 512 + 3], wrd b n s, r.2.2, fun _ => 1) ((if_pos c0).trans ((if_neg ti).trans ((rB_r hr).trans ((if_neg t2).trans (if_pos t101))))) _ o8 h8
          ·
            have o7 := (o3 : Off 152 153 m _).tr q7
            show Wp g mX4_readClause _ _ _ 104 _ [] _ Q
            refine r_aload_n dX4_readClause_104 rfl ?_
            refine r_iload dX4_readClause_105 rfl ?_
            refine r_if_eq 114 dX4_readClause_107 rfl (fun _ => ?_) (fun hz => absurd hz (by decide))
            refine r_iconst (3) dX4_readClause_114 rfl ?_
            refine r_iload_n dX4_readClause_115 rfl ?_
            refine r_callV2 (ci := 4) (d1 := 0) (c1 := 0) (n1 := 0) dX4_readClause_116 mvX4_87 rfl ⟨(Nat.le_of_ble_eq_true rfl), rfl⟩ (by omega) (by exact Nat.le_of_ble_eq_true rfl) (by exact k_152 h7.F) ?_
            refine S_emitB h7 (fun m9 q9 h9 => ?_)
            have o9 := (o7 : Off 152 153 m _).tr q9
            show Wp g mX4_readClause _ _ _ 119 _ [] _ Q
            refine r_return dX4_readClause_119 rfl ?_
            exact k0 (1, r.1) ((if_pos c0).trans ((if_neg ti).trans ((rB_r hr).trans ((if_neg t2).trans (if_neg t101))))) _ o9 h9
        ·
          refine r_iconst (1) dX4_readClause_77 rfl ?_
          refine r_goto 82 dX4_readClause_78 rfl ?_
          refine si_5 dX4_readClause_82 rfl (Nat.le_of_ble_eq_true rfl) ?_
          refine r_iload dX4_readClause_84 rfl ?_
          refine r_if_eq 98 dX4_readClause_86 rfl (fun hz => absurd hz (by decide)) (fun _ => ?_)
          refine r_aload_n dX4_readClause_89 rfl ?_
          refine r_callV0 (ci := 4) (d1 := 6) (c1 := 0) (n1 := 0) dX4_readClause_90 mvX4_52 rfl ⟨(Nat.le_of_ble_eq_true rfl), rfl⟩ (by omega) (by exact Nat.le_of_ble_eq_true rfl) (by exact k_152 h3.F) ?_
          refine S_advS h3 (fun m10 q10 h10 => ?_)
          have o10 := (o3 : Off 152 153 m _).tr q10
          show Wp g mX4_readClause _ _ _ 93 _ [] _ Q
          refine r_aload_n dX4_readClause_93 rfl ?_
          refine r_iconst (0) dX4_readClause_94 rfl ?_
          refine r_callV1 (ci := 4) (d1 := 55) (c1 := 0) (n1 := 0) dX4_readClause_95 mvX4_81 rfl ⟨(Nat.le_of_ble_eq_true rfl), rfl⟩ (by omega) (by exact Nat.le_of_ble_eq_true rfl) (by exact k_152 h10.F) ?_
          refine S_ors6 _ _ _ _ h10 (by have v := sumP_g 6 _ w.2.2 r hr; have w2 := ad_of t2 (by decide); rw [List.length_append]; omega) (fun ec hec m11 q11 h11 => ?_) (fun c hc m12 q12 h12 => ?_)
          ·
            have o11 := (o10 : Off 152 153 m _).tr q11
            show Wp g mX4_readClause _ _ _ 98 _ [] _ Q
            refine r_aload_n dX4_readClause_98 rfl ?_
            refine r_bipush (59) dX4_readClause_99 rfl ?_
            refine r_callV1 (ci := 4) (d1 := 7) (c1 := 0) (n1 := 0) dX4_readClause_101 mvX4_84 rfl ⟨(Nat.le_of_ble_eq_true rfl), rfl⟩ (by omega) (by exact Nat.le_of_ble_eq_true rfl) (by exact k_152 h11.F) ?_
            refine S_takeB h11 (by decide) (fun m13 q13 h13 => ?_)
            have o13 := (o11 : Off 152 153 m _).tr q13
            show Wp g mX4_readClause _ _ _ 104 _ [] _ Q
            refine r_aload_n dX4_readClause_104 rfl ?_
            refine r_iload dX4_readClause_105 rfl ?_
            refine r_if_eq 114 dX4_readClause_107 rfl (fun hz => absurd hz (by decide)) (fun _ => ?_)
            refine r_iconst (4) dX4_readClause_110 rfl ?_
            refine r_goto 115 dX4_readClause_111 rfl ?_
            refine r_iload_n dX4_readClause_115 rfl ?_
            refine r_callV2 (ci := 4) (d1 := 0) (c1 := 0) (n1 := 0) dX4_readClause_116 mvX4_87 rfl ⟨(Nat.le_of_ble_eq_true rfl), rfl⟩ (by omega) (by exact Nat.le_of_ble_eq_true rfl) (by exact k_152 h13.F) ?_
            refine S_emitB h13 (fun m14 q14 h14 => ?_)
            have o14 := (o13 : Off 152 153 m _).tr q14
            show Wp g mX4_readClause _ _ _ 119 _ [] _ Q
            refine r_return dX4_readClause_119 rfl ?_
            first
              | exact k0 ec ((if_pos c0).trans ((if_neg ti).trans ((rB_r hr).trans ((if_pos t2).trans (rB_l hec))))) _ o14 h14
              | exact k0 (1, c.1) ((if_pos c0).trans ((if_neg ti).trans ((rB_r hr).trans ((if_pos t2).trans ((rB_r hc).trans (if_neg t101)))))) _ o14 h14
          ·
            have o12 := (o10 : Off 152 153 m _).tr q12
            show Wp g mX4_readClause _ _ _ 98 _ [] _ Q
            refine r_aload_n dX4_readClause_98 rfl ?_
            refine r_bipush (59) dX4_readClause_99 rfl ?_
            refine r_callV1 (ci := 4) (d1 := 7) (c1 := 0) (n1 := 0) dX4_readClause_101 mvX4_84 rfl ⟨(Nat.le_of_ble_eq_true rfl), rfl⟩ (by omega) (by exact Nat.le_of_ble_eq_true rfl) (by exact k_152 h12.F) ?_
            refine S_takeS h12 (fun t101 m15 q15 h15 => ?_) (fun t101 m16 q16 h16 => ?_)
            ·
              have o15 := (o12 : Off 152 153 m _).tr q15
              show Wp g mX4_readClause _ _ _ 104 _ [] _ Q
              refine r_aload_n dX4_readClause_104 rfl ?_
              refine r_iload dX4_readClause_105 rfl ?_
              refine r_if_eq 114 dX4_readClause_107 rfl (fun hz => absurd hz (by decide)) (fun _ => ?_)
              refine r_iconst (4) dX4_readClause_110 rfl ?_
              refine r_goto 115 dX4_readClause_111 rfl ?_
              refine r_iload_n dX4_readClause_115 rfl ?_
              refine r_callV2 (ci := 4) (d1 := 0) (c1 := 0) (n1 := 0) dX4_readClause_116 mvX4_87 rfl ⟨(Nat.le_of_ble_eq_true rfl), rfl⟩ (by omega) (by exact Nat.le_of_ble_eq_true rfl) (by exact k_152 h15.F) ?_
              refine S_emitS h15 (v := wrd b n s * 512 + 4) rfl (by have v := sumP_g 6 _ w.2.2 r hr; have w2 := ad_of t2 (by decide); have v2 := orsP_g 6 _ w2.2.2 c hc; have w3 := ad_of t101 (by decide); rw [List.length_append, List.length_append]; omega) (fun m17 q17 h17 => ?_)
              have o17 := (o15 : Off 152 153 m _).tr q17
              show Wp g mX4_readClause _ _ _ 119 _ [] _ Q
              refine r_return dX4_readClause_119 rfl ?_
              rw [show L ++ r.2.1 ++ c.2.1 ++ [wrd b n s * 512 + 4] = L ++ (r.2.1 ++ c.2.1 ++ [wrd b n s * 512 + 4]) from by simp only [List.append_assoc]] at h17
              exact k1 (adP b n c.1, r.2.1 ++ c.2.1 ++ [wrd b n s * 512 + 4], wrd b n s, r.2.2, c.2.2) ((if_pos c0).trans ((if_neg ti).trans ((rB_r hr).trans ((if_pos t2).trans ((rB_r hc).trans (if_pos t101)))))) _ o17 h17
            ·
              have o16 := (o12 : Off 152 153 m _).tr q16
              show Wp g mX4_readClause _ _ _ 104 _ [] _ Q
              refine r_aload_n dX4_readClause_104 rfl ?_
              refine r_iload dX4_readClause_105 rfl ?_
              refine r_if_eq 114 dX4_readClause_107 rfl (fun hz => absurd hz (by decide)) (fun _ => ?_)
              refine r_iconst (4) dX4_readClause_110 rfl ?_
              refine r_goto 115 dX4_readClause_111 rfl ?_
              refine r_iload_n dX4_readClause_115 rfl ?_
              refine r_callV2 (ci := 4) (d1 := 0) (c1 := 0) (n1 := 0) dX4_readClause_116 mvX4_87 rfl ⟨(Nat.le_of_ble_eq_true rfl), rfl⟩ (by omega) (by exact Nat.le_of_ble_eq_true rfl) (by exact k_152 h16.F) ?_
              refine S_emitB h16 (fun m18 q18 h18 => ?_)
              have o18 := (o16 : Off 152 153 m _).tr q18
              show Wp g mX4_readClause _ _ _ 119 _ [] _ Q
              refine r_return dX4_readClause_119 rfl ?_
              first
                | exact k0 ec ((if_pos c0).trans ((if_neg ti).trans ((rB_r hr).trans ((if_pos t2).trans (rB_l hec))))) _ o18 h18
                | exact k0 (1, c.1) ((if_pos c0).trans ((if_neg ti).trans ((rB_r hr).trans ((if_pos t2).trans ((rB_r hc).trans (if_neg t101)))))) _ o18 h18
    ·
      refine r_aload_n dX4_readClause_50 rfl ?_
      refine r_iconst (3) dX4_readClause_51 rfl ?_
      refine r_callV1 (ci := 4) (d1 := 0) (c1 := 0) (n1 := 0) dX4_readClause_52 mvX4_77 rfl ⟨(Nat.le_of_ble_eq_true rfl), rfl⟩ (by omega) (by exact Nat.le_of_ble_eq_true rfl) (by exact k_152 h.F) ?_
      refine S_failS h (by decide) (fun m19 q19 h19 => ?_)
      have o19 := q19
      show Wp g mX4_readClause _ _ _ 55 _ [] _ Q
      refine r_goto 119 dX4_readClause_55 rfl ?_
      refine r_return dX4_readClause_119 rfl ?_
      exact k0 (3, s) ((if_pos c0).trans (if_pos (Nat.le_of_not_lt (fun z => t1 (nI_lt (a := i) (b := 16) z (by omega)))))) _ o19 h19
  ·
    show Wp g mX4_readClause _ _ _ 29 _ (_ :: _) _ Q
    refine si_4 dX4_readClause_29 rfl (Nat.le_of_ble_eq_true rfl) ?_
    refine r_iload dX4_readClause_31 rfl ?_
    refine r_if_ne 44 dX4_readClause_33 rfl (fun hz => absurd hz (by decide)) (fun _ => ?_)
    refine r_aload_n dX4_readClause_36 rfl ?_
    refine r_iconst (1) dX4_readClause_37 rfl ?_
    refine r_callV1 (ci := 4) (d1 := 0) (c1 := 0) (n1 := 0) dX4_readClause_38 mvX4_77 rfl ⟨(Nat.le_of_ble_eq_true rfl), rfl⟩ (by omega) (by exact Nat.le_of_ble_eq_true rfl) (by exact k_152 h.F) ?_
    refine S_failS h (by decide) (fun m20 q20 h20 => ?_)
    have o20 := q20
    show Wp g mX4_readClause _ _ _ 41 _ [] _ Q
    refine r_goto 119 dX4_readClause_41 rfl ?_
    refine r_return dX4_readClause_119 rfl ?_
    exact k0 (1, s) (if_neg zc) _ o20 h20
theorem claP_g1 {b : Nat → Int32} {n i s : Nat} (hs : s ≤ n) {z : Nat × List Int32 × Int32 × VF × VF} (h : claP b n true i s = .inr z) : s + z.2.1.length + 1 ≤ z.1 ∧ z.1 ≤ n := by
  unfold claP at h
  obtain ⟨c0, h⟩ := if_ok h
  have w : s < n ∧ s + 1 ≤ adP b n s ∧ adP b n s ≤ n := ad_of rfl (fun q => by unfold wrd at c0; rw [q] at c0; exact absurd c0 (by decide))
  by_cases c1 : 16 ≤ i
  · rw [if_pos c1] at h; cases h
  · rw [if_neg c1] at h
    obtain ⟨r, hr, h⟩ := rB_ok h
    have v := sumP_g 6 _ w.2.2 r hr
    by_cases c2 : tkP b n r.1 = 277
    · rw [if_pos c2] at h
      obtain ⟨c, hc, h⟩ := rB_ok h
      have w2 := ad_of c2 (by decide)
      have v2 := orsP_g 6 _ w2.2.2 c hc
      obtain ⟨c3, h⟩ := if_ok h
      have w3 := ad_of c3 (by decide)
      cases h
      show s + (r.2.1 ++ c.2.1 ++ [wrd b n s * 512 + 4]).length + 1 ≤ adP b n c.1 ∧ adP b n c.1 ≤ n
      rw [List.length_append, List.length_append, List.length_singleton]; omega
    · rw [if_neg c2] at h
      obtain ⟨c3, h⟩ := if_ok h
      have w3 := ad_of c3 (by decide)
      cases h
      show s + (r.2.1 ++ [wrd b n s * 512 + 3]).length + 1 ≤ adP b n r.1 ∧ adP b n r.1 ≤ n
      rw [List.length_append, List.length_singleton]; omega
theorem S_clause1 {g : GG} {m : MM} {Q : Out → Prop} {b : Nat → Int32} {n s i : Nat} {L : List Int32} (h : RS b n s 0 L m) (hl : L.length ≤ s) (hi : i ≤ 1000) (k0 : ∀ e, claP b n true i s = .inl e → ∀ m', Off 152 153 m m' → RB b n 0 e m' → Q (.inl none, m')) (k1 : ∀ r, claP b n true i s = .inr r → ∀ m', Off 152 153 m m' → RS b n r.1 0 (L ++ r.2.1) m' → Q (.inl none, m')) : Cl g 56 0 0 mX4_readClause [.ref 152, .int 1, .int (nI i)] m Q := by
  refine Cl.of rfl (by decide) (Nat.le_of_ble_eq_true rfl) ?_
  show Wp g mX4_readClause 56 0 0 0 [.ref 152, .int 1, .int (nI i), .retAddr 0, .retAddr 0, .retAddr 0] [] m Q
  have hn4 := h.1.2.1
  have hsn := h.2.1
  refine r_aload_n dX4_readClause_0 rfl ?_
  refine r_getIc (tkP b n s) dX4_readClause_1 fgX4_55 rfl (by exact k_152 h.F) (by exact h.tk) ?_
  refine r_sipush (256) dX4_readClause_4 rfl ?_
  refine r_isub dX4_readClause_7 ?_
  refine si_3 dX4_readClause_8 rfl (Nat.le_of_ble_eq_true rfl) ?_
  refine r_iload_n dX4_readClause_9 rfl ?_
  refine r_if_eq 23 dX4_readClause_10 rfl (fun hz => absurd hz (by decide)) (fun _ => ?_)
  refine r_iload_n dX4_readClause_13 rfl ?_
  refine r_iconst (5) dX4_readClause_14 rfl ?_
  refine r_bipush (7) dX4_readClause_15 rfl ?_
  refine r_callN3 (d1 := 0) (c1 := 0) (n1 := 0) dX4_readClause_17 msX4_73 (by omega) (by exact Nat.le_of_ble_eq_true rfl) ?_
  refine S_X11_isWithin (fun za zb => ?_) (fun zc => ?_)
  ·
    show Wp g mX4_readClause _ _ _ 20 _ (_ :: _) _ Q
    refine r_goto 29 dX4_readClause_20 rfl ?_
    refine si_4 dX4_readClause_29 rfl (Nat.le_of_ble_eq_true rfl) ?_
    refine r_iload dX4_readClause_31 rfl ?_
    refine r_if_ne 44 dX4_readClause_33 rfl (fun _ => ?_) (fun hz => absurd hz (by decide))
    have c0 : (if true = true then 5 ≤ wrd b n s ∧ wrd b n s ≤ 7 else 0 ≤ wrd b n s ∧ wrd b n s ≤ 4) := ⟨za, zb⟩
    have w : s < n ∧ s + 1 ≤ adP b n s ∧ adP b n s ≤ n := ad_of rfl (fun q => by unfold wrd at c0; rw [q] at c0; exact absurd c0 (by decide))
    refine r_iload_n dX4_readClause_44 rfl ?_
    refine r_bipush (16) dX4_readClause_45 rfl ?_
    refine r_icmp_lt 58 dX4_readClause_47 rfl (fun t1 => ?_) (fun t1 => ?_)
    ·
      have ti : ¬ 16 ≤ i := fun z => absurd t1 (nI_nlt (a := i) (b := 16) z (by omega))
      refine r_aload_n dX4_readClause_58 rfl ?_
      refine r_callV0 (ci := 4) (d1 := 6) (c1 := 0) (n1 := 0) dX4_readClause_59 mvX4_52 rfl ⟨(Nat.le_of_ble_eq_true rfl), rfl⟩ (by omega) (by exact Nat.le_of_ble_eq_true rfl) (by exact k_152 h.F) ?_
      refine S_advS h (fun m1 q1 h1 => ?_)
      have o1 := q1
      show Wp g mX4_readClause _ _ _ 62 _ [] _ Q
      refine r_aload_n dX4_readClause_62 rfl ?_
      refine r_iconst (2) dX4_readClause_63 rfl ?_
      refine r_callV1 (ci := 4) (d1 := 49) (c1 := 0) (n1 := 0) dX4_readClause_64 mvX4_81 rfl ⟨(Nat.le_of_ble_eq_true rfl), rfl⟩ (by omega) (by exact Nat.le_of_ble_eq_true rfl) (by exact k_152 h1.F) ?_
      refine S_sum6 _ _ _ _ h1 (by omega) (fun er her m2 q2 h2 => ?_) (fun r hr m3 q3 h3 => ?_)
      ·
        have o2 := (o1 : Off 152 153 m _).tr q2
        show Wp g mX4_readClause _ _ _ 67 _ [] _ Q
        refine r_aload_n dX4_readClause_67 rfl ?_
        refine r_getIc (-4) dX4_readClause_68 fgX4_55 rfl (by exact k_152 h2.F) (by exact h2.2.1) ?_
        refine r_sipush (277) dX4_readClause_71 rfl ?_
        refine r_icmp_ne 81 dX4_readClause_74 rfl (fun _ => ?_) (fun hz => absurd hz (by decide))
        refine r_iconst (0) dX4_readClause_81 rfl ?_
        refine si_5 dX4_readClause_82 rfl (Nat.le_of_ble_eq_true rfl) ?_
        refine r_iload dX4_readClause_84 rfl ?_
        refine r_if_eq 98 dX4_readClause_86 rfl (fun _ => ?_) (fun hz => absurd hz (by decide))
        refine r_aload_n dX4_readClause_98 rfl ?_
        refine r_bipush (59) dX4_readClause_99 rfl ?_
        refine r_callV1 (ci := 4) (d1 := 7) (c1 := 0) (n1 := 0) dX4_readClause_101 mvX4_84 rfl ⟨(Nat.le_of_ble_eq_true rfl), rfl⟩ (by omega) (by exact Nat.le_of_ble_eq_true rfl) (by exact k_152 h2.F) ?_
        refine S_takeB h2 (by decide) (fun m4 q4 h4 => ?_)
        have o4 := (o2 : Off 152 153 m _).tr q4
        show Wp g mX4_readClause _ _ _ 104 _ [] _ Q
        refine r_aload_n dX4_readClause_104 rfl ?_
        refine r_iload dX4_readClause_105 rfl ?_
        refine r_if_eq 114 dX4_readClause_107 rfl (fun _ => ?_) (fun hz => absurd hz (by decide))
        refine r_iconst (3) dX4_readClause_114 rfl ?_
        refine r_iload_n dX4_readClause_115 rfl ?_
        refine r_callV2 (ci := 4) (d1 := 0) (c1 := 0) (n1 := 0) dX4_readClause_116 mvX4_87 rfl ⟨(Nat.le_of_ble_eq_true rfl), rfl⟩ (by omega) (by exact Nat.le_of_ble_eq_true rfl) (by exact k_152 h4.F) ?_
        refine S_emitB h4 (fun m5 q5 h5 => ?_)
        have o5 := (o4 : Off 152 153 m _).tr q5
        show Wp g mX4_readClause _ _ _ 119 _ [] _ Q
        refine r_return dX4_readClause_119 rfl ?_
        exact k0 er ((if_pos c0).trans ((if_neg ti).trans (rB_l her))) _ o5 h5
      ·
        have o3 := (o1 : Off 152 153 m _).tr q3
        show Wp g mX4_readClause _ _ _ 67 _ [] _ Q
        refine r_aload_n dX4_readClause_67 rfl ?_
        refine r_getIc (tkP b n r.1) dX4_readClause_68 fgX4_55 rfl (by exact k_152 h3.F) (by exact h3.tk) ?_
        refine r_sipush (277) dX4_readClause_71 rfl ?_
        refine r_icmp_ne 81 dX4_readClause_74 rfl (fun t2 => ?_) (fun t2 => ?_)
        ·
          refine r_iconst (0) dX4_readClause_81 rfl ?_
          refine si_5 dX4_readClause_82 rfl (Nat.le_of_ble_eq_true rfl) ?_
          refine r_iload dX4_readClause_84 rfl ?_
          refine r_if_eq 98 dX4_readClause_86 rfl (fun _ => ?_) (fun hz => absurd hz (by decide))
          refine r_aload_n dX4_readClause_98 rfl ?_
          refine r_bipush (59) dX4_readClause_99 rfl ?_
          refine r_callV1 (ci := 4) (d1 := 7) (c1 := 0) (n1 := 0) dX4_readClause_101 mvX4_84 rfl ⟨(Nat.le_of_ble_eq_true rfl), rfl⟩ (by omega) (by exact Nat.le_of_ble_eq_true rfl) (by exact k_152 h3.F) ?_
          refine S_takeS h3 (fun t101 m6 q6 h6 => ?_) (fun t101 m7 q7 h7 => ?_)
          ·
            have o6 := (o3 : Off 152 153 m _).tr q6
            show Wp g mX4_readClause _ _ _ 104 _ [] _ Q
            refine r_aload_n dX4_readClause_104 rfl ?_
            refine r_iload dX4_readClause_105 rfl ?_
            refine r_if_eq 114 dX4_readClause_107 rfl (fun _ => ?_) (fun hz => absurd hz (by decide))
            refine r_iconst (3) dX4_readClause_114 rfl ?_
            refine r_iload_n dX4_readClause_115 rfl ?_
            refine r_callV2 (ci := 4) (d1 := 0) (c1 := 0) (n1 := 0) dX4_readClause_116 mvX4_87 rfl ⟨(Nat.le_of_ble_eq_true rfl), rfl⟩ (by omega) (by exact Nat.le_of_ble_eq_true rfl) (by exact k_152 h6.F) ?_
            refine S_emitS h6 (v := wrd b n s * 512 + 3) rfl (by have v := sumP_g 6 _ w.2.2 r hr; have w3 := ad_of t101 (by decide); rw [List.length_append]; omega) (fun m8 q8 h8 => ?_)
            have o8 := (o6 : Off 152 153 m _).tr q8
            show Wp g mX4_readClause _ _ _ 119 _ [] _ Q
            refine r_return dX4_readClause_119 rfl ?_
            rw [List.append_assoc] at h8
            exact k1 (adP b n r.1, r.2.1 ++ [wrd b n s * 512 + 3], wrd b n s, r.2.2, fun _ => 1) ((if_pos c0).trans ((if_neg ti).trans ((rB_r hr).trans ((if_neg t2).trans (if_pos t101))))) _ o8 h8
          ·
            have o7 := (o3 : Off 152 153 m _).tr q7
            show Wp g mX4_readClause _ _ _ 104 _ [] _ Q
            refine r_aload_n dX4_readClause_104 rfl ?_
            refine r_iload dX4_readClause_105 rfl ?_
            refine r_if_eq 114 dX4_readClause_107 rfl (fun _ => ?_) (fun hz => absurd hz (by decide))
            refine r_iconst (3) dX4_readClause_114 rfl ?_
            refine r_iload_n dX4_readClause_115 rfl ?_
            refine r_callV2 (ci := 4) (d1 := 0) (c1 := 0) (n1 := 0) dX4_readClause_116 mvX4_87 rfl ⟨(Nat.le_of_ble_eq_true rfl), rfl⟩ (by omega) (by exact Nat.le_of_ble_eq_true rfl) (by exact k_152 h7.F) ?_
            refine S_emitB h7 (fun m9 q9 h9 => ?_)
            have o9 := (o7 : Off 152 153 m _).tr q9
            show Wp g mX4_readClause _ _ _ 119 _ [] _ Q
            refine r_return dX4_readClause_119 rfl ?_
            exact k0 (1, r.1) ((if_pos c0).trans ((if_neg ti).trans ((rB_r hr).trans ((if_neg t2).trans (if_neg t101))))) _ o9 h9
        ·
          refine r_iconst (1) dX4_readClause_77 rfl ?_
          refine r_goto 82 dX4_readClause_78 rfl ?_
          refine si_5 dX4_readClause_82 rfl (Nat.le_of_ble_eq_true rfl) ?_
          refine r_iload dX4_readClause_84 rfl ?_
          refine r_if_eq 98 dX4_readClause_86 rfl (fun hz => absurd hz (by decide)) (fun _ => ?_)
          refine r_aload_n dX4_readClause_89 rfl ?_
          refine r_callV0 (ci := 4) (d1 := 6) (c1 := 0) (n1 := 0) dX4_readClause_90 mvX4_52 rfl ⟨(Nat.le_of_ble_eq_true rfl), rfl⟩ (by omega) (by exact Nat.le_of_ble_eq_true rfl) (by exact k_152 h3.F) ?_
          refine S_advS h3 (fun m10 q10 h10 => ?_)
          have o10 := (o3 : Off 152 153 m _).tr q10
          show Wp g mX4_readClause _ _ _ 93 _ [] _ Q
          refine r_aload_n dX4_readClause_93 rfl ?_
          refine r_iconst (0) dX4_readClause_94 rfl ?_
          refine r_callV1 (ci := 4) (d1 := 55) (c1 := 0) (n1 := 0) dX4_readClause_95 mvX4_81 rfl ⟨(Nat.le_of_ble_eq_true rfl), rfl⟩ (by omega) (by exact Nat.le_of_ble_eq_true rfl) (by exact k_152 h10.F) ?_
          refine S_ors6 _ _ _ _ h10 (by have v := sumP_g 6 _ w.2.2 r hr; have w2 := ad_of t2 (by decide); rw [List.length_append]; omega) (fun ec hec m11 q11 h11 => ?_) (fun c hc m12 q12 h12 => ?_)
          ·
            have o11 := (o10 : Off 152 153 m _).tr q11
            show Wp g mX4_readClause _ _ _ 98 _ [] _ Q
            refine r_aload_n dX4_readClause_98 rfl ?_
            refine r_bipush (59) dX4_readClause_99 rfl ?_
            refine r_callV1 (ci := 4) (d1 := 7) (c1 := 0) (n1 := 0) dX4_readClause_101 mvX4_84 rfl ⟨(Nat.le_of_ble_eq_true rfl), rfl⟩ (by omega) (by exact Nat.le_of_ble_eq_true rfl) (by exact k_152 h11.F) ?_
            refine S_takeB h11 (by decide) (fun m13 q13 h13 => ?_)
            have o13 := (o11 : Off 152 153 m _).tr q13
            show Wp g mX4_readClause _ _ _ 104 _ [] _ Q
            refine r_aload_n dX4_readClause_104 rfl ?_
            refine r_iload dX4_readClause_105 rfl ?_
            refine r_if_eq 114 dX4_readClause_107 rfl (fun hz => absurd hz (by decide)) (fun _ => ?_)
            refine r_iconst (4) dX4_readClause_110 rfl ?_
            refine r_goto 115 dX4_readClause_111 rfl ?_
            refine r_iload_n dX4_readClause_115 rfl ?_
            refine r_callV2 (ci := 4) (d1 := 0) (c1 := 0) (n1 := 0) dX4_readClause_116 mvX4_87 rfl ⟨(Nat.le_of_ble_eq_true rfl), rfl⟩ (by omega) (by exact Nat.le_of_ble_eq_true rfl) (by exact k_152 h13.F) ?_
            refine S_emitB h13 (fun m14 q14 h14 => ?_)
            have o14 := (o13 : Off 152 153 m _).tr q14
            show Wp g mX4_readClause _ _ _ 119 _ [] _ Q
            refine r_return dX4_readClause_119 rfl ?_
            first
              | exact k0 ec ((if_pos c0).trans ((if_neg ti).trans ((rB_r hr).trans ((if_pos t2).trans (rB_l hec))))) _ o14 h14
              | exact k0 (1, c.1) ((if_pos c0).trans ((if_neg ti).trans ((rB_r hr).trans ((if_pos t2).trans ((rB_r hc).trans (if_neg t101)))))) _ o14 h14
          ·
            have o12 := (o10 : Off 152 153 m _).tr q12
            show Wp g mX4_readClause _ _ _ 98 _ [] _ Q
            refine r_aload_n dX4_readClause_98 rfl ?_
            refine r_bipush (59) dX4_readClause_99 rfl ?_
            refine r_callV1 (ci := 4) (d1 := 7) (c1 := 0) (n1 := 0) dX4_readClause_101 mvX4_84 rfl ⟨(Nat.le_of_ble_eq_true rfl), rfl⟩ (by omega) (by exact Nat.le_of_ble_eq_true rfl) (by exact k_152 h12.F) ?_
            refine S_takeS h12 (fun t101 m15 q15 h15 => ?_) (fun t101 m16 q16 h16 => ?_)
            ·
              have o15 := (o12 : Off 152 153 m _).tr q15
              show Wp g mX4_readClause _ _ _ 104 _ [] _ Q
              refine r_aload_n dX4_readClause_104 rfl ?_
              refine r_iload dX4_readClause_105 rfl ?_
              refine r_if_eq 114 dX4_readClause_107 rfl (fun hz => absurd hz (by decide)) (fun _ => ?_)
              refine r_iconst (4) dX4_readClause_110 rfl ?_
              refine r_goto 115 dX4_readClause_111 rfl ?_
              refine r_iload_n dX4_readClause_115 rfl ?_
              refine r_callV2 (ci := 4) (d1 := 0) (c1 := 0) (n1 := 0) dX4_readClause_116 mvX4_87 rfl ⟨(Nat.le_of_ble_eq_true rfl), rfl⟩ (by omega) (by exact Nat.le_of_ble_eq_true rfl) (by exact k_152 h15.F) ?_
              refine S_emitS h15 (v := wrd b n s * 512 + 4) rfl (by have v := sumP_g 6 _ w.2.2 r hr; have w2 := ad_of t2 (by decide); have v2 := orsP_g 6 _ w2.2.2 c hc; have w3 := ad_of t101 (by decide); rw [List.length_append, List.length_append]; omega) (fun m17 q17 h17 => ?_)
              have o17 := (o15 : Off 152 153 m _).tr q17
              show Wp g mX4_readClause _ _ _ 119 _ [] _ Q
              refine r_return dX4_readClause_119 rfl ?_
              rw [show L ++ r.2.1 ++ c.2.1 ++ [wrd b n s * 512 + 4] = L ++ (r.2.1 ++ c.2.1 ++ [wrd b n s * 512 + 4]) from by simp only [List.append_assoc]] at h17
              exact k1 (adP b n c.1, r.2.1 ++ c.2.1 ++ [wrd b n s * 512 + 4], wrd b n s, r.2.2, c.2.2) ((if_pos c0).trans ((if_neg ti).trans ((rB_r hr).trans ((if_pos t2).trans ((rB_r hc).trans (if_pos t101)))))) _ o17 h17
            ·
              have o16 := (o12 : Off 152 153 m _).tr q16
              show Wp g mX4_readClause _ _ _ 104 _ [] _ Q
              refine r_aload_n dX4_readClause_104 rfl ?_
              refine r_iload dX4_readClause_105 rfl ?_
              refine r_if_eq 114 dX4_readClause_107 rfl (fun hz => absurd hz (by decide)) (fun _ => ?_)
              refine r_iconst (4) dX4_readClause_110 rfl ?_
              refine r_goto 115 dX4_readClause_111 rfl ?_
              refine r_iload_n dX4_readClause_115 rfl ?_
              refine r_callV2 (ci := 4) (d1 := 0) (c1 := 0) (n1 := 0) dX4_readClause_116 mvX4_87 rfl ⟨(Nat.le_of_ble_eq_true rfl), rfl⟩ (by omega) (by exact Nat.le_of_ble_eq_true rfl) (by exact k_152 h16.F) ?_
              refine S_emitB h16 (fun m18 q18 h18 => ?_)
              have o18 := (o16 : Off 152 153 m _).tr q18
              show Wp g mX4_readClause _ _ _ 119 _ [] _ Q
              refine r_return dX4_readClause_119 rfl ?_
              first
                | exact k0 ec ((if_pos c0).trans ((if_neg ti).trans ((rB_r hr).trans ((if_pos t2).trans (rB_l hec))))) _ o18 h18
                | exact k0 (1, c.1) ((if_pos c0).trans ((if_neg ti).trans ((rB_r hr).trans ((if_pos t2).trans ((rB_r hc).trans (if_neg t101)))))) _ o18 h18
    ·
      refine r_aload_n dX4_readClause_50 rfl ?_
      refine r_iconst (3) dX4_readClause_51 rfl ?_
      refine r_callV1 (ci := 4) (d1 := 0) (c1 := 0) (n1 := 0) dX4_readClause_52 mvX4_77 rfl ⟨(Nat.le_of_ble_eq_true rfl), rfl⟩ (by omega) (by exact Nat.le_of_ble_eq_true rfl) (by exact k_152 h.F) ?_
      refine S_failS h (by decide) (fun m19 q19 h19 => ?_)
      have o19 := q19
      show Wp g mX4_readClause _ _ _ 55 _ [] _ Q
      refine r_goto 119 dX4_readClause_55 rfl ?_
      refine r_return dX4_readClause_119 rfl ?_
      exact k0 (3, s) ((if_pos c0).trans (if_pos (Nat.le_of_not_lt (fun z => t1 (nI_lt (a := i) (b := 16) z (by omega)))))) _ o19 h19
  ·
    show Wp g mX4_readClause _ _ _ 20 _ (_ :: _) _ Q
    refine r_goto 29 dX4_readClause_20 rfl ?_
    refine si_4 dX4_readClause_29 rfl (Nat.le_of_ble_eq_true rfl) ?_
    refine r_iload dX4_readClause_31 rfl ?_
    refine r_if_ne 44 dX4_readClause_33 rfl (fun hz => absurd hz (by decide)) (fun _ => ?_)
    refine r_aload_n dX4_readClause_36 rfl ?_
    refine r_iconst (1) dX4_readClause_37 rfl ?_
    refine r_callV1 (ci := 4) (d1 := 0) (c1 := 0) (n1 := 0) dX4_readClause_38 mvX4_77 rfl ⟨(Nat.le_of_ble_eq_true rfl), rfl⟩ (by omega) (by exact Nat.le_of_ble_eq_true rfl) (by exact k_152 h.F) ?_
    refine S_failS h (by decide) (fun m20 q20 h20 => ?_)
    have o20 := q20
    show Wp g mX4_readClause _ _ _ 41 _ [] _ Q
    refine r_goto 119 dX4_readClause_41 rfl ?_
    refine r_return dX4_readClause_119 rfl ?_
    exact k0 (1, s) (if_neg zc) _ o20 h20
