theorem S_unit {g : GG} {b : Nat → Int32} {n o d : Nat} {f : Option (Nat → Rs)} (hd : 7 ≤ d) (ho : o ≤ 6) (hf : GdO b n f) (hi : InH g b n o d f) : NtOK g b n mX4_readUnit [] o (d + 2) (untP b n f) := by
  intro m s L Q h hl k0 k1
  refine Cl.of rfl (by decide) (Nat.le_of_ble_eq_true rfl) ?_
  show Wp g mX4_readUnit (d + 2) 0 0 0 [.ref 152, .retAddr 0] [] m Q
  have hn4 := h.1.2.1
  have hsn := h.2.1
  refine r_aload_n dX4_readUnit_0 rfl ?_
  refine r_getIc (tkP b n s) dX4_readUnit_1 fgX4_55 rfl (by exact k_152 h.F) (by exact h.tk) ?_
  refine si_1 dX4_readUnit_4 rfl (Nat.le_of_ble_eq_true rfl) ?_
  refine r_iload_n dX4_readUnit_5 rfl ?_
  refine r_bipush (-2) dX4_readUnit_6 rfl ?_
  refine r_icmp_ne 18 dX4_readUnit_8 rfl (fun t1 => ?_) (fun t1 => ?_)
  ·
    refine r_iload_n dX4_readUnit_18 rfl ?_
    refine r_sipush (264) dX4_readUnit_19 rfl ?_
    refine r_sipush (273) dX4_readUnit_22 rfl ?_
    refine r_callN3 (d1 := 0) (c1 := 0) (n1 := 0) dX4_readUnit_25 msX4_73 (by omega) (by exact Nat.le_of_ble_eq_true rfl) ?_
    refine S_X11_isWithin (fun za zb => ?_) (fun zc => ?_)
    ·
      show Wp g mX4_readUnit _ _ _ 28 _ (_ :: _) _ Q
      refine r_if_eq 48 dX4_readUnit_28 rfl (fun hz => absurd hz (by decide)) (fun _ => ?_)
      have w := ad_of (b := b) (n := n) (s := s) rfl (i32_in ⟨za, zb⟩)
      refine r_aload_n dX4_readUnit_31 rfl ?_
      refine r_iconst (2) dX4_readUnit_32 rfl ?_
      refine r_iload_n dX4_readUnit_33 rfl ?_
      refine r_sipush (264) dX4_readUnit_34 rfl ?_
      refine r_isub dX4_readUnit_37 ?_
      refine r_callV2 (ci := 4) (d1 := 0) (c1 := 0) (n1 := 0) dX4_readUnit_38 mvX4_87 rfl ⟨(Nat.le_of_ble_eq_true rfl), rfl⟩ (by omega) (by exact Nat.le_of_ble_eq_true rfl) (by exact k_152 h.F) ?_
      refine S_emitS h (v := (tkP b n s - 264) * 512 + 2) rfl (by omega) (fun m1 q1 h1 => ?_)
      have o1 := q1
      show Wp g mX4_readUnit _ _ _ 41 _ [] _ Q
      refine r_aload_n dX4_readUnit_41 rfl ?_
      refine r_callV0 (ci := 4) (d1 := 6) (c1 := 0) (n1 := 0) dX4_readUnit_42 mvX4_52 rfl ⟨(Nat.le_of_ble_eq_true rfl), rfl⟩ (by omega) (by exact Nat.le_of_ble_eq_true rfl) (by exact k_152 h1.F) ?_
      refine S_advS h1 (fun m2 q2 h2 => ?_)
      have o2 := (o1 : Off 152 153 m _).tr q2
      show Wp g mX4_readUnit _ _ _ 45 _ [] _ Q
      refine r_goto 117 dX4_readUnit_45 rfl ?_
      refine r_return dX4_readUnit_117 rfl ?_
      exact k1 (adP b n s, [(tkP b n s - 264) * 512 + 2], fun N => N (tkP b n s - 264).toNatClampNeg) ((if_neg t1).trans (if_pos ⟨za, zb⟩)) m2 o2 h2
    ·
      show Wp g mX4_readUnit _ _ _ 28 _ (_ :: _) _ Q
      refine r_if_eq 48 dX4_readUnit_28 rfl (fun _ => ?_) (fun hz => absurd hz (by decide))
      refine r_iload_n dX4_readUnit_48 rfl ?_
      refine r_bipush (40) dX4_readUnit_49 rfl ?_
      refine r_icmp_ne 62 dX4_readUnit_51 rfl (fun t3 => ?_) (fun t3 => ?_)
      ·
        refine r_iload_n dX4_readUnit_62 rfl ?_
        refine r_sipush (276) dX4_readUnit_63 rfl ?_
        refine r_icmp_eq 83 dX4_readUnit_66 rfl (fun t4 => ?_) (fun t4 => ?_)
        ·
          have w := ad_of t4 (by decide)
          refine r_aload_n dX4_readUnit_83 rfl ?_
          refine r_callV0 (ci := 4) (d1 := 6) (c1 := 0) (n1 := 0) dX4_readUnit_84 mvX4_52 rfl ⟨(Nat.le_of_ble_eq_true rfl), rfl⟩ (by omega) (by exact Nat.le_of_ble_eq_true rfl) (by exact k_152 h.F) ?_
          refine S_advS h (fun m3 q3 h3 => ?_)
          have o3 := q3
          show Wp g mX4_readUnit _ _ _ 87 _ [] _ Q
          refine r_aload_n dX4_readUnit_87 rfl ?_
          refine r_iload_n dX4_readUnit_88 rfl ?_
          refine r_sipush (276) dX4_readUnit_89 rfl ?_
          refine r_icmp_eq 99 dX4_readUnit_92 rfl (fun t7 => ?_) (fun t7 => ?_)
          ·
            refine r_iconst (0) dX4_readUnit_99 rfl ?_
            refine r_callV1 (ci := 4) (d1 := d + 1) (c1 := 0) (n1 := 0) dX4_readUnit_100 mvX4_114 rfl ⟨(Nat.le_of_ble_eq_true rfl), rfl⟩ (by omega) (by exact Nat.le_of_ble_eq_true rfl) (by exact k_152 h3.F) ?_
            refine S_ins0 hd hi h3 ho (by omega) (fun er her m4 q4 h4 => ?_) (fun r hr m5 q5 h5 => ?_)
            ·
              have o4 := (o3 : Off 152 153 m _).tr q4
              show Wp g mX4_readUnit _ _ _ 103 _ [] _ Q
              refine r_aload_n dX4_readUnit_103 rfl ?_
              refine r_iload_n dX4_readUnit_104 rfl ?_
              refine r_iconst (0) dX4_readUnit_105 rfl ?_
              refine r_callV2 (ci := 4) (d1 := 0) (c1 := 0) (n1 := 0) dX4_readUnit_106 mvX4_87 rfl ⟨(Nat.le_of_ble_eq_true rfl), rfl⟩ (by omega) (by exact Nat.le_of_ble_eq_true rfl) (by exact k_152 h4.F) ?_
              refine S_emitB h4 (fun m6 q6 h6 => ?_)
              have o6 := (o4 : Off 152 153 m _).tr q6
              show Wp g mX4_readUnit _ _ _ 109 _ [] _ Q
              refine r_goto 117 dX4_readUnit_109 rfl ?_
              refine r_return dX4_readUnit_117 rfl ?_
              exact k0 er ((if_neg t1).trans ((if_neg zc).trans ((if_neg t3).trans ((if_pos t4).trans (rB_l her))))) m6 o6 h6
            ·
              have o5 := (o3 : Off 152 153 m _).tr q5
              show Wp g mX4_readUnit _ _ _ 103 _ [] _ Q
              refine r_aload_n dX4_readUnit_103 rfl ?_
              refine r_iload_n dX4_readUnit_104 rfl ?_
              refine r_iconst (0) dX4_readUnit_105 rfl ?_
              refine r_callV2 (ci := 4) (d1 := 0) (c1 := 0) (n1 := 0) dX4_readUnit_106 mvX4_87 rfl ⟨(Nat.le_of_ble_eq_true rfl), rfl⟩ (by omega) (by exact Nat.le_of_ble_eq_true rfl) (by exact k_152 h5.F) ?_
              refine S_emitS h5 (v := 276) (by rw [t4]; rfl) (by have := insP_g hf w.2.2 hr; rw [List.length_append]; omega) (fun m7 q7 h7 => ?_)
              have o7 := (o5 : Off 152 153 m _).tr q7
              show Wp g mX4_readUnit _ _ _ 109 _ [] _ Q
              refine r_goto 117 dX4_readUnit_109 rfl ?_
              refine r_return dX4_readUnit_117 rfl ?_
              rw [List.append_assoc] at h7; exact k1 (r.1, r.2.1 ++ [276], fun N => rtF (r.2.2.1 N)) ((if_neg t1).trans ((if_neg zc).trans ((if_neg t3).trans ((if_pos t4).trans (rB_r hr))))) m7 o7 h7
          ·
            exact absurd t4 t7
        ·
          refine r_iload_n dX4_readUnit_69 rfl ?_
          refine r_sipush (274) dX4_readUnit_70 rfl ?_
          refine r_icmp_eq 83 dX4_readUnit_73 rfl (fun t5 => ?_) (fun t5 => ?_)
          ·
            have w := ad_of t5 (by decide)
            refine r_aload_n dX4_readUnit_83 rfl ?_
            refine r_callV0 (ci := 4) (d1 := 6) (c1 := 0) (n1 := 0) dX4_readUnit_84 mvX4_52 rfl ⟨(Nat.le_of_ble_eq_true rfl), rfl⟩ (by omega) (by exact Nat.le_of_ble_eq_true rfl) (by exact k_152 h.F) ?_
            refine S_advS h (fun m8 q8 h8 => ?_)
            have o8 := q8
            show Wp g mX4_readUnit _ _ _ 87 _ [] _ Q
            refine r_aload_n dX4_readUnit_87 rfl ?_
            refine r_iload_n dX4_readUnit_88 rfl ?_
            refine r_sipush (276) dX4_readUnit_89 rfl ?_
            refine r_icmp_eq 99 dX4_readUnit_92 rfl (fun t7 => ?_) (fun t7 => ?_)
            ·
              exact absurd t7 t4
            ·
              refine r_iconst (1) dX4_readUnit_95 rfl ?_
              refine r_goto 100 dX4_readUnit_96 rfl ?_
              refine r_callV1 (ci := 4) (d1 := d + 1) (c1 := 0) (n1 := 0) dX4_readUnit_100 mvX4_114 rfl ⟨(Nat.le_of_ble_eq_true rfl), rfl⟩ (by omega) (by exact Nat.le_of_ble_eq_true rfl) (by exact k_152 h8.F) ?_
              refine S_ins1 hd hi h8 ho (by omega) (fun er her m9 q9 h9 => ?_) (fun r hr m10 q10 h10 => ?_)
              ·
                have o9 := (o8 : Off 152 153 m _).tr q9
                show Wp g mX4_readUnit _ _ _ 103 _ [] _ Q
                refine r_aload_n dX4_readUnit_103 rfl ?_
                refine r_iload_n dX4_readUnit_104 rfl ?_
                refine r_iconst (0) dX4_readUnit_105 rfl ?_
                refine r_callV2 (ci := 4) (d1 := 0) (c1 := 0) (n1 := 0) dX4_readUnit_106 mvX4_87 rfl ⟨(Nat.le_of_ble_eq_true rfl), rfl⟩ (by omega) (by exact Nat.le_of_ble_eq_true rfl) (by exact k_152 h9.F) ?_
                refine S_emitB h9 (fun m11 q11 h11 => ?_)
                have o11 := (o9 : Off 152 153 m _).tr q11
                show Wp g mX4_readUnit _ _ _ 109 _ [] _ Q
                refine r_goto 117 dX4_readUnit_109 rfl ?_
                refine r_return dX4_readUnit_117 rfl ?_
                exact k0 er ((if_neg t1).trans ((if_neg zc).trans ((if_neg t3).trans ((if_neg t4).trans ((if_pos (Or.inl t5)).trans (rB_l her)))))) m11 o11 h11
              ·
                have o10 := (o8 : Off 152 153 m _).tr q10
                show Wp g mX4_readUnit _ _ _ 103 _ [] _ Q
                refine r_aload_n dX4_readUnit_103 rfl ?_
                refine r_iload_n dX4_readUnit_104 rfl ?_
                refine r_iconst (0) dX4_readUnit_105 rfl ?_
                refine r_callV2 (ci := 4) (d1 := 0) (c1 := 0) (n1 := 0) dX4_readUnit_106 mvX4_87 rfl ⟨(Nat.le_of_ble_eq_true rfl), rfl⟩ (by omega) (by exact Nat.le_of_ble_eq_true rfl) (by exact k_152 h10.F) ?_
                refine S_emitS h10 (v := tkP b n s) (z512 _) (by have := insP_g hf w.2.2 hr; rw [List.length_append]; omega) (fun m12 q12 h12 => ?_)
                have o12 := (o10 : Off 152 153 m _).tr q12
                show Wp g mX4_readUnit _ _ _ 109 _ [] _ Q
                refine r_goto 117 dX4_readUnit_109 rfl ?_
                refine r_return dX4_readUnit_117 rfl ?_
                rw [List.append_assoc] at h12; exact k1 (r.1, r.2.1 ++ [tkP b n s], fun N => jnF (tkP b n s) (r.2.2.1 N) (r.2.2.2 N)) ((if_neg t1).trans ((if_neg zc).trans ((if_neg t3).trans ((if_neg t4).trans ((if_pos (Or.inl t5)).trans (rB_r hr)))))) m12 o12 h12
          ·
            refine r_iload_n dX4_readUnit_76 rfl ?_
            refine r_sipush (275) dX4_readUnit_77 rfl ?_
            refine r_icmp_ne 112 dX4_readUnit_80 rfl (fun t6 => ?_) (fun t6 => ?_)
            ·
              refine r_aload_n dX4_readUnit_112 rfl ?_
              refine r_iconst (1) dX4_readUnit_113 rfl ?_
              refine r_callV1 (ci := 4) (d1 := 0) (c1 := 0) (n1 := 0) dX4_readUnit_114 mvX4_77 rfl ⟨(Nat.le_of_ble_eq_true rfl), rfl⟩ (by omega) (by exact Nat.le_of_ble_eq_true rfl) (by exact k_152 h.F) ?_
              refine S_failS h (by decide) (fun m13 q13 h13 => ?_)
              have o13 := q13
              show Wp g mX4_readUnit _ _ _ 117 _ [] _ Q
              refine r_return dX4_readUnit_117 rfl ?_
              exact k0 (1, s) ((if_neg t1).trans ((if_neg zc).trans ((if_neg t3).trans ((if_neg t4).trans (if_neg (fun q => q.elim t5 t6)))))) m13 o13 h13
            ·
              have w := ad_of t6 (by decide)
              refine r_aload_n dX4_readUnit_83 rfl ?_
              refine r_callV0 (ci := 4) (d1 := 6) (c1 := 0) (n1 := 0) dX4_readUnit_84 mvX4_52 rfl ⟨(Nat.le_of_ble_eq_true rfl), rfl⟩ (by omega) (by exact Nat.le_of_ble_eq_true rfl) (by exact k_152 h.F) ?_
              refine S_advS h (fun m14 q14 h14 => ?_)
              have o14 := q14
              show Wp g mX4_readUnit _ _ _ 87 _ [] _ Q
              refine r_aload_n dX4_readUnit_87 rfl ?_
              refine r_iload_n dX4_readUnit_88 rfl ?_
              refine r_sipush (276) dX4_readUnit_89 rfl ?_
              refine r_icmp_eq 99 dX4_readUnit_92 rfl (fun t7 => ?_) (fun t7 => ?_)
              ·
                exact absurd t7 t4
              ·
                refine r_iconst (1) dX4_readUnit_95 rfl ?_
                refine r_goto 100 dX4_readUnit_96 rfl ?_
                refine r_callV1 (ci := 4) (d1 := d + 1) (c1 := 0) (n1 := 0) dX4_readUnit_100 mvX4_114 rfl ⟨(Nat.le_of_ble_eq_true rfl), rfl⟩ (by omega) (by exact Nat.le_of_ble_eq_true rfl) (by exact k_152 h14.F) ?_
                refine S_ins1 hd hi h14 ho (by omega) (fun er her m15 q15 h15 => ?_) (fun r hr m16 q16 h16 => ?_)
                ·
                  have o15 := (o14 : Off 152 153 m _).tr q15
                  show Wp g mX4_readUnit _ _ _ 103 _ [] _ Q
                  refine r_aload_n dX4_readUnit_103 rfl ?_
                  refine r_iload_n dX4_readUnit_104 rfl ?_
                  refine r_iconst (0) dX4_readUnit_105 rfl ?_
                  refine r_callV2 (ci := 4) (d1 := 0) (c1 := 0) (n1 := 0) dX4_readUnit_106 mvX4_87 rfl ⟨(Nat.le_of_ble_eq_true rfl), rfl⟩ (by omega) (by exact Nat.le_of_ble_eq_true rfl) (by exact k_152 h15.F) ?_
                  refine S_emitB h15 (fun m17 q17 h17 => ?_)
                  have o17 := (o15 : Off 152 153 m _).tr q17
                  show Wp g mX4_readUnit _ _ _ 109 _ [] _ Q
                  refine r_goto 117 dX4_readUnit_109 rfl ?_
                  refine r_return dX4_readUnit_117 rfl ?_
                  exact k0 er ((if_neg t1).trans ((if_neg zc).trans ((if_neg t3).trans ((if_neg t4).trans ((if_pos (Or.inr t6)).trans (rB_l her)))))) m17 o17 h17
                ·
                  have o16 := (o14 : Off 152 153 m _).tr q16
                  show Wp g mX4_readUnit _ _ _ 103 _ [] _ Q
                  refine r_aload_n dX4_readUnit_103 rfl ?_
                  refine r_iload_n dX4_readUnit_104 rfl ?_
                  refine r_iconst (0) dX4_readUnit_105 rfl ?_
                  refine r_callV2 (ci := 4) (d1 := 0) (c1 := 0) (n1 := 0) dX4_readUnit_106 mvX4_87 rfl ⟨(Nat.le_of_ble_eq_true rfl), rfl⟩ (by omega) (by exact Nat.le_of_ble_eq_true rfl) (by exact k_152 h16.F) ?_
                  refine S_emitS h16 (v := tkP b n s) (z512 _) (by have := insP_g hf w.2.2 hr; rw [List.length_append]; omega) (fun m18 q18 h18 => ?_)
                  have o18 := (o16 : Off 152 153 m _).tr q18
                  show Wp g mX4_readUnit _ _ _ 109 _ [] _ Q
                  refine r_goto 117 dX4_readUnit_109 rfl ?_
                  refine r_return dX4_readUnit_117 rfl ?_
                  rw [List.append_assoc] at h18; exact k1 (r.1, r.2.1 ++ [tkP b n s], fun N => jnF (tkP b n s) (r.2.2.1 N) (r.2.2.2 N)) ((if_neg t1).trans ((if_neg zc).trans ((if_neg t3).trans ((if_neg t4).trans ((if_pos (Or.inr t6)).trans (rB_r hr)))))) m18 o18 h18
      ·
        refine r_aload_n dX4_readUnit_54 rfl ?_
        refine r_iconst (0) dX4_readUnit_55 rfl ?_
        refine r_callV1 (ci := 4) (d1 := d + 1) (c1 := 0) (n1 := 0) dX4_readUnit_56 mvX4_114 rfl ⟨(Nat.le_of_ble_eq_true rfl), rfl⟩ (by omega) (by exact Nat.le_of_ble_eq_true rfl) (by exact k_152 h.F) ?_
        refine S_ins0 hd hi h ho (by omega) (fun er her m19 q19 h19 => ?_) (fun r hr m20 q20 h20 => ?_)
        ·
          have o19 := q19
          show Wp g mX4_readUnit _ _ _ 59 _ [] _ Q
          refine r_goto 117 dX4_readUnit_59 rfl ?_
          refine r_return dX4_readUnit_117 rfl ?_
          exact k0 er ((if_neg t1).trans ((if_neg zc).trans ((if_pos t3).trans (rB_l her)))) m19 o19 h19
        ·
          have o20 := q20
          show Wp g mX4_readUnit _ _ _ 59 _ [] _ Q
          refine r_goto 117 dX4_readUnit_59 rfl ?_
          refine r_return dX4_readUnit_117 rfl ?_
          exact k1 (r.1, r.2.1, r.2.2.1) ((if_neg t1).trans ((if_neg zc).trans ((if_pos t3).trans (rB_r hr)))) m20 o20 h20
  ·
    refine r_aload_n dX4_readUnit_11 rfl ?_
    refine r_callV0 (ci := 4) (d1 := 7) (c1 := 0) (n1 := 0) dX4_readUnit_12 mvX4_111 rfl ⟨(Nat.le_of_ble_eq_true rfl), rfl⟩ (by omega) (by exact Nat.le_of_ble_eq_true rfl) (by exact k_152 h.F) ?_
    refine S_readNumber h hl t1 (fun u1 m22 q22 h22 => ?_) (fun u1 m21 q21 h21 => ?_)
    ·
      have o22 := q22
      show Wp g mX4_readUnit _ _ _ 15 _ [] _ Q
      refine r_goto 117 dX4_readUnit_15 rfl ?_
      refine r_return dX4_readUnit_117 rfl ?_
      exact k0 (2, s) ((if_pos t1).trans (if_neg u1)) m22 o22 h22
    ·
      have o21 := q21
      show Wp g mX4_readUnit _ _ _ 15 _ [] _ Q
      refine r_goto 117 dX4_readUnit_15 rfl ?_
      refine r_return dX4_readUnit_117 rfl ?_
      exact k1 (adP b n s, [nmC b n s * 512 + 1], fun _ => (nmC b n s).toInt64) ((if_pos t1).trans (if_pos u1)) m21 o21 h21
theorem S_sum {g : GG} {b : Nat → Int32} {n : Nat} : ∀ u o, u + o = 6 → NtOK g b n mX4_readChain [.int 2] o (13 + 6 * u) (sumP b n u)
  | 0, o, h => by
    have hf : GdO b n none := fun F h => by cases h
    exact S_chain2 (d := 12) (by omega) (S_prt2 (S_chain3 (d := 10) (by omega) (S_prt3 (S_unit (d := 7) (by omega) (by omega) hf (Or.inl ⟨by omega, rfl⟩))) (untP_g hf))) (chn_g (untP_g hf) rfl)
  | u + 1, o, h => by
    have ih := S_sum (g := g) (b := b) (n := n) u (o + 1) (by omega)
    have hf : GdO b n (some (sumP b n u)) := fun F h => by cases h; exact sumP_g u
    have z := S_chain2 (g := g) (o := o) (d := 13 + 6 * u + 5) (by omega) (S_prt2 (S_chain3 (d := 13 + 6 * u + 3) (by omega) (S_prt3 (S_unit (d := 13 + 6 * u) (by omega) (by omega) hf (Or.inr ⟨by omega, sumP b n u, rfl, sumP_g u, ih⟩))) (untP_g hf))) (chn_g (untP_g hf) rfl)
    rw [show 13 + 6 * (u + 1) = 13 + 6 * u + 5 + 1 from by omega]
    exact z
theorem S_cmp {g : GG} {b : Nat → Int32} {n o d : Nat} {f : Nat → Rs} (hd : 6 ≤ d) (hg : GdF b n f) (hp : NtOK g b n mX4_readChain [.int 2] o d f) : NtOK g b n mX4_readComparison [] o (d + 1) (cmpP b n f) := by
  intro m s L Q h hl k0 k1
  refine Cl.of rfl (by decide) (Nat.le_of_ble_eq_true rfl) ?_
  show Wp g mX4_readComparison (d + 1) 0 0 0 [.ref 152, .retAddr 0] [] m Q
  have hn4 := h.1.2.1
  have hsn := h.2.1
  refine r_aload_n dX4_readComparison_0 rfl ?_
  refine r_iconst (2) dX4_readComparison_1 rfl ?_
  refine r_callV1 (ci := 4) (d1 := d) (c1 := 0) (n1 := 0) dX4_readComparison_2 mvX4_81 rfl ⟨(Nat.le_of_ble_eq_true rfl), rfl⟩ (by omega) (by exact Nat.le_of_ble_eq_true rfl) (by exact k_152 h.F) ?_
  refine hp _ _ _ _ h hl (fun er her m1 q1 h1 => ?_) (fun r hr m2 q2 h2 => ?_)
  ·
    have o1 := q1
    show Wp g mX4_readComparison _ _ _ 5 _ [] _ Q
    refine r_aload_n dX4_readComparison_5 rfl ?_
    refine r_getIc (-4) dX4_readComparison_6 fgX4_55 rfl (by exact k_152 h1.F) (by exact h1.2.1) ?_
    refine si_1 dX4_readComparison_9 rfl (Nat.le_of_ble_eq_true rfl) ?_
    refine r_iload_n dX4_readComparison_10 rfl ?_
    refine r_bipush (60) dX4_readComparison_11 rfl ?_
    refine r_icmp_eq 28 dX4_readComparison_13 rfl (fun hz => absurd hz (by decide)) (fun _ => ?_)
    refine r_iload_n dX4_readComparison_16 rfl ?_
    refine r_bipush (62) dX4_readComparison_17 rfl ?_
    refine r_icmp_eq 28 dX4_readComparison_19 rfl (fun hz => absurd hz (by decide)) (fun _ => ?_)
    refine r_iload_n dX4_readComparison_22 rfl ?_
    refine r_bipush (61) dX4_readComparison_23 rfl ?_
    refine r_icmp_ne 46 dX4_readComparison_25 rfl (fun _ => ?_) (fun hz => absurd hz (by decide))
    refine r_aload_n dX4_readComparison_46 rfl ?_
    refine r_iconst (1) dX4_readComparison_47 rfl ?_
    refine r_callV1 (ci := 4) (d1 := 0) (c1 := 0) (n1 := 0) dX4_readComparison_48 mvX4_77 rfl ⟨(Nat.le_of_ble_eq_true rfl), rfl⟩ (by omega) (by exact Nat.le_of_ble_eq_true rfl) (by exact k_152 h1.F) ?_
    refine S_failB h1 (fun m3 q3 h3 => ?_)
    have o3 := (o1 : Off 152 153 m _).tr q3
    show Wp g mX4_readComparison _ _ _ 51 _ [] _ Q
    refine r_return dX4_readComparison_51 rfl ?_
    exact k0 er (rB_l her) m3 o3 h3
  ·
    have o2 := q2
    show Wp g mX4_readComparison _ _ _ 5 _ [] _ Q
    refine r_aload_n dX4_readComparison_5 rfl ?_
    refine r_getIc (tkP b n r.1) dX4_readComparison_6 fgX4_55 rfl (by exact k_152 h2.F) (by exact h2.tk) ?_
    refine si_1 dX4_readComparison_9 rfl (Nat.le_of_ble_eq_true rfl) ?_
    refine r_iload_n dX4_readComparison_10 rfl ?_
    refine r_bipush (60) dX4_readComparison_11 rfl ?_
    refine r_icmp_eq 28 dX4_readComparison_13 rfl (fun t1 => ?_) (fun t1 => ?_)
    ·
      have w := ad_of t1 (by decide)
      refine r_aload_n dX4_readComparison_28 rfl ?_
      refine r_callV0 (ci := 4) (d1 := 6) (c1 := 0) (n1 := 0) dX4_readComparison_29 mvX4_52 rfl ⟨(Nat.le_of_ble_eq_true rfl), rfl⟩ (by omega) (by exact Nat.le_of_ble_eq_true rfl) (by exact k_152 h2.F) ?_
      refine S_advS h2 (fun m4 q4 h4 => ?_)
      have o4 := (o2 : Off 152 153 m _).tr q4
      show Wp g mX4_readComparison _ _ _ 32 _ [] _ Q
      refine r_aload_n dX4_readComparison_32 rfl ?_
      refine r_iconst (2) dX4_readComparison_33 rfl ?_
      refine r_callV1 (ci := 4) (d1 := d) (c1 := 0) (n1 := 0) dX4_readComparison_34 mvX4_81 rfl ⟨(Nat.le_of_ble_eq_true rfl), rfl⟩ (by omega) (by exact Nat.le_of_ble_eq_true rfl) (by exact k_152 h4.F) ?_
      refine hp _ _ _ _ h4 (by have v := hg _ hsn r hr; rw [List.length_append]; omega) (fun er2 her2 m5 q5 h5 => ?_) (fun r2 hr2 m6 q6 h6 => ?_)
      ·
        have o5 := (o4 : Off 152 153 m _).tr q5
        show Wp g mX4_readComparison _ _ _ 37 _ [] _ Q
        refine r_aload_n dX4_readComparison_37 rfl ?_
        refine r_iload_n dX4_readComparison_38 rfl ?_
        refine r_iconst (0) dX4_readComparison_39 rfl ?_
        refine r_callV2 (ci := 4) (d1 := 0) (c1 := 0) (n1 := 0) dX4_readComparison_40 mvX4_87 rfl ⟨(Nat.le_of_ble_eq_true rfl), rfl⟩ (by omega) (by exact Nat.le_of_ble_eq_true rfl) (by exact k_152 h5.F) ?_
        refine S_emitB h5 (fun m7 q7 h7 => ?_)
        have o7 := (o5 : Off 152 153 m _).tr q7
        show Wp g mX4_readComparison _ _ _ 43 _ [] _ Q
        refine r_goto 51 dX4_readComparison_43 rfl ?_
        refine r_return dX4_readComparison_51 rfl ?_
        exact k0 er2 ((rB_r hr).trans ((if_pos (Or.inl t1)).trans (rB_l her2))) m7 o7 h7
      ·
        have o6 := (o4 : Off 152 153 m _).tr q6
        show Wp g mX4_readComparison _ _ _ 37 _ [] _ Q
        refine r_aload_n dX4_readComparison_37 rfl ?_
        refine r_iload_n dX4_readComparison_38 rfl ?_
        refine r_iconst (0) dX4_readComparison_39 rfl ?_
        refine r_callV2 (ci := 4) (d1 := 0) (c1 := 0) (n1 := 0) dX4_readComparison_40 mvX4_87 rfl ⟨(Nat.le_of_ble_eq_true rfl), rfl⟩ (by omega) (by exact Nat.le_of_ble_eq_true rfl) (by exact k_152 h6.F) ?_
        refine S_emitS h6 (v := tkP b n r.1) (z512 _) (by have v := hg _ hsn r hr; have v2 := hg _ w.2.2 r2 hr2; rw [List.length_append, List.length_append]; omega) (fun m8 q8 h8 => ?_)
        have o8 := (o6 : Off 152 153 m _).tr q8
        show Wp g mX4_readComparison _ _ _ 43 _ [] _ Q
        refine r_goto 51 dX4_readComparison_43 rfl ?_
        refine r_return dX4_readComparison_51 rfl ?_
        rw [show L ++ r.2.1 ++ r2.2.1 ++ [tkP b n r.1] = L ++ (r.2.1 ++ r2.2.1 ++ [tkP b n r.1]) from by simp only [List.append_assoc]] at h8
        exact k1 (r2.1, r.2.1 ++ r2.2.1 ++ [tkP b n r.1], fun N => jnF (tkP b n r.1) (r.2.2 N) (r2.2.2 N)) ((rB_r hr).trans ((if_pos (Or.inl t1)).trans (rB_r hr2))) m8 o8 h8
    ·
      refine r_iload_n dX4_readComparison_16 rfl ?_
      refine r_bipush (62) dX4_readComparison_17 rfl ?_
      refine r_icmp_eq 28 dX4_readComparison_19 rfl (fun t2 => ?_) (fun t2 => ?_)
      ·
        have w := ad_of t2 (by decide)
        refine r_aload_n dX4_readComparison_28 rfl ?_
        refine r_callV0 (ci := 4) (d1 := 6) (c1 := 0) (n1 := 0) dX4_readComparison_29 mvX4_52 rfl ⟨(Nat.le_of_ble_eq_true rfl), rfl⟩ (by omega) (by exact Nat.le_of_ble_eq_true rfl) (by exact k_152 h2.F) ?_
        refine S_advS h2 (fun m9 q9 h9 => ?_)
        have o9 := (o2 : Off 152 153 m _).tr q9
        show Wp g mX4_readComparison _ _ _ 32 _ [] _ Q
        refine r_aload_n dX4_readComparison_32 rfl ?_
        refine r_iconst (2) dX4_readComparison_33 rfl ?_
        refine r_callV1 (ci := 4) (d1 := d) (c1 := 0) (n1 := 0) dX4_readComparison_34 mvX4_81 rfl ⟨(Nat.le_of_ble_eq_true rfl), rfl⟩ (by omega) (by exact Nat.le_of_ble_eq_true rfl) (by exact k_152 h9.F) ?_
        refine hp _ _ _ _ h9 (by have v := hg _ hsn r hr; rw [List.length_append]; omega) (fun er2 her2 m10 q10 h10 => ?_) (fun r2 hr2 m11 q11 h11 => ?_)
        ·
          have o10 := (o9 : Off 152 153 m _).tr q10
          show Wp g mX4_readComparison _ _ _ 37 _ [] _ Q
          refine r_aload_n dX4_readComparison_37 rfl ?_
          refine r_iload_n dX4_readComparison_38 rfl ?_
          refine r_iconst (0) dX4_readComparison_39 rfl ?_
          refine r_callV2 (ci := 4) (d1 := 0) (c1 := 0) (n1 := 0) dX4_readComparison_40 mvX4_87 rfl ⟨(Nat.le_of_ble_eq_true rfl), rfl⟩ (by omega) (by exact Nat.le_of_ble_eq_true rfl) (by exact k_152 h10.F) ?_
          refine S_emitB h10 (fun m12 q12 h12 => ?_)
          have o12 := (o10 : Off 152 153 m _).tr q12
          show Wp g mX4_readComparison _ _ _ 43 _ [] _ Q
          refine r_goto 51 dX4_readComparison_43 rfl ?_
          refine r_return dX4_readComparison_51 rfl ?_
          exact k0 er2 ((rB_r hr).trans ((if_pos (Or.inr (Or.inl t2))).trans (rB_l her2))) m12 o12 h12
        ·
          have o11 := (o9 : Off 152 153 m _).tr q11
          show Wp g mX4_readComparison _ _ _ 37 _ [] _ Q
          refine r_aload_n dX4_readComparison_37 rfl ?_
          refine r_iload_n dX4_readComparison_38 rfl ?_
          refine r_iconst (0) dX4_readComparison_39 rfl ?_
          refine r_callV2 (ci := 4) (d1 := 0) (c1 := 0) (n1 := 0) dX4_readComparison_40 mvX4_87 rfl ⟨(Nat.le_of_ble_eq_true rfl), rfl⟩ (by omega) (by exact Nat.le_of_ble_eq_true rfl) (by exact k_152 h11.F) ?_
          refine S_emitS h11 (v := tkP b n r.1) (z512 _) (by have v := hg _ hsn r hr; have v2 := hg _ w.2.2 r2 hr2; rw [List.length_append, List.length_append]; omega) (fun m13 q13 h13 => ?_)
          have o13 := (o11 : Off 152 153 m _).tr q13
          show Wp g mX4_readComparison _ _ _ 43 _ [] _ Q
          refine r_goto 51 dX4_readComparison_43 rfl ?_
          refine r_return dX4_readComparison_51 rfl ?_
          rw [show L ++ r.2.1 ++ r2.2.1 ++ [tkP b n r.1] = L ++ (r.2.1 ++ r2.2.1 ++ [tkP b n r.1]) from by simp only [List.append_assoc]] at h13
          exact k1 (r2.1, r.2.1 ++ r2.2.1 ++ [tkP b n r.1], fun N => jnF (tkP b n r.1) (r.2.2 N) (r2.2.2 N)) ((rB_r hr).trans ((if_pos (Or.inr (Or.inl t2))).trans (rB_r hr2))) m13 o13 h13
      ·
        refine r_iload_n dX4_readComparison_22 rfl ?_
        refine r_bipush (61) dX4_readComparison_23 rfl ?_
        refine r_icmp_ne 46 dX4_readComparison_25 rfl (fun t3 => ?_) (fun t3 => ?_)
        ·
          refine r_aload_n dX4_readComparison_46 rfl ?_
          refine r_iconst (1) dX4_readComparison_47 rfl ?_
          refine r_callV1 (ci := 4) (d1 := 0) (c1 := 0) (n1 := 0) dX4_readComparison_48 mvX4_77 rfl ⟨(Nat.le_of_ble_eq_true rfl), rfl⟩ (by omega) (by exact Nat.le_of_ble_eq_true rfl) (by exact k_152 h2.F) ?_
          refine S_failS h2 (by decide) (fun m14 q14 h14 => ?_)
          have o14 := (o2 : Off 152 153 m _).tr q14
          show Wp g mX4_readComparison _ _ _ 51 _ [] _ Q
          refine r_return dX4_readComparison_51 rfl ?_
          exact k0 (1, r.1) ((rB_r hr).trans (if_neg (fun q => q.elim t1 (fun z => z.elim t2 t3)))) m14 o14 h14
        ·
          have w := ad_of t3 (by decide)
          refine r_aload_n dX4_readComparison_28 rfl ?_
          refine r_callV0 (ci := 4) (d1 := 6) (c1 := 0) (n1 := 0) dX4_readComparison_29 mvX4_52 rfl ⟨(Nat.le_of_ble_eq_true rfl), rfl⟩ (by omega) (by exact Nat.le_of_ble_eq_true rfl) (by exact k_152 h2.F) ?_
          refine S_advS h2 (fun m15 q15 h15 => ?_)
          have o15 := (o2 : Off 152 153 m _).tr q15
          show Wp g mX4_readComparison _ _ _ 32 _ [] _ Q
          refine r_aload_n dX4_readComparison_32 rfl ?_
          refine r_iconst (2) dX4_readComparison_33 rfl ?_
          refine r_callV1 (ci := 4) (d1 := d) (c1 := 0) (n1 := 0) dX4_readComparison_34 mvX4_81 rfl ⟨(Nat.le_of_ble_eq_true rfl), rfl⟩ (by omega) (by exact Nat.le_of_ble_eq_true rfl) (by exact k_152 h15.F) ?_
          refine hp _ _ _ _ h15 (by have v := hg _ hsn r hr; rw [List.length_append]; omega) (fun er2 her2 m16 q16 h16 => ?_) (fun r2 hr2 m17 q17 h17 => ?_)
          ·
            have o16 := (o15 : Off 152 153 m _).tr q16
            show Wp g mX4_readComparison _ _ _ 37 _ [] _ Q
            refine r_aload_n dX4_readComparison_37 rfl ?_
            refine r_iload_n dX4_readComparison_38 rfl ?_
            refine r_iconst (0) dX4_readComparison_39 rfl ?_
            refine r_callV2 (ci := 4) (d1 := 0) (c1 := 0) (n1 := 0) dX4_readComparison_40 mvX4_87 rfl ⟨(Nat.le_of_ble_eq_true rfl), rfl⟩ (by omega) (by exact Nat.le_of_ble_eq_true rfl) (by exact k_152 h16.F) ?_
            refine S_emitB h16 (fun m18 q18 h18 => ?_)
            have o18 := (o16 : Off 152 153 m _).tr q18
            show Wp g mX4_readComparison _ _ _ 43 _ [] _ Q
            refine r_goto 51 dX4_readComparison_43 rfl ?_
            refine r_return dX4_readComparison_51 rfl ?_
            exact k0 er2 ((rB_r hr).trans ((if_pos (Or.inr (Or.inr t3))).trans (rB_l her2))) m18 o18 h18
          ·
            have o17 := (o15 : Off 152 153 m _).tr q17
            show Wp g mX4_readComparison _ _ _ 37 _ [] _ Q
            refine r_aload_n dX4_readComparison_37 rfl ?_
            refine r_iload_n dX4_readComparison_38 rfl ?_
            refine r_iconst (0) dX4_readComparison_39 rfl ?_
            refine r_callV2 (ci := 4) (d1 := 0) (c1 := 0) (n1 := 0) dX4_readComparison_40 mvX4_87 rfl ⟨(Nat.le_of_ble_eq_true rfl), rfl⟩ (by omega) (by exact Nat.le_of_ble_eq_true rfl) (by exact k_152 h17.F) ?_
            refine S_emitS h17 (v := tkP b n r.1) (z512 _) (by have v := hg _ hsn r hr; have v2 := hg _ w.2.2 r2 hr2; rw [List.length_append, List.length_append]; omega) (fun m19 q19 h19 => ?_)
            have o19 := (o17 : Off 152 153 m _).tr q19
            show Wp g mX4_readComparison _ _ _ 43 _ [] _ Q
            refine r_goto 51 dX4_readComparison_43 rfl ?_
            refine r_return dX4_readComparison_51 rfl ?_
            rw [show L ++ r.2.1 ++ r2.2.1 ++ [tkP b n r.1] = L ++ (r.2.1 ++ r2.2.1 ++ [tkP b n r.1]) from by simp only [List.append_assoc]] at h19
            exact k1 (r2.1, r.2.1 ++ r2.2.1 ++ [tkP b n r.1], fun N => jnF (tkP b n r.1) (r.2.2 N) (r2.2.2 N)) ((rB_r hr).trans ((if_pos (Or.inr (Or.inr t3))).trans (rB_r hr2))) m19 o19 h19
