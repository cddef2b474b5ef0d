theorem E_unit {g : GG} {b : Nat → Int32} {n d : Nat} : NtE g b n mX12_unit d := by
  intro m K e Q h k
  refine Cl.of rfl (by decide) (Nat.le_of_ble_eq_true rfl) ?_
  show Wp g mX12_unit d 0 0 0 [.ref 167, .retAddr 0, .retAddr 0, .retAddr 0, .retAddr 0, .retAddr 0, .retAddr 0, .retAddr 0, .retAddr 0] [] m Q
  have hF := h.1.1
  refine r_aload_n dX12_unit_0 rfl ?_
  refine r_getIc (e.1) dX12_unit_1 fgX12_124 rfl (by exact k_167 hF) (by exact h.2.2.1) ?_
  refine r_if_eq 9 dX12_unit_4 rfl (fun hz => ?_) (fun hz => ?_)
  ·
    exact absurd hz h.2.2.2.1
  ·
    refine r_lconst (0) dX12_unit_7 rfl ?_
    refine r_lreturn dX12_unit_8 rfl ?_
    exact k m _ Sy.rf h
theorem E_sum {g : GG} {b : Nat → Int32} {n d : Nat} (hd : 3 ≤ d) : NtE g b n mX12_sum d := by
  obtain ⟨c, rfl⟩ : ∃ c, d = c + 1 + 1 := ⟨d - 2, by omega⟩
  exact E_X12_sum (by omega) (E_X12_product (by omega) E_unit)
theorem jn275 {l r : Int64} : jnF 275 l r = if r ≤ l then l else r := rfl
theorem jn275_a {l r : Int64} (h : l ≤ r) : jnF 275 l r = r := by
  rw [jn275]
  by_cases q : r ≤ l
  · rw [if_pos q]; exact Int64.toInt_inj.mp (by have a1 := Int64.le_iff_toInt_le.mp q; have a2 := Int64.le_iff_toInt_le.mp h; omega)
  · rw [if_neg q]
theorem jn275_b {l r : Int64} (h : ¬ l ≤ r) : jnF 275 l r = l := by
  rw [jn275]
  exact if_pos (Int64.le_iff_toInt_le.mpr (by have a2 : ¬ l.toInt ≤ r.toInt := fun z => h (Int64.le_iff_toInt_le.mpr z); omega))
def InR (g : GG) (b : Nat → Int32) (n o d : Nat) (f : Option (Nat → Rs)) : Prop := (o = 6 ∧ f = none) ∨ (o < 6 ∧ ∃ F, f = some F ∧ GdF b n F ∧ NtR g b n mX12_sum (o + 1) d F)
theorem no_name {x : Int32} (h : ∀ j, j < 10 → ¬ x = nI (264 + j)) : ¬ (264 ≤ x ∧ x ≤ 273) := fun q => by
  have a := Int32.le_iff_toInt_le.mp q.1
  have c := Int32.le_iff_toInt_le.mp q.2
  have a1 : (264 : Int32).toInt = 264 := rfl
  have a2 : (273 : Int32).toInt = 273 := rfl
  refine h (x.toInt - 264).toNat (by omega) (Int32.toInt_inj.mp ?_)
  rw [nI_int _ (by omega)]; omega
theorem is_name {j : Nat} (h : j < 10) : (264 : Int32) ≤ nI (264 + j) ∧ nI (264 + j) ≤ 273 := ⟨nI_le (a := 264) (by omega) (by omega), nI_le (b := 273) (by omega) (by omega)⟩
theorem name_ix {j : Nat} (h : j < 10) : (nI (264 + j) - 264).toNatClampNeg = j := by
  have e : nI (264 + j) - 264 = nI j := Int32.toInt_inj.mp (by rw [Int32.toInt_sub, nI_int _ (by omega), nI_int _ (by omega)]; show Int.bmod (((264 + j : Nat) : Int) - 264) (2 ^ 32) = _; rw [Int.bmod_eq_of_le (by omega) (by omega)]; omega)
  rw [e, nI_cl j (by omega)]
theorem S_runit {g : GG} {b : Nat → Int32} {n o d : Nat} {f : Option (Nat → Rs)} (hd : 5 ≤ d) (ho : o ≤ 6) (hi : InR g b n o d f) : NtR g b n mX12_unit o (d + 1) (untP b n f) := by
  intro m s N Q h hN k0 k1
  obtain ⟨a, h, hs⟩ := h
  refine Cl.of rfl (by decide) (Nat.le_of_ble_eq_true rfl) ?_
  show Wp g mX12_unit (d + 1) 0 0 0 [.ref 167, .retAddr 0, .retAddr 0, .retAddr 0, .retAddr 0, .retAddr 0, .retAddr 0, .retAddr 0, .retAddr 0] [] m Q
  have hn4 := h.1.2.1
  have hb := h.1.2.2.1
  have hss : rE b n isBl s = s := by rw [← hs]; exact rE_id
  have hsn : s ≤ n := by rw [← hs]; exact rE_n h.2.2.1
  have hE : NtE g b n mX12_sum d := E_sum (by omega)
  refine r_aload_n dX12_unit_0 rfl ?_
  refine r_getIc (0) dX12_unit_1 fgX12_124 rfl (by exact k_167 h.1.1) (by exact h.2.2.2.2.1) ?_
  refine r_if_eq 9 dX12_unit_4 rfl (fun _ => ?_) (fun hz => absurd hz (by decide))
  refine r_aload_n dX12_unit_9 rfl ?_
  refine r_callV0 (ci := 12) (d1 := 1) (c1 := 0) (n1 := 0) dX12_unit_10 mvX12_145 rfl ⟨(Nat.le_of_ble_eq_true rfl), rfl⟩ (by omega) (by exact Nat.le_of_ble_eq_true rfl) (by exact k_167 h.1.1) ?_
  refine S_blanksP h (fun m1 q1 h1 => ?_)
  have y1 := q1
  rw [hs] at h1
  show Wp g mX12_unit _ _ _ 13 _ [] _ Q
  refine r_aload_n dX12_unit_13 rfl ?_
  refine r_aload_n dX12_unit_14 rfl ?_
  refine r_getIc (nI s) dX12_unit_15 fgX12_117 rfl (by exact k_167 h1.1.1) (by exact h1.2.1) ?_
  refine r_callV1 (ci := 12) (d1 := 0) (c1 := 0) (n1 := 0) dX12_unit_18 mvX12_120 rfl ⟨(Nat.le_of_ble_eq_true rfl), rfl⟩ (by omega) (by exact Nat.le_of_ble_eq_true rfl) (by exact k_167 h1.1.1) ?_
  refine S_byteAt h1.1 (k := s) (by have := h1.2.2.1; omega) ?_
  show Wp g mX12_unit _ _ _ 21 _ (_ :: _) _ Q
  refine r_callS1 (d1 := 0) (c1 := 0) (n1 := 0) dX12_unit_21 msX12_130 rfl (by omega) (by exact Nat.le_of_ble_eq_true rfl) ?_
  refine S_X12_isDigit (fun hdg => ?_) (fun hdg => ?_)
  ·
    show Wp g mX12_unit _ _ _ 24 _ (_ :: _) _ Q
    refine r_if_eq 32 dX12_unit_24 rfl (fun hz => absurd hz (by decide)) (fun _ => ?_)
    refine r_aload_n dX12_unit_27 rfl ?_
    refine r_callV0 (ci := 12) (d1 := 1) (c1 := 0) (n1 := 0) dX12_unit_28 mvX12_167 rfl ⟨(Nat.le_of_ble_eq_true rfl), rfl⟩ (by omega) (by exact Nat.le_of_ble_eq_true rfl) (by exact k_167 h1.1.1) ?_
    refine S_numberP h1 (fun nu m2 q2 h2 => ?_) (fun nu m3 v2 q3 h3 => ?_)
    ·
      have y2 := y1.tr q2
      show Wp g mX12_unit _ _ _ 31 _ (_ :: _) _ Q
      refine r_lreturn dX12_unit_31 rfl ?_
      have td := (dg_tk hb).mp hdg
      exact k1 (adP b n s, [nmC b n s * 512 + 1], fun _ => (nmC b n s).toInt64) ((if_pos td).trans (if_pos nu)) m2 y2 ⟨_, h2, by unfold adP; rw [nx_dg td hb]⟩
    ·
      have y3 := y1.tr q3
      show Wp g mX12_unit _ _ _ 31 _ (_ :: _) _ Q
      refine r_lreturn dX12_unit_31 rfl ?_
      have td := (dg_tk hb).mp hdg
      exact k0 (2, s) ((if_pos td).trans (if_neg nu)) m3 _ y3 h3
  ·
    show Wp g mX12_unit _ _ _ 24 _ (_ :: _) _ Q
    refine r_if_eq 32 dX12_unit_24 rfl (fun _ => ?_) (fun hz => absurd hz (by decide))
    refine r_aload_n dX12_unit_32 rfl ?_
    refine r_callV0 (ci := 12) (d1 := 4) (c1 := 0) (n1 := 0) dX12_unit_33 mvX12_171 rfl ⟨(Nat.le_of_ble_eq_true rfl), rfl⟩ (by omega) (by exact Nat.le_of_ble_eq_true rfl) (by exact k_167 h1.1.1) ?_
    refine S_X12_nameHere h1 hss (fun jn hjn tn9 m4 q4 h4 => ?_) (fun nn m5 q5 h5 => ?_)
    ·
      have y4 := y1.tr q4
      have hne : ¬ nI jn = -1 := fun q => by have z := congrArg Int32.toInt q; rw [nI_int jn (by omega)] at z; have y : (-1 : Int32).toInt = -1 := rfl; omega
      show Wp g mX12_unit _ _ _ 36 _ (_ :: _) _ Q
      refine si_1 dX12_unit_36 (by first | rfl | assumption) (Nat.le_of_ble_eq_true rfl) ?_
      refine r_iload_n dX12_unit_37 rfl ?_
      refine r_iconst (-1) dX12_unit_38 rfl ?_
      refine r_icmp_eq 53 dX12_unit_39 rfl (fun tq => ?_) (fun tq => ?_)
      ·
        exact absurd tq hne
      ·
        refine r_aload_n dX12_unit_42 rfl ?_
        refine r_callV0 (ci := 12) (d1 := 1) (c1 := 0) (n1 := 0) dX12_unit_43 mvX12_174 rfl ⟨(Nat.le_of_ble_eq_true rfl), rfl⟩ (by omega) (by exact Nat.le_of_ble_eq_true rfl) (by exact k_167 h4.1.1) ?_
        refine S_skipP h4 (fun m6 q6 h6 => ?_)
        have y6 := y4.tr q6
        show Wp g mX12_unit _ _ _ 46 _ [] _ Q
        refine r_aload_n dX12_unit_46 rfl ?_
        refine r_getRc dX12_unit_47 fgX12_27 rfl (by exact k_167 h6.1.1) (by exact r_167_16 h6.1.1) ?_
        refine r_iload_n dX12_unit_50 rfl ?_
        refine r_laloadc (cut N jn) dX12_unit_51 (by exact k_178 h6.1.1) (vin (by omega) (by omega)) (by rw [nI_cl jn (by omega), y6.n hN jn hjn]; exact (if_pos hjn).symm) ?_
        refine r_lreturn dX12_unit_52 rfl ?_
        have td : ¬ tkP b n s = -2 := fun z => hdg ((dg_tk hb).mpr z)
        have k9 := k1 (adP b n s, [(tkP b n s - 264) * 512 + 2], fun N => N (tkP b n s - 264).toNatClampNeg) ((if_neg td).trans (if_pos (by rw [tn9]; exact is_name hjn))) m6 y6 ⟨_, h6, by unfold adP; rw [(nx_w (i := 8 + jn) (by omega) hb (by rw [tn9, show 256 + (8 + jn) = 264 + jn from by omega])).1]⟩
        dsimp only at k9
        rw [tn9, name_ix hjn] at k9; exact k9
    ·
      have y5 := y1.tr q5
      show Wp g mX12_unit _ _ _ 36 _ (_ :: _) _ Q
      refine si_1 dX12_unit_36 (by first | rfl | assumption) (Nat.le_of_ble_eq_true rfl) ?_
      refine r_iload_n dX12_unit_37 rfl ?_
      refine r_iconst (-1) dX12_unit_38 rfl ?_
      refine r_icmp_eq 53 dX12_unit_39 rfl (fun _ => ?_) (fun hz => absurd hz (by decide))
      refine r_aload_n dX12_unit_53 rfl ?_
      refine r_bipush (12) dX12_unit_54 rfl ?_
      refine r_iconst (5) dX12_unit_56 rfl ?_
      refine r_iconst (1) dX12_unit_57 rfl ?_
      refine r_bipush (19) dX12_unit_58 rfl ?_
      refine r_bipush (20) dX12_unit_60 rfl ?_
      refine r_iconst (0) dX12_unit_62 rfl ?_
      refine r_callV6 (ci := 12) (d1 := 3) (c1 := 0) (n1 := 0) dX12_unit_63 mvX12_159 rfl ⟨(Nat.le_of_ble_eq_true rfl), rfl⟩ (by omega) (by exact Nat.le_of_ble_eq_true rfl) (by exact k_167 h5.1.1) ?_
      refine S_isW18 h5 hss (fun t18 m7 q7 h7 => ?_) (fun t18 m8 q8 h8 => ?_)
      ·
        have y7 := y5.tr q7
        show Wp g mX12_unit _ _ _ 66 _ (_ :: _) _ Q
        refine si_2 dX12_unit_66 (by first | rfl | assumption) (Nat.le_of_ble_eq_true rfl) ?_
        refine r_aload_n dX12_unit_67 rfl ?_
        refine r_bipush (13) dX12_unit_68 rfl ?_
        refine r_bipush (15) dX12_unit_70 rfl ?_
        refine r_bipush (19) dX12_unit_72 rfl ?_
        refine r_bipush (20) dX12_unit_74 rfl ?_
        refine r_iconst (0) dX12_unit_76 rfl ?_
        refine r_iconst (0) dX12_unit_77 rfl ?_
        refine r_callV6 (ci := 12) (d1 := 3) (c1 := 0) (n1 := 0) dX12_unit_78 mvX12_159 rfl ⟨(Nat.le_of_ble_eq_true rfl), rfl⟩ (by omega) (by exact Nat.le_of_ble_eq_true rfl) (by exact k_167 h7.1.1) ?_
        refine S_isW19 h7 hss (fun t19 => absurd (t18.symm.trans t19) (by decide)) (fun t19 m10 q10 h10 => ?_)
        have y10 := y7.tr q10
        show Wp g mX12_unit _ _ _ 81 _ (_ :: _) _ Q
        refine si_3 dX12_unit_81 (by first | rfl | assumption) (Nat.le_of_ble_eq_true rfl) ?_
        refine r_aload_n dX12_unit_82 rfl ?_
        refine r_bipush (18) dX12_unit_83 rfl ?_
        refine r_bipush (15) dX12_unit_85 rfl ?_
        refine r_bipush (15) dX12_unit_87 rfl ?_
        refine r_bipush (20) dX12_unit_89 rfl ?_
        refine r_iconst (0) dX12_unit_91 rfl ?_
        refine r_iconst (0) dX12_unit_92 rfl ?_
        refine r_callV6 (ci := 12) (d1 := 3) (c1 := 0) (n1 := 0) dX12_unit_93 mvX12_159 rfl ⟨(Nat.le_of_ble_eq_true rfl), rfl⟩ (by omega) (by exact Nat.le_of_ble_eq_true rfl) (by exact k_167 h10.1.1) ?_
        refine S_isW20 h10 hss (fun t20 => absurd (t18.symm.trans t20) (by decide)) (fun t20 m12 q12 h12 => ?_)
        have y12 := y10.tr q12
        show Wp g mX12_unit _ _ _ 96 _ (_ :: _) _ Q
        refine si_4 dX12_unit_96 (by first | rfl | assumption) (Nat.le_of_ble_eq_true rfl) ?_
        refine r_iload_n dX12_unit_98 rfl ?_
        refine r_if_ne 111 dX12_unit_99 rfl (fun _ => ?_) (fun hz => absurd hz (by decide))
        refine r_aload_n dX12_unit_111 rfl ?_
        refine r_callV0 (ci := 12) (d1 := 1) (c1 := 0) (n1 := 0) dX12_unit_112 mvX12_174 rfl ⟨(Nat.le_of_ble_eq_true rfl), rfl⟩ (by omega) (by exact Nat.le_of_ble_eq_true rfl) (by exact k_167 h12.1.1) ?_
        refine S_skipP h12 (fun m13 q13 h13 => ?_)
        have y13 := y12.tr q13
        show Wp g mX12_unit _ _ _ 115 _ [] _ Q
        refine r_aload_n dX12_unit_115 rfl ?_
        refine r_callV0 (ci := 12) (d1 := 1) (c1 := 0) (n1 := 0) dX12_unit_116 mvX12_145 rfl ⟨(Nat.le_of_ble_eq_true rfl), rfl⟩ (by omega) (by exact Nat.le_of_ble_eq_true rfl) (by exact k_167 h13.1.1) ?_
        refine S_blanksP h13 (fun m14 q14 h14 => ?_)
        have y14 := y13.tr q14
        rw [show rE b n isBl (rE b n isLt s) = adP b n s from by unfold adP; rw [(nx_w (i := 18) (by omega) hb t18).1]] at h14
        show Wp g mX12_unit _ _ _ 119 _ [] _ Q
        refine r_aload_n dX12_unit_119 rfl ?_
        refine r_aload_n dX12_unit_120 rfl ?_
        refine r_getIc (nI (adP b n s)) dX12_unit_121 fgX12_117 rfl (by exact k_167 h14.1.1) (by exact h14.2.1) ?_
        refine r_callV1 (ci := 12) (d1 := 0) (c1 := 0) (n1 := 0) dX12_unit_124 mvX12_120 rfl ⟨(Nat.le_of_ble_eq_true rfl), rfl⟩ (by omega) (by exact Nat.le_of_ble_eq_true rfl) (by exact k_167 h14.1.1) ?_
        refine S_byteAt h14.1 (k := (adP b n s)) (by have := h14.2.2.1; omega) ?_
        show Wp g mX12_unit _ _ _ 127 _ (_ :: _) _ Q
        refine r_bipush (40) dX12_unit_127 rfl ?_
        refine r_icmp_eq 143 dX12_unit_129 rfl (fun t40 => ?_) (fun t40 => ?_)
        ·
          refine r_aload_n dX12_unit_143 rfl ?_
          refine r_iconst (1) dX12_unit_144 rfl ?_
          refine r_callV1 (ci := 12) (d1 := 1) (c1 := 0) (n1 := 0) dX12_unit_145 mvX12_177 rfl ⟨(Nat.le_of_ble_eq_true rfl), rfl⟩ (by omega) (by exact Nat.le_of_ble_eq_true rfl) (by exact k_167 h14.1.1) ?_
          refine S_opensP h14 ho (w := 1) (nx_ch (by unfold isCh; decide) t40).1 (fun o6 m15 q15 h15 => ?_) (fun o6 m16 q16 h16 => ?_)
          ·
            have y15 := y14.tr q15
            obtain ⟨-, F, hfF, gF, hSF⟩ := hi.resolve_left (fun z => by omega)
            subst hfF
            have c40 := (ch_tk (b := b) (n := n) (c := 40) (by unfold isCh; decide)).mp t40
            have wx := ad_of c40 (by decide)
            have nx40 := nx_ch (c := 40) (by unfold isCh; decide) t40
            show Wp g mX12_unit _ _ _ 148 _ [] _ Q
            refine r_aload_n dX12_unit_148 rfl ?_
            refine r_callV0 (ci := 12) (d1 := d) (c1 := 0) (n1 := 0) dX12_unit_149 mvX12_181 rfl ⟨(Nat.le_of_ble_eq_true rfl), rfl⟩ (by omega) (by exact Nat.le_of_ble_eq_true rfl) (by exact k_167 h15.1.1) ?_
            refine hSF _ (adP b n (adP b n s)) N _ ⟨_, h15, (congrArg (rE b n isBl) nx40.2.symm)⟩ (y15.n hN) (fun er her m17 v17 q17 h17 => ?_) (fun r hr m18 q18 h18 => ?_)
            ·
              have y17 := y15.tr q17
              show Wp g mX12_unit _ _ _ 152 _ (_ :: _) _ Q
              refine sl_5 dX12_unit_152 (by first | rfl | assumption) (Nat.le_of_ble_eq_true rfl) ?_
              refine r_iload_n dX12_unit_154 rfl ?_
              refine r_if_ne 162 dX12_unit_155 rfl (fun _ => ?_) (fun hz => absurd hz (by decide))
              refine r_aload_n dX12_unit_162 rfl ?_
              refine r_bipush (44) dX12_unit_163 rfl ?_
              refine r_callV1 (ci := 12) (d1 := 2) (c1 := 0) (n1 := 0) dX12_unit_165 mvX12_184 rfl ⟨(Nat.le_of_ble_eq_true rfl), rfl⟩ (by omega) (by exact Nat.le_of_ble_eq_true rfl) (by exact k_167 h17.1.1) ?_
              refine S_signE h17 (by decide) (fun m19 q19 h19 => ?_)
              have y19 := y17.tr q19
              show Wp g mX12_unit _ _ _ 168 _ [] _ Q
              refine r_aload_n dX12_unit_168 rfl ?_
              refine r_callV0 (ci := 12) (d1 := d) (c1 := 0) (n1 := 0) dX12_unit_169 mvX12_181 rfl ⟨(Nat.le_of_ble_eq_true rfl), rfl⟩ (by omega) (by exact Nat.le_of_ble_eq_true rfl) (by exact k_167 h19.1.1) ?_
              refine hE _ _ _ _ h19 (fun m20 v20 q20 h20 => ?_)
              have y20 := y19.tr q20
              show Wp g mX12_unit _ _ _ 172 _ (_ :: _) _ Q
              refine sl_7 dX12_unit_172 (by first | rfl | assumption) (Nat.le_of_ble_eq_true rfl) ?_
              refine r_iload_n dX12_unit_174 rfl ?_
              refine r_lload dX12_unit_175 rfl ?_
              refine r_lload dX12_unit_177 rfl ?_
              refine r_lcmp_ge 187 dX12_unit_179 dX12_unit_180 rfl (fun tuv => ?_) (fun tuv => ?_)
              ·
                refine r_iconst (0) dX12_unit_187 rfl ?_
                refine r_icmp_ne 196 dX12_unit_188 rfl (fun _ => ?_) (fun hz => absurd hz (by decide))
                refine r_lload dX12_unit_196 rfl ?_
                refine sl_5 dX12_unit_198 (by first | rfl | assumption) (Nat.le_of_ble_eq_true rfl) ?_
                refine r_aload_n dX12_unit_200 rfl ?_
                refine r_bipush (41) dX12_unit_201 rfl ?_
                refine r_callV1 (ci := 12) (d1 := 2) (c1 := 0) (n1 := 0) dX12_unit_203 mvX12_184 rfl ⟨(Nat.le_of_ble_eq_true rfl), rfl⟩ (by omega) (by exact Nat.le_of_ble_eq_true rfl) (by exact k_167 h20.1.1) ?_
                refine S_signE h20 (by decide) (fun m21 q21 h21 => ?_)
                have y21 := y20.tr q21
                show Wp g mX12_unit _ _ _ 206 _ [] _ Q
                refine r_aload_n dX12_unit_206 rfl ?_
                refine r_dup dX12_unit_207 rfl ?_
                refine r_getI dX12_unit_208 fgX12_156 rfl (by exact k_167 h21.1.1) ?_
                refine r_iconst (1) dX12_unit_211 rfl ?_
                refine r_isub dX12_unit_212 ?_
                refine r_putI dX12_unit_213 (fpX12_156 _ rfl) rfl (by exact k_167 h21.1.1) ⟨rfl, rfl⟩ ?_
                have yz := y21.s (k := 5) (v := (ldI m21 167 5 - 1)) (by omega) (by omega) (by omega)
                have hz : RE b n n _ (stI m21 167 5 (ldI m21 167 5 - 1)) := ⟨h21.1.sy (Sy.rf.s (by omega) (by omega) (by omega)), ⟨h21.2.1.1, h21.2.1.2.1, h21.2.1.2.2.choose, h21.2.1.2.2.choose_spec.1, ld_n (by decide) h21.2.1.2.2.choose_spec.2⟩, ld_n (by decide) h21.2.2.1, h21.2.2.2.1, ld_n (by decide) h21.2.2.2.2⟩
                refine r_iload dX12_unit_216 rfl ?_
                refine r_if_eq 229 dX12_unit_218 rfl (fun _ => ?_) (fun hz => absurd hz (by decide))
                refine r_lload dX12_unit_229 rfl ?_
                refine r_lreturn dX12_unit_231 rfl ?_
                have td : ¬ tkP b n s = -2 := fun z => hdg ((dg_tk hb).mpr z)
                first
                  | exact k0 er ((if_neg td).trans ((if_neg (no_name nn)).trans ((if_neg (fun z => absurd (t18.symm.trans z) (by decide))).trans ((if_neg (fun z => absurd (t18.symm.trans z) (by decide))).trans ((if_pos (Or.inl t18)).trans (rB_l ((if_pos c40).trans (rB_l her)))))))) _ _ yz hz
                  | exact k0 (1, r.1) ((if_neg td).trans ((if_neg (no_name nn)).trans ((if_neg (fun z => absurd (t18.symm.trans z) (by decide))).trans ((if_neg (fun z => absurd (t18.symm.trans z) (by decide))).trans ((if_pos (Or.inl t18)).trans (rB_l ((if_pos c40).trans ((rB_r hr).trans ((if_pos rfl).trans (if_neg (fun z => g165 ((ch_tk (by unfold isCh; decide)).mpr z)))))))))))) _ _ yz hz
                  | exact k0 er2 ((if_neg td).trans ((if_neg (no_name nn)).trans ((if_neg (fun z => absurd (t18.symm.trans z) (by decide))).trans ((if_neg (fun z => absurd (t18.symm.trans z) (by decide))).trans ((if_pos (Or.inl t18)).trans (rB_l ((if_pos c40).trans ((rB_r hr).trans ((if_pos rfl).trans ((if_pos ((ch_tk (by unfold isCh; decide)).mp g165)).trans (rB_l her2))))))))))) _ _ yz hz
                  | exact k0 (1, r2.1) ((if_neg td).trans ((if_neg (no_name nn)).trans ((if_neg (fun z => absurd (t18.symm.trans z) (by decide))).trans ((if_neg (fun z => absurd (t18.symm.trans z) (by decide))).trans ((if_pos (Or.inl t18)).trans (rB_l ((if_pos c40).trans ((rB_r hr).trans ((if_pos rfl).trans ((if_pos ((ch_tk (by unfold isCh; decide)).mp g165)).trans ((rB_r hr2).trans (if_neg (fun z => g203 ((ch_tk (by unfold isCh; decide)).mpr z)))))))))))))) _ _ yz hz
              ·
                refine r_iconst (1) dX12_unit_183 rfl ?_
                refine r_goto 188 dX12_unit_184 rfl ?_
                refine r_icmp_ne 196 dX12_unit_188 rfl (fun hz => absurd hz (by decide)) (fun _ => ?_)
                refine r_lload dX12_unit_191 rfl ?_
                refine r_goto 198 dX12_unit_193 rfl ?_
                refine sl_5 dX12_unit_198 (by first | rfl | assumption) (Nat.le_of_ble_eq_true rfl) ?_
                refine r_aload_n dX12_unit_200 rfl ?_
                refine r_bipush (41) dX12_unit_201 rfl ?_
                refine r_callV1 (ci := 12) (d1 := 2) (c1 := 0) (n1 := 0) dX12_unit_203 mvX12_184 rfl ⟨(Nat.le_of_ble_eq_true rfl), rfl⟩ (by omega) (by exact Nat.le_of_ble_eq_true rfl) (by exact k_167 h20.1.1) ?_
                refine S_signE h20 (by decide) (fun m22 q22 h22 => ?_)
                have y22 := y20.tr q22
                show Wp g mX12_unit _ _ _ 206 _ [] _ Q
                refine r_aload_n dX12_unit_206 rfl ?_
                refine r_dup dX12_unit_207 rfl ?_
                refine r_getI dX12_unit_208 fgX12_156 rfl (by exact k_167 h22.1.1) ?_
                refine r_iconst (1) dX12_unit_211 rfl ?_
                refine r_isub dX12_unit_212 ?_
                refine r_putI dX12_unit_213 (fpX12_156 _ rfl) rfl (by exact k_167 h22.1.1) ⟨rfl, rfl⟩ ?_
                have yz := y22.s (k := 5) (v := (ldI m22 167 5 - 1)) (by omega) (by omega) (by omega)
                have hz : RE b n n _ (stI m22 167 5 (ldI m22 167 5 - 1)) := ⟨h22.1.sy (Sy.rf.s (by omega) (by omega) (by omega)), ⟨h22.2.1.1, h22.2.1.2.1, h22.2.1.2.2.choose, h22.2.1.2.2.choose_spec.1, ld_n (by decide) h22.2.1.2.2.choose_spec.2⟩, ld_n (by decide) h22.2.2.1, h22.2.2.2.1, ld_n (by decide) h22.2.2.2.2⟩
                refine r_iload dX12_unit_216 rfl ?_
                refine r_if_eq 229 dX12_unit_218 rfl (fun _ => ?_) (fun hz => absurd hz (by decide))
                refine r_lload dX12_unit_229 rfl ?_
                refine r_lreturn dX12_unit_231 rfl ?_
                have td : ¬ tkP b n s = -2 := fun z => hdg ((dg_tk hb).mpr z)
                first
                  | exact k0 er ((if_neg td).trans ((if_neg (no_name nn)).trans ((if_neg (fun z => absurd (t18.symm.trans z) (by decide))).trans ((if_neg (fun z => absurd (t18.symm.trans z) (by decide))).trans ((if_pos (Or.inl t18)).trans (rB_l ((if_pos c40).trans (rB_l her)))))))) _ _ yz hz
                  | exact k0 (1, r.1) ((if_neg td).trans ((if_neg (no_name nn)).trans ((if_neg (fun z => absurd (t18.symm.trans z) (by decide))).trans ((if_neg (fun z => absurd (t18.symm.trans z) (by decide))).trans ((if_pos (Or.inl t18)).trans (rB_l ((if_pos c40).trans ((rB_r hr).trans ((if_pos rfl).trans (if_neg (fun z => g165 ((ch_tk (by unfold isCh; decide)).mpr z)))))))))))) _ _ yz hz
                  | exact k0 er2 ((if_neg td).trans ((if_neg (no_name nn)).trans ((if_neg (fun z => absurd (t18.symm.trans z) (by decide))).trans ((if_neg (fun z => absurd (t18.symm.trans z) (by decide))).trans ((if_pos (Or.inl t18)).trans (rB_l ((if_pos c40).trans ((rB_r hr).trans ((if_pos rfl).trans ((if_pos ((ch_tk (by unfold isCh; decide)).mp g165)).trans (rB_l her2))))))))))) _ _ yz hz
                  | exact k0 (1, r2.1) ((if_neg td).trans ((if_neg (no_name nn)).trans ((if_neg (fun z => absurd (t18.symm.trans z) (by decide))).trans ((if_neg (fun z => absurd (t18.symm.trans z) (by decide))).trans ((if_pos (Or.inl t18)).trans (rB_l ((if_pos c40).trans ((rB_r hr).trans ((if_pos rfl).trans ((if_pos ((ch_tk (by unfold isCh; decide)).mp g165)).trans ((rB_r hr2).trans (if_neg (fun z => g203 ((ch_tk (by unfold isCh; decide)).mpr z)))))))))))))) _ _ yz hz
            ·
              obtain ⟨a18, h18, e18⟩ := h18
              have y18 := y15.tr q18
              show Wp g mX12_unit _ _ _ 152 _ (_ :: _) _ Q
              refine sl_5 dX12_unit_152 (by first | rfl | assumption) (Nat.le_of_ble_eq_true rfl) ?_
              refine r_iload_n dX12_unit_154 rfl ?_
              refine r_if_ne 162 dX12_unit_155 rfl (fun _ => ?_) (fun hz => absurd hz (by decide))
              refine r_aload_n dX12_unit_162 rfl ?_
              refine r_bipush (44) dX12_unit_163 rfl ?_
              refine r_callV1 (ci := 12) (d1 := 2) (c1 := 0) (n1 := 0) dX12_unit_165 mvX12_184 rfl ⟨(Nat.le_of_ble_eq_true rfl), rfl⟩ (by omega) (by exact Nat.le_of_ble_eq_true rfl) (by exact k_167 h18.1.1) ?_
              refine S_signP h18 (by decide) (fun g165 m23 q23 h23 => ?_) (fun g165 m24 q24 h24 => ?_)
              ·
                have y23 := y18.tr q23
                rw [e18] at g165 h23
                show Wp g mX12_unit _ _ _ 168 _ [] _ Q
                refine r_aload_n dX12_unit_168 rfl ?_
                refine r_callV0 (ci := 12) (d1 := d) (c1 := 0) (n1 := 0) dX12_unit_169 mvX12_181 rfl ⟨(Nat.le_of_ble_eq_true rfl), rfl⟩ (by omega) (by exact Nat.le_of_ble_eq_true rfl) (by exact k_167 h23.1.1) ?_
                refine hSF _ (adP b n r.1) N _ ⟨_, h23, (congrArg (rE b n isBl) (nx_ch (c := 44) (by unfold isCh; decide) g165).2.symm)⟩ (y23.n hN) (fun er2 her2 m25 v25 q25 h25 => ?_) (fun r2 hr2 m26 q26 h26 => ?_)
                ·
                  have y25 := y23.tr q25
                  show Wp g mX12_unit _ _ _ 172 _ (_ :: _) _ Q
                  refine sl_7 dX12_unit_172 (by first | rfl | assumption) (Nat.le_of_ble_eq_true rfl) ?_
                  refine r_iload_n dX12_unit_174 rfl ?_
                  refine r_lload dX12_unit_175 rfl ?_
                  refine r_lload dX12_unit_177 rfl ?_
                  refine r_lcmp_ge 187 dX12_unit_179 dX12_unit_180 rfl (fun tuv => ?_) (fun tuv => ?_)
                  ·
                    refine r_iconst (0) dX12_unit_187 rfl ?_
                    refine r_icmp_ne 196 dX12_unit_188 rfl (fun _ => ?_) (fun hz => absurd hz (by decide))
                    refine r_lload dX12_unit_196 rfl ?_
                    refine sl_5 dX12_unit_198 (by first | rfl | assumption) (Nat.le_of_ble_eq_true rfl) ?_
                    refine r_aload_n dX12_unit_200 rfl ?_
                    refine r_bipush (41) dX12_unit_201 rfl ?_
                    refine r_callV1 (ci := 12) (d1 := 2) (c1 := 0) (n1 := 0) dX12_unit_203 mvX12_184 rfl ⟨(Nat.le_of_ble_eq_true rfl), rfl⟩ (by omega) (by exact Nat.le_of_ble_eq_true rfl) (by exact k_167 h25.1.1) ?_
                    refine S_signE h25 (by decide) (fun m27 q27 h27 => ?_)
                    have y27 := y25.tr q27
                    show Wp g mX12_unit _ _ _ 206 _ [] _ Q
                    refine r_aload_n dX12_unit_206 rfl ?_
                    refine r_dup dX12_unit_207 rfl ?_
                    refine r_getI dX12_unit_208 fgX12_156 rfl (by exact k_167 h27.1.1) ?_
                    refine r_iconst (1) dX12_unit_211 rfl ?_
                    refine r_isub dX12_unit_212 ?_
                    refine r_putI dX12_unit_213 (fpX12_156 _ rfl) rfl (by exact k_167 h27.1.1) ⟨rfl, rfl⟩ ?_
                    have yz := y27.s (k := 5) (v := (ldI m27 167 5 - 1)) (by omega) (by omega) (by omega)
                    have hz : RE b n n _ (stI m27 167 5 (ldI m27 167 5 - 1)) := ⟨h27.1.sy (Sy.rf.s (by omega) (by omega) (by omega)), ⟨h27.2.1.1, h27.2.1.2.1, h27.2.1.2.2.choose, h27.2.1.2.2.choose_spec.1, ld_n (by decide) h27.2.1.2.2.choose_spec.2⟩, ld_n (by decide) h27.2.2.1, h27.2.2.2.1, ld_n (by decide) h27.2.2.2.2⟩
                    refine r_iload dX12_unit_216 rfl ?_
                    refine r_if_eq 229 dX12_unit_218 rfl (fun _ => ?_) (fun hz => absurd hz (by decide))
                    refine r_lload dX12_unit_229 rfl ?_
                    refine r_lreturn dX12_unit_231 rfl ?_
                    have td : ¬ tkP b n s = -2 := fun z => hdg ((dg_tk hb).mpr z)
                    first
                      | exact k0 er ((if_neg td).trans ((if_neg (no_name nn)).trans ((if_neg (fun z => absurd (t18.symm.trans z) (by decide))).trans ((if_neg (fun z => absurd (t18.symm.trans z) (by decide))).trans ((if_pos (Or.inl t18)).trans (rB_l ((if_pos c40).trans (rB_l her)))))))) _ _ yz hz
                      | exact k0 (1, r.1) ((if_neg td).trans ((if_neg (no_name nn)).trans ((if_neg (fun z => absurd (t18.symm.trans z) (by decide))).trans ((if_neg (fun z => absurd (t18.symm.trans z) (by decide))).trans ((if_pos (Or.inl t18)).trans (rB_l ((if_pos c40).trans ((rB_r hr).trans ((if_pos rfl).trans (if_neg (fun z => g165 ((ch_tk (by unfold isCh; decide)).mpr z)))))))))))) _ _ yz hz
                      | exact k0 er2 ((if_neg td).trans ((if_neg (no_name nn)).trans ((if_neg (fun z => absurd (t18.symm.trans z) (by decide))).trans ((if_neg (fun z => absurd (t18.symm.trans z) (by decide))).trans ((if_pos (Or.inl t18)).trans (rB_l ((if_pos c40).trans ((rB_r hr).trans ((if_pos rfl).trans ((if_pos ((ch_tk (by unfold isCh; decide)).mp g165)).trans (rB_l her2))))))))))) _ _ yz hz
                      | exact k0 (1, r2.1) ((if_neg td).trans ((if_neg (no_name nn)).trans ((if_neg (fun z => absurd (t18.symm.trans z) (by decide))).trans ((if_neg (fun z => absurd (t18.symm.trans z) (by decide))).trans ((if_pos (Or.inl t18)).trans (rB_l ((if_pos c40).trans ((rB_r hr).trans ((if_pos rfl).trans ((if_pos ((ch_tk (by unfold isCh; decide)).mp g165)).trans ((rB_r hr2).trans (if_neg (fun z => g203 ((ch_tk (by unfold isCh; decide)).mpr z)))))))))))))) _ _ yz hz
                  ·
                    refine r_iconst (1) dX12_unit_183 rfl ?_
                    refine r_goto 188 dX12_unit_184 rfl ?_
                    refine r_icmp_ne 196 dX12_unit_188 rfl (fun hz => absurd hz (by decide)) (fun _ => ?_)
                    refine r_lload dX12_unit_191 rfl ?_
                    refine r_goto 198 dX12_unit_193 rfl ?_
                    refine sl_5 dX12_unit_198 (by first | rfl | assumption) (Nat.le_of_ble_eq_true rfl) ?_
                    refine r_aload_n dX12_unit_200 rfl ?_
                    refine r_bipush (41) dX12_unit_201 rfl ?_
                    refine r_callV1 (ci := 12) (d1 := 2) (c1 := 0) (n1 := 0) dX12_unit_203 mvX12_184 rfl ⟨(Nat.le_of_ble_eq_true rfl), rfl⟩ (by omega) (by exact Nat.le_of_ble_eq_true rfl) (by exact k_167 h25.1.1) ?_
                    refine S_signE h25 (by decide) (fun m28 q28 h28 => ?_)
                    have y28 := y25.tr q28
                    show Wp g mX12_unit _ _ _ 206 _ [] _ Q
                    refine r_aload_n dX12_unit_206 rfl ?_
                    refine r_dup dX12_unit_207 rfl ?_
                    refine r_getI dX12_unit_208 fgX12_156 rfl (by exact k_167 h28.1.1) ?_
                    refine r_iconst (1) dX12_unit_211 rfl ?_
                    refine r_isub dX12_unit_212 ?_
                    refine r_putI dX12_unit_213 (fpX12_156 _ rfl) rfl (by exact k_167 h28.1.1) ⟨rfl, rfl⟩ ?_
                    have yz := y28.s (k := 5) (v := (ldI m28 167 5 - 1)) (by omega) (by omega) (by omega)
                    have hz : RE b n n _ (stI m28 167 5 (ldI m28 167 5 - 1)) := ⟨h28.1.sy (Sy.rf.s (by omega) (by omega) (by omega)), ⟨h28.2.1.1, h28.2.1.2.1, h28.2.1.2.2.choose, h28.2.1.2.2.choose_spec.1, ld_n (by decide) h28.2.1.2.2.choose_spec.2⟩, ld_n (by decide) h28.2.2.1, h28.2.2.2.1, ld_n (by decide) h28.2.2.2.2⟩
                    refine r_iload dX12_unit_216 rfl ?_
                    refine r_if_eq 229 dX12_unit_218 rfl (fun _ => ?_) (fun hz => absurd hz (by decide))
                    refine r_lload dX12_unit_229 rfl ?_
                    refine r_lreturn dX12_unit_231 rfl ?_
                    have td : ¬ tkP b n s = -2 := fun z => hdg ((dg_tk hb).mpr z)
                    first
                      | exact k0 er ((if_neg td).trans ((if_neg (no_name nn)).trans ((if_neg (fun z => absurd (t18.symm.trans z) (by decide))).trans ((if_neg (fun z => absurd (t18.symm.trans z) (by decide))).trans ((if_pos (Or.inl t18)).trans (rB_l ((if_pos c40).trans (rB_l her)))))))) _ _ yz hz
                      | exact k0 (1, r.1) ((if_neg td).trans ((if_neg (no_name nn)).trans ((if_neg (fun z => absurd (t18.symm.trans z) (by decide))).trans ((if_neg (fun z => absurd (t18.symm.trans z) (by decide))).trans ((if_pos (Or.inl t18)).trans (rB_l ((if_pos c40).trans ((rB_r hr).trans ((if_pos rfl).trans (if_neg (fun z => g165 ((ch_tk (by unfold isCh; decide)).mpr z)))))))))))) _ _ yz hz
                      | exact k0 er2 ((if_neg td).trans ((if_neg (no_name nn)).trans ((if_neg (fun z => absurd (t18.symm.trans z) (by decide))).trans ((if_neg (fun z => absurd (t18.symm.trans z) (by decide))).trans ((if_pos (Or.inl t18)).trans (rB_l ((if_pos c40).trans ((rB_r hr).trans ((if_pos rfl).trans ((if_pos ((ch_tk (by unfold isCh; decide)).mp g165)).trans (rB_l her2))))))))))) _ _ yz hz
                      | exact k0 (1, r2.1) ((if_neg td).trans ((if_neg (no_name nn)).trans ((if_neg (fun z => absurd (t18.symm.trans z) (by decide))).trans ((if_neg (fun z => absurd (t18.symm.trans z) (by decide))).trans ((if_pos (Or.inl t18)).trans (rB_l ((if_pos c40).trans ((rB_r hr).trans ((if_pos rfl).trans ((if_pos ((ch_tk (by unfold isCh; decide)).mp g165)).trans ((rB_r hr2).trans (if_neg (fun z => g203 ((ch_tk (by unfold isCh; decide)).mpr z)))))))))))))) _ _ yz hz
                ·
                  obtain ⟨a26, h26, e26⟩ := h26
                  have y26 := y23.tr q26
                  show Wp g mX12_unit _ _ _ 172 _ (_ :: _) _ Q
                  refine sl_7 dX12_unit_172 (by first | rfl | assumption) (Nat.le_of_ble_eq_true rfl) ?_
                  refine r_iload_n dX12_unit_174 rfl ?_
                  refine r_lload dX12_unit_175 rfl ?_
                  refine r_lload dX12_unit_177 rfl ?_
                  refine r_lcmp_ge 187 dX12_unit_179 dX12_unit_180 rfl (fun tuv => ?_) (fun tuv => ?_)
                  ·
                    refine r_iconst (0) dX12_unit_187 rfl ?_
                    refine r_icmp_ne 196 dX12_unit_188 rfl (fun _ => ?_) (fun hz => absurd hz (by decide))
                    refine r_lload dX12_unit_196 rfl ?_
                    refine sl_5 dX12_unit_198 (by first | rfl | assumption) (Nat.le_of_ble_eq_true rfl) ?_
                    refine r_aload_n dX12_unit_200 rfl ?_
                    refine r_bipush (41) dX12_unit_201 rfl ?_
                    refine r_callV1 (ci := 12) (d1 := 2) (c1 := 0) (n1 := 0) dX12_unit_203 mvX12_184 rfl ⟨(Nat.le_of_ble_eq_true rfl), rfl⟩ (by omega) (by exact Nat.le_of_ble_eq_true rfl) (by exact k_167 h26.1.1) ?_
                    refine S_signP h26 (by decide) (fun g203 m29 q29 h29 => ?_) (fun g203 m30 q30 h30 => ?_)
                    ·
                      have y29 := y26.tr q29
                      rw [e26] at g203 h29
                      show Wp g mX12_unit _ _ _ 206 _ [] _ Q
                      refine r_aload_n dX12_unit_206 rfl ?_
                      refine r_dup dX12_unit_207 rfl ?_
                      refine r_getIc (nI (o + 1)) dX12_unit_208 fgX12_156 rfl (by exact k_167 h29.1.1) (by exact h29.2.2.2.1) ?_
                      refine r_iconst (1) dX12_unit_211 rfl ?_
                      refine r_isub dX12_unit_212 ?_
                      refine r_putI dX12_unit_213 (fpX12_156 _ rfl) rfl (by exact k_167 h29.1.1) ⟨rfl, rfl⟩ ?_
                      rw [nI_p1]
                      have yz := y29.s (k := 5) (v := nI o) (by omega) (by omega) (by omega)
                      have hz : RPa b n _ o (stI m29 167 5 (nI o)) := ⟨h29.1.sy (Sy.rf.s (by omega) (by omega) (by omega)), ld_n (by decide) h29.2.1, h29.2.2.1, ld_s, ld_n (by decide) h29.2.2.2.2.1, ld_n (by decide) h29.2.2.2.2.2⟩
                      refine r_iload dX12_unit_216 rfl ?_
                      refine r_if_eq 229 dX12_unit_218 rfl (fun _ => ?_) (fun hz => absurd hz (by decide))
                      refine r_lload dX12_unit_229 rfl ?_
                      refine r_lreturn dX12_unit_231 rfl ?_
                      have td : ¬ tkP b n s = -2 := fun z => hdg ((dg_tk hb).mpr z)
                      have k9 := k1 _ ((if_neg td).trans ((if_neg (no_name nn)).trans ((if_neg (fun z => absurd (t18.symm.trans z) (by decide))).trans ((if_neg (fun z => absurd (t18.symm.trans z) (by decide))).trans ((if_pos (Or.inl t18)).trans (rB_r ((if_pos c40).trans ((rB_r hr).trans ((if_pos rfl).trans ((if_pos ((ch_tk (by unfold isCh; decide)).mp g165)).trans ((rB_r hr2).trans (if_pos ((ch_tk (by unfold isCh; decide)).mp g203))))))))))))) _ yz ⟨_, hz, congrArg (rE b n isBl) (nx_ch (c := 41) (by unfold isCh; decide) g203).2.symm⟩
                      dsimp only at k9
                      rw [show jnF (tkP b n s) (r.2.2 (cut N)) (r2.2.2 (cut N)) = r.2.2 (cut N) from by rw [t18]; exact if_pos tuv] at k9
                      exact k9
                    ·
                      have y30 := y26.tr q30
                      rw [e26] at g203 h30
                      show Wp g mX12_unit _ _ _ 206 _ [] _ Q
                      refine r_aload_n dX12_unit_206 rfl ?_
                      refine r_dup dX12_unit_207 rfl ?_
                      refine r_getI dX12_unit_208 fgX12_156 rfl (by exact k_167 h30.1.1) ?_
                      refine r_iconst (1) dX12_unit_211 rfl ?_
                      refine r_isub dX12_unit_212 ?_
                      refine r_putI dX12_unit_213 (fpX12_156 _ rfl) rfl (by exact k_167 h30.1.1) ⟨rfl, rfl⟩ ?_
                      have yz := y30.s (k := 5) (v := (ldI m30 167 5 - 1)) (by omega) (by omega) (by omega)
                      have hz : RE b n n _ (stI m30 167 5 (ldI m30 167 5 - 1)) := ⟨h30.1.sy (Sy.rf.s (by omega) (by omega) (by omega)), ⟨h30.2.1.1, h30.2.1.2.1, h30.2.1.2.2.choose, h30.2.1.2.2.choose_spec.1, ld_n (by decide) h30.2.1.2.2.choose_spec.2⟩, ld_n (by decide) h30.2.2.1, h30.2.2.2.1, ld_n (by decide) h30.2.2.2.2⟩
                      refine r_iload dX12_unit_216 rfl ?_
                      refine r_if_eq 229 dX12_unit_218 rfl (fun _ => ?_) (fun hz => absurd hz (by decide))
                      refine r_lload dX12_unit_229 rfl ?_
                      refine r_lreturn dX12_unit_231 rfl ?_
                      have td : ¬ tkP b n s = -2 := fun z => hdg ((dg_tk hb).mpr z)
                      first
                        | exact k0 er ((if_neg td).trans ((if_neg (no_name nn)).trans ((if_neg (fun z => absurd (t18.symm.trans z) (by decide))).trans ((if_neg (fun z => absurd (t18.symm.trans z) (by decide))).trans ((if_pos (Or.inl t18)).trans (rB_l ((if_pos c40).trans (rB_l her)))))))) _ _ yz hz
                        | exact k0 (1, r.1) ((if_neg td).trans ((if_neg (no_name nn)).trans ((if_neg (fun z => absurd (t18.symm.trans z) (by decide))).trans ((if_neg (fun z => absurd (t18.symm.trans z) (by decide))).trans ((if_pos (Or.inl t18)).trans (rB_l ((if_pos c40).trans ((rB_r hr).trans ((if_pos rfl).trans (if_neg (fun z => g165 ((ch_tk (by unfold isCh; decide)).mpr z)))))))))))) _ _ yz hz
                        | exact k0 er2 ((if_neg td).trans ((if_neg (no_name nn)).trans ((if_neg (fun z => absurd (t18.symm.trans z) (by decide))).trans ((if_neg (fun z => absurd (t18.symm.trans z) (by decide))).trans ((if_pos (Or.inl t18)).trans (rB_l ((if_pos c40).trans ((rB_r hr).trans ((if_pos rfl).trans ((if_pos ((ch_tk (by unfold isCh; decide)).mp g165)).trans (rB_l her2))))))))))) _ _ yz hz
                        | exact k0 (1, r2.1) ((if_neg td).trans ((if_neg (no_name nn)).trans ((if_neg (fun z => absurd (t18.symm.trans z) (by decide))).trans ((if_neg (fun z => absurd (t18.symm.trans z) (by decide))).trans ((if_pos (Or.inl t18)).trans (rB_l ((if_pos c40).trans ((rB_r hr).trans ((if_pos rfl).trans ((if_pos ((ch_tk (by unfold isCh; decide)).mp g165)).trans ((rB_r hr2).trans (if_neg (fun z => g203 ((ch_tk (by unfold isCh; decide)).mpr z)))))))))))))) _ _ yz hz
                  ·
                    refine r_iconst (1) dX12_unit_183 rfl ?_
                    refine r_goto 188 dX12_unit_184 rfl ?_
                    refine r_icmp_ne 196 dX12_unit_188 rfl (fun hz => absurd hz (by decide)) (fun _ => ?_)
                    refine r_lload dX12_unit_191 rfl ?_
                    refine r_goto 198 dX12_unit_193 rfl ?_
                    refine sl_5 dX12_unit_198 (by first | rfl | assumption) (Nat.le_of_ble_eq_true rfl) ?_
                    refine r_aload_n dX12_unit_200 rfl ?_
                    refine r_bipush (41) dX12_unit_201 rfl ?_
                    refine r_callV1 (ci := 12) (d1 := 2) (c1 := 0) (n1 := 0) dX12_unit_203 mvX12_184 rfl ⟨(Nat.le_of_ble_eq_true rfl), rfl⟩ (by omega) (by exact Nat.le_of_ble_eq_true rfl) (by exact k_167 h26.1.1) ?_
                    refine S_signP h26 (by decide) (fun g203 m31 q31 h31 => ?_) (fun g203 m32 q32 h32 => ?_)
                    ·
                      have y31 := y26.tr q31
                      rw [e26] at g203 h31
                      show Wp g mX12_unit _ _ _ 206 _ [] _ Q
                      refine r_aload_n dX12_unit_206 rfl ?_
                      refine r_dup dX12_unit_207 rfl ?_
                      refine r_getIc (nI (o + 1)) dX12_unit_208 fgX12_156 rfl (by exact k_167 h31.1.1) (by exact h31.2.2.2.1) ?_
                      refine r_iconst (1) dX12_unit_211 rfl ?_
                      refine r_isub dX12_unit_212 ?_
                      refine r_putI dX12_unit_213 (fpX12_156 _ rfl) rfl (by exact k_167 h31.1.1) ⟨rfl, rfl⟩ ?_
                      rw [nI_p1]
                      have yz := y31.s (k := 5) (v := nI o) (by omega) (by omega) (by omega)
                      have hz : RPa b n _ o (stI m31 167 5 (nI o)) := ⟨h31.1.sy (Sy.rf.s (by omega) (by omega) (by omega)), ld_n (by decide) h31.2.1, h31.2.2.1, ld_s, ld_n (by decide) h31.2.2.2.2.1, ld_n (by decide) h31.2.2.2.2.2⟩
                      refine r_iload dX12_unit_216 rfl ?_
                      refine r_if_eq 229 dX12_unit_218 rfl (fun _ => ?_) (fun hz => absurd hz (by decide))
                      refine r_lload dX12_unit_229 rfl ?_
                      refine r_lreturn dX12_unit_231 rfl ?_
                      have td : ¬ tkP b n s = -2 := fun z => hdg ((dg_tk hb).mpr z)
                      have k9 := k1 _ ((if_neg td).trans ((if_neg (no_name nn)).trans ((if_neg (fun z => absurd (t18.symm.trans z) (by decide))).trans ((if_neg (fun z => absurd (t18.symm.trans z) (by decide))).trans ((if_pos (Or.inl t18)).trans (rB_r ((if_pos c40).trans ((rB_r hr).trans ((if_pos rfl).trans ((if_pos ((ch_tk (by unfold isCh; decide)).mp g165)).trans ((rB_r hr2).trans (if_pos ((ch_tk (by unfold isCh; decide)).mp g203))))))))))))) _ yz ⟨_, hz, congrArg (rE b n isBl) (nx_ch (c := 41) (by unfold isCh; decide) g203).2.symm⟩
                      dsimp only at k9
                      rw [show jnF (tkP b n s) (r.2.2 (cut N)) (r2.2.2 (cut N)) = r2.2.2 (cut N) from by rw [t18]; exact if_neg (fun q => tuv q)] at k9
                      exact k9
                    ·
                      have y32 := y26.tr q32
                      rw [e26] at g203 h32
                      show Wp g mX12_unit _ _ _ 206 _ [] _ Q
                      refine r_aload_n dX12_unit_206 rfl ?_
                      refine r_dup dX12_unit_207 rfl ?_
                      refine r_getI dX12_unit_208 fgX12_156 rfl (by exact k_167 h32.1.1) ?_
                      refine r_iconst (1) dX12_unit_211 rfl ?_
                      refine r_isub dX12_unit_212 ?_
                      refine r_putI dX12_unit_213 (fpX12_156 _ rfl) rfl (by exact k_167 h32.1.1) ⟨rfl, rfl⟩ ?_
                      have yz := y32.s (k := 5) (v := (ldI m32 167 5 - 1)) (by omega) (by omega) (by omega)
                      have hz : RE b n n _ (stI m32 167 5 (ldI m32 167 5 - 1)) := ⟨h32.1.sy (Sy.rf.s (by omega) (by omega) (by omega)), ⟨h32.2.1.1, h32.2.1.2.1, h32.2.1.2.2.choose, h32.2.1.2.2.choose_spec.1, ld_n (by decide) h32.2.1.2.2.choose_spec.2⟩, ld_n (by decide) h32.2.2.1, h32.2.2.2.1, ld_n (by decide) h32.2.2.2.2⟩
                      refine r_iload dX12_unit_216 rfl ?_
                      refine r_if_eq 229 dX12_unit_218 rfl (fun _ => ?_) (fun hz => absurd hz (by decide))
                      refine r_lload dX12_unit_229 rfl ?_
                      refine r_lreturn dX12_unit_231 rfl ?_
                      have td : ¬ tkP b n s = -2 := fun z => hdg ((dg_tk hb).mpr z)
                      first
                        | exact k0 er ((if_neg td).trans ((if_neg (no_name nn)).trans ((if_neg (fun z => absurd (t18.symm.trans z) (by decide))).trans ((if_neg (fun z => absurd (t18.symm.trans z) (by decide))).trans ((if_pos (Or.inl t18)).trans (rB_l ((if_pos c40).trans (rB_l her)))))))) _ _ yz hz
                        | exact k0 (1, r.1) ((if_neg td).trans ((if_neg (no_name nn)).trans ((if_neg (fun z => absurd (t18.symm.trans z) (by decide))).trans ((if_neg (fun z => absurd (t18.symm.trans z) (by decide))).trans ((if_pos (Or.inl t18)).trans (rB_l ((if_pos c40).trans ((rB_r hr).trans ((if_pos rfl).trans (if_neg (fun z => g165 ((ch_tk (by unfold isCh; decide)).mpr z)))))))))))) _ _ yz hz
                        | exact k0 er2 ((if_neg td).trans ((if_neg (no_name nn)).trans ((if_neg (fun z => absurd (t18.symm.trans z) (by decide))).trans ((if_neg (fun z => absurd (t18.symm.trans z) (by decide))).trans ((if_pos (Or.inl t18)).trans (rB_l ((if_pos c40).trans ((rB_r hr).trans ((if_pos rfl).trans ((if_pos ((ch_tk (by unfold isCh; decide)).mp g165)).trans (rB_l her2))))))))))) _ _ yz hz
                        | exact k0 (1, r2.1) ((if_neg td).trans ((if_neg (no_name nn)).trans ((if_neg (fun z => absurd (t18.symm.trans z) (by decide))).trans ((if_neg (fun z => absurd (t18.symm.trans z) (by decide))).trans ((if_pos (Or.inl t18)).trans (rB_l ((if_pos c40).trans ((rB_r hr).trans ((if_pos rfl).trans ((if_pos ((ch_tk (by unfold isCh; decide)).mp g165)).trans ((rB_r hr2).trans (if_neg (fun z => g203 ((ch_tk (by unfold isCh; decide)).mpr z)))))))))))))) _ _ yz hz
              ·
                have y24 := y18.tr q24
                rw [e18] at g165 h24
                show Wp g mX12_unit _ _ _ 168 _ [] _ Q
                refine r_aload_n dX12_unit_168 rfl ?_
                refine r_callV0 (ci := 12) (d1 := d) (c1 := 0) (n1 := 0) dX12_unit_169 mvX12_181 rfl ⟨(Nat.le_of_ble_eq_true rfl), rfl⟩ (by omega) (by exact Nat.le_of_ble_eq_true rfl) (by exact k_167 h24.1.1) ?_
                refine hE _ _ _ _ h24 (fun m33 v33 q33 h33 => ?_)
                have y33 := y24.tr q33
                show Wp g mX12_unit _ _ _ 172 _ (_ :: _) _ Q
                refine sl_7 dX12_unit_172 (by first | rfl | assumption) (Nat.le_of_ble_eq_true rfl) ?_
                refine r_iload_n dX12_unit_174 rfl ?_
                refine r_lload dX12_unit_175 rfl ?_
                refine r_lload dX12_unit_177 rfl ?_
                refine r_lcmp_ge 187 dX12_unit_179 dX12_unit_180 rfl (fun tuv => ?_) (fun tuv => ?_)
                ·
                  refine r_iconst (0) dX12_unit_187 rfl ?_
                  refine r_icmp_ne 196 dX12_unit_188 rfl (fun _ => ?_) (fun hz => absurd hz (by decide))
                  refine r_lload dX12_unit_196 rfl ?_
                  refine sl_5 dX12_unit_198 (by first | rfl | assumption) (Nat.le_of_ble_eq_true rfl) ?_
                  refine r_aload_n dX12_unit_200 rfl ?_
                  refine r_bipush (41) dX12_unit_201 rfl ?_
                  refine r_callV1 (ci := 12) (d1 := 2) (c1 := 0) (n1 := 0) dX12_unit_203 mvX12_184 rfl ⟨(Nat.le_of_ble_eq_true rfl), rfl⟩ (by omega) (by exact Nat.le_of_ble_eq_true rfl) (by exact k_167 h33.1.1) ?_
                  refine S_signE h33 (by decide) (fun m34 q34 h34 => ?_)
                  have y34 := y33.tr q34
                  show Wp g mX12_unit _ _ _ 206 _ [] _ Q
                  refine r_aload_n dX12_unit_206 rfl ?_
                  refine r_dup dX12_unit_207 rfl ?_
                  refine r_getI dX12_unit_208 fgX12_156 rfl (by exact k_167 h34.1.1) ?_
                  refine r_iconst (1) dX12_unit_211 rfl ?_
                  refine r_isub dX12_unit_212 ?_
                  refine r_putI dX12_unit_213 (fpX12_156 _ rfl) rfl (by exact k_167 h34.1.1) ⟨rfl, rfl⟩ ?_
                  have yz := y34.s (k := 5) (v := (ldI m34 167 5 - 1)) (by omega) (by omega) (by omega)
                  have hz : RE b n n _ (stI m34 167 5 (ldI m34 167 5 - 1)) := ⟨h34.1.sy (Sy.rf.s (by omega) (by omega) (by omega)), ⟨h34.2.1.1, h34.2.1.2.1, h34.2.1.2.2.choose, h34.2.1.2.2.choose_spec.1, ld_n (by decide) h34.2.1.2.2.choose_spec.2⟩, ld_n (by decide) h34.2.2.1, h34.2.2.2.1, ld_n (by decide) h34.2.2.2.2⟩
                  refine r_iload dX12_unit_216 rfl ?_
                  refine r_if_eq 229 dX12_unit_218 rfl (fun _ => ?_) (fun hz => absurd hz (by decide))
                  refine r_lload dX12_unit_229 rfl ?_
                  refine r_lreturn dX12_unit_231 rfl ?_
                  have td : ¬ tkP b n s = -2 := fun z => hdg ((dg_tk hb).mpr z)
                  first
                    | exact k0 er ((if_neg td).trans ((if_neg (no_name nn)).trans ((if_neg (fun z => absurd (t18.symm.trans z) (by decide))).trans ((if_neg (fun z => absurd (t18.symm.trans z) (by decide))).trans ((if_pos (Or.inl t18)).trans (rB_l ((if_pos c40).trans (rB_l her)))))))) _ _ yz hz
                    | exact k0 (1, r.1) ((if_neg td).trans ((if_neg (no_name nn)).trans ((if_neg (fun z => absurd (t18.symm.trans z) (by decide))).trans ((if_neg (fun z => absurd (t18.symm.trans z) (by decide))).trans ((if_pos (Or.inl t18)).trans (rB_l ((if_pos c40).trans ((rB_r hr).trans ((if_pos rfl).trans (if_neg (fun z => g165 ((ch_tk (by unfold isCh; decide)).mpr z)))))))))))) _ _ yz hz
                    | exact k0 er2 ((if_neg td).trans ((if_neg (no_name nn)).trans ((if_neg (fun z => absurd (t18.symm.trans z) (by decide))).trans ((if_neg (fun z => absurd (t18.symm.trans z) (by decide))).trans ((if_pos (Or.inl t18)).trans (rB_l ((if_pos c40).trans ((rB_r hr).trans ((if_pos rfl).trans ((if_pos ((ch_tk (by unfold isCh; decide)).mp g165)).trans (rB_l her2))))))))))) _ _ yz hz
                    | exact k0 (1, r2.1) ((if_neg td).trans ((if_neg (no_name nn)).trans ((if_neg (fun z => absurd (t18.symm.trans z) (by decide))).trans ((if_neg (fun z => absurd (t18.symm.trans z) (by decide))).trans ((if_pos (Or.inl t18)).trans (rB_l ((if_pos c40).trans ((rB_r hr).trans ((if_pos rfl).trans ((if_pos ((ch_tk (by unfold isCh; decide)).mp g165)).trans ((rB_r hr2).trans (if_neg (fun z => g203 ((ch_tk (by unfold isCh; decide)).mpr z)))))))))))))) _ _ yz hz
                ·
                  refine r_iconst (1) dX12_unit_183 rfl ?_
                  refine r_goto 188 dX12_unit_184 rfl ?_
                  refine r_icmp_ne 196 dX12_unit_188 rfl (fun hz => absurd hz (by decide)) (fun _ => ?_)
                  refine r_lload dX12_unit_191 rfl ?_
                  refine r_goto 198 dX12_unit_193 rfl ?_
                  refine sl_5 dX12_unit_198 (by first | rfl | assumption) (Nat.le_of_ble_eq_true rfl) ?_
                  refine r_aload_n dX12_unit_200 rfl ?_
                  refine r_bipush (41) dX12_unit_201 rfl ?_
                  refine r_callV1 (ci := 12) (d1 := 2) (c1 := 0) (n1 := 0) dX12_unit_203 mvX12_184 rfl ⟨(Nat.le_of_ble_eq_true rfl), rfl⟩ (by omega) (by exact Nat.le_of_ble_eq_true rfl) (by exact k_167 h33.1.1) ?_
                  refine S_signE h33 (by decide) (fun m35 q35 h35 => ?_)
                  have y35 := y33.tr q35
                  show Wp g mX12_unit _ _ _ 206 _ [] _ Q
                  refine r_aload_n dX12_unit_206 rfl ?_
                  refine r_dup dX12_unit_207 rfl ?_
                  refine r_getI dX12_unit_208 fgX12_156 rfl (by exact k_167 h35.1.1) ?_
                  refine r_iconst (1) dX12_unit_211 rfl ?_
                  refine r_isub dX12_unit_212 ?_
                  refine r_putI dX12_unit_213 (fpX12_156 _ rfl) rfl (by exact k_167 h35.1.1) ⟨rfl, rfl⟩ ?_
                  have yz := y35.s (k := 5) (v := (ldI m35 167 5 - 1)) (by omega) (by omega) (by omega)
                  have hz : RE b n n _ (stI m35 167 5 (ldI m35 167 5 - 1)) := ⟨h35.1.sy (Sy.rf.s (by omega) (by omega) (by omega)), ⟨h35.2.1.1, h35.2.1.2.1, h35.2.1.2.2.choose, h35.2.1.2.2.choose_spec.1, ld_n (by decide) h35.2.1.2.2.choose_spec.2⟩, ld_n (by decide) h35.2.2.1, h35.2.2.2.1, ld_n (by decide) h35.2.2.2.2⟩
                  refine r_iload dX12_unit_216 rfl ?_
                  refine r_if_eq 229 dX12_unit_218 rfl (fun _ => ?_) (fun hz => absurd hz (by decide))
                  refine r_lload dX12_unit_229 rfl ?_
                  refine r_lreturn dX12_unit_231 rfl ?_
                  have td : ¬ tkP b n s = -2 := fun z => hdg ((dg_tk hb).mpr z)
                  first
                    | exact k0 er ((if_neg td).trans ((if_neg (no_name nn)).trans ((if_neg (fun z => absurd (t18.symm.trans z) (by decide))).trans ((if_neg (fun z => absurd (t18.symm.trans z) (by decide))).trans ((if_pos (Or.inl t18)).trans (rB_l ((if_pos c40).trans (rB_l her)))))))) _ _ yz hz
                    | exact k0 (1, r.1) ((if_neg td).trans ((if_neg (no_name nn)).trans ((if_neg (fun z => absurd (t18.symm.trans z) (by decide))).trans ((if_neg (fun z => absurd (t18.symm.trans z) (by decide))).trans ((if_pos (Or.inl t18)).trans (rB_l ((if_pos c40).trans ((rB_r hr).trans ((if_pos rfl).trans (if_neg (fun z => g165 ((ch_tk (by unfold isCh; decide)).mpr z)))))))))))) _ _ yz hz
                    | exact k0 er2 ((if_neg td).trans ((if_neg (no_name nn)).trans ((if_neg (fun z => absurd (t18.symm.trans z) (by decide))).trans ((if_neg (fun z => absurd (t18.symm.trans z) (by decide))).trans ((if_pos (Or.inl t18)).trans (rB_l ((if_pos c40).trans ((rB_r hr).trans ((if_pos rfl).trans ((if_pos ((ch_tk (by unfold isCh; decide)).mp g165)).trans (rB_l her2))))))))))) _ _ yz hz
                    | exact k0 (1, r2.1) ((if_neg td).trans ((if_neg (no_name nn)).trans ((if_neg (fun z => absurd (t18.symm.trans z) (by decide))).trans ((if_neg (fun z => absurd (t18.symm.trans z) (by decide))).trans ((if_pos (Or.inl t18)).trans (rB_l ((if_pos c40).trans ((rB_r hr).trans ((if_pos rfl).trans ((if_pos ((ch_tk (by unfold isCh; decide)).mp g165)).trans ((rB_r hr2).trans (if_neg (fun z => g203 ((ch_tk (by unfold isCh; decide)).mpr z)))))))))))))) _ _ yz hz
          ·
            have y16 := y14.tr q16
            obtain ⟨-, hfn⟩ := hi.resolve_right (fun z => by omega)
            subst hfn
            have c40 := (ch_tk (b := b) (n := n) (c := 40) (by unfold isCh; decide)).mp t40
            show Wp g mX12_unit _ _ _ 148 _ [] _ Q
            refine r_aload_n dX12_unit_148 rfl ?_
            refine r_callV0 (ci := 12) (d1 := d) (c1 := 0) (n1 := 0) dX12_unit_149 mvX12_181 rfl ⟨(Nat.le_of_ble_eq_true rfl), rfl⟩ (by omega) (by exact Nat.le_of_ble_eq_true rfl) (by exact k_167 h16.1.1) ?_
            refine hE _ _ _ _ h16 (fun m36 v36 q36 h36 => ?_)
            have y36 := y16.tr q36
            show Wp g mX12_unit _ _ _ 152 _ (_ :: _) _ Q
            refine sl_5 dX12_unit_152 (by first | rfl | assumption) (Nat.le_of_ble_eq_true rfl) ?_
            refine r_iload_n dX12_unit_154 rfl ?_
            refine r_if_ne 162 dX12_unit_155 rfl (fun _ => ?_) (fun hz => absurd hz (by decide))
            refine r_aload_n dX12_unit_162 rfl ?_
            refine r_bipush (44) dX12_unit_163 rfl ?_
            refine r_callV1 (ci := 12) (d1 := 2) (c1 := 0) (n1 := 0) dX12_unit_165 mvX12_184 rfl ⟨(Nat.le_of_ble_eq_true rfl), rfl⟩ (by omega) (by exact Nat.le_of_ble_eq_true rfl) (by exact k_167 h36.1.1) ?_
            refine S_signE h36 (by decide) (fun m37 q37 h37 => ?_)
            have y37 := y36.tr q37
            show Wp g mX12_unit _ _ _ 168 _ [] _ Q
            refine r_aload_n dX12_unit_168 rfl ?_
            refine r_callV0 (ci := 12) (d1 := d) (c1 := 0) (n1 := 0) dX12_unit_169 mvX12_181 rfl ⟨(Nat.le_of_ble_eq_true rfl), rfl⟩ (by omega) (by exact Nat.le_of_ble_eq_true rfl) (by exact k_167 h37.1.1) ?_
            refine hE _ _ _ _ h37 (fun m38 v38 q38 h38 => ?_)
            have y38 := y37.tr q38
            show Wp g mX12_unit _ _ _ 172 _ (_ :: _) _ Q
            refine sl_7 dX12_unit_172 (by first | rfl | assumption) (Nat.le_of_ble_eq_true rfl) ?_
            refine r_iload_n dX12_unit_174 rfl ?_
            refine r_lload dX12_unit_175 rfl ?_
            refine r_lload dX12_unit_177 rfl ?_
            refine r_lcmp_ge 187 dX12_unit_179 dX12_unit_180 rfl (fun tuv => ?_) (fun tuv => ?_)
            ·
              refine r_iconst (0) dX12_unit_187 rfl ?_
              refine r_icmp_ne 196 dX12_unit_188 rfl (fun _ => ?_) (fun hz => absurd hz (by decide))
              refine r_lload dX12_unit_196 rfl ?_
              refine sl_5 dX12_unit_198 (by first | rfl | assumption) (Nat.le_of_ble_eq_true rfl) ?_
              refine r_aload_n dX12_unit_200 rfl ?_
              refine r_bipush (41) dX12_unit_201 rfl ?_
              refine r_callV1 (ci := 12) (d1 := 2) (c1 := 0) (n1 := 0) dX12_unit_203 mvX12_184 rfl ⟨(Nat.le_of_ble_eq_true rfl), rfl⟩ (by omega) (by exact Nat.le_of_ble_eq_true rfl) (by exact k_167 h38.1.1) ?_
              refine S_signE h38 (by decide) (fun m39 q39 h39 => ?_)
              have y39 := y38.tr q39
              show Wp g mX12_unit _ _ _ 206 _ [] _ Q
              refine r_aload_n dX12_unit_206 rfl ?_
              refine r_dup dX12_unit_207 rfl ?_
              refine r_getI dX12_unit_208 fgX12_156 rfl (by exact k_167 h39.1.1) ?_
              refine r_iconst (1) dX12_unit_211 rfl ?_
              refine r_isub dX12_unit_212 ?_
              refine r_putI dX12_unit_213 (fpX12_156 _ rfl) rfl (by exact k_167 h39.1.1) ⟨rfl, rfl⟩ ?_
              have yz := y39.s (k := 5) (v := (ldI m39 167 5 - 1)) (by omega) (by omega) (by omega)
              have hz : RE b n n _ (stI m39 167 5 (ldI m39 167 5 - 1)) := ⟨h39.1.sy (Sy.rf.s (by omega) (by omega) (by omega)), ⟨h39.2.1.1, h39.2.1.2.1, h39.2.1.2.2.choose, h39.2.1.2.2.choose_spec.1, ld_n (by decide) h39.2.1.2.2.choose_spec.2⟩, ld_n (by decide) h39.2.2.1, h39.2.2.2.1, ld_n (by decide) h39.2.2.2.2⟩
              refine r_iload dX12_unit_216 rfl ?_
              refine r_if_eq 229 dX12_unit_218 rfl (fun _ => ?_) (fun hz => absurd hz (by decide))
              refine r_lload dX12_unit_229 rfl ?_
              refine r_lreturn dX12_unit_231 rfl ?_
              have td : ¬ tkP b n s = -2 := fun z => hdg ((dg_tk hb).mpr z)
              exact k0 (3, (adP b n s)) ((if_neg td).trans ((if_neg (no_name nn)).trans ((if_neg (fun z => absurd (t18.symm.trans z) (by decide))).trans ((if_neg (fun z => absurd (t18.symm.trans z) (by decide))).trans ((if_pos (Or.inl t18)).trans (rB_l (if_pos c40))))))) _ _ yz hz
            ·
              refine r_iconst (1) dX12_unit_183 rfl ?_
              refine r_goto 188 dX12_unit_184 rfl ?_
              refine r_icmp_ne 196 dX12_unit_188 rfl (fun hz => absurd hz (by decide)) (fun _ => ?_)
              refine r_lload dX12_unit_191 rfl ?_
              refine r_goto 198 dX12_unit_193 rfl ?_
              refine sl_5 dX12_unit_198 (by first | rfl | assumption) (Nat.le_of_ble_eq_true rfl) ?_
              refine r_aload_n dX12_unit_200 rfl ?_
              refine r_bipush (41) dX12_unit_201 rfl ?_
              refine r_callV1 (ci := 12) (d1 := 2) (c1 := 0) (n1 := 0) dX12_unit_203 mvX12_184 rfl ⟨(Nat.le_of_ble_eq_true rfl), rfl⟩ (by omega) (by exact Nat.le_of_ble_eq_true rfl) (by exact k_167 h38.1.1) ?_
              refine S_signE h38 (by decide) (fun m40 q40 h40 => ?_)
              have y40 := y38.tr q40
              show Wp g mX12_unit _ _ _ 206 _ [] _ Q
              refine r_aload_n dX12_unit_206 rfl ?_
              refine r_dup dX12_unit_207 rfl ?_
              refine r_getI dX12_unit_208 fgX12_156 rfl (by exact k_167 h40.1.1) ?_
              refine r_iconst (1) dX12_unit_211 rfl ?_
              refine r_isub dX12_unit_212 ?_
              refine r_putI dX12_unit_213 (fpX12_156 _ rfl) rfl (by exact k_167 h40.1.1) ⟨rfl, rfl⟩ ?_
              have yz := y40.s (k := 5) (v := (ldI m40 167 5 - 1)) (by omega) (by omega) (by omega)
              have hz : RE b n n _ (stI m40 167 5 (ldI m40 167 5 - 1)) := ⟨h40.1.sy (Sy.rf.s (by omega) (by omega) (by omega)), ⟨h40.2.1.1, h40.2.1.2.1, h40.2.1.2.2.choose, h40.2.1.2.2.choose_spec.1, ld_n (by decide) h40.2.1.2.2.choose_spec.2⟩, ld_n (by decide) h40.2.2.1, h40.2.2.2.1, ld_n (by decide) h40.2.2.2.2⟩
              refine r_iload dX12_unit_216 rfl ?_
              refine r_if_eq 229 dX12_unit_218 rfl (fun _ => ?_) (fun hz => absurd hz (by decide))
              refine r_lload dX12_unit_229 rfl ?_
              refine r_lreturn dX12_unit_231 rfl ?_
              have td : ¬ tkP b n s = -2 := fun z => hdg ((dg_tk hb).mpr z)
              exact k0 (3, (adP b n s)) ((if_neg td).trans ((if_neg (no_name nn)).trans ((if_neg (fun z => absurd (t18.symm.trans z) (by decide))).trans ((if_neg (fun z => absurd (t18.symm.trans z) (by decide))).trans ((if_pos (Or.inl t18)).trans (rB_l (if_pos c40))))))) _ _ yz hz
        ·
          refine r_aload_n dX12_unit_132 rfl ?_
          refine r_iconst (1) dX12_unit_133 rfl ?_
          refine r_aload_n dX12_unit_134 rfl ?_
          refine r_getIc (nI (adP b n s)) dX12_unit_135 fgX12_117 rfl (by exact k_167 h14.1.1) (by exact h14.2.1) ?_
          refine r_callV2 (ci := 12) (d1 := 0) (c1 := 0) (n1 := 0) dX12_unit_138 mvX12_141 rfl ⟨(Nat.le_of_ble_eq_true rfl), rfl⟩ (by omega) (by exact Nat.le_of_ble_eq_true rfl) (by exact k_167 h14.1.1) ?_
          refine S_wrongP h14 (by decide) (fun m41 q41 h41 => ?_)
          have y41 := y14.tr q41
          show Wp g mX12_unit _ _ _ 141 _ [] _ Q
          refine r_lconst (0) dX12_unit_141 rfl ?_
          refine r_lreturn dX12_unit_142 rfl ?_
          have td : ¬ tkP b n s = -2 := fun z => hdg ((dg_tk hb).mpr z)
          exact k0 (1, adP b n s) ((if_neg td).trans ((if_neg (no_name nn)).trans ((if_neg (fun z => absurd (t18.symm.trans z) (by decide))).trans ((if_neg (fun z => absurd (t18.symm.trans z) (by decide))).trans ((if_pos (Or.inl t18)).trans (rB_l (if_neg (fun z => t40 ((ch_tk (by unfold isCh; decide)).mpr z))))))))) m41 _ y41 h41
      ·
        have y8 := y5.tr q8
        show Wp g mX12_unit _ _ _ 66 _ (_ :: _) _ Q
        refine si_2 dX12_unit_66 (by first | rfl | assumption) (Nat.le_of_ble_eq_true rfl) ?_
        refine r_aload_n dX12_unit_67 rfl ?_
        refine r_bipush (13) dX12_unit_68 rfl ?_
        refine r_bipush (15) dX12_unit_70 rfl ?_
        refine r_bipush (19) dX12_unit_72 rfl ?_
        refine r_bipush (20) dX12_unit_74 rfl ?_
        refine r_iconst (0) dX12_unit_76 rfl ?_
        refine r_iconst (0) dX12_unit_77 rfl ?_
        refine r_callV6 (ci := 12) (d1 := 3) (c1 := 0) (n1 := 0) dX12_unit_78 mvX12_159 rfl ⟨(Nat.le_of_ble_eq_true rfl), rfl⟩ (by omega) (by exact Nat.le_of_ble_eq_true rfl) (by exact k_167 h8.1.1) ?_
        refine S_isW19 h8 hss (fun t19 m42 q42 h42 => ?_) (fun t19 m43 q43 h43 => ?_)
        ·
          have y42 := y8.tr q42
          show Wp g mX12_unit _ _ _ 81 _ (_ :: _) _ Q
          refine si_3 dX12_unit_81 (by first | rfl | assumption) (Nat.le_of_ble_eq_true rfl) ?_
          refine r_aload_n dX12_unit_82 rfl ?_
          refine r_bipush (18) dX12_unit_83 rfl ?_
          refine r_bipush (15) dX12_unit_85 rfl ?_
          refine r_bipush (15) dX12_unit_87 rfl ?_
          refine r_bipush (20) dX12_unit_89 rfl ?_
          refine r_iconst (0) dX12_unit_91 rfl ?_
          refine r_iconst (0) dX12_unit_92 rfl ?_
          refine r_callV6 (ci := 12) (d1 := 3) (c1 := 0) (n1 := 0) dX12_unit_93 mvX12_159 rfl ⟨(Nat.le_of_ble_eq_true rfl), rfl⟩ (by omega) (by exact Nat.le_of_ble_eq_true rfl) (by exact k_167 h42.1.1) ?_
          refine S_isW20 h42 hss (fun t20 => absurd (t19.symm.trans t20) (by decide)) (fun t20 m45 q45 h45 => ?_)
          have y45 := y42.tr q45
          show Wp g mX12_unit _ _ _ 96 _ (_ :: _) _ Q
          refine si_4 dX12_unit_96 (by first | rfl | assumption) (Nat.le_of_ble_eq_true rfl) ?_
          refine r_iload_n dX12_unit_98 rfl ?_
          refine r_if_ne 111 dX12_unit_99 rfl (fun hz => absurd hz (by decide)) (fun _ => ?_)
          refine r_iload_n dX12_unit_102 rfl ?_
          refine r_if_ne 111 dX12_unit_103 rfl (fun _ => ?_) (fun hz => absurd hz (by decide))
          refine r_aload_n dX12_unit_111 rfl ?_
          refine r_callV0 (ci := 12) (d1 := 1) (c1 := 0) (n1 := 0) dX12_unit_112 mvX12_174 rfl ⟨(Nat.le_of_ble_eq_true rfl), rfl⟩ (by omega) (by exact Nat.le_of_ble_eq_true rfl) (by exact k_167 h45.1.1) ?_
          refine S_skipP h45 (fun m46 q46 h46 => ?_)
          have y46 := y45.tr q46
          show Wp g mX12_unit _ _ _ 115 _ [] _ Q
          refine r_aload_n dX12_unit_115 rfl ?_
          refine r_callV0 (ci := 12) (d1 := 1) (c1 := 0) (n1 := 0) dX12_unit_116 mvX12_145 rfl ⟨(Nat.le_of_ble_eq_true rfl), rfl⟩ (by omega) (by exact Nat.le_of_ble_eq_true rfl) (by exact k_167 h46.1.1) ?_
          refine S_blanksP h46 (fun m47 q47 h47 => ?_)
          have y47 := y46.tr q47
          rw [show rE b n isBl (rE b n isLt s) = adP b n s from by unfold adP; rw [(nx_w (i := 19) (by omega) hb t19).1]] at h47
          show Wp g mX12_unit _ _ _ 119 _ [] _ Q
          refine r_aload_n dX12_unit_119 rfl ?_
          refine r_aload_n dX12_unit_120 rfl ?_
          refine r_getIc (nI (adP b n s)) dX12_unit_121 fgX12_117 rfl (by exact k_167 h47.1.1) (by exact h47.2.1) ?_
          refine r_callV1 (ci := 12) (d1 := 0) (c1 := 0) (n1 := 0) dX12_unit_124 mvX12_120 rfl ⟨(Nat.le_of_ble_eq_true rfl), rfl⟩ (by omega) (by exact Nat.le_of_ble_eq_true rfl) (by exact k_167 h47.1.1) ?_
          refine S_byteAt h47.1 (k := (adP b n s)) (by have := h47.2.2.1; omega) ?_
          show Wp g mX12_unit _ _ _ 127 _ (_ :: _) _ Q
          refine r_bipush (40) dX12_unit_127 rfl ?_
          refine r_icmp_eq 143 dX12_unit_129 rfl (fun t40 => ?_) (fun t40 => ?_)
          ·
            refine r_aload_n dX12_unit_143 rfl ?_
            refine r_iconst (1) dX12_unit_144 rfl ?_
            refine r_callV1 (ci := 12) (d1 := 1) (c1 := 0) (n1 := 0) dX12_unit_145 mvX12_177 rfl ⟨(Nat.le_of_ble_eq_true rfl), rfl⟩ (by omega) (by exact Nat.le_of_ble_eq_true rfl) (by exact k_167 h47.1.1) ?_
            refine S_opensP h47 ho (w := 1) (nx_ch (by unfold isCh; decide) t40).1 (fun o6 m48 q48 h48 => ?_) (fun o6 m49 q49 h49 => ?_)
            ·
              have y48 := y47.tr q48
              obtain ⟨-, F, hfF, gF, hSF⟩ := hi.resolve_left (fun z => by omega)
              subst hfF
              have c40 := (ch_tk (b := b) (n := n) (c := 40) (by unfold isCh; decide)).mp t40
              have wx := ad_of c40 (by decide)
              have nx40 := nx_ch (c := 40) (by unfold isCh; decide) t40
              show Wp g mX12_unit _ _ _ 148 _ [] _ Q
              refine r_aload_n dX12_unit_148 rfl ?_
              refine r_callV0 (ci := 12) (d1 := d) (c1 := 0) (n1 := 0) dX12_unit_149 mvX12_181 rfl ⟨(Nat.le_of_ble_eq_true rfl), rfl⟩ (by omega) (by exact Nat.le_of_ble_eq_true rfl) (by exact k_167 h48.1.1) ?_
              refine hSF _ (adP b n (adP b n s)) N _ ⟨_, h48, (congrArg (rE b n isBl) nx40.2.symm)⟩ (y48.n hN) (fun er her m50 v50 q50 h50 => ?_) (fun r hr m51 q51 h51 => ?_)
              ·
                have y50 := y48.tr q50
                show Wp g mX12_unit _ _ _ 152 _ (_ :: _) _ Q
                refine sl_5 dX12_unit_152 (by first | rfl | assumption) (Nat.le_of_ble_eq_true rfl) ?_
                refine r_iload_n dX12_unit_154 rfl ?_
                refine r_if_ne 162 dX12_unit_155 rfl (fun hz => absurd hz (by decide)) (fun _ => ?_)
                refine r_iload_n dX12_unit_158 rfl ?_
                refine r_if_eq 200 dX12_unit_159 rfl (fun hz => absurd hz (by decide)) (fun _ => ?_)
                refine r_aload_n dX12_unit_162 rfl ?_
                refine r_bipush (44) dX12_unit_163 rfl ?_
                refine r_callV1 (ci := 12) (d1 := 2) (c1 := 0) (n1 := 0) dX12_unit_165 mvX12_184 rfl ⟨(Nat.le_of_ble_eq_true rfl), rfl⟩ (by omega) (by exact Nat.le_of_ble_eq_true rfl) (by exact k_167 h50.1.1) ?_
                refine S_signE h50 (by decide) (fun m52 q52 h52 => ?_)
                have y52 := y50.tr q52
                show Wp g mX12_unit _ _ _ 168 _ [] _ Q
                refine r_aload_n dX12_unit_168 rfl ?_
                refine r_callV0 (ci := 12) (d1 := d) (c1 := 0) (n1 := 0) dX12_unit_169 mvX12_181 rfl ⟨(Nat.le_of_ble_eq_true rfl), rfl⟩ (by omega) (by exact Nat.le_of_ble_eq_true rfl) (by exact k_167 h52.1.1) ?_
                refine hE _ _ _ _ h52 (fun m53 v53 q53 h53 => ?_)
                have y53 := y52.tr q53
                show Wp g mX12_unit _ _ _ 172 _ (_ :: _) _ Q
                refine sl_7 dX12_unit_172 (by first | rfl | assumption) (Nat.le_of_ble_eq_true rfl) ?_
                refine r_iload_n dX12_unit_174 rfl ?_
                refine r_lload dX12_unit_175 rfl ?_
                refine r_lload dX12_unit_177 rfl ?_
                refine r_lcmp_ge 187 dX12_unit_179 dX12_unit_180 rfl (fun tuv => ?_) (fun tuv => ?_)
                ·
                  refine r_iconst (0) dX12_unit_187 rfl ?_
                  refine r_icmp_ne 196 dX12_unit_188 rfl (fun hz => absurd hz (by decide)) (fun _ => ?_)
                  refine r_lload dX12_unit_191 rfl ?_
                  refine r_goto 198 dX12_unit_193 rfl ?_
                  refine sl_5 dX12_unit_198 (by first | rfl | assumption) (Nat.le_of_ble_eq_true rfl) ?_
                  refine r_aload_n dX12_unit_200 rfl ?_
                  refine r_bipush (41) dX12_unit_201 rfl ?_
                  refine r_callV1 (ci := 12) (d1 := 2) (c1 := 0) (n1 := 0) dX12_unit_203 mvX12_184 rfl ⟨(Nat.le_of_ble_eq_true rfl), rfl⟩ (by omega) (by exact Nat.le_of_ble_eq_true rfl) (by exact k_167 h53.1.1) ?_
                  refine S_signE h53 (by decide) (fun m54 q54 h54 => ?_)
                  have y54 := y53.tr q54
                  show Wp g mX12_unit _ _ _ 206 _ [] _ Q
                  refine r_aload_n dX12_unit_206 rfl ?_
                  refine r_dup dX12_unit_207 rfl ?_
                  refine r_getI dX12_unit_208 fgX12_156 rfl (by exact k_167 h54.1.1) ?_
                  refine r_iconst (1) dX12_unit_211 rfl ?_
                  refine r_isub dX12_unit_212 ?_
                  refine r_putI dX12_unit_213 (fpX12_156 _ rfl) rfl (by exact k_167 h54.1.1) ⟨rfl, rfl⟩ ?_
                  have yz := y54.s (k := 5) (v := (ldI m54 167 5 - 1)) (by omega) (by omega) (by omega)
                  have hz : RE b n n _ (stI m54 167 5 (ldI m54 167 5 - 1)) := ⟨h54.1.sy (Sy.rf.s (by omega) (by omega) (by omega)), ⟨h54.2.1.1, h54.2.1.2.1, h54.2.1.2.2.choose, h54.2.1.2.2.choose_spec.1, ld_n (by decide) h54.2.1.2.2.choose_spec.2⟩, ld_n (by decide) h54.2.2.1, h54.2.2.2.1, ld_n (by decide) h54.2.2.2.2⟩
                  refine r_iload dX12_unit_216 rfl ?_
                  refine r_if_eq 229 dX12_unit_218 rfl (fun _ => ?_) (fun hz => absurd hz (by decide))
                  refine r_lload dX12_unit_229 rfl ?_
                  refine r_lreturn dX12_unit_231 rfl ?_
                  have td : ¬ tkP b n s = -2 := fun z => hdg ((dg_tk hb).mpr z)
                  first
                    | exact k0 er ((if_neg td).trans ((if_neg (no_name nn)).trans ((if_neg (fun z => absurd (t19.symm.trans z) (by decide))).trans ((if_neg (fun z => absurd (t19.symm.trans z) (by decide))).trans ((if_pos (Or.inr t19)).trans (rB_l ((if_pos c40).trans (rB_l her)))))))) _ _ yz hz
                    | exact k0 (1, r.1) ((if_neg td).trans ((if_neg (no_name nn)).trans ((if_neg (fun z => absurd (t19.symm.trans z) (by decide))).trans ((if_neg (fun z => absurd (t19.symm.trans z) (by decide))).trans ((if_pos (Or.inr t19)).trans (rB_l ((if_pos c40).trans ((rB_r hr).trans ((if_pos rfl).trans (if_neg (fun z => g165 ((ch_tk (by unfold isCh; decide)).mpr z)))))))))))) _ _ yz hz
                    | exact k0 er2 ((if_neg td).trans ((if_neg (no_name nn)).trans ((if_neg (fun z => absurd (t19.symm.trans z) (by decide))).trans ((if_neg (fun z => absurd (t19.symm.trans z) (by decide))).trans ((if_pos (Or.inr t19)).trans (rB_l ((if_pos c40).trans ((rB_r hr).trans ((if_pos rfl).trans ((if_pos ((ch_tk (by unfold isCh; decide)).mp g165)).trans (rB_l her2))))))))))) _ _ yz hz
                    | exact k0 (1, r2.1) ((if_neg td).trans ((if_neg (no_name nn)).trans ((if_neg (fun z => absurd (t19.symm.trans z) (by decide))).trans ((if_neg (fun z => absurd (t19.symm.trans z) (by decide))).trans ((if_pos (Or.inr t19)).trans (rB_l ((if_pos c40).trans ((rB_r hr).trans ((if_pos rfl).trans ((if_pos ((ch_tk (by unfold isCh; decide)).mp g165)).trans ((rB_r hr2).trans (if_neg (fun z => g203 ((ch_tk (by unfold isCh; decide)).mpr z)))))))))))))) _ _ yz hz
                ·
                  refine r_iconst (1) dX12_unit_183 rfl ?_
                  refine r_goto 188 dX12_unit_184 rfl ?_
                  refine r_icmp_ne 196 dX12_unit_188 rfl (fun _ => ?_) (fun hz => absurd hz (by decide))
                  refine r_lload dX12_unit_196 rfl ?_
                  refine sl_5 dX12_unit_198 (by first | rfl | assumption) (Nat.le_of_ble_eq_true rfl) ?_
                  refine r_aload_n dX12_unit_200 rfl ?_
                  refine r_bipush (41) dX12_unit_201 rfl ?_
                  refine r_callV1 (ci := 12) (d1 := 2) (c1 := 0) (n1 := 0) dX12_unit_203 mvX12_184 rfl ⟨(Nat.le_of_ble_eq_true rfl), rfl⟩ (by omega) (by exact Nat.le_of_ble_eq_true rfl) (by exact k_167 h53.1.1) ?_
                  refine S_signE h53 (by decide) (fun m55 q55 h55 => ?_)
                  have y55 := y53.tr q55
                  show Wp g mX12_unit _ _ _ 206 _ [] _ Q
                  refine r_aload_n dX12_unit_206 rfl ?_
                  refine r_dup dX12_unit_207 rfl ?_
                  refine r_getI dX12_unit_208 fgX12_156 rfl (by exact k_167 h55.1.1) ?_
                  refine r_iconst (1) dX12_unit_211 rfl ?_
                  refine r_isub dX12_unit_212 ?_
                  refine r_putI dX12_unit_213 (fpX12_156 _ rfl) rfl (by exact k_167 h55.1.1) ⟨rfl, rfl⟩ ?_
                  have yz := y55.s (k := 5) (v := (ldI m55 167 5 - 1)) (by omega) (by omega) (by omega)
                  have hz : RE b n n _ (stI m55 167 5 (ldI m55 167 5 - 1)) := ⟨h55.1.sy (Sy.rf.s (by omega) (by omega) (by omega)), ⟨h55.2.1.1, h55.2.1.2.1, h55.2.1.2.2.choose, h55.2.1.2.2.choose_spec.1, ld_n (by decide) h55.2.1.2.2.choose_spec.2⟩, ld_n (by decide) h55.2.2.1, h55.2.2.2.1, ld_n (by decide) h55.2.2.2.2⟩
                  refine r_iload dX12_unit_216 rfl ?_
                  refine r_if_eq 229 dX12_unit_218 rfl (fun _ => ?_) (fun hz => absurd hz (by decide))
                  refine r_lload dX12_unit_229 rfl ?_
                  refine r_lreturn dX12_unit_231 rfl ?_
                  have td : ¬ tkP b n s = -2 := fun z => hdg ((dg_tk hb).mpr z)
                  first
                    | exact k0 er ((if_neg td).trans ((if_neg (no_name nn)).trans ((if_neg (fun z => absurd (t19.symm.trans z) (by decide))).trans ((if_neg (fun z => absurd (t19.symm.trans z) (by decide))).trans ((if_pos (Or.inr t19)).trans (rB_l ((if_pos c40).trans (rB_l her)))))))) _ _ yz hz
                    | exact k0 (1, r.1) ((if_neg td).trans ((if_neg (no_name nn)).trans ((if_neg (fun z => absurd (t19.symm.trans z) (by decide))).trans ((if_neg (fun z => absurd (t19.symm.trans z) (by decide))).trans ((if_pos (Or.inr t19)).trans (rB_l ((if_pos c40).trans ((rB_r hr).trans ((if_pos rfl).trans (if_neg (fun z => g165 ((ch_tk (by unfold isCh; decide)).mpr z)))))))))))) _ _ yz hz
                    | exact k0 er2 ((if_neg td).trans ((if_neg (no_name nn)).trans ((if_neg (fun z => absurd (t19.symm.trans z) (by decide))).trans ((if_neg (fun z => absurd (t19.symm.trans z) (by decide))).trans ((if_pos (Or.inr t19)).trans (rB_l ((if_pos c40).trans ((rB_r hr).trans ((if_pos rfl).trans ((if_pos ((ch_tk (by unfold isCh; decide)).mp g165)).trans (rB_l her2))))))))))) _ _ yz hz
                    | exact k0 (1, r2.1) ((if_neg td).trans ((if_neg (no_name nn)).trans ((if_neg (fun z => absurd (t19.symm.trans z) (by decide))).trans ((if_neg (fun z => absurd (t19.symm.trans z) (by decide))).trans ((if_pos (Or.inr t19)).trans (rB_l ((if_pos c40).trans ((rB_r hr).trans ((if_pos rfl).trans ((if_pos ((ch_tk (by unfold isCh; decide)).mp g165)).trans ((rB_r hr2).trans (if_neg (fun z => g203 ((ch_tk (by unfold isCh; decide)).mpr z)))))))))))))) _ _ yz hz
              ·
                obtain ⟨a51, h51, e51⟩ := h51
                have y51 := y48.tr q51
                show Wp g mX12_unit _ _ _ 152 _ (_ :: _) _ Q
                refine sl_5 dX12_unit_152 (by first | rfl | assumption) (Nat.le_of_ble_eq_true rfl) ?_
                refine r_iload_n dX12_unit_154 rfl ?_
                refine r_if_ne 162 dX12_unit_155 rfl (fun hz => absurd hz (by decide)) (fun _ => ?_)
                refine r_iload_n dX12_unit_158 rfl ?_
                refine r_if_eq 200 dX12_unit_159 rfl (fun hz => absurd hz (by decide)) (fun _ => ?_)
                refine r_aload_n dX12_unit_162 rfl ?_
                refine r_bipush (44) dX12_unit_163 rfl ?_
                refine r_callV1 (ci := 12) (d1 := 2) (c1 := 0) (n1 := 0) dX12_unit_165 mvX12_184 rfl ⟨(Nat.le_of_ble_eq_true rfl), rfl⟩ (by omega) (by exact Nat.le_of_ble_eq_true rfl) (by exact k_167 h51.1.1) ?_
                refine S_signP h51 (by decide) (fun g165 m56 q56 h56 => ?_) (fun g165 m57 q57 h57 => ?_)
                ·
                  have y56 := y51.tr q56
                  rw [e51] at g165 h56
                  show Wp g mX12_unit _ _ _ 168 _ [] _ Q
                  refine r_aload_n dX12_unit_168 rfl ?_
                  refine r_callV0 (ci := 12) (d1 := d) (c1 := 0) (n1 := 0) dX12_unit_169 mvX12_181 rfl ⟨(Nat.le_of_ble_eq_true rfl), rfl⟩ (by omega) (by exact Nat.le_of_ble_eq_true rfl) (by exact k_167 h56.1.1) ?_
                  refine hSF _ (adP b n r.1) N _ ⟨_, h56, (congrArg (rE b n isBl) (nx_ch (c := 44) (by unfold isCh; decide) g165).2.symm)⟩ (y56.n hN) (fun er2 her2 m58 v58 q58 h58 => ?_) (fun r2 hr2 m59 q59 h59 => ?_)
                  ·
                    have y58 := y56.tr q58
                    show Wp g mX12_unit _ _ _ 172 _ (_ :: _) _ Q
                    refine sl_7 dX12_unit_172 (by first | rfl | assumption) (Nat.le_of_ble_eq_true rfl) ?_
                    refine r_iload_n dX12_unit_174 rfl ?_
                    refine r_lload dX12_unit_175 rfl ?_
                    refine r_lload dX12_unit_177 rfl ?_
                    refine r_lcmp_ge 187 dX12_unit_179 dX12_unit_180 rfl (fun tuv => ?_) (fun tuv => ?_)
                    ·
                      refine r_iconst (0) dX12_unit_187 rfl ?_
                      refine r_icmp_ne 196 dX12_unit_188 rfl (fun hz => absurd hz (by decide)) (fun _ => ?_)
                      refine r_lload dX12_unit_191 rfl ?_
                      refine r_goto 198 dX12_unit_193 rfl ?_
                      refine sl_5 dX12_unit_198 (by first | rfl | assumption) (Nat.le_of_ble_eq_true rfl) ?_
                      refine r_aload_n dX12_unit_200 rfl ?_
                      refine r_bipush (41) dX12_unit_201 rfl ?_
                      refine r_callV1 (ci := 12) (d1 := 2) (c1 := 0) (n1 := 0) dX12_unit_203 mvX12_184 rfl ⟨(Nat.le_of_ble_eq_true rfl), rfl⟩ (by omega) (by exact Nat.le_of_ble_eq_true rfl) (by exact k_167 h58.1.1) ?_
                      refine S_signE h58 (by decide) (fun m60 q60 h60 => ?_)
                      have y60 := y58.tr q60
                      show Wp g mX12_unit _ _ _ 206 _ [] _ Q
                      refine r_aload_n dX12_unit_206 rfl ?_
                      refine r_dup dX12_unit_207 rfl ?_
                      refine r_getI dX12_unit_208 fgX12_156 rfl (by exact k_167 h60.1.1) ?_
                      refine r_iconst (1) dX12_unit_211 rfl ?_
                      refine r_isub dX12_unit_212 ?_
                      refine r_putI dX12_unit_213 (fpX12_156 _ rfl) rfl (by exact k_167 h60.1.1) ⟨rfl, rfl⟩ ?_
                      have yz := y60.s (k := 5) (v := (ldI m60 167 5 - 1)) (by omega) (by omega) (by omega)
                      have hz : RE b n n _ (stI m60 167 5 (ldI m60 167 5 - 1)) := ⟨h60.1.sy (Sy.rf.s (by omega) (by omega) (by omega)), ⟨h60.2.1.1, h60.2.1.2.1, h60.2.1.2.2.choose, h60.2.1.2.2.choose_spec.1, ld_n (by decide) h60.2.1.2.2.choose_spec.2⟩, ld_n (by decide) h60.2.2.1, h60.2.2.2.1, ld_n (by decide) h60.2.2.2.2⟩
                      refine r_iload dX12_unit_216 rfl ?_
                      refine r_if_eq 229 dX12_unit_218 rfl (fun _ => ?_) (fun hz => absurd hz (by decide))
                      refine r_lload dX12_unit_229 rfl ?_
                      refine r_lreturn dX12_unit_231 rfl ?_
                      have td : ¬ tkP b n s = -2 := fun z => hdg ((dg_tk hb).mpr z)
                      first
                        | exact k0 er ((if_neg td).trans ((if_neg (no_name nn)).trans ((if_neg (fun z => absurd (t19.symm.trans z) (by decide))).trans ((if_neg (fun z => absurd (t19.symm.trans z) (by decide))).trans ((if_pos (Or.inr t19)).trans (rB_l ((if_pos c40).trans (rB_l her)))))))) _ _ yz hz
                        | exact k0 (1, r.1) ((if_neg td).trans ((if_neg (no_name nn)).trans ((if_neg (fun z => absurd (t19.symm.trans z) (by decide))).trans ((if_neg (fun z => absurd (t19.symm.trans z) (by decide))).trans ((if_pos (Or.inr t19)).trans (rB_l ((if_pos c40).trans ((rB_r hr).trans ((if_pos rfl).trans (if_neg (fun z => g165 ((ch_tk (by unfold isCh; decide)).mpr z)))))))))))) _ _ yz hz
                        | exact k0 er2 ((if_neg td).trans ((if_neg (no_name nn)).trans ((if_neg (fun z => absurd (t19.symm.trans z) (by decide))).trans ((if_neg (fun z => absurd (t19.symm.trans z) (by decide))).trans ((if_pos (Or.inr t19)).trans (rB_l ((if_pos c40).trans ((rB_r hr).trans ((if_pos rfl).trans ((if_pos ((ch_tk (by unfold isCh; decide)).mp g165)).trans (rB_l her2))))))))))) _ _ yz hz
                        | exact k0 (1, r2.1) ((if_neg td).trans ((if_neg (no_name nn)).trans ((if_neg (fun z => absurd (t19.symm.trans z) (by decide))).trans ((if_neg (fun z => absurd (t19.symm.trans z) (by decide))).trans ((if_pos (Or.inr t19)).trans (rB_l ((if_pos c40).trans ((rB_r hr).trans ((if_pos rfl).trans ((if_pos ((ch_tk (by unfold isCh; decide)).mp g165)).trans ((rB_r hr2).trans (if_neg (fun z => g203 ((ch_tk (by unfold isCh; decide)).mpr z)))))))))))))) _ _ yz hz
                    ·
                      refine r_iconst (1) dX12_unit_183 rfl ?_
                      refine r_goto 188 dX12_unit_184 rfl ?_
                      refine r_icmp_ne 196 dX12_unit_188 rfl (fun _ => ?_) (fun hz => absurd hz (by decide))
                      refine r_lload dX12_unit_196 rfl ?_
                      refine sl_5 dX12_unit_198 (by first | rfl | assumption) (Nat.le_of_ble_eq_true rfl) ?_
                      refine r_aload_n dX12_unit_200 rfl ?_
                      refine r_bipush (41) dX12_unit_201 rfl ?_
                      refine r_callV1 (ci := 12) (d1 := 2) (c1 := 0) (n1 := 0) dX12_unit_203 mvX12_184 rfl ⟨(Nat.le_of_ble_eq_true rfl), rfl⟩ (by omega) (by exact Nat.le_of_ble_eq_true rfl) (by exact k_167 h58.1.1) ?_
                      refine S_signE h58 (by decide) (fun m61 q61 h61 => ?_)
                      have y61 := y58.tr q61
                      show Wp g mX12_unit _ _ _ 206 _ [] _ Q
                      refine r_aload_n dX12_unit_206 rfl ?_
                      refine r_dup dX12_unit_207 rfl ?_
                      refine r_getI dX12_unit_208 fgX12_156 rfl (by exact k_167 h61.1.1) ?_
                      refine r_iconst (1) dX12_unit_211 rfl ?_
                      refine r_isub dX12_unit_212 ?_
                      refine r_putI dX12_unit_213 (fpX12_156 _ rfl) rfl (by exact k_167 h61.1.1) ⟨rfl, rfl⟩ ?_
                      have yz := y61.s (k := 5) (v := (ldI m61 167 5 - 1)) (by omega) (by omega) (by omega)
                      have hz : RE b n n _ (stI m61 167 5 (ldI m61 167 5 - 1)) := ⟨h61.1.sy (Sy.rf.s (by omega) (by omega) (by omega)), ⟨h61.2.1.1, h61.2.1.2.1, h61.2.1.2.2.choose, h61.2.1.2.2.choose_spec.1, ld_n (by decide) h61.2.1.2.2.choose_spec.2⟩, ld_n (by decide) h61.2.2.1, h61.2.2.2.1, ld_n (by decide) h61.2.2.2.2⟩
                      refine r_iload dX12_unit_216 rfl ?_
                      refine r_if_eq 229 dX12_unit_218 rfl (fun _ => ?_) (fun hz => absurd hz (by decide))
                      refine r_lload dX12_unit_229 rfl ?_
                      refine r_lreturn dX12_unit_231 rfl ?_
                      have td : ¬ tkP b n s = -2 := fun z => hdg ((dg_tk hb).mpr z)
                      first
                        | exact k0 er ((if_neg td).trans ((if_neg (no_name nn)).trans ((if_neg (fun z => absurd (t19.symm.trans z) (by decide))).trans ((if_neg (fun z => absurd (t19.symm.trans z) (by decide))).trans ((if_pos (Or.inr t19)).trans (rB_l ((if_pos c40).trans (rB_l her)))))))) _ _ yz hz
                        | exact k0 (1, r.1) ((if_neg td).trans ((if_neg (no_name nn)).trans ((if_neg (fun z => absurd (t19.symm.trans z) (by decide))).trans ((if_neg (fun z => absurd (t19.symm.trans z) (by decide))).trans ((if_pos (Or.inr t19)).trans (rB_l ((if_pos c40).trans ((rB_r hr).trans ((if_pos rfl).trans (if_neg (fun z => g165 ((ch_tk (by unfold isCh; decide)).mpr z)))))))))))) _ _ yz hz
                        | exact k0 er2 ((if_neg td).trans ((if_neg (no_name nn)).trans ((if_neg (fun z => absurd (t19.symm.trans z) (by decide))).trans ((if_neg (fun z => absurd (t19.symm.trans z) (by decide))).trans ((if_pos (Or.inr t19)).trans (rB_l ((if_pos c40).trans ((rB_r hr).trans ((if_pos rfl).trans ((if_pos ((ch_tk (by unfold isCh; decide)).mp g165)).trans (rB_l her2))))))))))) _ _ yz hz
                        | exact k0 (1, r2.1) ((if_neg td).trans ((if_neg (no_name nn)).trans ((if_neg (fun z => absurd (t19.symm.trans z) (by decide))).trans ((if_neg (fun z => absurd (t19.symm.trans z) (by decide))).trans ((if_pos (Or.inr t19)).trans (rB_l ((if_pos c40).trans ((rB_r hr).trans ((if_pos rfl).trans ((if_pos ((ch_tk (by unfold isCh; decide)).mp g165)).trans ((rB_r hr2).trans (if_neg (fun z => g203 ((ch_tk (by unfold isCh; decide)).mpr z)))))))))))))) _ _ yz hz
                  ·
                    obtain ⟨a59, h59, e59⟩ := h59
                    have y59 := y56.tr q59
                    show Wp g mX12_unit _ _ _ 172 _ (_ :: _) _ Q
                    refine sl_7 dX12_unit_172 (by first | rfl | assumption) (Nat.le_of_ble_eq_true rfl) ?_
                    refine r_iload_n dX12_unit_174 rfl ?_
                    refine r_lload dX12_unit_175 rfl ?_
                    refine r_lload dX12_unit_177 rfl ?_
                    refine r_lcmp_ge 187 dX12_unit_179 dX12_unit_180 rfl (fun tuv => ?_) (fun tuv => ?_)
                    ·
                      refine r_iconst (0) dX12_unit_187 rfl ?_
                      refine r_icmp_ne 196 dX12_unit_188 rfl (fun hz => absurd hz (by decide)) (fun _ => ?_)
                      refine r_lload dX12_unit_191 rfl ?_
                      refine r_goto 198 dX12_unit_193 rfl ?_
                      refine sl_5 dX12_unit_198 (by first | rfl | assumption) (Nat.le_of_ble_eq_true rfl) ?_
                      refine r_aload_n dX12_unit_200 rfl ?_
                      refine r_bipush (41) dX12_unit_201 rfl ?_
                      refine r_callV1 (ci := 12) (d1 := 2) (c1 := 0) (n1 := 0) dX12_unit_203 mvX12_184 rfl ⟨(Nat.le_of_ble_eq_true rfl), rfl⟩ (by omega) (by exact Nat.le_of_ble_eq_true rfl) (by exact k_167 h59.1.1) ?_
                      refine S_signP h59 (by decide) (fun g203 m62 q62 h62 => ?_) (fun g203 m63 q63 h63 => ?_)
                      ·
                        have y62 := y59.tr q62
                        rw [e59] at g203 h62
                        show Wp g mX12_unit _ _ _ 206 _ [] _ Q
                        refine r_aload_n dX12_unit_206 rfl ?_
                        refine r_dup dX12_unit_207 rfl ?_
                        refine r_getIc (nI (o + 1)) dX12_unit_208 fgX12_156 rfl (by exact k_167 h62.1.1) (by exact h62.2.2.2.1) ?_
                        refine r_iconst (1) dX12_unit_211 rfl ?_
                        refine r_isub dX12_unit_212 ?_
                        refine r_putI dX12_unit_213 (fpX12_156 _ rfl) rfl (by exact k_167 h62.1.1) ⟨rfl, rfl⟩ ?_
                        rw [nI_p1]
                        have yz := y62.s (k := 5) (v := nI o) (by omega) (by omega) (by omega)
                        have hz : RPa b n _ o (stI m62 167 5 (nI o)) := ⟨h62.1.sy (Sy.rf.s (by omega) (by omega) (by omega)), ld_n (by decide) h62.2.1, h62.2.2.1, ld_s, ld_n (by decide) h62.2.2.2.2.1, ld_n (by decide) h62.2.2.2.2.2⟩
                        refine r_iload dX12_unit_216 rfl ?_
                        refine r_if_eq 229 dX12_unit_218 rfl (fun _ => ?_) (fun hz => absurd hz (by decide))
                        refine r_lload dX12_unit_229 rfl ?_
                        refine r_lreturn dX12_unit_231 rfl ?_
                        have td : ¬ tkP b n s = -2 := fun z => hdg ((dg_tk hb).mpr z)
                        have k9 := k1 _ ((if_neg td).trans ((if_neg (no_name nn)).trans ((if_neg (fun z => absurd (t19.symm.trans z) (by decide))).trans ((if_neg (fun z => absurd (t19.symm.trans z) (by decide))).trans ((if_pos (Or.inr t19)).trans (rB_r ((if_pos c40).trans ((rB_r hr).trans ((if_pos rfl).trans ((if_pos ((ch_tk (by unfold isCh; decide)).mp g165)).trans ((rB_r hr2).trans (if_pos ((ch_tk (by unfold isCh; decide)).mp g203))))))))))))) _ yz ⟨_, hz, congrArg (rE b n isBl) (nx_ch (c := 41) (by unfold isCh; decide) g203).2.symm⟩
                        dsimp only at k9
                        rw [t19, jn275_a tuv] at k9
                        exact k9
                      ·
                        have y63 := y59.tr q63
                        rw [e59] at g203 h63
                        show Wp g mX12_unit _ _ _ 206 _ [] _ Q
                        refine r_aload_n dX12_unit_206 rfl ?_
                        refine r_dup dX12_unit_207 rfl ?_
                        refine r_getI dX12_unit_208 fgX12_156 rfl (by exact k_167 h63.1.1) ?_
                        refine r_iconst (1) dX12_unit_211 rfl ?_
                        refine r_isub dX12_unit_212 ?_
                        refine r_putI dX12_unit_213 (fpX12_156 _ rfl) rfl (by exact k_167 h63.1.1) ⟨rfl, rfl⟩ ?_
                        have yz := y63.s (k := 5) (v := (ldI m63 167 5 - 1)) (by omega) (by omega) (by omega)
                        have hz : RE b n n _ (stI m63 167 5 (ldI m63 167 5 - 1)) := ⟨h63.1.sy (Sy.rf.s (by omega) (by omega) (by omega)), ⟨h63.2.1.1, h63.2.1.2.1, h63.2.1.2.2.choose, h63.2.1.2.2.choose_spec.1, ld_n (by decide) h63.2.1.2.2.choose_spec.2⟩, ld_n (by decide) h63.2.2.1, h63.2.2.2.1, ld_n (by decide) h63.2.2.2.2⟩
                        refine r_iload dX12_unit_216 rfl ?_
                        refine r_if_eq 229 dX12_unit_218 rfl (fun _ => ?_) (fun hz => absurd hz (by decide))
                        refine r_lload dX12_unit_229 rfl ?_
                        refine r_lreturn dX12_unit_231 rfl ?_
                        have td : ¬ tkP b n s = -2 := fun z => hdg ((dg_tk hb).mpr z)
                        first
                          | exact k0 er ((if_neg td).trans ((if_neg (no_name nn)).trans ((if_neg (fun z => absurd (t19.symm.trans z) (by decide))).trans ((if_neg (fun z => absurd (t19.symm.trans z) (by decide))).trans ((if_pos (Or.inr t19)).trans (rB_l ((if_pos c40).trans (rB_l her)))))))) _ _ yz hz
                          | exact k0 (1, r.1) ((if_neg td).trans ((if_neg (no_name nn)).trans ((if_neg (fun z => absurd (t19.symm.trans z) (by decide))).trans ((if_neg (fun z => absurd (t19.symm.trans z) (by decide))).trans ((if_pos (Or.inr t19)).trans (rB_l ((if_pos c40).trans ((rB_r hr).trans ((if_pos rfl).trans (if_neg (fun z => g165 ((ch_tk (by unfold isCh; decide)).mpr z)))))))))))) _ _ yz hz
                          | exact k0 er2 ((if_neg td).trans ((if_neg (no_name nn)).trans ((if_neg (fun z => absurd (t19.symm.trans z) (by decide))).trans ((if_neg (fun z => absurd (t19.symm.trans z) (by decide))).trans ((if_pos (Or.inr t19)).trans (rB_l ((if_pos c40).trans ((rB_r hr).trans ((if_pos rfl).trans ((if_pos ((ch_tk (by unfold isCh; decide)).mp g165)).trans (rB_l her2))))))))))) _ _ yz hz
                          | exact k0 (1, r2.1) ((if_neg td).trans ((if_neg (no_name nn)).trans ((if_neg (fun z => absurd (t19.symm.trans z) (by decide))).trans ((if_neg (fun z => absurd (t19.symm.trans z) (by decide))).trans ((if_pos (Or.inr t19)).trans (rB_l ((if_pos c40).trans ((rB_r hr).trans ((if_pos rfl).trans ((if_pos ((ch_tk (by unfold isCh; decide)).mp g165)).trans ((rB_r hr2).trans (if_neg (fun z => g203 ((ch_tk (by unfold isCh; decide)).mpr z)))))))))))))) _ _ yz hz
                    ·
                      refine r_iconst (1) dX12_unit_183 rfl ?_
                      refine r_goto 188 dX12_unit_184 rfl ?_
                      refine r_icmp_ne 196 dX12_unit_188 rfl (fun _ => ?_) (fun hz => absurd hz (by decide))
                      refine r_lload dX12_unit_196 rfl ?_
                      refine sl_5 dX12_unit_198 (by first | rfl | assumption) (Nat.le_of_ble_eq_true rfl) ?_
                      refine r_aload_n dX12_unit_200 rfl ?_
                      refine r_bipush (41) dX12_unit_201 rfl ?_
                      refine r_callV1 (ci := 12) (d1 := 2) (c1 := 0) (n1 := 0) dX12_unit_203 mvX12_184 rfl ⟨(Nat.le_of_ble_eq_true rfl), rfl⟩ (by omega) (by exact Nat.le_of_ble_eq_true rfl) (by exact k_167 h59.1.1) ?_
                      refine S_signP h59 (by decide) (fun g203 m64 q64 h64 => ?_) (fun g203 m65 q65 h65 => ?_)
                      ·
                        have y64 := y59.tr q64
                        rw [e59] at g203 h64
                        show Wp g mX12_unit _ _ _ 206 _ [] _ Q
                        refine r_aload_n dX12_unit_206 rfl ?_
                        refine r_dup dX12_unit_207 rfl ?_
                        refine r_getIc (nI (o + 1)) dX12_unit_208 fgX12_156 rfl (by exact k_167 h64.1.1) (by exact h64.2.2.2.1) ?_
                        refine r_iconst (1) dX12_unit_211 rfl ?_
                        refine r_isub dX12_unit_212 ?_
                        refine r_putI dX12_unit_213 (fpX12_156 _ rfl) rfl (by exact k_167 h64.1.1) ⟨rfl, rfl⟩ ?_
                        rw [nI_p1]
                        have yz := y64.s (k := 5) (v := nI o) (by omega) (by omega) (by omega)
                        have hz : RPa b n _ o (stI m64 167 5 (nI o)) := ⟨h64.1.sy (Sy.rf.s (by omega) (by omega) (by omega)), ld_n (by decide) h64.2.1, h64.2.2.1, ld_s, ld_n (by decide) h64.2.2.2.2.1, ld_n (by decide) h64.2.2.2.2.2⟩
                        refine r_iload dX12_unit_216 rfl ?_
                        refine r_if_eq 229 dX12_unit_218 rfl (fun _ => ?_) (fun hz => absurd hz (by decide))
                        refine r_lload dX12_unit_229 rfl ?_
                        refine r_lreturn dX12_unit_231 rfl ?_
                        have td : ¬ tkP b n s = -2 := fun z => hdg ((dg_tk hb).mpr z)
                        have k9 := k1 _ ((if_neg td).trans ((if_neg (no_name nn)).trans ((if_neg (fun z => absurd (t19.symm.trans z) (by decide))).trans ((if_neg (fun z => absurd (t19.symm.trans z) (by decide))).trans ((if_pos (Or.inr t19)).trans (rB_r ((if_pos c40).trans ((rB_r hr).trans ((if_pos rfl).trans ((if_pos ((ch_tk (by unfold isCh; decide)).mp g165)).trans ((rB_r hr2).trans (if_pos ((ch_tk (by unfold isCh; decide)).mp g203))))))))))))) _ yz ⟨_, hz, congrArg (rE b n isBl) (nx_ch (c := 41) (by unfold isCh; decide) g203).2.symm⟩
                        dsimp only at k9
                        rw [t19, jn275_b tuv] at k9
                        exact k9
                      ·
                        have y65 := y59.tr q65
                        rw [e59] at g203 h65
                        show Wp g mX12_unit _ _ _ 206 _ [] _ Q
                        refine r_aload_n dX12_unit_206 rfl ?_
                        refine r_dup dX12_unit_207 rfl ?_
                        refine r_getI dX12_unit_208 fgX12_156 rfl (by exact k_167 h65.1.1) ?_
                        refine r_iconst (1) dX12_unit_211 rfl ?_
                        refine r_isub dX12_unit_212 ?_
                        refine r_putI dX12_unit_213 (fpX12_156 _ rfl) rfl (by exact k_167 h65.1.1) ⟨rfl, rfl⟩ ?_
                        have yz := y65.s (k := 5) (v := (ldI m65 167 5 - 1)) (by omega) (by omega) (by omega)
                        have hz : RE b n n _ (stI m65 167 5 (ldI m65 167 5 - 1)) := ⟨h65.1.sy (Sy.rf.s (by omega) (by omega) (by omega)), ⟨h65.2.1.1, h65.2.1.2.1, h65.2.1.2.2.choose, h65.2.1.2.2.choose_spec.1, ld_n (by decide) h65.2.1.2.2.choose_spec.2⟩, ld_n (by decide) h65.2.2.1, h65.2.2.2.1, ld_n (by decide) h65.2.2.2.2⟩
                        refine r_iload dX12_unit_216 rfl ?_
                        refine r_if_eq 229 dX12_unit_218 rfl (fun _ => ?_) (fun hz => absurd hz (by decide))
                        refine r_lload dX12_unit_229 rfl ?_
                        refine r_lreturn dX12_unit_231 rfl ?_
                        have td : ¬ tkP b n s = -2 := fun z => hdg ((dg_tk hb).mpr z)
                        first
                          | exact k0 er ((if_neg td).trans ((if_neg (no_name nn)).trans ((if_neg (fun z => absurd (t19.symm.trans z) (by decide))).trans ((if_neg (fun z => absurd (t19.symm.trans z) (by decide))).trans ((if_pos (Or.inr t19)).trans (rB_l ((if_pos c40).trans (rB_l her)))))))) _ _ yz hz
                          | exact k0 (1, r.1) ((if_neg td).trans ((if_neg (no_name nn)).trans ((if_neg (fun z => absurd (t19.symm.trans z) (by decide))).trans ((if_neg (fun z => absurd (t19.symm.trans z) (by decide))).trans ((if_pos (Or.inr t19)).trans (rB_l ((if_pos c40).trans ((rB_r hr).trans ((if_pos rfl).trans (if_neg (fun z => g165 ((ch_tk (by unfold isCh; decide)).mpr z)))))))))))) _ _ yz hz
                          | exact k0 er2 ((if_neg td).trans ((if_neg (no_name nn)).trans ((if_neg (fun z => absurd (t19.symm.trans z) (by decide))).trans ((if_neg (fun z => absurd (t19.symm.trans z) (by decide))).trans ((if_pos (Or.inr t19)).trans (rB_l ((if_pos c40).trans ((rB_r hr).trans ((if_pos rfl).trans ((if_pos ((ch_tk (by unfold isCh; decide)).mp g165)).trans (rB_l her2))))))))))) _ _ yz hz
                          | exact k0 (1, r2.1) ((if_neg td).trans ((if_neg (no_name nn)).trans ((if_neg (fun z => absurd (t19.symm.trans z) (by decide))).trans ((if_neg (fun z => absurd (t19.symm.trans z) (by decide))).trans ((if_pos (Or.inr t19)).trans (rB_l ((if_pos c40).trans ((rB_r hr).trans ((if_pos rfl).trans ((if_pos ((ch_tk (by unfold isCh; decide)).mp g165)).trans ((rB_r hr2).trans (if_neg (fun z => g203 ((ch_tk (by unfold isCh; decide)).mpr z)))))))))))))) _ _ yz hz
                ·
                  have y57 := y51.tr q57
                  rw [e51] at g165 h57
                  show Wp g mX12_unit _ _ _ 168 _ [] _ Q
                  refine r_aload_n dX12_unit_168 rfl ?_
                  refine r_callV0 (ci := 12) (d1 := d) (c1 := 0) (n1 := 0) dX12_unit_169 mvX12_181 rfl ⟨(Nat.le_of_ble_eq_true rfl), rfl⟩ (by omega) (by exact Nat.le_of_ble_eq_true rfl) (by exact k_167 h57.1.1) ?_
                  refine hE _ _ _ _ h57 (fun m66 v66 q66 h66 => ?_)
                  have y66 := y57.tr q66
                  show Wp g mX12_unit _ _ _ 172 _ (_ :: _) _ Q
                  refine sl_7 dX12_unit_172 (by first | rfl | assumption) (Nat.le_of_ble_eq_true rfl) ?_
                  refine r_iload_n dX12_unit_174 rfl ?_
                  refine r_lload dX12_unit_175 rfl ?_
                  refine r_lload dX12_unit_177 rfl ?_
                  refine r_lcmp_ge 187 dX12_unit_179 dX12_unit_180 rfl (fun tuv => ?_) (fun tuv => ?_)
                  ·
                    refine r_iconst (0) dX12_unit_187 rfl ?_
                    refine r_icmp_ne 196 dX12_unit_188 rfl (fun hz => absurd hz (by decide)) (fun _ => ?_)
                    refine r_lload dX12_unit_191 rfl ?_
                    refine r_goto 198 dX12_unit_193 rfl ?_
                    refine sl_5 dX12_unit_198 (by first | rfl | assumption) (Nat.le_of_ble_eq_true rfl) ?_
                    refine r_aload_n dX12_unit_200 rfl ?_
                    refine r_bipush (41) dX12_unit_201 rfl ?_
                    refine r_callV1 (ci := 12) (d1 := 2) (c1 := 0) (n1 := 0) dX12_unit_203 mvX12_184 rfl ⟨(Nat.le_of_ble_eq_true rfl), rfl⟩ (by omega) (by exact Nat.le_of_ble_eq_true rfl) (by exact k_167 h66.1.1) ?_
                    refine S_signE h66 (by decide) (fun m67 q67 h67 => ?_)
                    have y67 := y66.tr q67
                    show Wp g mX12_unit _ _ _ 206 _ [] _ Q
                    refine r_aload_n dX12_unit_206 rfl ?_
                    refine r_dup dX12_unit_207 rfl ?_
                    refine r_getI dX12_unit_208 fgX12_156 rfl (by exact k_167 h67.1.1) ?_
                    refine r_iconst (1) dX12_unit_211 rfl ?_
                    refine r_isub dX12_unit_212 ?_
                    refine r_putI dX12_unit_213 (fpX12_156 _ rfl) rfl (by exact k_167 h67.1.1) ⟨rfl, rfl⟩ ?_
                    have yz := y67.s (k := 5) (v := (ldI m67 167 5 - 1)) (by omega) (by omega) (by omega)
                    have hz : RE b n n _ (stI m67 167 5 (ldI m67 167 5 - 1)) := ⟨h67.1.sy (Sy.rf.s (by omega) (by omega) (by omega)), ⟨h67.2.1.1, h67.2.1.2.1, h67.2.1.2.2.choose, h67.2.1.2.2.choose_spec.1, ld_n (by decide) h67.2.1.2.2.choose_spec.2⟩, ld_n (by decide) h67.2.2.1, h67.2.2.2.1, ld_n (by decide) h67.2.2.2.2⟩
                    refine r_iload dX12_unit_216 rfl ?_
                    refine r_if_eq 229 dX12_unit_218 rfl (fun _ => ?_) (fun hz => absurd hz (by decide))
                    refine r_lload dX12_unit_229 rfl ?_
                    refine r_lreturn dX12_unit_231 rfl ?_
                    have td : ¬ tkP b n s = -2 := fun z => hdg ((dg_tk hb).mpr z)
                    first
                      | exact k0 er ((if_neg td).trans ((if_neg (no_name nn)).trans ((if_neg (fun z => absurd (t19.symm.trans z) (by decide))).trans ((if_neg (fun z => absurd (t19.symm.trans z) (by decide))).trans ((if_pos (Or.inr t19)).trans (rB_l ((if_pos c40).trans (rB_l her)))))))) _ _ yz hz
                      | exact k0 (1, r.1) ((if_neg td).trans ((if_neg (no_name nn)).trans ((if_neg (fun z => absurd (t19.symm.trans z) (by decide))).trans ((if_neg (fun z => absurd (t19.symm.trans z) (by decide))).trans ((if_pos (Or.inr t19)).trans (rB_l ((if_pos c40).trans ((rB_r hr).trans ((if_pos rfl).trans (if_neg (fun z => g165 ((ch_tk (by unfold isCh; decide)).mpr z)))))))))))) _ _ yz hz
                      | exact k0 er2 ((if_neg td).trans ((if_neg (no_name nn)).trans ((if_neg (fun z => absurd (t19.symm.trans z) (by decide))).trans ((if_neg (fun z => absurd (t19.symm.trans z) (by decide))).trans ((if_pos (Or.inr t19)).trans (rB_l ((if_pos c40).trans ((rB_r hr).trans ((if_pos rfl).trans ((if_pos ((ch_tk (by unfold isCh; decide)).mp g165)).trans (rB_l her2))))))))))) _ _ yz hz
                      | exact k0 (1, r2.1) ((if_neg td).trans ((if_neg (no_name nn)).trans ((if_neg (fun z => absurd (t19.symm.trans z) (by decide))).trans ((if_neg (fun z => absurd (t19.symm.trans z) (by decide))).trans ((if_pos (Or.inr t19)).trans (rB_l ((if_pos c40).trans ((rB_r hr).trans ((if_pos rfl).trans ((if_pos ((ch_tk (by unfold isCh; decide)).mp g165)).trans ((rB_r hr2).trans (if_neg (fun z => g203 ((ch_tk (by unfold isCh; decide)).mpr z)))))))))))))) _ _ yz hz
                  ·
                    refine r_iconst (1) dX12_unit_183 rfl ?_
                    refine r_goto 188 dX12_unit_184 rfl ?_
                    refine r_icmp_ne 196 dX12_unit_188 rfl (fun _ => ?_) (fun hz => absurd hz (by decide))
                    refine r_lload dX12_unit_196 rfl ?_
                    refine sl_5 dX12_unit_198 (by first | rfl | assumption) (Nat.le_of_ble_eq_true rfl) ?_
                    refine r_aload_n dX12_unit_200 rfl ?_
                    refine r_bipush (41) dX12_unit_201 rfl ?_
                    refine r_callV1 (ci := 12) (d1 := 2) (c1 := 0) (n1 := 0) dX12_unit_203 mvX12_184 rfl ⟨(Nat.le_of_ble_eq_true rfl), rfl⟩ (by omega) (by exact Nat.le_of_ble_eq_true rfl) (by exact k_167 h66.1.1) ?_
                    refine S_signE h66 (by decide) (fun m68 q68 h68 => ?_)
                    have y68 := y66.tr q68
                    show Wp g mX12_unit _ _ _ 206 _ [] _ Q
                    refine r_aload_n dX12_unit_206 rfl ?_
                    refine r_dup dX12_unit_207 rfl ?_
                    refine r_getI dX12_unit_208 fgX12_156 rfl (by exact k_167 h68.1.1) ?_
                    refine r_iconst (1) dX12_unit_211 rfl ?_
                    refine r_isub dX12_unit_212 ?_
                    refine r_putI dX12_unit_213 (fpX12_156 _ rfl) rfl (by exact k_167 h68.1.1) ⟨rfl, rfl⟩ ?_
                    have yz := y68.s (k := 5) (v := (ldI m68 167 5 - 1)) (by omega) (by omega) (by omega)
                    have hz : RE b n n _ (stI m68 167 5 (ldI m68 167 5 - 1)) := ⟨h68.1.sy (Sy.rf.s (by omega) (by omega) (by omega)), ⟨h68.2.1.1, h68.2.1.2.1, h68.2.1.2.2.choose, h68.2.1.2.2.choose_spec.1, ld_n (by decide) h68.2.1.2.2.choose_spec.2⟩, ld_n (by decide) h68.2.2.1, h68.2.2.2.1, ld_n (by decide) h68.2.2.2.2⟩
                    refine r_iload dX12_unit_216 rfl ?_
                    refine r_if_eq 229 dX12_unit_218 rfl (fun _ => ?_) (fun hz => absurd hz (by decide))
                    refine r_lload dX12_unit_229 rfl ?_
                    refine r_lreturn dX12_unit_231 rfl ?_
                    have td : ¬ tkP b n s = -2 := fun z => hdg ((dg_tk hb).mpr z)
                    first
                      | exact k0 er ((if_neg td).trans ((if_neg (no_name nn)).trans ((if_neg (fun z => absurd (t19.symm.trans z) (by decide))).trans ((if_neg (fun z => absurd (t19.symm.trans z) (by decide))).trans ((if_pos (Or.inr t19)).trans (rB_l ((if_pos c40).trans (rB_l her)))))))) _ _ yz hz
                      | exact k0 (1, r.1) ((if_neg td).trans ((if_neg (no_name nn)).trans ((if_neg (fun z => absurd (t19.symm.trans z) (by decide))).trans ((if_neg (fun z => absurd (t19.symm.trans z) (by decide))).trans ((if_pos (Or.inr t19)).trans (rB_l ((if_pos c40).trans ((rB_r hr).trans ((if_pos rfl).trans (if_neg (fun z => g165 ((ch_tk (by unfold isCh; decide)).mpr z)))))))))))) _ _ yz hz
                      | exact k0 er2 ((if_neg td).trans ((if_neg (no_name nn)).trans ((if_neg (fun z => absurd (t19.symm.trans z) (by decide))).trans ((if_neg (fun z => absurd (t19.symm.trans z) (by decide))).trans ((if_pos (Or.inr t19)).trans (rB_l ((if_pos c40).trans ((rB_r hr).trans ((if_pos rfl).trans ((if_pos ((ch_tk (by unfold isCh; decide)).mp g165)).trans (rB_l her2))))))))))) _ _ yz hz
                      | exact k0 (1, r2.1) ((if_neg td).trans ((if_neg (no_name nn)).trans ((if_neg (fun z => absurd (t19.symm.trans z) (by decide))).trans ((if_neg (fun z => absurd (t19.symm.trans z) (by decide))).trans ((if_pos (Or.inr t19)).trans (rB_l ((if_pos c40).trans ((rB_r hr).trans ((if_pos rfl).trans ((if_pos ((ch_tk (by unfold isCh; decide)).mp g165)).trans ((rB_r hr2).trans (if_neg (fun z => g203 ((ch_tk (by unfold isCh; decide)).mpr z)))))))))))))) _ _ yz hz
            ·
              have y49 := y47.tr q49
              obtain ⟨-, hfn⟩ := hi.resolve_right (fun z => by omega)
              subst hfn
              have c40 := (ch_tk (b := b) (n := n) (c := 40) (by unfold isCh; decide)).mp t40
              show Wp g mX12_unit _ _ _ 148 _ [] _ Q
              refine r_aload_n dX12_unit_148 rfl ?_
              refine r_callV0 (ci := 12) (d1 := d) (c1 := 0) (n1 := 0) dX12_unit_149 mvX12_181 rfl ⟨(Nat.le_of_ble_eq_true rfl), rfl⟩ (by omega) (by exact Nat.le_of_ble_eq_true rfl) (by exact k_167 h49.1.1) ?_
              refine hE _ _ _ _ h49 (fun m69 v69 q69 h69 => ?_)
              have y69 := y49.tr q69
              show Wp g mX12_unit _ _ _ 152 _ (_ :: _) _ Q
              refine sl_5 dX12_unit_152 (by first | rfl | assumption) (Nat.le_of_ble_eq_true rfl) ?_
              refine r_iload_n dX12_unit_154 rfl ?_
              refine r_if_ne 162 dX12_unit_155 rfl (fun hz => absurd hz (by decide)) (fun _ => ?_)
              refine r_iload_n dX12_unit_158 rfl ?_
              refine r_if_eq 200 dX12_unit_159 rfl (fun hz => absurd hz (by decide)) (fun _ => ?_)
              refine r_aload_n dX12_unit_162 rfl ?_
              refine r_bipush (44) dX12_unit_163 rfl ?_
              refine r_callV1 (ci := 12) (d1 := 2) (c1 := 0) (n1 := 0) dX12_unit_165 mvX12_184 rfl ⟨(Nat.le_of_ble_eq_true rfl), rfl⟩ (by omega) (by exact Nat.le_of_ble_eq_true rfl) (by exact k_167 h69.1.1) ?_
              refine S_signE h69 (by decide) (fun m70 q70 h70 => ?_)
              have y70 := y69.tr q70
              show Wp g mX12_unit _ _ _ 168 _ [] _ Q
              refine r_aload_n dX12_unit_168 rfl ?_
              refine r_callV0 (ci := 12) (d1 := d) (c1 := 0) (n1 := 0) dX12_unit_169 mvX12_181 rfl ⟨(Nat.le_of_ble_eq_true rfl), rfl⟩ (by omega) (by exact Nat.le_of_ble_eq_true rfl) (by exact k_167 h70.1.1) ?_
              refine hE _ _ _ _ h70 (fun m71 v71 q71 h71 => ?_)
              have y71 := y70.tr q71
              show Wp g mX12_unit _ _ _ 172 _ (_ :: _) _ Q
              refine sl_7 dX12_unit_172 (by first | rfl | assumption) (Nat.le_of_ble_eq_true rfl) ?_
              refine r_iload_n dX12_unit_174 rfl ?_
              refine r_lload dX12_unit_175 rfl ?_
              refine r_lload dX12_unit_177 rfl ?_
              refine r_lcmp_ge 187 dX12_unit_179 dX12_unit_180 rfl (fun tuv => ?_) (fun tuv => ?_)
              ·
                refine r_iconst (0) dX12_unit_187 rfl ?_
                refine r_icmp_ne 196 dX12_unit_188 rfl (fun hz => absurd hz (by decide)) (fun _ => ?_)
                refine r_lload dX12_unit_191 rfl ?_
                refine r_goto 198 dX12_unit_193 rfl ?_
                refine sl_5 dX12_unit_198 (by first | rfl | assumption) (Nat.le_of_ble_eq_true rfl) ?_
                refine r_aload_n dX12_unit_200 rfl ?_
                refine r_bipush (41) dX12_unit_201 rfl ?_
                refine r_callV1 (ci := 12) (d1 := 2) (c1 := 0) (n1 := 0) dX12_unit_203 mvX12_184 rfl ⟨(Nat.le_of_ble_eq_true rfl), rfl⟩ (by omega) (by exact Nat.le_of_ble_eq_true rfl) (by exact k_167 h71.1.1) ?_
                refine S_signE h71 (by decide) (fun m72 q72 h72 => ?_)
                have y72 := y71.tr q72
                show Wp g mX12_unit _ _ _ 206 _ [] _ Q
                refine r_aload_n dX12_unit_206 rfl ?_
                refine r_dup dX12_unit_207 rfl ?_
                refine r_getI dX12_unit_208 fgX12_156 rfl (by exact k_167 h72.1.1) ?_
                refine r_iconst (1) dX12_unit_211 rfl ?_
                refine r_isub dX12_unit_212 ?_
                refine r_putI dX12_unit_213 (fpX12_156 _ rfl) rfl (by exact k_167 h72.1.1) ⟨rfl, rfl⟩ ?_
                have yz := y72.s (k := 5) (v := (ldI m72 167 5 - 1)) (by omega) (by omega) (by omega)
                have hz : RE b n n _ (stI m72 167 5 (ldI m72 167 5 - 1)) := ⟨h72.1.sy (Sy.rf.s (by omega) (by omega) (by omega)), ⟨h72.2.1.1, h72.2.1.2.1, h72.2.1.2.2.choose, h72.2.1.2.2.choose_spec.1, ld_n (by decide) h72.2.1.2.2.choose_spec.2⟩, ld_n (by decide) h72.2.2.1, h72.2.2.2.1, ld_n (by decide) h72.2.2.2.2⟩
                refine r_iload dX12_unit_216 rfl ?_
                refine r_if_eq 229 dX12_unit_218 rfl (fun _ => ?_) (fun hz => absurd hz (by decide))
                refine r_lload dX12_unit_229 rfl ?_
                refine r_lreturn dX12_unit_231 rfl ?_
                have td : ¬ tkP b n s = -2 := fun z => hdg ((dg_tk hb).mpr z)
                exact k0 (3, (adP b n s)) ((if_neg td).trans ((if_neg (no_name nn)).trans ((if_neg (fun z => absurd (t19.symm.trans z) (by decide))).trans ((if_neg (fun z => absurd (t19.symm.trans z) (by decide))).trans ((if_pos (Or.inr t19)).trans (rB_l (if_pos c40))))))) _ _ yz hz
              ·
                refine r_iconst (1) dX12_unit_183 rfl ?_
                refine r_goto 188 dX12_unit_184 rfl ?_
                refine r_icmp_ne 196 dX12_unit_188 rfl (fun _ => ?_) (fun hz => absurd hz (by decide))
                refine r_lload dX12_unit_196 rfl ?_
                refine sl_5 dX12_unit_198 (by first | rfl | assumption) (Nat.le_of_ble_eq_true rfl) ?_
                refine r_aload_n dX12_unit_200 rfl ?_
                refine r_bipush (41) dX12_unit_201 rfl ?_
                refine r_callV1 (ci := 12) (d1 := 2) (c1 := 0) (n1 := 0) dX12_unit_203 mvX12_184 rfl ⟨(Nat.le_of_ble_eq_true rfl), rfl⟩ (by omega) (by exact Nat.le_of_ble_eq_true rfl) (by exact k_167 h71.1.1) ?_
                refine S_signE h71 (by decide) (fun m73 q73 h73 => ?_)
                have y73 := y71.tr q73
                show Wp g mX12_unit _ _ _ 206 _ [] _ Q
                refine r_aload_n dX12_unit_206 rfl ?_
                refine r_dup dX12_unit_207 rfl ?_
                refine r_getI dX12_unit_208 fgX12_156 rfl (by exact k_167 h73.1.1) ?_
                refine r_iconst (1) dX12_unit_211 rfl ?_
                refine r_isub dX12_unit_212 ?_
                refine r_putI dX12_unit_213 (fpX12_156 _ rfl) rfl (by exact k_167 h73.1.1) ⟨rfl, rfl⟩ ?_
                have yz := y73.s (k := 5) (v := (ldI m73 167 5 - 1)) (by omega) (by omega) (by omega)
                have hz : RE b n n _ (stI m73 167 5 (ldI m73 167 5 - 1)) := ⟨h73.1.sy (Sy.rf.s (by omega) (by omega) (by omega)), ⟨h73.2.1.1, h73.2.1.2.1, h73.2.1.2.2.choose, h73.2.1.2.2.choose_spec.1, ld_n (by decide) h73.2.1.2.2.choose_spec.2⟩, ld_n (by decide) h73.2.2.1, h73.2.2.2.1, ld_n (by decide) h73.2.2.2.2⟩
                refine r_iload dX12_unit_216 rfl ?_
                refine r_if_eq 229 dX12_unit_218 rfl (fun _ => ?_) (fun hz => absurd hz (by decide))
                refine r_lload dX12_unit_229 rfl ?_
                refine r_lreturn dX12_unit_231 rfl ?_
                have td : ¬ tkP b n s = -2 := fun z => hdg ((dg_tk hb).mpr z)
                exact k0 (3, (adP b n s)) ((if_neg td).trans ((if_neg (no_name nn)).trans ((if_neg (fun z => absurd (t19.symm.trans z) (by decide))).trans ((if_neg (fun z => absurd (t19.symm.trans z) (by decide))).trans ((if_pos (Or.inr t19)).trans (rB_l (if_pos c40))))))) _ _ yz hz
          ·
            refine r_aload_n dX12_unit_132 rfl ?_
            refine r_iconst (1) dX12_unit_133 rfl ?_
            refine r_aload_n dX12_unit_134 rfl ?_
            refine r_getIc (nI (adP b n s)) dX12_unit_135 fgX12_117 rfl (by exact k_167 h47.1.1) (by exact h47.2.1) ?_
            refine r_callV2 (ci := 12) (d1 := 0) (c1 := 0) (n1 := 0) dX12_unit_138 mvX12_141 rfl ⟨(Nat.le_of_ble_eq_true rfl), rfl⟩ (by omega) (by exact Nat.le_of_ble_eq_true rfl) (by exact k_167 h47.1.1) ?_
            refine S_wrongP h47 (by decide) (fun m74 q74 h74 => ?_)
            have y74 := y47.tr q74
            show Wp g mX12_unit _ _ _ 141 _ [] _ Q
            refine r_lconst (0) dX12_unit_141 rfl ?_
            refine r_lreturn dX12_unit_142 rfl ?_
            have td : ¬ tkP b n s = -2 := fun z => hdg ((dg_tk hb).mpr z)
            exact k0 (1, adP b n s) ((if_neg td).trans ((if_neg (no_name nn)).trans ((if_neg (fun z => absurd (t19.symm.trans z) (by decide))).trans ((if_neg (fun z => absurd (t19.symm.trans z) (by decide))).trans ((if_pos (Or.inr t19)).trans (rB_l (if_neg (fun z => t40 ((ch_tk (by unfold isCh; decide)).mpr z))))))))) m74 _ y74 h74
        ·
          have y43 := y8.tr q43
          show Wp g mX12_unit _ _ _ 81 _ (_ :: _) _ Q
          refine si_3 dX12_unit_81 (by first | rfl | assumption) (Nat.le_of_ble_eq_true rfl) ?_
          refine r_aload_n dX12_unit_82 rfl ?_
          refine r_bipush (18) dX12_unit_83 rfl ?_
          refine r_bipush (15) dX12_unit_85 rfl ?_
          refine r_bipush (15) dX12_unit_87 rfl ?_
          refine r_bipush (20) dX12_unit_89 rfl ?_
          refine r_iconst (0) dX12_unit_91 rfl ?_
          refine r_iconst (0) dX12_unit_92 rfl ?_
          refine r_callV6 (ci := 12) (d1 := 3) (c1 := 0) (n1 := 0) dX12_unit_93 mvX12_159 rfl ⟨(Nat.le_of_ble_eq_true rfl), rfl⟩ (by omega) (by exact Nat.le_of_ble_eq_true rfl) (by exact k_167 h43.1.1) ?_
          refine S_isW20 h43 hss (fun t20 m75 q75 h75 => ?_) (fun t20 m76 q76 h76 => ?_)
          ·
            have y75 := y43.tr q75
            show Wp g mX12_unit _ _ _ 96 _ (_ :: _) _ Q
            refine si_4 dX12_unit_96 (by first | rfl | assumption) (Nat.le_of_ble_eq_true rfl) ?_
            refine r_iload_n dX12_unit_98 rfl ?_
            refine r_if_ne 111 dX12_unit_99 rfl (fun hz => absurd hz (by decide)) (fun _ => ?_)
            refine r_iload_n dX12_unit_102 rfl ?_
            refine r_if_ne 111 dX12_unit_103 rfl (fun hz => absurd hz (by decide)) (fun _ => ?_)
            refine r_iload dX12_unit_106 rfl ?_
            refine r_if_eq 115 dX12_unit_108 rfl (fun hz => absurd hz (by decide)) (fun _ => ?_)
            refine r_aload_n dX12_unit_111 rfl ?_
            refine r_callV0 (ci := 12) (d1 := 1) (c1 := 0) (n1 := 0) dX12_unit_112 mvX12_174 rfl ⟨(Nat.le_of_ble_eq_true rfl), rfl⟩ (by omega) (by exact Nat.le_of_ble_eq_true rfl) (by exact k_167 h75.1.1) ?_
            refine S_skipP h75 (fun m77 q77 h77 => ?_)
            have y77 := y75.tr q77
            show Wp g mX12_unit _ _ _ 115 _ [] _ Q
            refine r_aload_n dX12_unit_115 rfl ?_
            refine r_callV0 (ci := 12) (d1 := 1) (c1 := 0) (n1 := 0) dX12_unit_116 mvX12_145 rfl ⟨(Nat.le_of_ble_eq_true rfl), rfl⟩ (by omega) (by exact Nat.le_of_ble_eq_true rfl) (by exact k_167 h77.1.1) ?_
            refine S_blanksP h77 (fun m78 q78 h78 => ?_)
            have y78 := y77.tr q78
            rw [show rE b n isBl (rE b n isLt s) = adP b n s from by unfold adP; rw [(nx_w (i := 20) (by omega) hb t20).1]] at h78
            show Wp g mX12_unit _ _ _ 119 _ [] _ Q
            refine r_aload_n dX12_unit_119 rfl ?_
            refine r_aload_n dX12_unit_120 rfl ?_
            refine r_getIc (nI (adP b n s)) dX12_unit_121 fgX12_117 rfl (by exact k_167 h78.1.1) (by exact h78.2.1) ?_
            refine r_callV1 (ci := 12) (d1 := 0) (c1 := 0) (n1 := 0) dX12_unit_124 mvX12_120 rfl ⟨(Nat.le_of_ble_eq_true rfl), rfl⟩ (by omega) (by exact Nat.le_of_ble_eq_true rfl) (by exact k_167 h78.1.1) ?_
            refine S_byteAt h78.1 (k := (adP b n s)) (by have := h78.2.2.1; omega) ?_
            show Wp g mX12_unit _ _ _ 127 _ (_ :: _) _ Q
            refine r_bipush (40) dX12_unit_127 rfl ?_
            refine r_icmp_eq 143 dX12_unit_129 rfl (fun t40 => ?_) (fun t40 => ?_)
            ·
              refine r_aload_n dX12_unit_143 rfl ?_
              refine r_iconst (1) dX12_unit_144 rfl ?_
              refine r_callV1 (ci := 12) (d1 := 1) (c1 := 0) (n1 := 0) dX12_unit_145 mvX12_177 rfl ⟨(Nat.le_of_ble_eq_true rfl), rfl⟩ (by omega) (by exact Nat.le_of_ble_eq_true rfl) (by exact k_167 h78.1.1) ?_
              refine S_opensP h78 ho (w := 1) (nx_ch (by unfold isCh; decide) t40).1 (fun o6 m79 q79 h79 => ?_) (fun o6 m80 q80 h80 => ?_)
              ·
                have y79 := y78.tr q79
                obtain ⟨-, F, hfF, gF, hSF⟩ := hi.resolve_left (fun z => by omega)
                subst hfF
                have c40 := (ch_tk (b := b) (n := n) (c := 40) (by unfold isCh; decide)).mp t40
                have wx := ad_of c40 (by decide)
                have nx40 := nx_ch (c := 40) (by unfold isCh; decide) t40
                show Wp g mX12_unit _ _ _ 148 _ [] _ Q
                refine r_aload_n dX12_unit_148 rfl ?_
                refine r_callV0 (ci := 12) (d1 := d) (c1 := 0) (n1 := 0) dX12_unit_149 mvX12_181 rfl ⟨(Nat.le_of_ble_eq_true rfl), rfl⟩ (by omega) (by exact Nat.le_of_ble_eq_true rfl) (by exact k_167 h79.1.1) ?_
                refine hSF _ (adP b n (adP b n s)) N _ ⟨_, h79, (congrArg (rE b n isBl) nx40.2.symm)⟩ (y79.n hN) (fun er her m81 v81 q81 h81 => ?_) (fun r hr m82 q82 h82 => ?_)
                ·
                  have y81 := y79.tr q81
                  show Wp g mX12_unit _ _ _ 152 _ (_ :: _) _ Q
                  refine sl_5 dX12_unit_152 (by first | rfl | assumption) (Nat.le_of_ble_eq_true rfl) ?_
                  refine r_iload_n dX12_unit_154 rfl ?_
                  refine r_if_ne 162 dX12_unit_155 rfl (fun hz => absurd hz (by decide)) (fun _ => ?_)
                  refine r_iload_n dX12_unit_158 rfl ?_
                  refine r_if_eq 200 dX12_unit_159 rfl (fun _ => ?_) (fun hz => absurd hz (by decide))
                  refine r_aload_n dX12_unit_200 rfl ?_
                  refine r_bipush (41) dX12_unit_201 rfl ?_
                  refine r_callV1 (ci := 12) (d1 := 2) (c1 := 0) (n1 := 0) dX12_unit_203 mvX12_184 rfl ⟨(Nat.le_of_ble_eq_true rfl), rfl⟩ (by omega) (by exact Nat.le_of_ble_eq_true rfl) (by exact k_167 h81.1.1) ?_
                  refine S_signE h81 (by decide) (fun m83 q83 h83 => ?_)
                  have y83 := y81.tr q83
                  show Wp g mX12_unit _ _ _ 206 _ [] _ Q
                  refine r_aload_n dX12_unit_206 rfl ?_
                  refine r_dup dX12_unit_207 rfl ?_
                  refine r_getI dX12_unit_208 fgX12_156 rfl (by exact k_167 h83.1.1) ?_
                  refine r_iconst (1) dX12_unit_211 rfl ?_
                  refine r_isub dX12_unit_212 ?_
                  refine r_putI dX12_unit_213 (fpX12_156 _ rfl) rfl (by exact k_167 h83.1.1) ⟨rfl, rfl⟩ ?_
                  have yz := y83.s (k := 5) (v := (ldI m83 167 5 - 1)) (by omega) (by omega) (by omega)
                  have hz : RE b n n _ (stI m83 167 5 (ldI m83 167 5 - 1)) := ⟨h83.1.sy (Sy.rf.s (by omega) (by omega) (by omega)), ⟨h83.2.1.1, h83.2.1.2.1, h83.2.1.2.2.choose, h83.2.1.2.2.choose_spec.1, ld_n (by decide) h83.2.1.2.2.choose_spec.2⟩, ld_n (by decide) h83.2.2.1, h83.2.2.2.1, ld_n (by decide) h83.2.2.2.2⟩
                  refine r_iload dX12_unit_216 rfl ?_
                  refine r_if_eq 229 dX12_unit_218 rfl (fun hz => absurd hz (by decide)) (fun _ => ?_)
                  refine r_lload dX12_unit_221 rfl ?_
                  refine r_callS1 (d1 := 0) (c1 := 0) (n1 := 0) dX12_unit_223 msX12_187 rfl (by omega) (by exact Nat.le_of_ble_eq_true rfl) ?_
                  refine S_X12_root ?_
                  show Wp g mX12_unit _ _ _ 226 _ (_ :: _) _ Q
                  refine r_goto 231 dX12_unit_226 rfl ?_
                  refine r_lreturn dX12_unit_231 rfl ?_
                  have td : ¬ tkP b n s = -2 := fun z => hdg ((dg_tk hb).mpr z)
                  first
                    | exact k0 er ((if_neg td).trans ((if_neg (no_name nn)).trans ((if_neg (fun z => absurd (t20.symm.trans z) (by decide))).trans ((if_pos t20).trans (rB_l ((if_pos c40).trans (rB_l her))))))) _ _ yz hz
                    | exact k0 (1, r.1) ((if_neg td).trans ((if_neg (no_name nn)).trans ((if_neg (fun z => absurd (t20.symm.trans z) (by decide))).trans ((if_pos t20).trans (rB_l ((if_pos c40).trans ((rB_r hr).trans ((if_neg (by decide)).trans (if_neg (fun z => g203 ((ch_tk (by unfold isCh; decide)).mpr z))))))))))) _ _ yz hz
                ·
                  obtain ⟨a82, h82, e82⟩ := h82
                  have y82 := y79.tr q82
                  show Wp g mX12_unit _ _ _ 152 _ (_ :: _) _ Q
                  refine sl_5 dX12_unit_152 (by first | rfl | assumption) (Nat.le_of_ble_eq_true rfl) ?_
                  refine r_iload_n dX12_unit_154 rfl ?_
                  refine r_if_ne 162 dX12_unit_155 rfl (fun hz => absurd hz (by decide)) (fun _ => ?_)
                  refine r_iload_n dX12_unit_158 rfl ?_
                  refine r_if_eq 200 dX12_unit_159 rfl (fun _ => ?_) (fun hz => absurd hz (by decide))
                  refine r_aload_n dX12_unit_200 rfl ?_
                  refine r_bipush (41) dX12_unit_201 rfl ?_
                  refine r_callV1 (ci := 12) (d1 := 2) (c1 := 0) (n1 := 0) dX12_unit_203 mvX12_184 rfl ⟨(Nat.le_of_ble_eq_true rfl), rfl⟩ (by omega) (by exact Nat.le_of_ble_eq_true rfl) (by exact k_167 h82.1.1) ?_
                  refine S_signP h82 (by decide) (fun g203 m84 q84 h84 => ?_) (fun g203 m85 q85 h85 => ?_)
                  ·
                    have y84 := y82.tr q84
                    rw [e82] at g203 h84
                    show Wp g mX12_unit _ _ _ 206 _ [] _ Q
                    refine r_aload_n dX12_unit_206 rfl ?_
                    refine r_dup dX12_unit_207 rfl ?_
                    refine r_getIc (nI (o + 1)) dX12_unit_208 fgX12_156 rfl (by exact k_167 h84.1.1) (by exact h84.2.2.2.1) ?_
                    refine r_iconst (1) dX12_unit_211 rfl ?_
                    refine r_isub dX12_unit_212 ?_
                    refine r_putI dX12_unit_213 (fpX12_156 _ rfl) rfl (by exact k_167 h84.1.1) ⟨rfl, rfl⟩ ?_
                    rw [nI_p1]
                    have yz := y84.s (k := 5) (v := nI o) (by omega) (by omega) (by omega)
                    have hz : RPa b n _ o (stI m84 167 5 (nI o)) := ⟨h84.1.sy (Sy.rf.s (by omega) (by omega) (by omega)), ld_n (by decide) h84.2.1, h84.2.2.1, ld_s, ld_n (by decide) h84.2.2.2.2.1, ld_n (by decide) h84.2.2.2.2.2⟩
                    refine r_iload dX12_unit_216 rfl ?_
                    refine r_if_eq 229 dX12_unit_218 rfl (fun hz => absurd hz (by decide)) (fun _ => ?_)
                    refine r_lload dX12_unit_221 rfl ?_
                    refine r_callS1 (d1 := 0) (c1 := 0) (n1 := 0) dX12_unit_223 msX12_187 rfl (by omega) (by exact Nat.le_of_ble_eq_true rfl) ?_
                    refine S_X12_root ?_
                    show Wp g mX12_unit _ _ _ 226 _ (_ :: _) _ Q
                    refine r_goto 231 dX12_unit_226 rfl ?_
                    refine r_lreturn dX12_unit_231 rfl ?_
                    have td : ¬ tkP b n s = -2 := fun z => hdg ((dg_tk hb).mpr z)
                    exact k1 _ ((if_neg td).trans ((if_neg (no_name nn)).trans ((if_neg (fun z => absurd (t20.symm.trans z) (by decide))).trans ((if_pos t20).trans (rB_r ((if_pos c40).trans ((rB_r hr).trans ((if_neg (by decide)).trans (if_pos ((ch_tk (by unfold isCh; decide)).mp g203)))))))))) _ yz ⟨_, hz, congrArg (rE b n isBl) (nx_ch (c := 41) (by unfold isCh; decide) g203).2.symm⟩
                  ·
                    have y85 := y82.tr q85
                    rw [e82] at g203 h85
                    show Wp g mX12_unit _ _ _ 206 _ [] _ Q
                    refine r_aload_n dX12_unit_206 rfl ?_
                    refine r_dup dX12_unit_207 rfl ?_
                    refine r_getI dX12_unit_208 fgX12_156 rfl (by exact k_167 h85.1.1) ?_
                    refine r_iconst (1) dX12_unit_211 rfl ?_
                    refine r_isub dX12_unit_212 ?_
                    refine r_putI dX12_unit_213 (fpX12_156 _ rfl) rfl (by exact k_167 h85.1.1) ⟨rfl, rfl⟩ ?_
                    have yz := y85.s (k := 5) (v := (ldI m85 167 5 - 1)) (by omega) (by omega) (by omega)
                    have hz : RE b n n _ (stI m85 167 5 (ldI m85 167 5 - 1)) := ⟨h85.1.sy (Sy.rf.s (by omega) (by omega) (by omega)), ⟨h85.2.1.1, h85.2.1.2.1, h85.2.1.2.2.choose, h85.2.1.2.2.choose_spec.1, ld_n (by decide) h85.2.1.2.2.choose_spec.2⟩, ld_n (by decide) h85.2.2.1, h85.2.2.2.1, ld_n (by decide) h85.2.2.2.2⟩
                    refine r_iload dX12_unit_216 rfl ?_
                    refine r_if_eq 229 dX12_unit_218 rfl (fun hz => absurd hz (by decide)) (fun _ => ?_)
                    refine r_lload dX12_unit_221 rfl ?_
                    refine r_callS1 (d1 := 0) (c1 := 0) (n1 := 0) dX12_unit_223 msX12_187 rfl (by omega) (by exact Nat.le_of_ble_eq_true rfl) ?_
                    refine S_X12_root ?_
                    show Wp g mX12_unit _ _ _ 226 _ (_ :: _) _ Q
                    refine r_goto 231 dX12_unit_226 rfl ?_
                    refine r_lreturn dX12_unit_231 rfl ?_
                    have td : ¬ tkP b n s = -2 := fun z => hdg ((dg_tk hb).mpr z)
                    first
                      | exact k0 er ((if_neg td).trans ((if_neg (no_name nn)).trans ((if_neg (fun z => absurd (t20.symm.trans z) (by decide))).trans ((if_pos t20).trans (rB_l ((if_pos c40).trans (rB_l her))))))) _ _ yz hz
                      | exact k0 (1, r.1) ((if_neg td).trans ((if_neg (no_name nn)).trans ((if_neg (fun z => absurd (t20.symm.trans z) (by decide))).trans ((if_pos t20).trans (rB_l ((if_pos c40).trans ((rB_r hr).trans ((if_neg (by decide)).trans (if_neg (fun z => g203 ((ch_tk (by unfold isCh; decide)).mpr z))))))))))) _ _ yz hz
              ·
                have y80 := y78.tr q80
                obtain ⟨-, hfn⟩ := hi.resolve_right (fun z => by omega)
                subst hfn
                have c40 := (ch_tk (b := b) (n := n) (c := 40) (by unfold isCh; decide)).mp t40
                show Wp g mX12_unit _ _ _ 148 _ [] _ Q
                refine r_aload_n dX12_unit_148 rfl ?_
                refine r_callV0 (ci := 12) (d1 := d) (c1 := 0) (n1 := 0) dX12_unit_149 mvX12_181 rfl ⟨(Nat.le_of_ble_eq_true rfl), rfl⟩ (by omega) (by exact Nat.le_of_ble_eq_true rfl) (by exact k_167 h80.1.1) ?_
                refine hE _ _ _ _ h80 (fun m86 v86 q86 h86 => ?_)
                have y86 := y80.tr q86
                show Wp g mX12_unit _ _ _ 152 _ (_ :: _) _ Q
                refine sl_5 dX12_unit_152 (by first | rfl | assumption) (Nat.le_of_ble_eq_true rfl) ?_
                refine r_iload_n dX12_unit_154 rfl ?_
                refine r_if_ne 162 dX12_unit_155 rfl (fun hz => absurd hz (by decide)) (fun _ => ?_)
                refine r_iload_n dX12_unit_158 rfl ?_
                refine r_if_eq 200 dX12_unit_159 rfl (fun _ => ?_) (fun hz => absurd hz (by decide))
                refine r_aload_n dX12_unit_200 rfl ?_
                refine r_bipush (41) dX12_unit_201 rfl ?_
                refine r_callV1 (ci := 12) (d1 := 2) (c1 := 0) (n1 := 0) dX12_unit_203 mvX12_184 rfl ⟨(Nat.le_of_ble_eq_true rfl), rfl⟩ (by omega) (by exact Nat.le_of_ble_eq_true rfl) (by exact k_167 h86.1.1) ?_
                refine S_signE h86 (by decide) (fun m87 q87 h87 => ?_)
                have y87 := y86.tr q87
                show Wp g mX12_unit _ _ _ 206 _ [] _ Q
                refine r_aload_n dX12_unit_206 rfl ?_
                refine r_dup dX12_unit_207 rfl ?_
                refine r_getI dX12_unit_208 fgX12_156 rfl (by exact k_167 h87.1.1) ?_
                refine r_iconst (1) dX12_unit_211 rfl ?_
                refine r_isub dX12_unit_212 ?_
                refine r_putI dX12_unit_213 (fpX12_156 _ rfl) rfl (by exact k_167 h87.1.1) ⟨rfl, rfl⟩ ?_
                have yz := y87.s (k := 5) (v := (ldI m87 167 5 - 1)) (by omega) (by omega) (by omega)
                have hz : RE b n n _ (stI m87 167 5 (ldI m87 167 5 - 1)) := ⟨h87.1.sy (Sy.rf.s (by omega) (by omega) (by omega)), ⟨h87.2.1.1, h87.2.1.2.1, h87.2.1.2.2.choose, h87.2.1.2.2.choose_spec.1, ld_n (by decide) h87.2.1.2.2.choose_spec.2⟩, ld_n (by decide) h87.2.2.1, h87.2.2.2.1, ld_n (by decide) h87.2.2.2.2⟩
                refine r_iload dX12_unit_216 rfl ?_
                refine r_if_eq 229 dX12_unit_218 rfl (fun hz => absurd hz (by decide)) (fun _ => ?_)
                refine r_lload dX12_unit_221 rfl ?_
                refine r_callS1 (d1 := 0) (c1 := 0) (n1 := 0) dX12_unit_223 msX12_187 rfl (by omega) (by exact Nat.le_of_ble_eq_true rfl) ?_
                refine S_X12_root ?_
                show Wp g mX12_unit _ _ _ 226 _ (_ :: _) _ Q
                refine r_goto 231 dX12_unit_226 rfl ?_
                refine r_lreturn dX12_unit_231 rfl ?_
                have td : ¬ tkP b n s = -2 := fun z => hdg ((dg_tk hb).mpr z)
                exact k0 (3, (adP b n s)) ((if_neg td).trans ((if_neg (no_name nn)).trans ((if_neg (fun z => absurd (t20.symm.trans z) (by decide))).trans ((if_pos t20).trans (rB_l (if_pos c40)))))) _ _ yz hz
            ·
              refine r_aload_n dX12_unit_132 rfl ?_
              refine r_iconst (1) dX12_unit_133 rfl ?_
              refine r_aload_n dX12_unit_134 rfl ?_
              refine r_getIc (nI (adP b n s)) dX12_unit_135 fgX12_117 rfl (by exact k_167 h78.1.1) (by exact h78.2.1) ?_
              refine r_callV2 (ci := 12) (d1 := 0) (c1 := 0) (n1 := 0) dX12_unit_138 mvX12_141 rfl ⟨(Nat.le_of_ble_eq_true rfl), rfl⟩ (by omega) (by exact Nat.le_of_ble_eq_true rfl) (by exact k_167 h78.1.1) ?_
              refine S_wrongP h78 (by decide) (fun m88 q88 h88 => ?_)
              have y88 := y78.tr q88
              show Wp g mX12_unit _ _ _ 141 _ [] _ Q
              refine r_lconst (0) dX12_unit_141 rfl ?_
              refine r_lreturn dX12_unit_142 rfl ?_
              have td : ¬ tkP b n s = -2 := fun z => hdg ((dg_tk hb).mpr z)
              exact k0 (1, adP b n s) ((if_neg td).trans ((if_neg (no_name nn)).trans ((if_neg (fun z => absurd (t20.symm.trans z) (by decide))).trans ((if_pos t20).trans (rB_l (if_neg (fun z => t40 ((ch_tk (by unfold isCh; decide)).mpr z)))))))) m88 _ y88 h88
          ·
            have y76 := y43.tr q76
            show Wp g mX12_unit _ _ _ 96 _ (_ :: _) _ Q
            refine si_4 dX12_unit_96 (by first | rfl | assumption) (Nat.le_of_ble_eq_true rfl) ?_
            refine r_iload_n dX12_unit_98 rfl ?_
            refine r_if_ne 111 dX12_unit_99 rfl (fun hz => absurd hz (by decide)) (fun _ => ?_)
            refine r_iload_n dX12_unit_102 rfl ?_
            refine r_if_ne 111 dX12_unit_103 rfl (fun hz => absurd hz (by decide)) (fun _ => ?_)
            refine r_iload dX12_unit_106 rfl ?_
            refine r_if_eq 115 dX12_unit_108 rfl (fun _ => ?_) (fun hz => absurd hz (by decide))
            refine r_aload_n dX12_unit_115 rfl ?_
            refine r_callV0 (ci := 12) (d1 := 1) (c1 := 0) (n1 := 0) dX12_unit_116 mvX12_145 rfl ⟨(Nat.le_of_ble_eq_true rfl), rfl⟩ (by omega) (by exact Nat.le_of_ble_eq_true rfl) (by exact k_167 h76.1.1) ?_
            refine S_blanksP h76 (fun m89 q89 h89 => ?_)
            have y89 := y76.tr q89
            rw [hss] at h89
            show Wp g mX12_unit _ _ _ 119 _ [] _ Q
            refine r_aload_n dX12_unit_119 rfl ?_
            refine r_aload_n dX12_unit_120 rfl ?_
            refine r_getIc (nI s) dX12_unit_121 fgX12_117 rfl (by exact k_167 h89.1.1) (by exact h89.2.1) ?_
            refine r_callV1 (ci := 12) (d1 := 0) (c1 := 0) (n1 := 0) dX12_unit_124 mvX12_120 rfl ⟨(Nat.le_of_ble_eq_true rfl), rfl⟩ (by omega) (by exact Nat.le_of_ble_eq_true rfl) (by exact k_167 h89.1.1) ?_
            refine S_byteAt h89.1 (k := s) (by have := h89.2.2.1; omega) ?_
            show Wp g mX12_unit _ _ _ 127 _ (_ :: _) _ Q
            refine r_bipush (40) dX12_unit_127 rfl ?_
            refine r_icmp_eq 143 dX12_unit_129 rfl (fun t40 => ?_) (fun t40 => ?_)
            ·
              refine r_aload_n dX12_unit_143 rfl ?_
              refine r_iconst (1) dX12_unit_144 rfl ?_
              refine r_callV1 (ci := 12) (d1 := 1) (c1 := 0) (n1 := 0) dX12_unit_145 mvX12_177 rfl ⟨(Nat.le_of_ble_eq_true rfl), rfl⟩ (by omega) (by exact Nat.le_of_ble_eq_true rfl) (by exact k_167 h89.1.1) ?_
              refine S_opensP h89 ho (w := 1) (nx_ch (by unfold isCh; decide) t40).1 (fun o6 m90 q90 h90 => ?_) (fun o6 m91 q91 h91 => ?_)
              ·
                have y90 := y89.tr q90
                obtain ⟨-, F, hfF, gF, hSF⟩ := hi.resolve_left (fun z => by omega)
                subst hfF
                have c40 := (ch_tk (b := b) (n := n) (c := 40) (by unfold isCh; decide)).mp t40
                have wx := ad_of c40 (by decide)
                have nx40 := nx_ch (c := 40) (by unfold isCh; decide) t40
                show Wp g mX12_unit _ _ _ 148 _ [] _ Q
                refine r_aload_n dX12_unit_148 rfl ?_
                refine r_callV0 (ci := 12) (d1 := d) (c1 := 0) (n1 := 0) dX12_unit_149 mvX12_181 rfl ⟨(Nat.le_of_ble_eq_true rfl), rfl⟩ (by omega) (by exact Nat.le_of_ble_eq_true rfl) (by exact k_167 h90.1.1) ?_
                refine hSF _ (adP b n s) N _ ⟨_, h90, (congrArg (rE b n isBl) nx40.2.symm)⟩ (y90.n hN) (fun er her m92 v92 q92 h92 => ?_) (fun r hr m93 q93 h93 => ?_)
                ·
                  have y92 := y90.tr q92
                  show Wp g mX12_unit _ _ _ 152 _ (_ :: _) _ Q
                  refine sl_5 dX12_unit_152 (by first | rfl | assumption) (Nat.le_of_ble_eq_true rfl) ?_
                  refine r_iload_n dX12_unit_154 rfl ?_
                  refine r_if_ne 162 dX12_unit_155 rfl (fun hz => absurd hz (by decide)) (fun _ => ?_)
                  refine r_iload_n dX12_unit_158 rfl ?_
                  refine r_if_eq 200 dX12_unit_159 rfl (fun _ => ?_) (fun hz => absurd hz (by decide))
                  refine r_aload_n dX12_unit_200 rfl ?_
                  refine r_bipush (41) dX12_unit_201 rfl ?_
                  refine r_callV1 (ci := 12) (d1 := 2) (c1 := 0) (n1 := 0) dX12_unit_203 mvX12_184 rfl ⟨(Nat.le_of_ble_eq_true rfl), rfl⟩ (by omega) (by exact Nat.le_of_ble_eq_true rfl) (by exact k_167 h92.1.1) ?_
                  refine S_signE h92 (by decide) (fun m94 q94 h94 => ?_)
                  have y94 := y92.tr q94
                  show Wp g mX12_unit _ _ _ 206 _ [] _ Q
                  refine r_aload_n dX12_unit_206 rfl ?_
                  refine r_dup dX12_unit_207 rfl ?_
                  refine r_getI dX12_unit_208 fgX12_156 rfl (by exact k_167 h94.1.1) ?_
                  refine r_iconst (1) dX12_unit_211 rfl ?_
                  refine r_isub dX12_unit_212 ?_
                  refine r_putI dX12_unit_213 (fpX12_156 _ rfl) rfl (by exact k_167 h94.1.1) ⟨rfl, rfl⟩ ?_
                  have yz := y94.s (k := 5) (v := (ldI m94 167 5 - 1)) (by omega) (by omega) (by omega)
                  have hz : RE b n n _ (stI m94 167 5 (ldI m94 167 5 - 1)) := ⟨h94.1.sy (Sy.rf.s (by omega) (by omega) (by omega)), ⟨h94.2.1.1, h94.2.1.2.1, h94.2.1.2.2.choose, h94.2.1.2.2.choose_spec.1, ld_n (by decide) h94.2.1.2.2.choose_spec.2⟩, ld_n (by decide) h94.2.2.1, h94.2.2.2.1, ld_n (by decide) h94.2.2.2.2⟩
                  refine r_iload dX12_unit_216 rfl ?_
                  refine r_if_eq 229 dX12_unit_218 rfl (fun _ => ?_) (fun hz => absurd hz (by decide))
                  refine r_lload dX12_unit_229 rfl ?_
                  refine r_lreturn dX12_unit_231 rfl ?_
                  have td : ¬ tkP b n s = -2 := fun z => hdg ((dg_tk hb).mpr z)
                  first
                    | exact k0 er ((if_neg td).trans ((if_neg (no_name nn)).trans ((if_pos c40).trans (rB_l ((if_pos c40).trans (rB_l her)))))) _ _ yz hz
                    | exact k0 (1, r.1) ((if_neg td).trans ((if_neg (no_name nn)).trans ((if_pos c40).trans (rB_l ((if_pos c40).trans ((rB_r hr).trans ((if_neg (by decide)).trans (if_neg (fun z => g203 ((ch_tk (by unfold isCh; decide)).mpr z)))))))))) _ _ yz hz
                ·
                  obtain ⟨a93, h93, e93⟩ := h93
                  have y93 := y90.tr q93
                  show Wp g mX12_unit _ _ _ 152 _ (_ :: _) _ Q
                  refine sl_5 dX12_unit_152 (by first | rfl | assumption) (Nat.le_of_ble_eq_true rfl) ?_
                  refine r_iload_n dX12_unit_154 rfl ?_
                  refine r_if_ne 162 dX12_unit_155 rfl (fun hz => absurd hz (by decide)) (fun _ => ?_)
                  refine r_iload_n dX12_unit_158 rfl ?_
                  refine r_if_eq 200 dX12_unit_159 rfl (fun _ => ?_) (fun hz => absurd hz (by decide))
                  refine r_aload_n dX12_unit_200 rfl ?_
                  refine r_bipush (41) dX12_unit_201 rfl ?_
                  refine r_callV1 (ci := 12) (d1 := 2) (c1 := 0) (n1 := 0) dX12_unit_203 mvX12_184 rfl ⟨(Nat.le_of_ble_eq_true rfl), rfl⟩ (by omega) (by exact Nat.le_of_ble_eq_true rfl) (by exact k_167 h93.1.1) ?_
                  refine S_signP h93 (by decide) (fun g203 m95 q95 h95 => ?_) (fun g203 m96 q96 h96 => ?_)
                  ·
                    have y95 := y93.tr q95
                    rw [e93] at g203 h95
                    show Wp g mX12_unit _ _ _ 206 _ [] _ Q
                    refine r_aload_n dX12_unit_206 rfl ?_
                    refine r_dup dX12_unit_207 rfl ?_
                    refine r_getIc (nI (o + 1)) dX12_unit_208 fgX12_156 rfl (by exact k_167 h95.1.1) (by exact h95.2.2.2.1) ?_
                    refine r_iconst (1) dX12_unit_211 rfl ?_
                    refine r_isub dX12_unit_212 ?_
                    refine r_putI dX12_unit_213 (fpX12_156 _ rfl) rfl (by exact k_167 h95.1.1) ⟨rfl, rfl⟩ ?_
                    rw [nI_p1]
                    have yz := y95.s (k := 5) (v := nI o) (by omega) (by omega) (by omega)
                    have hz : RPa b n _ o (stI m95 167 5 (nI o)) := ⟨h95.1.sy (Sy.rf.s (by omega) (by omega) (by omega)), ld_n (by decide) h95.2.1, h95.2.2.1, ld_s, ld_n (by decide) h95.2.2.2.2.1, ld_n (by decide) h95.2.2.2.2.2⟩
                    refine r_iload dX12_unit_216 rfl ?_
                    refine r_if_eq 229 dX12_unit_218 rfl (fun _ => ?_) (fun hz => absurd hz (by decide))
                    refine r_lload dX12_unit_229 rfl ?_
                    refine r_lreturn dX12_unit_231 rfl ?_
                    have td : ¬ tkP b n s = -2 := fun z => hdg ((dg_tk hb).mpr z)
                    exact k1 _ ((if_neg td).trans ((if_neg (no_name nn)).trans ((if_pos c40).trans (rB_r ((if_pos c40).trans ((rB_r hr).trans ((if_neg (by decide)).trans (if_pos ((ch_tk (by unfold isCh; decide)).mp g203))))))))) _ yz ⟨_, hz, congrArg (rE b n isBl) (nx_ch (c := 41) (by unfold isCh; decide) g203).2.symm⟩
                  ·
                    have y96 := y93.tr q96
                    rw [e93] at g203 h96
                    show Wp g mX12_unit _ _ _ 206 _ [] _ Q
                    refine r_aload_n dX12_unit_206 rfl ?_
                    refine r_dup dX12_unit_207 rfl ?_
                    refine r_getI dX12_unit_208 fgX12_156 rfl (by exact k_167 h96.1.1) ?_
                    refine r_iconst (1) dX12_unit_211 rfl ?_
                    refine r_isub dX12_unit_212 ?_
                    refine r_putI dX12_unit_213 (fpX12_156 _ rfl) rfl (by exact k_167 h96.1.1) ⟨rfl, rfl⟩ ?_
                    have yz := y96.s (k := 5) (v := (ldI m96 167 5 - 1)) (by omega) (by omega) (by omega)
                    have hz : RE b n n _ (stI m96 167 5 (ldI m96 167 5 - 1)) := ⟨h96.1.sy (Sy.rf.s (by omega) (by omega) (by omega)), ⟨h96.2.1.1, h96.2.1.2.1, h96.2.1.2.2.choose, h96.2.1.2.2.choose_spec.1, ld_n (by decide) h96.2.1.2.2.choose_spec.2⟩, ld_n (by decide) h96.2.2.1, h96.2.2.2.1, ld_n (by decide) h96.2.2.2.2⟩
                    refine r_iload dX12_unit_216 rfl ?_
                    refine r_if_eq 229 dX12_unit_218 rfl (fun _ => ?_) (fun hz => absurd hz (by decide))
                    refine r_lload dX12_unit_229 rfl ?_
                    refine r_lreturn dX12_unit_231 rfl ?_
                    have td : ¬ tkP b n s = -2 := fun z => hdg ((dg_tk hb).mpr z)
                    first
                      | exact k0 er ((if_neg td).trans ((if_neg (no_name nn)).trans ((if_pos c40).trans (rB_l ((if_pos c40).trans (rB_l her)))))) _ _ yz hz
                      | exact k0 (1, r.1) ((if_neg td).trans ((if_neg (no_name nn)).trans ((if_pos c40).trans (rB_l ((if_pos c40).trans ((rB_r hr).trans ((if_neg (by decide)).trans (if_neg (fun z => g203 ((ch_tk (by unfold isCh; decide)).mpr z)))))))))) _ _ yz hz
              ·
                have y91 := y89.tr q91
                obtain ⟨-, hfn⟩ := hi.resolve_right (fun z => by omega)
                subst hfn
                have c40 := (ch_tk (b := b) (n := n) (c := 40) (by unfold isCh; decide)).mp t40
                show Wp g mX12_unit _ _ _ 148 _ [] _ Q
                refine r_aload_n dX12_unit_148 rfl ?_
                refine r_callV0 (ci := 12) (d1 := d) (c1 := 0) (n1 := 0) dX12_unit_149 mvX12_181 rfl ⟨(Nat.le_of_ble_eq_true rfl), rfl⟩ (by omega) (by exact Nat.le_of_ble_eq_true rfl) (by exact k_167 h91.1.1) ?_
                refine hE _ _ _ _ h91 (fun m97 v97 q97 h97 => ?_)
                have y97 := y91.tr q97
                show Wp g mX12_unit _ _ _ 152 _ (_ :: _) _ Q
                refine sl_5 dX12_unit_152 (by first | rfl | assumption) (Nat.le_of_ble_eq_true rfl) ?_
                refine r_iload_n dX12_unit_154 rfl ?_
                refine r_if_ne 162 dX12_unit_155 rfl (fun hz => absurd hz (by decide)) (fun _ => ?_)
                refine r_iload_n dX12_unit_158 rfl ?_
                refine r_if_eq 200 dX12_unit_159 rfl (fun _ => ?_) (fun hz => absurd hz (by decide))
                refine r_aload_n dX12_unit_200 rfl ?_
                refine r_bipush (41) dX12_unit_201 rfl ?_
                refine r_callV1 (ci := 12) (d1 := 2) (c1 := 0) (n1 := 0) dX12_unit_203 mvX12_184 rfl ⟨(Nat.le_of_ble_eq_true rfl), rfl⟩ (by omega) (by exact Nat.le_of_ble_eq_true rfl) (by exact k_167 h97.1.1) ?_
                refine S_signE h97 (by decide) (fun m98 q98 h98 => ?_)
                have y98 := y97.tr q98
                show Wp g mX12_unit _ _ _ 206 _ [] _ Q
                refine r_aload_n dX12_unit_206 rfl ?_
                refine r_dup dX12_unit_207 rfl ?_
                refine r_getI dX12_unit_208 fgX12_156 rfl (by exact k_167 h98.1.1) ?_
                refine r_iconst (1) dX12_unit_211 rfl ?_
                refine r_isub dX12_unit_212 ?_
                refine r_putI dX12_unit_213 (fpX12_156 _ rfl) rfl (by exact k_167 h98.1.1) ⟨rfl, rfl⟩ ?_
                have yz := y98.s (k := 5) (v := (ldI m98 167 5 - 1)) (by omega) (by omega) (by omega)
                have hz : RE b n n _ (stI m98 167 5 (ldI m98 167 5 - 1)) := ⟨h98.1.sy (Sy.rf.s (by omega) (by omega) (by omega)), ⟨h98.2.1.1, h98.2.1.2.1, h98.2.1.2.2.choose, h98.2.1.2.2.choose_spec.1, ld_n (by decide) h98.2.1.2.2.choose_spec.2⟩, ld_n (by decide) h98.2.2.1, h98.2.2.2.1, ld_n (by decide) h98.2.2.2.2⟩
                refine r_iload dX12_unit_216 rfl ?_
                refine r_if_eq 229 dX12_unit_218 rfl (fun _ => ?_) (fun hz => absurd hz (by decide))
                refine r_lload dX12_unit_229 rfl ?_
                refine r_lreturn dX12_unit_231 rfl ?_
                have td : ¬ tkP b n s = -2 := fun z => hdg ((dg_tk hb).mpr z)
                exact k0 (3, s) ((if_neg td).trans ((if_neg (no_name nn)).trans ((if_pos c40).trans (rB_l (if_pos c40))))) _ _ yz hz
            ·
              refine r_aload_n dX12_unit_132 rfl ?_
              refine r_iconst (1) dX12_unit_133 rfl ?_
              refine r_aload_n dX12_unit_134 rfl ?_
              refine r_getIc (nI s) dX12_unit_135 fgX12_117 rfl (by exact k_167 h89.1.1) (by exact h89.2.1) ?_
              refine r_callV2 (ci := 12) (d1 := 0) (c1 := 0) (n1 := 0) dX12_unit_138 mvX12_141 rfl ⟨(Nat.le_of_ble_eq_true rfl), rfl⟩ (by omega) (by exact Nat.le_of_ble_eq_true rfl) (by exact k_167 h89.1.1) ?_
              refine S_wrongP h89 (by decide) (fun m99 q99 h99 => ?_)
              have y99 := y89.tr q99
              show Wp g mX12_unit _ _ _ 141 _ [] _ Q
              refine r_lconst (0) dX12_unit_141 rfl ?_
              refine r_lreturn dX12_unit_142 rfl ?_
              have td : ¬ tkP b n s = -2 := fun z => hdg ((dg_tk hb).mpr z)
              exact k0 (1, s) ((if_neg td).trans ((if_neg (no_name nn)).trans ((if_neg (fun z => t40 ((ch_tk (by unfold isCh; decide)).mpr z))).trans ((if_neg t20).trans (if_neg (fun z => z.elim t18 t19)))))) m99 _ y99 h99
