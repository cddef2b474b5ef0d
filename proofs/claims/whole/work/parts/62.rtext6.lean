theorem S_rsum {g : GG} {b : Nat → Int32} {n : Nat} : ∀ u o, u + o = 6 → NtR g b n mX12_sum o (8 + 3 * u) (sumP b n u)
  | 0, o, h => by
    have hf : GdO b n none := fun F h => by cases h
    exact S_X12_sum (d := 7) (by omega) (S_X12_product (d := 6) (by omega) (S_runit (d := 5) (by omega) (by omega) (Or.inl ⟨by omega, rfl⟩)) (untP_g hf)) (chn_g (untP_g hf) rfl)
  | u + 1, o, h => by
    have ih := S_rsum (g := g) (b := b) (n := n) u (o + 1) (by omega)
    have hf : GdO b n (some (sumP b n u)) := fun F h => by cases h; exact sumP_g u
    have z := S_X12_sum (g := g) (o := o) (d := 8 + 3 * u + 2) (by omega) (S_X12_product (d := 8 + 3 * u + 1) (by omega) (S_runit (d := 8 + 3 * u) (by omega) (by omega) (Or.inr ⟨by omega, sumP b n u, rfl, sumP_g u, ih⟩)) (untP_g hf)) (chn_g (untP_g hf) rfl)
    rw [show 8 + 3 * (u + 1) = 8 + 3 * u + 2 + 1 from by omega]
    exact z
def bo (x : Int64) : Int32 := if x = 0 then 0 else 1
def NtT (g : GG) (b : Nat → Int32) (n : Nat) (μ : MD) (o d : Nat) (f : Nat → Rs) : Prop := ∀ (m : MM) (s : Nat) (N : Nat → Int64) (Q : Out → Prop), RP b n s o m → (∀ j, j < 10 → ldL m 178 j = N j) → (∀ e, f s = .inl e → ∀ m' v, (v = 0 ∨ v = 1) → Sy m m' → RE b n (n + 1) e m' → Q (.inl (some (.int v)), m')) → (∀ r, f s = .inr r → ∀ m', Sy m m' → RP b n r.1 o m' → Q (.inl (some (.int (bo (r.2.2 (cut N))))), m')) → Cl g d 0 0 μ [.ref 167] m Q
def NtTE (g : GG) (b : Nat → Int32) (n : Nat) (μ : MD) (d : Nat) : Prop := ∀ (m : MM) (K : Nat) (e : Er) (Q : Out → Prop), RE b n K e m → (∀ v, (v = 0 ∨ v = 1) → Q (.inl (some (.int v)), m)) → Cl g d 0 0 μ [.ref 167] m Q
theorem RE.up {b : Nat → Int32} {n : Nat} {e : Er} {m : MM} (h : RE b n n e m) : RE b n (n + 1) e m := by
  obtain ⟨a, ⟨c1, c2, x, c3, c4⟩, r⟩ := h
  exact ⟨a, ⟨by omega, by have := a.2.1; omega, x, by omega, c4⟩, r⟩
theorem bo01 (x : Int64) : bo x = 0 ∨ bo x = 1 := by unfold bo; split; exact Or.inl rfl; exact Or.inr rfl
theorem nb {v : Int32} (h : v = 0 ∨ v = 1) : narrow FieldType.boolean (.int v) = .int v := by rcases h with q | q <;> (rw [q]; rfl)
theorem E_test {g : GG} {b : Nat → Int32} {n d : Nat} : NtTE g b n mX12_test d := by
  intro m K e Q h k
  refine Cl.of rfl (by decide) (Nat.le_of_ble_eq_true rfl) ?_
  show Wp g mX12_test d 0 0 0 [.ref 167, .retAddr 0, .retAddr 0, .retAddr 0, .retAddr 0, .retAddr 0] [] m Q
  have hF := h.1.1
  refine r_aload_n dX12_test_0 rfl ?_
  refine r_getIc (e.1) dX12_test_1 fgX12_124 rfl (by exact k_167 hF) (by exact h.2.2.1) ?_
  refine r_if_eq 9 dX12_test_4 rfl (fun hz => ?_) (fun hz => ?_)
  ·
    exact absurd hz h.2.2.2.1
  ·
    refine r_iconst (0) dX12_test_7 rfl ?_
    refine r_ireturn dX12_test_8 rfl rfl ?_
    exact k 0 (Or.inl rfl)
theorem E_ands {g : GG} {b : Nat → Int32} {n d : Nat} (hs : NtTE g b n mX12_test d) : NtTE g b n mX12_ands (d + 1) := by
  intro m K e Q h k
  refine Cl.of rfl (by decide) (Nat.le_of_ble_eq_true rfl) ?_
  show Wp g mX12_ands (d + 1) 0 0 0 [.ref 167, .retAddr 0, .retAddr 0] [] m Q
  have hF := h.1.1
  refine r_aload_n dX12_ands_0 rfl ?_
  refine r_callV0 (ci := 12) (d1 := d) (c1 := 0) (n1 := 0) dX12_ands_1 mvX12_197 rfl ⟨(Nat.le_of_ble_eq_true rfl), rfl⟩ (by omega) (by exact Nat.le_of_ble_eq_true rfl) (by exact k_167 hF) ?_
  refine hs m K e _ h (fun v hv => ?_)
  show Wp g mX12_ands _ _ _ 4 _ (_ :: _) _ Q
  refine si_1 dX12_ands_4 rfl (Nat.le_of_ble_eq_true rfl) ?_
  refine r_aload_n dX12_ands_5 rfl ?_
  refine r_getIc (e.1) dX12_ands_6 fgX12_124 rfl (by exact k_167 hF) (by exact h.2.2.1) ?_
  refine r_if_ne 52 dX12_ands_9 rfl (fun hz => ?_) (fun hz => ?_)
  ·
    refine r_iload_n dX12_ands_52 rfl ?_
    refine r_ireturn dX12_ands_53 rfl (nb hv) ?_
    exact k v hv
  ·
    exact absurd hz h.2.2.2.1
theorem E_ors {g : GG} {b : Nat → Int32} {n d : Nat} (hs : NtTE g b n mX12_ands d) : NtTE g b n mX12_ors (d + 1) := by
  intro m K e Q h k
  refine Cl.of rfl (by decide) (Nat.le_of_ble_eq_true rfl) ?_
  show Wp g mX12_ors (d + 1) 0 0 0 [.ref 167, .retAddr 0, .retAddr 0] [] m Q
  have hF := h.1.1
  refine r_aload_n dX12_ors_0 rfl ?_
  refine r_callV0 (ci := 12) (d1 := d) (c1 := 0) (n1 := 0) dX12_ors_1 mvX12_204 rfl ⟨(Nat.le_of_ble_eq_true rfl), rfl⟩ (by omega) (by exact Nat.le_of_ble_eq_true rfl) (by exact k_167 hF) ?_
  refine hs m K e _ h (fun v hv => ?_)
  show Wp g mX12_ors _ _ _ 4 _ (_ :: _) _ Q
  refine si_1 dX12_ors_4 rfl (Nat.le_of_ble_eq_true rfl) ?_
  refine r_aload_n dX12_ors_5 rfl ?_
  refine r_getIc (e.1) dX12_ors_6 fgX12_124 rfl (by exact k_167 hF) (by exact h.2.2.1) ?_
  refine r_if_ne 53 dX12_ors_9 rfl (fun hz => ?_) (fun hz => ?_)
  ·
    refine r_iload_n dX12_ors_53 rfl ?_
    refine r_ireturn dX12_ors_54 rfl (nb hv) ?_
    exact k v hv
  ·
    exact absurd hz h.2.2.2.1
theorem S_rtest0 {g : GG} {b : Nat → Int32} {n d d1 d2 d3 : Nat} (h1d : d1 + 1 ≤ d) (h2d : d2 + 1 ≤ d) (h3d : d3 + 1 ≤ d) (hd : 6 ≤ d1) (hS : NtR g b n mX12_sum 6 d1 (sumP b n 0)) (hOE : NtTE g b n mX12_ors d3) : NtT g b n mX12_test 6 d (tesP b n 0) := by
  intro m s N Q h hN k0 k1
  have ho : 6 ≤ 6 := Nat.le_refl _
  obtain ⟨a, h, hs⟩ := h
  refine Cl.of rfl (by decide) (Nat.le_of_ble_eq_true rfl) ?_
  show Wp g mX12_test d 0 0 0 [.ref 167, .retAddr 0, .retAddr 0, .retAddr 0, .retAddr 0, .retAddr 0] [] m Q
  have hn4 := h.1.2.1
  have hb := h.1.2.2.1
  have hss : rE b n isBl s = s := by rw [← hs]; exact rE_id
  have hsn : s ≤ n := by rw [← hs]; exact rE_n h.2.2.1
  have hE : NtE g b n mX12_sum d1 := E_sum (by omega)
  refine r_aload_n dX12_test_0 rfl ?_
  refine r_getIc (0) dX12_test_1 fgX12_124 rfl (by exact k_167 h.1.1) (by exact h.2.2.2.2.1) ?_
  refine r_if_eq 9 dX12_test_4 rfl (fun _ => ?_) (fun hz => absurd hz (by decide))
  refine r_aload_n dX12_test_9 rfl ?_
  refine r_bipush (14) dX12_test_10 rfl ?_
  refine r_bipush (15) dX12_test_12 rfl ?_
  refine r_bipush (20) dX12_test_14 rfl ?_
  refine r_iconst (0) dX12_test_16 rfl ?_
  refine r_iconst (0) dX12_test_17 rfl ?_
  refine r_iconst (0) dX12_test_18 rfl ?_
  refine r_callV6 (ci := 12) (d1 := 3) (c1 := 0) (n1 := 0) dX12_test_19 mvX12_159 rfl ⟨(Nat.le_of_ble_eq_true rfl), rfl⟩ (by omega) (by exact Nat.le_of_ble_eq_true rfl) (by exact k_167 h.1.1) ?_
  refine S_isW24 h hs (fun t24 m1 q1 h1 => ?_) (fun t24 m2 q2 h2 => ?_)
  ·
    have y1 := q1
    have w24 := nx_w (i := 24) (by omega) hb t24
    have w9 := ad_of t24 (by decide)
    show Wp g mX12_test _ _ _ 22 _ (_ :: _) _ Q
    refine r_if_eq 55 dX12_test_22 rfl (fun hz => absurd hz (by decide)) (fun _ => ?_)
    refine r_aload_n dX12_test_25 rfl ?_
    refine r_iconst (3) dX12_test_26 rfl ?_
    refine r_callV1 (ci := 12) (d1 := 1) (c1 := 0) (n1 := 0) dX12_test_27 mvX12_177 rfl ⟨(Nat.le_of_ble_eq_true rfl), rfl⟩ (by omega) (by exact Nat.le_of_ble_eq_true rfl) (by exact k_167 h1.1.1) ?_
    refine S_opensP h1 ho (w := 3) (by have z := w24.2; have := rE_n (b := b) (P := isLt) hsn; rw [show (wds.getD 24 []).length = 3 from by decide] at z; omega) (fun o6 => absurd o6 (by omega)) (fun o6 m3 q3 h3 => ?_)
    have y3 := y1.tr q3
    show Wp g mX12_test _ _ _ 30 _ [] _ Q
    refine r_aload_n dX12_test_30 rfl ?_
    refine r_callV0 (ci := 12) (d1 := d2) (c1 := 0) (n1 := 0) dX12_test_31 mvX12_197 rfl ⟨(Nat.le_of_ble_eq_true rfl), rfl⟩ (by omega) (by exact Nat.le_of_ble_eq_true rfl) (by exact k_167 h3.1.1) ?_
    refine E_test _ _ _ _ h3 (fun v4 hv4 => ?_)
    show Wp g mX12_test _ _ _ 34 _ (_ :: _) _ Q
    refine r_if_ne 41 dX12_test_34 rfl (fun tv => ?_) (fun tv => ?_)
    ·
      refine r_iconst (0) dX12_test_41 rfl ?_
      refine si_1 dX12_test_42 (by first | rfl | assumption) (Nat.le_of_ble_eq_true rfl) ?_
      refine r_aload_n dX12_test_43 rfl ?_
      refine r_dup dX12_test_44 rfl ?_
      refine r_getI dX12_test_45 fgX12_156 rfl (by exact k_167 h3.1.1) ?_
      refine r_iconst (1) dX12_test_48 rfl ?_
      refine r_isub dX12_test_49 ?_
      refine r_putI dX12_test_50 (fpX12_156 _ rfl) rfl (by exact k_167 h3.1.1) ⟨rfl, rfl⟩ ?_
      have yz := y3.s (k := 5) (v := (ldI m3 167 5 - 1)) (by omega) (by omega) (by omega)
      have hz : RE b n _ _ (stI m3 167 5 (ldI m3 167 5 - 1)) := ⟨h3.1.sy (Sy.rf.s (by omega) (by omega) (by omega)), ⟨h3.2.1.1, h3.2.1.2.1, h3.2.1.2.2.choose, h3.2.1.2.2.choose_spec.1, ld_n (by decide) h3.2.1.2.2.choose_spec.2⟩, ld_n (by decide) h3.2.2.1, h3.2.2.2.1, ld_n (by decide) h3.2.2.2.2⟩
      refine r_iload_n dX12_test_53 rfl ?_
      refine r_ireturn dX12_test_54 rfl rfl ?_
      exact k0 (3, s) (if_pos t24) _ _ (by first | exact Or.inl rfl | exact Or.inr rfl) yz hz.up
    ·
      refine r_iconst (1) dX12_test_37 rfl ?_
      refine r_goto 42 dX12_test_38 rfl ?_
      refine si_1 dX12_test_42 (by first | rfl | assumption) (Nat.le_of_ble_eq_true rfl) ?_
      refine r_aload_n dX12_test_43 rfl ?_
      refine r_dup dX12_test_44 rfl ?_
      refine r_getI dX12_test_45 fgX12_156 rfl (by exact k_167 h3.1.1) ?_
      refine r_iconst (1) dX12_test_48 rfl ?_
      refine r_isub dX12_test_49 ?_
      refine r_putI dX12_test_50 (fpX12_156 _ rfl) rfl (by exact k_167 h3.1.1) ⟨rfl, rfl⟩ ?_
      have yz := y3.s (k := 5) (v := (ldI m3 167 5 - 1)) (by omega) (by omega) (by omega)
      have hz : RE b n _ _ (stI m3 167 5 (ldI m3 167 5 - 1)) := ⟨h3.1.sy (Sy.rf.s (by omega) (by omega) (by omega)), ⟨h3.2.1.1, h3.2.1.2.1, h3.2.1.2.2.choose, h3.2.1.2.2.choose_spec.1, ld_n (by decide) h3.2.1.2.2.choose_spec.2⟩, ld_n (by decide) h3.2.2.1, h3.2.2.2.1, ld_n (by decide) h3.2.2.2.2⟩
      refine r_iload_n dX12_test_53 rfl ?_
      refine r_ireturn dX12_test_54 rfl rfl ?_
      exact k0 (3, s) (if_pos t24) _ _ (by first | exact Or.inl rfl | exact Or.inr rfl) yz hz.up
  ·
    have y2 := q2
    show Wp g mX12_test _ _ _ 22 _ (_ :: _) _ Q
    refine r_if_eq 55 dX12_test_22 rfl (fun _ => ?_) (fun hz => absurd hz (by decide))
    refine r_aload_n dX12_test_55 rfl ?_
    refine r_aload_n dX12_test_56 rfl ?_
    refine r_getIc (nI s) dX12_test_57 fgX12_117 rfl (by exact k_167 h2.1.1) (by exact h2.2.1) ?_
    refine r_callV1 (ci := 12) (d1 := 0) (c1 := 0) (n1 := 0) dX12_test_60 mvX12_120 rfl ⟨(Nat.le_of_ble_eq_true rfl), rfl⟩ (by omega) (by exact Nat.le_of_ble_eq_true rfl) (by exact k_167 h2.1.1) ?_
    refine S_byteAt h2.1 (k := s) (by have := h2.2.2.1; omega) ?_
    show Wp g mX12_test _ _ _ 63 _ (_ :: _) _ Q
    refine r_bipush (91) dX12_test_63 rfl ?_
    refine r_icmp_ne 96 dX12_test_65 rfl (fun t65 => ?_) (fun t65 => ?_)
    ·
      refine r_aload_n dX12_test_96 rfl ?_
      refine r_callV0 (ci := 12) (d1 := d1) (c1 := 0) (n1 := 0) dX12_test_97 mvX12_181 rfl ⟨(Nat.le_of_ble_eq_true rfl), rfl⟩ (by omega) (by exact Nat.le_of_ble_eq_true rfl) (by exact k_167 h2.1.1) ?_
      refine hS _ s N _ ⟨_, h2, hss⟩ (y2.n hN) (fun er her m5 v5 q5 h5 => ?_) (fun r hr m6 q6 h6 => ?_)
      ·
        have y5 := y2.tr q5
        show Wp g mX12_test _ _ _ 100 _ (_ :: _) _ Q
        refine sl_1 dX12_test_100 (by first | rfl | assumption) (Nat.le_of_ble_eq_true rfl) ?_
        refine r_aload_n dX12_test_101 rfl ?_
        refine r_callV0 (ci := 12) (d1 := 1) (c1 := 0) (n1 := 0) dX12_test_102 mvX12_145 rfl ⟨(Nat.le_of_ble_eq_true rfl), rfl⟩ (by omega) (by exact Nat.le_of_ble_eq_true rfl) (by exact k_167 h5.1.1) ?_
        refine S_blanksE h5 (fun m7 q7 h7 => ?_)
        have y7 := y5.tr q7
        obtain ⟨xn7, xK7, x7, xl7, e7⟩ := h7.2.1
        show Wp g mX12_test _ _ _ 105 _ [] _ Q
        refine r_aload_n dX12_test_105 rfl ?_
        refine r_aload_n dX12_test_106 rfl ?_
        refine r_getIc (nI x7) dX12_test_107 fgX12_117 rfl (by exact k_167 h7.1.1) (by exact e7) ?_
        refine r_callV1 (ci := 12) (d1 := 0) (c1 := 0) (n1 := 0) dX12_test_110 mvX12_120 rfl ⟨(Nat.le_of_ble_eq_true rfl), rfl⟩ (by omega) (by exact Nat.le_of_ble_eq_true rfl) (by exact k_167 h7.1.1) ?_
        refine S_byteAt h7.1 (k := x7) (by omega) ?_
        show Wp g mX12_test _ _ _ 113 _ (_ :: _) _ Q
        refine si_3 dX12_test_113 (by first | rfl | assumption) (Nat.le_of_ble_eq_true rfl) ?_
        refine r_iload_n dX12_test_114 rfl ?_
        refine r_bipush (60) dX12_test_115 rfl ?_
        refine r_icmp_eq 141 dX12_test_117 rfl (fun c60 => ?_) (fun c60 => ?_)
        ·
          refine r_aload_n dX12_test_141 rfl ?_
          refine r_dup dX12_test_142 rfl ?_
          refine r_getIc (nI x7) dX12_test_143 fgX12_117 rfl (by exact k_167 h7.1.1) (by exact e7) ?_
          refine r_iconst (1) dX12_test_146 rfl ?_
          refine r_iadd dX12_test_147 ?_
          rw [nI_1]
          have h8 : RE b n (n + 1) _ (stI m7 167 4 (nI (x7 + 1))) := ⟨h7.1.sy (Sy.rf.s (by omega) (by omega) (by omega)), ⟨by omega, by omega, x7 + 1, by omega, ld_s⟩, ld_n (by decide) h7.2.2.1, h7.2.2.2.1, ld_n (by decide) h7.2.2.2.2⟩
          have y8 := y7.s (k := 4) (v := nI (x7 + 1)) (by omega) (by omega) (by omega)
          refine r_putI dX12_test_148 (fpX12_117 _ rfl) rfl (by exact k_167 h8.1.1) ⟨rfl, rfl⟩ ?_
          refine r_aload_n dX12_test_151 rfl ?_
          refine r_callV0 (ci := 12) (d1 := d1) (c1 := 0) (n1 := 0) dX12_test_152 mvX12_181 rfl ⟨(Nat.le_of_ble_eq_true rfl), rfl⟩ (by omega) (by exact Nat.le_of_ble_eq_true rfl) (by exact k_167 h8.1.1) ?_
          refine hE _ _ _ _ h8 (fun m9 v9 q9 h9 => ?_)
          have y9 := y8.tr q9
          show Wp g mX12_test _ _ _ 155 _ (_ :: _) _ Q
          refine sl_4 dX12_test_155 (by first | rfl | assumption) (Nat.le_of_ble_eq_true rfl) ?_
          refine r_iload_n dX12_test_157 rfl ?_
          refine r_bipush (60) dX12_test_158 rfl ?_
          refine r_icmp_ne 178 dX12_test_160 rfl (fun d60 => ?_) (fun d60 => ?_)
          ·
            exact absurd c60 d60
          ·
            refine r_lload_n dX12_test_163 rfl ?_
            refine r_lload dX12_test_164 rfl ?_
            refine r_lcmp_ge 174 dX12_test_166 dX12_test_167 rfl (fun l1 => ?_) (fun l1 => ?_)
            ·
              refine r_iconst (0) dX12_test_174 rfl ?_
              refine r_goto 211 dX12_test_175 rfl ?_
              refine r_ireturn dX12_test_211 rfl rfl ?_
              first
                | exact k0 er ((if_neg t24).trans ((if_neg (fun z => t65 ((ch_tk (by unfold isCh; decide)).mpr z))).trans (rB_l her))) _ _ (by first | exact Or.inl rfl | exact Or.inr rfl) y9 h9
                | exact k0 (1, r.1) ((if_neg t24).trans ((if_neg (fun z => t65 ((ch_tk (by unfold isCh; decide)).mpr z))).trans ((rB_r hr).trans (if_neg (fun q => q.elim (fun z => c60 ((ch_tk (by unfold isCh; decide)).mpr z)) (fun q => q.elim (fun z => c62 ((ch_tk (by unfold isCh; decide)).mpr z)) (fun z => c61 ((ch_tk (by unfold isCh; decide)).mpr z)))))))) _ _ (by first | exact Or.inl rfl | exact Or.inr rfl) y9 h9
                | exact k0 er2 ((if_neg t24).trans ((if_neg (fun z => t65 ((ch_tk (by unfold isCh; decide)).mpr z))).trans ((rB_r hr).trans ((if_pos (Or.inl tkr)).trans (rB_l her2))))) _ _ (by first | exact Or.inl rfl | exact Or.inr rfl) y9 h9.up
            ·
              refine r_iconst (1) dX12_test_170 rfl ?_
              refine r_goto 211 dX12_test_171 rfl ?_
              refine r_ireturn dX12_test_211 rfl rfl ?_
              first
                | exact k0 er ((if_neg t24).trans ((if_neg (fun z => t65 ((ch_tk (by unfold isCh; decide)).mpr z))).trans (rB_l her))) _ _ (by first | exact Or.inl rfl | exact Or.inr rfl) y9 h9
                | exact k0 (1, r.1) ((if_neg t24).trans ((if_neg (fun z => t65 ((ch_tk (by unfold isCh; decide)).mpr z))).trans ((rB_r hr).trans (if_neg (fun q => q.elim (fun z => c60 ((ch_tk (by unfold isCh; decide)).mpr z)) (fun q => q.elim (fun z => c62 ((ch_tk (by unfold isCh; decide)).mpr z)) (fun z => c61 ((ch_tk (by unfold isCh; decide)).mpr z)))))))) _ _ (by first | exact Or.inl rfl | exact Or.inr rfl) y9 h9
                | exact k0 er2 ((if_neg t24).trans ((if_neg (fun z => t65 ((ch_tk (by unfold isCh; decide)).mpr z))).trans ((rB_r hr).trans ((if_pos (Or.inl tkr)).trans (rB_l her2))))) _ _ (by first | exact Or.inl rfl | exact Or.inr rfl) y9 h9.up
        ·
          refine r_iload_n dX12_test_120 rfl ?_
          refine r_bipush (62) dX12_test_121 rfl ?_
          refine r_icmp_eq 141 dX12_test_123 rfl (fun c62 => ?_) (fun c62 => ?_)
          ·
            refine r_aload_n dX12_test_141 rfl ?_
            refine r_dup dX12_test_142 rfl ?_
            refine r_getIc (nI x7) dX12_test_143 fgX12_117 rfl (by exact k_167 h7.1.1) (by exact e7) ?_
            refine r_iconst (1) dX12_test_146 rfl ?_
            refine r_iadd dX12_test_147 ?_
            rw [nI_1]
            have h10 : RE b n (n + 1) _ (stI m7 167 4 (nI (x7 + 1))) := ⟨h7.1.sy (Sy.rf.s (by omega) (by omega) (by omega)), ⟨by omega, by omega, x7 + 1, by omega, ld_s⟩, ld_n (by decide) h7.2.2.1, h7.2.2.2.1, ld_n (by decide) h7.2.2.2.2⟩
            have y10 := y7.s (k := 4) (v := nI (x7 + 1)) (by omega) (by omega) (by omega)
            refine r_putI dX12_test_148 (fpX12_117 _ rfl) rfl (by exact k_167 h10.1.1) ⟨rfl, rfl⟩ ?_
            refine r_aload_n dX12_test_151 rfl ?_
            refine r_callV0 (ci := 12) (d1 := d1) (c1 := 0) (n1 := 0) dX12_test_152 mvX12_181 rfl ⟨(Nat.le_of_ble_eq_true rfl), rfl⟩ (by omega) (by exact Nat.le_of_ble_eq_true rfl) (by exact k_167 h10.1.1) ?_
            refine hE _ _ _ _ h10 (fun m11 v11 q11 h11 => ?_)
            have y11 := y10.tr q11
            show Wp g mX12_test _ _ _ 155 _ (_ :: _) _ Q
            refine sl_4 dX12_test_155 (by first | rfl | assumption) (Nat.le_of_ble_eq_true rfl) ?_
            refine r_iload_n dX12_test_157 rfl ?_
            refine r_bipush (60) dX12_test_158 rfl ?_
            refine r_icmp_ne 178 dX12_test_160 rfl (fun d60 => ?_) (fun d60 => ?_)
            ·
              refine r_iload_n dX12_test_178 rfl ?_
              refine r_bipush (62) dX12_test_179 rfl ?_
              refine r_icmp_ne 199 dX12_test_181 rfl (fun d62 => ?_) (fun d62 => ?_)
              ·
                exact absurd c62 d62
              ·
                refine r_lload_n dX12_test_184 rfl ?_
                refine r_lload dX12_test_185 rfl ?_
                refine r_lcmp_le 195 dX12_test_187 dX12_test_188 rfl (fun l2 => ?_) (fun l2 => ?_)
                ·
                  refine r_iconst (0) dX12_test_195 rfl ?_
                  refine r_goto 211 dX12_test_196 rfl ?_
                  refine r_ireturn dX12_test_211 rfl rfl ?_
                  first
                    | exact k0 er ((if_neg t24).trans ((if_neg (fun z => t65 ((ch_tk (by unfold isCh; decide)).mpr z))).trans (rB_l her))) _ _ (by first | exact Or.inl rfl | exact Or.inr rfl) y11 h11
                    | exact k0 (1, r.1) ((if_neg t24).trans ((if_neg (fun z => t65 ((ch_tk (by unfold isCh; decide)).mpr z))).trans ((rB_r hr).trans (if_neg (fun q => q.elim (fun z => c60 ((ch_tk (by unfold isCh; decide)).mpr z)) (fun q => q.elim (fun z => c62 ((ch_tk (by unfold isCh; decide)).mpr z)) (fun z => c61 ((ch_tk (by unfold isCh; decide)).mpr z)))))))) _ _ (by first | exact Or.inl rfl | exact Or.inr rfl) y11 h11
                    | exact k0 er2 ((if_neg t24).trans ((if_neg (fun z => t65 ((ch_tk (by unfold isCh; decide)).mpr z))).trans ((rB_r hr).trans ((if_pos (Or.inr (Or.inl tkr))).trans (rB_l her2))))) _ _ (by first | exact Or.inl rfl | exact Or.inr rfl) y11 h11.up
                ·
                  refine r_iconst (1) dX12_test_191 rfl ?_
                  refine r_goto 211 dX12_test_192 rfl ?_
                  refine r_ireturn dX12_test_211 rfl rfl ?_
                  first
                    | exact k0 er ((if_neg t24).trans ((if_neg (fun z => t65 ((ch_tk (by unfold isCh; decide)).mpr z))).trans (rB_l her))) _ _ (by first | exact Or.inl rfl | exact Or.inr rfl) y11 h11
                    | exact k0 (1, r.1) ((if_neg t24).trans ((if_neg (fun z => t65 ((ch_tk (by unfold isCh; decide)).mpr z))).trans ((rB_r hr).trans (if_neg (fun q => q.elim (fun z => c60 ((ch_tk (by unfold isCh; decide)).mpr z)) (fun q => q.elim (fun z => c62 ((ch_tk (by unfold isCh; decide)).mpr z)) (fun z => c61 ((ch_tk (by unfold isCh; decide)).mpr z)))))))) _ _ (by first | exact Or.inl rfl | exact Or.inr rfl) y11 h11
                    | exact k0 er2 ((if_neg t24).trans ((if_neg (fun z => t65 ((ch_tk (by unfold isCh; decide)).mpr z))).trans ((rB_r hr).trans ((if_pos (Or.inr (Or.inl tkr))).trans (rB_l her2))))) _ _ (by first | exact Or.inl rfl | exact Or.inr rfl) y11 h11.up
            ·
              exact absurd d60 c60
          ·
            refine r_iload_n dX12_test_126 rfl ?_
            refine r_bipush (61) dX12_test_127 rfl ?_
            refine r_icmp_eq 141 dX12_test_129 rfl (fun c61 => ?_) (fun c61 => ?_)
            ·
              refine r_aload_n dX12_test_141 rfl ?_
              refine r_dup dX12_test_142 rfl ?_
              refine r_getIc (nI x7) dX12_test_143 fgX12_117 rfl (by exact k_167 h7.1.1) (by exact e7) ?_
              refine r_iconst (1) dX12_test_146 rfl ?_
              refine r_iadd dX12_test_147 ?_
              rw [nI_1]
              have h12 : RE b n (n + 1) _ (stI m7 167 4 (nI (x7 + 1))) := ⟨h7.1.sy (Sy.rf.s (by omega) (by omega) (by omega)), ⟨by omega, by omega, x7 + 1, by omega, ld_s⟩, ld_n (by decide) h7.2.2.1, h7.2.2.2.1, ld_n (by decide) h7.2.2.2.2⟩
              have y12 := y7.s (k := 4) (v := nI (x7 + 1)) (by omega) (by omega) (by omega)
              refine r_putI dX12_test_148 (fpX12_117 _ rfl) rfl (by exact k_167 h12.1.1) ⟨rfl, rfl⟩ ?_
              refine r_aload_n dX12_test_151 rfl ?_
              refine r_callV0 (ci := 12) (d1 := d1) (c1 := 0) (n1 := 0) dX12_test_152 mvX12_181 rfl ⟨(Nat.le_of_ble_eq_true rfl), rfl⟩ (by omega) (by exact Nat.le_of_ble_eq_true rfl) (by exact k_167 h12.1.1) ?_
              refine hE _ _ _ _ h12 (fun m13 v13 q13 h13 => ?_)
              have y13 := y12.tr q13
              show Wp g mX12_test _ _ _ 155 _ (_ :: _) _ Q
              refine sl_4 dX12_test_155 (by first | rfl | assumption) (Nat.le_of_ble_eq_true rfl) ?_
              refine r_iload_n dX12_test_157 rfl ?_
              refine r_bipush (60) dX12_test_158 rfl ?_
              refine r_icmp_ne 178 dX12_test_160 rfl (fun d60 => ?_) (fun d60 => ?_)
              ·
                refine r_iload_n dX12_test_178 rfl ?_
                refine r_bipush (62) dX12_test_179 rfl ?_
                refine r_icmp_ne 199 dX12_test_181 rfl (fun d62 => ?_) (fun d62 => ?_)
                ·
                  refine r_lload_n dX12_test_199 rfl ?_
                  refine r_lload dX12_test_200 rfl ?_
                  refine r_lcmp_ne 210 dX12_test_202 dX12_test_203 rfl (fun l3 => ?_) (fun l3 => ?_)
                  ·
                    refine r_iconst (0) dX12_test_210 rfl ?_
                    refine r_ireturn dX12_test_211 rfl rfl ?_
                    first
                      | exact k0 er ((if_neg t24).trans ((if_neg (fun z => t65 ((ch_tk (by unfold isCh; decide)).mpr z))).trans (rB_l her))) _ _ (by first | exact Or.inl rfl | exact Or.inr rfl) y13 h13
                      | exact k0 (1, r.1) ((if_neg t24).trans ((if_neg (fun z => t65 ((ch_tk (by unfold isCh; decide)).mpr z))).trans ((rB_r hr).trans (if_neg (fun q => q.elim (fun z => c60 ((ch_tk (by unfold isCh; decide)).mpr z)) (fun q => q.elim (fun z => c62 ((ch_tk (by unfold isCh; decide)).mpr z)) (fun z => c61 ((ch_tk (by unfold isCh; decide)).mpr z)))))))) _ _ (by first | exact Or.inl rfl | exact Or.inr rfl) y13 h13
                      | exact k0 er2 ((if_neg t24).trans ((if_neg (fun z => t65 ((ch_tk (by unfold isCh; decide)).mpr z))).trans ((rB_r hr).trans ((if_pos (Or.inr (Or.inr tkr))).trans (rB_l her2))))) _ _ (by first | exact Or.inl rfl | exact Or.inr rfl) y13 h13.up
                  ·
                    refine r_iconst (1) dX12_test_206 rfl ?_
                    refine r_goto 211 dX12_test_207 rfl ?_
                    refine r_ireturn dX12_test_211 rfl rfl ?_
                    first
                      | exact k0 er ((if_neg t24).trans ((if_neg (fun z => t65 ((ch_tk (by unfold isCh; decide)).mpr z))).trans (rB_l her))) _ _ (by first | exact Or.inl rfl | exact Or.inr rfl) y13 h13
                      | exact k0 (1, r.1) ((if_neg t24).trans ((if_neg (fun z => t65 ((ch_tk (by unfold isCh; decide)).mpr z))).trans ((rB_r hr).trans (if_neg (fun q => q.elim (fun z => c60 ((ch_tk (by unfold isCh; decide)).mpr z)) (fun q => q.elim (fun z => c62 ((ch_tk (by unfold isCh; decide)).mpr z)) (fun z => c61 ((ch_tk (by unfold isCh; decide)).mpr z)))))))) _ _ (by first | exact Or.inl rfl | exact Or.inr rfl) y13 h13
                      | exact k0 er2 ((if_neg t24).trans ((if_neg (fun z => t65 ((ch_tk (by unfold isCh; decide)).mpr z))).trans ((rB_r hr).trans ((if_pos (Or.inr (Or.inr tkr))).trans (rB_l her2))))) _ _ (by first | exact Or.inl rfl | exact Or.inr rfl) y13 h13.up
                ·
                  exact absurd d62 c62
              ·
                exact absurd d60 c60
            ·
              refine r_aload_n dX12_test_132 rfl ?_
              refine r_iconst (1) dX12_test_133 rfl ?_
              refine r_aload_n dX12_test_134 rfl ?_
              refine r_getIc (nI x7) dX12_test_135 fgX12_117 rfl (by exact k_167 h7.1.1) (by exact e7) ?_
              refine r_callV2 (ci := 12) (d1 := 0) (c1 := 0) (n1 := 0) dX12_test_138 mvX12_141 rfl ⟨(Nat.le_of_ble_eq_true rfl), rfl⟩ (by omega) (by exact Nat.le_of_ble_eq_true rfl) (by exact k_167 h7.1.1) ?_
              refine S_wrongE h7 ?_
              show Wp g mX12_test _ _ _ 141 _ [] _ Q
              refine r_aload_n dX12_test_141 rfl ?_
              refine r_dup dX12_test_142 rfl ?_
              refine r_getIc (nI x7) dX12_test_143 fgX12_117 rfl (by exact k_167 h7.1.1) (by exact e7) ?_
              refine r_iconst (1) dX12_test_146 rfl ?_
              refine r_iadd dX12_test_147 ?_
              rw [nI_1]
              have h14 : RE b n (n + 1) _ (stI m7 167 4 (nI (x7 + 1))) := ⟨h7.1.sy (Sy.rf.s (by omega) (by omega) (by omega)), ⟨by omega, by omega, x7 + 1, by omega, ld_s⟩, ld_n (by decide) h7.2.2.1, h7.2.2.2.1, ld_n (by decide) h7.2.2.2.2⟩
              have y14 := y7.s (k := 4) (v := nI (x7 + 1)) (by omega) (by omega) (by omega)
              refine r_putI dX12_test_148 (fpX12_117 _ rfl) rfl (by exact k_167 h14.1.1) ⟨rfl, rfl⟩ ?_
              refine r_aload_n dX12_test_151 rfl ?_
              refine r_callV0 (ci := 12) (d1 := d1) (c1 := 0) (n1 := 0) dX12_test_152 mvX12_181 rfl ⟨(Nat.le_of_ble_eq_true rfl), rfl⟩ (by omega) (by exact Nat.le_of_ble_eq_true rfl) (by exact k_167 h14.1.1) ?_
              refine hE _ _ _ _ h14 (fun m15 v15 q15 h15 => ?_)
              have y15 := y14.tr q15
              show Wp g mX12_test _ _ _ 155 _ (_ :: _) _ Q
              refine sl_4 dX12_test_155 (by first | rfl | assumption) (Nat.le_of_ble_eq_true rfl) ?_
              refine r_iload_n dX12_test_157 rfl ?_
              refine r_bipush (60) dX12_test_158 rfl ?_
              refine r_icmp_ne 178 dX12_test_160 rfl (fun d60 => ?_) (fun d60 => ?_)
              ·
                refine r_iload_n dX12_test_178 rfl ?_
                refine r_bipush (62) dX12_test_179 rfl ?_
                refine r_icmp_ne 199 dX12_test_181 rfl (fun d62 => ?_) (fun d62 => ?_)
                ·
                  refine r_lload_n dX12_test_199 rfl ?_
                  refine r_lload dX12_test_200 rfl ?_
                  refine r_lcmp_ne 210 dX12_test_202 dX12_test_203 rfl (fun l3 => ?_) (fun l3 => ?_)
                  ·
                    refine r_iconst (0) dX12_test_210 rfl ?_
                    refine r_ireturn dX12_test_211 rfl rfl ?_
                    first
                      | exact k0 er ((if_neg t24).trans ((if_neg (fun z => t65 ((ch_tk (by unfold isCh; decide)).mpr z))).trans (rB_l her))) _ _ (by first | exact Or.inl rfl | exact Or.inr rfl) y15 h15
                      | exact k0 (1, r.1) ((if_neg t24).trans ((if_neg (fun z => t65 ((ch_tk (by unfold isCh; decide)).mpr z))).trans ((rB_r hr).trans (if_neg (fun q => q.elim (fun z => c60 ((ch_tk (by unfold isCh; decide)).mpr z)) (fun q => q.elim (fun z => c62 ((ch_tk (by unfold isCh; decide)).mpr z)) (fun z => c61 ((ch_tk (by unfold isCh; decide)).mpr z)))))))) _ _ (by first | exact Or.inl rfl | exact Or.inr rfl) y15 h15
                  ·
                    refine r_iconst (1) dX12_test_206 rfl ?_
                    refine r_goto 211 dX12_test_207 rfl ?_
                    refine r_ireturn dX12_test_211 rfl rfl ?_
                    first
                      | exact k0 er ((if_neg t24).trans ((if_neg (fun z => t65 ((ch_tk (by unfold isCh; decide)).mpr z))).trans (rB_l her))) _ _ (by first | exact Or.inl rfl | exact Or.inr rfl) y15 h15
                      | exact k0 (1, r.1) ((if_neg t24).trans ((if_neg (fun z => t65 ((ch_tk (by unfold isCh; decide)).mpr z))).trans ((rB_r hr).trans (if_neg (fun q => q.elim (fun z => c60 ((ch_tk (by unfold isCh; decide)).mpr z)) (fun q => q.elim (fun z => c62 ((ch_tk (by unfold isCh; decide)).mpr z)) (fun z => c61 ((ch_tk (by unfold isCh; decide)).mpr z)))))))) _ _ (by first | exact Or.inl rfl | exact Or.inr rfl) y15 h15
                ·
                  exact absurd d62 c62
              ·
                exact absurd d60 c60
      ·
        obtain ⟨a6, h6, e6⟩ := h6
        have y6 := y2.tr q6
        show Wp g mX12_test _ _ _ 100 _ (_ :: _) _ Q
        refine sl_1 dX12_test_100 (by first | rfl | assumption) (Nat.le_of_ble_eq_true rfl) ?_
        refine r_aload_n dX12_test_101 rfl ?_
        refine r_callV0 (ci := 12) (d1 := 1) (c1 := 0) (n1 := 0) dX12_test_102 mvX12_145 rfl ⟨(Nat.le_of_ble_eq_true rfl), rfl⟩ (by omega) (by exact Nat.le_of_ble_eq_true rfl) (by exact k_167 h6.1.1) ?_
        refine S_blanksP h6 (fun m16 q16 h16 => ?_)
        have y16 := y6.tr q16
        rw [e6] at h16
        show Wp g mX12_test _ _ _ 105 _ [] _ Q
        refine r_aload_n dX12_test_105 rfl ?_
        refine r_aload_n dX12_test_106 rfl ?_
        refine r_getIc (nI r.1) dX12_test_107 fgX12_117 rfl (by exact k_167 h16.1.1) (by exact h16.2.1) ?_
        refine r_callV1 (ci := 12) (d1 := 0) (c1 := 0) (n1 := 0) dX12_test_110 mvX12_120 rfl ⟨(Nat.le_of_ble_eq_true rfl), rfl⟩ (by omega) (by exact Nat.le_of_ble_eq_true rfl) (by exact k_167 h16.1.1) ?_
        refine S_byteAt h16.1 (k := r.1) (by have := h16.2.2.1; omega) ?_
        show Wp g mX12_test _ _ _ 113 _ (_ :: _) _ Q
        refine si_3 dX12_test_113 (by first | rfl | assumption) (Nat.le_of_ble_eq_true rfl) ?_
        refine r_iload_n dX12_test_114 rfl ?_
        refine r_bipush (60) dX12_test_115 rfl ?_
        refine r_icmp_eq 141 dX12_test_117 rfl (fun c60 => ?_) (fun c60 => ?_)
        ·
          have nxr := nx_ch (c := 60) (by unfold isCh; decide) c60
          have tkr := (ch_tk (c := 60) (by unfold isCh; decide)).mp c60
          refine r_aload_n dX12_test_141 rfl ?_
          refine r_dup dX12_test_142 rfl ?_
          refine r_getIc (nI r.1) dX12_test_143 fgX12_117 rfl (by exact k_167 h16.1.1) (by exact h16.2.1) ?_
          refine r_iconst (1) dX12_test_146 rfl ?_
          refine r_iadd dX12_test_147 ?_
          rw [nI_1]
          obtain ⟨h17, q17⟩ := h16.at1 nxr.1
          have y17 := y16.tr q17
          refine r_putI dX12_test_148 (fpX12_117 _ rfl) rfl (by exact k_167 h17.1.1) ⟨rfl, rfl⟩ ?_
          refine r_aload_n dX12_test_151 rfl ?_
          refine r_callV0 (ci := 12) (d1 := d1) (c1 := 0) (n1 := 0) dX12_test_152 mvX12_181 rfl ⟨(Nat.le_of_ble_eq_true rfl), rfl⟩ (by omega) (by exact Nat.le_of_ble_eq_true rfl) (by exact k_167 h17.1.1) ?_
          refine hS _ (adP b n r.1) N _ ⟨_, h17, (congrArg (rE b n isBl) nxr.2.symm)⟩ (y17.n hN) (fun er2 her2 m18 v18 q18 h18 => ?_) (fun r2 hr2 m19 q19 h19 => ?_)
          ·
            have y18 := y17.tr q18
            show Wp g mX12_test _ _ _ 155 _ (_ :: _) _ Q
            refine sl_4 dX12_test_155 (by first | rfl | assumption) (Nat.le_of_ble_eq_true rfl) ?_
            refine r_iload_n dX12_test_157 rfl ?_
            refine r_bipush (60) dX12_test_158 rfl ?_
            refine r_icmp_ne 178 dX12_test_160 rfl (fun d60 => ?_) (fun d60 => ?_)
            ·
              exact absurd c60 d60
            ·
              refine r_lload_n dX12_test_163 rfl ?_
              refine r_lload dX12_test_164 rfl ?_
              refine r_lcmp_ge 174 dX12_test_166 dX12_test_167 rfl (fun l1 => ?_) (fun l1 => ?_)
              ·
                refine r_iconst (0) dX12_test_174 rfl ?_
                refine r_goto 211 dX12_test_175 rfl ?_
                refine r_ireturn dX12_test_211 rfl rfl ?_
                first
                  | exact k0 er ((if_neg t24).trans ((if_neg (fun z => t65 ((ch_tk (by unfold isCh; decide)).mpr z))).trans (rB_l her))) _ _ (by first | exact Or.inl rfl | exact Or.inr rfl) y18 h18
                  | exact k0 (1, r.1) ((if_neg t24).trans ((if_neg (fun z => t65 ((ch_tk (by unfold isCh; decide)).mpr z))).trans ((rB_r hr).trans (if_neg (fun q => q.elim (fun z => c60 ((ch_tk (by unfold isCh; decide)).mpr z)) (fun q => q.elim (fun z => c62 ((ch_tk (by unfold isCh; decide)).mpr z)) (fun z => c61 ((ch_tk (by unfold isCh; decide)).mpr z)))))))) _ _ (by first | exact Or.inl rfl | exact Or.inr rfl) y18 h18
                  | exact k0 er2 ((if_neg t24).trans ((if_neg (fun z => t65 ((ch_tk (by unfold isCh; decide)).mpr z))).trans ((rB_r hr).trans ((if_pos (Or.inl tkr)).trans (rB_l her2))))) _ _ (by first | exact Or.inl rfl | exact Or.inr rfl) y18 h18.up
              ·
                refine r_iconst (1) dX12_test_170 rfl ?_
                refine r_goto 211 dX12_test_171 rfl ?_
                refine r_ireturn dX12_test_211 rfl rfl ?_
                first
                  | exact k0 er ((if_neg t24).trans ((if_neg (fun z => t65 ((ch_tk (by unfold isCh; decide)).mpr z))).trans (rB_l her))) _ _ (by first | exact Or.inl rfl | exact Or.inr rfl) y18 h18
                  | exact k0 (1, r.1) ((if_neg t24).trans ((if_neg (fun z => t65 ((ch_tk (by unfold isCh; decide)).mpr z))).trans ((rB_r hr).trans (if_neg (fun q => q.elim (fun z => c60 ((ch_tk (by unfold isCh; decide)).mpr z)) (fun q => q.elim (fun z => c62 ((ch_tk (by unfold isCh; decide)).mpr z)) (fun z => c61 ((ch_tk (by unfold isCh; decide)).mpr z)))))))) _ _ (by first | exact Or.inl rfl | exact Or.inr rfl) y18 h18
                  | exact k0 er2 ((if_neg t24).trans ((if_neg (fun z => t65 ((ch_tk (by unfold isCh; decide)).mpr z))).trans ((rB_r hr).trans ((if_pos (Or.inl tkr)).trans (rB_l her2))))) _ _ (by first | exact Or.inl rfl | exact Or.inr rfl) y18 h18.up
          ·
            obtain ⟨a19, h19, e19⟩ := h19
            have y19 := y17.tr q19
            show Wp g mX12_test _ _ _ 155 _ (_ :: _) _ Q
            refine sl_4 dX12_test_155 (by first | rfl | assumption) (Nat.le_of_ble_eq_true rfl) ?_
            refine r_iload_n dX12_test_157 rfl ?_
            refine r_bipush (60) dX12_test_158 rfl ?_
            refine r_icmp_ne 178 dX12_test_160 rfl (fun d60 => ?_) (fun d60 => ?_)
            ·
              exact absurd c60 d60
            ·
              refine r_lload_n dX12_test_163 rfl ?_
              refine r_lload dX12_test_164 rfl ?_
              refine r_lcmp_ge 174 dX12_test_166 dX12_test_167 rfl (fun l1 => ?_) (fun l1 => ?_)
              ·
                refine r_iconst (0) dX12_test_174 rfl ?_
                refine r_goto 211 dX12_test_175 rfl ?_
                refine r_ireturn dX12_test_211 rfl rfl ?_
                have k9 := k1 (r2.1, r.2.1 ++ r2.2.1 ++ [tkP b n r.1], fun N => jnF (tkP b n r.1) (r.2.2 N) (r2.2.2 N)) ((if_neg t24).trans ((if_neg (fun z => t65 ((ch_tk (by unfold isCh; decide)).mpr z))).trans ((rB_r hr).trans ((if_pos (Or.inl tkr)).trans (rB_r hr2))))) _ y19 ⟨_, h19, e19⟩
                dsimp only at k9
                rw [tkr, show bo (jnF 60 (r.2.2 (cut N)) (r2.2.2 (cut N))) = 0 from by rw [show jnF 60 (r.2.2 (cut N)) (r2.2.2 (cut N)) = 0 from if_neg (fun q => i64_nlt.mpr l1 q)]; rfl] at k9; exact k9
              ·
                refine r_iconst (1) dX12_test_170 rfl ?_
                refine r_goto 211 dX12_test_171 rfl ?_
                refine r_ireturn dX12_test_211 rfl rfl ?_
                have k9 := k1 (r2.1, r.2.1 ++ r2.2.1 ++ [tkP b n r.1], fun N => jnF (tkP b n r.1) (r.2.2 N) (r2.2.2 N)) ((if_neg t24).trans ((if_neg (fun z => t65 ((ch_tk (by unfold isCh; decide)).mpr z))).trans ((rB_r hr).trans ((if_pos (Or.inl tkr)).trans (rB_r hr2))))) _ y19 ⟨_, h19, e19⟩
                dsimp only at k9
                rw [tkr, show bo (jnF 60 (r.2.2 (cut N)) (r2.2.2 (cut N))) = 1 from by rw [show jnF 60 (r.2.2 (cut N)) (r2.2.2 (cut N)) = 1 from if_pos (i64_nle.mp l1)]; rfl] at k9; exact k9
        ·
          refine r_iload_n dX12_test_120 rfl ?_
          refine r_bipush (62) dX12_test_121 rfl ?_
          refine r_icmp_eq 141 dX12_test_123 rfl (fun c62 => ?_) (fun c62 => ?_)
          ·
            have nxr := nx_ch (c := 62) (by unfold isCh; decide) c62
            have tkr := (ch_tk (c := 62) (by unfold isCh; decide)).mp c62
            refine r_aload_n dX12_test_141 rfl ?_
            refine r_dup dX12_test_142 rfl ?_
            refine r_getIc (nI r.1) dX12_test_143 fgX12_117 rfl (by exact k_167 h16.1.1) (by exact h16.2.1) ?_
            refine r_iconst (1) dX12_test_146 rfl ?_
            refine r_iadd dX12_test_147 ?_
            rw [nI_1]
            obtain ⟨h20, q20⟩ := h16.at1 nxr.1
            have y20 := y16.tr q20
            refine r_putI dX12_test_148 (fpX12_117 _ rfl) rfl (by exact k_167 h20.1.1) ⟨rfl, rfl⟩ ?_
            refine r_aload_n dX12_test_151 rfl ?_
            refine r_callV0 (ci := 12) (d1 := d1) (c1 := 0) (n1 := 0) dX12_test_152 mvX12_181 rfl ⟨(Nat.le_of_ble_eq_true rfl), rfl⟩ (by omega) (by exact Nat.le_of_ble_eq_true rfl) (by exact k_167 h20.1.1) ?_
            refine hS _ (adP b n r.1) N _ ⟨_, h20, (congrArg (rE b n isBl) nxr.2.symm)⟩ (y20.n hN) (fun er2 her2 m21 v21 q21 h21 => ?_) (fun r2 hr2 m22 q22 h22 => ?_)
            ·
              have y21 := y20.tr q21
              show Wp g mX12_test _ _ _ 155 _ (_ :: _) _ Q
              refine sl_4 dX12_test_155 (by first | rfl | assumption) (Nat.le_of_ble_eq_true rfl) ?_
              refine r_iload_n dX12_test_157 rfl ?_
              refine r_bipush (60) dX12_test_158 rfl ?_
              refine r_icmp_ne 178 dX12_test_160 rfl (fun d60 => ?_) (fun d60 => ?_)
              ·
                refine r_iload_n dX12_test_178 rfl ?_
                refine r_bipush (62) dX12_test_179 rfl ?_
                refine r_icmp_ne 199 dX12_test_181 rfl (fun d62 => ?_) (fun d62 => ?_)
                ·
                  exact absurd c62 d62
                ·
                  refine r_lload_n dX12_test_184 rfl ?_
                  refine r_lload dX12_test_185 rfl ?_
                  refine r_lcmp_le 195 dX12_test_187 dX12_test_188 rfl (fun l2 => ?_) (fun l2 => ?_)
                  ·
                    refine r_iconst (0) dX12_test_195 rfl ?_
                    refine r_goto 211 dX12_test_196 rfl ?_
                    refine r_ireturn dX12_test_211 rfl rfl ?_
                    first
                      | exact k0 er ((if_neg t24).trans ((if_neg (fun z => t65 ((ch_tk (by unfold isCh; decide)).mpr z))).trans (rB_l her))) _ _ (by first | exact Or.inl rfl | exact Or.inr rfl) y21 h21
                      | exact k0 (1, r.1) ((if_neg t24).trans ((if_neg (fun z => t65 ((ch_tk (by unfold isCh; decide)).mpr z))).trans ((rB_r hr).trans (if_neg (fun q => q.elim (fun z => c60 ((ch_tk (by unfold isCh; decide)).mpr z)) (fun q => q.elim (fun z => c62 ((ch_tk (by unfold isCh; decide)).mpr z)) (fun z => c61 ((ch_tk (by unfold isCh; decide)).mpr z)))))))) _ _ (by first | exact Or.inl rfl | exact Or.inr rfl) y21 h21
                      | exact k0 er2 ((if_neg t24).trans ((if_neg (fun z => t65 ((ch_tk (by unfold isCh; decide)).mpr z))).trans ((rB_r hr).trans ((if_pos (Or.inr (Or.inl tkr))).trans (rB_l her2))))) _ _ (by first | exact Or.inl rfl | exact Or.inr rfl) y21 h21.up
                  ·
                    refine r_iconst (1) dX12_test_191 rfl ?_
                    refine r_goto 211 dX12_test_192 rfl ?_
                    refine r_ireturn dX12_test_211 rfl rfl ?_
                    first
                      | exact k0 er ((if_neg t24).trans ((if_neg (fun z => t65 ((ch_tk (by unfold isCh; decide)).mpr z))).trans (rB_l her))) _ _ (by first | exact Or.inl rfl | exact Or.inr rfl) y21 h21
                      | exact k0 (1, r.1) ((if_neg t24).trans ((if_neg (fun z => t65 ((ch_tk (by unfold isCh; decide)).mpr z))).trans ((rB_r hr).trans (if_neg (fun q => q.elim (fun z => c60 ((ch_tk (by unfold isCh; decide)).mpr z)) (fun q => q.elim (fun z => c62 ((ch_tk (by unfold isCh; decide)).mpr z)) (fun z => c61 ((ch_tk (by unfold isCh; decide)).mpr z)))))))) _ _ (by first | exact Or.inl rfl | exact Or.inr rfl) y21 h21
                      | exact k0 er2 ((if_neg t24).trans ((if_neg (fun z => t65 ((ch_tk (by unfold isCh; decide)).mpr z))).trans ((rB_r hr).trans ((if_pos (Or.inr (Or.inl tkr))).trans (rB_l her2))))) _ _ (by first | exact Or.inl rfl | exact Or.inr rfl) y21 h21.up
              ·
                exact absurd d60 c60
            ·
              obtain ⟨a22, h22, e22⟩ := h22
              have y22 := y20.tr q22
              show Wp g mX12_test _ _ _ 155 _ (_ :: _) _ Q
              refine sl_4 dX12_test_155 (by first | rfl | assumption) (Nat.le_of_ble_eq_true rfl) ?_
              refine r_iload_n dX12_test_157 rfl ?_
              refine r_bipush (60) dX12_test_158 rfl ?_
              refine r_icmp_ne 178 dX12_test_160 rfl (fun d60 => ?_) (fun d60 => ?_)
              ·
                refine r_iload_n dX12_test_178 rfl ?_
                refine r_bipush (62) dX12_test_179 rfl ?_
                refine r_icmp_ne 199 dX12_test_181 rfl (fun d62 => ?_) (fun d62 => ?_)
                ·
                  exact absurd c62 d62
                ·
                  refine r_lload_n dX12_test_184 rfl ?_
                  refine r_lload dX12_test_185 rfl ?_
                  refine r_lcmp_le 195 dX12_test_187 dX12_test_188 rfl (fun l2 => ?_) (fun l2 => ?_)
                  ·
                    refine r_iconst (0) dX12_test_195 rfl ?_
                    refine r_goto 211 dX12_test_196 rfl ?_
                    refine r_ireturn dX12_test_211 rfl rfl ?_
                    have k9 := k1 (r2.1, r.2.1 ++ r2.2.1 ++ [tkP b n r.1], fun N => jnF (tkP b n r.1) (r.2.2 N) (r2.2.2 N)) ((if_neg t24).trans ((if_neg (fun z => t65 ((ch_tk (by unfold isCh; decide)).mpr z))).trans ((rB_r hr).trans ((if_pos (Or.inr (Or.inl tkr))).trans (rB_r hr2))))) _ y22 ⟨_, h22, e22⟩
                    dsimp only at k9
                    rw [tkr, show bo (jnF 62 (r.2.2 (cut N)) (r2.2.2 (cut N))) = 0 from by rw [show jnF 62 (r.2.2 (cut N)) (r2.2.2 (cut N)) = 0 from if_neg (fun q => i64_nlt.mpr l2 q)]; rfl] at k9; exact k9
                  ·
                    refine r_iconst (1) dX12_test_191 rfl ?_
                    refine r_goto 211 dX12_test_192 rfl ?_
                    refine r_ireturn dX12_test_211 rfl rfl ?_
                    have k9 := k1 (r2.1, r.2.1 ++ r2.2.1 ++ [tkP b n r.1], fun N => jnF (tkP b n r.1) (r.2.2 N) (r2.2.2 N)) ((if_neg t24).trans ((if_neg (fun z => t65 ((ch_tk (by unfold isCh; decide)).mpr z))).trans ((rB_r hr).trans ((if_pos (Or.inr (Or.inl tkr))).trans (rB_r hr2))))) _ y22 ⟨_, h22, e22⟩
                    dsimp only at k9
                    rw [tkr, show bo (jnF 62 (r.2.2 (cut N)) (r2.2.2 (cut N))) = 1 from by rw [show jnF 62 (r.2.2 (cut N)) (r2.2.2 (cut N)) = 1 from if_pos (i64_nle.mp l2)]; rfl] at k9; exact k9
              ·
                exact absurd d60 c60
          ·
            refine r_iload_n dX12_test_126 rfl ?_
            refine r_bipush (61) dX12_test_127 rfl ?_
            refine r_icmp_eq 141 dX12_test_129 rfl (fun c61 => ?_) (fun c61 => ?_)
            ·
              have nxr := nx_ch (c := 61) (by unfold isCh; decide) c61
              have tkr := (ch_tk (c := 61) (by unfold isCh; decide)).mp c61
              refine r_aload_n dX12_test_141 rfl ?_
              refine r_dup dX12_test_142 rfl ?_
              refine r_getIc (nI r.1) dX12_test_143 fgX12_117 rfl (by exact k_167 h16.1.1) (by exact h16.2.1) ?_
              refine r_iconst (1) dX12_test_146 rfl ?_
              refine r_iadd dX12_test_147 ?_
              rw [nI_1]
              obtain ⟨h23, q23⟩ := h16.at1 nxr.1
              have y23 := y16.tr q23
              refine r_putI dX12_test_148 (fpX12_117 _ rfl) rfl (by exact k_167 h23.1.1) ⟨rfl, rfl⟩ ?_
              refine r_aload_n dX12_test_151 rfl ?_
              refine r_callV0 (ci := 12) (d1 := d1) (c1 := 0) (n1 := 0) dX12_test_152 mvX12_181 rfl ⟨(Nat.le_of_ble_eq_true rfl), rfl⟩ (by omega) (by exact Nat.le_of_ble_eq_true rfl) (by exact k_167 h23.1.1) ?_
              refine hS _ (adP b n r.1) N _ ⟨_, h23, (congrArg (rE b n isBl) nxr.2.symm)⟩ (y23.n hN) (fun er2 her2 m24 v24 q24 h24 => ?_) (fun r2 hr2 m25 q25 h25 => ?_)
              ·
                have y24 := y23.tr q24
                show Wp g mX12_test _ _ _ 155 _ (_ :: _) _ Q
                refine sl_4 dX12_test_155 (by first | rfl | assumption) (Nat.le_of_ble_eq_true rfl) ?_
                refine r_iload_n dX12_test_157 rfl ?_
                refine r_bipush (60) dX12_test_158 rfl ?_
                refine r_icmp_ne 178 dX12_test_160 rfl (fun d60 => ?_) (fun d60 => ?_)
                ·
                  refine r_iload_n dX12_test_178 rfl ?_
                  refine r_bipush (62) dX12_test_179 rfl ?_
                  refine r_icmp_ne 199 dX12_test_181 rfl (fun d62 => ?_) (fun d62 => ?_)
                  ·
                    refine r_lload_n dX12_test_199 rfl ?_
                    refine r_lload dX12_test_200 rfl ?_
                    refine r_lcmp_ne 210 dX12_test_202 dX12_test_203 rfl (fun l3 => ?_) (fun l3 => ?_)
                    ·
                      refine r_iconst (0) dX12_test_210 rfl ?_
                      refine r_ireturn dX12_test_211 rfl rfl ?_
                      first
                        | exact k0 er ((if_neg t24).trans ((if_neg (fun z => t65 ((ch_tk (by unfold isCh; decide)).mpr z))).trans (rB_l her))) _ _ (by first | exact Or.inl rfl | exact Or.inr rfl) y24 h24
                        | exact k0 (1, r.1) ((if_neg t24).trans ((if_neg (fun z => t65 ((ch_tk (by unfold isCh; decide)).mpr z))).trans ((rB_r hr).trans (if_neg (fun q => q.elim (fun z => c60 ((ch_tk (by unfold isCh; decide)).mpr z)) (fun q => q.elim (fun z => c62 ((ch_tk (by unfold isCh; decide)).mpr z)) (fun z => c61 ((ch_tk (by unfold isCh; decide)).mpr z)))))))) _ _ (by first | exact Or.inl rfl | exact Or.inr rfl) y24 h24
                        | exact k0 er2 ((if_neg t24).trans ((if_neg (fun z => t65 ((ch_tk (by unfold isCh; decide)).mpr z))).trans ((rB_r hr).trans ((if_pos (Or.inr (Or.inr tkr))).trans (rB_l her2))))) _ _ (by first | exact Or.inl rfl | exact Or.inr rfl) y24 h24.up
                    ·
                      refine r_iconst (1) dX12_test_206 rfl ?_
                      refine r_goto 211 dX12_test_207 rfl ?_
                      refine r_ireturn dX12_test_211 rfl rfl ?_
                      first
                        | exact k0 er ((if_neg t24).trans ((if_neg (fun z => t65 ((ch_tk (by unfold isCh; decide)).mpr z))).trans (rB_l her))) _ _ (by first | exact Or.inl rfl | exact Or.inr rfl) y24 h24
                        | exact k0 (1, r.1) ((if_neg t24).trans ((if_neg (fun z => t65 ((ch_tk (by unfold isCh; decide)).mpr z))).trans ((rB_r hr).trans (if_neg (fun q => q.elim (fun z => c60 ((ch_tk (by unfold isCh; decide)).mpr z)) (fun q => q.elim (fun z => c62 ((ch_tk (by unfold isCh; decide)).mpr z)) (fun z => c61 ((ch_tk (by unfold isCh; decide)).mpr z)))))))) _ _ (by first | exact Or.inl rfl | exact Or.inr rfl) y24 h24
                        | exact k0 er2 ((if_neg t24).trans ((if_neg (fun z => t65 ((ch_tk (by unfold isCh; decide)).mpr z))).trans ((rB_r hr).trans ((if_pos (Or.inr (Or.inr tkr))).trans (rB_l her2))))) _ _ (by first | exact Or.inl rfl | exact Or.inr rfl) y24 h24.up
                  ·
                    exact absurd d62 c62
                ·
                  exact absurd d60 c60
              ·
                obtain ⟨a25, h25, e25⟩ := h25
                have y25 := y23.tr q25
                show Wp g mX12_test _ _ _ 155 _ (_ :: _) _ Q
                refine sl_4 dX12_test_155 (by first | rfl | assumption) (Nat.le_of_ble_eq_true rfl) ?_
                refine r_iload_n dX12_test_157 rfl ?_
                refine r_bipush (60) dX12_test_158 rfl ?_
                refine r_icmp_ne 178 dX12_test_160 rfl (fun d60 => ?_) (fun d60 => ?_)
                ·
                  refine r_iload_n dX12_test_178 rfl ?_
                  refine r_bipush (62) dX12_test_179 rfl ?_
                  refine r_icmp_ne 199 dX12_test_181 rfl (fun d62 => ?_) (fun d62 => ?_)
                  ·
                    refine r_lload_n dX12_test_199 rfl ?_
                    refine r_lload dX12_test_200 rfl ?_
                    refine r_lcmp_ne 210 dX12_test_202 dX12_test_203 rfl (fun l3 => ?_) (fun l3 => ?_)
                    ·
                      refine r_iconst (0) dX12_test_210 rfl ?_
                      refine r_ireturn dX12_test_211 rfl rfl ?_
                      have k9 := k1 (r2.1, r.2.1 ++ r2.2.1 ++ [tkP b n r.1], fun N => jnF (tkP b n r.1) (r.2.2 N) (r2.2.2 N)) ((if_neg t24).trans ((if_neg (fun z => t65 ((ch_tk (by unfold isCh; decide)).mpr z))).trans ((rB_r hr).trans ((if_pos (Or.inr (Or.inr tkr))).trans (rB_r hr2))))) _ y25 ⟨_, h25, e25⟩
                      dsimp only at k9
                      rw [tkr, show bo (jnF 61 (r.2.2 (cut N)) (r2.2.2 (cut N))) = 0 from by rw [show jnF 61 (r.2.2 (cut N)) (r2.2.2 (cut N)) = 0 from if_neg l3]; rfl] at k9; exact k9
                    ·
                      refine r_iconst (1) dX12_test_206 rfl ?_
                      refine r_goto 211 dX12_test_207 rfl ?_
                      refine r_ireturn dX12_test_211 rfl rfl ?_
                      have k9 := k1 (r2.1, r.2.1 ++ r2.2.1 ++ [tkP b n r.1], fun N => jnF (tkP b n r.1) (r.2.2 N) (r2.2.2 N)) ((if_neg t24).trans ((if_neg (fun z => t65 ((ch_tk (by unfold isCh; decide)).mpr z))).trans ((rB_r hr).trans ((if_pos (Or.inr (Or.inr tkr))).trans (rB_r hr2))))) _ y25 ⟨_, h25, e25⟩
                      dsimp only at k9
                      rw [tkr, show bo (jnF 61 (r.2.2 (cut N)) (r2.2.2 (cut N))) = 1 from by rw [show jnF 61 (r.2.2 (cut N)) (r2.2.2 (cut N)) = 1 from if_pos l3]; rfl] at k9; exact k9
                  ·
                    exact absurd d62 c62
                ·
                  exact absurd d60 c60
            ·
              refine r_aload_n dX12_test_132 rfl ?_
              refine r_iconst (1) dX12_test_133 rfl ?_
              refine r_aload_n dX12_test_134 rfl ?_
              refine r_getIc (nI r.1) dX12_test_135 fgX12_117 rfl (by exact k_167 h16.1.1) (by exact h16.2.1) ?_
              refine r_callV2 (ci := 12) (d1 := 0) (c1 := 0) (n1 := 0) dX12_test_138 mvX12_141 rfl ⟨(Nat.le_of_ble_eq_true rfl), rfl⟩ (by omega) (by exact Nat.le_of_ble_eq_true rfl) (by exact k_167 h16.1.1) ?_
              refine S_wrong4 h16 (by decide) (fun m26 q26 e26 h26 => ?_)
              have y26 := y16.tr q26
              obtain ⟨xn26, xK26, -⟩ := h26.2.1
              have xl26 : r.1 ≤ n := h16.2.2.1
              show Wp g mX12_test _ _ _ 141 _ [] _ Q
              refine r_aload_n dX12_test_141 rfl ?_
              refine r_dup dX12_test_142 rfl ?_
              refine r_getIc (nI r.1) dX12_test_143 fgX12_117 rfl (by exact k_167 h26.1.1) (by exact e26) ?_
              refine r_iconst (1) dX12_test_146 rfl ?_
              refine r_iadd dX12_test_147 ?_
              rw [nI_1]
              have h27 : RE b n (n + 1) _ (stI m26 167 4 (nI (r.1 + 1))) := ⟨h26.1.sy (Sy.rf.s (by omega) (by omega) (by omega)), ⟨by omega, by omega, r.1 + 1, by omega, ld_s⟩, ld_n (by decide) h26.2.2.1, h26.2.2.2.1, ld_n (by decide) h26.2.2.2.2⟩
              have y27 := y26.s (k := 4) (v := nI (r.1 + 1)) (by omega) (by omega) (by omega)
              refine r_putI dX12_test_148 (fpX12_117 _ rfl) rfl (by exact k_167 h27.1.1) ⟨rfl, rfl⟩ ?_
              refine r_aload_n dX12_test_151 rfl ?_
              refine r_callV0 (ci := 12) (d1 := d1) (c1 := 0) (n1 := 0) dX12_test_152 mvX12_181 rfl ⟨(Nat.le_of_ble_eq_true rfl), rfl⟩ (by omega) (by exact Nat.le_of_ble_eq_true rfl) (by exact k_167 h27.1.1) ?_
              refine hE _ _ _ _ h27 (fun m28 v28 q28 h28 => ?_)
              have y28 := y27.tr q28
              show Wp g mX12_test _ _ _ 155 _ (_ :: _) _ Q
              refine sl_4 dX12_test_155 (by first | rfl | assumption) (Nat.le_of_ble_eq_true rfl) ?_
              refine r_iload_n dX12_test_157 rfl ?_
              refine r_bipush (60) dX12_test_158 rfl ?_
              refine r_icmp_ne 178 dX12_test_160 rfl (fun d60 => ?_) (fun d60 => ?_)
              ·
                refine r_iload_n dX12_test_178 rfl ?_
                refine r_bipush (62) dX12_test_179 rfl ?_
                refine r_icmp_ne 199 dX12_test_181 rfl (fun d62 => ?_) (fun d62 => ?_)
                ·
                  refine r_lload_n dX12_test_199 rfl ?_
                  refine r_lload dX12_test_200 rfl ?_
                  refine r_lcmp_ne 210 dX12_test_202 dX12_test_203 rfl (fun l3 => ?_) (fun l3 => ?_)
                  ·
                    refine r_iconst (0) dX12_test_210 rfl ?_
                    refine r_ireturn dX12_test_211 rfl rfl ?_
                    first
                      | exact k0 er ((if_neg t24).trans ((if_neg (fun z => t65 ((ch_tk (by unfold isCh; decide)).mpr z))).trans (rB_l her))) _ _ (by first | exact Or.inl rfl | exact Or.inr rfl) y28 h28
                      | exact k0 (1, r.1) ((if_neg t24).trans ((if_neg (fun z => t65 ((ch_tk (by unfold isCh; decide)).mpr z))).trans ((rB_r hr).trans (if_neg (fun q => q.elim (fun z => c60 ((ch_tk (by unfold isCh; decide)).mpr z)) (fun q => q.elim (fun z => c62 ((ch_tk (by unfold isCh; decide)).mpr z)) (fun z => c61 ((ch_tk (by unfold isCh; decide)).mpr z)))))))) _ _ (by first | exact Or.inl rfl | exact Or.inr rfl) y28 h28
                  ·
                    refine r_iconst (1) dX12_test_206 rfl ?_
                    refine r_goto 211 dX12_test_207 rfl ?_
                    refine r_ireturn dX12_test_211 rfl rfl ?_
                    first
                      | exact k0 er ((if_neg t24).trans ((if_neg (fun z => t65 ((ch_tk (by unfold isCh; decide)).mpr z))).trans (rB_l her))) _ _ (by first | exact Or.inl rfl | exact Or.inr rfl) y28 h28
                      | exact k0 (1, r.1) ((if_neg t24).trans ((if_neg (fun z => t65 ((ch_tk (by unfold isCh; decide)).mpr z))).trans ((rB_r hr).trans (if_neg (fun q => q.elim (fun z => c60 ((ch_tk (by unfold isCh; decide)).mpr z)) (fun q => q.elim (fun z => c62 ((ch_tk (by unfold isCh; decide)).mpr z)) (fun z => c61 ((ch_tk (by unfold isCh; decide)).mpr z)))))))) _ _ (by first | exact Or.inl rfl | exact Or.inr rfl) y28 h28
                ·
                  exact absurd d62 c62
              ·
                exact absurd d60 c60
    ·
      refine r_aload_n dX12_test_68 rfl ?_
      refine r_iconst (1) dX12_test_69 rfl ?_
      refine r_callV1 (ci := 12) (d1 := 1) (c1 := 0) (n1 := 0) dX12_test_70 mvX12_177 rfl ⟨(Nat.le_of_ble_eq_true rfl), rfl⟩ (by omega) (by exact Nat.le_of_ble_eq_true rfl) (by exact k_167 h2.1.1) ?_
      refine S_opensP h2 ho (w := 1) (nx_ch (by unfold isCh; decide) t65).1 (fun o6 => absurd o6 (by omega)) (fun o6 m29 q29 h29 => ?_)
      have y29 := y2.tr q29
      show Wp g mX12_test _ _ _ 73 _ [] _ Q
      refine r_aload_n dX12_test_73 rfl ?_
      refine r_callV0 (ci := 12) (d1 := d3) (c1 := 0) (n1 := 0) dX12_test_74 mvX12_201 rfl ⟨(Nat.le_of_ble_eq_true rfl), rfl⟩ (by omega) (by exact Nat.le_of_ble_eq_true rfl) (by exact k_167 h29.1.1) ?_
      refine hOE _ _ _ _ h29 (fun v30 hv30 => ?_)
      show Wp g mX12_test _ _ _ 77 _ (_ :: _) _ Q
      refine si_1 dX12_test_77 (by first | rfl | assumption) (Nat.le_of_ble_eq_true rfl) ?_
      refine r_aload_n dX12_test_78 rfl ?_
      refine r_bipush (93) dX12_test_79 rfl ?_
      refine r_callV1 (ci := 12) (d1 := 2) (c1 := 0) (n1 := 0) dX12_test_81 mvX12_184 rfl ⟨(Nat.le_of_ble_eq_true rfl), rfl⟩ (by omega) (by exact Nat.le_of_ble_eq_true rfl) (by exact k_167 h29.1.1) ?_
      refine S_signE h29 (by decide) (fun m31 q31 h31 => ?_)
      have y31 := y29.tr q31
      show Wp g mX12_test _ _ _ 84 _ [] _ Q
      refine r_aload_n dX12_test_84 rfl ?_
      refine r_dup dX12_test_85 rfl ?_
      refine r_getI dX12_test_86 fgX12_156 rfl (by exact k_167 h31.1.1) ?_
      refine r_iconst (1) dX12_test_89 rfl ?_
      refine r_isub dX12_test_90 ?_
      refine r_putI dX12_test_91 (fpX12_156 _ rfl) rfl (by exact k_167 h31.1.1) ⟨rfl, rfl⟩ ?_
      have yz := y31.s (k := 5) (v := (ldI m31 167 5 - 1)) (by omega) (by omega) (by omega)
      have hz : RE b n _ _ (stI m31 167 5 (ldI m31 167 5 - 1)) := ⟨h31.1.sy (Sy.rf.s (by omega) (by omega) (by omega)), ⟨h31.2.1.1, h31.2.1.2.1, h31.2.1.2.2.choose, h31.2.1.2.2.choose_spec.1, ld_n (by decide) h31.2.1.2.2.choose_spec.2⟩, ld_n (by decide) h31.2.2.1, h31.2.2.2.1, ld_n (by decide) h31.2.2.2.2⟩
      refine r_iload_n dX12_test_94 rfl ?_
      refine r_ireturn dX12_test_95 rfl (by first | exact nb (bo01 _) | exact nb hv30) ?_
      exact k0 (3, s) ((if_neg t24).trans (if_pos ((ch_tk (by unfold isCh; decide)).mp t65))) _ _ hv30 yz hz.up
theorem S_rtestS {g : GG} {b : Nat → Int32} {n o u d d1 d2 d3 : Nat} (ho5 : o < 6) (h1d : d1 + 1 ≤ d) (h2d : d2 + 1 ≤ d) (h3d : d3 + 1 ≤ d) (hd : 6 ≤ d1) (hS : NtR g b n mX12_sum o d1 (sumP b n (u + 1))) (hT : NtT g b n mX12_test (o + 1) d2 (tesP b n u)) (hO : NtT g b n mX12_ors (o + 1) d3 (orsP b n u)) (hOE : NtTE g b n mX12_ors d3) : NtT g b n mX12_test o d (tesP b n (u + 1)) := by
  intro m s N Q h hN k0 k1
  have ho : o ≤ 6 := by omega
  obtain ⟨a, h, hs⟩ := h
  refine Cl.of rfl (by decide) (Nat.le_of_ble_eq_true rfl) ?_
  show Wp g mX12_test d 0 0 0 [.ref 167, .retAddr 0, .retAddr 0, .retAddr 0, .retAddr 0, .retAddr 0] [] m Q
  have hn4 := h.1.2.1
  have hb := h.1.2.2.1
  have hss : rE b n isBl s = s := by rw [← hs]; exact rE_id
  have hsn : s ≤ n := by rw [← hs]; exact rE_n h.2.2.1
  have hE : NtE g b n mX12_sum d1 := E_sum (by omega)
  refine r_aload_n dX12_test_0 rfl ?_
  refine r_getIc (0) dX12_test_1 fgX12_124 rfl (by exact k_167 h.1.1) (by exact h.2.2.2.2.1) ?_
  refine r_if_eq 9 dX12_test_4 rfl (fun _ => ?_) (fun hz => absurd hz (by decide))
  refine r_aload_n dX12_test_9 rfl ?_
  refine r_bipush (14) dX12_test_10 rfl ?_
  refine r_bipush (15) dX12_test_12 rfl ?_
  refine r_bipush (20) dX12_test_14 rfl ?_
  refine r_iconst (0) dX12_test_16 rfl ?_
  refine r_iconst (0) dX12_test_17 rfl ?_
  refine r_iconst (0) dX12_test_18 rfl ?_
  refine r_callV6 (ci := 12) (d1 := 3) (c1 := 0) (n1 := 0) dX12_test_19 mvX12_159 rfl ⟨(Nat.le_of_ble_eq_true rfl), rfl⟩ (by omega) (by exact Nat.le_of_ble_eq_true rfl) (by exact k_167 h.1.1) ?_
  refine S_isW24 h hs (fun t24 m1 q1 h1 => ?_) (fun t24 m2 q2 h2 => ?_)
  ·
    have y1 := q1
    have w24 := nx_w (i := 24) (by omega) hb t24
    have w9 := ad_of t24 (by decide)
    show Wp g mX12_test _ _ _ 22 _ (_ :: _) _ Q
    refine r_if_eq 55 dX12_test_22 rfl (fun hz => absurd hz (by decide)) (fun _ => ?_)
    refine r_aload_n dX12_test_25 rfl ?_
    refine r_iconst (3) dX12_test_26 rfl ?_
    refine r_callV1 (ci := 12) (d1 := 1) (c1 := 0) (n1 := 0) dX12_test_27 mvX12_177 rfl ⟨(Nat.le_of_ble_eq_true rfl), rfl⟩ (by omega) (by exact Nat.le_of_ble_eq_true rfl) (by exact k_167 h1.1.1) ?_
    refine S_opensP h1 ho (w := 3) (by have z := w24.2; have := rE_n (b := b) (P := isLt) hsn; rw [show (wds.getD 24 []).length = 3 from by decide] at z; omega) (fun o6 m3 q3 h3 => ?_) (fun o6 => absurd o6 (by omega))
    have y3 := y1.tr q3
    show Wp g mX12_test _ _ _ 30 _ [] _ Q
    refine r_aload_n dX12_test_30 rfl ?_
    refine r_callV0 (ci := 12) (d1 := d2) (c1 := 0) (n1 := 0) dX12_test_31 mvX12_197 rfl ⟨(Nat.le_of_ble_eq_true rfl), rfl⟩ (by omega) (by exact Nat.le_of_ble_eq_true rfl) (by exact k_167 h3.1.1) ?_
    refine hT _ (adP b n s) N _ ⟨_, h3, (by have z := w24.2; rw [show (wds.getD 24 []).length = 3 from by decide] at z; rw [z]; exact congrArg (rE b n isBl) w24.1.symm)⟩ (y3.n hN) (fun er her m4 v4 hv4 q4 h4 => ?_) (fun r hr m5 q5 h5 => ?_)
    ·
      have y4 := y3.tr q4
      show Wp g mX12_test _ _ _ 34 _ (_ :: _) _ Q
      refine r_if_ne 41 dX12_test_34 rfl (fun tv => ?_) (fun tv => ?_)
      ·
        refine r_iconst (0) dX12_test_41 rfl ?_
        refine si_1 dX12_test_42 (by first | rfl | assumption) (Nat.le_of_ble_eq_true rfl) ?_
        refine r_aload_n dX12_test_43 rfl ?_
        refine r_dup dX12_test_44 rfl ?_
        refine r_getI dX12_test_45 fgX12_156 rfl (by exact k_167 h4.1.1) ?_
        refine r_iconst (1) dX12_test_48 rfl ?_
        refine r_isub dX12_test_49 ?_
        refine r_putI dX12_test_50 (fpX12_156 _ rfl) rfl (by exact k_167 h4.1.1) ⟨rfl, rfl⟩ ?_
        have yz := y4.s (k := 5) (v := (ldI m4 167 5 - 1)) (by omega) (by omega) (by omega)
        have hz : RE b n _ _ (stI m4 167 5 (ldI m4 167 5 - 1)) := ⟨h4.1.sy (Sy.rf.s (by omega) (by omega) (by omega)), ⟨h4.2.1.1, h4.2.1.2.1, h4.2.1.2.2.choose, h4.2.1.2.2.choose_spec.1, ld_n (by decide) h4.2.1.2.2.choose_spec.2⟩, ld_n (by decide) h4.2.2.1, h4.2.2.2.1, ld_n (by decide) h4.2.2.2.2⟩
        refine r_iload_n dX12_test_53 rfl ?_
        refine r_ireturn dX12_test_54 rfl rfl ?_
        exact k0 er ((if_pos t24).trans (rB_l her)) _ _ (by first | exact Or.inl rfl | exact Or.inr rfl) yz hz
      ·
        refine r_iconst (1) dX12_test_37 rfl ?_
        refine r_goto 42 dX12_test_38 rfl ?_
        refine si_1 dX12_test_42 (by first | rfl | assumption) (Nat.le_of_ble_eq_true rfl) ?_
        refine r_aload_n dX12_test_43 rfl ?_
        refine r_dup dX12_test_44 rfl ?_
        refine r_getI dX12_test_45 fgX12_156 rfl (by exact k_167 h4.1.1) ?_
        refine r_iconst (1) dX12_test_48 rfl ?_
        refine r_isub dX12_test_49 ?_
        refine r_putI dX12_test_50 (fpX12_156 _ rfl) rfl (by exact k_167 h4.1.1) ⟨rfl, rfl⟩ ?_
        have yz := y4.s (k := 5) (v := (ldI m4 167 5 - 1)) (by omega) (by omega) (by omega)
        have hz : RE b n _ _ (stI m4 167 5 (ldI m4 167 5 - 1)) := ⟨h4.1.sy (Sy.rf.s (by omega) (by omega) (by omega)), ⟨h4.2.1.1, h4.2.1.2.1, h4.2.1.2.2.choose, h4.2.1.2.2.choose_spec.1, ld_n (by decide) h4.2.1.2.2.choose_spec.2⟩, ld_n (by decide) h4.2.2.1, h4.2.2.2.1, ld_n (by decide) h4.2.2.2.2⟩
        refine r_iload_n dX12_test_53 rfl ?_
        refine r_ireturn dX12_test_54 rfl rfl ?_
        exact k0 er ((if_pos t24).trans (rB_l her)) _ _ (by first | exact Or.inl rfl | exact Or.inr rfl) yz hz
    ·
      obtain ⟨a5, h5, e5⟩ := h5
      have y5 := y3.tr q5
      show Wp g mX12_test _ _ _ 34 _ (_ :: _) _ Q
      refine r_if_ne 41 dX12_test_34 rfl (fun tv => ?_) (fun tv => ?_)
      ·
        refine r_iconst (0) dX12_test_41 rfl ?_
        refine si_1 dX12_test_42 (by first | rfl | assumption) (Nat.le_of_ble_eq_true rfl) ?_
        refine r_aload_n dX12_test_43 rfl ?_
        refine r_dup dX12_test_44 rfl ?_
        refine r_getIc (nI (o + 1)) dX12_test_45 fgX12_156 rfl (by exact k_167 h5.1.1) (by exact h5.2.2.2.1) ?_
        refine r_iconst (1) dX12_test_48 rfl ?_
        refine r_isub dX12_test_49 ?_
        refine r_putI dX12_test_50 (fpX12_156 _ rfl) rfl (by exact k_167 h5.1.1) ⟨rfl, rfl⟩ ?_
        rw [nI_p1]
        have yz := y5.s (k := 5) (v := (nI o)) (by omega) (by omega) (by omega)
        have hz : RPa b n _ o (stI m5 167 5 (nI o)) := ⟨h5.1.sy (Sy.rf.s (by omega) (by omega) (by omega)), ld_n (by decide) h5.2.1, h5.2.2.1, ld_s, ld_n (by decide) h5.2.2.2.2.1, ld_n (by decide) h5.2.2.2.2.2⟩
        refine r_iload_n dX12_test_53 rfl ?_
        refine r_ireturn dX12_test_54 rfl rfl ?_
        have k9 := k1 (r.1, r.2.1 ++ [280], fun N => if r.2.2 N = 0 then 1 else 0) ((if_pos t24).trans (rB_r hr)) _ yz ⟨_, hz, e5⟩
        dsimp only at k9
        have q9 : ¬ r.2.2 (cut N) = 0 := fun q => tv (if_pos q)
        rw [if_neg q9] at k9; exact k9
      ·
        refine r_iconst (1) dX12_test_37 rfl ?_
        refine r_goto 42 dX12_test_38 rfl ?_
        refine si_1 dX12_test_42 (by first | rfl | assumption) (Nat.le_of_ble_eq_true rfl) ?_
        refine r_aload_n dX12_test_43 rfl ?_
        refine r_dup dX12_test_44 rfl ?_
        refine r_getIc (nI (o + 1)) dX12_test_45 fgX12_156 rfl (by exact k_167 h5.1.1) (by exact h5.2.2.2.1) ?_
        refine r_iconst (1) dX12_test_48 rfl ?_
        refine r_isub dX12_test_49 ?_
        refine r_putI dX12_test_50 (fpX12_156 _ rfl) rfl (by exact k_167 h5.1.1) ⟨rfl, rfl⟩ ?_
        rw [nI_p1]
        have yz := y5.s (k := 5) (v := (nI o)) (by omega) (by omega) (by omega)
        have hz : RPa b n _ o (stI m5 167 5 (nI o)) := ⟨h5.1.sy (Sy.rf.s (by omega) (by omega) (by omega)), ld_n (by decide) h5.2.1, h5.2.2.1, ld_s, ld_n (by decide) h5.2.2.2.2.1, ld_n (by decide) h5.2.2.2.2.2⟩
        refine r_iload_n dX12_test_53 rfl ?_
        refine r_ireturn dX12_test_54 rfl rfl ?_
        have k9 := k1 (r.1, r.2.1 ++ [280], fun N => if r.2.2 N = 0 then 1 else 0) ((if_pos t24).trans (rB_r hr)) _ yz ⟨_, hz, e5⟩
        dsimp only at k9
        have q9 : r.2.2 (cut N) = 0 := Classical.byContradiction (fun q => absurd ((if_neg q).symm.trans tv) (by decide))
        rw [if_pos q9] at k9; exact k9
  ·
    have y2 := q2
    show Wp g mX12_test _ _ _ 22 _ (_ :: _) _ Q
    refine r_if_eq 55 dX12_test_22 rfl (fun _ => ?_) (fun hz => absurd hz (by decide))
    refine r_aload_n dX12_test_55 rfl ?_
    refine r_aload_n dX12_test_56 rfl ?_
    refine r_getIc (nI s) dX12_test_57 fgX12_117 rfl (by exact k_167 h2.1.1) (by exact h2.2.1) ?_
    refine r_callV1 (ci := 12) (d1 := 0) (c1 := 0) (n1 := 0) dX12_test_60 mvX12_120 rfl ⟨(Nat.le_of_ble_eq_true rfl), rfl⟩ (by omega) (by exact Nat.le_of_ble_eq_true rfl) (by exact k_167 h2.1.1) ?_
    refine S_byteAt h2.1 (k := s) (by have := h2.2.2.1; omega) ?_
    show Wp g mX12_test _ _ _ 63 _ (_ :: _) _ Q
    refine r_bipush (91) dX12_test_63 rfl ?_
    refine r_icmp_ne 96 dX12_test_65 rfl (fun t65 => ?_) (fun t65 => ?_)
    ·
      refine r_aload_n dX12_test_96 rfl ?_
      refine r_callV0 (ci := 12) (d1 := d1) (c1 := 0) (n1 := 0) dX12_test_97 mvX12_181 rfl ⟨(Nat.le_of_ble_eq_true rfl), rfl⟩ (by omega) (by exact Nat.le_of_ble_eq_true rfl) (by exact k_167 h2.1.1) ?_
      refine hS _ s N _ ⟨_, h2, hss⟩ (y2.n hN) (fun er her m6 v6 q6 h6 => ?_) (fun r hr m7 q7 h7 => ?_)
      ·
        have y6 := y2.tr q6
        show Wp g mX12_test _ _ _ 100 _ (_ :: _) _ Q
        refine sl_1 dX12_test_100 (by first | rfl | assumption) (Nat.le_of_ble_eq_true rfl) ?_
        refine r_aload_n dX12_test_101 rfl ?_
        refine r_callV0 (ci := 12) (d1 := 1) (c1 := 0) (n1 := 0) dX12_test_102 mvX12_145 rfl ⟨(Nat.le_of_ble_eq_true rfl), rfl⟩ (by omega) (by exact Nat.le_of_ble_eq_true rfl) (by exact k_167 h6.1.1) ?_
        refine S_blanksE h6 (fun m8 q8 h8 => ?_)
        have y8 := y6.tr q8
        obtain ⟨xn8, xK8, x8, xl8, e8⟩ := h8.2.1
        show Wp g mX12_test _ _ _ 105 _ [] _ Q
        refine r_aload_n dX12_test_105 rfl ?_
        refine r_aload_n dX12_test_106 rfl ?_
        refine r_getIc (nI x8) dX12_test_107 fgX12_117 rfl (by exact k_167 h8.1.1) (by exact e8) ?_
        refine r_callV1 (ci := 12) (d1 := 0) (c1 := 0) (n1 := 0) dX12_test_110 mvX12_120 rfl ⟨(Nat.le_of_ble_eq_true rfl), rfl⟩ (by omega) (by exact Nat.le_of_ble_eq_true rfl) (by exact k_167 h8.1.1) ?_
        refine S_byteAt h8.1 (k := x8) (by omega) ?_
        show Wp g mX12_test _ _ _ 113 _ (_ :: _) _ Q
        refine si_3 dX12_test_113 (by first | rfl | assumption) (Nat.le_of_ble_eq_true rfl) ?_
        refine r_iload_n dX12_test_114 rfl ?_
        refine r_bipush (60) dX12_test_115 rfl ?_
        refine r_icmp_eq 141 dX12_test_117 rfl (fun c60 => ?_) (fun c60 => ?_)
        ·
          refine r_aload_n dX12_test_141 rfl ?_
          refine r_dup dX12_test_142 rfl ?_
          refine r_getIc (nI x8) dX12_test_143 fgX12_117 rfl (by exact k_167 h8.1.1) (by exact e8) ?_
          refine r_iconst (1) dX12_test_146 rfl ?_
          refine r_iadd dX12_test_147 ?_
          rw [nI_1]
          have h9 : RE b n (n + 1) _ (stI m8 167 4 (nI (x8 + 1))) := ⟨h8.1.sy (Sy.rf.s (by omega) (by omega) (by omega)), ⟨by omega, by omega, x8 + 1, by omega, ld_s⟩, ld_n (by decide) h8.2.2.1, h8.2.2.2.1, ld_n (by decide) h8.2.2.2.2⟩
          have y9 := y8.s (k := 4) (v := nI (x8 + 1)) (by omega) (by omega) (by omega)
          refine r_putI dX12_test_148 (fpX12_117 _ rfl) rfl (by exact k_167 h9.1.1) ⟨rfl, rfl⟩ ?_
          refine r_aload_n dX12_test_151 rfl ?_
          refine r_callV0 (ci := 12) (d1 := d1) (c1 := 0) (n1 := 0) dX12_test_152 mvX12_181 rfl ⟨(Nat.le_of_ble_eq_true rfl), rfl⟩ (by omega) (by exact Nat.le_of_ble_eq_true rfl) (by exact k_167 h9.1.1) ?_
          refine hE _ _ _ _ h9 (fun m10 v10 q10 h10 => ?_)
          have y10 := y9.tr q10
          show Wp g mX12_test _ _ _ 155 _ (_ :: _) _ Q
          refine sl_4 dX12_test_155 (by first | rfl | assumption) (Nat.le_of_ble_eq_true rfl) ?_
          refine r_iload_n dX12_test_157 rfl ?_
          refine r_bipush (60) dX12_test_158 rfl ?_
          refine r_icmp_ne 178 dX12_test_160 rfl (fun d60 => ?_) (fun d60 => ?_)
          ·
            exact absurd c60 d60
          ·
            refine r_lload_n dX12_test_163 rfl ?_
            refine r_lload dX12_test_164 rfl ?_
            refine r_lcmp_ge 174 dX12_test_166 dX12_test_167 rfl (fun l1 => ?_) (fun l1 => ?_)
            ·
              refine r_iconst (0) dX12_test_174 rfl ?_
              refine r_goto 211 dX12_test_175 rfl ?_
              refine r_ireturn dX12_test_211 rfl rfl ?_
              first
                | exact k0 er ((if_neg t24).trans ((if_neg (fun z => t65 ((ch_tk (by unfold isCh; decide)).mpr z))).trans (rB_l her))) _ _ (by first | exact Or.inl rfl | exact Or.inr rfl) y10 h10
                | exact k0 (1, r.1) ((if_neg t24).trans ((if_neg (fun z => t65 ((ch_tk (by unfold isCh; decide)).mpr z))).trans ((rB_r hr).trans (if_neg (fun q => q.elim (fun z => c60 ((ch_tk (by unfold isCh; decide)).mpr z)) (fun q => q.elim (fun z => c62 ((ch_tk (by unfold isCh; decide)).mpr z)) (fun z => c61 ((ch_tk (by unfold isCh; decide)).mpr z)))))))) _ _ (by first | exact Or.inl rfl | exact Or.inr rfl) y10 h10
                | exact k0 er2 ((if_neg t24).trans ((if_neg (fun z => t65 ((ch_tk (by unfold isCh; decide)).mpr z))).trans ((rB_r hr).trans ((if_pos (Or.inl tkr)).trans (rB_l her2))))) _ _ (by first | exact Or.inl rfl | exact Or.inr rfl) y10 h10.up
            ·
              refine r_iconst (1) dX12_test_170 rfl ?_
              refine r_goto 211 dX12_test_171 rfl ?_
              refine r_ireturn dX12_test_211 rfl rfl ?_
              first
                | exact k0 er ((if_neg t24).trans ((if_neg (fun z => t65 ((ch_tk (by unfold isCh; decide)).mpr z))).trans (rB_l her))) _ _ (by first | exact Or.inl rfl | exact Or.inr rfl) y10 h10
                | exact k0 (1, r.1) ((if_neg t24).trans ((if_neg (fun z => t65 ((ch_tk (by unfold isCh; decide)).mpr z))).trans ((rB_r hr).trans (if_neg (fun q => q.elim (fun z => c60 ((ch_tk (by unfold isCh; decide)).mpr z)) (fun q => q.elim (fun z => c62 ((ch_tk (by unfold isCh; decide)).mpr z)) (fun z => c61 ((ch_tk (by unfold isCh; decide)).mpr z)))))))) _ _ (by first | exact Or.inl rfl | exact Or.inr rfl) y10 h10
                | exact k0 er2 ((if_neg t24).trans ((if_neg (fun z => t65 ((ch_tk (by unfold isCh; decide)).mpr z))).trans ((rB_r hr).trans ((if_pos (Or.inl tkr)).trans (rB_l her2))))) _ _ (by first | exact Or.inl rfl | exact Or.inr rfl) y10 h10.up
        ·
          refine r_iload_n dX12_test_120 rfl ?_
          refine r_bipush (62) dX12_test_121 rfl ?_
          refine r_icmp_eq 141 dX12_test_123 rfl (fun c62 => ?_) (fun c62 => ?_)
          ·
            refine r_aload_n dX12_test_141 rfl ?_
            refine r_dup dX12_test_142 rfl ?_
            refine r_getIc (nI x8) dX12_test_143 fgX12_117 rfl (by exact k_167 h8.1.1) (by exact e8) ?_
            refine r_iconst (1) dX12_test_146 rfl ?_
            refine r_iadd dX12_test_147 ?_
            rw [nI_1]
            have h11 : RE b n (n + 1) _ (stI m8 167 4 (nI (x8 + 1))) := ⟨h8.1.sy (Sy.rf.s (by omega) (by omega) (by omega)), ⟨by omega, by omega, x8 + 1, by omega, ld_s⟩, ld_n (by decide) h8.2.2.1, h8.2.2.2.1, ld_n (by decide) h8.2.2.2.2⟩
            have y11 := y8.s (k := 4) (v := nI (x8 + 1)) (by omega) (by omega) (by omega)
            refine r_putI dX12_test_148 (fpX12_117 _ rfl) rfl (by exact k_167 h11.1.1) ⟨rfl, rfl⟩ ?_
            refine r_aload_n dX12_test_151 rfl ?_
            refine r_callV0 (ci := 12) (d1 := d1) (c1 := 0) (n1 := 0) dX12_test_152 mvX12_181 rfl ⟨(Nat.le_of_ble_eq_true rfl), rfl⟩ (by omega) (by exact Nat.le_of_ble_eq_true rfl) (by exact k_167 h11.1.1) ?_
            refine hE _ _ _ _ h11 (fun m12 v12 q12 h12 => ?_)
            have y12 := y11.tr q12
            show Wp g mX12_test _ _ _ 155 _ (_ :: _) _ Q
            refine sl_4 dX12_test_155 (by first | rfl | assumption) (Nat.le_of_ble_eq_true rfl) ?_
            refine r_iload_n dX12_test_157 rfl ?_
            refine r_bipush (60) dX12_test_158 rfl ?_
            refine r_icmp_ne 178 dX12_test_160 rfl (fun d60 => ?_) (fun d60 => ?_)
            ·
              refine r_iload_n dX12_test_178 rfl ?_
              refine r_bipush (62) dX12_test_179 rfl ?_
              refine r_icmp_ne 199 dX12_test_181 rfl (fun d62 => ?_) (fun d62 => ?_)
              ·
                exact absurd c62 d62
              ·
                refine r_lload_n dX12_test_184 rfl ?_
                refine r_lload dX12_test_185 rfl ?_
                refine r_lcmp_le 195 dX12_test_187 dX12_test_188 rfl (fun l2 => ?_) (fun l2 => ?_)
                ·
                  refine r_iconst (0) dX12_test_195 rfl ?_
                  refine r_goto 211 dX12_test_196 rfl ?_
                  refine r_ireturn dX12_test_211 rfl rfl ?_
                  first
                    | exact k0 er ((if_neg t24).trans ((if_neg (fun z => t65 ((ch_tk (by unfold isCh; decide)).mpr z))).trans (rB_l her))) _ _ (by first | exact Or.inl rfl | exact Or.inr rfl) y12 h12
                    | exact k0 (1, r.1) ((if_neg t24).trans ((if_neg (fun z => t65 ((ch_tk (by unfold isCh; decide)).mpr z))).trans ((rB_r hr).trans (if_neg (fun q => q.elim (fun z => c60 ((ch_tk (by unfold isCh; decide)).mpr z)) (fun q => q.elim (fun z => c62 ((ch_tk (by unfold isCh; decide)).mpr z)) (fun z => c61 ((ch_tk (by unfold isCh; decide)).mpr z)))))))) _ _ (by first | exact Or.inl rfl | exact Or.inr rfl) y12 h12
                    | exact k0 er2 ((if_neg t24).trans ((if_neg (fun z => t65 ((ch_tk (by unfold isCh; decide)).mpr z))).trans ((rB_r hr).trans ((if_pos (Or.inr (Or.inl tkr))).trans (rB_l her2))))) _ _ (by first | exact Or.inl rfl | exact Or.inr rfl) y12 h12.up
                ·
                  refine r_iconst (1) dX12_test_191 rfl ?_
                  refine r_goto 211 dX12_test_192 rfl ?_
                  refine r_ireturn dX12_test_211 rfl rfl ?_
                  first
                    | exact k0 er ((if_neg t24).trans ((if_neg (fun z => t65 ((ch_tk (by unfold isCh; decide)).mpr z))).trans (rB_l her))) _ _ (by first | exact Or.inl rfl | exact Or.inr rfl) y12 h12
                    | exact k0 (1, r.1) ((if_neg t24).trans ((if_neg (fun z => t65 ((ch_tk (by unfold isCh; decide)).mpr z))).trans ((rB_r hr).trans (if_neg (fun q => q.elim (fun z => c60 ((ch_tk (by unfold isCh; decide)).mpr z)) (fun q => q.elim (fun z => c62 ((ch_tk (by unfold isCh; decide)).mpr z)) (fun z => c61 ((ch_tk (by unfold isCh; decide)).mpr z)))))))) _ _ (by first | exact Or.inl rfl | exact Or.inr rfl) y12 h12
                    | exact k0 er2 ((if_neg t24).trans ((if_neg (fun z => t65 ((ch_tk (by unfold isCh; decide)).mpr z))).trans ((rB_r hr).trans ((if_pos (Or.inr (Or.inl tkr))).trans (rB_l her2))))) _ _ (by first | exact Or.inl rfl | exact Or.inr rfl) y12 h12.up
            ·
              exact absurd d60 c60
          ·
            refine r_iload_n dX12_test_126 rfl ?_
            refine r_bipush (61) dX12_test_127 rfl ?_
            refine r_icmp_eq 141 dX12_test_129 rfl (fun c61 => ?_) (fun c61 => ?_)
            ·
              refine r_aload_n dX12_test_141 rfl ?_
              refine r_dup dX12_test_142 rfl ?_
              refine r_getIc (nI x8) dX12_test_143 fgX12_117 rfl (by exact k_167 h8.1.1) (by exact e8) ?_
              refine r_iconst (1) dX12_test_146 rfl ?_
              refine r_iadd dX12_test_147 ?_
              rw [nI_1]
              have h13 : RE b n (n + 1) _ (stI m8 167 4 (nI (x8 + 1))) := ⟨h8.1.sy (Sy.rf.s (by omega) (by omega) (by omega)), ⟨by omega, by omega, x8 + 1, by omega, ld_s⟩, ld_n (by decide) h8.2.2.1, h8.2.2.2.1, ld_n (by decide) h8.2.2.2.2⟩
              have y13 := y8.s (k := 4) (v := nI (x8 + 1)) (by omega) (by omega) (by omega)
              refine r_putI dX12_test_148 (fpX12_117 _ rfl) rfl (by exact k_167 h13.1.1) ⟨rfl, rfl⟩ ?_
              refine r_aload_n dX12_test_151 rfl ?_
              refine r_callV0 (ci := 12) (d1 := d1) (c1 := 0) (n1 := 0) dX12_test_152 mvX12_181 rfl ⟨(Nat.le_of_ble_eq_true rfl), rfl⟩ (by omega) (by exact Nat.le_of_ble_eq_true rfl) (by exact k_167 h13.1.1) ?_
              refine hE _ _ _ _ h13 (fun m14 v14 q14 h14 => ?_)
              have y14 := y13.tr q14
              show Wp g mX12_test _ _ _ 155 _ (_ :: _) _ Q
              refine sl_4 dX12_test_155 (by first | rfl | assumption) (Nat.le_of_ble_eq_true rfl) ?_
              refine r_iload_n dX12_test_157 rfl ?_
              refine r_bipush (60) dX12_test_158 rfl ?_
              refine r_icmp_ne 178 dX12_test_160 rfl (fun d60 => ?_) (fun d60 => ?_)
              ·
                refine r_iload_n dX12_test_178 rfl ?_
                refine r_bipush (62) dX12_test_179 rfl ?_
                refine r_icmp_ne 199 dX12_test_181 rfl (fun d62 => ?_) (fun d62 => ?_)
                ·
                  refine r_lload_n dX12_test_199 rfl ?_
                  refine r_lload dX12_test_200 rfl ?_
                  refine r_lcmp_ne 210 dX12_test_202 dX12_test_203 rfl (fun l3 => ?_) (fun l3 => ?_)
                  ·
                    refine r_iconst (0) dX12_test_210 rfl ?_
                    refine r_ireturn dX12_test_211 rfl rfl ?_
                    first
                      | exact k0 er ((if_neg t24).trans ((if_neg (fun z => t65 ((ch_tk (by unfold isCh; decide)).mpr z))).trans (rB_l her))) _ _ (by first | exact Or.inl rfl | exact Or.inr rfl) y14 h14
                      | exact k0 (1, r.1) ((if_neg t24).trans ((if_neg (fun z => t65 ((ch_tk (by unfold isCh; decide)).mpr z))).trans ((rB_r hr).trans (if_neg (fun q => q.elim (fun z => c60 ((ch_tk (by unfold isCh; decide)).mpr z)) (fun q => q.elim (fun z => c62 ((ch_tk (by unfold isCh; decide)).mpr z)) (fun z => c61 ((ch_tk (by unfold isCh; decide)).mpr z)))))))) _ _ (by first | exact Or.inl rfl | exact Or.inr rfl) y14 h14
                      | exact k0 er2 ((if_neg t24).trans ((if_neg (fun z => t65 ((ch_tk (by unfold isCh; decide)).mpr z))).trans ((rB_r hr).trans ((if_pos (Or.inr (Or.inr tkr))).trans (rB_l her2))))) _ _ (by first | exact Or.inl rfl | exact Or.inr rfl) y14 h14.up
                  ·
                    refine r_iconst (1) dX12_test_206 rfl ?_
                    refine r_goto 211 dX12_test_207 rfl ?_
                    refine r_ireturn dX12_test_211 rfl rfl ?_
                    first
                      | exact k0 er ((if_neg t24).trans ((if_neg (fun z => t65 ((ch_tk (by unfold isCh; decide)).mpr z))).trans (rB_l her))) _ _ (by first | exact Or.inl rfl | exact Or.inr rfl) y14 h14
                      | exact k0 (1, r.1) ((if_neg t24).trans ((if_neg (fun z => t65 ((ch_tk (by unfold isCh; decide)).mpr z))).trans ((rB_r hr).trans (if_neg (fun q => q.elim (fun z => c60 ((ch_tk (by unfold isCh; decide)).mpr z)) (fun q => q.elim (fun z => c62 ((ch_tk (by unfold isCh; decide)).mpr z)) (fun z => c61 ((ch_tk (by unfold isCh; decide)).mpr z)))))))) _ _ (by first | exact Or.inl rfl | exact Or.inr rfl) y14 h14
                      | exact k0 er2 ((if_neg t24).trans ((if_neg (fun z => t65 ((ch_tk (by unfold isCh; decide)).mpr z))).trans ((rB_r hr).trans ((if_pos (Or.inr (Or.inr tkr))).trans (rB_l her2))))) _ _ (by first | exact Or.inl rfl | exact Or.inr rfl) y14 h14.up
                ·
                  exact absurd d62 c62
              ·
                exact absurd d60 c60
            ·
              refine r_aload_n dX12_test_132 rfl ?_
              refine r_iconst (1) dX12_test_133 rfl ?_
              refine r_aload_n dX12_test_134 rfl ?_
              refine r_getIc (nI x8) dX12_test_135 fgX12_117 rfl (by exact k_167 h8.1.1) (by exact e8) ?_
              refine r_callV2 (ci := 12) (d1 := 0) (c1 := 0) (n1 := 0) dX12_test_138 mvX12_141 rfl ⟨(Nat.le_of_ble_eq_true rfl), rfl⟩ (by omega) (by exact Nat.le_of_ble_eq_true rfl) (by exact k_167 h8.1.1) ?_
              refine S_wrongE h8 ?_
              show Wp g mX12_test _ _ _ 141 _ [] _ Q
              refine r_aload_n dX12_test_141 rfl ?_
              refine r_dup dX12_test_142 rfl ?_
              refine r_getIc (nI x8) dX12_test_143 fgX12_117 rfl (by exact k_167 h8.1.1) (by exact e8) ?_
              refine r_iconst (1) dX12_test_146 rfl ?_
              refine r_iadd dX12_test_147 ?_
              rw [nI_1]
              have h15 : RE b n (n + 1) _ (stI m8 167 4 (nI (x8 + 1))) := ⟨h8.1.sy (Sy.rf.s (by omega) (by omega) (by omega)), ⟨by omega, by omega, x8 + 1, by omega, ld_s⟩, ld_n (by decide) h8.2.2.1, h8.2.2.2.1, ld_n (by decide) h8.2.2.2.2⟩
              have y15 := y8.s (k := 4) (v := nI (x8 + 1)) (by omega) (by omega) (by omega)
              refine r_putI dX12_test_148 (fpX12_117 _ rfl) rfl (by exact k_167 h15.1.1) ⟨rfl, rfl⟩ ?_
              refine r_aload_n dX12_test_151 rfl ?_
              refine r_callV0 (ci := 12) (d1 := d1) (c1 := 0) (n1 := 0) dX12_test_152 mvX12_181 rfl ⟨(Nat.le_of_ble_eq_true rfl), rfl⟩ (by omega) (by exact Nat.le_of_ble_eq_true rfl) (by exact k_167 h15.1.1) ?_
              refine hE _ _ _ _ h15 (fun m16 v16 q16 h16 => ?_)
              have y16 := y15.tr q16
              show Wp g mX12_test _ _ _ 155 _ (_ :: _) _ Q
              refine sl_4 dX12_test_155 (by first | rfl | assumption) (Nat.le_of_ble_eq_true rfl) ?_
              refine r_iload_n dX12_test_157 rfl ?_
              refine r_bipush (60) dX12_test_158 rfl ?_
              refine r_icmp_ne 178 dX12_test_160 rfl (fun d60 => ?_) (fun d60 => ?_)
              ·
                refine r_iload_n dX12_test_178 rfl ?_
                refine r_bipush (62) dX12_test_179 rfl ?_
                refine r_icmp_ne 199 dX12_test_181 rfl (fun d62 => ?_) (fun d62 => ?_)
                ·
                  refine r_lload_n dX12_test_199 rfl ?_
                  refine r_lload dX12_test_200 rfl ?_
                  refine r_lcmp_ne 210 dX12_test_202 dX12_test_203 rfl (fun l3 => ?_) (fun l3 => ?_)
                  ·
                    refine r_iconst (0) dX12_test_210 rfl ?_
                    refine r_ireturn dX12_test_211 rfl rfl ?_
                    first
                      | exact k0 er ((if_neg t24).trans ((if_neg (fun z => t65 ((ch_tk (by unfold isCh; decide)).mpr z))).trans (rB_l her))) _ _ (by first | exact Or.inl rfl | exact Or.inr rfl) y16 h16
                      | exact k0 (1, r.1) ((if_neg t24).trans ((if_neg (fun z => t65 ((ch_tk (by unfold isCh; decide)).mpr z))).trans ((rB_r hr).trans (if_neg (fun q => q.elim (fun z => c60 ((ch_tk (by unfold isCh; decide)).mpr z)) (fun q => q.elim (fun z => c62 ((ch_tk (by unfold isCh; decide)).mpr z)) (fun z => c61 ((ch_tk (by unfold isCh; decide)).mpr z)))))))) _ _ (by first | exact Or.inl rfl | exact Or.inr rfl) y16 h16
                  ·
                    refine r_iconst (1) dX12_test_206 rfl ?_
                    refine r_goto 211 dX12_test_207 rfl ?_
                    refine r_ireturn dX12_test_211 rfl rfl ?_
                    first
                      | exact k0 er ((if_neg t24).trans ((if_neg (fun z => t65 ((ch_tk (by unfold isCh; decide)).mpr z))).trans (rB_l her))) _ _ (by first | exact Or.inl rfl | exact Or.inr rfl) y16 h16
                      | exact k0 (1, r.1) ((if_neg t24).trans ((if_neg (fun z => t65 ((ch_tk (by unfold isCh; decide)).mpr z))).trans ((rB_r hr).trans (if_neg (fun q => q.elim (fun z => c60 ((ch_tk (by unfold isCh; decide)).mpr z)) (fun q => q.elim (fun z => c62 ((ch_tk (by unfold isCh; decide)).mpr z)) (fun z => c61 ((ch_tk (by unfold isCh; decide)).mpr z)))))))) _ _ (by first | exact Or.inl rfl | exact Or.inr rfl) y16 h16
                ·
                  exact absurd d62 c62
              ·
                exact absurd d60 c60
      ·
        obtain ⟨a7, h7, e7⟩ := h7
        have y7 := y2.tr q7
        show Wp g mX12_test _ _ _ 100 _ (_ :: _) _ Q
        refine sl_1 dX12_test_100 (by first | rfl | assumption) (Nat.le_of_ble_eq_true rfl) ?_
        refine r_aload_n dX12_test_101 rfl ?_
        refine r_callV0 (ci := 12) (d1 := 1) (c1 := 0) (n1 := 0) dX12_test_102 mvX12_145 rfl ⟨(Nat.le_of_ble_eq_true rfl), rfl⟩ (by omega) (by exact Nat.le_of_ble_eq_true rfl) (by exact k_167 h7.1.1) ?_
        refine S_blanksP h7 (fun m17 q17 h17 => ?_)
        have y17 := y7.tr q17
        rw [e7] at h17
        show Wp g mX12_test _ _ _ 105 _ [] _ Q
        refine r_aload_n dX12_test_105 rfl ?_
        refine r_aload_n dX12_test_106 rfl ?_
        refine r_getIc (nI r.1) dX12_test_107 fgX12_117 rfl (by exact k_167 h17.1.1) (by exact h17.2.1) ?_
        refine r_callV1 (ci := 12) (d1 := 0) (c1 := 0) (n1 := 0) dX12_test_110 mvX12_120 rfl ⟨(Nat.le_of_ble_eq_true rfl), rfl⟩ (by omega) (by exact Nat.le_of_ble_eq_true rfl) (by exact k_167 h17.1.1) ?_
        refine S_byteAt h17.1 (k := r.1) (by have := h17.2.2.1; omega) ?_
        show Wp g mX12_test _ _ _ 113 _ (_ :: _) _ Q
        refine si_3 dX12_test_113 (by first | rfl | assumption) (Nat.le_of_ble_eq_true rfl) ?_
        refine r_iload_n dX12_test_114 rfl ?_
        refine r_bipush (60) dX12_test_115 rfl ?_
        refine r_icmp_eq 141 dX12_test_117 rfl (fun c60 => ?_) (fun c60 => ?_)
        ·
          have nxr := nx_ch (c := 60) (by unfold isCh; decide) c60
          have tkr := (ch_tk (c := 60) (by unfold isCh; decide)).mp c60
          refine r_aload_n dX12_test_141 rfl ?_
          refine r_dup dX12_test_142 rfl ?_
          refine r_getIc (nI r.1) dX12_test_143 fgX12_117 rfl (by exact k_167 h17.1.1) (by exact h17.2.1) ?_
          refine r_iconst (1) dX12_test_146 rfl ?_
          refine r_iadd dX12_test_147 ?_
          rw [nI_1]
          obtain ⟨h18, q18⟩ := h17.at1 nxr.1
          have y18 := y17.tr q18
          refine r_putI dX12_test_148 (fpX12_117 _ rfl) rfl (by exact k_167 h18.1.1) ⟨rfl, rfl⟩ ?_
          refine r_aload_n dX12_test_151 rfl ?_
          refine r_callV0 (ci := 12) (d1 := d1) (c1 := 0) (n1 := 0) dX12_test_152 mvX12_181 rfl ⟨(Nat.le_of_ble_eq_true rfl), rfl⟩ (by omega) (by exact Nat.le_of_ble_eq_true rfl) (by exact k_167 h18.1.1) ?_
          refine hS _ (adP b n r.1) N _ ⟨_, h18, (congrArg (rE b n isBl) nxr.2.symm)⟩ (y18.n hN) (fun er2 her2 m19 v19 q19 h19 => ?_) (fun r2 hr2 m20 q20 h20 => ?_)
          ·
            have y19 := y18.tr q19
            show Wp g mX12_test _ _ _ 155 _ (_ :: _) _ Q
            refine sl_4 dX12_test_155 (by first | rfl | assumption) (Nat.le_of_ble_eq_true rfl) ?_
            refine r_iload_n dX12_test_157 rfl ?_
            refine r_bipush (60) dX12_test_158 rfl ?_
            refine r_icmp_ne 178 dX12_test_160 rfl (fun d60 => ?_) (fun d60 => ?_)
            ·
              exact absurd c60 d60
            ·
              refine r_lload_n dX12_test_163 rfl ?_
              refine r_lload dX12_test_164 rfl ?_
              refine r_lcmp_ge 174 dX12_test_166 dX12_test_167 rfl (fun l1 => ?_) (fun l1 => ?_)
              ·
                refine r_iconst (0) dX12_test_174 rfl ?_
                refine r_goto 211 dX12_test_175 rfl ?_
                refine r_ireturn dX12_test_211 rfl rfl ?_
                first
                  | exact k0 er ((if_neg t24).trans ((if_neg (fun z => t65 ((ch_tk (by unfold isCh; decide)).mpr z))).trans (rB_l her))) _ _ (by first | exact Or.inl rfl | exact Or.inr rfl) y19 h19
                  | exact k0 (1, r.1) ((if_neg t24).trans ((if_neg (fun z => t65 ((ch_tk (by unfold isCh; decide)).mpr z))).trans ((rB_r hr).trans (if_neg (fun q => q.elim (fun z => c60 ((ch_tk (by unfold isCh; decide)).mpr z)) (fun q => q.elim (fun z => c62 ((ch_tk (by unfold isCh; decide)).mpr z)) (fun z => c61 ((ch_tk (by unfold isCh; decide)).mpr z)))))))) _ _ (by first | exact Or.inl rfl | exact Or.inr rfl) y19 h19
                  | exact k0 er2 ((if_neg t24).trans ((if_neg (fun z => t65 ((ch_tk (by unfold isCh; decide)).mpr z))).trans ((rB_r hr).trans ((if_pos (Or.inl tkr)).trans (rB_l her2))))) _ _ (by first | exact Or.inl rfl | exact Or.inr rfl) y19 h19.up
              ·
                refine r_iconst (1) dX12_test_170 rfl ?_
                refine r_goto 211 dX12_test_171 rfl ?_
                refine r_ireturn dX12_test_211 rfl rfl ?_
                first
                  | exact k0 er ((if_neg t24).trans ((if_neg (fun z => t65 ((ch_tk (by unfold isCh; decide)).mpr z))).trans (rB_l her))) _ _ (by first | exact Or.inl rfl | exact Or.inr rfl) y19 h19
                  | exact k0 (1, r.1) ((if_neg t24).trans ((if_neg (fun z => t65 ((ch_tk (by unfold isCh; decide)).mpr z))).trans ((rB_r hr).trans (if_neg (fun q => q.elim (fun z => c60 ((ch_tk (by unfold isCh; decide)).mpr z)) (fun q => q.elim (fun z => c62 ((ch_tk (by unfold isCh; decide)).mpr z)) (fun z => c61 ((ch_tk (by unfold isCh; decide)).mpr z)))))))) _ _ (by first | exact Or.inl rfl | exact Or.inr rfl) y19 h19
                  | exact k0 er2 ((if_neg t24).trans ((if_neg (fun z => t65 ((ch_tk (by unfold isCh; decide)).mpr z))).trans ((rB_r hr).trans ((if_pos (Or.inl tkr)).trans (rB_l her2))))) _ _ (by first | exact Or.inl rfl | exact Or.inr rfl) y19 h19.up
          ·
            obtain ⟨a20, h20, e20⟩ := h20
            have y20 := y18.tr q20
            show Wp g mX12_test _ _ _ 155 _ (_ :: _) _ Q
            refine sl_4 dX12_test_155 (by first | rfl | assumption) (Nat.le_of_ble_eq_true rfl) ?_
            refine r_iload_n dX12_test_157 rfl ?_
            refine r_bipush (60) dX12_test_158 rfl ?_
            refine r_icmp_ne 178 dX12_test_160 rfl (fun d60 => ?_) (fun d60 => ?_)
            ·
              exact absurd c60 d60
            ·
              refine r_lload_n dX12_test_163 rfl ?_
              refine r_lload dX12_test_164 rfl ?_
              refine r_lcmp_ge 174 dX12_test_166 dX12_test_167 rfl (fun l1 => ?_) (fun l1 => ?_)
              ·
                refine r_iconst (0) dX12_test_174 rfl ?_
                refine r_goto 211 dX12_test_175 rfl ?_
                refine r_ireturn dX12_test_211 rfl rfl ?_
                have k9 := k1 (r2.1, r.2.1 ++ r2.2.1 ++ [tkP b n r.1], fun N => jnF (tkP b n r.1) (r.2.2 N) (r2.2.2 N)) ((if_neg t24).trans ((if_neg (fun z => t65 ((ch_tk (by unfold isCh; decide)).mpr z))).trans ((rB_r hr).trans ((if_pos (Or.inl tkr)).trans (rB_r hr2))))) _ y20 ⟨_, h20, e20⟩
                dsimp only at k9
                rw [tkr, show bo (jnF 60 (r.2.2 (cut N)) (r2.2.2 (cut N))) = 0 from by rw [show jnF 60 (r.2.2 (cut N)) (r2.2.2 (cut N)) = 0 from if_neg (fun q => i64_nlt.mpr l1 q)]; rfl] at k9; exact k9
              ·
                refine r_iconst (1) dX12_test_170 rfl ?_
                refine r_goto 211 dX12_test_171 rfl ?_
                refine r_ireturn dX12_test_211 rfl rfl ?_
                have k9 := k1 (r2.1, r.2.1 ++ r2.2.1 ++ [tkP b n r.1], fun N => jnF (tkP b n r.1) (r.2.2 N) (r2.2.2 N)) ((if_neg t24).trans ((if_neg (fun z => t65 ((ch_tk (by unfold isCh; decide)).mpr z))).trans ((rB_r hr).trans ((if_pos (Or.inl tkr)).trans (rB_r hr2))))) _ y20 ⟨_, h20, e20⟩
                dsimp only at k9
                rw [tkr, show bo (jnF 60 (r.2.2 (cut N)) (r2.2.2 (cut N))) = 1 from by rw [show jnF 60 (r.2.2 (cut N)) (r2.2.2 (cut N)) = 1 from if_pos (i64_nle.mp l1)]; rfl] at k9; exact k9
        ·
          refine r_iload_n dX12_test_120 rfl ?_
          refine r_bipush (62) dX12_test_121 rfl ?_
          refine r_icmp_eq 141 dX12_test_123 rfl (fun c62 => ?_) (fun c62 => ?_)
          ·
            have nxr := nx_ch (c := 62) (by unfold isCh; decide) c62
            have tkr := (ch_tk (c := 62) (by unfold isCh; decide)).mp c62
            refine r_aload_n dX12_test_141 rfl ?_
            refine r_dup dX12_test_142 rfl ?_
            refine r_getIc (nI r.1) dX12_test_143 fgX12_117 rfl (by exact k_167 h17.1.1) (by exact h17.2.1) ?_
            refine r_iconst (1) dX12_test_146 rfl ?_
            refine r_iadd dX12_test_147 ?_
            rw [nI_1]
            obtain ⟨h21, q21⟩ := h17.at1 nxr.1
            have y21 := y17.tr q21
            refine r_putI dX12_test_148 (fpX12_117 _ rfl) rfl (by exact k_167 h21.1.1) ⟨rfl, rfl⟩ ?_
            refine r_aload_n dX12_test_151 rfl ?_
            refine r_callV0 (ci := 12) (d1 := d1) (c1 := 0) (n1 := 0) dX12_test_152 mvX12_181 rfl ⟨(Nat.le_of_ble_eq_true rfl), rfl⟩ (by omega) (by exact Nat.le_of_ble_eq_true rfl) (by exact k_167 h21.1.1) ?_
            refine hS _ (adP b n r.1) N _ ⟨_, h21, (congrArg (rE b n isBl) nxr.2.symm)⟩ (y21.n hN) (fun er2 her2 m22 v22 q22 h22 => ?_) (fun r2 hr2 m23 q23 h23 => ?_)
            ·
              have y22 := y21.tr q22
              show Wp g mX12_test _ _ _ 155 _ (_ :: _) _ Q
              refine sl_4 dX12_test_155 (by first | rfl | assumption) (Nat.le_of_ble_eq_true rfl) ?_
              refine r_iload_n dX12_test_157 rfl ?_
              refine r_bipush (60) dX12_test_158 rfl ?_
              refine r_icmp_ne 178 dX12_test_160 rfl (fun d60 => ?_) (fun d60 => ?_)
              ·
                refine r_iload_n dX12_test_178 rfl ?_
                refine r_bipush (62) dX12_test_179 rfl ?_
                refine r_icmp_ne 199 dX12_test_181 rfl (fun d62 => ?_) (fun d62 => ?_)
                ·
                  exact absurd c62 d62
                ·
                  refine r_lload_n dX12_test_184 rfl ?_
                  refine r_lload dX12_test_185 rfl ?_
                  refine r_lcmp_le 195 dX12_test_187 dX12_test_188 rfl (fun l2 => ?_) (fun l2 => ?_)
                  ·
                    refine r_iconst (0) dX12_test_195 rfl ?_
                    refine r_goto 211 dX12_test_196 rfl ?_
                    refine r_ireturn dX12_test_211 rfl rfl ?_
                    first
                      | exact k0 er ((if_neg t24).trans ((if_neg (fun z => t65 ((ch_tk (by unfold isCh; decide)).mpr z))).trans (rB_l her))) _ _ (by first | exact Or.inl rfl | exact Or.inr rfl) y22 h22
                      | exact k0 (1, r.1) ((if_neg t24).trans ((if_neg (fun z => t65 ((ch_tk (by unfold isCh; decide)).mpr z))).trans ((rB_r hr).trans (if_neg (fun q => q.elim (fun z => c60 ((ch_tk (by unfold isCh; decide)).mpr z)) (fun q => q.elim (fun z => c62 ((ch_tk (by unfold isCh; decide)).mpr z)) (fun z => c61 ((ch_tk (by unfold isCh; decide)).mpr z)))))))) _ _ (by first | exact Or.inl rfl | exact Or.inr rfl) y22 h22
                      | exact k0 er2 ((if_neg t24).trans ((if_neg (fun z => t65 ((ch_tk (by unfold isCh; decide)).mpr z))).trans ((rB_r hr).trans ((if_pos (Or.inr (Or.inl tkr))).trans (rB_l her2))))) _ _ (by first | exact Or.inl rfl | exact Or.inr rfl) y22 h22.up
                  ·
                    refine r_iconst (1) dX12_test_191 rfl ?_
                    refine r_goto 211 dX12_test_192 rfl ?_
                    refine r_ireturn dX12_test_211 rfl rfl ?_
                    first
                      | exact k0 er ((if_neg t24).trans ((if_neg (fun z => t65 ((ch_tk (by unfold isCh; decide)).mpr z))).trans (rB_l her))) _ _ (by first | exact Or.inl rfl | exact Or.inr rfl) y22 h22
                      | exact k0 (1, r.1) ((if_neg t24).trans ((if_neg (fun z => t65 ((ch_tk (by unfold isCh; decide)).mpr z))).trans ((rB_r hr).trans (if_neg (fun q => q.elim (fun z => c60 ((ch_tk (by unfold isCh; decide)).mpr z)) (fun q => q.elim (fun z => c62 ((ch_tk (by unfold isCh; decide)).mpr z)) (fun z => c61 ((ch_tk (by unfold isCh; decide)).mpr z)))))))) _ _ (by first | exact Or.inl rfl | exact Or.inr rfl) y22 h22
                      | exact k0 er2 ((if_neg t24).trans ((if_neg (fun z => t65 ((ch_tk (by unfold isCh; decide)).mpr z))).trans ((rB_r hr).trans ((if_pos (Or.inr (Or.inl tkr))).trans (rB_l her2))))) _ _ (by first | exact Or.inl rfl | exact Or.inr rfl) y22 h22.up
              ·
                exact absurd d60 c60
            ·
              obtain ⟨a23, h23, e23⟩ := h23
              have y23 := y21.tr q23
              show Wp g mX12_test _ _ _ 155 _ (_ :: _) _ Q
              refine sl_4 dX12_test_155 (by first | rfl | assumption) (Nat.le_of_ble_eq_true rfl) ?_
              refine r_iload_n dX12_test_157 rfl ?_
              refine r_bipush (60) dX12_test_158 rfl ?_
              refine r_icmp_ne 178 dX12_test_160 rfl (fun d60 => ?_) (fun d60 => ?_)
              ·
                refine r_iload_n dX12_test_178 rfl ?_
                refine r_bipush (62) dX12_test_179 rfl ?_
                refine r_icmp_ne 199 dX12_test_181 rfl (fun d62 => ?_) (fun d62 => ?_)
                ·
                  exact absurd c62 d62
                ·
                  refine r_lload_n dX12_test_184 rfl ?_
                  refine r_lload dX12_test_185 rfl ?_
                  refine r_lcmp_le 195 dX12_test_187 dX12_test_188 rfl (fun l2 => ?_) (fun l2 => ?_)
                  ·
                    refine r_iconst (0) dX12_test_195 rfl ?_
                    refine r_goto 211 dX12_test_196 rfl ?_
                    refine r_ireturn dX12_test_211 rfl rfl ?_
                    have k9 := k1 (r2.1, r.2.1 ++ r2.2.1 ++ [tkP b n r.1], fun N => jnF (tkP b n r.1) (r.2.2 N) (r2.2.2 N)) ((if_neg t24).trans ((if_neg (fun z => t65 ((ch_tk (by unfold isCh; decide)).mpr z))).trans ((rB_r hr).trans ((if_pos (Or.inr (Or.inl tkr))).trans (rB_r hr2))))) _ y23 ⟨_, h23, e23⟩
                    dsimp only at k9
                    rw [tkr, show bo (jnF 62 (r.2.2 (cut N)) (r2.2.2 (cut N))) = 0 from by rw [show jnF 62 (r.2.2 (cut N)) (r2.2.2 (cut N)) = 0 from if_neg (fun q => i64_nlt.mpr l2 q)]; rfl] at k9; exact k9
                  ·
                    refine r_iconst (1) dX12_test_191 rfl ?_
                    refine r_goto 211 dX12_test_192 rfl ?_
                    refine r_ireturn dX12_test_211 rfl rfl ?_
                    have k9 := k1 (r2.1, r.2.1 ++ r2.2.1 ++ [tkP b n r.1], fun N => jnF (tkP b n r.1) (r.2.2 N) (r2.2.2 N)) ((if_neg t24).trans ((if_neg (fun z => t65 ((ch_tk (by unfold isCh; decide)).mpr z))).trans ((rB_r hr).trans ((if_pos (Or.inr (Or.inl tkr))).trans (rB_r hr2))))) _ y23 ⟨_, h23, e23⟩
                    dsimp only at k9
                    rw [tkr, show bo (jnF 62 (r.2.2 (cut N)) (r2.2.2 (cut N))) = 1 from by rw [show jnF 62 (r.2.2 (cut N)) (r2.2.2 (cut N)) = 1 from if_pos (i64_nle.mp l2)]; rfl] at k9; exact k9
              ·
                exact absurd d60 c60
          ·
            refine r_iload_n dX12_test_126 rfl ?_
            refine r_bipush (61) dX12_test_127 rfl ?_
            refine r_icmp_eq 141 dX12_test_129 rfl (fun c61 => ?_) (fun c61 => ?_)
            ·
              have nxr := nx_ch (c := 61) (by unfold isCh; decide) c61
              have tkr := (ch_tk (c := 61) (by unfold isCh; decide)).mp c61
              refine r_aload_n dX12_test_141 rfl ?_
              refine r_dup dX12_test_142 rfl ?_
              refine r_getIc (nI r.1) dX12_test_143 fgX12_117 rfl (by exact k_167 h17.1.1) (by exact h17.2.1) ?_
              refine r_iconst (1) dX12_test_146 rfl ?_
              refine r_iadd dX12_test_147 ?_
              rw [nI_1]
              obtain ⟨h24, q24⟩ := h17.at1 nxr.1
              have y24 := y17.tr q24
              refine r_putI dX12_test_148 (fpX12_117 _ rfl) rfl (by exact k_167 h24.1.1) ⟨rfl, rfl⟩ ?_
              refine r_aload_n dX12_test_151 rfl ?_
              refine r_callV0 (ci := 12) (d1 := d1) (c1 := 0) (n1 := 0) dX12_test_152 mvX12_181 rfl ⟨(Nat.le_of_ble_eq_true rfl), rfl⟩ (by omega) (by exact Nat.le_of_ble_eq_true rfl) (by exact k_167 h24.1.1) ?_
              refine hS _ (adP b n r.1) N _ ⟨_, h24, (congrArg (rE b n isBl) nxr.2.symm)⟩ (y24.n hN) (fun er2 her2 m25 v25 q25 h25 => ?_) (fun r2 hr2 m26 q26 h26 => ?_)
              ·
                have y25 := y24.tr q25
                show Wp g mX12_test _ _ _ 155 _ (_ :: _) _ Q
                refine sl_4 dX12_test_155 (by first | rfl | assumption) (Nat.le_of_ble_eq_true rfl) ?_
                refine r_iload_n dX12_test_157 rfl ?_
                refine r_bipush (60) dX12_test_158 rfl ?_
                refine r_icmp_ne 178 dX12_test_160 rfl (fun d60 => ?_) (fun d60 => ?_)
                ·
                  refine r_iload_n dX12_test_178 rfl ?_
                  refine r_bipush (62) dX12_test_179 rfl ?_
                  refine r_icmp_ne 199 dX12_test_181 rfl (fun d62 => ?_) (fun d62 => ?_)
                  ·
                    refine r_lload_n dX12_test_199 rfl ?_
                    refine r_lload dX12_test_200 rfl ?_
                    refine r_lcmp_ne 210 dX12_test_202 dX12_test_203 rfl (fun l3 => ?_) (fun l3 => ?_)
                    ·
                      refine r_iconst (0) dX12_test_210 rfl ?_
                      refine r_ireturn dX12_test_211 rfl rfl ?_
                      first
                        | exact k0 er ((if_neg t24).trans ((if_neg (fun z => t65 ((ch_tk (by unfold isCh; decide)).mpr z))).trans (rB_l her))) _ _ (by first | exact Or.inl rfl | exact Or.inr rfl) y25 h25
                        | exact k0 (1, r.1) ((if_neg t24).trans ((if_neg (fun z => t65 ((ch_tk (by unfold isCh; decide)).mpr z))).trans ((rB_r hr).trans (if_neg (fun q => q.elim (fun z => c60 ((ch_tk (by unfold isCh; decide)).mpr z)) (fun q => q.elim (fun z => c62 ((ch_tk (by unfold isCh; decide)).mpr z)) (fun z => c61 ((ch_tk (by unfold isCh; decide)).mpr z)))))))) _ _ (by first | exact Or.inl rfl | exact Or.inr rfl) y25 h25
                        | exact k0 er2 ((if_neg t24).trans ((if_neg (fun z => t65 ((ch_tk (by unfold isCh; decide)).mpr z))).trans ((rB_r hr).trans ((if_pos (Or.inr (Or.inr tkr))).trans (rB_l her2))))) _ _ (by first | exact Or.inl rfl | exact Or.inr rfl) y25 h25.up
                    ·
                      refine r_iconst (1) dX12_test_206 rfl ?_
                      refine r_goto 211 dX12_test_207 rfl ?_
                      refine r_ireturn dX12_test_211 rfl rfl ?_
                      first
                        | exact k0 er ((if_neg t24).trans ((if_neg (fun z => t65 ((ch_tk (by unfold isCh; decide)).mpr z))).trans (rB_l her))) _ _ (by first | exact Or.inl rfl | exact Or.inr rfl) y25 h25
                        | exact k0 (1, r.1) ((if_neg t24).trans ((if_neg (fun z => t65 ((ch_tk (by unfold isCh; decide)).mpr z))).trans ((rB_r hr).trans (if_neg (fun q => q.elim (fun z => c60 ((ch_tk (by unfold isCh; decide)).mpr z)) (fun q => q.elim (fun z => c62 ((ch_tk (by unfold isCh; decide)).mpr z)) (fun z => c61 ((ch_tk (by unfold isCh; decide)).mpr z)))))))) _ _ (by first | exact Or.inl rfl | exact Or.inr rfl) y25 h25
                        | exact k0 er2 ((if_neg t24).trans ((if_neg (fun z => t65 ((ch_tk (by unfold isCh; decide)).mpr z))).trans ((rB_r hr).trans ((if_pos (Or.inr (Or.inr tkr))).trans (rB_l her2))))) _ _ (by first | exact Or.inl rfl | exact Or.inr rfl) y25 h25.up
                  ·
                    exact absurd d62 c62
                ·
                  exact absurd d60 c60
              ·
                obtain ⟨a26, h26, e26⟩ := h26
                have y26 := y24.tr q26
                show Wp g mX12_test _ _ _ 155 _ (_ :: _) _ Q
                refine sl_4 dX12_test_155 (by first | rfl | assumption) (Nat.le_of_ble_eq_true rfl) ?_
                refine r_iload_n dX12_test_157 rfl ?_
                refine r_bipush (60) dX12_test_158 rfl ?_
                refine r_icmp_ne 178 dX12_test_160 rfl (fun d60 => ?_) (fun d60 => ?_)
                ·
                  refine r_iload_n dX12_test_178 rfl ?_
                  refine r_bipush (62) dX12_test_179 rfl ?_
                  refine r_icmp_ne 199 dX12_test_181 rfl (fun d62 => ?_) (fun d62 => ?_)
                  ·
                    refine r_lload_n dX12_test_199 rfl ?_
                    refine r_lload dX12_test_200 rfl ?_
                    refine r_lcmp_ne 210 dX12_test_202 dX12_test_203 rfl (fun l3 => ?_) (fun l3 => ?_)
                    ·
                      refine r_iconst (0) dX12_test_210 rfl ?_
                      refine r_ireturn dX12_test_211 rfl rfl ?_
                      have k9 := k1 (r2.1, r.2.1 ++ r2.2.1 ++ [tkP b n r.1], fun N => jnF (tkP b n r.1) (r.2.2 N) (r2.2.2 N)) ((if_neg t24).trans ((if_neg (fun z => t65 ((ch_tk (by unfold isCh; decide)).mpr z))).trans ((rB_r hr).trans ((if_pos (Or.inr (Or.inr tkr))).trans (rB_r hr2))))) _ y26 ⟨_, h26, e26⟩
                      dsimp only at k9
                      rw [tkr, show bo (jnF 61 (r.2.2 (cut N)) (r2.2.2 (cut N))) = 0 from by rw [show jnF 61 (r.2.2 (cut N)) (r2.2.2 (cut N)) = 0 from if_neg l3]; rfl] at k9; exact k9
                    ·
                      refine r_iconst (1) dX12_test_206 rfl ?_
                      refine r_goto 211 dX12_test_207 rfl ?_
                      refine r_ireturn dX12_test_211 rfl rfl ?_
                      have k9 := k1 (r2.1, r.2.1 ++ r2.2.1 ++ [tkP b n r.1], fun N => jnF (tkP b n r.1) (r.2.2 N) (r2.2.2 N)) ((if_neg t24).trans ((if_neg (fun z => t65 ((ch_tk (by unfold isCh; decide)).mpr z))).trans ((rB_r hr).trans ((if_pos (Or.inr (Or.inr tkr))).trans (rB_r hr2))))) _ y26 ⟨_, h26, e26⟩
                      dsimp only at k9
                      rw [tkr, show bo (jnF 61 (r.2.2 (cut N)) (r2.2.2 (cut N))) = 1 from by rw [show jnF 61 (r.2.2 (cut N)) (r2.2.2 (cut N)) = 1 from if_pos l3]; rfl] at k9; exact k9
                  ·
                    exact absurd d62 c62
                ·
                  exact absurd d60 c60
            ·
              refine r_aload_n dX12_test_132 rfl ?_
              refine r_iconst (1) dX12_test_133 rfl ?_
              refine r_aload_n dX12_test_134 rfl ?_
              refine r_getIc (nI r.1) dX12_test_135 fgX12_117 rfl (by exact k_167 h17.1.1) (by exact h17.2.1) ?_
              refine r_callV2 (ci := 12) (d1 := 0) (c1 := 0) (n1 := 0) dX12_test_138 mvX12_141 rfl ⟨(Nat.le_of_ble_eq_true rfl), rfl⟩ (by omega) (by exact Nat.le_of_ble_eq_true rfl) (by exact k_167 h17.1.1) ?_
              refine S_wrong4 h17 (by decide) (fun m27 q27 e27 h27 => ?_)
              have y27 := y17.tr q27
              obtain ⟨xn27, xK27, -⟩ := h27.2.1
              have xl27 : r.1 ≤ n := h17.2.2.1
              show Wp g mX12_test _ _ _ 141 _ [] _ Q
              refine r_aload_n dX12_test_141 rfl ?_
              refine r_dup dX12_test_142 rfl ?_
              refine r_getIc (nI r.1) dX12_test_143 fgX12_117 rfl (by exact k_167 h27.1.1) (by exact e27) ?_
              refine r_iconst (1) dX12_test_146 rfl ?_
              refine r_iadd dX12_test_147 ?_
              rw [nI_1]
              have h28 : RE b n (n + 1) _ (stI m27 167 4 (nI (r.1 + 1))) := ⟨h27.1.sy (Sy.rf.s (by omega) (by omega) (by omega)), ⟨by omega, by omega, r.1 + 1, by omega, ld_s⟩, ld_n (by decide) h27.2.2.1, h27.2.2.2.1, ld_n (by decide) h27.2.2.2.2⟩
              have y28 := y27.s (k := 4) (v := nI (r.1 + 1)) (by omega) (by omega) (by omega)
              refine r_putI dX12_test_148 (fpX12_117 _ rfl) rfl (by exact k_167 h28.1.1) ⟨rfl, rfl⟩ ?_
              refine r_aload_n dX12_test_151 rfl ?_
              refine r_callV0 (ci := 12) (d1 := d1) (c1 := 0) (n1 := 0) dX12_test_152 mvX12_181 rfl ⟨(Nat.le_of_ble_eq_true rfl), rfl⟩ (by omega) (by exact Nat.le_of_ble_eq_true rfl) (by exact k_167 h28.1.1) ?_
              refine hE _ _ _ _ h28 (fun m29 v29 q29 h29 => ?_)
              have y29 := y28.tr q29
              show Wp g mX12_test _ _ _ 155 _ (_ :: _) _ Q
              refine sl_4 dX12_test_155 (by first | rfl | assumption) (Nat.le_of_ble_eq_true rfl) ?_
              refine r_iload_n dX12_test_157 rfl ?_
              refine r_bipush (60) dX12_test_158 rfl ?_
              refine r_icmp_ne 178 dX12_test_160 rfl (fun d60 => ?_) (fun d60 => ?_)
              ·
                refine r_iload_n dX12_test_178 rfl ?_
                refine r_bipush (62) dX12_test_179 rfl ?_
                refine r_icmp_ne 199 dX12_test_181 rfl (fun d62 => ?_) (fun d62 => ?_)
                ·
                  refine r_lload_n dX12_test_199 rfl ?_
                  refine r_lload dX12_test_200 rfl ?_
                  refine r_lcmp_ne 210 dX12_test_202 dX12_test_203 rfl (fun l3 => ?_) (fun l3 => ?_)
                  ·
                    refine r_iconst (0) dX12_test_210 rfl ?_
                    refine r_ireturn dX12_test_211 rfl rfl ?_
                    first
                      | exact k0 er ((if_neg t24).trans ((if_neg (fun z => t65 ((ch_tk (by unfold isCh; decide)).mpr z))).trans (rB_l her))) _ _ (by first | exact Or.inl rfl | exact Or.inr rfl) y29 h29
                      | exact k0 (1, r.1) ((if_neg t24).trans ((if_neg (fun z => t65 ((ch_tk (by unfold isCh; decide)).mpr z))).trans ((rB_r hr).trans (if_neg (fun q => q.elim (fun z => c60 ((ch_tk (by unfold isCh; decide)).mpr z)) (fun q => q.elim (fun z => c62 ((ch_tk (by unfold isCh; decide)).mpr z)) (fun z => c61 ((ch_tk (by unfold isCh; decide)).mpr z)))))))) _ _ (by first | exact Or.inl rfl | exact Or.inr rfl) y29 h29
                  ·
                    refine r_iconst (1) dX12_test_206 rfl ?_
                    refine r_goto 211 dX12_test_207 rfl ?_
                    refine r_ireturn dX12_test_211 rfl rfl ?_
                    first
                      | exact k0 er ((if_neg t24).trans ((if_neg (fun z => t65 ((ch_tk (by unfold isCh; decide)).mpr z))).trans (rB_l her))) _ _ (by first | exact Or.inl rfl | exact Or.inr rfl) y29 h29
                      | exact k0 (1, r.1) ((if_neg t24).trans ((if_neg (fun z => t65 ((ch_tk (by unfold isCh; decide)).mpr z))).trans ((rB_r hr).trans (if_neg (fun q => q.elim (fun z => c60 ((ch_tk (by unfold isCh; decide)).mpr z)) (fun q => q.elim (fun z => c62 ((ch_tk (by unfold isCh; decide)).mpr z)) (fun z => c61 ((ch_tk (by unfold isCh; decide)).mpr z)))))))) _ _ (by first | exact Or.inl rfl | exact Or.inr rfl) y29 h29
                ·
                  exact absurd d62 c62
              ·
                exact absurd d60 c60
    ·
      refine r_aload_n dX12_test_68 rfl ?_
      refine r_iconst (1) dX12_test_69 rfl ?_
      refine r_callV1 (ci := 12) (d1 := 1) (c1 := 0) (n1 := 0) dX12_test_70 mvX12_177 rfl ⟨(Nat.le_of_ble_eq_true rfl), rfl⟩ (by omega) (by exact Nat.le_of_ble_eq_true rfl) (by exact k_167 h2.1.1) ?_
      refine S_opensP h2 ho (w := 1) (nx_ch (by unfold isCh; decide) t65).1 (fun o6 m30 q30 h30 => ?_) (fun o6 => absurd o6 (by omega))
      have y30 := y2.tr q30
      show Wp g mX12_test _ _ _ 73 _ [] _ Q
      refine r_aload_n dX12_test_73 rfl ?_
      refine r_callV0 (ci := 12) (d1 := d3) (c1 := 0) (n1 := 0) dX12_test_74 mvX12_201 rfl ⟨(Nat.le_of_ble_eq_true rfl), rfl⟩ (by omega) (by exact Nat.le_of_ble_eq_true rfl) (by exact k_167 h30.1.1) ?_
      refine hO _ (adP b n s) N _ ⟨_, h30, (congrArg (rE b n isBl) (nx_ch (c := 91) (by unfold isCh; decide) t65).2.symm)⟩ (y30.n hN) (fun er her m31 v31 hv31 q31 h31 => ?_) (fun r hr m32 q32 h32 => ?_)
      ·
        have y31 := y30.tr q31
        show Wp g mX12_test _ _ _ 77 _ (_ :: _) _ Q
        refine si_1 dX12_test_77 (by first | rfl | assumption) (Nat.le_of_ble_eq_true rfl) ?_
        refine r_aload_n dX12_test_78 rfl ?_
        refine r_bipush (93) dX12_test_79 rfl ?_
        refine r_callV1 (ci := 12) (d1 := 2) (c1 := 0) (n1 := 0) dX12_test_81 mvX12_184 rfl ⟨(Nat.le_of_ble_eq_true rfl), rfl⟩ (by omega) (by exact Nat.le_of_ble_eq_true rfl) (by exact k_167 h31.1.1) ?_
        refine S_signE h31 (by decide) (fun m33 q33 h33 => ?_)
        have y33 := y31.tr q33
        show Wp g mX12_test _ _ _ 84 _ [] _ Q
        refine r_aload_n dX12_test_84 rfl ?_
        refine r_dup dX12_test_85 rfl ?_
        refine r_getI dX12_test_86 fgX12_156 rfl (by exact k_167 h33.1.1) ?_
        refine r_iconst (1) dX12_test_89 rfl ?_
        refine r_isub dX12_test_90 ?_
        refine r_putI dX12_test_91 (fpX12_156 _ rfl) rfl (by exact k_167 h33.1.1) ⟨rfl, rfl⟩ ?_
        have yz := y33.s (k := 5) (v := (ldI m33 167 5 - 1)) (by omega) (by omega) (by omega)
        have hz : RE b n _ _ (stI m33 167 5 (ldI m33 167 5 - 1)) := ⟨h33.1.sy (Sy.rf.s (by omega) (by omega) (by omega)), ⟨h33.2.1.1, h33.2.1.2.1, h33.2.1.2.2.choose, h33.2.1.2.2.choose_spec.1, ld_n (by decide) h33.2.1.2.2.choose_spec.2⟩, ld_n (by decide) h33.2.2.1, h33.2.2.2.1, ld_n (by decide) h33.2.2.2.2⟩
        refine r_iload_n dX12_test_94 rfl ?_
        refine r_ireturn dX12_test_95 rfl (by first | exact nb (bo01 _) | exact nb hv31) ?_
        first
          | exact k0 er ((if_neg t24).trans ((if_pos ((ch_tk (by unfold isCh; decide)).mp t65)).trans (rB_l her))) _ _ hv31 yz hz
          | exact k0 (1, r.1) ((if_neg t24).trans ((if_pos ((ch_tk (by unfold isCh; decide)).mp t65)).trans ((rB_r hr).trans (if_neg (fun z => g81 ((ch_tk (by unfold isCh; decide)).mpr z)))))) _ _ (bo01 _) yz hz.up
      ·
        obtain ⟨a32, h32, e32⟩ := h32
        have y32 := y30.tr q32
        show Wp g mX12_test _ _ _ 77 _ (_ :: _) _ Q
        refine si_1 dX12_test_77 (by first | rfl | assumption) (Nat.le_of_ble_eq_true rfl) ?_
        refine r_aload_n dX12_test_78 rfl ?_
        refine r_bipush (93) dX12_test_79 rfl ?_
        refine r_callV1 (ci := 12) (d1 := 2) (c1 := 0) (n1 := 0) dX12_test_81 mvX12_184 rfl ⟨(Nat.le_of_ble_eq_true rfl), rfl⟩ (by omega) (by exact Nat.le_of_ble_eq_true rfl) (by exact k_167 h32.1.1) ?_
        refine S_signP h32 (by decide) (fun g81 m34 q34 h34 => ?_) (fun g81 m35 q35 h35 => ?_)
        ·
          have y34 := y32.tr q34
          rw [e32] at g81 h34
          show Wp g mX12_test _ _ _ 84 _ [] _ Q
          refine r_aload_n dX12_test_84 rfl ?_
          refine r_dup dX12_test_85 rfl ?_
          refine r_getIc (nI (o + 1)) dX12_test_86 fgX12_156 rfl (by exact k_167 h34.1.1) (by exact h34.2.2.2.1) ?_
          refine r_iconst (1) dX12_test_89 rfl ?_
          refine r_isub dX12_test_90 ?_
          refine r_putI dX12_test_91 (fpX12_156 _ rfl) rfl (by exact k_167 h34.1.1) ⟨rfl, rfl⟩ ?_
          rw [nI_p1]
          have yz := y34.s (k := 5) (v := (nI o)) (by omega) (by omega) (by omega)
          have hz : RPa b n _ o (stI m34 167 5 (nI o)) := ⟨h34.1.sy (Sy.rf.s (by omega) (by omega) (by omega)), ld_n (by decide) h34.2.1, h34.2.2.1, ld_s, ld_n (by decide) h34.2.2.2.2.1, ld_n (by decide) h34.2.2.2.2.2⟩
          refine r_iload_n dX12_test_94 rfl ?_
          refine r_ireturn dX12_test_95 rfl (nb (bo01 _)) ?_
          exact k1 (adP b n r.1, r.2.1, r.2.2) ((if_neg t24).trans ((if_pos ((ch_tk (by unfold isCh; decide)).mp t65)).trans ((rB_r hr).trans (if_pos ((ch_tk (by unfold isCh; decide)).mp g81))))) _ yz ⟨_, hz, congrArg (rE b n isBl) (nx_ch (c := 93) (by unfold isCh; decide) g81).2.symm⟩
        ·
          have y35 := y32.tr q35
          rw [e32] at g81 h35
          show Wp g mX12_test _ _ _ 84 _ [] _ Q
          refine r_aload_n dX12_test_84 rfl ?_
          refine r_dup dX12_test_85 rfl ?_
          refine r_getI dX12_test_86 fgX12_156 rfl (by exact k_167 h35.1.1) ?_
          refine r_iconst (1) dX12_test_89 rfl ?_
          refine r_isub dX12_test_90 ?_
          refine r_putI dX12_test_91 (fpX12_156 _ rfl) rfl (by exact k_167 h35.1.1) ⟨rfl, rfl⟩ ?_
          have yz := y35.s (k := 5) (v := (ldI m35 167 5 - 1)) (by omega) (by omega) (by omega)
          have hz : RE b n _ _ (stI m35 167 5 (ldI m35 167 5 - 1)) := ⟨h35.1.sy (Sy.rf.s (by omega) (by omega) (by omega)), ⟨h35.2.1.1, h35.2.1.2.1, h35.2.1.2.2.choose, h35.2.1.2.2.choose_spec.1, ld_n (by decide) h35.2.1.2.2.choose_spec.2⟩, ld_n (by decide) h35.2.2.1, h35.2.2.2.1, ld_n (by decide) h35.2.2.2.2⟩
          refine r_iload_n dX12_test_94 rfl ?_
          refine r_ireturn dX12_test_95 rfl (by first | exact nb (bo01 _) | exact nb hv33) ?_
          first
            | exact k0 er ((if_neg t24).trans ((if_pos ((ch_tk (by unfold isCh; decide)).mp t65)).trans (rB_l her))) _ _ hv33 yz hz
            | exact k0 (1, r.1) ((if_neg t24).trans ((if_pos ((ch_tk (by unfold isCh; decide)).mp t65)).trans ((rB_r hr).trans (if_neg (fun z => g81 ((ch_tk (by unfold isCh; decide)).mpr z)))))) _ _ (bo01 _) yz hz.up
