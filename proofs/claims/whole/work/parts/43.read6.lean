theorem B_unit {g : GG} {b : Nat → Int32} {n d : Nat}  : NtB g b n mX4_readUnit [] (d + 1) := by
  intro m o e Q h k
  refine Cl.of rfl (by decide) (Nat.le_of_ble_eq_true rfl) ?_
  show Wp g mX4_readUnit (d + 1) 0 0 0 [.ref 152, .retAddr 0] [] m Q
  refine r_aload_n dX4_readUnit_0 rfl ?_
  refine r_getIc (-4) dX4_readUnit_1 fgX4_55 rfl (by exact k_152 h.F) (by exact h.2.1) ?_
  refine si_1 dX4_readUnit_4 rfl (Nat.le_of_ble_eq_true rfl) ?_
  refine r_iload_n dX4_readUnit_5 rfl ?_
  refine r_bipush (-2) dX4_readUnit_6 rfl ?_
  refine r_icmp_ne 18 dX4_readUnit_8 rfl (fun _ => ?_) (fun hz => absurd hz (by decide))
  refine r_iload_n dX4_readUnit_18 rfl ?_
  refine r_sipush (264) dX4_readUnit_19 rfl ?_
  refine r_sipush (273) dX4_readUnit_22 rfl ?_
  refine r_callN3 (d1 := 0) (c1 := 0) (n1 := 0) dX4_readUnit_25 msX4_73 (by omega) (by exact Nat.le_of_ble_eq_true rfl) ?_
  refine S_X11_isWithin (fun za zb => absurd za (by decide)) (fun _ => ?_)
  show Wp g mX4_readUnit _ _ _ 28 _ (_ :: _) _ Q
  refine r_if_eq 48 dX4_readUnit_28 rfl (fun _ => ?_) (fun hz => absurd hz (by decide))
  refine r_iload_n dX4_readUnit_48 rfl ?_
  refine r_bipush (40) dX4_readUnit_49 rfl ?_
  refine r_icmp_ne 62 dX4_readUnit_51 rfl (fun _ => ?_) (fun hz => absurd hz (by decide))
  refine r_iload_n dX4_readUnit_62 rfl ?_
  refine r_sipush (276) dX4_readUnit_63 rfl ?_
  refine r_icmp_eq 83 dX4_readUnit_66 rfl (fun hz => absurd hz (by decide)) (fun _ => ?_)
  refine r_iload_n dX4_readUnit_69 rfl ?_
  refine r_sipush (274) dX4_readUnit_70 rfl ?_
  refine r_icmp_eq 83 dX4_readUnit_73 rfl (fun hz => absurd hz (by decide)) (fun _ => ?_)
  refine r_iload_n dX4_readUnit_76 rfl ?_
  refine r_sipush (275) dX4_readUnit_77 rfl ?_
  refine r_icmp_ne 112 dX4_readUnit_80 rfl (fun _ => ?_) (fun hz => absurd hz (by decide))
  refine r_aload_n dX4_readUnit_112 rfl ?_
  refine r_iconst (1) dX4_readUnit_113 rfl ?_
  refine r_callV1 (ci := 4) (d1 := 0) (c1 := 0) (n1 := 0) dX4_readUnit_114 mvX4_77 rfl ⟨(Nat.le_of_ble_eq_true rfl), rfl⟩ (by omega) (by exact Nat.le_of_ble_eq_true rfl) (by exact k_152 h.F) ?_
  refine S_failB h (fun m1 q1 h1 => ?_)
  have o1 := q1
  show Wp g mX4_readUnit _ _ _ 117 _ [] _ Q
  refine r_return dX4_readUnit_117 rfl ?_
  exact k m1 o1 h1
theorem B_part3 {g : GG} {b : Nat → Int32} {n d : Nat} (hp : NtB g b n mX4_readUnit [] d) : NtB g b n mX4_readPart [.int 3] (d + 1) := by
  intro m o e Q h k
  refine Cl.of rfl (by decide) (Nat.le_of_ble_eq_true rfl) ?_
  show Wp g mX4_readPart (d + 1) 0 0 0 [.ref 152, .int 3] [] m Q
  refine r_iload_n dX4_readPart_0 rfl ?_
  refine r_tabOut 51 dX4_readPart_1 (by decide) rfl ?_
  refine r_aload_n dX4_readPart_51 rfl ?_
  refine r_callV0 (ci := 4) (d1 := d) (c1 := 0) (n1 := 0) dX4_readPart_52 mvX4_101 rfl ⟨(Nat.le_of_ble_eq_true rfl), rfl⟩ (by omega) (by exact Nat.le_of_ble_eq_true rfl) (by exact k_152 h.F) ?_
  refine hp _ _ _ _ h (fun m1 q1 h1 => ?_)
  have o1 := q1
  show Wp g mX4_readPart _ _ _ 55 _ [] _ Q
  refine r_return dX4_readPart_55 rfl ?_
  exact k m1 o1 h1
theorem B_chain3 {g : GG} {b : Nat → Int32} {n d : Nat} (hp : NtB g b n mX4_readPart [.int 3] d) : NtB g b n mX4_readChain [.int 3] (d + 1) := by
  intro m o e Q h k
  refine Cl.of rfl (by decide) (Nat.le_of_ble_eq_true rfl) ?_
  show Wp g mX4_readChain (d + 1) 0 0 0 [.ref 152, .int 3, .retAddr 0, .retAddr 0] [] m Q
  refine r_aload_n dX4_readChain_0 rfl ?_
  refine r_iload_n dX4_readChain_1 rfl ?_
  refine r_callV1 (ci := 4) (d1 := d) (c1 := 0) (n1 := 0) dX4_readChain_2 mvX4_91 rfl ⟨(Nat.le_of_ble_eq_true rfl), rfl⟩ (by omega) (by exact Nat.le_of_ble_eq_true rfl) (by exact k_152 h.F) ?_
  refine hp _ _ _ _ h (fun m1 q1 h1 => ?_)
  have o1 := q1
  show Wp g mX4_readChain _ _ _ 5 _ [] _ Q
  refine r_iconst (0) dX4_readChain_5 rfl ?_
  refine si_2 dX4_readChain_6 rfl (Nat.le_of_ble_eq_true rfl) ?_
  exact T_chB3 h1 (k m1 o1 h1)
theorem B_part2 {g : GG} {b : Nat → Int32} {n d : Nat} (hp : NtB g b n mX4_readChain [.int 3] d) : NtB g b n mX4_readPart [.int 2] (d + 1) := by
  intro m o e Q h k
  refine Cl.of rfl (by decide) (Nat.le_of_ble_eq_true rfl) ?_
  show Wp g mX4_readPart (d + 1) 0 0 0 [.ref 152, .int 2] [] m Q
  refine r_iload_n dX4_readPart_0 rfl ?_
  refine r_tabIn 43 dX4_readPart_1 (by decide) (by decide) rfl rfl ?_
  refine r_aload_n dX4_readPart_43 rfl ?_
  refine r_iconst (3) dX4_readPart_44 rfl ?_
  refine r_callV1 (ci := 4) (d1 := d) (c1 := 0) (n1 := 0) dX4_readPart_45 mvX4_81 rfl ⟨(Nat.le_of_ble_eq_true rfl), rfl⟩ (by omega) (by exact Nat.le_of_ble_eq_true rfl) (by exact k_152 h.F) ?_
  refine hp _ _ _ _ h (fun m1 q1 h1 => ?_)
  have o1 := q1
  show Wp g mX4_readPart _ _ _ 48 _ [] _ Q
  refine r_goto 55 dX4_readPart_48 rfl ?_
  refine r_return dX4_readPart_55 rfl ?_
  exact k m1 o1 h1
theorem B_chain2 {g : GG} {b : Nat → Int32} {n d : Nat} (hp : NtB g b n mX4_readPart [.int 2] d) : NtB g b n mX4_readChain [.int 2] (d + 1) := by
  intro m o e Q h k
  refine Cl.of rfl (by decide) (Nat.le_of_ble_eq_true rfl) ?_
  show Wp g mX4_readChain (d + 1) 0 0 0 [.ref 152, .int 2, .retAddr 0, .retAddr 0] [] m Q
  refine r_aload_n dX4_readChain_0 rfl ?_
  refine r_iload_n dX4_readChain_1 rfl ?_
  refine r_callV1 (ci := 4) (d1 := d) (c1 := 0) (n1 := 0) dX4_readChain_2 mvX4_91 rfl ⟨(Nat.le_of_ble_eq_true rfl), rfl⟩ (by omega) (by exact Nat.le_of_ble_eq_true rfl) (by exact k_152 h.F) ?_
  refine hp _ _ _ _ h (fun m1 q1 h1 => ?_)
  have o1 := q1
  show Wp g mX4_readChain _ _ _ 5 _ [] _ Q
  refine r_iconst (0) dX4_readChain_5 rfl ?_
  refine si_2 dX4_readChain_6 rfl (Nat.le_of_ble_eq_true rfl) ?_
  exact T_chB2 h1 (k m1 o1 h1)
theorem B_sum {g : GG} {b : Nat → Int32} {n d : Nat} : NtB g b n mX4_readChain [.int 2] (d + 5) := B_chain2 (B_part2 (B_chain3 (B_part3 (B_unit (d := d)))))
theorem nm_le {b : Nat → Int32} {n s : Nat} : ∃ v, v ≤ 10000 ∧ nmC b n s = nI v := ⟨_, Nat.min_le_right _ _, rfl⟩
theorem S_readNumber {g : GG} {m : MM} {Q : Out → Prop} {b : Nat → Int32} {n s o : Nat} {L : List Int32} (h : RS b n s o L m) (hl : L.length ≤ s) (ht : tkP b n s = -2) (k0 : ¬ nmC b n s ≤ 9999 → ∀ m', Off 152 153 m m' → RB b n o (2, s) m' → Q (.inl none, m')) (k1 : nmC b n s ≤ 9999 → ∀ m', Off 152 153 m m' → RS b n (adP b n s) o (L ++ [nmC b n s * 512 + 1]) m' → Q (.inl none, m')) : Cl g 7 0 0 mX4_readNumber [.ref 152] m Q := by
  refine Cl.of rfl (by decide) (Nat.le_of_ble_eq_true rfl) ?_
  show Wp g mX4_readNumber 7 0 0 0 [.ref 152] [] m Q
  have hn4 := h.1.2.1
  have w := ad_of ht (by decide)
  refine r_aload_n dX4_readNumber_0 rfl ?_
  refine r_getIc (nmC b n s) dX4_readNumber_1 fgX4_118 rfl (by exact k_152 h.F) (by exact h.2.2.1.2.2.2 ht) ?_
  refine r_sipush (9999) dX4_readNumber_4 rfl ?_
  refine r_icmp_le 18 dX4_readNumber_7 rfl (fun hle => ?_) (fun hle => ?_)
  ·
    refine r_aload_n dX4_readNumber_18 rfl ?_
    refine r_iconst (1) dX4_readNumber_19 rfl ?_
    refine r_aload_n dX4_readNumber_20 rfl ?_
    refine r_getIc (nmC b n s) dX4_readNumber_21 fgX4_118 rfl (by exact k_152 h.F) (by exact h.2.2.1.2.2.2 ht) ?_
    refine r_callV2 (ci := 4) (d1 := 0) (c1 := 0) (n1 := 0) dX4_readNumber_24 mvX4_87 rfl ⟨(Nat.le_of_ble_eq_true rfl), rfl⟩ (by omega) (by exact Nat.le_of_ble_eq_true rfl) (by exact k_152 h.F) ?_
    refine S_emitS h (v := nmC b n s * 512 + 1) rfl (by omega) (fun m1 q1 h1 => ?_)
    have o1 := q1
    show Wp g mX4_readNumber _ _ _ 27 _ [] _ Q
    refine r_aload_n dX4_readNumber_27 rfl ?_
    refine r_callV0 (ci := 4) (d1 := 6) (c1 := 0) (n1 := 0) dX4_readNumber_28 mvX4_52 rfl ⟨(Nat.le_of_ble_eq_true rfl), rfl⟩ (by omega) (by exact Nat.le_of_ble_eq_true rfl) (by exact k_152 h1.F) ?_
    refine S_advS h1 (fun m2 q2 h2 => ?_)
    have o2 := (o1 : Off 152 153 m _).tr q2
    show Wp g mX4_readNumber _ _ _ 31 _ [] _ Q
    refine r_return dX4_readNumber_31 rfl ?_
    exact k1 hle m2 o2 h2
  ·
    refine r_aload_n dX4_readNumber_10 rfl ?_
    refine r_iconst (2) dX4_readNumber_11 rfl ?_
    refine r_callV1 (ci := 4) (d1 := 0) (c1 := 0) (n1 := 0) dX4_readNumber_12 mvX4_77 rfl ⟨(Nat.le_of_ble_eq_true rfl), rfl⟩ (by omega) (by exact Nat.le_of_ble_eq_true rfl) (by exact k_152 h.F) ?_
    refine S_failS h (by decide) (fun m3 q3 h3 => ?_)
    have o3 := q3
    show Wp g mX4_readNumber _ _ _ 15 _ [] _ Q
    refine r_goto 31 dX4_readNumber_15 rfl ?_
    refine r_return dX4_readNumber_31 rfl ?_
    exact k0 hle m3 o3 h3
/-- the sums one deeper, as class and parser have them -/
def InH (g : GG) (b : Nat → Int32) (n o d : Nat) (f : Option (Nat → Rs)) : Prop := (o = 6 ∧ f = none) ∨ (o < 6 ∧ ∃ F, f = some F ∧ GdF b n F ∧ NtOK g b n mX4_readChain [.int 2] (o + 1) d F)
theorem S_ins0 {g : GG} {m : MM} {Q : Out → Prop} {b : Nat → Int32} {n s o d : Nat} {L : List Int32} {f : Option (Nat → Rs)} (hd : 7 ≤ d) (hi : InH g b n o d f) (h : RS b n s o L m) (ho : o ≤ 6) (hl : L.length ≤ s) (k0 : ∀ e, insP b n f false s = .inl e → ∀ m', Off 152 153 m m' → RB b n o e m' → Q (.inl none, m')) (k1 : ∀ r, insP b n f false s = .inr r → ∀ m', Off 152 153 m m' → RS b n r.1 o (L ++ r.2.1) m' → Q (.inl none, m')) : Cl g (d + 1) 0 0 mX4_readInside [.ref 152, .int 0] m Q := by
  refine Cl.of rfl (by decide) (Nat.le_of_ble_eq_true rfl) ?_
  show Wp g mX4_readInside (d + 1) 0 0 0 [.ref 152, .int 0] [] m Q
  have hn4 := h.1.2.1
  have hsn := h.2.1
  refine r_aload_n dX4_readInside_0 rfl ?_
  refine r_getIc (tkP b n s) dX4_readInside_1 fgX4_55 rfl (by exact k_152 h.F) (by exact h.tk) ?_
  refine r_bipush (40) dX4_readInside_4 rfl ?_
  refine r_icmp_eq 17 dX4_readInside_6 rfl (fun h40 => ?_) (fun h40 => ?_)
  ·
    refine r_aload_n dX4_readInside_17 rfl ?_
    refine r_callV0 (ci := 4) (d1 := 1) (c1 := 0) (n1 := 0) dX4_readInside_18 mvX4_104 rfl ⟨(Nat.le_of_ble_eq_true rfl), rfl⟩ (by omega) (by exact Nat.le_of_ble_eq_true rfl) (by exact k_152 h.F) ?_
    refine S_opensS h ho (fun ho1 m1 q1 h1 => ?_) (fun ho6 m2 q2 h2 => ?_)
    ·
      have o1 := q1
      show Wp g mX4_readInside _ _ _ 21 _ (_ :: _) _ Q
      refine r_if_eq 64 dX4_readInside_21 rfl (fun hz => absurd hz (by decide)) (fun _ => ?_)
      obtain ⟨-, F, hfF, gF, hF⟩ := hi.resolve_left (fun z => by omega)
      subst hfF
      have w := ad_of h40 (by decide)
      have hBs : NtB g b n mX4_readChain [.int 2] d := by obtain ⟨c, rfl⟩ : ∃ c, d = c + 5 := ⟨d - 5, by omega⟩; exact B_sum
      refine r_aload_n dX4_readInside_24 rfl ?_
      refine r_callV0 (ci := 4) (d1 := 6) (c1 := 0) (n1 := 0) dX4_readInside_25 mvX4_52 rfl ⟨(Nat.le_of_ble_eq_true rfl), rfl⟩ (by omega) (by exact Nat.le_of_ble_eq_true rfl) (by exact k_152 h1.F) ?_
      refine S_advS h1 (fun m3 q3 h3 => ?_)
      have o3 := (o1 : Off 152 153 m _).tr q3
      show Wp g mX4_readInside _ _ _ 28 _ [] _ Q
      refine r_aload_n dX4_readInside_28 rfl ?_
      refine r_iconst (2) dX4_readInside_29 rfl ?_
      refine r_callV1 (ci := 4) (d1 := d) (c1 := 0) (n1 := 0) dX4_readInside_30 mvX4_81 rfl ⟨(Nat.le_of_ble_eq_true rfl), rfl⟩ (by omega) (by exact Nat.le_of_ble_eq_true rfl) (by exact k_152 h3.F) ?_
      refine hF _ _ _ _ h3 (by omega) (fun er her m4 q4 h4 => ?_) (fun r hr m5 q5 h5 => ?_)
      ·
        have o4 := (o3 : Off 152 153 m _).tr q4
        show Wp g mX4_readInside _ _ _ 33 _ [] _ Q
        refine r_iload_n dX4_readInside_33 rfl ?_
        refine r_if_eq 48 dX4_readInside_34 rfl (fun _ => ?_) (fun hz => absurd hz (by decide))
        refine r_aload_n dX4_readInside_48 rfl ?_
        refine r_bipush (41) dX4_readInside_49 rfl ?_
        refine r_callV1 (ci := 4) (d1 := 7) (c1 := 0) (n1 := 0) dX4_readInside_51 mvX4_84 rfl ⟨(Nat.le_of_ble_eq_true rfl), rfl⟩ (by omega) (by exact Nat.le_of_ble_eq_true rfl) (by exact k_152 h4.F) ?_
        refine S_takeB h4 (by decide) (fun m6 q6 h6 => ?_)
        have o6 := (o4 : Off 152 153 m _).tr q6
        show Wp g mX4_readInside _ _ _ 54 _ [] _ Q
        refine r_aload_n dX4_readInside_54 rfl ?_
        refine r_dup dX4_readInside_55 rfl ?_
        refine r_getIc (nI (o + 1)) dX4_readInside_56 fgX4_43 rfl (by exact k_152 h6.F) (by exact h6.2.2.1) ?_
        refine r_iconst (1) dX4_readInside_59 rfl ?_
        refine r_isub dX4_readInside_60 ?_
        refine r_putI dX4_readInside_61 (fpX4_43 _ rfl) rfl (by exact k_152 h6.F) ⟨rfl, rfl⟩ ?_
        rw [nI_p1]
        have hx := h6.st8 o
        refine r_return dX4_readInside_64 rfl ?_
        first
          | exact k0 er ((if_pos h40).trans (rB_l her)) _ (o6.tr oft8) hx
          | exact k0 (1, r.1) ((if_pos h40).trans ((rB_r hr).trans ((if_neg (by decide)).trans (if_neg t51)))) _ (o6.tr oft8) hx
      ·
        have o5 := (o3 : Off 152 153 m _).tr q5
        show Wp g mX4_readInside _ _ _ 33 _ [] _ Q
        refine r_iload_n dX4_readInside_33 rfl ?_
        refine r_if_eq 48 dX4_readInside_34 rfl (fun _ => ?_) (fun hz => absurd hz (by decide))
        refine r_aload_n dX4_readInside_48 rfl ?_
        refine r_bipush (41) dX4_readInside_49 rfl ?_
        refine r_callV1 (ci := 4) (d1 := 7) (c1 := 0) (n1 := 0) dX4_readInside_51 mvX4_84 rfl ⟨(Nat.le_of_ble_eq_true rfl), rfl⟩ (by omega) (by exact Nat.le_of_ble_eq_true rfl) (by exact k_152 h5.F) ?_
        refine S_takeS h5 (fun t51 m7 q7 h7 => ?_) (fun t51 m8 q8 h8 => ?_)
        ·
          have o7 := (o5 : Off 152 153 m _).tr q7
          show Wp g mX4_readInside _ _ _ 54 _ [] _ Q
          refine r_aload_n dX4_readInside_54 rfl ?_
          refine r_dup dX4_readInside_55 rfl ?_
          refine r_getIc (nI (o + 1)) dX4_readInside_56 fgX4_43 rfl (by exact k_152 h7.F) (by exact h7.2.2.2.1) ?_
          refine r_iconst (1) dX4_readInside_59 rfl ?_
          refine r_isub dX4_readInside_60 ?_
          refine r_putI dX4_readInside_61 (fpX4_43 _ rfl) rfl (by exact k_152 h7.F) ⟨rfl, rfl⟩ ?_
          rw [nI_p1]
          have hx := h7.st8 o
          refine r_return dX4_readInside_64 rfl ?_
          exact k1 (adP b n r.1, r.2.1, r.2.2, r.2.2) ((if_pos h40).trans ((rB_r hr).trans ((if_neg (by decide)).trans (if_pos t51)))) _ (o7.tr oft8) hx
        ·
          have o8 := (o5 : Off 152 153 m _).tr q8
          show Wp g mX4_readInside _ _ _ 54 _ [] _ Q
          refine r_aload_n dX4_readInside_54 rfl ?_
          refine r_dup dX4_readInside_55 rfl ?_
          refine r_getIc (nI (o + 1)) dX4_readInside_56 fgX4_43 rfl (by exact k_152 h8.F) (by exact h8.2.2.1) ?_
          refine r_iconst (1) dX4_readInside_59 rfl ?_
          refine r_isub dX4_readInside_60 ?_
          refine r_putI dX4_readInside_61 (fpX4_43 _ rfl) rfl (by exact k_152 h8.F) ⟨rfl, rfl⟩ ?_
          rw [nI_p1]
          have hx := h8.st8 o
          refine r_return dX4_readInside_64 rfl ?_
          first
            | exact k0 er ((if_pos h40).trans (rB_l her)) _ (o8.tr oft8) hx
            | exact k0 (1, r.1) ((if_pos h40).trans ((rB_r hr).trans ((if_neg (by decide)).trans (if_neg t51)))) _ (o8.tr oft8) hx
    ·
      have o2 := q2
      show Wp g mX4_readInside _ _ _ 21 _ (_ :: _) _ Q
      refine r_if_eq 64 dX4_readInside_21 rfl (fun _ => ?_) (fun hz => absurd hz (by decide))
      refine r_return dX4_readInside_64 rfl ?_
      obtain ⟨-, hfn⟩ := hi.resolve_right (fun z => by omega)
      subst hfn
      exact k0 (3, s) (if_pos h40) m2 o2 h2
  ·
    refine r_aload_n dX4_readInside_9 rfl ?_
    refine r_iconst (1) dX4_readInside_10 rfl ?_
    refine r_callV1 (ci := 4) (d1 := 0) (c1 := 0) (n1 := 0) dX4_readInside_11 mvX4_77 rfl ⟨(Nat.le_of_ble_eq_true rfl), rfl⟩ (by omega) (by exact Nat.le_of_ble_eq_true rfl) (by exact k_152 h.F) ?_
    refine S_failS h (by decide) (fun m9 q9 h9 => ?_)
    have o9 := q9
    show Wp g mX4_readInside _ _ _ 14 _ [] _ Q
    refine r_goto 64 dX4_readInside_14 rfl ?_
    refine r_return dX4_readInside_64 rfl ?_
    exact k0 (1, s) (if_neg h40) m9 o9 h9
theorem S_ins1 {g : GG} {m : MM} {Q : Out → Prop} {b : Nat → Int32} {n s o d : Nat} {L : List Int32} {f : Option (Nat → Rs)} (hd : 7 ≤ d) (hi : InH g b n o d f) (h : RS b n s o L m) (ho : o ≤ 6) (hl : L.length ≤ s) (k0 : ∀ e, insP b n f true s = .inl e → ∀ m', Off 152 153 m m' → RB b n o e m' → Q (.inl none, m')) (k1 : ∀ r, insP b n f true s = .inr r → ∀ m', Off 152 153 m m' → RS b n r.1 o (L ++ r.2.1) m' → Q (.inl none, m')) : Cl g (d + 1) 0 0 mX4_readInside [.ref 152, .int 1] m Q := by
  refine Cl.of rfl (by decide) (Nat.le_of_ble_eq_true rfl) ?_
  show Wp g mX4_readInside (d + 1) 0 0 0 [.ref 152, .int 1] [] m Q
  have hn4 := h.1.2.1
  have hsn := h.2.1
  refine r_aload_n dX4_readInside_0 rfl ?_
  refine r_getIc (tkP b n s) dX4_readInside_1 fgX4_55 rfl (by exact k_152 h.F) (by exact h.tk) ?_
  refine r_bipush (40) dX4_readInside_4 rfl ?_
  refine r_icmp_eq 17 dX4_readInside_6 rfl (fun h40 => ?_) (fun h40 => ?_)
  ·
    refine r_aload_n dX4_readInside_17 rfl ?_
    refine r_callV0 (ci := 4) (d1 := 1) (c1 := 0) (n1 := 0) dX4_readInside_18 mvX4_104 rfl ⟨(Nat.le_of_ble_eq_true rfl), rfl⟩ (by omega) (by exact Nat.le_of_ble_eq_true rfl) (by exact k_152 h.F) ?_
    refine S_opensS h ho (fun ho1 m1 q1 h1 => ?_) (fun ho6 m2 q2 h2 => ?_)
    ·
      have o1 := q1
      show Wp g mX4_readInside _ _ _ 21 _ (_ :: _) _ Q
      refine r_if_eq 64 dX4_readInside_21 rfl (fun hz => absurd hz (by decide)) (fun _ => ?_)
      obtain ⟨-, F, hfF, gF, hF⟩ := hi.resolve_left (fun z => by omega)
      subst hfF
      have w := ad_of h40 (by decide)
      have hBs : NtB g b n mX4_readChain [.int 2] d := by obtain ⟨c, rfl⟩ : ∃ c, d = c + 5 := ⟨d - 5, by omega⟩; exact B_sum
      refine r_aload_n dX4_readInside_24 rfl ?_
      refine r_callV0 (ci := 4) (d1 := 6) (c1 := 0) (n1 := 0) dX4_readInside_25 mvX4_52 rfl ⟨(Nat.le_of_ble_eq_true rfl), rfl⟩ (by omega) (by exact Nat.le_of_ble_eq_true rfl) (by exact k_152 h1.F) ?_
      refine S_advS h1 (fun m3 q3 h3 => ?_)
      have o3 := (o1 : Off 152 153 m _).tr q3
      show Wp g mX4_readInside _ _ _ 28 _ [] _ Q
      refine r_aload_n dX4_readInside_28 rfl ?_
      refine r_iconst (2) dX4_readInside_29 rfl ?_
      refine r_callV1 (ci := 4) (d1 := d) (c1 := 0) (n1 := 0) dX4_readInside_30 mvX4_81 rfl ⟨(Nat.le_of_ble_eq_true rfl), rfl⟩ (by omega) (by exact Nat.le_of_ble_eq_true rfl) (by exact k_152 h3.F) ?_
      refine hF _ _ _ _ h3 (by omega) (fun er her m4 q4 h4 => ?_) (fun r hr m5 q5 h5 => ?_)
      ·
        have o4 := (o3 : Off 152 153 m _).tr q4
        show Wp g mX4_readInside _ _ _ 33 _ [] _ Q
        refine r_iload_n dX4_readInside_33 rfl ?_
        refine r_if_eq 48 dX4_readInside_34 rfl (fun hz => absurd hz (by decide)) (fun _ => ?_)
        refine r_aload_n dX4_readInside_37 rfl ?_
        refine r_bipush (44) dX4_readInside_38 rfl ?_
        refine r_callV1 (ci := 4) (d1 := 7) (c1 := 0) (n1 := 0) dX4_readInside_40 mvX4_84 rfl ⟨(Nat.le_of_ble_eq_true rfl), rfl⟩ (by omega) (by exact Nat.le_of_ble_eq_true rfl) (by exact k_152 h4.F) ?_
        refine S_takeB h4 (by decide) (fun m6 q6 h6 => ?_)
        have o6 := (o4 : Off 152 153 m _).tr q6
        show Wp g mX4_readInside _ _ _ 43 _ [] _ Q
        refine r_aload_n dX4_readInside_43 rfl ?_
        refine r_iconst (2) dX4_readInside_44 rfl ?_
        refine r_callV1 (ci := 4) (d1 := d) (c1 := 0) (n1 := 0) dX4_readInside_45 mvX4_81 rfl ⟨(Nat.le_of_ble_eq_true rfl), rfl⟩ (by omega) (by exact Nat.le_of_ble_eq_true rfl) (by exact k_152 h6.F) ?_
        refine hBs _ _ _ _ h6 (fun m7 q7 h7 => ?_)
        have o7 := (o6 : Off 152 153 m _).tr q7
        show Wp g mX4_readInside _ _ _ 48 _ [] _ Q
        refine r_aload_n dX4_readInside_48 rfl ?_
        refine r_bipush (41) dX4_readInside_49 rfl ?_
        refine r_callV1 (ci := 4) (d1 := 7) (c1 := 0) (n1 := 0) dX4_readInside_51 mvX4_84 rfl ⟨(Nat.le_of_ble_eq_true rfl), rfl⟩ (by omega) (by exact Nat.le_of_ble_eq_true rfl) (by exact k_152 h7.F) ?_
        refine S_takeB h7 (by decide) (fun m8 q8 h8 => ?_)
        have o8 := (o7 : Off 152 153 m _).tr q8
        show Wp g mX4_readInside _ _ _ 54 _ [] _ Q
        refine r_aload_n dX4_readInside_54 rfl ?_
        refine r_dup dX4_readInside_55 rfl ?_
        refine r_getIc (nI (o + 1)) dX4_readInside_56 fgX4_43 rfl (by exact k_152 h8.F) (by exact h8.2.2.1) ?_
        refine r_iconst (1) dX4_readInside_59 rfl ?_
        refine r_isub dX4_readInside_60 ?_
        refine r_putI dX4_readInside_61 (fpX4_43 _ rfl) rfl (by exact k_152 h8.F) ⟨rfl, rfl⟩ ?_
        rw [nI_p1]
        have hx := h8.st8 o
        refine r_return dX4_readInside_64 rfl ?_
        first
          | exact k0 er ((if_pos h40).trans (rB_l her)) _ (o8.tr oft8) hx
          | exact k0 (1, r.1) ((if_pos h40).trans ((rB_r hr).trans ((if_pos rfl).trans (if_neg t40)))) _ (o8.tr oft8) hx
          | exact k0 er2 ((if_pos h40).trans ((rB_r hr).trans ((if_pos rfl).trans ((if_pos t40).trans (rB_l her2))))) _ (o8.tr oft8) hx
          | exact k0 (1, r2.1) ((if_pos h40).trans ((rB_r hr).trans ((if_pos rfl).trans ((if_pos t40).trans ((rB_r hr2).trans (if_neg t51)))))) _ (o8.tr oft8) hx
      ·
        have o5 := (o3 : Off 152 153 m _).tr q5
        show Wp g mX4_readInside _ _ _ 33 _ [] _ Q
        refine r_iload_n dX4_readInside_33 rfl ?_
        refine r_if_eq 48 dX4_readInside_34 rfl (fun hz => absurd hz (by decide)) (fun _ => ?_)
        refine r_aload_n dX4_readInside_37 rfl ?_
        refine r_bipush (44) dX4_readInside_38 rfl ?_
        refine r_callV1 (ci := 4) (d1 := 7) (c1 := 0) (n1 := 0) dX4_readInside_40 mvX4_84 rfl ⟨(Nat.le_of_ble_eq_true rfl), rfl⟩ (by omega) (by exact Nat.le_of_ble_eq_true rfl) (by exact k_152 h5.F) ?_
        refine S_takeS h5 (fun t40 m9 q9 h9 => ?_) (fun t40 m10 q10 h10 => ?_)
        ·
          have o9 := (o5 : Off 152 153 m _).tr q9
          show Wp g mX4_readInside _ _ _ 43 _ [] _ Q
          refine r_aload_n dX4_readInside_43 rfl ?_
          refine r_iconst (2) dX4_readInside_44 rfl ?_
          refine r_callV1 (ci := 4) (d1 := d) (c1 := 0) (n1 := 0) dX4_readInside_45 mvX4_81 rfl ⟨(Nat.le_of_ble_eq_true rfl), rfl⟩ (by omega) (by exact Nat.le_of_ble_eq_true rfl) (by exact k_152 h9.F) ?_
          refine hF _ _ _ _ h9 (by have := gF _ w.2.2 r hr; have w3 := ad_of t40 (by decide); rw [List.length_append]; omega) (fun er2 her2 m11 q11 h11 => ?_) (fun r2 hr2 m12 q12 h12 => ?_)
          ·
            have o11 := (o9 : Off 152 153 m _).tr q11
            show Wp g mX4_readInside _ _ _ 48 _ [] _ Q
            refine r_aload_n dX4_readInside_48 rfl ?_
            refine r_bipush (41) dX4_readInside_49 rfl ?_
            refine r_callV1 (ci := 4) (d1 := 7) (c1 := 0) (n1 := 0) dX4_readInside_51 mvX4_84 rfl ⟨(Nat.le_of_ble_eq_true rfl), rfl⟩ (by omega) (by exact Nat.le_of_ble_eq_true rfl) (by exact k_152 h11.F) ?_
            refine S_takeB h11 (by decide) (fun m13 q13 h13 => ?_)
            have o13 := (o11 : Off 152 153 m _).tr q13
            show Wp g mX4_readInside _ _ _ 54 _ [] _ Q
            refine r_aload_n dX4_readInside_54 rfl ?_
            refine r_dup dX4_readInside_55 rfl ?_
            refine r_getIc (nI (o + 1)) dX4_readInside_56 fgX4_43 rfl (by exact k_152 h13.F) (by exact h13.2.2.1) ?_
            refine r_iconst (1) dX4_readInside_59 rfl ?_
            refine r_isub dX4_readInside_60 ?_
            refine r_putI dX4_readInside_61 (fpX4_43 _ rfl) rfl (by exact k_152 h13.F) ⟨rfl, rfl⟩ ?_
            rw [nI_p1]
            have hx := h13.st8 o
            refine r_return dX4_readInside_64 rfl ?_
            first
              | exact k0 er ((if_pos h40).trans (rB_l her)) _ (o13.tr oft8) hx
              | exact k0 (1, r.1) ((if_pos h40).trans ((rB_r hr).trans ((if_pos rfl).trans (if_neg t40)))) _ (o13.tr oft8) hx
              | exact k0 er2 ((if_pos h40).trans ((rB_r hr).trans ((if_pos rfl).trans ((if_pos t40).trans (rB_l her2))))) _ (o13.tr oft8) hx
              | exact k0 (1, r2.1) ((if_pos h40).trans ((rB_r hr).trans ((if_pos rfl).trans ((if_pos t40).trans ((rB_r hr2).trans (if_neg t51)))))) _ (o13.tr oft8) hx
          ·
            have o12 := (o9 : Off 152 153 m _).tr q12
            show Wp g mX4_readInside _ _ _ 48 _ [] _ Q
            refine r_aload_n dX4_readInside_48 rfl ?_
            refine r_bipush (41) dX4_readInside_49 rfl ?_
            refine r_callV1 (ci := 4) (d1 := 7) (c1 := 0) (n1 := 0) dX4_readInside_51 mvX4_84 rfl ⟨(Nat.le_of_ble_eq_true rfl), rfl⟩ (by omega) (by exact Nat.le_of_ble_eq_true rfl) (by exact k_152 h12.F) ?_
            refine S_takeS h12 (fun t51 m14 q14 h14 => ?_) (fun t51 m15 q15 h15 => ?_)
            ·
              have o14 := (o12 : Off 152 153 m _).tr q14
              show Wp g mX4_readInside _ _ _ 54 _ [] _ Q
              refine r_aload_n dX4_readInside_54 rfl ?_
              refine r_dup dX4_readInside_55 rfl ?_
              refine r_getIc (nI (o + 1)) dX4_readInside_56 fgX4_43 rfl (by exact k_152 h14.F) (by exact h14.2.2.2.1) ?_
              refine r_iconst (1) dX4_readInside_59 rfl ?_
              refine r_isub dX4_readInside_60 ?_
              refine r_putI dX4_readInside_61 (fpX4_43 _ rfl) rfl (by exact k_152 h14.F) ⟨rfl, rfl⟩ ?_
              rw [nI_p1]
              have hx := h14.st8 o
              refine r_return dX4_readInside_64 rfl ?_
              rw [List.append_assoc] at hx
              exact k1 (adP b n r2.1, r.2.1 ++ r2.2.1, r.2.2, r2.2.2) ((if_pos h40).trans ((rB_r hr).trans ((if_pos rfl).trans ((if_pos t40).trans ((rB_r hr2).trans (if_pos t51)))))) _ (o14.tr oft8) hx
            ·
              have o15 := (o12 : Off 152 153 m _).tr q15
              show Wp g mX4_readInside _ _ _ 54 _ [] _ Q
              refine r_aload_n dX4_readInside_54 rfl ?_
              refine r_dup dX4_readInside_55 rfl ?_
              refine r_getIc (nI (o + 1)) dX4_readInside_56 fgX4_43 rfl (by exact k_152 h15.F) (by exact h15.2.2.1) ?_
              refine r_iconst (1) dX4_readInside_59 rfl ?_
              refine r_isub dX4_readInside_60 ?_
              refine r_putI dX4_readInside_61 (fpX4_43 _ rfl) rfl (by exact k_152 h15.F) ⟨rfl, rfl⟩ ?_
              rw [nI_p1]
              have hx := h15.st8 o
              refine r_return dX4_readInside_64 rfl ?_
              first
                | exact k0 er ((if_pos h40).trans (rB_l her)) _ (o15.tr oft8) hx
                | exact k0 (1, r.1) ((if_pos h40).trans ((rB_r hr).trans ((if_pos rfl).trans (if_neg t40)))) _ (o15.tr oft8) hx
                | exact k0 er2 ((if_pos h40).trans ((rB_r hr).trans ((if_pos rfl).trans ((if_pos t40).trans (rB_l her2))))) _ (o15.tr oft8) hx
                | exact k0 (1, r2.1) ((if_pos h40).trans ((rB_r hr).trans ((if_pos rfl).trans ((if_pos t40).trans ((rB_r hr2).trans (if_neg t51)))))) _ (o15.tr oft8) hx
        ·
          have o10 := (o5 : Off 152 153 m _).tr q10
          show Wp g mX4_readInside _ _ _ 43 _ [] _ Q
          refine r_aload_n dX4_readInside_43 rfl ?_
          refine r_iconst (2) dX4_readInside_44 rfl ?_
          refine r_callV1 (ci := 4) (d1 := d) (c1 := 0) (n1 := 0) dX4_readInside_45 mvX4_81 rfl ⟨(Nat.le_of_ble_eq_true rfl), rfl⟩ (by omega) (by exact Nat.le_of_ble_eq_true rfl) (by exact k_152 h10.F) ?_
          refine hBs _ _ _ _ h10 (fun m16 q16 h16 => ?_)
          have o16 := (o10 : Off 152 153 m _).tr q16
          show Wp g mX4_readInside _ _ _ 48 _ [] _ Q
          refine r_aload_n dX4_readInside_48 rfl ?_
          refine r_bipush (41) dX4_readInside_49 rfl ?_
          refine r_callV1 (ci := 4) (d1 := 7) (c1 := 0) (n1 := 0) dX4_readInside_51 mvX4_84 rfl ⟨(Nat.le_of_ble_eq_true rfl), rfl⟩ (by omega) (by exact Nat.le_of_ble_eq_true rfl) (by exact k_152 h16.F) ?_
          refine S_takeB h16 (by decide) (fun m17 q17 h17 => ?_)
          have o17 := (o16 : Off 152 153 m _).tr q17
          show Wp g mX4_readInside _ _ _ 54 _ [] _ Q
          refine r_aload_n dX4_readInside_54 rfl ?_
          refine r_dup dX4_readInside_55 rfl ?_
          refine r_getIc (nI (o + 1)) dX4_readInside_56 fgX4_43 rfl (by exact k_152 h17.F) (by exact h17.2.2.1) ?_
          refine r_iconst (1) dX4_readInside_59 rfl ?_
          refine r_isub dX4_readInside_60 ?_
          refine r_putI dX4_readInside_61 (fpX4_43 _ rfl) rfl (by exact k_152 h17.F) ⟨rfl, rfl⟩ ?_
          rw [nI_p1]
          have hx := h17.st8 o
          refine r_return dX4_readInside_64 rfl ?_
          first
            | exact k0 er ((if_pos h40).trans (rB_l her)) _ (o17.tr oft8) hx
            | exact k0 (1, r.1) ((if_pos h40).trans ((rB_r hr).trans ((if_pos rfl).trans (if_neg t40)))) _ (o17.tr oft8) hx
            | exact k0 er2 ((if_pos h40).trans ((rB_r hr).trans ((if_pos rfl).trans ((if_pos t40).trans (rB_l her2))))) _ (o17.tr oft8) hx
            | exact k0 (1, r2.1) ((if_pos h40).trans ((rB_r hr).trans ((if_pos rfl).trans ((if_pos t40).trans ((rB_r hr2).trans (if_neg t51)))))) _ (o17.tr oft8) hx
    ·
      have o2 := q2
      show Wp g mX4_readInside _ _ _ 21 _ (_ :: _) _ Q
      refine r_if_eq 64 dX4_readInside_21 rfl (fun _ => ?_) (fun hz => absurd hz (by decide))
      refine r_return dX4_readInside_64 rfl ?_
      obtain ⟨-, hfn⟩ := hi.resolve_right (fun z => by omega)
      subst hfn
      exact k0 (3, s) (if_pos h40) m2 o2 h2
  ·
    refine r_aload_n dX4_readInside_9 rfl ?_
    refine r_iconst (1) dX4_readInside_10 rfl ?_
    refine r_callV1 (ci := 4) (d1 := 0) (c1 := 0) (n1 := 0) dX4_readInside_11 mvX4_77 rfl ⟨(Nat.le_of_ble_eq_true rfl), rfl⟩ (by omega) (by exact Nat.le_of_ble_eq_true rfl) (by exact k_152 h.F) ?_
    refine S_failS h (by decide) (fun m18 q18 h18 => ?_)
    have o18 := q18
    show Wp g mX4_readInside _ _ _ 14 _ [] _ Q
    refine r_goto 64 dX4_readInside_14 rfl ?_
    refine r_return dX4_readInside_64 rfl ?_
    exact k0 (1, s) (if_neg h40) m18 o18 h18
