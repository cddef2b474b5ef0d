def NtOK (g : GG) (b : Nat → Int32) (n : Nat) (μ : MD) (as : List Value) (o d : Nat) (f : Nat → Rs) : Prop := ∀ (m : MM) (s : Nat) (L : List Int32) (Q : Out → Prop), RS b n s o L m → L.length ≤ s → (∀ e, f s = .inl e → ∀ m', Off 152 153 m m' → RB b n o e m' → Q (.inl none, m')) → (∀ r, f s = .inr r → ∀ m', Off 152 153 m m' → RS b n r.1 o (L ++ r.2.1) m' → Q (.inl none, m')) → Cl g d 0 0 μ (.ref 152 :: as) m Q
def NtB (g : GG) (b : Nat → Int32) (n : Nat) (μ : MD) (as : List Value) (d : Nat) : Prop := ∀ (m : MM) (o : Nat) (e : Er) (Q : Out → Prop), RB b n o e m → (∀ m', Off 152 153 m m' → RB b n o e m' → Q (.inl none, m')) → Cl g d 0 0 μ (.ref 152 :: as) m Q
theorem z512 (t : Int32) : (0 : Int32) * 512 + t = t := by rw [← Int32.toBitVec_inj]; simp
theorem nI_p1 (o : Nat) : nI (o + 1) - 1 = nI o := nI_pred o
theorem T_chB0 {g : GG} {m : MM} {Q : Out → Prop} {b : Nat → Int32} {n o d : Nat} {e : Er} (h : RB b n o e m) {x2 : Int32} {x3 : Value} (k : Q (.inl none, m)) : Wp g mX4_readChain (d + 1) 0 0 7 [.ref 152, .int 0, .int x2, x3] [] m Q := by
  refine r_iload_n dX4_readChain_7 rfl ?_
  refine r_aload_n dX4_readChain_8 rfl ?_
  refine r_getIc (nI n) dX4_readChain_9 fgX4_27 rfl (by exact k_152 h.F) (by exact h.1.2.2.2.1) ?_
  refine r_icmp_ge 49 dX4_readChain_12 rfl (fun hx1 => ?_) (fun hx1 => ?_)
  ·
    refine r_return dX4_readChain_49 rfl ?_
    exact k
  ·
    refine r_aload_n dX4_readChain_15 rfl ?_
    refine r_iload_n dX4_readChain_16 rfl ?_
    refine r_callV1 (ci := 4) (d1 := 0) (c1 := 0) (n1 := 0) dX4_readChain_17 mvX4_94 rfl ⟨(Nat.le_of_ble_eq_true rfl), rfl⟩ (by omega) (by exact Nat.le_of_ble_eq_true rfl) (by exact k_152 h.F) ?_
    refine S_isJ0 h.F h.2.1 (fun hz => absurd hz (by decide)) (fun _ => ?_)
    show Wp g mX4_readChain _ _ _ 20 _ (_ :: _) _ Q
    refine r_if_eq 49 dX4_readChain_20 rfl (fun _ => ?_) (fun hz => absurd hz (by decide))
    refine r_return dX4_readChain_49 rfl ?_
    exact k
theorem L_ch0 {g : GG} {Q : Out → Prop} {b : Nat → Int32} {n o d : Nat} {f : Nat → Rs} {L : List Int32} (hd : 6 ≤ d) (hp : NtOK g b n mX4_readPart [.int 0] o d f) (hg : GdF b n f) : ∀ (t i : Nat) (a : Ok) (m : MM) (x3 : Value), i + t = n → RS b n a.1 o (L ++ a.2.1) m → (L ++ a.2.1).length ≤ a.1 → (∀ e, chL b n f J0 t a = .inl e → ∀ m', Off 152 153 m m' → RB b n o e m' → Q (.inl none, m')) → (∀ r, chL b n f J0 t a = .inr r → ∀ m', Off 152 153 m m' → RS b n r.1 o (L ++ r.2.1) m' → Q (.inl none, m')) → Wp g mX4_readChain (d + 1) 0 0 7 [.ref 152, .int 0, .int (nI i), x3] [] m Q := by
  intro t
  induction t with
  | zero =>
    intro i a m x3 hi h hl k0 k1
    have hn4 := h.1.2.1
    obtain rfl : i = n := by omega
    refine r_iload_n dX4_readChain_7 rfl ?_
    refine r_aload_n dX4_readChain_8 rfl ?_
    refine r_getIc (nI i) dX4_readChain_9 fgX4_27 rfl (by exact k_152 h.F) (by exact h.1.2.2.2.1) ?_
    refine r_icmp_ge 49 dX4_readChain_12 rfl (fun hge => ?_) (fun hge => ?_)
    ·
      refine r_return dX4_readChain_49 rfl ?_
      exact k1 a rfl m Off.rf h
    ·
      exact absurd (nI_le (Nat.le_refl _) (by omega)) hge
  | succ t ih =>
    intro i a m x3 hi h hl k0 k1
    have hn4 := h.1.2.1
    have han := h.2.1
    refine r_iload_n dX4_readChain_7 rfl ?_
    refine r_aload_n dX4_readChain_8 rfl ?_
    refine r_getIc (nI n) dX4_readChain_9 fgX4_27 rfl (by exact k_152 h.F) (by exact h.1.2.2.2.1) ?_
    refine r_icmp_ge 49 dX4_readChain_12 rfl (fun hge => ?_) (fun hge => ?_)
    ·
      refine r_return dX4_readChain_49 rfl ?_
      exact absurd hge (nI_ge (by omega) (by omega))
    ·
      refine r_aload_n dX4_readChain_15 rfl ?_
      refine r_iload_n dX4_readChain_16 rfl ?_
      refine r_callV1 (ci := 4) (d1 := 0) (c1 := 0) (n1 := 0) dX4_readChain_17 mvX4_94 rfl ⟨(Nat.le_of_ble_eq_true rfl), rfl⟩ (by omega) (by exact Nat.le_of_ble_eq_true rfl) (by exact k_152 h.F) ?_
      refine S_isJ0 h.F h.tk (fun hj => ?_) (fun hj => ?_)
      ·
        have w := ad_of (b := b) (n := n) (s := a.1) rfl (fun q => by rw [q] at hj; exact absurd hj (by decide))
        show Wp g mX4_readChain _ _ _ 20 _ (_ :: _) _ Q
        refine r_if_eq 49 dX4_readChain_20 rfl (fun hz => absurd hz (by decide)) (fun _ => ?_)
        refine r_aload_n dX4_readChain_23 rfl ?_
        refine r_getIc (tkP b n a.1) dX4_readChain_24 fgX4_55 rfl (by exact k_152 h.F) (by exact h.tk) ?_
        refine si_3 dX4_readChain_27 rfl (Nat.le_of_ble_eq_true rfl) ?_
        refine r_aload_n dX4_readChain_28 rfl ?_
        refine r_callV0 (ci := 4) (d1 := 6) (c1 := 0) (n1 := 0) dX4_readChain_29 mvX4_52 rfl ⟨(Nat.le_of_ble_eq_true rfl), rfl⟩ (by omega) (by exact Nat.le_of_ble_eq_true rfl) (by exact k_152 h.F) ?_
        refine S_advS h (fun m1 q1 h1 => ?_)
        have o1 := q1
        show Wp g mX4_readChain _ _ _ 32 _ [] _ Q
        refine r_aload_n dX4_readChain_32 rfl ?_
        refine r_iload_n dX4_readChain_33 rfl ?_
        refine r_callV1 (ci := 4) (d1 := d) (c1 := 0) (n1 := 0) dX4_readChain_34 mvX4_91 rfl ⟨(Nat.le_of_ble_eq_true rfl), rfl⟩ (by omega) (by exact Nat.le_of_ble_eq_true rfl) (by exact k_152 h1.F) ?_
        refine hp _ _ _ _ h1 (by omega) (fun er her m2 q2 h2 => ?_) (fun r hr m3 q3 h3 => ?_)
        ·
          have o2 := (o1 : Off 152 153 m _).tr q2
          show Wp g mX4_readChain _ _ _ 37 _ [] _ Q
          refine r_aload_n dX4_readChain_37 rfl ?_
          refine r_iload_n dX4_readChain_38 rfl ?_
          refine r_iconst (0) dX4_readChain_39 rfl ?_
          refine r_callV2 (ci := 4) (d1 := 0) (c1 := 0) (n1 := 0) dX4_readChain_40 mvX4_87 rfl ⟨(Nat.le_of_ble_eq_true rfl), rfl⟩ (by omega) (by exact Nat.le_of_ble_eq_true rfl) (by exact k_152 h2.F) ?_
          refine S_emitB h2 (fun m4 q4 h4 => ?_)
          have o4 := (o2 : Off 152 153 m _).tr q4
          show Wp g mX4_readChain _ _ _ 43 _ [] _ Q
          refine ic_2 (1) dX4_readChain_43 rfl rfl (Nat.le_of_ble_eq_true rfl) ?_
          refine r_goto 7 dX4_readChain_46 rfl ?_
          exact T_chB0 h4 (k0 er ((if_pos hj).trans (rB_l her)) m4 o4 h4)
        ·
          have o3 := (o1 : Off 152 153 m _).tr q3
          show Wp g mX4_readChain _ _ _ 37 _ [] _ Q
          refine r_aload_n dX4_readChain_37 rfl ?_
          refine r_iload_n dX4_readChain_38 rfl ?_
          refine r_iconst (0) dX4_readChain_39 rfl ?_
          refine r_callV2 (ci := 4) (d1 := 0) (c1 := 0) (n1 := 0) dX4_readChain_40 mvX4_87 rfl ⟨(Nat.le_of_ble_eq_true rfl), rfl⟩ (by omega) (by exact Nat.le_of_ble_eq_true rfl) (by exact k_152 h3.F) ?_
          refine S_emitS h3 (v := tkP b n a.1) (z512 _) (by have := hg _ w.2.2 r hr; rw [List.length_append]; omega) (fun m5 q5 h5 => ?_)
          have o5 := (o3 : Off 152 153 m _).tr q5
          show Wp g mX4_readChain _ _ _ 43 _ [] _ Q
          refine ic_2 (1) dX4_readChain_43 rfl rfl (Nat.le_of_ble_eq_true rfl) ?_
          refine r_goto 7 dX4_readChain_46 rfl ?_
          rw [nI_1 i]
          have e9 : chL b n f J0 (t + 1) a = chL b n f J0 t (r.1, a.2.1 ++ r.2.1 ++ [tkP b n a.1], fun N => jnF (tkP b n a.1) (a.2.2 N) (r.2.2 N)) := (if_pos hj).trans (rB_r hr)
          rw [e9] at k0 k1
          refine ih (i + 1) (r.1, a.2.1 ++ r.2.1 ++ [tkP b n a.1], fun N => jnF (tkP b n a.1) (a.2.2 N) (r.2.2 N)) m5 _ (by omega) ?_ ?_ (fun e he m9 q9 => k0 e he m9 (o5.tr q9)) (fun r hr m9 q9 => k1 r hr m9 (o5.tr q9))
          · show RS b n r.1 o (L ++ (a.2.1 ++ r.2.1 ++ [tkP b n a.1])) m5; rw [← List.append_assoc, ← List.append_assoc]; exact h5
          · show (L ++ (a.2.1 ++ r.2.1 ++ [tkP b n a.1])).length ≤ r.1; have := hg _ w.2.2 r hr; rw [← List.append_assoc, ← List.append_assoc, List.length_append, List.length_append, List.length_singleton]; omega
      ·
        show Wp g mX4_readChain _ _ _ 20 _ (_ :: _) _ Q
        refine r_if_eq 49 dX4_readChain_20 rfl (fun _ => ?_) (fun hz => absurd hz (by decide))
        refine r_return dX4_readChain_49 rfl ?_
        exact k1 a (if_neg hj) m Off.rf h
theorem S_chain0 {g : GG} {b : Nat → Int32} {n o d : Nat} {f : Nat → Rs} (hd : 6 ≤ d) (hp : NtOK g b n mX4_readPart [.int 0] o d f) (hg : GdF b n f) : NtOK g b n mX4_readChain [.int 0] o (d + 1) (chn b n f J0) := by
  intro m s L Q h hl k0 k1
  refine Cl.of rfl (by decide) (Nat.le_of_ble_eq_true rfl) ?_
  show Wp g mX4_readChain (d + 1) 0 0 0 [.ref 152, .int 0, .retAddr 0, .retAddr 0] [] m Q
  have hn4 := h.1.2.1
  have hsn := h.2.1
  refine r_aload_n dX4_readChain_0 rfl ?_
  refine r_iload_n dX4_readChain_1 rfl ?_
  refine r_callV1 (ci := 4) (d1 := d) (c1 := 0) (n1 := 0) dX4_readChain_2 mvX4_91 rfl ⟨(Nat.le_of_ble_eq_true rfl), rfl⟩ (by omega) (by exact Nat.le_of_ble_eq_true rfl) (by exact k_152 h.F) ?_
  refine hp _ _ _ _ h (by omega) (fun er her m1 q1 h1 => ?_) (fun r hr m2 q2 h2 => ?_)
  ·
    have o1 := q1
    show Wp g mX4_readChain _ _ _ 5 _ [] _ Q
    refine r_iconst (0) dX4_readChain_5 rfl ?_
    refine si_2 dX4_readChain_6 rfl (Nat.le_of_ble_eq_true rfl) ?_
    exact T_chB0 h1 (k0 er (rB_l her) m1 o1 h1)
  ·
    have o2 := q2
    show Wp g mX4_readChain _ _ _ 5 _ [] _ Q
    refine r_iconst (0) dX4_readChain_5 rfl ?_
    refine si_2 dX4_readChain_6 rfl (Nat.le_of_ble_eq_true rfl) ?_
    have e9 : chn b n f J0 s = chL b n f J0 n r := rB_r hr
    rw [e9] at k0 k1
    exact L_ch0 hd hp hg n 0 r m2 _ (by omega) h2 (by have := hg _ hsn r hr; rw [List.length_append]; omega) (fun e he m9 q9 => k0 e he m9 (o2.tr q9)) (fun r hr m9 q9 => k1 r hr m9 (o2.tr q9))
theorem T_chB1 {g : GG} {m : MM} {Q : Out → Prop} {b : Nat → Int32} {n o d : Nat} {e : Er} (h : RB b n o e m) {x2 : Int32} {x3 : Value} (k : Q (.inl none, m)) : Wp g mX4_readChain (d + 1) 0 0 7 [.ref 152, .int 1, .int x2, x3] [] m Q := by
  refine r_iload_n dX4_readChain_7 rfl ?_
  refine r_aload_n dX4_readChain_8 rfl ?_
  refine r_getIc (nI n) dX4_readChain_9 fgX4_27 rfl (by exact k_152 h.F) (by exact h.1.2.2.2.1) ?_
  refine r_icmp_ge 49 dX4_readChain_12 rfl (fun hx1 => ?_) (fun hx1 => ?_)
  ·
    refine r_return dX4_readChain_49 rfl ?_
    exact k
  ·
    refine r_aload_n dX4_readChain_15 rfl ?_
    refine r_iload_n dX4_readChain_16 rfl ?_
    refine r_callV1 (ci := 4) (d1 := 0) (c1 := 0) (n1 := 0) dX4_readChain_17 mvX4_94 rfl ⟨(Nat.le_of_ble_eq_true rfl), rfl⟩ (by omega) (by exact Nat.le_of_ble_eq_true rfl) (by exact k_152 h.F) ?_
    refine S_isJ1 h.F h.2.1 (fun hz => absurd hz (by decide)) (fun _ => ?_)
    show Wp g mX4_readChain _ _ _ 20 _ (_ :: _) _ Q
    refine r_if_eq 49 dX4_readChain_20 rfl (fun _ => ?_) (fun hz => absurd hz (by decide))
    refine r_return dX4_readChain_49 rfl ?_
    exact k
theorem L_ch1 {g : GG} {Q : Out → Prop} {b : Nat → Int32} {n o d : Nat} {f : Nat → Rs} {L : List Int32} (hd : 6 ≤ d) (hp : NtOK g b n mX4_readPart [.int 1] o d f) (hg : GdF b n f) : ∀ (t i : Nat) (a : Ok) (m : MM) (x3 : Value), i + t = n → RS b n a.1 o (L ++ a.2.1) m → (L ++ a.2.1).length ≤ a.1 → (∀ e, chL b n f J1 t a = .inl e → ∀ m', Off 152 153 m m' → RB b n o e m' → Q (.inl none, m')) → (∀ r, chL b n f J1 t a = .inr r → ∀ m', Off 152 153 m m' → RS b n r.1 o (L ++ r.2.1) m' → Q (.inl none, m')) → Wp g mX4_readChain (d + 1) 0 0 7 [.ref 152, .int 1, .int (nI i), x3] [] m Q := by
  intro t
  induction t with
  | zero =>
    intro i a m x3 hi h hl k0 k1
    have hn4 := h.1.2.1
    obtain rfl : i = n := by omega
    refine r_iload_n dX4_readChain_7 rfl ?_
    refine r_aload_n dX4_readChain_8 rfl ?_
    refine r_getIc (nI i) dX4_readChain_9 fgX4_27 rfl (by exact k_152 h.F) (by exact h.1.2.2.2.1) ?_
    refine r_icmp_ge 49 dX4_readChain_12 rfl (fun hge => ?_) (fun hge => ?_)
    ·
      refine r_return dX4_readChain_49 rfl ?_
      exact k1 a rfl m Off.rf h
    ·
      exact absurd (nI_le (Nat.le_refl _) (by omega)) hge
  | succ t ih =>
    intro i a m x3 hi h hl k0 k1
    have hn4 := h.1.2.1
    have han := h.2.1
    refine r_iload_n dX4_readChain_7 rfl ?_
    refine r_aload_n dX4_readChain_8 rfl ?_
    refine r_getIc (nI n) dX4_readChain_9 fgX4_27 rfl (by exact k_152 h.F) (by exact h.1.2.2.2.1) ?_
    refine r_icmp_ge 49 dX4_readChain_12 rfl (fun hge => ?_) (fun hge => ?_)
    ·
      refine r_return dX4_readChain_49 rfl ?_
      exact absurd hge (nI_ge (by omega) (by omega))
    ·
      refine r_aload_n dX4_readChain_15 rfl ?_
      refine r_iload_n dX4_readChain_16 rfl ?_
      refine r_callV1 (ci := 4) (d1 := 0) (c1 := 0) (n1 := 0) dX4_readChain_17 mvX4_94 rfl ⟨(Nat.le_of_ble_eq_true rfl), rfl⟩ (by omega) (by exact Nat.le_of_ble_eq_true rfl) (by exact k_152 h.F) ?_
      refine S_isJ1 h.F h.tk (fun hj => ?_) (fun hj => ?_)
      ·
        have w := ad_of (b := b) (n := n) (s := a.1) rfl (fun q => by rw [q] at hj; exact absurd hj (by decide))
        show Wp g mX4_readChain _ _ _ 20 _ (_ :: _) _ Q
        refine r_if_eq 49 dX4_readChain_20 rfl (fun hz => absurd hz (by decide)) (fun _ => ?_)
        refine r_aload_n dX4_readChain_23 rfl ?_
        refine r_getIc (tkP b n a.1) dX4_readChain_24 fgX4_55 rfl (by exact k_152 h.F) (by exact h.tk) ?_
        refine si_3 dX4_readChain_27 rfl (Nat.le_of_ble_eq_true rfl) ?_
        refine r_aload_n dX4_readChain_28 rfl ?_
        refine r_callV0 (ci := 4) (d1 := 6) (c1 := 0) (n1 := 0) dX4_readChain_29 mvX4_52 rfl ⟨(Nat.le_of_ble_eq_true rfl), rfl⟩ (by omega) (by exact Nat.le_of_ble_eq_true rfl) (by exact k_152 h.F) ?_
        refine S_advS h (fun m1 q1 h1 => ?_)
        have o1 := q1
        show Wp g mX4_readChain _ _ _ 32 _ [] _ Q
        refine r_aload_n dX4_readChain_32 rfl ?_
        refine r_iload_n dX4_readChain_33 rfl ?_
        refine r_callV1 (ci := 4) (d1 := d) (c1 := 0) (n1 := 0) dX4_readChain_34 mvX4_91 rfl ⟨(Nat.le_of_ble_eq_true rfl), rfl⟩ (by omega) (by exact Nat.le_of_ble_eq_true rfl) (by exact k_152 h1.F) ?_
        refine hp _ _ _ _ h1 (by omega) (fun er her m2 q2 h2 => ?_) (fun r hr m3 q3 h3 => ?_)
        ·
          have o2 := (o1 : Off 152 153 m _).tr q2
          show Wp g mX4_readChain _ _ _ 37 _ [] _ Q
          refine r_aload_n dX4_readChain_37 rfl ?_
          refine r_iload_n dX4_readChain_38 rfl ?_
          refine r_iconst (0) dX4_readChain_39 rfl ?_
          refine r_callV2 (ci := 4) (d1 := 0) (c1 := 0) (n1 := 0) dX4_readChain_40 mvX4_87 rfl ⟨(Nat.le_of_ble_eq_true rfl), rfl⟩ (by omega) (by exact Nat.le_of_ble_eq_true rfl) (by exact k_152 h2.F) ?_
          refine S_emitB h2 (fun m4 q4 h4 => ?_)
          have o4 := (o2 : Off 152 153 m _).tr q4
          show Wp g mX4_readChain _ _ _ 43 _ [] _ Q
          refine ic_2 (1) dX4_readChain_43 rfl rfl (Nat.le_of_ble_eq_true rfl) ?_
          refine r_goto 7 dX4_readChain_46 rfl ?_
          exact T_chB1 h4 (k0 er ((if_pos hj).trans (rB_l her)) m4 o4 h4)
        ·
          have o3 := (o1 : Off 152 153 m _).tr q3
          show Wp g mX4_readChain _ _ _ 37 _ [] _ Q
          refine r_aload_n dX4_readChain_37 rfl ?_
          refine r_iload_n dX4_readChain_38 rfl ?_
          refine r_iconst (0) dX4_readChain_39 rfl ?_
          refine r_callV2 (ci := 4) (d1 := 0) (c1 := 0) (n1 := 0) dX4_readChain_40 mvX4_87 rfl ⟨(Nat.le_of_ble_eq_true rfl), rfl⟩ (by omega) (by exact Nat.le_of_ble_eq_true rfl) (by exact k_152 h3.F) ?_
          refine S_emitS h3 (v := tkP b n a.1) (z512 _) (by have := hg _ w.2.2 r hr; rw [List.length_append]; omega) (fun m5 q5 h5 => ?_)
          have o5 := (o3 : Off 152 153 m _).tr q5
          show Wp g mX4_readChain _ _ _ 43 _ [] _ Q
          refine ic_2 (1) dX4_readChain_43 rfl rfl (Nat.le_of_ble_eq_true rfl) ?_
          refine r_goto 7 dX4_readChain_46 rfl ?_
          rw [nI_1 i]
          have e9 : chL b n f J1 (t + 1) a = chL b n f J1 t (r.1, a.2.1 ++ r.2.1 ++ [tkP b n a.1], fun N => jnF (tkP b n a.1) (a.2.2 N) (r.2.2 N)) := (if_pos hj).trans (rB_r hr)
          rw [e9] at k0 k1
          refine ih (i + 1) (r.1, a.2.1 ++ r.2.1 ++ [tkP b n a.1], fun N => jnF (tkP b n a.1) (a.2.2 N) (r.2.2 N)) m5 _ (by omega) ?_ ?_ (fun e he m9 q9 => k0 e he m9 (o5.tr q9)) (fun r hr m9 q9 => k1 r hr m9 (o5.tr q9))
          · show RS b n r.1 o (L ++ (a.2.1 ++ r.2.1 ++ [tkP b n a.1])) m5; rw [← List.append_assoc, ← List.append_assoc]; exact h5
          · show (L ++ (a.2.1 ++ r.2.1 ++ [tkP b n a.1])).length ≤ r.1; have := hg _ w.2.2 r hr; rw [← List.append_assoc, ← List.append_assoc, List.length_append, List.length_append, List.length_singleton]; omega
      ·
        show Wp g mX4_readChain _ _ _ 20 _ (_ :: _) _ Q
        refine r_if_eq 49 dX4_readChain_20 rfl (fun _ => ?_) (fun hz => absurd hz (by decide))
        refine r_return dX4_readChain_49 rfl ?_
        exact k1 a (if_neg hj) m Off.rf h
theorem S_chain1 {g : GG} {b : Nat → Int32} {n o d : Nat} {f : Nat → Rs} (hd : 6 ≤ d) (hp : NtOK g b n mX4_readPart [.int 1] o d f) (hg : GdF b n f) : NtOK g b n mX4_readChain [.int 1] o (d + 1) (chn b n f J1) := by
  intro m s L Q h hl k0 k1
  refine Cl.of rfl (by decide) (Nat.le_of_ble_eq_true rfl) ?_
  show Wp g mX4_readChain (d + 1) 0 0 0 [.ref 152, .int 1, .retAddr 0, .retAddr 0] [] m Q
  have hn4 := h.1.2.1
  have hsn := h.2.1
  refine r_aload_n dX4_readChain_0 rfl ?_
  refine r_iload_n dX4_readChain_1 rfl ?_
  refine r_callV1 (ci := 4) (d1 := d) (c1 := 0) (n1 := 0) dX4_readChain_2 mvX4_91 rfl ⟨(Nat.le_of_ble_eq_true rfl), rfl⟩ (by omega) (by exact Nat.le_of_ble_eq_true rfl) (by exact k_152 h.F) ?_
  refine hp _ _ _ _ h (by omega) (fun er her m1 q1 h1 => ?_) (fun r hr m2 q2 h2 => ?_)
  ·
    have o1 := q1
    show Wp g mX4_readChain _ _ _ 5 _ [] _ Q
    refine r_iconst (0) dX4_readChain_5 rfl ?_
    refine si_2 dX4_readChain_6 rfl (Nat.le_of_ble_eq_true rfl) ?_
    exact T_chB1 h1 (k0 er (rB_l her) m1 o1 h1)
  ·
    have o2 := q2
    show Wp g mX4_readChain _ _ _ 5 _ [] _ Q
    refine r_iconst (0) dX4_readChain_5 rfl ?_
    refine si_2 dX4_readChain_6 rfl (Nat.le_of_ble_eq_true rfl) ?_
    have e9 : chn b n f J1 s = chL b n f J1 n r := rB_r hr
    rw [e9] at k0 k1
    exact L_ch1 hd hp hg n 0 r m2 _ (by omega) h2 (by have := hg _ hsn r hr; rw [List.length_append]; omega) (fun e he m9 q9 => k0 e he m9 (o2.tr q9)) (fun r hr m9 q9 => k1 r hr m9 (o2.tr q9))
theorem T_chB2 {g : GG} {m : MM} {Q : Out → Prop} {b : Nat → Int32} {n o d : Nat} {e : Er} (h : RB b n o e m) {x2 : Int32} {x3 : Value} (k : Q (.inl none, m)) : Wp g mX4_readChain (d + 1) 0 0 7 [.ref 152, .int 2, .int x2, x3] [] m Q := by
  refine r_iload_n dX4_readChain_7 rfl ?_
  refine r_aload_n dX4_readChain_8 rfl ?_
  refine r_getIc (nI n) dX4_readChain_9 fgX4_27 rfl (by exact k_152 h.F) (by exact h.1.2.2.2.1) ?_
  refine r_icmp_ge 49 dX4_readChain_12 rfl (fun hx1 => ?_) (fun hx1 => ?_)
  ·
    refine r_return dX4_readChain_49 rfl ?_
    exact k
  ·
    refine r_aload_n dX4_readChain_15 rfl ?_
    refine r_iload_n dX4_readChain_16 rfl ?_
    refine r_callV1 (ci := 4) (d1 := 0) (c1 := 0) (n1 := 0) dX4_readChain_17 mvX4_94 rfl ⟨(Nat.le_of_ble_eq_true rfl), rfl⟩ (by omega) (by exact Nat.le_of_ble_eq_true rfl) (by exact k_152 h.F) ?_
    refine S_isJ2 h.F h.2.1 (fun hz => absurd hz (by decide)) (fun _ => ?_)
    show Wp g mX4_readChain _ _ _ 20 _ (_ :: _) _ Q
    refine r_if_eq 49 dX4_readChain_20 rfl (fun _ => ?_) (fun hz => absurd hz (by decide))
    refine r_return dX4_readChain_49 rfl ?_
    exact k
theorem L_ch2 {g : GG} {Q : Out → Prop} {b : Nat → Int32} {n o d : Nat} {f : Nat → Rs} {L : List Int32} (hd : 6 ≤ d) (hp : NtOK g b n mX4_readPart [.int 2] o d f) (hg : GdF b n f) : ∀ (t i : Nat) (a : Ok) (m : MM) (x3 : Value), i + t = n → RS b n a.1 o (L ++ a.2.1) m → (L ++ a.2.1).length ≤ a.1 → (∀ e, chL b n f J2 t a = .inl e → ∀ m', Off 152 153 m m' → RB b n o e m' → Q (.inl none, m')) → (∀ r, chL b n f J2 t a = .inr r → ∀ m', Off 152 153 m m' → RS b n r.1 o (L ++ r.2.1) m' → Q (.inl none, m')) → Wp g mX4_readChain (d + 1) 0 0 7 [.ref 152, .int 2, .int (nI i), x3] [] m Q := by
  intro t
  induction t with
  | zero =>
    intro i a m x3 hi h hl k0 k1
    have hn4 := h.1.2.1
    obtain rfl : i = n := by omega
    refine r_iload_n dX4_readChain_7 rfl ?_
    refine r_aload_n dX4_readChain_8 rfl ?_
    refine r_getIc (nI i) dX4_readChain_9 fgX4_27 rfl (by exact k_152 h.F) (by exact h.1.2.2.2.1) ?_
    refine r_icmp_ge 49 dX4_readChain_12 rfl (fun hge => ?_) (fun hge => ?_)
    ·
      refine r_return dX4_readChain_49 rfl ?_
      exact k1 a rfl m Off.rf h
    ·
      exact absurd (nI_le (Nat.le_refl _) (by omega)) hge
  | succ t ih =>
    intro i a m x3 hi h hl k0 k1
    have hn4 := h.1.2.1
    have han := h.2.1
    refine r_iload_n dX4_readChain_7 rfl ?_
    refine r_aload_n dX4_readChain_8 rfl ?_
    refine r_getIc (nI n) dX4_readChain_9 fgX4_27 rfl (by exact k_152 h.F) (by exact h.1.2.2.2.1) ?_
    refine r_icmp_ge 49 dX4_readChain_12 rfl (fun hge => ?_) (fun hge => ?_)
    ·
      refine r_return dX4_readChain_49 rfl ?_
      exact absurd hge (nI_ge (by omega) (by omega))
    ·
      refine r_aload_n dX4_readChain_15 rfl ?_
      refine r_iload_n dX4_readChain_16 rfl ?_
      refine r_callV1 (ci := 4) (d1 := 0) (c1 := 0) (n1 := 0) dX4_readChain_17 mvX4_94 rfl ⟨(Nat.le_of_ble_eq_true rfl), rfl⟩ (by omega) (by exact Nat.le_of_ble_eq_true rfl) (by exact k_152 h.F) ?_
      refine S_isJ2 h.F h.tk (fun hj => ?_) (fun hj => ?_)
      ·
        have w := ad_of (b := b) (n := n) (s := a.1) rfl (fun q => by rw [q] at hj; exact absurd hj (by decide))
        show Wp g mX4_readChain _ _ _ 20 _ (_ :: _) _ Q
        refine r_if_eq 49 dX4_readChain_20 rfl (fun hz => absurd hz (by decide)) (fun _ => ?_)
        refine r_aload_n dX4_readChain_23 rfl ?_
        refine r_getIc (tkP b n a.1) dX4_readChain_24 fgX4_55 rfl (by exact k_152 h.F) (by exact h.tk) ?_
        refine si_3 dX4_readChain_27 rfl (Nat.le_of_ble_eq_true rfl) ?_
        refine r_aload_n dX4_readChain_28 rfl ?_
        refine r_callV0 (ci := 4) (d1 := 6) (c1 := 0) (n1 := 0) dX4_readChain_29 mvX4_52 rfl ⟨(Nat.le_of_ble_eq_true rfl), rfl⟩ (by omega) (by exact Nat.le_of_ble_eq_true rfl) (by exact k_152 h.F) ?_
        refine S_advS h (fun m1 q1 h1 => ?_)
        have o1 := q1
        show Wp g mX4_readChain _ _ _ 32 _ [] _ Q
        refine r_aload_n dX4_readChain_32 rfl ?_
        refine r_iload_n dX4_readChain_33 rfl ?_
        refine r_callV1 (ci := 4) (d1 := d) (c1 := 0) (n1 := 0) dX4_readChain_34 mvX4_91 rfl ⟨(Nat.le_of_ble_eq_true rfl), rfl⟩ (by omega) (by exact Nat.le_of_ble_eq_true rfl) (by exact k_152 h1.F) ?_
        refine hp _ _ _ _ h1 (by omega) (fun er her m2 q2 h2 => ?_) (fun r hr m3 q3 h3 => ?_)
        ·
          have o2 := (o1 : Off 152 153 m _).tr q2
          show Wp g mX4_readChain _ _ _ 37 _ [] _ Q
          refine r_aload_n dX4_readChain_37 rfl ?_
          refine r_iload_n dX4_readChain_38 rfl ?_
          refine r_iconst (0) dX4_readChain_39 rfl ?_
          refine r_callV2 (ci := 4) (d1 := 0) (c1 := 0) (n1 := 0) dX4_readChain_40 mvX4_87 rfl ⟨(Nat.le_of_ble_eq_true rfl), rfl⟩ (by omega) (by exact Nat.le_of_ble_eq_true rfl) (by exact k_152 h2.F) ?_
          refine S_emitB h2 (fun m4 q4 h4 => ?_)
          have o4 := (o2 : Off 152 153 m _).tr q4
          show Wp g mX4_readChain _ _ _ 43 _ [] _ Q
          refine ic_2 (1) dX4_readChain_43 rfl rfl (Nat.le_of_ble_eq_true rfl) ?_
          refine r_goto 7 dX4_readChain_46 rfl ?_
          exact T_chB2 h4 (k0 er ((if_pos hj).trans (rB_l her)) m4 o4 h4)
        ·
          have o3 := (o1 : Off 152 153 m _).tr q3
          show Wp g mX4_readChain _ _ _ 37 _ [] _ Q
          refine r_aload_n dX4_readChain_37 rfl ?_
          refine r_iload_n dX4_readChain_38 rfl ?_
          refine r_iconst (0) dX4_readChain_39 rfl ?_
          refine r_callV2 (ci := 4) (d1 := 0) (c1 := 0) (n1 := 0) dX4_readChain_40 mvX4_87 rfl ⟨(Nat.le_of_ble_eq_true rfl), rfl⟩ (by omega) (by exact Nat.le_of_ble_eq_true rfl) (by exact k_152 h3.F) ?_
          refine S_emitS h3 (v := tkP b n a.1) (z512 _) (by have := hg _ w.2.2 r hr; rw [List.length_append]; omega) (fun m5 q5 h5 => ?_)
          have o5 := (o3 : Off 152 153 m _).tr q5
          show Wp g mX4_readChain _ _ _ 43 _ [] _ Q
          refine ic_2 (1) dX4_readChain_43 rfl rfl (Nat.le_of_ble_eq_true rfl) ?_
          refine r_goto 7 dX4_readChain_46 rfl ?_
          rw [nI_1 i]
          have e9 : chL b n f J2 (t + 1) a = chL b n f J2 t (r.1, a.2.1 ++ r.2.1 ++ [tkP b n a.1], fun N => jnF (tkP b n a.1) (a.2.2 N) (r.2.2 N)) := (if_pos hj).trans (rB_r hr)
          rw [e9] at k0 k1
          refine ih (i + 1) (r.1, a.2.1 ++ r.2.1 ++ [tkP b n a.1], fun N => jnF (tkP b n a.1) (a.2.2 N) (r.2.2 N)) m5 _ (by omega) ?_ ?_ (fun e he m9 q9 => k0 e he m9 (o5.tr q9)) (fun r hr m9 q9 => k1 r hr m9 (o5.tr q9))
          · show RS b n r.1 o (L ++ (a.2.1 ++ r.2.1 ++ [tkP b n a.1])) m5; rw [← List.append_assoc, ← List.append_assoc]; exact h5
          · show (L ++ (a.2.1 ++ r.2.1 ++ [tkP b n a.1])).length ≤ r.1; have := hg _ w.2.2 r hr; rw [← List.append_assoc, ← List.append_assoc, List.length_append, List.length_append, List.length_singleton]; omega
      ·
        show Wp g mX4_readChain _ _ _ 20 _ (_ :: _) _ Q
        refine r_if_eq 49 dX4_readChain_20 rfl (fun _ => ?_) (fun hz => absurd hz (by decide))
        refine r_return dX4_readChain_49 rfl ?_
        exact k1 a (if_neg hj) m Off.rf h
theorem S_chain2 {g : GG} {b : Nat → Int32} {n o d : Nat} {f : Nat → Rs} (hd : 6 ≤ d) (hp : NtOK g b n mX4_readPart [.int 2] o d f) (hg : GdF b n f) : NtOK g b n mX4_readChain [.int 2] o (d + 1) (chn b n f J2) := by
  intro m s L Q h hl k0 k1
  refine Cl.of rfl (by decide) (Nat.le_of_ble_eq_true rfl) ?_
  show Wp g mX4_readChain (d + 1) 0 0 0 [.ref 152, .int 2, .retAddr 0, .retAddr 0] [] m Q
  have hn4 := h.1.2.1
  have hsn := h.2.1
  refine r_aload_n dX4_readChain_0 rfl ?_
  refine r_iload_n dX4_readChain_1 rfl ?_
  refine r_callV1 (ci := 4) (d1 := d) (c1 := 0) (n1 := 0) dX4_readChain_2 mvX4_91 rfl ⟨(Nat.le_of_ble_eq_true rfl), rfl⟩ (by omega) (by exact Nat.le_of_ble_eq_true rfl) (by exact k_152 h.F) ?_
  refine hp _ _ _ _ h (by omega) (fun er her m1 q1 h1 => ?_) (fun r hr m2 q2 h2 => ?_)
  ·
    have o1 := q1
    show Wp g mX4_readChain _ _ _ 5 _ [] _ Q
    refine r_iconst (0) dX4_readChain_5 rfl ?_
    refine si_2 dX4_readChain_6 rfl (Nat.le_of_ble_eq_true rfl) ?_
    exact T_chB2 h1 (k0 er (rB_l her) m1 o1 h1)
  ·
    have o2 := q2
    show Wp g mX4_readChain _ _ _ 5 _ [] _ Q
    refine r_iconst (0) dX4_readChain_5 rfl ?_
    refine si_2 dX4_readChain_6 rfl (Nat.le_of_ble_eq_true rfl) ?_
    have e9 : chn b n f J2 s = chL b n f J2 n r := rB_r hr
    rw [e9] at k0 k1
    exact L_ch2 hd hp hg n 0 r m2 _ (by omega) h2 (by have := hg _ hsn r hr; rw [List.length_append]; omega) (fun e he m9 q9 => k0 e he m9 (o2.tr q9)) (fun r hr m9 q9 => k1 r hr m9 (o2.tr q9))
theorem T_chB3 {g : GG} {m : MM} {Q : Out → Prop} {b : Nat → Int32} {n o d : Nat} {e : Er} (h : RB b n o e m) {x2 : Int32} {x3 : Value} (k : Q (.inl none, m)) : Wp g mX4_readChain (d + 1) 0 0 7 [.ref 152, .int 3, .int x2, x3] [] m Q := by
  refine r_iload_n dX4_readChain_7 rfl ?_
  refine r_aload_n dX4_readChain_8 rfl ?_
  refine r_getIc (nI n) dX4_readChain_9 fgX4_27 rfl (by exact k_152 h.F) (by exact h.1.2.2.2.1) ?_
  refine r_icmp_ge 49 dX4_readChain_12 rfl (fun hx1 => ?_) (fun hx1 => ?_)
  ·
    refine r_return dX4_readChain_49 rfl ?_
    exact k
  ·
    refine r_aload_n dX4_readChain_15 rfl ?_
    refine r_iload_n dX4_readChain_16 rfl ?_
    refine r_callV1 (ci := 4) (d1 := 0) (c1 := 0) (n1 := 0) dX4_readChain_17 mvX4_94 rfl ⟨(Nat.le_of_ble_eq_true rfl), rfl⟩ (by omega) (by exact Nat.le_of_ble_eq_true rfl) (by exact k_152 h.F) ?_
    refine S_isJ3 h.F h.2.1 (fun hz => absurd hz (by decide)) (fun _ => ?_)
    show Wp g mX4_readChain _ _ _ 20 _ (_ :: _) _ Q
    refine r_if_eq 49 dX4_readChain_20 rfl (fun _ => ?_) (fun hz => absurd hz (by decide))
    refine r_return dX4_readChain_49 rfl ?_
    exact k
theorem L_ch3 {g : GG} {Q : Out → Prop} {b : Nat → Int32} {n o d : Nat} {f : Nat → Rs} {L : List Int32} (hd : 6 ≤ d) (hp : NtOK g b n mX4_readPart [.int 3] o d f) (hg : GdF b n f) : ∀ (t i : Nat) (a : Ok) (m : MM) (x3 : Value), i + t = n → RS b n a.1 o (L ++ a.2.1) m → (L ++ a.2.1).length ≤ a.1 → (∀ e, chL b n f J3 t a = .inl e → ∀ m', Off 152 153 m m' → RB b n o e m' → Q (.inl none, m')) → (∀ r, chL b n f J3 t a = .inr r → ∀ m', Off 152 153 m m' → RS b n r.1 o (L ++ r.2.1) m' → Q (.inl none, m')) → Wp g mX4_readChain (d + 1) 0 0 7 [.ref 152, .int 3, .int (nI i), x3] [] m Q := by
  intro t
  induction t with
  | zero =>
    intro i a m x3 hi h hl k0 k1
    have hn4 := h.1.2.1
    obtain rfl : i = n := by omega
    refine r_iload_n dX4_readChain_7 rfl ?_
    refine r_aload_n dX4_readChain_8 rfl ?_
    refine r_getIc (nI i) dX4_readChain_9 fgX4_27 rfl (by exact k_152 h.F) (by exact h.1.2.2.2.1) ?_
    refine r_icmp_ge 49 dX4_readChain_12 rfl (fun hge => ?_) (fun hge => ?_)
    ·
      refine r_return dX4_readChain_49 rfl ?_
      exact k1 a rfl m Off.rf h
    ·
      exact absurd (nI_le (Nat.le_refl _) (by omega)) hge
  | succ t ih =>
    intro i a m x3 hi h hl k0 k1
    have hn4 := h.1.2.1
    have han := h.2.1
    refine r_iload_n dX4_readChain_7 rfl ?_
    refine r_aload_n dX4_readChain_8 rfl ?_
    refine r_getIc (nI n) dX4_readChain_9 fgX4_27 rfl (by exact k_152 h.F) (by exact h.1.2.2.2.1) ?_
    refine r_icmp_ge 49 dX4_readChain_12 rfl (fun hge => ?_) (fun hge => ?_)
    ·
      refine r_return dX4_readChain_49 rfl ?_
      exact absurd hge (nI_ge (by omega) (by omega))
    ·
      refine r_aload_n dX4_readChain_15 rfl ?_
      refine r_iload_n dX4_readChain_16 rfl ?_
      refine r_callV1 (ci := 4) (d1 := 0) (c1 := 0) (n1 := 0) dX4_readChain_17 mvX4_94 rfl ⟨(Nat.le_of_ble_eq_true rfl), rfl⟩ (by omega) (by exact Nat.le_of_ble_eq_true rfl) (by exact k_152 h.F) ?_
      refine S_isJ3 h.F h.tk (fun hj => ?_) (fun hj => ?_)
      ·
        have w := ad_of (b := b) (n := n) (s := a.1) rfl (fun q => by rw [q] at hj; exact absurd hj (by decide))
        show Wp g mX4_readChain _ _ _ 20 _ (_ :: _) _ Q
        refine r_if_eq 49 dX4_readChain_20 rfl (fun hz => absurd hz (by decide)) (fun _ => ?_)
        refine r_aload_n dX4_readChain_23 rfl ?_
        refine r_getIc (tkP b n a.1) dX4_readChain_24 fgX4_55 rfl (by exact k_152 h.F) (by exact h.tk) ?_
        refine si_3 dX4_readChain_27 rfl (Nat.le_of_ble_eq_true rfl) ?_
        refine r_aload_n dX4_readChain_28 rfl ?_
        refine r_callV0 (ci := 4) (d1 := 6) (c1 := 0) (n1 := 0) dX4_readChain_29 mvX4_52 rfl ⟨(Nat.le_of_ble_eq_true rfl), rfl⟩ (by omega) (by exact Nat.le_of_ble_eq_true rfl) (by exact k_152 h.F) ?_
        refine S_advS h (fun m1 q1 h1 => ?_)
        have o1 := q1
        show Wp g mX4_readChain _ _ _ 32 _ [] _ Q
        refine r_aload_n dX4_readChain_32 rfl ?_
        refine r_iload_n dX4_readChain_33 rfl ?_
        refine r_callV1 (ci := 4) (d1 := d) (c1 := 0) (n1 := 0) dX4_readChain_34 mvX4_91 rfl ⟨(Nat.le_of_ble_eq_true rfl), rfl⟩ (by omega) (by exact Nat.le_of_ble_eq_true rfl) (by exact k_152 h1.F) ?_
        refine hp _ _ _ _ h1 (by omega) (fun er her m2 q2 h2 => ?_) (fun r hr m3 q3 h3 => ?_)
        ·
          have o2 := (o1 : Off 152 153 m _).tr q2
          show Wp g mX4_readChain _ _ _ 37 _ [] _ Q
          refine r_aload_n dX4_readChain_37 rfl ?_
          refine r_iload_n dX4_readChain_38 rfl ?_
          refine r_iconst (0) dX4_readChain_39 rfl ?_
          refine r_callV2 (ci := 4) (d1 := 0) (c1 := 0) (n1 := 0) dX4_readChain_40 mvX4_87 rfl ⟨(Nat.le_of_ble_eq_true rfl), rfl⟩ (by omega) (by exact Nat.le_of_ble_eq_true rfl) (by exact k_152 h2.F) ?_
          refine S_emitB h2 (fun m4 q4 h4 => ?_)
          have o4 := (o2 : Off 152 153 m _).tr q4
          show Wp g mX4_readChain _ _ _ 43 _ [] _ Q
          refine ic_2 (1) dX4_readChain_43 rfl rfl (Nat.le_of_ble_eq_true rfl) ?_
          refine r_goto 7 dX4_readChain_46 rfl ?_
          exact T_chB3 h4 (k0 er ((if_pos hj).trans (rB_l her)) m4 o4 h4)
        ·
          have o3 := (o1 : Off 152 153 m _).tr q3
          show Wp g mX4_readChain _ _ _ 37 _ [] _ Q
          refine r_aload_n dX4_readChain_37 rfl ?_
          refine r_iload_n dX4_readChain_38 rfl ?_
          refine r_iconst (0) dX4_readChain_39 rfl ?_
          refine r_callV2 (ci := 4) (d1 := 0) (c1 := 0) (n1 := 0) dX4_readChain_40 mvX4_87 rfl ⟨(Nat.le_of_ble_eq_true rfl), rfl⟩ (by omega) (by exact Nat.le_of_ble_eq_true rfl) (by exact k_152 h3.F) ?_
          refine S_emitS h3 (v := tkP b n a.1) (z512 _) (by have := hg _ w.2.2 r hr; rw [List.length_append]; omega) (fun m5 q5 h5 => ?_)
          have o5 := (o3 : Off 152 153 m _).tr q5
          show Wp g mX4_readChain _ _ _ 43 _ [] _ Q
          refine ic_2 (1) dX4_readChain_43 rfl rfl (Nat.le_of_ble_eq_true rfl) ?_
          refine r_goto 7 dX4_readChain_46 rfl ?_
          rw [nI_1 i]
          have e9 : chL b n f J3 (t + 1) a = chL b n f J3 t (r.1, a.2.1 ++ r.2.1 ++ [tkP b n a.1], fun N => jnF (tkP b n a.1) (a.2.2 N) (r.2.2 N)) := (if_pos hj).trans (rB_r hr)
          rw [e9] at k0 k1
          refine ih (i + 1) (r.1, a.2.1 ++ r.2.1 ++ [tkP b n a.1], fun N => jnF (tkP b n a.1) (a.2.2 N) (r.2.2 N)) m5 _ (by omega) ?_ ?_ (fun e he m9 q9 => k0 e he m9 (o5.tr q9)) (fun r hr m9 q9 => k1 r hr m9 (o5.tr q9))
          · show RS b n r.1 o (L ++ (a.2.1 ++ r.2.1 ++ [tkP b n a.1])) m5; rw [← List.append_assoc, ← List.append_assoc]; exact h5
          · show (L ++ (a.2.1 ++ r.2.1 ++ [tkP b n a.1])).length ≤ r.1; have := hg _ w.2.2 r hr; rw [← List.append_assoc, ← List.append_assoc, List.length_append, List.length_append, List.length_singleton]; omega
      ·
        show Wp g mX4_readChain _ _ _ 20 _ (_ :: _) _ Q
        refine r_if_eq 49 dX4_readChain_20 rfl (fun _ => ?_) (fun hz => absurd hz (by decide))
        refine r_return dX4_readChain_49 rfl ?_
        exact k1 a (if_neg hj) m Off.rf h
theorem S_chain3 {g : GG} {b : Nat → Int32} {n o d : Nat} {f : Nat → Rs} (hd : 6 ≤ d) (hp : NtOK g b n mX4_readPart [.int 3] o d f) (hg : GdF b n f) : NtOK g b n mX4_readChain [.int 3] o (d + 1) (chn b n f J3) := by
  intro m s L Q h hl k0 k1
  refine Cl.of rfl (by decide) (Nat.le_of_ble_eq_true rfl) ?_
  show Wp g mX4_readChain (d + 1) 0 0 0 [.ref 152, .int 3, .retAddr 0, .retAddr 0] [] m Q
  have hn4 := h.1.2.1
  have hsn := h.2.1
  refine r_aload_n dX4_readChain_0 rfl ?_
  refine r_iload_n dX4_readChain_1 rfl ?_
  refine r_callV1 (ci := 4) (d1 := d) (c1 := 0) (n1 := 0) dX4_readChain_2 mvX4_91 rfl ⟨(Nat.le_of_ble_eq_true rfl), rfl⟩ (by omega) (by exact Nat.le_of_ble_eq_true rfl) (by exact k_152 h.F) ?_
  refine hp _ _ _ _ h (by omega) (fun er her m1 q1 h1 => ?_) (fun r hr m2 q2 h2 => ?_)
  ·
    have o1 := q1
    show Wp g mX4_readChain _ _ _ 5 _ [] _ Q
    refine r_iconst (0) dX4_readChain_5 rfl ?_
    refine si_2 dX4_readChain_6 rfl (Nat.le_of_ble_eq_true rfl) ?_
    exact T_chB3 h1 (k0 er (rB_l her) m1 o1 h1)
  ·
    have o2 := q2
    show Wp g mX4_readChain _ _ _ 5 _ [] _ Q
    refine r_iconst (0) dX4_readChain_5 rfl ?_
    refine si_2 dX4_readChain_6 rfl (Nat.le_of_ble_eq_true rfl) ?_
    have e9 : chn b n f J3 s = chL b n f J3 n r := rB_r hr
    rw [e9] at k0 k1
    exact L_ch3 hd hp hg n 0 r m2 _ (by omega) h2 (by have := hg _ hsn r hr; rw [List.length_append]; omega) (fun e he m9 q9 => k0 e he m9 (o2.tr q9)) (fun r hr m9 q9 => k1 r hr m9 (o2.tr q9))
theorem S_prt0 {g : GG} {b : Nat → Int32} {n o d : Nat} {f : Nat → Rs} (hp : NtOK g b n mX4_readChain [.int 1] o d f) : NtOK g b n mX4_readPart [.int 0] o (d + 1) (f) := by
  intro m s L Q h hl k0 k1
  refine Cl.of rfl (by decide) (Nat.le_of_ble_eq_true rfl) ?_
  show Wp g mX4_readPart (d + 1) 0 0 0 [.ref 152, .int 0] [] m Q
  have hn4 := h.1.2.1
  have hsn := h.2.1
  refine r_iload_n dX4_readPart_0 rfl ?_
  refine r_tabIn 28 dX4_readPart_1 (by decide) (by decide) rfl rfl ?_
  refine r_aload_n dX4_readPart_28 rfl ?_
  refine r_iconst (1) dX4_readPart_29 rfl ?_
  refine r_callV1 (ci := 4) (d1 := d) (c1 := 0) (n1 := 0) dX4_readPart_30 mvX4_81 rfl ⟨(Nat.le_of_ble_eq_true rfl), rfl⟩ (by omega) (by exact Nat.le_of_ble_eq_true rfl) (by exact k_152 h.F) ?_
  refine hp _ _ _ _ h hl (fun er her m1 q1 h1 => ?_) (fun r hr m2 q2 h2 => ?_)
  ·
    have o1 := q1
    show Wp g mX4_readPart _ _ _ 33 _ [] _ Q
    refine r_goto 55 dX4_readPart_33 rfl ?_
    refine r_return dX4_readPart_55 rfl ?_
    exact k0 er her m1 o1 h1
  ·
    have o2 := q2
    show Wp g mX4_readPart _ _ _ 33 _ [] _ Q
    refine r_goto 55 dX4_readPart_33 rfl ?_
    refine r_return dX4_readPart_55 rfl ?_
    exact k1 r hr m2 o2 h2
theorem S_prt1 {g : GG} {b : Nat → Int32} {n o d : Nat} {f : Nat → Rs} (hp : NtOK g b n mX4_readTest [] o d f) : NtOK g b n mX4_readPart [.int 1] o (d + 1) (f) := by
  intro m s L Q h hl k0 k1
  refine Cl.of rfl (by decide) (Nat.le_of_ble_eq_true rfl) ?_
  show Wp g mX4_readPart (d + 1) 0 0 0 [.ref 152, .int 1] [] m Q
  have hn4 := h.1.2.1
  have hsn := h.2.1
  refine r_iload_n dX4_readPart_0 rfl ?_
  refine r_tabIn 36 dX4_readPart_1 (by decide) (by decide) rfl rfl ?_
  refine r_aload_n dX4_readPart_36 rfl ?_
  refine r_callV0 (ci := 4) (d1 := d) (c1 := 0) (n1 := 0) dX4_readPart_37 mvX4_98 rfl ⟨(Nat.le_of_ble_eq_true rfl), rfl⟩ (by omega) (by exact Nat.le_of_ble_eq_true rfl) (by exact k_152 h.F) ?_
  refine hp _ _ _ _ h hl (fun er her m1 q1 h1 => ?_) (fun r hr m2 q2 h2 => ?_)
  ·
    have o1 := q1
    show Wp g mX4_readPart _ _ _ 40 _ [] _ Q
    refine r_goto 55 dX4_readPart_40 rfl ?_
    refine r_return dX4_readPart_55 rfl ?_
    exact k0 er her m1 o1 h1
  ·
    have o2 := q2
    show Wp g mX4_readPart _ _ _ 40 _ [] _ Q
    refine r_goto 55 dX4_readPart_40 rfl ?_
    refine r_return dX4_readPart_55 rfl ?_
    exact k1 r hr m2 o2 h2
theorem S_prt2 {g : GG} {b : Nat → Int32} {n o d : Nat} {f : Nat → Rs} (hp : NtOK g b n mX4_readChain [.int 3] o d f) : NtOK g b n mX4_readPart [.int 2] o (d + 1) (f) := by
  intro m s L Q h hl k0 k1
  refine Cl.of rfl (by decide) (Nat.le_of_ble_eq_true rfl) ?_
  show Wp g mX4_readPart (d + 1) 0 0 0 [.ref 152, .int 2] [] m Q
  have hn4 := h.1.2.1
  have hsn := h.2.1
  refine r_iload_n dX4_readPart_0 rfl ?_
  refine r_tabIn 43 dX4_readPart_1 (by decide) (by decide) rfl rfl ?_
  refine r_aload_n dX4_readPart_43 rfl ?_
  refine r_iconst (3) dX4_readPart_44 rfl ?_
  refine r_callV1 (ci := 4) (d1 := d) (c1 := 0) (n1 := 0) dX4_readPart_45 mvX4_81 rfl ⟨(Nat.le_of_ble_eq_true rfl), rfl⟩ (by omega) (by exact Nat.le_of_ble_eq_true rfl) (by exact k_152 h.F) ?_
  refine hp _ _ _ _ h hl (fun er her m1 q1 h1 => ?_) (fun r hr m2 q2 h2 => ?_)
  ·
    have o1 := q1
    show Wp g mX4_readPart _ _ _ 48 _ [] _ Q
    refine r_goto 55 dX4_readPart_48 rfl ?_
    refine r_return dX4_readPart_55 rfl ?_
    exact k0 er her m1 o1 h1
  ·
    have o2 := q2
    show Wp g mX4_readPart _ _ _ 48 _ [] _ Q
    refine r_goto 55 dX4_readPart_48 rfl ?_
    refine r_return dX4_readPart_55 rfl ?_
    exact k1 r hr m2 o2 h2
theorem S_prt3 {g : GG} {b : Nat → Int32} {n o d : Nat} {f : Nat → Rs} (hp : NtOK g b n mX4_readUnit [] o d f) : NtOK g b n mX4_readPart [.int 3] o (d + 1) (f) := by
  intro m s L Q h hl k0 k1
  refine Cl.of rfl (by decide) (Nat.le_of_ble_eq_true rfl) ?_
  show Wp g mX4_readPart (d + 1) 0 0 0 [.ref 152, .int 3] [] m Q
  have hn4 := h.1.2.1
  have hsn := h.2.1
  refine r_iload_n dX4_readPart_0 rfl ?_
  refine r_tabOut 51 dX4_readPart_1 (by decide) rfl ?_
  refine r_aload_n dX4_readPart_51 rfl ?_
  refine r_callV0 (ci := 4) (d1 := d) (c1 := 0) (n1 := 0) dX4_readPart_52 mvX4_101 rfl ⟨(Nat.le_of_ble_eq_true rfl), rfl⟩ (by omega) (by exact Nat.le_of_ble_eq_true rfl) (by exact k_152 h.F) ?_
  refine hp _ _ _ _ h hl (fun er her m1 q1 h1 => ?_) (fun r hr m2 q2 h2 => ?_)
  ·
    have o1 := q1
    show Wp g mX4_readPart _ _ _ 55 _ [] _ Q
    refine r_return dX4_readPart_55 rfl ?_
    exact k0 er her m1 o1 h1
  ·
    have o2 := q2
    show Wp g mX4_readPart _ _ _ 55 _ [] _ Q
    refine r_return dX4_readPart_55 rfl ?_
    exact k1 r hr m2 o2 h2
