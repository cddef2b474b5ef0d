def RS (b : Nat → Int32) (n s o : Nat) (L : List Int32) (m : MM) : Prop := Rtx b n m ∧ s ≤ n ∧ Lx b n s m ∧ ldI m 152 8 = nI o ∧ ldI m 152 9 = 0 ∧ ldI m 152 1 = nI L.length ∧ L.length ≤ 400 ∧ (∀ j, j < L.length → ldI m 153 j = L.getD j 0) ∧ ldI m 152 10 = -1
def RB (b : Nat → Int32) (n o : Nat) (e : Er) (m : MM) : Prop := Rtx b n m ∧ ldI m 152 6 = -4 ∧ ldI m 152 8 = nI o ∧ ldI m 152 9 = e.1 ∧ ¬ e.1 = 0 ∧ ldI m 152 10 = nI e.2 ∧ ∃ k, k ≤ 400 ∧ ldI m 152 1 = nI k
section Rd
variable {b : Nat → Int32} {n s o : Nat} {L : List Int32} {m m' : MM} {e : Er}
theorem RS.st8 (h : RS b n s o L m) (o' : Nat) : RS b n s o' L (stI m 152 8 (nI o')) := by
  obtain ⟨h1, h2, ⟨a1, a2, a3, a4⟩, h4, h5, h6, h7, h8, h9⟩ := h
  exact ⟨h1.off (Off.rf.stI (by omega) (by omega)) (ld_n (by decide) rfl), h2, ⟨ld_n (by decide) a1, ld_n (by decide) a2, ld_n (by decide) a3, fun q => ld_n (by decide) (a4 q)⟩, ld_s, ld_n (by decide) h5, ld_n (by decide) h6, h7, fun j hj => ld_n (by omega) (h8 j hj), ld_n (by decide) h9⟩
theorem RB.st8 (h : RB b n o e m) (o' : Nat) : RB b n o' e (stI m 152 8 (nI o')) := by
  obtain ⟨h1, h2, h3, h4, h5, h6, k, h7, h8⟩ := h
  exact ⟨h1.off (Off.rf.stI (by omega) (by omega)) (ld_n (by decide) rfl), ld_n (by decide) h2, ld_s, ld_n (by decide) h4, h5, ld_n (by decide) h6, k, h7, ld_n (by decide) h8⟩
theorem oft8 {v : Int32} : Off 152 153 m (stI m 152 8 v) := Off.rf.stI (by omega) (by omega)
theorem RS.fl (h : RS b n s o L m) {kd : Int32} (hk : ¬ kd = 0) : RB b n o (kd, s) (stI (stI (stI m 152 9 kd) 152 10 (nI s)) 152 6 (-4)) := by
  obtain ⟨h1, h2, ⟨a1, a2, a3, a4⟩, h4, h5, h6, h7, h8, h9⟩ := h
  exact ⟨h1.off (((Off.rf.stI (by omega) (by omega)).stI (by omega) (by omega)).stI (by omega) (by omega)) (ld_n (by decide) (ld_n (by decide) (ld_n (by decide) rfl))), ld_s, ld_n (by decide) (ld_n (by decide) (ld_n (by decide) h4)), ld_n (by decide) (ld_n (by decide) ld_s), hk, ld_n (by decide) ld_s, L.length, h7, ld_n (by decide) (ld_n (by decide) (ld_n (by decide) h6))⟩
theorem RB.fl (h : RB b n o e m) : RB b n o e (stI m 152 6 (-4)) := by
  obtain ⟨h1, h2, h3, h4, h5, h6, k, h7, h8⟩ := h
  exact ⟨h1.off (Off.rf.stI (by omega) (by omega)) (ld_n (by decide) rfl), ld_s, ld_n (by decide) h3, ld_n (by decide) h4, h5, ld_n (by decide) h6, k, h7, ld_n (by decide) h8⟩
theorem RS.em (h : RS b n s o L m) (v : Int32) (hl : L.length < 400) : RS b n s o (L ++ [v]) (stI (stI m 153 L.length v) 152 1 (nI (L.length + 1))) := by
  obtain ⟨h1, h2, ⟨a1, a2, a3, a4⟩, h4, h5, h6, h7, h8, h9⟩ := h
  have e : ∀ k, k ≠ 1 → ldI (stI (stI m 153 L.length v) 152 1 (nI (L.length + 1))) 152 k = ldI m 152 k := fun k hk => ld_n (by omega) (ld_n (by omega) rfl)
  refine ⟨h1.off ((Off.rf.stI (by omega) (by omega)).stI (by omega) (by omega)) (e 3 (by decide)), h2, ⟨(e _ (by decide)).trans a1, (e _ (by decide)).trans a2, (e _ (by decide)).trans a3, fun q => (e _ (by decide)).trans (a4 q)⟩, (e _ (by decide)).trans h4, (e _ (by decide)).trans h5, ?_, ?_, ?_, (e _ (by decide)).trans h9⟩
  · rw [List.length_append, List.length_singleton]; exact ld_s
  · rw [List.length_append, List.length_singleton]; omega
  · intro j hj
    rw [List.length_append, List.length_singleton] at hj
    refine ld_n (by omega) ?_
    by_cases q : j = L.length
    · subst q
      rw [show (L ++ [v]).getD L.length 0 = v from by simp [List.getD_eq_getElem?_getD]]
      exact ld_s
    · rw [show (L ++ [v]).getD j 0 = L.getD j 0 from by simp [List.getD_eq_getElem?_getD, List.getElem?_append_left (show j < L.length from by omega)]]
      exact ld_n (by omega) (h8 j (by omega))
theorem RS.tk (h : RS b n s o L m) : ldI m 152 6 = tkP b n s := h.2.2.1.2.2.1
theorem RS.F (h : RS b n s o L m) : Fx m := h.1.1
theorem RB.F (h : RB b n o e m) : Fx m := h.1.1
end Rd
theorem S_failS {g : GG} {m : MM} {Q : Out → Prop} {b : Nat → Int32} {n s o : Nat} {L : List Int32} (h : RS b n s o L m) {x : Int32} (hk : ¬ x = 0) (k : ∀ m', Off 152 153 m m' → RB b n o (x, s) m' → Q (.inl none, m')) : Cl g 0 0 0 mX4_fail [.ref 152, .int x] m Q := by
  refine Cl.of rfl (by decide) (Nat.le_of_ble_eq_true rfl) ?_
  show Wp g mX4_fail 0 0 0 0 [.ref 152, .int x] [] m Q
  have hF := h.F
  refine r_aload_n dX4_fail_0 rfl ?_
  refine r_getIc (0) dX4_fail_1 fgX4_46 rfl (by exact k_152 hF) (by exact h.2.2.2.2.1) ?_
  refine r_if_ne 20 dX4_fail_4 rfl (fun hz => absurd hz (by decide)) (fun _ => ?_)
  refine r_aload_n dX4_fail_7 rfl ?_
  refine r_iload_n dX4_fail_8 rfl ?_
  refine r_putI dX4_fail_9 (fpX4_46 _ rfl) rfl (by exact k_152 hF) ⟨rfl, rfl⟩ ?_
  refine r_aload_n dX4_fail_12 rfl ?_
  refine r_aload_n dX4_fail_13 rfl ?_
  refine r_getIc (nI s) dX4_fail_14 fgX4_121 rfl (by exact k_152 hF) (by exact ld_n (by decide) h.2.2.1.2.1) ?_
  refine r_putI dX4_fail_17 (fpX4_49 _ rfl) rfl (by exact k_152 hF) ⟨rfl, rfl⟩ ?_
  refine r_aload_n dX4_fail_20 rfl ?_
  refine r_bipush (-4) dX4_fail_21 rfl ?_
  refine r_putI dX4_fail_23 (fpX4_55 _ rfl) rfl (by exact k_152 hF) ⟨rfl, rfl⟩ ?_
  refine r_return dX4_fail_26 rfl ?_
  exact k _ (((Off.rf.stI (by omega) (by omega)).stI (by omega) (by omega)).stI (by omega) (by omega)) (h.fl hk)
theorem S_failB {g : GG} {m : MM} {Q : Out → Prop} {b : Nat → Int32} {n o : Nat} {e : Er} (h : RB b n o e m) {x : Int32} (k : ∀ m', Off 152 153 m m' → RB b n o e m' → Q (.inl none, m')) : Cl g 0 0 0 mX4_fail [.ref 152, .int x] m Q := by
  refine Cl.of rfl (by decide) (Nat.le_of_ble_eq_true rfl) ?_
  show Wp g mX4_fail 0 0 0 0 [.ref 152, .int x] [] m Q
  have hF := h.F
  refine r_aload_n dX4_fail_0 rfl ?_
  refine r_getIc (e.1) dX4_fail_1 fgX4_46 rfl (by exact k_152 hF) (by exact h.2.2.2.1) ?_
  refine r_if_ne 20 dX4_fail_4 rfl (fun hz => ?_) (fun hz => ?_)
  ·
    refine r_aload_n dX4_fail_20 rfl ?_
    refine r_bipush (-4) dX4_fail_21 rfl ?_
    refine r_putI dX4_fail_23 (fpX4_55 _ rfl) rfl (by exact k_152 hF) ⟨rfl, rfl⟩ ?_
    refine r_return dX4_fail_26 rfl ?_
    exact k _ (Off.rf.stI (by omega) (by omega)) h.fl
  ·
    exact absurd hz h.2.2.2.2.1
theorem S_emitS {g : GG} {m : MM} {Q : Out → Prop} {b : Nat → Int32} {n s o : Nat} {L : List Int32} (h : RS b n s o L m) {x y v : Int32} (hv : y * 512 + x = v) (hl : L.length < 400) (k : ∀ m', Off 152 153 m m' → RS b n s o (L ++ [v]) m' → Q (.inl none, m')) : Cl g 0 0 0 mX4_emit [.ref 152, .int x, .int y] m Q := by
  refine Cl.of rfl (by decide) (Nat.le_of_ble_eq_true rfl) ?_
  show Wp g mX4_emit 0 0 0 0 [.ref 152, .int x, .int y] [] m Q
  have hF := h.F
  refine r_aload_n dX4_emit_0 rfl ?_
  refine r_getIc (nI L.length) dX4_emit_1 fgX4_37 rfl (by exact k_152 hF) (by exact h.2.2.2.2.2.1) ?_
  refine r_aload_n dX4_emit_4 rfl ?_
  refine r_getRc dX4_emit_5 fgX4_9 rfl (by exact k_152 hF) (by exact r_152_0 hF) ?_
  refine r_alen _ dX4_emit_8 ⟨Nat.le_of_ble_eq_true rfl, Nat.le_of_ble_eq_true rfl⟩ (by exact k_153 hF) rfl ?_
  refine r_icmp_ge 38 dX4_emit_9 rfl (fun hge => ?_) (fun hge => ?_)
  ·
    refine r_return dX4_emit_38 rfl ?_
    exact absurd hge (nI_ge (b := 400) hl (by omega))
  ·
    refine r_aload_n dX4_emit_12 rfl ?_
    refine r_getRc dX4_emit_13 fgX4_9 rfl (by exact k_152 hF) (by exact r_152_0 hF) ?_
    refine r_aload_n dX4_emit_16 rfl ?_
    refine r_getIc (nI L.length) dX4_emit_17 fgX4_37 rfl (by exact k_152 hF) (by exact h.2.2.2.2.2.1) ?_
    refine r_iload_n dX4_emit_20 rfl ?_
    refine r_sipush (512) dX4_emit_21 rfl ?_
    refine r_imul dX4_emit_24 ?_
    refine r_iload_n dX4_emit_25 rfl ?_
    refine r_iadd dX4_emit_26 ?_
    refine r_iastoren (L.length) (nI_cl _ (by omega)) dX4_emit_27 (by exact k_153 hF) (vin (by omega) (by omega)) ?_
    refine r_aload_n dX4_emit_28 rfl ?_
    refine r_dup dX4_emit_29 rfl ?_
    refine r_getIc (nI L.length) dX4_emit_30 fgX4_37 rfl (by exact k_152 hF) (by exact ld_n (by omega) h.2.2.2.2.2.1) ?_
    refine r_iconst (1) dX4_emit_33 rfl ?_
    refine r_iadd dX4_emit_34 ?_
    refine r_putI dX4_emit_35 (fpX4_37 _ rfl) rfl (by exact k_152 hF) ⟨rfl, rfl⟩ ?_
    refine r_return dX4_emit_38 rfl ?_
    rw [nI_1, hv]; exact k _ ((Off.rf.stI (by omega) (by omega)).stI (by omega) (by omega)) (h.em v hl)
theorem S_emitB {g : GG} {m : MM} {Q : Out → Prop} {b : Nat → Int32} {n o : Nat} {e : Er} (h : RB b n o e m) {x y : Int32} (k : ∀ m', Off 152 153 m m' → RB b n o e m' → Q (.inl none, m')) : Cl g 0 0 0 mX4_emit [.ref 152, .int x, .int y] m Q := by
  refine Cl.of rfl (by decide) (Nat.le_of_ble_eq_true rfl) ?_
  show Wp g mX4_emit 0 0 0 0 [.ref 152, .int x, .int y] [] m Q
  have hF := h.F
  obtain ⟨c, hc0, hc⟩ := h.2.2.2.2.2.2
  refine r_aload_n dX4_emit_0 rfl ?_
  refine r_getIc (nI c) dX4_emit_1 fgX4_37 rfl (by exact k_152 hF) (by exact hc) ?_
  refine r_aload_n dX4_emit_4 rfl ?_
  refine r_getRc dX4_emit_5 fgX4_9 rfl (by exact k_152 hF) (by exact r_152_0 hF) ?_
  refine r_alen _ dX4_emit_8 ⟨Nat.le_of_ble_eq_true rfl, Nat.le_of_ble_eq_true rfl⟩ (by exact k_153 hF) rfl ?_
  refine r_icmp_ge 38 dX4_emit_9 rfl (fun hge => ?_) (fun hge => ?_)
  ·
    refine r_return dX4_emit_38 rfl ?_
    exact k _ Off.rf h
  ·
    have hc4 : c < 400 := Nat.lt_of_not_le (fun z => hge (nI_le (a := 400) z (by omega)))
    refine r_aload_n dX4_emit_12 rfl ?_
    refine r_getRc dX4_emit_13 fgX4_9 rfl (by exact k_152 hF) (by exact r_152_0 hF) ?_
    refine r_aload_n dX4_emit_16 rfl ?_
    refine r_getIc (nI c) dX4_emit_17 fgX4_37 rfl (by exact k_152 hF) (by exact hc) ?_
    refine r_iload_n dX4_emit_20 rfl ?_
    refine r_sipush (512) dX4_emit_21 rfl ?_
    refine r_imul dX4_emit_24 ?_
    refine r_iload_n dX4_emit_25 rfl ?_
    refine r_iadd dX4_emit_26 ?_
    refine r_iastoren (c) (nI_cl _ (by omega)) dX4_emit_27 (by exact k_153 hF) (vin (by omega) (by omega)) ?_
    refine r_aload_n dX4_emit_28 rfl ?_
    refine r_dup dX4_emit_29 rfl ?_
    refine r_getIc (nI c) dX4_emit_30 fgX4_37 rfl (by exact k_152 hF) (by exact ld_n (by omega) hc) ?_
    refine r_iconst (1) dX4_emit_33 rfl ?_
    refine r_iadd dX4_emit_34 ?_
    refine r_putI dX4_emit_35 (fpX4_37 _ rfl) rfl (by exact k_152 hF) ⟨rfl, rfl⟩ ?_
    refine r_return dX4_emit_38 rfl ?_
    rw [nI_1]; exact k _ ((Off.rf.stI (by omega) (by omega)).stI (by omega) (by omega)) ⟨h.1.off ((Off.rf.stI (by omega) (by omega)).stI (by omega) (by omega)) (ld_n (by decide) (ld_n (by omega) rfl)), ld_n (by decide) (ld_n (by omega) h.2.1), ld_n (by decide) (ld_n (by omega) h.2.2.1), ld_n (by decide) (ld_n (by omega) h.2.2.2.1), h.2.2.2.2.1, ld_n (by decide) (ld_n (by omega) h.2.2.2.2.2.1), c + 1, by omega, ld_s⟩
theorem S_advS {g : GG} {m : MM} {Q : Out → Prop} {b : Nat → Int32} {n s o : Nat} {L : List Int32} (h : RS b n s o L m) (k : ∀ m', Off 152 153 m m' → RS b n (adP b n s) o L m' → Q (.inl none, m')) : Cl g 6 0 0 mX4_advance [.ref 152] m Q := by
  obtain ⟨h1, h2, ⟨a1, a2, a3, a4⟩, h4, h5, h6, h7, h8, h9⟩ := h
  refine S_X4_advance h1 (nxP_n h2) a1 (fun m' s9 l9 => ?_)
  have o9 : Off 152 153 m m' := s9.1.wd (by omega) (by omega)
  exact k m' o9 ⟨h1.sx s9, adP_n h2, l9, (s9.2 8 (by omega)).trans h4, (s9.2 9 (by omega)).trans h5, (s9.2 1 (by omega)).trans h6, h7, fun j hj => ((s9.1.2 153 (by omega)).1 j).trans (h8 j hj), (s9.2 10 (by omega)).trans h9⟩
theorem S_takeS {g : GG} {m : MM} {Q : Out → Prop} {b : Nat → Int32} {n s o : Nat} {L : List Int32} (h : RS b n s o L m) {x : Int32} (k1 : tkP b n s = x → ∀ m', Off 152 153 m m' → RS b n (adP b n s) o L m' → Q (.inl none, m')) (k0 : ¬ tkP b n s = x → ∀ m', Off 152 153 m m' → RB b n o (1, s) m' → Q (.inl none, m')) : Cl g 7 0 0 mX4_take [.ref 152, .int x] m Q := by
  refine Cl.of rfl (by decide) (Nat.le_of_ble_eq_true rfl) ?_
  show Wp g mX4_take 7 0 0 0 [.ref 152, .int x] [] m Q
  refine r_aload_n dX4_take_0 rfl ?_
  refine r_getIc (tkP b n s) dX4_take_1 fgX4_55 rfl (by exact k_152 h.F) (by exact h.tk) ?_
  refine r_iload_n dX4_take_4 rfl ?_
  refine r_icmp_ne 15 dX4_take_5 rfl (fun hne => ?_) (fun hne => ?_)
  ·
    refine r_aload_n dX4_take_15 rfl ?_
    refine r_iconst (1) dX4_take_16 rfl ?_
    refine r_callV1 (ci := 4) (d1 := 0) (c1 := 0) (n1 := 0) dX4_take_17 mvX4_77 rfl ⟨(Nat.le_of_ble_eq_true rfl), rfl⟩ (Nat.le_of_ble_eq_true rfl) (by exact Nat.le_of_ble_eq_true rfl) (by exact k_152 h.F) ?_
    refine S_failS h (by decide) (fun m1 q1 h1 => ?_)
    show Wp g mX4_take _ _ _ 20 _ [] _ Q
    refine r_return dX4_take_20 rfl ?_
    exact k0 hne m1 q1 h1
  ·
    refine r_aload_n dX4_take_8 rfl ?_
    refine r_callV0 (ci := 4) (d1 := 6) (c1 := 0) (n1 := 0) dX4_take_9 mvX4_52 rfl ⟨(Nat.le_of_ble_eq_true rfl), rfl⟩ (Nat.le_of_ble_eq_true rfl) (by exact Nat.le_of_ble_eq_true rfl) (by exact k_152 h.F) ?_
    refine S_advS h (fun m1 q1 h1 => ?_)
    show Wp g mX4_take _ _ _ 12 _ [] _ Q
    refine r_goto 20 dX4_take_12 rfl ?_
    refine r_return dX4_take_20 rfl ?_
    exact k1 hne m1 q1 h1
theorem S_takeB {g : GG} {m : MM} {Q : Out → Prop} {b : Nat → Int32} {n o : Nat} {e : Er} (h : RB b n o e m) {x : Int32} (hx : ¬ x = -4) (k : ∀ m', Off 152 153 m m' → RB b n o e m' → Q (.inl none, m')) : Cl g 7 0 0 mX4_take [.ref 152, .int x] m Q := by
  refine Cl.of rfl (by decide) (Nat.le_of_ble_eq_true rfl) ?_
  show Wp g mX4_take 7 0 0 0 [.ref 152, .int x] [] m Q
  refine r_aload_n dX4_take_0 rfl ?_
  refine r_getIc (-4) dX4_take_1 fgX4_55 rfl (by exact k_152 h.F) (by exact h.2.1) ?_
  refine r_iload_n dX4_take_4 rfl ?_
  refine r_icmp_ne 15 dX4_take_5 rfl (fun hne => ?_) (fun hne => ?_)
  ·
    refine r_aload_n dX4_take_15 rfl ?_
    refine r_iconst (1) dX4_take_16 rfl ?_
    refine r_callV1 (ci := 4) (d1 := 0) (c1 := 0) (n1 := 0) dX4_take_17 mvX4_77 rfl ⟨(Nat.le_of_ble_eq_true rfl), rfl⟩ (Nat.le_of_ble_eq_true rfl) (by exact Nat.le_of_ble_eq_true rfl) (by exact k_152 h.F) ?_
    refine S_failB h (fun m1 q1 h1 => ?_)
    show Wp g mX4_take _ _ _ 20 _ [] _ Q
    refine r_return dX4_take_20 rfl ?_
    exact k m1 q1 h1
  ·
    exact absurd hne.symm hx
theorem S_opensS {g : GG} {m : MM} {Q : Out → Prop} {b : Nat → Int32} {n s o : Nat} {L : List Int32} (h : RS b n s o L m) (ho : o ≤ 6) (k1 : o < 6 → ∀ m', Off 152 153 m m' → RS b n s (o + 1) L m' → Q (.inl (some (.int 1)), m')) (k0 : o = 6 → ∀ m', Off 152 153 m m' → RB b n o (3, s) m' → Q (.inl (some (.int 0)), m')) : Cl g 1 0 0 mX4_opens [.ref 152] m Q := by
  refine Cl.of rfl (by decide) (Nat.le_of_ble_eq_true rfl) ?_
  show Wp g mX4_opens 1 0 0 0 [.ref 152] [] m Q
  refine r_aload_n dX4_opens_0 rfl ?_
  refine r_getIc (nI o) dX4_opens_1 fgX4_43 rfl (by exact k_152 h.F) (by exact h.2.2.2.1) ?_
  refine r_bipush (6) dX4_opens_4 rfl ?_
  refine r_icmp_lt 16 dX4_opens_6 rfl (fun hlt => ?_) (fun hlt => ?_)
  ·
    refine r_aload_n dX4_opens_16 rfl ?_
    refine r_dup dX4_opens_17 rfl ?_
    refine r_getIc (nI o) dX4_opens_18 fgX4_43 rfl (by exact k_152 h.F) (by exact h.2.2.2.1) ?_
    refine r_iconst (1) dX4_opens_21 rfl ?_
    refine r_iadd dX4_opens_22 ?_
    refine r_putI dX4_opens_23 (fpX4_43 _ rfl) rfl (by exact k_152 h.F) ⟨rfl, rfl⟩ ?_
    refine r_iconst (1) dX4_opens_26 rfl ?_
    refine r_ireturn dX4_opens_27 rfl rfl ?_
    rw [nI_1]; exact k1 (Nat.lt_of_not_le (fun z => absurd hlt (nI_nlt (a := o) (b := 6) z (by omega)))) _ oft8 (h.st8 (o + 1))
  ·
    refine r_aload_n dX4_opens_9 rfl ?_
    refine r_iconst (3) dX4_opens_10 rfl ?_
    refine r_callV1 (ci := 4) (d1 := 0) (c1 := 0) (n1 := 0) dX4_opens_11 mvX4_77 rfl ⟨(Nat.le_of_ble_eq_true rfl), rfl⟩ (Nat.le_of_ble_eq_true rfl) (by exact Nat.le_of_ble_eq_true rfl) (by exact k_152 h.F) ?_
    refine S_failS h (x := 3) (by decide) (fun m1 q1 h1 => ?_)
    show Wp g mX4_opens _ _ _ 14 _ [] _ Q
    refine r_iconst (0) dX4_opens_14 rfl ?_
    refine r_ireturn dX4_opens_15 rfl rfl ?_
    exact k0 (by have := Nat.le_of_not_lt (fun z => hlt (nI_lt (a := o) (b := 6) z (by omega))); omega) m1 q1 h1
theorem S_isJ0 {g : GG} {m : MM} {Q : Out → Prop} (hF : Fx m) {t : Int32} (h : ldI m 152 6 = t) (k1 : J0 t = true → Q (.inl (some (.int 1)), m)) (k0 : ¬ J0 t = true → Q (.inl (some (.int 0)), m)) : Cl g 0 0 0 mX4_isJoint [.ref 152, .int 0] m Q := by
  refine Cl.of rfl (by decide) (Nat.le_of_ble_eq_true rfl) ?_
  show Wp g mX4_isJoint 0 0 0 0 [.ref 152, .int 0] [] m Q
  refine r_iload_n dX4_isJoint_0 rfl ?_
  refine r_tabIn 28 dX4_isJoint_1 (by decide) (by decide) rfl rfl ?_
  refine r_aload_n dX4_isJoint_28 rfl ?_
  refine r_getIc (t) dX4_isJoint_29 fgX4_55 rfl (by exact k_152 hF) (by exact h) ?_
  refine r_sipush (278) dX4_isJoint_32 rfl ?_
  refine r_icmp_ne 42 dX4_isJoint_35 rfl (fun a => ?_) (fun a => ?_)
  ·
    refine r_iconst (0) dX4_isJoint_42 rfl ?_
    refine r_ireturn dX4_isJoint_43 rfl rfl ?_
    exact k0 (fun q => a (of_decide_eq_true q))
  ·
    refine r_iconst (1) dX4_isJoint_38 rfl ?_
    refine r_goto 43 dX4_isJoint_39 rfl ?_
    refine r_ireturn dX4_isJoint_43 rfl rfl ?_
    exact k1 (decide_eq_true a)
theorem S_isJ1 {g : GG} {m : MM} {Q : Out → Prop} (hF : Fx m) {t : Int32} (h : ldI m 152 6 = t) (k1 : J1 t = true → Q (.inl (some (.int 1)), m)) (k0 : ¬ J1 t = true → Q (.inl (some (.int 0)), m)) : Cl g 0 0 0 mX4_isJoint [.ref 152, .int 1] m Q := by
  refine Cl.of rfl (by decide) (Nat.le_of_ble_eq_true rfl) ?_
  show Wp g mX4_isJoint 0 0 0 0 [.ref 152, .int 1] [] m Q
  refine r_iload_n dX4_isJoint_0 rfl ?_
  refine r_tabIn 44 dX4_isJoint_1 (by decide) (by decide) rfl rfl ?_
  refine r_aload_n dX4_isJoint_44 rfl ?_
  refine r_getIc (t) dX4_isJoint_45 fgX4_55 rfl (by exact k_152 hF) (by exact h) ?_
  refine r_sipush (279) dX4_isJoint_48 rfl ?_
  refine r_icmp_ne 58 dX4_isJoint_51 rfl (fun a => ?_) (fun a => ?_)
  ·
    refine r_iconst (0) dX4_isJoint_58 rfl ?_
    refine r_ireturn dX4_isJoint_59 rfl rfl ?_
    exact k0 (fun q => a (of_decide_eq_true q))
  ·
    refine r_iconst (1) dX4_isJoint_54 rfl ?_
    refine r_goto 59 dX4_isJoint_55 rfl ?_
    refine r_ireturn dX4_isJoint_59 rfl rfl ?_
    exact k1 (decide_eq_true a)
theorem S_isJ2 {g : GG} {m : MM} {Q : Out → Prop} (hF : Fx m) {t : Int32} (h : ldI m 152 6 = t) (k1 : J2 t = true → Q (.inl (some (.int 1)), m)) (k0 : ¬ J2 t = true → Q (.inl (some (.int 0)), m)) : Cl g 0 0 0 mX4_isJoint [.ref 152, .int 2] m Q := by
  refine Cl.of rfl (by decide) (Nat.le_of_ble_eq_true rfl) ?_
  show Wp g mX4_isJoint 0 0 0 0 [.ref 152, .int 2] [] m Q
  refine r_iload_n dX4_isJoint_0 rfl ?_
  refine r_tabIn 60 dX4_isJoint_1 (by decide) (by decide) rfl rfl ?_
  refine r_aload_n dX4_isJoint_60 rfl ?_
  refine r_getIc (t) dX4_isJoint_61 fgX4_55 rfl (by exact k_152 hF) (by exact h) ?_
  refine r_bipush (43) dX4_isJoint_64 rfl ?_
  refine r_icmp_eq 78 dX4_isJoint_66 rfl (fun a => ?_) (fun a => ?_)
  ·
    refine r_iconst (1) dX4_isJoint_78 rfl ?_
    refine r_goto 83 dX4_isJoint_79 rfl ?_
    refine r_ireturn dX4_isJoint_83 rfl rfl ?_
    exact k1 (decide_eq_true (Or.inl a))
  ·
    refine r_aload_n dX4_isJoint_69 rfl ?_
    refine r_getIc (t) dX4_isJoint_70 fgX4_55 rfl (by exact k_152 hF) (by exact h) ?_
    refine r_bipush (45) dX4_isJoint_73 rfl ?_
    refine r_icmp_ne 82 dX4_isJoint_75 rfl (fun c => ?_) (fun c => ?_)
    ·
      refine r_iconst (0) dX4_isJoint_82 rfl ?_
      refine r_ireturn dX4_isJoint_83 rfl rfl ?_
      exact k0 (fun q => (of_decide_eq_true q).elim a c)
    ·
      refine r_iconst (1) dX4_isJoint_78 rfl ?_
      refine r_goto 83 dX4_isJoint_79 rfl ?_
      refine r_ireturn dX4_isJoint_83 rfl rfl ?_
      exact k1 (decide_eq_true (Or.inr c))
theorem S_isJ3 {g : GG} {m : MM} {Q : Out → Prop} (hF : Fx m) {t : Int32} (h : ldI m 152 6 = t) (k1 : J3 t = true → Q (.inl (some (.int 1)), m)) (k0 : ¬ J3 t = true → Q (.inl (some (.int 0)), m)) : Cl g 0 0 0 mX4_isJoint [.ref 152, .int 3] m Q := by
  refine Cl.of rfl (by decide) (Nat.le_of_ble_eq_true rfl) ?_
  show Wp g mX4_isJoint 0 0 0 0 [.ref 152, .int 3] [] m Q
  refine r_iload_n dX4_isJoint_0 rfl ?_
  refine r_tabOut 84 dX4_isJoint_1 (by decide) rfl ?_
  refine r_aload_n dX4_isJoint_84 rfl ?_
  refine r_getIc (t) dX4_isJoint_85 fgX4_55 rfl (by exact k_152 hF) (by exact h) ?_
  refine r_bipush (42) dX4_isJoint_88 rfl ?_
  refine r_icmp_eq 102 dX4_isJoint_90 rfl (fun a => ?_) (fun a => ?_)
  ·
    refine r_iconst (1) dX4_isJoint_102 rfl ?_
    refine r_goto 107 dX4_isJoint_103 rfl ?_
    refine r_ireturn dX4_isJoint_107 rfl rfl ?_
    exact k1 (decide_eq_true (Or.inl a))
  ·
    refine r_aload_n dX4_isJoint_93 rfl ?_
    refine r_getIc (t) dX4_isJoint_94 fgX4_55 rfl (by exact k_152 hF) (by exact h) ?_
    refine r_bipush (47) dX4_isJoint_97 rfl ?_
    refine r_icmp_ne 106 dX4_isJoint_99 rfl (fun c => ?_) (fun c => ?_)
    ·
      refine r_iconst (0) dX4_isJoint_106 rfl ?_
      refine r_ireturn dX4_isJoint_107 rfl rfl ?_
      exact k0 (fun q => (of_decide_eq_true q).elim a c)
    ·
      refine r_iconst (1) dX4_isJoint_102 rfl ?_
      refine r_goto 107 dX4_isJoint_103 rfl ?_
      refine r_ireturn dX4_isJoint_107 rfl rfl ?_
      exact k1 (decide_eq_true (Or.inr c))
