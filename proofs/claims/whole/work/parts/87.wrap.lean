/-! THE LAW'S WRAPPERS: an answer goes into the row at 283, a throw becomes its number -/
theorem Cl.mono {g : GG} {d c n : Nat} {ν : MD} {as : List Value} {m : MM} {Q Q' : Out → Prop} (h : ∀ o, Q o → Q' o) (k : Cl g d c n ν as m Q) : Cl g d c n ν as m Q' := by
  intro r p e ha hc hk s mid args below hf happ hP hK
  obtain ⟨n1, o, h1, h2, h3, h4⟩ := k r p e ha hc hk s mid args below hf happ hP hK
  refine ⟨n1, o, h1, h2, h3, ?_⟩
  rcases h4 with ⟨⟨r', v, m', a1, a2, a3⟩, b⟩ | ⟨q, a1, E, ce, L, ⟨r', m', a2, a3⟩, a4⟩
  · exact Or.inl ⟨⟨r', v, m', a1, h _ a2, a3⟩, b⟩
  · exact Or.inr ⟨q, a1, E, ce, L, ⟨r', m', h _ a2, a3⟩, a4⟩
def WHi (L : List (String × Int32)) (Q : Out → Prop) : Out → Prop := fun o => match o.1 with
  | .inl (some (.int v)) => Fx o.2 ∧ Q (.inl (some (.int 0)), stL o.2 283 0 v.toInt64)
  | .inr E => ∃ v, (E, v) ∈ L ∧ Q (.inl (some (.int v)), o.2)
  | _ => False
def WHl (L : List (String × Int32)) (Q : Out → Prop) : Out → Prop := fun o => match o.1 with
  | .inl (some (.long v)) => Fx o.2 ∧ Q (.inl (some (.int 0)), stL o.2 283 0 v)
  | .inr E => ∃ v, (E, v) ∈ L ∧ Q (.inl (some (.int v)), o.2)
  | _ => False
theorem xl_IAE : Cond.classLink RL 13 EIAE ∈ TB := (tb_2 228 rfl rfl)
theorem xc_IAE : Cond.castable EIAE EIAE ∈ NB := (nb_3 1 rfl rfl)
theorem xl_NSE : Cond.classLink RL 19 ENSE ∈ TB := (tb_3 77 rfl rfl)
theorem xc_NSE : Cond.castable ENSE ENSE ∈ NB := (nb_3 92 rfl rfl)
theorem xl_ISE : Cond.classLink RL 45 EISE ∈ TB := (tb_4 140 rfl rfl)
theorem xc_ISE : Cond.castable EISE EISE ∈ NB := (nb_4 151 rfl rfl)
theorem xl_IOB : Cond.classLink RL 35 EIOB ∈ TB := (tb_4 104 rfl rfl)
theorem xc_IOB : Cond.castable EIOB EIOB ∈ NB := (nb_4 115 rfl rfl)
def xL_hull : List (String × Int32) := [(EIAE, 1)]
theorem ho_hull : ∀ E v, (E, v) ∈ xL_hull → HO mL_hull 5 E v := by
  intro E v h
  rcases List.mem_cons.mp h with h | h
  · obtain ⟨rfl, rfl⟩ := Prod.mk.inj h
    exact ⟨[], ⟨0, 10, 13, 13⟩, [], rfl, by decide, by decide, xl_IAE, xc_IAE, (fun z hz => absurd hz List.not_mem_nil), 4, 1, Or.inl ⟨dL_hull_13, by decide, dL_hull_15, dL_hull_16⟩, rfl⟩
  exact absurd h List.not_mem_nil
theorem W_hull {g : GG} {m : MM} {Q : Out → Prop} (hF : Fx m) {p0 p1 : Int32} (h : Cl g 7 2 12 mX11_hull [.ref 4, .int p0, .int p1] m (WHi xL_hull Q)) : Cl g 8 2 12 mL_hull [.ref 4, .int p0, .int p1, .ref 283] m Q := by
  refine Cl.ofH rfl (by decide) (Nat.le_of_ble_eq_true rfl) ?_
  show Wp g mL_hull 8 2 12 0 [.ref 4, .int p0, .int p1, .ref 283, .retAddr 0] [] m Q
  refine r_aload_n dL_hull_0 rfl ?_
  refine r_iconst (0) dL_hull_1 rfl ?_
  refine r_aload_n dL_hull_2 rfl ?_
  refine r_iload_n dL_hull_3 rfl ?_
  refine r_iload_n dL_hull_4 rfl ?_
  refine r_callVH (d1 := 7) (c1 := 2) (n1 := 12) (c := 0) (n := 0) (a := 4) (ci := 11) (st := [.int 0, .ref 283]) [.int p0, .int p1] rfl dL_hull_5 mvL_7 rfl (by exact k_4 hF) ⟨(Nat.le_of_ble_eq_true rfl), rfl⟩ (Nat.le_of_ble_eq_true rfl) (by exact Nat.le_of_ble_eq_true rfl) ?_
  refine Cl.mono (fun o ho => ?_) h
  obtain ⟨out, m'⟩ := o
  cases out with
  | inr E => obtain ⟨v, hv, hq⟩ := ho; exact ⟨v, ho_hull E v hv, hq⟩
  | inl v =>
    cases v with
    | none => exact False.elim ho
    | some v =>
      cases v with
      | int v =>
        obtain ⟨hF1, hq⟩ := ho
        show Wp g mL_hull _ _ _ 8 _ (_ :: _) _ Q
        refine r_i2l dL_hull_8 ?_
        refine r_lastoren (0) rfl dL_hull_9 (by exact k_283 hF1) (vin (j := 0) (by omega) (by omega)) ?_
        refine r_goto 17 dL_hull_10 rfl ?_
        refine r_iconst (0) dL_hull_17 rfl ?_
        refine r_ireturn dL_hull_18 rfl rfl ?_
        exact hq
      | _ => exact False.elim ho
def xL_station : List (String × Int32) := [(ENSE, 1), (EIAE, 2)]
theorem ho_station : ∀ E v, (E, v) ∈ xL_station → HO mL_station 9 E v := by
  intro E v h
  rcases List.mem_cons.mp h with h | h
  · obtain ⟨rfl, rfl⟩ := Prod.mk.inj h
    exact ⟨[], ⟨0, 14, 17, 19⟩, [⟨0, 14, 21, 13⟩], rfl, by decide, by decide, xl_NSE, xc_NSE, (fun z hz => absurd hz List.not_mem_nil), 6, 1, Or.inl ⟨dL_station_17, by decide, dL_station_19, dL_station_20⟩, rfl⟩
  rcases List.mem_cons.mp h with h | h
  · obtain ⟨rfl, rfl⟩ := Prod.mk.inj h
    exact ⟨[⟨0, 14, 17, 19⟩], ⟨0, 14, 21, 13⟩, [], rfl, by decide, by decide, xl_IAE, xc_IAE, (fun z hz => by
      rcases List.mem_cons.mp hz with rfl | hz
      · exact ⟨by decide, ENSE, by decide, xl_NSE, by decide, by decide⟩
      exact absurd hz List.not_mem_nil), 6, 2, Or.inl ⟨dL_station_21, by decide, dL_station_23, dL_station_24⟩, rfl⟩
  exact absurd h List.not_mem_nil
theorem W_station {g : GG} {m : MM} {Q : Out → Prop} (hF : Fx m) {p0 p1 p2 p3 : Int32} (h : Cl g 7 3 18 mX11_station [.ref 4, .int p0, .int p1, .int p2, .int p3] m (WHi xL_station Q)) : Cl g 8 3 18 mL_station [.ref 4, .int p0, .int p1, .int p2, .int p3, .ref 283] m Q := by
  refine Cl.ofH rfl (by decide) (Nat.le_of_ble_eq_true rfl) ?_
  show Wp g mL_station 8 3 18 0 [.ref 4, .int p0, .int p1, .int p2, .int p3, .ref 283, .retAddr 0] [] m Q
  refine r_aload dL_station_0 rfl ?_
  refine r_iconst (0) dL_station_2 rfl ?_
  refine r_aload_n dL_station_3 rfl ?_
  refine r_iload_n dL_station_4 rfl ?_
  refine r_iload_n dL_station_5 rfl ?_
  refine r_iload_n dL_station_6 rfl ?_
  refine r_iload dL_station_7 rfl ?_
  refine r_callVH (d1 := 7) (c1 := 3) (n1 := 18) (c := 0) (n := 0) (a := 4) (ci := 11) (st := [.int 0, .ref 283]) [.int p0, .int p1, .int p2, .int p3] rfl dL_station_9 mvL_15 rfl (by exact k_4 hF) ⟨(Nat.le_of_ble_eq_true rfl), rfl⟩ (Nat.le_of_ble_eq_true rfl) (by exact Nat.le_of_ble_eq_true rfl) ?_
  refine Cl.mono (fun o ho => ?_) h
  obtain ⟨out, m'⟩ := o
  cases out with
  | inr E => obtain ⟨v, hv, hq⟩ := ho; exact ⟨v, ho_station E v hv, hq⟩
  | inl v =>
    cases v with
    | none => exact False.elim ho
    | some v =>
      cases v with
      | int v =>
        obtain ⟨hF1, hq⟩ := ho
        show Wp g mL_station _ _ _ 12 _ (_ :: _) _ Q
        refine r_i2l dL_station_12 ?_
        refine r_lastoren (0) rfl dL_station_13 (by exact k_283 hF1) (vin (j := 0) (by omega) (by omega)) ?_
        refine r_goto 25 dL_station_14 rfl ?_
        refine r_iconst (0) dL_station_25 rfl ?_
        refine r_ireturn dL_station_26 rfl rfl ?_
        exact hq
      | _ => exact False.elim ho
def xL_model : List (String × Int32) := [(ENSE, 1), (EIAE, 2)]
theorem ho_model : ∀ E v, (E, v) ∈ xL_model → HO mL_model 7 E v := by
  intro E v h
  rcases List.mem_cons.mp h with h | h
  · obtain ⟨rfl, rfl⟩ := Prod.mk.inj h
    exact ⟨[], ⟨0, 12, 15, 19⟩, [⟨0, 12, 19, 13⟩], rfl, by decide, by decide, xl_NSE, xc_NSE, (fun z hz => absurd hz List.not_mem_nil), 5, 1, Or.inl ⟨dL_model_15, by decide, dL_model_17, dL_model_18⟩, rfl⟩
  rcases List.mem_cons.mp h with h | h
  · obtain ⟨rfl, rfl⟩ := Prod.mk.inj h
    exact ⟨[⟨0, 12, 15, 19⟩], ⟨0, 12, 19, 13⟩, [], rfl, by decide, by decide, xl_IAE, xc_IAE, (fun z hz => by
      rcases List.mem_cons.mp hz with rfl | hz
      · exact ⟨by decide, ENSE, by decide, xl_NSE, by decide, by decide⟩
      exact absurd hz List.not_mem_nil), 5, 2, Or.inl ⟨dL_model_19, by decide, dL_model_21, dL_model_22⟩, rfl⟩
  exact absurd h List.not_mem_nil
theorem W_model {g : GG} {m : MM} {Q : Out → Prop} (hF : Fx m) {p0 p1 p2 : Int32} (h : Cl g 7 2 12 mX11_model [.ref 4, .int p0, .int p1, .int p2] m (WHi xL_model Q)) : Cl g 8 2 12 mL_model [.ref 4, .int p0, .int p1, .int p2, .ref 283] m Q := by
  refine Cl.ofH rfl (by decide) (Nat.le_of_ble_eq_true rfl) ?_
  show Wp g mL_model 8 2 12 0 [.ref 4, .int p0, .int p1, .int p2, .ref 283, .retAddr 0] [] m Q
  refine r_aload dL_model_0 rfl ?_
  refine r_iconst (0) dL_model_2 rfl ?_
  refine r_aload_n dL_model_3 rfl ?_
  refine r_iload_n dL_model_4 rfl ?_
  refine r_iload_n dL_model_5 rfl ?_
  refine r_iload_n dL_model_6 rfl ?_
  refine r_callVH (d1 := 7) (c1 := 2) (n1 := 12) (c := 0) (n := 0) (a := 4) (ci := 11) (st := [.int 0, .ref 283]) [.int p0, .int p1, .int p2] rfl dL_model_7 mvL_21 rfl (by exact k_4 hF) ⟨(Nat.le_of_ble_eq_true rfl), rfl⟩ (Nat.le_of_ble_eq_true rfl) (by exact Nat.le_of_ble_eq_true rfl) ?_
  refine Cl.mono (fun o ho => ?_) h
  obtain ⟨out, m'⟩ := o
  cases out with
  | inr E => obtain ⟨v, hv, hq⟩ := ho; exact ⟨v, ho_model E v hv, hq⟩
  | inl v =>
    cases v with
    | none => exact False.elim ho
    | some v =>
      cases v with
      | int v =>
        obtain ⟨hF1, hq⟩ := ho
        show Wp g mL_model _ _ _ 10 _ (_ :: _) _ Q
        refine r_i2l dL_model_10 ?_
        refine r_lastoren (0) rfl dL_model_11 (by exact k_283 hF1) (vin (j := 0) (by omega) (by omega)) ?_
        refine r_goto 23 dL_model_12 rfl ?_
        refine r_iconst (0) dL_model_23 rfl ?_
        refine r_ireturn dL_model_24 rfl rfl ?_
        exact hq
      | _ => exact False.elim ho
def xL_tank : List (String × Int32) := [(EIAE, 1)]
theorem ho_tank : ∀ E v, (E, v) ∈ xL_tank → HO mL_tank 5 E v := by
  intro E v h
  rcases List.mem_cons.mp h with h | h
  · obtain ⟨rfl, rfl⟩ := Prod.mk.inj h
    exact ⟨[], ⟨0, 10, 13, 13⟩, [], rfl, by decide, by decide, xl_IAE, xc_IAE, (fun z hz => absurd hz List.not_mem_nil), 4, 1, Or.inl ⟨dL_tank_13, by decide, dL_tank_15, dL_tank_16⟩, rfl⟩
  exact absurd h List.not_mem_nil
theorem W_tank {g : GG} {m : MM} {Q : Out → Prop} (hF : Fx m) {p0 p1 : Int32} (h : Cl g 7 1 6 mX11_tank [.ref 4, .int p0, .int p1] m (WHi xL_tank Q)) : Cl g 8 1 6 mL_tank [.ref 4, .int p0, .int p1, .ref 283] m Q := by
  refine Cl.ofH rfl (by decide) (Nat.le_of_ble_eq_true rfl) ?_
  show Wp g mL_tank 8 1 6 0 [.ref 4, .int p0, .int p1, .ref 283, .retAddr 0] [] m Q
  refine r_aload_n dL_tank_0 rfl ?_
  refine r_iconst (0) dL_tank_1 rfl ?_
  refine r_aload_n dL_tank_2 rfl ?_
  refine r_iload_n dL_tank_3 rfl ?_
  refine r_iload_n dL_tank_4 rfl ?_
  refine r_callVH (d1 := 7) (c1 := 1) (n1 := 6) (c := 0) (n := 0) (a := 4) (ci := 11) (st := [.int 0, .ref 283]) [.int p0, .int p1] rfl dL_tank_5 mvL_25 rfl (by exact k_4 hF) ⟨(Nat.le_of_ble_eq_true rfl), rfl⟩ (Nat.le_of_ble_eq_true rfl) (by exact Nat.le_of_ble_eq_true rfl) ?_
  refine Cl.mono (fun o ho => ?_) h
  obtain ⟨out, m'⟩ := o
  cases out with
  | inr E => obtain ⟨v, hv, hq⟩ := ho; exact ⟨v, ho_tank E v hv, hq⟩
  | inl v =>
    cases v with
    | none => exact False.elim ho
    | some v =>
      cases v with
      | int v =>
        obtain ⟨hF1, hq⟩ := ho
        show Wp g mL_tank _ _ _ 8 _ (_ :: _) _ Q
        refine r_i2l dL_tank_8 ?_
        refine r_lastoren (0) rfl dL_tank_9 (by exact k_283 hF1) (vin (j := 0) (by omega) (by omega)) ?_
        refine r_goto 17 dL_tank_10 rfl ?_
        refine r_iconst (0) dL_tank_17 rfl ?_
        refine r_ireturn dL_tank_18 rfl rfl ?_
        exact hq
      | _ => exact False.elim ho
def xL_law : List (String × Int32) := [(EIAE, 1)]
theorem ho_law : ∀ E v, (E, v) ∈ xL_law → HO mL_law 5 E v := by
  intro E v h
  rcases List.mem_cons.mp h with h | h
  · obtain ⟨rfl, rfl⟩ := Prod.mk.inj h
    exact ⟨[], ⟨0, 10, 13, 13⟩, [], rfl, by decide, by decide, xl_IAE, xc_IAE, (fun z hz => absurd hz List.not_mem_nil), 4, 1, Or.inl ⟨dL_law_13, by decide, dL_law_15, dL_law_16⟩, rfl⟩
  exact absurd h List.not_mem_nil
theorem W_law {g : GG} {m : MM} {Q : Out → Prop} (hF : Fx m) {p0 p1 : Int32} (h : Cl g 58 3 407 mX11_law [.ref 4, .int p0, .int p1] m (WHi xL_law Q)) : Cl g 59 3 407 mL_law [.ref 4, .int p0, .int p1, .ref 283] m Q := by
  refine Cl.ofH rfl (by decide) (Nat.le_of_ble_eq_true rfl) ?_
  show Wp g mL_law 59 3 407 0 [.ref 4, .int p0, .int p1, .ref 283, .retAddr 0] [] m Q
  refine r_aload_n dL_law_0 rfl ?_
  refine r_iconst (0) dL_law_1 rfl ?_
  refine r_aload_n dL_law_2 rfl ?_
  refine r_iload_n dL_law_3 rfl ?_
  refine r_iload_n dL_law_4 rfl ?_
  refine r_callVH (d1 := 58) (c1 := 3) (n1 := 407) (c := 0) (n := 0) (a := 4) (ci := 11) (st := [.int 0, .ref 283]) [.int p0, .int p1] rfl dL_law_5 mvL_28 rfl (by exact k_4 hF) ⟨(Nat.le_of_ble_eq_true rfl), rfl⟩ (Nat.le_of_ble_eq_true rfl) (by exact Nat.le_of_ble_eq_true rfl) ?_
  refine Cl.mono (fun o ho => ?_) h
  obtain ⟨out, m'⟩ := o
  cases out with
  | inr E => obtain ⟨v, hv, hq⟩ := ho; exact ⟨v, ho_law E v hv, hq⟩
  | inl v =>
    cases v with
    | none => exact False.elim ho
    | some v =>
      cases v with
      | int v =>
        obtain ⟨hF1, hq⟩ := ho
        show Wp g mL_law _ _ _ 8 _ (_ :: _) _ Q
        refine r_i2l dL_law_8 ?_
        refine r_lastoren (0) rfl dL_law_9 (by exact k_283 hF1) (vin (j := 0) (by omega) (by omega)) ?_
        refine r_goto 17 dL_law_10 rfl ?_
        refine r_iconst (0) dL_law_17 rfl ?_
        refine r_ireturn dL_law_18 rfl rfl ?_
        exact hq
      | _ => exact False.elim ho
def xL_set : List (String × Int32) := [(ENSE, 1), (EIOB, 2), (EIAE, 3)]
theorem ho_set : ∀ E v, (E, v) ∈ xL_set → HO mL_set 9 E v := by
  intro E v h
  rcases List.mem_cons.mp h with h | h
  · obtain ⟨rfl, rfl⟩ := Prod.mk.inj h
    exact ⟨[], ⟨0, 14, 17, 19⟩, [⟨0, 14, 21, 35⟩, ⟨0, 14, 25, 13⟩], rfl, by decide, by decide, xl_NSE, xc_NSE, (fun z hz => absurd hz List.not_mem_nil), 6, 1, Or.inl ⟨dL_set_17, by decide, dL_set_19, dL_set_20⟩, rfl⟩
  rcases List.mem_cons.mp h with h | h
  · obtain ⟨rfl, rfl⟩ := Prod.mk.inj h
    exact ⟨[⟨0, 14, 17, 19⟩], ⟨0, 14, 21, 35⟩, [⟨0, 14, 25, 13⟩], rfl, by decide, by decide, xl_IOB, xc_IOB, (fun z hz => by
      rcases List.mem_cons.mp hz with rfl | hz
      · exact ⟨by decide, ENSE, by decide, xl_NSE, by decide, by decide⟩
      exact absurd hz List.not_mem_nil), 6, 2, Or.inl ⟨dL_set_21, by decide, dL_set_23, dL_set_24⟩, rfl⟩
  rcases List.mem_cons.mp h with h | h
  · obtain ⟨rfl, rfl⟩ := Prod.mk.inj h
    exact ⟨[⟨0, 14, 17, 19⟩, ⟨0, 14, 21, 35⟩], ⟨0, 14, 25, 13⟩, [], rfl, by decide, by decide, xl_IAE, xc_IAE, (fun z hz => by
      rcases List.mem_cons.mp hz with rfl | hz
      · exact ⟨by decide, ENSE, by decide, xl_NSE, by decide, by decide⟩
      rcases List.mem_cons.mp hz with rfl | hz
      · exact ⟨by decide, EIOB, by decide, xl_IOB, by decide, by decide⟩
      exact absurd hz List.not_mem_nil), 6, 3, Or.inl ⟨dL_set_25, by decide, dL_set_27, dL_set_28⟩, rfl⟩
  exact absurd h List.not_mem_nil
theorem W_set {g : GG} {m : MM} {Q : Out → Prop} (hF : Fx m) {p0 p1 p2 p3 : Int32} (h : Cl g 7 3 18 mX11_set [.ref 4, .int p0, .int p1, .int p2, .int p3] m (WHi xL_set Q)) : Cl g 8 3 18 mL_set [.ref 4, .int p0, .int p1, .int p2, .int p3, .ref 283] m Q := by
  refine Cl.ofH rfl (by decide) (Nat.le_of_ble_eq_true rfl) ?_
  show Wp g mL_set 8 3 18 0 [.ref 4, .int p0, .int p1, .int p2, .int p3, .ref 283, .retAddr 0] [] m Q
  refine r_aload dL_set_0 rfl ?_
  refine r_iconst (0) dL_set_2 rfl ?_
  refine r_aload_n dL_set_3 rfl ?_
  refine r_iload_n dL_set_4 rfl ?_
  refine r_iload_n dL_set_5 rfl ?_
  refine r_iload_n dL_set_6 rfl ?_
  refine r_iload dL_set_7 rfl ?_
  refine r_callVH (d1 := 7) (c1 := 3) (n1 := 18) (c := 0) (n := 0) (a := 4) (ci := 11) (st := [.int 0, .ref 283]) [.int p0, .int p1, .int p2, .int p3] rfl dL_set_9 mvL_32 rfl (by exact k_4 hF) ⟨(Nat.le_of_ble_eq_true rfl), rfl⟩ (Nat.le_of_ble_eq_true rfl) (by exact Nat.le_of_ble_eq_true rfl) ?_
  refine Cl.mono (fun o ho => ?_) h
  obtain ⟨out, m'⟩ := o
  cases out with
  | inr E => obtain ⟨v, hv, hq⟩ := ho; exact ⟨v, ho_set E v hv, hq⟩
  | inl v =>
    cases v with
    | none => exact False.elim ho
    | some v =>
      cases v with
      | int v =>
        obtain ⟨hF1, hq⟩ := ho
        show Wp g mL_set _ _ _ 12 _ (_ :: _) _ Q
        refine r_i2l dL_set_12 ?_
        refine r_lastoren (0) rfl dL_set_13 (by exact k_283 hF1) (vin (j := 0) (by omega) (by omega)) ?_
        refine r_goto 29 dL_set_14 rfl ?_
        refine r_iconst (0) dL_set_29 rfl ?_
        refine r_ireturn dL_set_30 rfl rfl ?_
        exact hq
      | _ => exact False.elim ho
def xL_trim : List (String × Int32) := [(EIAE, 1)]
theorem ho_trim : ∀ E v, (E, v) ∈ xL_trim → HO mL_trim 5 E v := by
  intro E v h
  rcases List.mem_cons.mp h with h | h
  · obtain ⟨rfl, rfl⟩ := Prod.mk.inj h
    exact ⟨[], ⟨0, 10, 13, 13⟩, [], rfl, by decide, by decide, xl_IAE, xc_IAE, (fun z hz => absurd hz List.not_mem_nil), 4, 1, Or.inl ⟨dL_trim_13, by decide, dL_trim_15, dL_trim_16⟩, rfl⟩
  exact absurd h List.not_mem_nil
theorem W_trim {g : GG} {m : MM} {Q : Out → Prop} (hF : Fx m) {p0 p1 : Int32} (h : Cl g 7 1 6 mX11_trim [.ref 4, .int p0, .int p1] m (WHi xL_trim Q)) : Cl g 8 1 6 mL_trim [.ref 4, .int p0, .int p1, .ref 283] m Q := by
  refine Cl.ofH rfl (by decide) (Nat.le_of_ble_eq_true rfl) ?_
  show Wp g mL_trim 8 1 6 0 [.ref 4, .int p0, .int p1, .ref 283, .retAddr 0] [] m Q
  refine r_aload_n dL_trim_0 rfl ?_
  refine r_iconst (0) dL_trim_1 rfl ?_
  refine r_aload_n dL_trim_2 rfl ?_
  refine r_iload_n dL_trim_3 rfl ?_
  refine r_iload_n dL_trim_4 rfl ?_
  refine r_callVH (d1 := 7) (c1 := 1) (n1 := 6) (c := 0) (n := 0) (a := 4) (ci := 11) (st := [.int 0, .ref 283]) [.int p0, .int p1] rfl dL_trim_5 mvL_37 rfl (by exact k_4 hF) ⟨(Nat.le_of_ble_eq_true rfl), rfl⟩ (Nat.le_of_ble_eq_true rfl) (by exact Nat.le_of_ble_eq_true rfl) ?_
  refine Cl.mono (fun o ho => ?_) h
  obtain ⟨out, m'⟩ := o
  cases out with
  | inr E => obtain ⟨v, hv, hq⟩ := ho; exact ⟨v, ho_trim E v hv, hq⟩
  | inl v =>
    cases v with
    | none => exact False.elim ho
    | some v =>
      cases v with
      | int v =>
        obtain ⟨hF1, hq⟩ := ho
        show Wp g mL_trim _ _ _ 8 _ (_ :: _) _ Q
        refine r_i2l dL_trim_8 ?_
        refine r_lastoren (0) rfl dL_trim_9 (by exact k_283 hF1) (vin (j := 0) (by omega) (by omega)) ?_
        refine r_goto 17 dL_trim_10 rfl ?_
        refine r_iconst (0) dL_trim_17 rfl ?_
        refine r_ireturn dL_trim_18 rfl rfl ?_
        exact hq
      | _ => exact False.elim ho
def xL_name : List (String × Int32) := [(EISE, 1), (EIAE, 2)]
theorem ho_name : ∀ E v, (E, v) ∈ xL_name → HO mL_name 4 E v := by
  intro E v h
  rcases List.mem_cons.mp h with h | h
  · obtain ⟨rfl, rfl⟩ := Prod.mk.inj h
    exact ⟨[], ⟨0, 9, 12, 45⟩, [⟨0, 9, 15, 13⟩], rfl, by decide, by decide, xl_ISE, xc_ISE, (fun z hz => absurd hz List.not_mem_nil), 3, 1, Or.inr ⟨(3 : Fin 4), rfl, dL_name_12, by decide, dL_name_13, dL_name_14⟩, rfl⟩
  rcases List.mem_cons.mp h with h | h
  · obtain ⟨rfl, rfl⟩ := Prod.mk.inj h
    exact ⟨[⟨0, 9, 12, 45⟩], ⟨0, 9, 15, 13⟩, [], rfl, by decide, by decide, xl_IAE, xc_IAE, (fun z hz => by
      rcases List.mem_cons.mp hz with rfl | hz
      · exact ⟨by decide, EISE, by decide, xl_ISE, by decide, by decide⟩
      exact absurd hz List.not_mem_nil), 3, 2, Or.inr ⟨(3 : Fin 4), rfl, dL_name_15, by decide, dL_name_16, dL_name_17⟩, rfl⟩
  exact absurd h List.not_mem_nil
theorem W_name {g : GG} {m : MM} {Q : Out → Prop} (hF : Fx m) {p0 : Int32} (h : Cl g 7 2 12 mX11_name [.ref 4, .int p0] m (WHi xL_name Q)) : Cl g 8 2 12 mL_name [.ref 4, .int p0, .ref 283] m Q := by
  refine Cl.ofH rfl (by decide) (Nat.le_of_ble_eq_true rfl) ?_
  show Wp g mL_name 8 2 12 0 [.ref 4, .int p0, .ref 283, .retAddr 0] [] m Q
  refine r_aload_n dL_name_0 rfl ?_
  refine r_iconst (0) dL_name_1 rfl ?_
  refine r_aload_n dL_name_2 rfl ?_
  refine r_iload_n dL_name_3 rfl ?_
  refine r_callVH (d1 := 7) (c1 := 2) (n1 := 12) (c := 0) (n := 0) (a := 4) (ci := 11) (st := [.int 0, .ref 283]) [.int p0] rfl dL_name_4 mvL_41 rfl (by exact k_4 hF) ⟨(Nat.le_of_ble_eq_true rfl), rfl⟩ (Nat.le_of_ble_eq_true rfl) (by exact Nat.le_of_ble_eq_true rfl) ?_
  refine Cl.mono (fun o ho => ?_) h
  obtain ⟨out, m'⟩ := o
  cases out with
  | inr E => obtain ⟨v, hv, hq⟩ := ho; exact ⟨v, ho_name E v hv, hq⟩
  | inl v =>
    cases v with
    | none => exact False.elim ho
    | some v =>
      cases v with
      | int v =>
        obtain ⟨hF1, hq⟩ := ho
        show Wp g mL_name _ _ _ 7 _ (_ :: _) _ Q
        refine r_i2l dL_name_7 ?_
        refine r_lastoren (0) rfl dL_name_8 (by exact k_283 hF1) (vin (j := 0) (by omega) (by omega)) ?_
        refine r_goto 18 dL_name_9 rfl ?_
        refine r_iconst (0) dL_name_18 rfl ?_
        refine r_ireturn dL_name_19 rfl rfl ?_
        exact hq
      | _ => exact False.elim ho
def xL_pull : List (String × Int32) := [(EISE, 1), (EIOB, 2), (EIAE, 3)]
theorem ho_pull : ∀ E v, (E, v) ∈ xL_pull → HO mL_pull 5 E v := by
  intro E v h
  rcases List.mem_cons.mp h with h | h
  · obtain ⟨rfl, rfl⟩ := Prod.mk.inj h
    exact ⟨[], ⟨0, 9, 12, 45⟩, [⟨0, 9, 16, 35⟩, ⟨0, 9, 20, 13⟩], rfl, by decide, by decide, xl_ISE, xc_ISE, (fun z hz => absurd hz List.not_mem_nil), 4, 1, Or.inl ⟨dL_pull_12, by decide, dL_pull_14, dL_pull_15⟩, rfl⟩
  rcases List.mem_cons.mp h with h | h
  · obtain ⟨rfl, rfl⟩ := Prod.mk.inj h
    exact ⟨[⟨0, 9, 12, 45⟩], ⟨0, 9, 16, 35⟩, [⟨0, 9, 20, 13⟩], rfl, by decide, by decide, xl_IOB, xc_IOB, (fun z hz => by
      rcases List.mem_cons.mp hz with rfl | hz
      · exact ⟨by decide, EISE, by decide, xl_ISE, by decide, by decide⟩
      exact absurd hz List.not_mem_nil), 4, 2, Or.inl ⟨dL_pull_16, by decide, dL_pull_18, dL_pull_19⟩, rfl⟩
  rcases List.mem_cons.mp h with h | h
  · obtain ⟨rfl, rfl⟩ := Prod.mk.inj h
    exact ⟨[⟨0, 9, 12, 45⟩, ⟨0, 9, 16, 35⟩], ⟨0, 9, 20, 13⟩, [], rfl, by decide, by decide, xl_IAE, xc_IAE, (fun z hz => by
      rcases List.mem_cons.mp hz with rfl | hz
      · exact ⟨by decide, EISE, by decide, xl_ISE, by decide, by decide⟩
      rcases List.mem_cons.mp hz with rfl | hz
      · exact ⟨by decide, EIOB, by decide, xl_IOB, by decide, by decide⟩
      exact absurd hz List.not_mem_nil), 4, 3, Or.inl ⟨dL_pull_20, by decide, dL_pull_22, dL_pull_23⟩, rfl⟩
  exact absurd h List.not_mem_nil
theorem W_pull {g : GG} {m : MM} {Q : Out → Prop} (hF : Fx m) {p0 p1 : Int32} (h : Cl g 7 3 18 mX11_pull [.ref 4, .int p0, .int p1] m (WHl xL_pull Q)) : Cl g 8 3 18 mL_pull [.ref 4, .int p0, .int p1, .ref 283] m Q := by
  refine Cl.ofH rfl (by decide) (Nat.le_of_ble_eq_true rfl) ?_
  show Wp g mL_pull 8 3 18 0 [.ref 4, .int p0, .int p1, .ref 283, .retAddr 0] [] m Q
  refine r_aload_n dL_pull_0 rfl ?_
  refine r_iconst (0) dL_pull_1 rfl ?_
  refine r_aload_n dL_pull_2 rfl ?_
  refine r_iload_n dL_pull_3 rfl ?_
  refine r_iload_n dL_pull_4 rfl ?_
  refine r_callVH (d1 := 7) (c1 := 3) (n1 := 18) (c := 0) (n := 0) (a := 4) (ci := 11) (st := [.int 0, .ref 283]) [.int p0, .int p1] rfl dL_pull_5 mvL_47 rfl (by exact k_4 hF) ⟨(Nat.le_of_ble_eq_true rfl), rfl⟩ (Nat.le_of_ble_eq_true rfl) (by exact Nat.le_of_ble_eq_true rfl) ?_
  refine Cl.mono (fun o ho => ?_) h
  obtain ⟨out, m'⟩ := o
  cases out with
  | inr E => obtain ⟨v, hv, hq⟩ := ho; exact ⟨v, ho_pull E v hv, hq⟩
  | inl v =>
    cases v with
    | none => exact False.elim ho
    | some v =>
      cases v with
      | long v =>
        obtain ⟨hF1, hq⟩ := ho
        show Wp g mL_pull _ _ _ 8 _ (_ :: _) _ Q
        refine r_lastoren (0) rfl dL_pull_8 (by exact k_283 hF1) (vin (j := 0) (by omega) (by omega)) ?_
        refine r_goto 24 dL_pull_9 rfl ?_
        refine r_iconst (0) dL_pull_24 rfl ?_
        refine r_ireturn dL_pull_25 rfl rfl ?_
        exact hq
      | _ => exact False.elim ho
def xL_need : List (String × Int32) := [(EISE, 1), (EIOB, 2), (EIAE, 3)]
theorem ho_need : ∀ E v, (E, v) ∈ xL_need → HO mL_need 7 E v := by
  intro E v h
  rcases List.mem_cons.mp h with h | h
  · obtain ⟨rfl, rfl⟩ := Prod.mk.inj h
    exact ⟨[], ⟨0, 11, 14, 45⟩, [⟨0, 11, 18, 35⟩, ⟨0, 11, 22, 13⟩], rfl, by decide, by decide, xl_ISE, xc_ISE, (fun z hz => absurd hz List.not_mem_nil), 5, 1, Or.inl ⟨dL_need_14, by decide, dL_need_16, dL_need_17⟩, rfl⟩
  rcases List.mem_cons.mp h with h | h
  · obtain ⟨rfl, rfl⟩ := Prod.mk.inj h
    exact ⟨[⟨0, 11, 14, 45⟩], ⟨0, 11, 18, 35⟩, [⟨0, 11, 22, 13⟩], rfl, by decide, by decide, xl_IOB, xc_IOB, (fun z hz => by
      rcases List.mem_cons.mp hz with rfl | hz
      · exact ⟨by decide, EISE, by decide, xl_ISE, by decide, by decide⟩
      exact absurd hz List.not_mem_nil), 5, 2, Or.inl ⟨dL_need_18, by decide, dL_need_20, dL_need_21⟩, rfl⟩
  rcases List.mem_cons.mp h with h | h
  · obtain ⟨rfl, rfl⟩ := Prod.mk.inj h
    exact ⟨[⟨0, 11, 14, 45⟩, ⟨0, 11, 18, 35⟩], ⟨0, 11, 22, 13⟩, [], rfl, by decide, by decide, xl_IAE, xc_IAE, (fun z hz => by
      rcases List.mem_cons.mp hz with rfl | hz
      · exact ⟨by decide, EISE, by decide, xl_ISE, by decide, by decide⟩
      rcases List.mem_cons.mp hz with rfl | hz
      · exact ⟨by decide, EIOB, by decide, xl_IOB, by decide, by decide⟩
      exact absurd hz List.not_mem_nil), 5, 3, Or.inl ⟨dL_need_22, by decide, dL_need_24, dL_need_25⟩, rfl⟩
  exact absurd h List.not_mem_nil
theorem W_need {g : GG} {m : MM} {Q : Out → Prop} (hF : Fx m) {p0 p1 p2 : Int32} (h : Cl g 7 3 18 mX11_need [.ref 4, .int p0, .int p1, .int p2] m (WHl xL_need Q)) : Cl g 8 3 18 mL_need [.ref 4, .int p0, .int p1, .int p2, .ref 283] m Q := by
  refine Cl.ofH rfl (by decide) (Nat.le_of_ble_eq_true rfl) ?_
  show Wp g mL_need 8 3 18 0 [.ref 4, .int p0, .int p1, .int p2, .ref 283, .retAddr 0] [] m Q
  refine r_aload dL_need_0 rfl ?_
  refine r_iconst (0) dL_need_2 rfl ?_
  refine r_aload_n dL_need_3 rfl ?_
  refine r_iload_n dL_need_4 rfl ?_
  refine r_iload_n dL_need_5 rfl ?_
  refine r_iload_n dL_need_6 rfl ?_
  refine r_callVH (d1 := 7) (c1 := 3) (n1 := 18) (c := 0) (n := 0) (a := 4) (ci := 11) (st := [.int 0, .ref 283]) [.int p0, .int p1, .int p2] rfl dL_need_7 mvL_51 rfl (by exact k_4 hF) ⟨(Nat.le_of_ble_eq_true rfl), rfl⟩ (Nat.le_of_ble_eq_true rfl) (by exact Nat.le_of_ble_eq_true rfl) ?_
  refine Cl.mono (fun o ho => ?_) h
  obtain ⟨out, m'⟩ := o
  cases out with
  | inr E => obtain ⟨v, hv, hq⟩ := ho; exact ⟨v, ho_need E v hv, hq⟩
  | inl v =>
    cases v with
    | none => exact False.elim ho
    | some v =>
      cases v with
      | long v =>
        obtain ⟨hF1, hq⟩ := ho
        show Wp g mL_need _ _ _ 10 _ (_ :: _) _ Q
        refine r_lastoren (0) rfl dL_need_10 (by exact k_283 hF1) (vin (j := 0) (by omega) (by omega)) ?_
        refine r_goto 26 dL_need_11 rfl ?_
        refine r_iconst (0) dL_need_26 rfl ?_
        refine r_ireturn dL_need_27 rfl rfl ?_
        exact hq
      | _ => exact False.elim ho
def xL_error : List (String × Int32) := [(EISE, 1), (EIOB, 2), (EIAE, 3)]
theorem ho_error : ∀ E v, (E, v) ∈ xL_error → HO mL_error 9 E v := by
  intro E v h
  rcases List.mem_cons.mp h with h | h
  · obtain ⟨rfl, rfl⟩ := Prod.mk.inj h
    exact ⟨[], ⟨0, 13, 16, 45⟩, [⟨0, 13, 20, 35⟩, ⟨0, 13, 24, 13⟩], rfl, by decide, by decide, xl_ISE, xc_ISE, (fun z hz => absurd hz List.not_mem_nil), 6, 1, Or.inl ⟨dL_error_16, by decide, dL_error_18, dL_error_19⟩, rfl⟩
  rcases List.mem_cons.mp h with h | h
  · obtain ⟨rfl, rfl⟩ := Prod.mk.inj h
    exact ⟨[⟨0, 13, 16, 45⟩], ⟨0, 13, 20, 35⟩, [⟨0, 13, 24, 13⟩], rfl, by decide, by decide, xl_IOB, xc_IOB, (fun z hz => by
      rcases List.mem_cons.mp hz with rfl | hz
      · exact ⟨by decide, EISE, by decide, xl_ISE, by decide, by decide⟩
      exact absurd hz List.not_mem_nil), 6, 2, Or.inl ⟨dL_error_20, by decide, dL_error_22, dL_error_23⟩, rfl⟩
  rcases List.mem_cons.mp h with h | h
  · obtain ⟨rfl, rfl⟩ := Prod.mk.inj h
    exact ⟨[⟨0, 13, 16, 45⟩, ⟨0, 13, 20, 35⟩], ⟨0, 13, 24, 13⟩, [], rfl, by decide, by decide, xl_IAE, xc_IAE, (fun z hz => by
      rcases List.mem_cons.mp hz with rfl | hz
      · exact ⟨by decide, EISE, by decide, xl_ISE, by decide, by decide⟩
      rcases List.mem_cons.mp hz with rfl | hz
      · exact ⟨by decide, EIOB, by decide, xl_IOB, by decide, by decide⟩
      exact absurd hz List.not_mem_nil), 6, 3, Or.inl ⟨dL_error_24, by decide, dL_error_26, dL_error_27⟩, rfl⟩
  exact absurd h List.not_mem_nil
theorem W_error {g : GG} {m : MM} {Q : Out → Prop} (hF : Fx m) {p0 p1 p2 p3 : Int32} (h : Cl g 7 4 24 mX11_error [.ref 4, .int p0, .int p1, .int p2, .int p3] m (WHl xL_error Q)) : Cl g 8 4 24 mL_error [.ref 4, .int p0, .int p1, .int p2, .int p3, .ref 283] m Q := by
  refine Cl.ofH rfl (by decide) (Nat.le_of_ble_eq_true rfl) ?_
  show Wp g mL_error 8 4 24 0 [.ref 4, .int p0, .int p1, .int p2, .int p3, .ref 283, .retAddr 0] [] m Q
  refine r_aload dL_error_0 rfl ?_
  refine r_iconst (0) dL_error_2 rfl ?_
  refine r_aload_n dL_error_3 rfl ?_
  refine r_iload_n dL_error_4 rfl ?_
  refine r_iload_n dL_error_5 rfl ?_
  refine r_iload_n dL_error_6 rfl ?_
  refine r_iload dL_error_7 rfl ?_
  refine r_callVH (d1 := 7) (c1 := 4) (n1 := 24) (c := 0) (n := 0) (a := 4) (ci := 11) (st := [.int 0, .ref 283]) [.int p0, .int p1, .int p2, .int p3] rfl dL_error_9 mvL_55 rfl (by exact k_4 hF) ⟨(Nat.le_of_ble_eq_true rfl), rfl⟩ (Nat.le_of_ble_eq_true rfl) (by exact Nat.le_of_ble_eq_true rfl) ?_
  refine Cl.mono (fun o ho => ?_) h
  obtain ⟨out, m'⟩ := o
  cases out with
  | inr E => obtain ⟨v, hv, hq⟩ := ho; exact ⟨v, ho_error E v hv, hq⟩
  | inl v =>
    cases v with
    | none => exact False.elim ho
    | some v =>
      cases v with
      | long v =>
        obtain ⟨hF1, hq⟩ := ho
        show Wp g mL_error _ _ _ 12 _ (_ :: _) _ Q
        refine r_lastoren (0) rfl dL_error_12 (by exact k_283 hF1) (vin (j := 0) (by omega) (by omega)) ?_
        refine r_goto 28 dL_error_13 rfl ?_
        refine r_iconst (0) dL_error_28 rfl ?_
        refine r_ireturn dL_error_29 rfl rfl ?_
        exact hq
      | _ => exact False.elim ho
def xL_size : List (String × Int32) := [(EISE, 1), (EIOB, 2), (EIAE, 3)]
theorem ho_size : ∀ E v, (E, v) ∈ xL_size → HO mL_size 9 E v := by
  intro E v h
  rcases List.mem_cons.mp h with h | h
  · obtain ⟨rfl, rfl⟩ := Prod.mk.inj h
    exact ⟨[], ⟨0, 14, 17, 45⟩, [⟨0, 14, 21, 35⟩, ⟨0, 14, 25, 13⟩], rfl, by decide, by decide, xl_ISE, xc_ISE, (fun z hz => absurd hz List.not_mem_nil), 6, 1, Or.inl ⟨dL_size_17, by decide, dL_size_19, dL_size_20⟩, rfl⟩
  rcases List.mem_cons.mp h with h | h
  · obtain ⟨rfl, rfl⟩ := Prod.mk.inj h
    exact ⟨[⟨0, 14, 17, 45⟩], ⟨0, 14, 21, 35⟩, [⟨0, 14, 25, 13⟩], rfl, by decide, by decide, xl_IOB, xc_IOB, (fun z hz => by
      rcases List.mem_cons.mp hz with rfl | hz
      · exact ⟨by decide, EISE, by decide, xl_ISE, by decide, by decide⟩
      exact absurd hz List.not_mem_nil), 6, 2, Or.inl ⟨dL_size_21, by decide, dL_size_23, dL_size_24⟩, rfl⟩
  rcases List.mem_cons.mp h with h | h
  · obtain ⟨rfl, rfl⟩ := Prod.mk.inj h
    exact ⟨[⟨0, 14, 17, 45⟩, ⟨0, 14, 21, 35⟩], ⟨0, 14, 25, 13⟩, [], rfl, by decide, by decide, xl_IAE, xc_IAE, (fun z hz => by
      rcases List.mem_cons.mp hz with rfl | hz
      · exact ⟨by decide, EISE, by decide, xl_ISE, by decide, by decide⟩
      rcases List.mem_cons.mp hz with rfl | hz
      · exact ⟨by decide, EIOB, by decide, xl_IOB, by decide, by decide⟩
      exact absurd hz List.not_mem_nil), 6, 3, Or.inl ⟨dL_size_25, by decide, dL_size_27, dL_size_28⟩, rfl⟩
  exact absurd h List.not_mem_nil
theorem W_size {g : GG} {m : MM} {Q : Out → Prop} (hF : Fx m) {p0 p1 p2 p3 : Int32} (h : Cl g 7 4 24 mX11_size [.ref 4, .int p0, .int p1, .int p2, .int p3] m (WHi xL_size Q)) : Cl g 8 4 24 mL_size [.ref 4, .int p0, .int p1, .int p2, .int p3, .ref 283] m Q := by
  refine Cl.ofH rfl (by decide) (Nat.le_of_ble_eq_true rfl) ?_
  show Wp g mL_size 8 4 24 0 [.ref 4, .int p0, .int p1, .int p2, .int p3, .ref 283, .retAddr 0] [] m Q
  refine r_aload dL_size_0 rfl ?_
  refine r_iconst (0) dL_size_2 rfl ?_
  refine r_aload_n dL_size_3 rfl ?_
  refine r_iload_n dL_size_4 rfl ?_
  refine r_iload_n dL_size_5 rfl ?_
  refine r_iload_n dL_size_6 rfl ?_
  refine r_iload dL_size_7 rfl ?_
  refine r_callVH (d1 := 7) (c1 := 4) (n1 := 24) (c := 0) (n := 0) (a := 4) (ci := 11) (st := [.int 0, .ref 283]) [.int p0, .int p1, .int p2, .int p3] rfl dL_size_9 mvL_59 rfl (by exact k_4 hF) ⟨(Nat.le_of_ble_eq_true rfl), rfl⟩ (Nat.le_of_ble_eq_true rfl) (by exact Nat.le_of_ble_eq_true rfl) ?_
  refine Cl.mono (fun o ho => ?_) h
  obtain ⟨out, m'⟩ := o
  cases out with
  | inr E => obtain ⟨v, hv, hq⟩ := ho; exact ⟨v, ho_size E v hv, hq⟩
  | inl v =>
    cases v with
    | none => exact False.elim ho
    | some v =>
      cases v with
      | int v =>
        obtain ⟨hF1, hq⟩ := ho
        show Wp g mL_size _ _ _ 12 _ (_ :: _) _ Q
        refine r_i2l dL_size_12 ?_
        refine r_lastoren (0) rfl dL_size_13 (by exact k_283 hF1) (vin (j := 0) (by omega) (by omega)) ?_
        refine r_goto 29 dL_size_14 rfl ?_
        refine r_iconst (0) dL_size_29 rfl ?_
        refine r_ireturn dL_size_30 rfl rfl ?_
        exact hq
      | _ => exact False.elim ho
def xL_sides : List (String × Int32) := [(EISE, 1), (EIOB, 2)]
theorem ho_sides : ∀ E v, (E, v) ∈ xL_sides → HO mL_sides 4 E v := by
  intro E v h
  rcases List.mem_cons.mp h with h | h
  · obtain ⟨rfl, rfl⟩ := Prod.mk.inj h
    exact ⟨[], ⟨0, 8, 11, 45⟩, [⟨0, 8, 14, 35⟩], rfl, by decide, by decide, xl_ISE, xc_ISE, (fun z hz => absurd hz List.not_mem_nil), 3, 1, Or.inr ⟨(3 : Fin 4), rfl, dL_sides_11, by decide, dL_sides_12, dL_sides_13⟩, rfl⟩
  rcases List.mem_cons.mp h with h | h
  · obtain ⟨rfl, rfl⟩ := Prod.mk.inj h
    exact ⟨[⟨0, 8, 11, 45⟩], ⟨0, 8, 14, 35⟩, [], rfl, by decide, by decide, xl_IOB, xc_IOB, (fun z hz => by
      rcases List.mem_cons.mp hz with rfl | hz
      · exact ⟨by decide, EISE, by decide, xl_ISE, by decide, by decide⟩
      exact absurd hz List.not_mem_nil), 3, 2, Or.inr ⟨(3 : Fin 4), rfl, dL_sides_14, by decide, dL_sides_15, dL_sides_16⟩, rfl⟩
  exact absurd h List.not_mem_nil
theorem W_sides {g : GG} {m : MM} {Q : Out → Prop} (hF : Fx m) {p0 : Int32} (h : Cl g 7 2 12 mX11_sides [.ref 4, .int p0] m (WHl xL_sides Q)) : Cl g 8 2 12 mL_sides [.ref 4, .int p0, .ref 283] m Q := by
  refine Cl.ofH rfl (by decide) (Nat.le_of_ble_eq_true rfl) ?_
  show Wp g mL_sides 8 2 12 0 [.ref 4, .int p0, .ref 283, .retAddr 0] [] m Q
  refine r_aload_n dL_sides_0 rfl ?_
  refine r_iconst (0) dL_sides_1 rfl ?_
  refine r_aload_n dL_sides_2 rfl ?_
  refine r_iload_n dL_sides_3 rfl ?_
  refine r_callVH (d1 := 7) (c1 := 2) (n1 := 12) (c := 0) (n := 0) (a := 4) (ci := 11) (st := [.int 0, .ref 283]) [.int p0] rfl dL_sides_4 mvL_62 rfl (by exact k_4 hF) ⟨(Nat.le_of_ble_eq_true rfl), rfl⟩ (Nat.le_of_ble_eq_true rfl) (by exact Nat.le_of_ble_eq_true rfl) ?_
  refine Cl.mono (fun o ho => ?_) h
  obtain ⟨out, m'⟩ := o
  cases out with
  | inr E => obtain ⟨v, hv, hq⟩ := ho; exact ⟨v, ho_sides E v hv, hq⟩
  | inl v =>
    cases v with
    | none => exact False.elim ho
    | some v =>
      cases v with
      | long v =>
        obtain ⟨hF1, hq⟩ := ho
        show Wp g mL_sides _ _ _ 7 _ (_ :: _) _ Q
        refine r_lastoren (0) rfl dL_sides_7 (by exact k_283 hF1) (vin (j := 0) (by omega) (by omega)) ?_
        refine r_goto 17 dL_sides_8 rfl ?_
        refine r_iconst (0) dL_sides_17 rfl ?_
        refine r_ireturn dL_sides_18 rfl rfl ?_
        exact hq
      | _ => exact False.elim ho
def xL_widest : List (String × Int32) := [(EISE, 1), (EIOB, 2), (EIAE, 3)]
theorem ho_widest : ∀ E v, (E, v) ∈ xL_widest → HO mL_widest 5 E v := by
  intro E v h
  rcases List.mem_cons.mp h with h | h
  · obtain ⟨rfl, rfl⟩ := Prod.mk.inj h
    exact ⟨[], ⟨0, 10, 13, 45⟩, [⟨0, 10, 17, 35⟩, ⟨0, 10, 21, 13⟩], rfl, by decide, by decide, xl_ISE, xc_ISE, (fun z hz => absurd hz List.not_mem_nil), 4, 1, Or.inl ⟨dL_widest_13, by decide, dL_widest_15, dL_widest_16⟩, rfl⟩
  rcases List.mem_cons.mp h with h | h
  · obtain ⟨rfl, rfl⟩ := Prod.mk.inj h
    exact ⟨[⟨0, 10, 13, 45⟩], ⟨0, 10, 17, 35⟩, [⟨0, 10, 21, 13⟩], rfl, by decide, by decide, xl_IOB, xc_IOB, (fun z hz => by
      rcases List.mem_cons.mp hz with rfl | hz
      · exact ⟨by decide, EISE, by decide, xl_ISE, by decide, by decide⟩
      exact absurd hz List.not_mem_nil), 4, 2, Or.inl ⟨dL_widest_17, by decide, dL_widest_19, dL_widest_20⟩, rfl⟩
  rcases List.mem_cons.mp h with h | h
  · obtain ⟨rfl, rfl⟩ := Prod.mk.inj h
    exact ⟨[⟨0, 10, 13, 45⟩, ⟨0, 10, 17, 35⟩], ⟨0, 10, 21, 13⟩, [], rfl, by decide, by decide, xl_IAE, xc_IAE, (fun z hz => by
      rcases List.mem_cons.mp hz with rfl | hz
      · exact ⟨by decide, EISE, by decide, xl_ISE, by decide, by decide⟩
      rcases List.mem_cons.mp hz with rfl | hz
      · exact ⟨by decide, EIOB, by decide, xl_IOB, by decide, by decide⟩
      exact absurd hz List.not_mem_nil), 4, 3, Or.inl ⟨dL_widest_21, by decide, dL_widest_23, dL_widest_24⟩, rfl⟩
  exact absurd h List.not_mem_nil
theorem W_widest {g : GG} {m : MM} {Q : Out → Prop} (hF : Fx m) {p0 p1 : Int32} (h : Cl g 7 3 18 mX11_widest [.ref 4, .int p0, .int p1] m (WHi xL_widest Q)) : Cl g 8 3 18 mL_widest [.ref 4, .int p0, .int p1, .ref 283] m Q := by
  refine Cl.ofH rfl (by decide) (Nat.le_of_ble_eq_true rfl) ?_
  show Wp g mL_widest 8 3 18 0 [.ref 4, .int p0, .int p1, .ref 283, .retAddr 0] [] m Q
  refine r_aload_n dL_widest_0 rfl ?_
  refine r_iconst (0) dL_widest_1 rfl ?_
  refine r_aload_n dL_widest_2 rfl ?_
  refine r_iload_n dL_widest_3 rfl ?_
  refine r_iload_n dL_widest_4 rfl ?_
  refine r_callVH (d1 := 7) (c1 := 3) (n1 := 18) (c := 0) (n := 0) (a := 4) (ci := 11) (st := [.int 0, .ref 283]) [.int p0, .int p1] rfl dL_widest_5 mvL_66 rfl (by exact k_4 hF) ⟨(Nat.le_of_ble_eq_true rfl), rfl⟩ (Nat.le_of_ble_eq_true rfl) (by exact Nat.le_of_ble_eq_true rfl) ?_
  refine Cl.mono (fun o ho => ?_) h
  obtain ⟨out, m'⟩ := o
  cases out with
  | inr E => obtain ⟨v, hv, hq⟩ := ho; exact ⟨v, ho_widest E v hv, hq⟩
  | inl v =>
    cases v with
    | none => exact False.elim ho
    | some v =>
      cases v with
      | int v =>
        obtain ⟨hF1, hq⟩ := ho
        show Wp g mL_widest _ _ _ 8 _ (_ :: _) _ Q
        refine r_i2l dL_widest_8 ?_
        refine r_lastoren (0) rfl dL_widest_9 (by exact k_283 hF1) (vin (j := 0) (by omega) (by omega)) ?_
        refine r_goto 25 dL_widest_10 rfl ?_
        refine r_iconst (0) dL_widest_25 rfl ?_
        refine r_ireturn dL_widest_26 rfl rfl ?_
        exact hq
      | _ => exact False.elim ho
def xL_run : List (String × Int32) := [(EISE, 1), (EIAE, 2)]
theorem ho_run : ∀ E v, (E, v) ∈ xL_run → HO mL_run 4 E v := by
  intro E v h
  rcases List.mem_cons.mp h with h | h
  · obtain ⟨rfl, rfl⟩ := Prod.mk.inj h
    exact ⟨[], ⟨0, 9, 12, 45⟩, [⟨0, 9, 15, 13⟩], rfl, by decide, by decide, xl_ISE, xc_ISE, (fun z hz => absurd hz List.not_mem_nil), 3, 1, Or.inr ⟨(3 : Fin 4), rfl, dL_run_12, by decide, dL_run_13, dL_run_14⟩, rfl⟩
  rcases List.mem_cons.mp h with h | h
  · obtain ⟨rfl, rfl⟩ := Prod.mk.inj h
    exact ⟨[⟨0, 9, 12, 45⟩], ⟨0, 9, 15, 13⟩, [], rfl, by decide, by decide, xl_IAE, xc_IAE, (fun z hz => by
      rcases List.mem_cons.mp hz with rfl | hz
      · exact ⟨by decide, EISE, by decide, xl_ISE, by decide, by decide⟩
      exact absurd hz List.not_mem_nil), 3, 2, Or.inr ⟨(3 : Fin 4), rfl, dL_run_15, by decide, dL_run_16, dL_run_17⟩, rfl⟩
  exact absurd h List.not_mem_nil
theorem W_run {g : GG} {m : MM} {Q : Out → Prop} (hF : Fx m) {p0 : Int32} (h : Cl g 7 2 12 mX11_run [.ref 4, .int p0] m (WHi xL_run Q)) : Cl g 8 2 12 mL_run [.ref 4, .int p0, .ref 283] m Q := by
  refine Cl.ofH rfl (by decide) (Nat.le_of_ble_eq_true rfl) ?_
  show Wp g mL_run 8 2 12 0 [.ref 4, .int p0, .ref 283, .retAddr 0] [] m Q
  refine r_aload_n dL_run_0 rfl ?_
  refine r_iconst (0) dL_run_1 rfl ?_
  refine r_aload_n dL_run_2 rfl ?_
  refine r_iload_n dL_run_3 rfl ?_
  refine r_callVH (d1 := 7) (c1 := 2) (n1 := 12) (c := 0) (n := 0) (a := 4) (ci := 11) (st := [.int 0, .ref 283]) [.int p0] rfl dL_run_4 mvL_69 rfl (by exact k_4 hF) ⟨(Nat.le_of_ble_eq_true rfl), rfl⟩ (Nat.le_of_ble_eq_true rfl) (by exact Nat.le_of_ble_eq_true rfl) ?_
  refine Cl.mono (fun o ho => ?_) h
  obtain ⟨out, m'⟩ := o
  cases out with
  | inr E => obtain ⟨v, hv, hq⟩ := ho; exact ⟨v, ho_run E v hv, hq⟩
  | inl v =>
    cases v with
    | none => exact False.elim ho
    | some v =>
      cases v with
      | int v =>
        obtain ⟨hF1, hq⟩ := ho
        show Wp g mL_run _ _ _ 7 _ (_ :: _) _ Q
        refine r_i2l dL_run_7 ?_
        refine r_lastoren (0) rfl dL_run_8 (by exact k_283 hF1) (vin (j := 0) (by omega) (by omega)) ?_
        refine r_goto 18 dL_run_9 rfl ?_
        refine r_iconst (0) dL_run_18 rfl ?_
        refine r_ireturn dL_run_19 rfl rfl ?_
        exact hq
      | _ => exact False.elim ho
def xL_tow : List (String × Int32) := [(EISE, 1), (EIOB, 2), (EIAE, 3)]
theorem ho_tow : ∀ E v, (E, v) ∈ xL_tow → HO mL_tow 5 E v := by
  intro E v h
  rcases List.mem_cons.mp h with h | h
  · obtain ⟨rfl, rfl⟩ := Prod.mk.inj h
    exact ⟨[], ⟨0, 10, 13, 45⟩, [⟨0, 10, 17, 35⟩, ⟨0, 10, 21, 13⟩], rfl, by decide, by decide, xl_ISE, xc_ISE, (fun z hz => absurd hz List.not_mem_nil), 4, 1, Or.inl ⟨dL_tow_13, by decide, dL_tow_15, dL_tow_16⟩, rfl⟩
  rcases List.mem_cons.mp h with h | h
  · obtain ⟨rfl, rfl⟩ := Prod.mk.inj h
    exact ⟨[⟨0, 10, 13, 45⟩], ⟨0, 10, 17, 35⟩, [⟨0, 10, 21, 13⟩], rfl, by decide, by decide, xl_IOB, xc_IOB, (fun z hz => by
      rcases List.mem_cons.mp hz with rfl | hz
      · exact ⟨by decide, EISE, by decide, xl_ISE, by decide, by decide⟩
      exact absurd hz List.not_mem_nil), 4, 2, Or.inl ⟨dL_tow_17, by decide, dL_tow_19, dL_tow_20⟩, rfl⟩
  rcases List.mem_cons.mp h with h | h
  · obtain ⟨rfl, rfl⟩ := Prod.mk.inj h
    exact ⟨[⟨0, 10, 13, 45⟩, ⟨0, 10, 17, 35⟩], ⟨0, 10, 21, 13⟩, [], rfl, by decide, by decide, xl_IAE, xc_IAE, (fun z hz => by
      rcases List.mem_cons.mp hz with rfl | hz
      · exact ⟨by decide, EISE, by decide, xl_ISE, by decide, by decide⟩
      rcases List.mem_cons.mp hz with rfl | hz
      · exact ⟨by decide, EIOB, by decide, xl_IOB, by decide, by decide⟩
      exact absurd hz List.not_mem_nil), 4, 3, Or.inl ⟨dL_tow_21, by decide, dL_tow_23, dL_tow_24⟩, rfl⟩
  exact absurd h List.not_mem_nil
theorem W_tow {g : GG} {m : MM} {Q : Out → Prop} (hF : Fx m) {p0 p1 : Int32} (h : Cl g 7 3 18 mX11_tow [.ref 4, .int p0, .int p1] m (WHi xL_tow Q)) : Cl g 8 3 18 mL_tow [.ref 4, .int p0, .int p1, .ref 283] m Q := by
  refine Cl.ofH rfl (by decide) (Nat.le_of_ble_eq_true rfl) ?_
  show Wp g mL_tow 8 3 18 0 [.ref 4, .int p0, .int p1, .ref 283, .retAddr 0] [] m Q
  refine r_aload_n dL_tow_0 rfl ?_
  refine r_iconst (0) dL_tow_1 rfl ?_
  refine r_aload_n dL_tow_2 rfl ?_
  refine r_iload_n dL_tow_3 rfl ?_
  refine r_iload_n dL_tow_4 rfl ?_
  refine r_callVH (d1 := 7) (c1 := 3) (n1 := 18) (c := 0) (n := 0) (a := 4) (ci := 11) (st := [.int 0, .ref 283]) [.int p0, .int p1] rfl dL_tow_5 mvL_72 rfl (by exact k_4 hF) ⟨(Nat.le_of_ble_eq_true rfl), rfl⟩ (Nat.le_of_ble_eq_true rfl) (by exact Nat.le_of_ble_eq_true rfl) ?_
  refine Cl.mono (fun o ho => ?_) h
  obtain ⟨out, m'⟩ := o
  cases out with
  | inr E => obtain ⟨v, hv, hq⟩ := ho; exact ⟨v, ho_tow E v hv, hq⟩
  | inl v =>
    cases v with
    | none => exact False.elim ho
    | some v =>
      cases v with
      | int v =>
        obtain ⟨hF1, hq⟩ := ho
        show Wp g mL_tow _ _ _ 8 _ (_ :: _) _ Q
        refine r_i2l dL_tow_8 ?_
        refine r_lastoren (0) rfl dL_tow_9 (by exact k_283 hF1) (vin (j := 0) (by omega) (by omega)) ?_
        refine r_goto 25 dL_tow_10 rfl ?_
        refine r_iconst (0) dL_tow_25 rfl ?_
        refine r_ireturn dL_tow_26 rfl rfl ?_
        exact hq
      | _ => exact False.elim ho
def xL_ran : List (String × Int32) := [(ENSE, 1), (EIAE, 2)]
theorem ho_ran : ∀ E v, (E, v) ∈ xL_ran → HO mL_ran 5 E v := by
  intro E v h
  rcases List.mem_cons.mp h with h | h
  · obtain ⟨rfl, rfl⟩ := Prod.mk.inj h
    exact ⟨[], ⟨0, 10, 13, 19⟩, [⟨0, 10, 17, 13⟩], rfl, by decide, by decide, xl_NSE, xc_NSE, (fun z hz => absurd hz List.not_mem_nil), 4, 1, Or.inl ⟨dL_ran_13, by decide, dL_ran_15, dL_ran_16⟩, rfl⟩
  rcases List.mem_cons.mp h with h | h
  · obtain ⟨rfl, rfl⟩ := Prod.mk.inj h
    exact ⟨[⟨0, 10, 13, 19⟩], ⟨0, 10, 17, 13⟩, [], rfl, by decide, by decide, xl_IAE, xc_IAE, (fun z hz => by
      rcases List.mem_cons.mp hz with rfl | hz
      · exact ⟨by decide, ENSE, by decide, xl_NSE, by decide, by decide⟩
      exact absurd hz List.not_mem_nil), 4, 2, Or.inl ⟨dL_ran_17, by decide, dL_ran_19, dL_ran_20⟩, rfl⟩
  exact absurd h List.not_mem_nil
theorem W_ran {g : GG} {m : MM} {Q : Out → Prop} (hF : Fx m) {p0 p1 : Int32} (h : Cl g 7 1 6 mX11_ran [.ref 4, .int p0, .int p1] m (WHi xL_ran Q)) : Cl g 8 1 6 mL_ran [.ref 4, .int p0, .int p1, .ref 283] m Q := by
  refine Cl.ofH rfl (by decide) (Nat.le_of_ble_eq_true rfl) ?_
  show Wp g mL_ran 8 1 6 0 [.ref 4, .int p0, .int p1, .ref 283, .retAddr 0] [] m Q
  refine r_aload_n dL_ran_0 rfl ?_
  refine r_iconst (0) dL_ran_1 rfl ?_
  refine r_aload_n dL_ran_2 rfl ?_
  refine r_iload_n dL_ran_3 rfl ?_
  refine r_iload_n dL_ran_4 rfl ?_
  refine r_callVH (d1 := 7) (c1 := 1) (n1 := 6) (c := 0) (n := 0) (a := 4) (ci := 11) (st := [.int 0, .ref 283]) [.int p0, .int p1] rfl dL_ran_5 mvL_75 rfl (by exact k_4 hF) ⟨(Nat.le_of_ble_eq_true rfl), rfl⟩ (Nat.le_of_ble_eq_true rfl) (by exact Nat.le_of_ble_eq_true rfl) ?_
  refine Cl.mono (fun o ho => ?_) h
  obtain ⟨out, m'⟩ := o
  cases out with
  | inr E => obtain ⟨v, hv, hq⟩ := ho; exact ⟨v, ho_ran E v hv, hq⟩
  | inl v =>
    cases v with
    | none => exact False.elim ho
    | some v =>
      cases v with
      | int v =>
        obtain ⟨hF1, hq⟩ := ho
        show Wp g mL_ran _ _ _ 8 _ (_ :: _) _ Q
        refine r_i2l dL_ran_8 ?_
        refine r_lastoren (0) rfl dL_ran_9 (by exact k_283 hF1) (vin (j := 0) (by omega) (by omega)) ?_
        refine r_goto 21 dL_ran_10 rfl ?_
        refine r_iconst (0) dL_ran_21 rfl ?_
        refine r_ireturn dL_ran_22 rfl rfl ?_
        exact hq
      | _ => exact False.elim ho
def xL_wire : List (String × Int32) := [(EISE, 1)]
theorem ho_wire : ∀ E v, (E, v) ∈ xL_wire → HO mL_wire 3 E v := by
  intro E v h
  rcases List.mem_cons.mp h with h | h
  · obtain ⟨rfl, rfl⟩ := Prod.mk.inj h
    exact ⟨[], ⟨0, 7, 10, 45⟩, [], rfl, by decide, by decide, xl_ISE, xc_ISE, (fun z hz => absurd hz List.not_mem_nil), 2, 1, Or.inr ⟨(2 : Fin 4), rfl, dL_wire_10, by decide, dL_wire_11, dL_wire_12⟩, rfl⟩
  exact absurd h List.not_mem_nil
theorem W_wire {g : GG} {m : MM} {Q : Out → Prop} (hF : Fx m) (h : Cl g 7 1 6 mX11_wire [.ref 4] m (WHl xL_wire Q)) : Cl g 8 1 6 mL_wire [.ref 4, .ref 283] m Q := by
  refine Cl.ofH rfl (by decide) (Nat.le_of_ble_eq_true rfl) ?_
  show Wp g mL_wire 8 1 6 0 [.ref 4, .ref 283, .retAddr 0] [] m Q
  refine r_aload_n dL_wire_0 rfl ?_
  refine r_iconst (0) dL_wire_1 rfl ?_
  refine r_aload_n dL_wire_2 rfl ?_
  refine r_callVH (d1 := 7) (c1 := 1) (n1 := 6) (c := 0) (n := 0) (a := 4) (ci := 11) (st := [.int 0, .ref 283]) [] rfl dL_wire_3 mvL_78 rfl (by exact k_4 hF) ⟨(Nat.le_of_ble_eq_true rfl), rfl⟩ (Nat.le_of_ble_eq_true rfl) (by exact Nat.le_of_ble_eq_true rfl) ?_
  refine Cl.mono (fun o ho => ?_) h
  obtain ⟨out, m'⟩ := o
  cases out with
  | inr E => obtain ⟨v, hv, hq⟩ := ho; exact ⟨v, ho_wire E v hv, hq⟩
  | inl v =>
    cases v with
    | none => exact False.elim ho
    | some v =>
      cases v with
      | long v =>
        obtain ⟨hF1, hq⟩ := ho
        show Wp g mL_wire _ _ _ 6 _ (_ :: _) _ Q
        refine r_lastoren (0) rfl dL_wire_6 (by exact k_283 hF1) (vin (j := 0) (by omega) (by omega)) ?_
        refine r_goto 13 dL_wire_7 rfl ?_
        refine r_iconst (0) dL_wire_13 rfl ?_
        refine r_ireturn dL_wire_14 rfl rfl ?_
        exact hq
      | _ => exact False.elim ho
def xL_fits : List (String × Int32) := [(EIAE, 1)]
theorem ho_fits : ∀ E v, (E, v) ∈ xL_fits → HO mL_fits 4 E v := by
  intro E v h
  rcases List.mem_cons.mp h with h | h
  · obtain ⟨rfl, rfl⟩ := Prod.mk.inj h
    exact ⟨[], ⟨0, 9, 12, 13⟩, [], rfl, by decide, by decide, xl_IAE, xc_IAE, (fun z hz => absurd hz List.not_mem_nil), 3, 1, Or.inr ⟨(3 : Fin 4), rfl, dL_fits_12, by decide, dL_fits_13, dL_fits_14⟩, rfl⟩
  exact absurd h List.not_mem_nil
theorem W_fits {g : GG} {m : MM} {Q : Out → Prop} (hF : Fx m) {p0 : Int32} (h : Cl g 7 1 6 mX11_fits [.ref 4, .int p0] m (WHi xL_fits Q)) : Cl g 8 1 6 mL_fits [.ref 4, .int p0, .ref 283] m Q := by
  refine Cl.ofH rfl (by decide) (Nat.le_of_ble_eq_true rfl) ?_
  show Wp g mL_fits 8 1 6 0 [.ref 4, .int p0, .ref 283, .retAddr 0] [] m Q
  refine r_aload_n dL_fits_0 rfl ?_
  refine r_iconst (0) dL_fits_1 rfl ?_
  refine r_aload_n dL_fits_2 rfl ?_
  refine r_iload_n dL_fits_3 rfl ?_
  refine r_callVH (d1 := 7) (c1 := 1) (n1 := 6) (c := 0) (n := 0) (a := 4) (ci := 11) (st := [.int 0, .ref 283]) [.int p0] rfl dL_fits_4 mvL_82 rfl (by exact k_4 hF) ⟨(Nat.le_of_ble_eq_true rfl), rfl⟩ (Nat.le_of_ble_eq_true rfl) (by exact Nat.le_of_ble_eq_true rfl) ?_
  refine Cl.mono (fun o ho => ?_) h
  obtain ⟨out, m'⟩ := o
  cases out with
  | inr E => obtain ⟨v, hv, hq⟩ := ho; exact ⟨v, ho_fits E v hv, hq⟩
  | inl v =>
    cases v with
    | none => exact False.elim ho
    | some v =>
      cases v with
      | int v =>
        obtain ⟨hF1, hq⟩ := ho
        show Wp g mL_fits _ _ _ 7 _ (_ :: _) _ Q
        refine r_i2l dL_fits_7 ?_
        refine r_lastoren (0) rfl dL_fits_8 (by exact k_283 hF1) (vin (j := 0) (by omega) (by omega)) ?_
        refine r_goto 15 dL_fits_9 rfl ?_
        refine r_iconst (0) dL_fits_15 rfl ?_
        refine r_ireturn dL_fits_16 rfl rfl ?_
        exact hq
      | _ => exact False.elim ho
def xL_telling : List (String × Int32) := [(EISE, 1), (EIAE, 2)]
theorem ho_telling : ∀ E v, (E, v) ∈ xL_telling → HO mL_telling 4 E v := by
  intro E v h
  rcases List.mem_cons.mp h with h | h
  · obtain ⟨rfl, rfl⟩ := Prod.mk.inj h
    exact ⟨[], ⟨0, 9, 12, 45⟩, [⟨0, 9, 15, 13⟩], rfl, by decide, by decide, xl_ISE, xc_ISE, (fun z hz => absurd hz List.not_mem_nil), 3, 1, Or.inr ⟨(3 : Fin 4), rfl, dL_telling_12, by decide, dL_telling_13, dL_telling_14⟩, rfl⟩
  rcases List.mem_cons.mp h with h | h
  · obtain ⟨rfl, rfl⟩ := Prod.mk.inj h
    exact ⟨[⟨0, 9, 12, 45⟩], ⟨0, 9, 15, 13⟩, [], rfl, by decide, by decide, xl_IAE, xc_IAE, (fun z hz => by
      rcases List.mem_cons.mp hz with rfl | hz
      · exact ⟨by decide, EISE, by decide, xl_ISE, by decide, by decide⟩
      exact absurd hz List.not_mem_nil), 3, 2, Or.inr ⟨(3 : Fin 4), rfl, dL_telling_15, by decide, dL_telling_16, dL_telling_17⟩, rfl⟩
  exact absurd h List.not_mem_nil
theorem W_telling {g : GG} {m : MM} {Q : Out → Prop} (hF : Fx m) {p0 : Int32} (h : Cl g 7 2 12 mX11_telling [.ref 4, .int p0] m (WHi xL_telling Q)) : Cl g 8 2 12 mL_telling [.ref 4, .int p0, .ref 283] m Q := by
  refine Cl.ofH rfl (by decide) (Nat.le_of_ble_eq_true rfl) ?_
  show Wp g mL_telling 8 2 12 0 [.ref 4, .int p0, .ref 283, .retAddr 0] [] m Q
  refine r_aload_n dL_telling_0 rfl ?_
  refine r_iconst (0) dL_telling_1 rfl ?_
  refine r_aload_n dL_telling_2 rfl ?_
  refine r_iload_n dL_telling_3 rfl ?_
  refine r_callVH (d1 := 7) (c1 := 2) (n1 := 12) (c := 0) (n := 0) (a := 4) (ci := 11) (st := [.int 0, .ref 283]) [.int p0] rfl dL_telling_4 mvL_85 rfl (by exact k_4 hF) ⟨(Nat.le_of_ble_eq_true rfl), rfl⟩ (Nat.le_of_ble_eq_true rfl) (by exact Nat.le_of_ble_eq_true rfl) ?_
  refine Cl.mono (fun o ho => ?_) h
  obtain ⟨out, m'⟩ := o
  cases out with
  | inr E => obtain ⟨v, hv, hq⟩ := ho; exact ⟨v, ho_telling E v hv, hq⟩
  | inl v =>
    cases v with
    | none => exact False.elim ho
    | some v =>
      cases v with
      | int v =>
        obtain ⟨hF1, hq⟩ := ho
        show Wp g mL_telling _ _ _ 7 _ (_ :: _) _ Q
        refine r_i2l dL_telling_7 ?_
        refine r_lastoren (0) rfl dL_telling_8 (by exact k_283 hF1) (vin (j := 0) (by omega) (by omega)) ?_
        refine r_goto 18 dL_telling_9 rfl ?_
        refine r_iconst (0) dL_telling_18 rfl ?_
        refine r_ireturn dL_telling_19 rfl rfl ?_
        exact hq
      | _ => exact False.elim ho
def xL_earlier : List (String × Int32) := [(EIAE, 1)]
theorem ho_earlier : ∀ E v, (E, v) ∈ xL_earlier → HO mL_earlier 5 E v := by
  intro E v h
  rcases List.mem_cons.mp h with h | h
  · obtain ⟨rfl, rfl⟩ := Prod.mk.inj h
    exact ⟨[], ⟨0, 10, 13, 13⟩, [], rfl, by decide, by decide, xl_IAE, xc_IAE, (fun z hz => absurd hz List.not_mem_nil), 4, 1, Or.inl ⟨dL_earlier_13, by decide, dL_earlier_15, dL_earlier_16⟩, rfl⟩
  exact absurd h List.not_mem_nil
theorem W_earlier {g : GG} {m : MM} {Q : Out → Prop} (hF : Fx m) {p0 p1 : Int32} (h : Cl g 7 1 6 mX11_earlier [.ref 4, .int p0, .int p1] m (WHi xL_earlier Q)) : Cl g 8 1 6 mL_earlier [.ref 4, .int p0, .int p1, .ref 283] m Q := by
  refine Cl.ofH rfl (by decide) (Nat.le_of_ble_eq_true rfl) ?_
  show Wp g mL_earlier 8 1 6 0 [.ref 4, .int p0, .int p1, .ref 283, .retAddr 0] [] m Q
  refine r_aload_n dL_earlier_0 rfl ?_
  refine r_iconst (0) dL_earlier_1 rfl ?_
  refine r_aload_n dL_earlier_2 rfl ?_
  refine r_iload_n dL_earlier_3 rfl ?_
  refine r_iload_n dL_earlier_4 rfl ?_
  refine r_callVH (d1 := 7) (c1 := 1) (n1 := 6) (c := 0) (n := 0) (a := 4) (ci := 11) (st := [.int 0, .ref 283]) [.int p0, .int p1] rfl dL_earlier_5 mvL_88 rfl (by exact k_4 hF) ⟨(Nat.le_of_ble_eq_true rfl), rfl⟩ (Nat.le_of_ble_eq_true rfl) (by exact Nat.le_of_ble_eq_true rfl) ?_
  refine Cl.mono (fun o ho => ?_) h
  obtain ⟨out, m'⟩ := o
  cases out with
  | inr E => obtain ⟨v, hv, hq⟩ := ho; exact ⟨v, ho_earlier E v hv, hq⟩
  | inl v =>
    cases v with
    | none => exact False.elim ho
    | some v =>
      cases v with
      | int v =>
        obtain ⟨hF1, hq⟩ := ho
        show Wp g mL_earlier _ _ _ 8 _ (_ :: _) _ Q
        refine r_i2l dL_earlier_8 ?_
        refine r_lastoren (0) rfl dL_earlier_9 (by exact k_283 hF1) (vin (j := 0) (by omega) (by omega)) ?_
        refine r_goto 17 dL_earlier_10 rfl ?_
        refine r_iconst (0) dL_earlier_17 rfl ?_
        refine r_ireturn dL_earlier_18 rfl rfl ?_
        exact hq
      | _ => exact False.elim ho
def xL_ratio : List (String × Int32) := [(ENSE, 1)]
theorem ho_ratio : ∀ E v, (E, v) ∈ xL_ratio → HO mL_ratio 4 E v := by
  intro E v h
  rcases List.mem_cons.mp h with h | h
  · obtain ⟨rfl, rfl⟩ := Prod.mk.inj h
    exact ⟨[], ⟨0, 9, 12, 19⟩, [], rfl, by decide, by decide, xl_NSE, xc_NSE, (fun z hz => absurd hz List.not_mem_nil), 3, 1, Or.inr ⟨(3 : Fin 4), rfl, dL_ratio_12, by decide, dL_ratio_13, dL_ratio_14⟩, rfl⟩
  exact absurd h List.not_mem_nil
theorem W_ratio {g : GG} {m : MM} {Q : Out → Prop} (hF : Fx m) {p0 : Int32} (h : Cl g 6 1 6 mX11_ratio [.ref 4, .int p0] m (WHi xL_ratio Q)) : Cl g 7 1 6 mL_ratio [.ref 4, .int p0, .ref 283] m Q := by
  refine Cl.ofH rfl (by decide) (Nat.le_of_ble_eq_true rfl) ?_
  show Wp g mL_ratio 7 1 6 0 [.ref 4, .int p0, .ref 283, .retAddr 0] [] m Q
  refine r_aload_n dL_ratio_0 rfl ?_
  refine r_iconst (0) dL_ratio_1 rfl ?_
  refine r_aload_n dL_ratio_2 rfl ?_
  refine r_iload_n dL_ratio_3 rfl ?_
  refine r_callVH (d1 := 6) (c1 := 1) (n1 := 6) (c := 0) (n := 0) (a := 4) (ci := 11) (st := [.int 0, .ref 283]) [.int p0] rfl dL_ratio_4 mvL_91 rfl (by exact k_4 hF) ⟨(Nat.le_of_ble_eq_true rfl), rfl⟩ (Nat.le_of_ble_eq_true rfl) (by exact Nat.le_of_ble_eq_true rfl) ?_
  refine Cl.mono (fun o ho => ?_) h
  obtain ⟨out, m'⟩ := o
  cases out with
  | inr E => obtain ⟨v, hv, hq⟩ := ho; exact ⟨v, ho_ratio E v hv, hq⟩
  | inl v =>
    cases v with
    | none => exact False.elim ho
    | some v =>
      cases v with
      | int v =>
        obtain ⟨hF1, hq⟩ := ho
        show Wp g mL_ratio _ _ _ 7 _ (_ :: _) _ Q
        refine r_i2l dL_ratio_7 ?_
        refine r_lastoren (0) rfl dL_ratio_8 (by exact k_283 hF1) (vin (j := 0) (by omega) (by omega)) ?_
        refine r_goto 15 dL_ratio_9 rfl ?_
        refine r_iconst (0) dL_ratio_15 rfl ?_
        refine r_ireturn dL_ratio_16 rfl rfl ?_
        exact hq
      | _ => exact False.elim ho
def xL_strange : List (String × Int32) := [(EIAE, 1)]
theorem ho_strange : ∀ E v, (E, v) ∈ xL_strange → HO mL_strange 4 E v := by
  intro E v h
  rcases List.mem_cons.mp h with h | h
  · obtain ⟨rfl, rfl⟩ := Prod.mk.inj h
    exact ⟨[], ⟨0, 9, 12, 13⟩, [], rfl, by decide, by decide, xl_IAE, xc_IAE, (fun z hz => absurd hz List.not_mem_nil), 3, 1, Or.inr ⟨(3 : Fin 4), rfl, dL_strange_12, by decide, dL_strange_13, dL_strange_14⟩, rfl⟩
  exact absurd h List.not_mem_nil
theorem W_strange {g : GG} {m : MM} {Q : Out → Prop} (hF : Fx m) {p0 : Int32} (h : Cl g 7 1 6 mX11_strange [.ref 4, .int p0] m (WHi xL_strange Q)) : Cl g 8 1 6 mL_strange [.ref 4, .int p0, .ref 283] m Q := by
  refine Cl.ofH rfl (by decide) (Nat.le_of_ble_eq_true rfl) ?_
  show Wp g mL_strange 8 1 6 0 [.ref 4, .int p0, .ref 283, .retAddr 0] [] m Q
  refine r_aload_n dL_strange_0 rfl ?_
  refine r_iconst (0) dL_strange_1 rfl ?_
  refine r_aload_n dL_strange_2 rfl ?_
  refine r_iload_n dL_strange_3 rfl ?_
  refine r_callVH (d1 := 7) (c1 := 1) (n1 := 6) (c := 0) (n := 0) (a := 4) (ci := 11) (st := [.int 0, .ref 283]) [.int p0] rfl dL_strange_4 mvL_94 rfl (by exact k_4 hF) ⟨(Nat.le_of_ble_eq_true rfl), rfl⟩ (Nat.le_of_ble_eq_true rfl) (by exact Nat.le_of_ble_eq_true rfl) ?_
  refine Cl.mono (fun o ho => ?_) h
  obtain ⟨out, m'⟩ := o
  cases out with
  | inr E => obtain ⟨v, hv, hq⟩ := ho; exact ⟨v, ho_strange E v hv, hq⟩
  | inl v =>
    cases v with
    | none => exact False.elim ho
    | some v =>
      cases v with
      | int v =>
        obtain ⟨hF1, hq⟩ := ho
        show Wp g mL_strange _ _ _ 7 _ (_ :: _) _ Q
        refine r_i2l dL_strange_7 ?_
        refine r_lastoren (0) rfl dL_strange_8 (by exact k_283 hF1) (vin (j := 0) (by omega) (by omega)) ?_
        refine r_goto 15 dL_strange_9 rfl ?_
        refine r_iconst (0) dL_strange_15 rfl ?_
        refine r_ireturn dL_strange_16 rfl rfl ?_
        exact hq
      | _ => exact False.elim ho
def xL_span : List (String × Int32) := [(EIAE, 1)]
theorem ho_span : ∀ E v, (E, v) ∈ xL_span → HO mL_span 5 E v := by
  intro E v h
  rcases List.mem_cons.mp h with h | h
  · obtain ⟨rfl, rfl⟩ := Prod.mk.inj h
    exact ⟨[], ⟨0, 9, 12, 13⟩, [], rfl, by decide, by decide, xl_IAE, xc_IAE, (fun z hz => absurd hz List.not_mem_nil), 4, 1, Or.inl ⟨dL_span_12, by decide, dL_span_14, dL_span_15⟩, rfl⟩
  exact absurd h List.not_mem_nil
theorem W_span {g : GG} {m : MM} {Q : Out → Prop} (hF : Fx m) {p0 p1 : Int32} (h : Cl g 7 1 6 mX11_span [.ref 4, .int p0, .int p1] m (WHl xL_span Q)) : Cl g 8 1 6 mL_span [.ref 4, .int p0, .int p1, .ref 283] m Q := by
  refine Cl.ofH rfl (by decide) (Nat.le_of_ble_eq_true rfl) ?_
  show Wp g mL_span 8 1 6 0 [.ref 4, .int p0, .int p1, .ref 283, .retAddr 0] [] m Q
  refine r_aload_n dL_span_0 rfl ?_
  refine r_iconst (0) dL_span_1 rfl ?_
  refine r_aload_n dL_span_2 rfl ?_
  refine r_iload_n dL_span_3 rfl ?_
  refine r_iload_n dL_span_4 rfl ?_
  refine r_callVH (d1 := 7) (c1 := 1) (n1 := 6) (c := 0) (n := 0) (a := 4) (ci := 11) (st := [.int 0, .ref 283]) [.int p0, .int p1] rfl dL_span_5 mvL_97 rfl (by exact k_4 hF) ⟨(Nat.le_of_ble_eq_true rfl), rfl⟩ (Nat.le_of_ble_eq_true rfl) (by exact Nat.le_of_ble_eq_true rfl) ?_
  refine Cl.mono (fun o ho => ?_) h
  obtain ⟨out, m'⟩ := o
  cases out with
  | inr E => obtain ⟨v, hv, hq⟩ := ho; exact ⟨v, ho_span E v hv, hq⟩
  | inl v =>
    cases v with
    | none => exact False.elim ho
    | some v =>
      cases v with
      | long v =>
        obtain ⟨hF1, hq⟩ := ho
        show Wp g mL_span _ _ _ 8 _ (_ :: _) _ Q
        refine r_lastoren (0) rfl dL_span_8 (by exact k_283 hF1) (vin (j := 0) (by omega) (by omega)) ?_
        refine r_goto 16 dL_span_9 rfl ?_
        refine r_iconst (0) dL_span_16 rfl ?_
        refine r_ireturn dL_span_17 rfl rfl ?_
        exact hq
      | _ => exact False.elim ho
def xL_better : List (String × Int32) := [(EISE, 1), (EIOB, 2), (EIAE, 3)]
theorem ho_better : ∀ E v, (E, v) ∈ xL_better → HO mL_better 5 E v := by
  intro E v h
  rcases List.mem_cons.mp h with h | h
  · obtain ⟨rfl, rfl⟩ := Prod.mk.inj h
    exact ⟨[], ⟨0, 9, 12, 45⟩, [⟨0, 9, 16, 35⟩, ⟨0, 9, 20, 13⟩], rfl, by decide, by decide, xl_ISE, xc_ISE, (fun z hz => absurd hz List.not_mem_nil), 4, 1, Or.inl ⟨dL_better_12, by decide, dL_better_14, dL_better_15⟩, rfl⟩
  rcases List.mem_cons.mp h with h | h
  · obtain ⟨rfl, rfl⟩ := Prod.mk.inj h
    exact ⟨[⟨0, 9, 12, 45⟩], ⟨0, 9, 16, 35⟩, [⟨0, 9, 20, 13⟩], rfl, by decide, by decide, xl_IOB, xc_IOB, (fun z hz => by
      rcases List.mem_cons.mp hz with rfl | hz
      · exact ⟨by decide, EISE, by decide, xl_ISE, by decide, by decide⟩
      exact absurd hz List.not_mem_nil), 4, 2, Or.inl ⟨dL_better_16, by decide, dL_better_18, dL_better_19⟩, rfl⟩
  rcases List.mem_cons.mp h with h | h
  · obtain ⟨rfl, rfl⟩ := Prod.mk.inj h
    exact ⟨[⟨0, 9, 12, 45⟩, ⟨0, 9, 16, 35⟩], ⟨0, 9, 20, 13⟩, [], rfl, by decide, by decide, xl_IAE, xc_IAE, (fun z hz => by
      rcases List.mem_cons.mp hz with rfl | hz
      · exact ⟨by decide, EISE, by decide, xl_ISE, by decide, by decide⟩
      rcases List.mem_cons.mp hz with rfl | hz
      · exact ⟨by decide, EIOB, by decide, xl_IOB, by decide, by decide⟩
      exact absurd hz List.not_mem_nil), 4, 3, Or.inl ⟨dL_better_20, by decide, dL_better_22, dL_better_23⟩, rfl⟩
  exact absurd h List.not_mem_nil
theorem W_better {g : GG} {m : MM} {Q : Out → Prop} (hF : Fx m) {p0 p1 : Int32} (h : Cl g 7 3 18 mX11_better [.ref 4, .int p0, .int p1] m (WHl xL_better Q)) : Cl g 8 3 18 mL_better [.ref 4, .int p0, .int p1, .ref 283] m Q := by
  refine Cl.ofH rfl (by decide) (Nat.le_of_ble_eq_true rfl) ?_
  show Wp g mL_better 8 3 18 0 [.ref 4, .int p0, .int p1, .ref 283, .retAddr 0] [] m Q
  refine r_aload_n dL_better_0 rfl ?_
  refine r_iconst (0) dL_better_1 rfl ?_
  refine r_aload_n dL_better_2 rfl ?_
  refine r_iload_n dL_better_3 rfl ?_
  refine r_iload_n dL_better_4 rfl ?_
  refine r_callVH (d1 := 7) (c1 := 3) (n1 := 18) (c := 0) (n := 0) (a := 4) (ci := 11) (st := [.int 0, .ref 283]) [.int p0, .int p1] rfl dL_better_5 mvL_101 rfl (by exact k_4 hF) ⟨(Nat.le_of_ble_eq_true rfl), rfl⟩ (Nat.le_of_ble_eq_true rfl) (by exact Nat.le_of_ble_eq_true rfl) ?_
  refine Cl.mono (fun o ho => ?_) h
  obtain ⟨out, m'⟩ := o
  cases out with
  | inr E => obtain ⟨v, hv, hq⟩ := ho; exact ⟨v, ho_better E v hv, hq⟩
  | inl v =>
    cases v with
    | none => exact False.elim ho
    | some v =>
      cases v with
      | long v =>
        obtain ⟨hF1, hq⟩ := ho
        show Wp g mL_better _ _ _ 8 _ (_ :: _) _ Q
        refine r_lastoren (0) rfl dL_better_8 (by exact k_283 hF1) (vin (j := 0) (by omega) (by omega)) ?_
        refine r_goto 24 dL_better_9 rfl ?_
        refine r_iconst (0) dL_better_24 rfl ?_
        refine r_ireturn dL_better_25 rfl rfl ?_
        exact hq
      | _ => exact False.elim ho
def xL_lines : List (String × Int32) := [(EISE, 1), (EIOB, 2), (EIAE, 3)]
theorem ho_lines : ∀ E v, (E, v) ∈ xL_lines → HO mL_lines 5 E v := by
  intro E v h
  rcases List.mem_cons.mp h with h | h
  · obtain ⟨rfl, rfl⟩ := Prod.mk.inj h
    exact ⟨[], ⟨0, 10, 13, 45⟩, [⟨0, 10, 17, 35⟩, ⟨0, 10, 21, 13⟩], rfl, by decide, by decide, xl_ISE, xc_ISE, (fun z hz => absurd hz List.not_mem_nil), 4, 1, Or.inl ⟨dL_lines_13, by decide, dL_lines_15, dL_lines_16⟩, rfl⟩
  rcases List.mem_cons.mp h with h | h
  · obtain ⟨rfl, rfl⟩ := Prod.mk.inj h
    exact ⟨[⟨0, 10, 13, 45⟩], ⟨0, 10, 17, 35⟩, [⟨0, 10, 21, 13⟩], rfl, by decide, by decide, xl_IOB, xc_IOB, (fun z hz => by
      rcases List.mem_cons.mp hz with rfl | hz
      · exact ⟨by decide, EISE, by decide, xl_ISE, by decide, by decide⟩
      exact absurd hz List.not_mem_nil), 4, 2, Or.inl ⟨dL_lines_17, by decide, dL_lines_19, dL_lines_20⟩, rfl⟩
  rcases List.mem_cons.mp h with h | h
  · obtain ⟨rfl, rfl⟩ := Prod.mk.inj h
    exact ⟨[⟨0, 10, 13, 45⟩, ⟨0, 10, 17, 35⟩], ⟨0, 10, 21, 13⟩, [], rfl, by decide, by decide, xl_IAE, xc_IAE, (fun z hz => by
      rcases List.mem_cons.mp hz with rfl | hz
      · exact ⟨by decide, EISE, by decide, xl_ISE, by decide, by decide⟩
      rcases List.mem_cons.mp hz with rfl | hz
      · exact ⟨by decide, EIOB, by decide, xl_IOB, by decide, by decide⟩
      exact absurd hz List.not_mem_nil), 4, 3, Or.inl ⟨dL_lines_21, by decide, dL_lines_23, dL_lines_24⟩, rfl⟩
  exact absurd h List.not_mem_nil
theorem W_lines {g : GG} {m : MM} {Q : Out → Prop} (hF : Fx m) {p0 p1 : Int32} (h : Cl g 7 3 18 mX11_lines [.ref 4, .int p0, .int p1] m (WHi xL_lines Q)) : Cl g 8 3 18 mL_lines [.ref 4, .int p0, .int p1, .ref 283] m Q := by
  refine Cl.ofH rfl (by decide) (Nat.le_of_ble_eq_true rfl) ?_
  show Wp g mL_lines 8 3 18 0 [.ref 4, .int p0, .int p1, .ref 283, .retAddr 0] [] m Q
  refine r_aload_n dL_lines_0 rfl ?_
  refine r_iconst (0) dL_lines_1 rfl ?_
  refine r_aload_n dL_lines_2 rfl ?_
  refine r_iload_n dL_lines_3 rfl ?_
  refine r_iload_n dL_lines_4 rfl ?_
  refine r_callVH (d1 := 7) (c1 := 3) (n1 := 18) (c := 0) (n := 0) (a := 4) (ci := 11) (st := [.int 0, .ref 283]) [.int p0, .int p1] rfl dL_lines_5 mvL_104 rfl (by exact k_4 hF) ⟨(Nat.le_of_ble_eq_true rfl), rfl⟩ (Nat.le_of_ble_eq_true rfl) (by exact Nat.le_of_ble_eq_true rfl) ?_
  refine Cl.mono (fun o ho => ?_) h
  obtain ⟨out, m'⟩ := o
  cases out with
  | inr E => obtain ⟨v, hv, hq⟩ := ho; exact ⟨v, ho_lines E v hv, hq⟩
  | inl v =>
    cases v with
    | none => exact False.elim ho
    | some v =>
      cases v with
      | int v =>
        obtain ⟨hF1, hq⟩ := ho
        show Wp g mL_lines _ _ _ 8 _ (_ :: _) _ Q
        refine r_i2l dL_lines_8 ?_
        refine r_lastoren (0) rfl dL_lines_9 (by exact k_283 hF1) (vin (j := 0) (by omega) (by omega)) ?_
        refine r_goto 25 dL_lines_10 rfl ?_
        refine r_iconst (0) dL_lines_25 rfl ?_
        refine r_ireturn dL_lines_26 rfl rfl ?_
        exact hq
      | _ => exact False.elim ho
def xL_mile : List (String × Int32) := [(EIAE, 1)]
theorem ho_mile : ∀ E v, (E, v) ∈ xL_mile → HO mL_mile 5 E v := by
  intro E v h
  rcases List.mem_cons.mp h with h | h
  · obtain ⟨rfl, rfl⟩ := Prod.mk.inj h
    exact ⟨[], ⟨0, 10, 13, 13⟩, [], rfl, by decide, by decide, xl_IAE, xc_IAE, (fun z hz => absurd hz List.not_mem_nil), 4, 1, Or.inl ⟨dL_mile_13, by decide, dL_mile_15, dL_mile_16⟩, rfl⟩
  exact absurd h List.not_mem_nil
theorem W_mile {g : GG} {m : MM} {Q : Out → Prop} (hF : Fx m) {p0 p1 : Int32} (h : Cl g 7 1 6 mX11_mile [.ref 4, .int p0, .int p1] m (WHi xL_mile Q)) : Cl g 8 1 6 mL_mile [.ref 4, .int p0, .int p1, .ref 283] m Q := by
  refine Cl.ofH rfl (by decide) (Nat.le_of_ble_eq_true rfl) ?_
  show Wp g mL_mile 8 1 6 0 [.ref 4, .int p0, .int p1, .ref 283, .retAddr 0] [] m Q
  refine r_aload_n dL_mile_0 rfl ?_
  refine r_iconst (0) dL_mile_1 rfl ?_
  refine r_aload_n dL_mile_2 rfl ?_
  refine r_iload_n dL_mile_3 rfl ?_
  refine r_iload_n dL_mile_4 rfl ?_
  refine r_callVH (d1 := 7) (c1 := 1) (n1 := 6) (c := 0) (n := 0) (a := 4) (ci := 11) (st := [.int 0, .ref 283]) [.int p0, .int p1] rfl dL_mile_5 mvL_107 rfl (by exact k_4 hF) ⟨(Nat.le_of_ble_eq_true rfl), rfl⟩ (Nat.le_of_ble_eq_true rfl) (by exact Nat.le_of_ble_eq_true rfl) ?_
  refine Cl.mono (fun o ho => ?_) h
  obtain ⟨out, m'⟩ := o
  cases out with
  | inr E => obtain ⟨v, hv, hq⟩ := ho; exact ⟨v, ho_mile E v hv, hq⟩
  | inl v =>
    cases v with
    | none => exact False.elim ho
    | some v =>
      cases v with
      | int v =>
        obtain ⟨hF1, hq⟩ := ho
        show Wp g mL_mile _ _ _ 8 _ (_ :: _) _ Q
        refine r_i2l dL_mile_8 ?_
        refine r_lastoren (0) rfl dL_mile_9 (by exact k_283 hF1) (vin (j := 0) (by omega) (by omega)) ?_
        refine r_goto 17 dL_mile_10 rfl ?_
        refine r_iconst (0) dL_mile_17 rfl ?_
        refine r_ireturn dL_mile_18 rfl rfl ?_
        exact hq
      | _ => exact False.elim ho
def xL_odds : List (String × Int32) := [(EIAE, 1)]
theorem ho_odds : ∀ E v, (E, v) ∈ xL_odds → HO mL_odds 5 E v := by
  intro E v h
  rcases List.mem_cons.mp h with h | h
  · obtain ⟨rfl, rfl⟩ := Prod.mk.inj h
    exact ⟨[], ⟨0, 10, 13, 13⟩, [], rfl, by decide, by decide, xl_IAE, xc_IAE, (fun z hz => absurd hz List.not_mem_nil), 4, 1, Or.inl ⟨dL_odds_13, by decide, dL_odds_15, dL_odds_16⟩, rfl⟩
  exact absurd h List.not_mem_nil
theorem W_odds {g : GG} {m : MM} {Q : Out → Prop} (hF : Fx m) {p0 p1 : Int32} (h : Cl g 7 1 6 mX11_odds [.ref 4, .int p0, .int p1] m (WHi xL_odds Q)) : Cl g 8 1 6 mL_odds [.ref 4, .int p0, .int p1, .ref 283] m Q := by
  refine Cl.ofH rfl (by decide) (Nat.le_of_ble_eq_true rfl) ?_
  show Wp g mL_odds 8 1 6 0 [.ref 4, .int p0, .int p1, .ref 283, .retAddr 0] [] m Q
  refine r_aload_n dL_odds_0 rfl ?_
  refine r_iconst (0) dL_odds_1 rfl ?_
  refine r_aload_n dL_odds_2 rfl ?_
  refine r_iload_n dL_odds_3 rfl ?_
  refine r_iload_n dL_odds_4 rfl ?_
  refine r_callVH (d1 := 7) (c1 := 1) (n1 := 6) (c := 0) (n := 0) (a := 4) (ci := 11) (st := [.int 0, .ref 283]) [.int p0, .int p1] rfl dL_odds_5 mvL_110 rfl (by exact k_4 hF) ⟨(Nat.le_of_ble_eq_true rfl), rfl⟩ (Nat.le_of_ble_eq_true rfl) (by exact Nat.le_of_ble_eq_true rfl) ?_
  refine Cl.mono (fun o ho => ?_) h
  obtain ⟨out, m'⟩ := o
  cases out with
  | inr E => obtain ⟨v, hv, hq⟩ := ho; exact ⟨v, ho_odds E v hv, hq⟩
  | inl v =>
    cases v with
    | none => exact False.elim ho
    | some v =>
      cases v with
      | int v =>
        obtain ⟨hF1, hq⟩ := ho
        show Wp g mL_odds _ _ _ 8 _ (_ :: _) _ Q
        refine r_i2l dL_odds_8 ?_
        refine r_lastoren (0) rfl dL_odds_9 (by exact k_283 hF1) (vin (j := 0) (by omega) (by omega)) ?_
        refine r_goto 17 dL_odds_10 rfl ?_
        refine r_iconst (0) dL_odds_17 rfl ?_
        refine r_ireturn dL_odds_18 rfl rfl ?_
        exact hq
      | _ => exact False.elim ho
def xL_price : List (String × Int32) := [(EIAE, 1)]
theorem ho_price : ∀ E v, (E, v) ∈ xL_price → HO mL_price 9 E v := by
  intro E v h
  rcases List.mem_cons.mp h with h | h
  · obtain ⟨rfl, rfl⟩ := Prod.mk.inj h
    exact ⟨[], ⟨0, 14, 17, 13⟩, [], rfl, by decide, by decide, xl_IAE, xc_IAE, (fun z hz => absurd hz List.not_mem_nil), 6, 1, Or.inl ⟨dL_price_17, by decide, dL_price_19, dL_price_20⟩, rfl⟩
  exact absurd h List.not_mem_nil
theorem W_price {g : GG} {m : MM} {Q : Out → Prop} (hF : Fx m) {p0 p1 p2 p3 : Int32} (h : Cl g 7 2 12 mX11_price [.ref 4, .int p0, .int p1, .int p2, .int p3] m (WHi xL_price Q)) : Cl g 8 2 12 mL_price [.ref 4, .int p0, .int p1, .int p2, .int p3, .ref 283] m Q := by
  refine Cl.ofH rfl (by decide) (Nat.le_of_ble_eq_true rfl) ?_
  show Wp g mL_price 8 2 12 0 [.ref 4, .int p0, .int p1, .int p2, .int p3, .ref 283, .retAddr 0] [] m Q
  refine r_aload dL_price_0 rfl ?_
  refine r_iconst (0) dL_price_2 rfl ?_
  refine r_aload_n dL_price_3 rfl ?_
  refine r_iload_n dL_price_4 rfl ?_
  refine r_iload_n dL_price_5 rfl ?_
  refine r_iload_n dL_price_6 rfl ?_
  refine r_iload dL_price_7 rfl ?_
  refine r_callVH (d1 := 7) (c1 := 2) (n1 := 12) (c := 0) (n := 0) (a := 4) (ci := 11) (st := [.int 0, .ref 283]) [.int p0, .int p1, .int p2, .int p3] rfl dL_price_9 mvL_113 rfl (by exact k_4 hF) ⟨(Nat.le_of_ble_eq_true rfl), rfl⟩ (Nat.le_of_ble_eq_true rfl) (by exact Nat.le_of_ble_eq_true rfl) ?_
  refine Cl.mono (fun o ho => ?_) h
  obtain ⟨out, m'⟩ := o
  cases out with
  | inr E => obtain ⟨v, hv, hq⟩ := ho; exact ⟨v, ho_price E v hv, hq⟩
  | inl v =>
    cases v with
    | none => exact False.elim ho
    | some v =>
      cases v with
      | int v =>
        obtain ⟨hF1, hq⟩ := ho
        show Wp g mL_price _ _ _ 12 _ (_ :: _) _ Q
        refine r_i2l dL_price_12 ?_
        refine r_lastoren (0) rfl dL_price_13 (by exact k_283 hF1) (vin (j := 0) (by omega) (by omega)) ?_
        refine r_goto 21 dL_price_14 rfl ?_
        refine r_iconst (0) dL_price_21 rfl ?_
        refine r_ireturn dL_price_22 rfl rfl ?_
        exact hq
      | _ => exact False.elim ho
def xL_foul : List (String × Int32) := [(EIAE, 1)]
theorem ho_foul : ∀ E v, (E, v) ∈ xL_foul → HO mL_foul 5 E v := by
  intro E v h
  rcases List.mem_cons.mp h with h | h
  · obtain ⟨rfl, rfl⟩ := Prod.mk.inj h
    exact ⟨[], ⟨0, 10, 13, 13⟩, [], rfl, by decide, by decide, xl_IAE, xc_IAE, (fun z hz => absurd hz List.not_mem_nil), 4, 1, Or.inl ⟨dL_foul_13, by decide, dL_foul_15, dL_foul_16⟩, rfl⟩
  exact absurd h List.not_mem_nil
theorem W_foul {g : GG} {m : MM} {Q : Out → Prop} (hF : Fx m) {p0 p1 : Int32} (h : Cl g 7 1 6 mX11_foul [.ref 4, .int p0, .int p1] m (WHi xL_foul Q)) : Cl g 8 1 6 mL_foul [.ref 4, .int p0, .int p1, .ref 283] m Q := by
  refine Cl.ofH rfl (by decide) (Nat.le_of_ble_eq_true rfl) ?_
  show Wp g mL_foul 8 1 6 0 [.ref 4, .int p0, .int p1, .ref 283, .retAddr 0] [] m Q
  refine r_aload_n dL_foul_0 rfl ?_
  refine r_iconst (0) dL_foul_1 rfl ?_
  refine r_aload_n dL_foul_2 rfl ?_
  refine r_iload_n dL_foul_3 rfl ?_
  refine r_iload_n dL_foul_4 rfl ?_
  refine r_callVH (d1 := 7) (c1 := 1) (n1 := 6) (c := 0) (n := 0) (a := 4) (ci := 11) (st := [.int 0, .ref 283]) [.int p0, .int p1] rfl dL_foul_5 mvL_116 rfl (by exact k_4 hF) ⟨(Nat.le_of_ble_eq_true rfl), rfl⟩ (Nat.le_of_ble_eq_true rfl) (by exact Nat.le_of_ble_eq_true rfl) ?_
  refine Cl.mono (fun o ho => ?_) h
  obtain ⟨out, m'⟩ := o
  cases out with
  | inr E => obtain ⟨v, hv, hq⟩ := ho; exact ⟨v, ho_foul E v hv, hq⟩
  | inl v =>
    cases v with
    | none => exact False.elim ho
    | some v =>
      cases v with
      | int v =>
        obtain ⟨hF1, hq⟩ := ho
        show Wp g mL_foul _ _ _ 8 _ (_ :: _) _ Q
        refine r_i2l dL_foul_8 ?_
        refine r_lastoren (0) rfl dL_foul_9 (by exact k_283 hF1) (vin (j := 0) (by omega) (by omega)) ?_
        refine r_goto 17 dL_foul_10 rfl ?_
        refine r_iconst (0) dL_foul_17 rfl ?_
        refine r_ireturn dL_foul_18 rfl rfl ?_
        exact hq
      | _ => exact False.elim ho
def xL_grown : List (String × Int32) := [(EIAE, 1)]
theorem ho_grown : ∀ E v, (E, v) ∈ xL_grown → HO mL_grown 4 E v := by
  intro E v h
  rcases List.mem_cons.mp h with h | h
  · obtain ⟨rfl, rfl⟩ := Prod.mk.inj h
    exact ⟨[], ⟨0, 9, 12, 13⟩, [], rfl, by decide, by decide, xl_IAE, xc_IAE, (fun z hz => absurd hz List.not_mem_nil), 3, 1, Or.inr ⟨(3 : Fin 4), rfl, dL_grown_12, by decide, dL_grown_13, dL_grown_14⟩, rfl⟩
  exact absurd h List.not_mem_nil
theorem W_grown {g : GG} {m : MM} {Q : Out → Prop} (hF : Fx m) {p0 : Int32} (h : Cl g 7 1 6 mX11_grown [.ref 4, .int p0] m (WHi xL_grown Q)) : Cl g 8 1 6 mL_grown [.ref 4, .int p0, .ref 283] m Q := by
  refine Cl.ofH rfl (by decide) (Nat.le_of_ble_eq_true rfl) ?_
  show Wp g mL_grown 8 1 6 0 [.ref 4, .int p0, .ref 283, .retAddr 0] [] m Q
  refine r_aload_n dL_grown_0 rfl ?_
  refine r_iconst (0) dL_grown_1 rfl ?_
  refine r_aload_n dL_grown_2 rfl ?_
  refine r_iload_n dL_grown_3 rfl ?_
  refine r_callVH (d1 := 7) (c1 := 1) (n1 := 6) (c := 0) (n := 0) (a := 4) (ci := 11) (st := [.int 0, .ref 283]) [.int p0] rfl dL_grown_4 mvL_119 rfl (by exact k_4 hF) ⟨(Nat.le_of_ble_eq_true rfl), rfl⟩ (Nat.le_of_ble_eq_true rfl) (by exact Nat.le_of_ble_eq_true rfl) ?_
  refine Cl.mono (fun o ho => ?_) h
  obtain ⟨out, m'⟩ := o
  cases out with
  | inr E => obtain ⟨v, hv, hq⟩ := ho; exact ⟨v, ho_grown E v hv, hq⟩
  | inl v =>
    cases v with
    | none => exact False.elim ho
    | some v =>
      cases v with
      | int v =>
        obtain ⟨hF1, hq⟩ := ho
        show Wp g mL_grown _ _ _ 7 _ (_ :: _) _ Q
        refine r_i2l dL_grown_7 ?_
        refine r_lastoren (0) rfl dL_grown_8 (by exact k_283 hF1) (vin (j := 0) (by omega) (by omega)) ?_
        refine r_goto 15 dL_grown_9 rfl ?_
        refine r_iconst (0) dL_grown_15 rfl ?_
        refine r_ireturn dL_grown_16 rfl rfl ?_
        exact hq
      | _ => exact False.elim ho
