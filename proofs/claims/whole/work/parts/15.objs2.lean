def XC (m : MM) (r i j : Nat) : Prop := i ≠ j ∧ 0 < ldI m r i ∧ ldI m r j < 60
def xcM (m : MM) (r i j : Nat) : MM := stI (stI m r i (ldI m r i - 1)) r j (ldI m r j + 1)
theorem ac_n : Cond.native arraycopyName ∈ TB := (tb_2 179 rfl rfl)
theorem ac_s : Cond.static arraycopyName ∈ TB := (tb_2 178 rfl rfl)
theorem ac_i : Cond.initialized "java/lang/System" ∈ TB := (tb_1 25 rfl rfl)
theorem acX1 : Cond.methodLink RX1 39 arraycopyName ∈ TB := (tb_2 177 rfl rfl)
theorem acJ7 : Cond.methodLink RJ7 150 arraycopyName ∈ TB := (tb_4 86 rfl rfl)
theorem S_can0 {g : GG} {m : MM} {Q : Out → Prop} {a b e n : Nat} (ha : kdl m a = some (1, 0)) (hb : ldR m a 2 = b) (hbk : kdl m b = some (13, 12)) (hd : ldR m a 3 = e) (hdk : kdl m e = some (13, 12)) (hn : ldI m a 1 = nI n) (hn12 : n ≤ 12) {i j : Nat} (hi : i < n) (hj : j < n) (k1 : XC m b i j → Q (.inl (some (.int 1)), m)) (k0 : ¬ XC m b i j → Q (.inl (some (.int 0)), m)) : Cl g 1 0 0 mX1_canExchange [.ref a, .int 0, .int (nI i), .int (nI j)] m Q := by
  refine Cl.of rfl (by decide) (Nat.le_of_ble_eq_true rfl) ?_
  show Wp g mX1_canExchange 1 0 0 0 [.ref a, .int 0, .int (nI i), .int (nI j), .retAddr 0] [] m Q
  refine r_iload_n dX1_canExchange_0 rfl ?_
  refine r_iload_n dX1_canExchange_1 rfl ?_
  refine r_icmp_eq 21 dX1_canExchange_2 rfl (fun h1 => ?_) (fun h1 => ?_)
  ·
    refine r_iconst (0) dX1_canExchange_21 rfl ?_
    refine r_ireturn dX1_canExchange_22 rfl rfl ?_
    first | exact k0 (fun q => q.1 ((nI_eq (by omega) (by omega)).mp h1)) | exact k0 (fun q => i32_nle.mpr q.2.1 h2) | exact k0 (fun q => i32_nle.mpr q.2.2 h3) | exact k1 ⟨fun q => h1 (q ▸ rfl), i32_nle.mp h2, i32_nle.mp h3⟩
  ·
    refine r_aload_n dX1_canExchange_5 rfl ?_
    refine r_iload_n dX1_canExchange_6 rfl ?_
    refine r_callV1 (ci := 1) (d1 := 0) (c1 := 0) (n1 := 0) dX1_canExchange_7 mvX1_31 rfl ⟨(Nat.le_of_ble_eq_true rfl), rfl⟩ (Nat.le_of_ble_eq_true rfl) (by exact Nat.le_of_ble_eq_true rfl) (by exact ha) ?_
    refine S_X1_hasStation (by exact ha) (by exact hn) hn12 (fun _ _ _ => ?_) (fun h9 => absurd h9 (fun h => h.elim (nI_pos (by omega)) (nI_ge hi (by omega))))
    show Wp g mX1_canExchange _ _ _ 10 _ (_ :: _) _ Q
    refine r_if_eq 21 dX1_canExchange_10 rfl (fun hz => absurd hz (by decide)) (fun _ => ?_)
    refine r_aload_n dX1_canExchange_13 rfl ?_
    refine r_iload_n dX1_canExchange_14 rfl ?_
    refine r_callV1 (ci := 1) (d1 := 0) (c1 := 0) (n1 := 0) dX1_canExchange_15 mvX1_31 rfl ⟨(Nat.le_of_ble_eq_true rfl), rfl⟩ (Nat.le_of_ble_eq_true rfl) (by exact Nat.le_of_ble_eq_true rfl) (by exact ha) ?_
    refine S_X1_hasStation (by exact ha) (by exact hn) hn12 (fun _ _ _ => ?_) (fun h9 => absurd h9 (fun h => h.elim (nI_pos (by omega)) (nI_ge hj (by omega))))
    show Wp g mX1_canExchange _ _ _ 18 _ (_ :: _) _ Q
    refine r_if_ne 23 dX1_canExchange_18 rfl (fun _ => ?_) (fun hz => absurd hz (by decide))
    refine r_iload_n dX1_canExchange_23 rfl ?_
    refine r_if_ne 34 dX1_canExchange_24 rfl (fun hz => absurd hz (by decide)) (fun _ => ?_)
    refine r_aload_n dX1_canExchange_27 rfl ?_
    refine r_getRc dX1_canExchange_28 fgX1_9 rfl (by exact ha) (by exact hb) ?_
    refine r_goto 38 dX1_canExchange_31 rfl ?_
    refine sa_4 dX1_canExchange_38 rfl (Nat.le_of_ble_eq_true rfl) ?_
    refine r_aload dX1_canExchange_40 rfl ?_
    refine r_iload_n dX1_canExchange_42 rfl ?_
    refine r_ialoadn (i) (nI_cl i (by omega)) dX1_canExchange_43 (by exact hbk) (vin (by omega) (by omega)) ?_
    refine r_if_le 60 dX1_canExchange_44 rfl (fun h2 => ?_) (fun h2 => ?_)
    ·
      refine r_iconst (0) dX1_canExchange_60 rfl ?_
      refine r_ireturn dX1_canExchange_61 rfl rfl ?_
      first | exact k0 (fun q => q.1 ((nI_eq (by omega) (by omega)).mp h1)) | exact k0 (fun q => i32_nle.mpr q.2.1 h2) | exact k0 (fun q => i32_nle.mpr q.2.2 h3) | exact k1 ⟨fun q => h1 (q ▸ rfl), i32_nle.mp h2, i32_nle.mp h3⟩
    ·
      refine r_aload dX1_canExchange_47 rfl ?_
      refine r_iload_n dX1_canExchange_49 rfl ?_
      refine r_ialoadn (j) (nI_cl j (by omega)) dX1_canExchange_50 (by exact hbk) (vin (by omega) (by omega)) ?_
      refine r_bipush (60) dX1_canExchange_51 rfl ?_
      refine r_icmp_ge 60 dX1_canExchange_53 rfl (fun h3 => ?_) (fun h3 => ?_)
      ·
        refine r_iconst (0) dX1_canExchange_60 rfl ?_
        refine r_ireturn dX1_canExchange_61 rfl rfl ?_
        first | exact k0 (fun q => q.1 ((nI_eq (by omega) (by omega)).mp h1)) | exact k0 (fun q => i32_nle.mpr q.2.1 h2) | exact k0 (fun q => i32_nle.mpr q.2.2 h3) | exact k1 ⟨fun q => h1 (q ▸ rfl), i32_nle.mp h2, i32_nle.mp h3⟩
      ·
        refine r_iconst (1) dX1_canExchange_56 rfl ?_
        refine r_goto 61 dX1_canExchange_57 rfl ?_
        refine r_ireturn dX1_canExchange_61 rfl rfl ?_
        first | exact k0 (fun q => q.1 ((nI_eq (by omega) (by omega)).mp h1)) | exact k0 (fun q => i32_nle.mpr q.2.1 h2) | exact k0 (fun q => i32_nle.mpr q.2.2 h3) | exact k1 ⟨fun q => h1 (q ▸ rfl), i32_nle.mp h2, i32_nle.mp h3⟩
theorem S_exch0 {g : GG} {m : MM} {Q : Out → Prop} {a b e n : Nat} (ha : kdl m a = some (1, 0)) (hb : ldR m a 2 = b) (hbk : kdl m b = some (13, 12)) (hd : ldR m a 3 = e) (hdk : kdl m e = some (13, 12)) (hn : ldI m a 1 = nI n) (hn12 : n ≤ 12) {i j : Nat} (hi : i < n) (hj : j < n) (hx : XC m b i j) (k : Q (.inl none, xcM m b i j)) : Cl g 2 0 0 mX1_exchange [.ref a, .int 0, .int (nI i), .int (nI j)] m Q := by
  refine Cl.of rfl (by decide) (Nat.le_of_ble_eq_true rfl) ?_
  show Wp g mX1_exchange 2 0 0 0 [.ref a, .int 0, .int (nI i), .int (nI j), .retAddr 0] [] m Q
  refine r_aload_n dX1_exchange_0 rfl ?_
  refine r_iload_n dX1_exchange_1 rfl ?_
  refine r_iload_n dX1_exchange_2 rfl ?_
  refine r_iload_n dX1_exchange_3 rfl ?_
  refine r_callV3 (ci := 1) (d1 := 1) (c1 := 0) (n1 := 0) dX1_exchange_4 mvX1_35 rfl ⟨(Nat.le_of_ble_eq_true rfl), rfl⟩ (Nat.le_of_ble_eq_true rfl) (by exact Nat.le_of_ble_eq_true rfl) (by exact ha) ?_
  refine S_can0 ha hb hbk hd hdk hn hn12 hi hj (fun _ => ?_) (fun h9 => absurd hx h9)
  show Wp g mX1_exchange _ _ _ 7 _ (_ :: _) _ Q
  refine r_if_eq 43 dX1_exchange_7 rfl (fun hz => absurd hz (by decide)) (fun _ => ?_)
  refine r_iload_n dX1_exchange_10 rfl ?_
  refine r_if_ne 21 dX1_exchange_11 rfl (fun hz => absurd hz (by decide)) (fun _ => ?_)
  refine r_aload_n dX1_exchange_14 rfl ?_
  refine r_getRc dX1_exchange_15 fgX1_9 rfl (by exact ha) (by exact hb) ?_
  refine r_goto 25 dX1_exchange_18 rfl ?_
  refine sa_4 dX1_exchange_25 rfl (Nat.le_of_ble_eq_true rfl) ?_
  refine r_aload dX1_exchange_27 rfl ?_
  refine r_iload_n dX1_exchange_29 rfl ?_
  refine r_dup2 dX1_exchange_30 rfl rfl ?_
  refine r_ialoadn (i) (nI_cl i (by omega)) dX1_exchange_31 (by exact hbk) (vin (by omega) (by omega)) ?_
  refine r_iconst (1) dX1_exchange_32 rfl ?_
  refine r_isub dX1_exchange_33 ?_
  refine r_iastoren (i) (nI_cl i (by omega)) dX1_exchange_34 (by exact hbk) (vin (by omega) (by omega)) ?_
  refine r_aload dX1_exchange_35 rfl ?_
  refine r_iload_n dX1_exchange_37 rfl ?_
  refine r_dup2 dX1_exchange_38 rfl rfl ?_
  refine r_ialoadn (j) (nI_cl j (by omega)) dX1_exchange_39 (by exact hbk) (vin (by omega) (by omega)) ?_
  refine r_iconst (1) dX1_exchange_40 rfl ?_
  refine r_iadd dX1_exchange_41 ?_
  refine r_iastoren (j) (nI_cl j (by omega)) dX1_exchange_42 (by exact hbk) (vin (by omega) (by omega)) ?_
  refine r_return dX1_exchange_43 rfl ?_
  have e1 : ldI (stI m b i (ldI m b i - 1)) b j = ldI m b j := ld_n (fun q => hx.1 q.2.symm) rfl
  rw [e1]; exact k
theorem S_can1 {g : GG} {m : MM} {Q : Out → Prop} {a b e n : Nat} (ha : kdl m a = some (1, 0)) (hb : ldR m a 2 = b) (hbk : kdl m b = some (13, 12)) (hd : ldR m a 3 = e) (hdk : kdl m e = some (13, 12)) (hn : ldI m a 1 = nI n) (hn12 : n ≤ 12) {i j : Nat} (hi : i < n) (hj : j < n) (k1 : XC m e i j → Q (.inl (some (.int 1)), m)) (k0 : ¬ XC m e i j → Q (.inl (some (.int 0)), m)) : Cl g 1 0 0 mX1_canExchange [.ref a, .int 1, .int (nI i), .int (nI j)] m Q := by
  refine Cl.of rfl (by decide) (Nat.le_of_ble_eq_true rfl) ?_
  show Wp g mX1_canExchange 1 0 0 0 [.ref a, .int 1, .int (nI i), .int (nI j), .retAddr 0] [] m Q
  refine r_iload_n dX1_canExchange_0 rfl ?_
  refine r_iload_n dX1_canExchange_1 rfl ?_
  refine r_icmp_eq 21 dX1_canExchange_2 rfl (fun h1 => ?_) (fun h1 => ?_)
  ·
    refine r_iconst (0) dX1_canExchange_21 rfl ?_
    refine r_ireturn dX1_canExchange_22 rfl rfl ?_
    first | exact k0 (fun q => q.1 ((nI_eq (by omega) (by omega)).mp h1)) | exact k0 (fun q => i32_nle.mpr q.2.1 h2) | exact k0 (fun q => i32_nle.mpr q.2.2 h3) | exact k1 ⟨fun q => h1 (q ▸ rfl), i32_nle.mp h2, i32_nle.mp h3⟩
  ·
    refine r_aload_n dX1_canExchange_5 rfl ?_
    refine r_iload_n dX1_canExchange_6 rfl ?_
    refine r_callV1 (ci := 1) (d1 := 0) (c1 := 0) (n1 := 0) dX1_canExchange_7 mvX1_31 rfl ⟨(Nat.le_of_ble_eq_true rfl), rfl⟩ (Nat.le_of_ble_eq_true rfl) (by exact Nat.le_of_ble_eq_true rfl) (by exact ha) ?_
    refine S_X1_hasStation (by exact ha) (by exact hn) hn12 (fun _ _ _ => ?_) (fun h9 => absurd h9 (fun h => h.elim (nI_pos (by omega)) (nI_ge hi (by omega))))
    show Wp g mX1_canExchange _ _ _ 10 _ (_ :: _) _ Q
    refine r_if_eq 21 dX1_canExchange_10 rfl (fun hz => absurd hz (by decide)) (fun _ => ?_)
    refine r_aload_n dX1_canExchange_13 rfl ?_
    refine r_iload_n dX1_canExchange_14 rfl ?_
    refine r_callV1 (ci := 1) (d1 := 0) (c1 := 0) (n1 := 0) dX1_canExchange_15 mvX1_31 rfl ⟨(Nat.le_of_ble_eq_true rfl), rfl⟩ (Nat.le_of_ble_eq_true rfl) (by exact Nat.le_of_ble_eq_true rfl) (by exact ha) ?_
    refine S_X1_hasStation (by exact ha) (by exact hn) hn12 (fun _ _ _ => ?_) (fun h9 => absurd h9 (fun h => h.elim (nI_pos (by omega)) (nI_ge hj (by omega))))
    show Wp g mX1_canExchange _ _ _ 18 _ (_ :: _) _ Q
    refine r_if_ne 23 dX1_canExchange_18 rfl (fun _ => ?_) (fun hz => absurd hz (by decide))
    refine r_iload_n dX1_canExchange_23 rfl ?_
    refine r_if_ne 34 dX1_canExchange_24 rfl (fun _ => ?_) (fun hz => absurd hz (by decide))
    refine r_aload_n dX1_canExchange_34 rfl ?_
    refine r_getRc dX1_canExchange_35 fgX1_15 rfl (by exact ha) (by exact hd) ?_
    refine sa_4 dX1_canExchange_38 rfl (Nat.le_of_ble_eq_true rfl) ?_
    refine r_aload dX1_canExchange_40 rfl ?_
    refine r_iload_n dX1_canExchange_42 rfl ?_
    refine r_ialoadn (i) (nI_cl i (by omega)) dX1_canExchange_43 (by exact hdk) (vin (by omega) (by omega)) ?_
    refine r_if_le 60 dX1_canExchange_44 rfl (fun h2 => ?_) (fun h2 => ?_)
    ·
      refine r_iconst (0) dX1_canExchange_60 rfl ?_
      refine r_ireturn dX1_canExchange_61 rfl rfl ?_
      first | exact k0 (fun q => q.1 ((nI_eq (by omega) (by omega)).mp h1)) | exact k0 (fun q => i32_nle.mpr q.2.1 h2) | exact k0 (fun q => i32_nle.mpr q.2.2 h3) | exact k1 ⟨fun q => h1 (q ▸ rfl), i32_nle.mp h2, i32_nle.mp h3⟩
    ·
      refine r_aload dX1_canExchange_47 rfl ?_
      refine r_iload_n dX1_canExchange_49 rfl ?_
      refine r_ialoadn (j) (nI_cl j (by omega)) dX1_canExchange_50 (by exact hdk) (vin (by omega) (by omega)) ?_
      refine r_bipush (60) dX1_canExchange_51 rfl ?_
      refine r_icmp_ge 60 dX1_canExchange_53 rfl (fun h3 => ?_) (fun h3 => ?_)
      ·
        refine r_iconst (0) dX1_canExchange_60 rfl ?_
        refine r_ireturn dX1_canExchange_61 rfl rfl ?_
        first | exact k0 (fun q => q.1 ((nI_eq (by omega) (by omega)).mp h1)) | exact k0 (fun q => i32_nle.mpr q.2.1 h2) | exact k0 (fun q => i32_nle.mpr q.2.2 h3) | exact k1 ⟨fun q => h1 (q ▸ rfl), i32_nle.mp h2, i32_nle.mp h3⟩
      ·
        refine r_iconst (1) dX1_canExchange_56 rfl ?_
        refine r_goto 61 dX1_canExchange_57 rfl ?_
        refine r_ireturn dX1_canExchange_61 rfl rfl ?_
        first | exact k0 (fun q => q.1 ((nI_eq (by omega) (by omega)).mp h1)) | exact k0 (fun q => i32_nle.mpr q.2.1 h2) | exact k0 (fun q => i32_nle.mpr q.2.2 h3) | exact k1 ⟨fun q => h1 (q ▸ rfl), i32_nle.mp h2, i32_nle.mp h3⟩
theorem S_exch1 {g : GG} {m : MM} {Q : Out → Prop} {a b e n : Nat} (ha : kdl m a = some (1, 0)) (hb : ldR m a 2 = b) (hbk : kdl m b = some (13, 12)) (hd : ldR m a 3 = e) (hdk : kdl m e = some (13, 12)) (hn : ldI m a 1 = nI n) (hn12 : n ≤ 12) {i j : Nat} (hi : i < n) (hj : j < n) (hx : XC m e i j) (k : Q (.inl none, xcM m e i j)) : Cl g 2 0 0 mX1_exchange [.ref a, .int 1, .int (nI i), .int (nI j)] m Q := by
  refine Cl.of rfl (by decide) (Nat.le_of_ble_eq_true rfl) ?_
  show Wp g mX1_exchange 2 0 0 0 [.ref a, .int 1, .int (nI i), .int (nI j), .retAddr 0] [] m Q
  refine r_aload_n dX1_exchange_0 rfl ?_
  refine r_iload_n dX1_exchange_1 rfl ?_
  refine r_iload_n dX1_exchange_2 rfl ?_
  refine r_iload_n dX1_exchange_3 rfl ?_
  refine r_callV3 (ci := 1) (d1 := 1) (c1 := 0) (n1 := 0) dX1_exchange_4 mvX1_35 rfl ⟨(Nat.le_of_ble_eq_true rfl), rfl⟩ (Nat.le_of_ble_eq_true rfl) (by exact Nat.le_of_ble_eq_true rfl) (by exact ha) ?_
  refine S_can1 ha hb hbk hd hdk hn hn12 hi hj (fun _ => ?_) (fun h9 => absurd hx h9)
  show Wp g mX1_exchange _ _ _ 7 _ (_ :: _) _ Q
  refine r_if_eq 43 dX1_exchange_7 rfl (fun hz => absurd hz (by decide)) (fun _ => ?_)
  refine r_iload_n dX1_exchange_10 rfl ?_
  refine r_if_ne 21 dX1_exchange_11 rfl (fun _ => ?_) (fun hz => absurd hz (by decide))
  refine r_aload_n dX1_exchange_21 rfl ?_
  refine r_getRc dX1_exchange_22 fgX1_15 rfl (by exact ha) (by exact hd) ?_
  refine sa_4 dX1_exchange_25 rfl (Nat.le_of_ble_eq_true rfl) ?_
  refine r_aload dX1_exchange_27 rfl ?_
  refine r_iload_n dX1_exchange_29 rfl ?_
  refine r_dup2 dX1_exchange_30 rfl rfl ?_
  refine r_ialoadn (i) (nI_cl i (by omega)) dX1_exchange_31 (by exact hdk) (vin (by omega) (by omega)) ?_
  refine r_iconst (1) dX1_exchange_32 rfl ?_
  refine r_isub dX1_exchange_33 ?_
  refine r_iastoren (i) (nI_cl i (by omega)) dX1_exchange_34 (by exact hdk) (vin (by omega) (by omega)) ?_
  refine r_aload dX1_exchange_35 rfl ?_
  refine r_iload_n dX1_exchange_37 rfl ?_
  refine r_dup2 dX1_exchange_38 rfl rfl ?_
  refine r_ialoadn (j) (nI_cl j (by omega)) dX1_exchange_39 (by exact hdk) (vin (by omega) (by omega)) ?_
  refine r_iconst (1) dX1_exchange_40 rfl ?_
  refine r_iadd dX1_exchange_41 ?_
  refine r_iastoren (j) (nI_cl j (by omega)) dX1_exchange_42 (by exact hdk) (vin (by omega) (by omega)) ?_
  refine r_return dX1_exchange_43 rfl ?_
  have e1 : ldI (stI m e i (ldI m e i - 1)) e j = ldI m e j := ld_n (fun q => hx.1 q.2.symm) rfl
  rw [e1]; exact k
theorem S_X7_put {g : GG} {m : MM} {Q : Out → Prop} {a c z n p : Nat} (ha : kdl m a = some (7, 0)) (hr : ldR m a 0 = c) (hc : kdl m c = some (16, z)) (hz : z < 1000) (hn : ldI m a 1 = nI n) (hnz : n < z) (hp : kdl m p = some (3, 0)) (hac : a ≠ c) (k : Q (.inl (some (.int (nI n))), stI (stR m c n p) a 1 (nI (n + 1)))) : Cl g 0 0 0 mX7_put [.ref a, .ref p] m Q := by
  refine Cl.of rfl (by decide) (Nat.le_of_ble_eq_true rfl) ?_
  show Wp g mX7_put 0 0 0 0 [.ref a, .ref p] [] m Q
  refine r_aload_n dX7_put_0 rfl ?_
  refine r_getI dX7_put_1 fgX7_15 rfl (by exact ha) ?_
  refine r_aload_n dX7_put_4 rfl ?_
  refine r_getRc dX7_put_5 fgX7_9 rfl (by exact ha) (by exact hr) ?_
  refine r_alen _ dX7_put_8 ⟨Nat.le_of_ble_eq_true rfl, Nat.le_of_ble_eq_true rfl⟩ (by exact hc) rfl ?_
  refine r_icmp_ge 32 dX7_put_9 rfl (fun h1 => ?_) (fun h1 => ?_)
  ·
    refine r_aload_n dX7_put_32 rfl ?_
    refine r_getI dX7_put_33 fgX7_15 rfl (by exact ha) ?_
    refine r_iconst (1) dX7_put_36 rfl ?_
    refine r_isub dX7_put_37 ?_
    refine r_ireturn dX7_put_38 rfl rfl ?_
    exact absurd h1 (by rw [hn]; exact nI_ge hnz (by omega))
  ·
    refine r_aload_n dX7_put_12 rfl ?_
    refine r_getRc dX7_put_13 fgX7_9 rfl (by exact ha) (by exact hr) ?_
    refine r_aload_n dX7_put_16 rfl ?_
    refine r_getI dX7_put_17 fgX7_15 rfl (by exact ha) ?_
    refine r_aload_n dX7_put_20 rfl ?_
    refine r_aastore dX7_put_21 (Or.inr (Or.inl ⟨rfl, rfl⟩)) (by exact hc) (by exact hp) (by rw [hn]; exact vin hnz (by omega)) ?_
    refine r_aload_n dX7_put_22 rfl ?_
    refine r_dup dX7_put_23 rfl ?_
    refine r_getI dX7_put_24 fgX7_15 rfl (by exact ha) ?_
    refine r_iconst (1) dX7_put_27 rfl ?_
    refine r_iadd dX7_put_28 ?_
    refine r_putI dX7_put_29 (fpX7_15 _ rfl) rfl (by exact ha) ⟨rfl, rfl⟩ ?_
    refine r_aload_n dX7_put_32 rfl ?_
    refine r_getI dX7_put_33 fgX7_15 rfl (by exact ha) ?_
    refine r_iconst (1) dX7_put_36 rfl ?_
    refine r_isub dX7_put_37 ?_
    refine r_ireturn dX7_put_38 rfl rfl ?_
    have e0 : (ldI m a 1).toNatClampNeg = n := by rw [hn]; exact nI_cl n (by omega)
    have e1 : ∀ k, ldI (stR m c k p) a 1 = nI n := fun _ => hn
    rw [e0, e1, nI_1, ld_s, nI_pred]; exact k
def hcM (m : MM) (a b e o p q : Nat) : MM := stRow (stRow (stI (stI m a 0 (ldI m o 0)) a 1 (ldI m o 1)) b (fun j => if j < 12 then ldI m p j else ldI m b j)) e (fun j => if j < 12 then ldI m q j else ldI m e j)
theorem S_X1_copyFrom {g : GG} {m : MM} {Q : Out → Prop} {a b e o p q : Nat} (ha : kdl m a = some (1, 0)) (hb : ldR m a 2 = b) (hbk : kdl m b = some (13, 12)) (hd : ldR m a 3 = e) (hdk : kdl m e = some (13, 12)) (ho : kdl m o = some (1, 0)) (hp : ldR m o 2 = p) (hpk : kdl m p = some (13, 12)) (hq : ldR m o 3 = q) (hqk : kdl m q = some (13, 12)) (hne : (o = a) = False ∧ (p = a) = False ∧ (b = a) = False ∧ (q = a) = False ∧ (q = b) = False ∧ (e = a) = False ∧ (e = b) = False) (k : Q (.inl none, hcM m a b e o p q)) : Cl g 4 0 0 mX1_copyFrom [.ref a, .ref o] m Q := by
  refine Cl.of rfl (by decide) (Nat.le_of_ble_eq_true rfl) ?_
  show Wp g mX1_copyFrom 4 0 0 0 [.ref a, .ref o] [] m Q
  refine r_aload_n dX1_copyFrom_0 rfl ?_
  refine r_aload_n dX1_copyFrom_1 rfl ?_
  refine r_getI dX1_copyFrom_2 fgX1_18 rfl (by exact ho) ?_
  refine r_putI dX1_copyFrom_5 (fpX1_18 _ rfl) rfl (by exact ha) ⟨rfl, rfl⟩ ?_
  refine r_aload_n dX1_copyFrom_8 rfl ?_
  refine r_aload_n dX1_copyFrom_9 rfl ?_
  refine r_getI dX1_copyFrom_10 fgX1_22 rfl (by exact ho) ?_
  refine r_putI dX1_copyFrom_13 (fpX1_22 _ rfl) rfl (by exact ha) ⟨rfl, rfl⟩ ?_
  refine r_aload_n dX1_copyFrom_16 rfl ?_
  refine r_getRc dX1_copyFrom_17 fgX1_9 rfl (by exact ho) (by exact hp) ?_
  refine r_iconst (0) dX1_copyFrom_20 rfl ?_
  refine r_aload_n dX1_copyFrom_21 rfl ?_
  refine r_getRc dX1_copyFrom_22 fgX1_9 rfl (by exact ha) (by exact hb) ?_
  refine r_iconst (0) dX1_copyFrom_25 rfl ?_
  refine r_bipush (12) dX1_copyFrom_26 rfl ?_
  refine r_acopy dX1_copyFrom_28 (acX1) ac_n ac_s ac_i (Nat.le_of_ble_eq_true rfl) (by exact Nat.le_of_ble_eq_true rfl) (by exact hpk) (by exact hbk) (by decide) (by decide) (by decide) (by decide) (by decide) ?_
  refine r_aload_n dX1_copyFrom_31 rfl ?_
  refine r_getRc dX1_copyFrom_32 fgX1_15 rfl (by exact ho) (by exact hq) ?_
  refine r_iconst (0) dX1_copyFrom_35 rfl ?_
  refine r_aload_n dX1_copyFrom_36 rfl ?_
  refine r_getRc dX1_copyFrom_37 fgX1_15 rfl (by exact ha) (by exact hd) ?_
  refine r_iconst (0) dX1_copyFrom_40 rfl ?_
  refine r_bipush (12) dX1_copyFrom_41 rfl ?_
  refine r_acopy dX1_copyFrom_43 (acX1) ac_n ac_s ac_i (Nat.le_of_ble_eq_true rfl) (by exact Nat.le_of_ble_eq_true rfl) (by exact hqk) (by exact hdk) (by decide) (by decide) (by decide) (by decide) (by decide) ?_
  refine r_return dX1_copyFrom_46 rfl ?_
  have e9 : (stRow (stRow (stI (stI m a 0 (ldI m o 0)) a 1 (ldI (stI m a 0 (ldI m o 0)) o 1)) b (va_cpy (ldI (stI (stI m a 0 (ldI m o 0)) a 1 (ldI (stI m a 0 (ldI m o 0)) o 1)) p) (ldI (stI (stI m a 0 (ldI m o 0)) a 1 (ldI (stI m a 0 (ldI m o 0)) o 1)) b) 0 0 12)) e (va_cpy (ldI (stRow (stI (stI m a 0 (ldI m o 0)) a 1 (ldI (stI m a 0 (ldI m o 0)) o 1)) b (va_cpy (ldI (stI (stI m a 0 (ldI m o 0)) a 1 (ldI (stI m a 0 (ldI m o 0)) o 1)) p) (ldI (stI (stI m a 0 (ldI m o 0)) a 1 (ldI (stI m a 0 (ldI m o 0)) o 1)) b) 0 0 12)) q) (ldI (stRow (stI (stI m a 0 (ldI m o 0)) a 1 (ldI (stI m a 0 (ldI m o 0)) o 1)) b (va_cpy (ldI (stI (stI m a 0 (ldI m o 0)) a 1 (ldI (stI m a 0 (ldI m o 0)) o 1)) p) (ldI (stI (stI m a 0 (ldI m o 0)) a 1 (ldI (stI m a 0 (ldI m o 0)) o 1)) b) 0 0 12)) e) 0 0 12)) = hcM m a b e o p q := by
    refine mm_extI (fun x y => ?_) rfl
    have z1 : ∀ t : Nat, (0 ≤ t ∧ t < 0 + 12) = (t < 12) := fun t => propext ⟨fun h => by omega, fun h => by omega⟩
    have z2 : ∀ t : Nat, 0 + (t - 0) = t := fun t => by omega
    simp only [hcM, va_cpy, ldI_stRow, ldI_stI, z1, z2, hne.1, hne.2.1, hne.2.2.1, hne.2.2.2.1, hne.2.2.2.2.1, hne.2.2.2.2.2.1, hne.2.2.2.2.2.2, false_and, if_false]
  exact Eq.mp (congrArg (fun z => Q (.inl none, z)) e9.symm) k
def runv (m : MM) (p : Int32) : Nat → Int32 := fun i => if i = 6 then p else ldI m 29 i
def adN (m : MM) (q : Nat) (v : Nat → Int32) : Nat → MM
  | 0 => m
  | i + 1 => stI (stI (adN m q v i) 31 (7 * q + i) (v i)) 30 1 (nI (7 * q + i + 1))
theorem adN_n {m : MM} {q : Nat} {v : Nat → Int32} (hq : ldI m 30 1 = nI (7 * q)) : ∀ i, ldI (adN m q v i) 30 1 = nI (7 * q + i)
  | 0 => hq
  | i + 1 => ld_s
theorem adN_h {m : MM} {q : Nat} {v : Nat → Int32} {k : Nat} : ∀ i, ldI (adN m q v i) 29 k = ldI m 29 k
  | 0 => rfl
  | i + 1 => ld_n (by omega) (ld_n (by omega) (adN_h i))
theorem adN_R (m : MM) (q : Nat) (v : Nat → Int32) : ∀ i, (adN m q v i).2 = m.2
  | 0 => rfl
  | i + 1 => adN_R m q v i
theorem adN_F {m : MM} {q : Nat} {v : Nat → Int32} (hF : Fx m) : ∀ i, Fx (adN m q v i)
  | 0 => hF
  | i + 1 => adN_F hF i
theorem Wp_s {g : GG} {μ : MD} {d c n pc : Nat} {ls st st' : List Value} {m : MM} {Q : Out → Prop} (h : st = st') (k : Wp g μ d c n pc ls st' m Q) : Wp g μ d c n pc ls st m Q := h ▸ k
theorem S_X10_addRun {g : GG} {m : MM} {Q : Out → Prop} (hF : Fx m) {q : Nat} (hq : ldI m 30 1 = nI (7 * q)) (hq60 : q ≤ 60) (hw : ldI m 29 4 = 0 ∨ ldI m 29 4 = 1) {p : Int32} (kf : q = 60 → Q (.inl (some (.int (-1))), m)) (k : q < 60 → Q (.inl (some (.int (nI q))), adN m q (runv m p) 7)) : Cl g 2 0 0 mX10_addRun [.ref 5, .int p] m Q := by
  refine Cl.of rfl (by decide) (Nat.le_of_ble_eq_true rfl) ?_
  show Wp g mX10_addRun 2 0 0 0 [.ref 5, .int p] [] m Q
  refine r_aload_n dX10_addRun_0 rfl ?_
  refine r_getRc dX10_addRun_1 fgX10_37 rfl (by exact k_5 (adN_F (q := q) (v := runv m p) hF 0)) (by exact r_5_5 (adN_F (q := q) (v := runv m p) hF 0)) ?_
  refine r_callV0 (ci := 5) (d1 := 0) (c1 := 0) (n1 := 0) dX10_addRun_4 mvX10_80 rfl ⟨(Nat.le_of_ble_eq_true rfl), rfl⟩ (Nat.le_of_ble_eq_true rfl) (by exact Nat.le_of_ble_eq_true rfl) (by exact k_30 (adN_F (q := q) (v := runv m p) hF 0)) ?_
  refine S_X5_isFull (a := 30) (c := 31) (z := 420) (n := 7 * q) (by exact k_30 hF) (by exact r_30_0 hF) (by exact k_31 hF) (by omega) (by exact hq) (by omega) (fun h1 => ?_) (fun h1 => ?_)
  ·
    show Wp g mX10_addRun _ _ _ 7 _ (_ :: _) _ Q
    refine r_if_eq 12 dX10_addRun_7 rfl (fun hz => absurd hz (by decide)) (fun _ => ?_)
    refine r_iconst (-1) dX10_addRun_10 rfl ?_
    refine r_ireturn dX10_addRun_11 rfl rfl ?_
    exact kf (by omega)
  ·
    show Wp g mX10_addRun _ _ _ 7 _ (_ :: _) _ Q
    refine r_if_eq 12 dX10_addRun_7 rfl (fun _ => ?_) (fun hz => absurd hz (by decide))
    refine r_aload_n dX10_addRun_12 rfl ?_
    refine r_getRc dX10_addRun_13 fgX10_37 rfl (by exact k_5 (adN_F (q := q) (v := runv m p) hF 0)) (by exact r_5_5 (adN_F (q := q) (v := runv m p) hF 0)) ?_
    refine r_aload_n dX10_addRun_16 rfl ?_
    refine r_getRc dX10_addRun_17 fgX10_33 rfl (by exact k_5 (adN_F (q := q) (v := runv m p) hF 0)) (by exact r_5_4 (adN_F (q := q) (v := runv m p) hF 0)) ?_
    refine r_getIc (runv m p 0) dX10_addRun_20 fgX10_95 rfl (by exact k_29 (adN_F (q := q) (v := runv m p) hF 0)) (by exact adN_h (q := q) (v := runv m p) (k := 0) 0) ?_
    refine r_callV1 (ci := 5) (d1 := 0) (c1 := 0) (n1 := 0) dX10_addRun_23 mvX10_84 rfl ⟨(Nat.le_of_ble_eq_true rfl), rfl⟩ (Nat.le_of_ble_eq_true rfl) (by exact Nat.le_of_ble_eq_true rfl) (by exact k_30 (adN_F (q := q) (v := runv m p) hF 0)) ?_
    refine S_X5_add (a := 30) (c := 31) (z := 420) (n := 7 * q + 0) (by exact k_30 (adN_F (q := q) (v := runv m p) hF 0)) (by exact r_30_0 (adN_F (q := q) (v := runv m p) hF 0)) (by exact k_31 (adN_F (q := q) (v := runv m p) hF 0)) (by omega) (by exact adN_n (v := runv m p) hq 0) (by omega) (by decide) (fun _ => ?_) (fun h9 => absurd h9 (by omega))
    show Wp g mX10_addRun _ _ _ 26 _ [] _ Q
    refine r_aload_n dX10_addRun_26 rfl ?_
    refine r_getRc dX10_addRun_27 fgX10_37 rfl (by exact k_5 (adN_F (q := q) (v := runv m p) hF 1)) (by exact r_5_5 (adN_F (q := q) (v := runv m p) hF 1)) ?_
    refine r_aload_n dX10_addRun_30 rfl ?_
    refine r_getRc dX10_addRun_31 fgX10_33 rfl (by exact k_5 (adN_F (q := q) (v := runv m p) hF 1)) (by exact r_5_4 (adN_F (q := q) (v := runv m p) hF 1)) ?_
    refine r_getIc (runv m p 1) dX10_addRun_34 fgX10_98 rfl (by exact k_29 (adN_F (q := q) (v := runv m p) hF 1)) (by exact adN_h (q := q) (v := runv m p) (k := 1) 1) ?_
    refine r_callV1 (ci := 5) (d1 := 0) (c1 := 0) (n1 := 0) dX10_addRun_37 mvX10_84 rfl ⟨(Nat.le_of_ble_eq_true rfl), rfl⟩ (Nat.le_of_ble_eq_true rfl) (by exact Nat.le_of_ble_eq_true rfl) (by exact k_30 (adN_F (q := q) (v := runv m p) hF 1)) ?_
    refine S_X5_add (a := 30) (c := 31) (z := 420) (n := 7 * q + 1) (by exact k_30 (adN_F (q := q) (v := runv m p) hF 1)) (by exact r_30_0 (adN_F (q := q) (v := runv m p) hF 1)) (by exact k_31 (adN_F (q := q) (v := runv m p) hF 1)) (by omega) (by exact adN_n (v := runv m p) hq 1) (by omega) (by decide) (fun _ => ?_) (fun h9 => absurd h9 (by omega))
    show Wp g mX10_addRun _ _ _ 40 _ [] _ Q
    refine r_aload_n dX10_addRun_40 rfl ?_
    refine r_getRc dX10_addRun_41 fgX10_37 rfl (by exact k_5 (adN_F (q := q) (v := runv m p) hF 2)) (by exact r_5_5 (adN_F (q := q) (v := runv m p) hF 2)) ?_
    refine r_aload_n dX10_addRun_44 rfl ?_
    refine r_getRc dX10_addRun_45 fgX10_33 rfl (by exact k_5 (adN_F (q := q) (v := runv m p) hF 2)) (by exact r_5_4 (adN_F (q := q) (v := runv m p) hF 2)) ?_
    refine r_getIc (runv m p 2) dX10_addRun_48 fgX10_101 rfl (by exact k_29 (adN_F (q := q) (v := runv m p) hF 2)) (by exact adN_h (q := q) (v := runv m p) (k := 2) 2) ?_
    refine r_callV1 (ci := 5) (d1 := 0) (c1 := 0) (n1 := 0) dX10_addRun_51 mvX10_84 rfl ⟨(Nat.le_of_ble_eq_true rfl), rfl⟩ (Nat.le_of_ble_eq_true rfl) (by exact Nat.le_of_ble_eq_true rfl) (by exact k_30 (adN_F (q := q) (v := runv m p) hF 2)) ?_
    refine S_X5_add (a := 30) (c := 31) (z := 420) (n := 7 * q + 2) (by exact k_30 (adN_F (q := q) (v := runv m p) hF 2)) (by exact r_30_0 (adN_F (q := q) (v := runv m p) hF 2)) (by exact k_31 (adN_F (q := q) (v := runv m p) hF 2)) (by omega) (by exact adN_n (v := runv m p) hq 2) (by omega) (by decide) (fun _ => ?_) (fun h9 => absurd h9 (by omega))
    show Wp g mX10_addRun _ _ _ 54 _ [] _ Q
    refine r_aload_n dX10_addRun_54 rfl ?_
    refine r_getRc dX10_addRun_55 fgX10_37 rfl (by exact k_5 (adN_F (q := q) (v := runv m p) hF 3)) (by exact r_5_5 (adN_F (q := q) (v := runv m p) hF 3)) ?_
    refine r_aload_n dX10_addRun_58 rfl ?_
    refine r_getRc dX10_addRun_59 fgX10_33 rfl (by exact k_5 (adN_F (q := q) (v := runv m p) hF 3)) (by exact r_5_4 (adN_F (q := q) (v := runv m p) hF 3)) ?_
    refine r_getIc (runv m p 3) dX10_addRun_62 fgX10_104 rfl (by exact k_29 (adN_F (q := q) (v := runv m p) hF 3)) (by exact adN_h (q := q) (v := runv m p) (k := 3) 3) ?_
    refine r_callV1 (ci := 5) (d1 := 0) (c1 := 0) (n1 := 0) dX10_addRun_65 mvX10_84 rfl ⟨(Nat.le_of_ble_eq_true rfl), rfl⟩ (Nat.le_of_ble_eq_true rfl) (by exact Nat.le_of_ble_eq_true rfl) (by exact k_30 (adN_F (q := q) (v := runv m p) hF 3)) ?_
    refine S_X5_add (a := 30) (c := 31) (z := 420) (n := 7 * q + 3) (by exact k_30 (adN_F (q := q) (v := runv m p) hF 3)) (by exact r_30_0 (adN_F (q := q) (v := runv m p) hF 3)) (by exact k_31 (adN_F (q := q) (v := runv m p) hF 3)) (by omega) (by exact adN_n (v := runv m p) hq 3) (by omega) (by decide) (fun _ => ?_) (fun h9 => absurd h9 (by omega))
    show Wp g mX10_addRun _ _ _ 68 _ [] _ Q
    refine r_aload_n dX10_addRun_68 rfl ?_
    refine r_getRc dX10_addRun_69 fgX10_37 rfl (by exact k_5 (adN_F (q := q) (v := runv m p) hF 4)) (by exact r_5_5 (adN_F (q := q) (v := runv m p) hF 4)) ?_
    refine r_aload_n dX10_addRun_72 rfl ?_
    refine r_getRc dX10_addRun_73 fgX10_33 rfl (by exact k_5 (adN_F (q := q) (v := runv m p) hF 4)) (by exact r_5_4 (adN_F (q := q) (v := runv m p) hF 4)) ?_
    refine r_getIc (runv m p 4) dX10_addRun_76 fgX10_107 rfl (by exact k_29 (adN_F (q := q) (v := runv m p) hF 4)) (by exact adN_h (q := q) (v := runv m p) (k := 4) 4) ?_
    refine r_if_eq 86 dX10_addRun_79 rfl (fun h2 => ?_) (fun h2 => ?_)
    ·
      refine r_iconst (0) dX10_addRun_86 rfl ?_
      refine Wp_s (st' := [.int (runv m p 4), .ref 30]) (by rw [show runv m p 4 = 0 from h2]) ?_
      refine r_callV1 (ci := 5) (d1 := 0) (c1 := 0) (n1 := 0) dX10_addRun_87 mvX10_84 rfl ⟨(Nat.le_of_ble_eq_true rfl), rfl⟩ (Nat.le_of_ble_eq_true rfl) (by exact Nat.le_of_ble_eq_true rfl) (by exact k_30 (adN_F (q := q) (v := runv m p) hF 4)) ?_
      refine S_X5_add (a := 30) (c := 31) (z := 420) (n := 7 * q + 4) (by exact k_30 (adN_F (q := q) (v := runv m p) hF 4)) (by exact r_30_0 (adN_F (q := q) (v := runv m p) hF 4)) (by exact k_31 (adN_F (q := q) (v := runv m p) hF 4)) (by omega) (by exact adN_n (v := runv m p) hq 4) (by omega) (by decide) (fun _ => ?_) (fun h9 => absurd h9 (by omega))
      show Wp g mX10_addRun _ _ _ 90 _ [] _ Q
      refine r_aload_n dX10_addRun_90 rfl ?_
      refine r_getRc dX10_addRun_91 fgX10_37 rfl (by exact k_5 (adN_F (q := q) (v := runv m p) hF 5)) (by exact r_5_5 (adN_F (q := q) (v := runv m p) hF 5)) ?_
      refine r_aload_n dX10_addRun_94 rfl ?_
      refine r_getRc dX10_addRun_95 fgX10_33 rfl (by exact k_5 (adN_F (q := q) (v := runv m p) hF 5)) (by exact r_5_4 (adN_F (q := q) (v := runv m p) hF 5)) ?_
      refine r_getIc (runv m p 5) dX10_addRun_98 fgX10_111 rfl (by exact k_29 (adN_F (q := q) (v := runv m p) hF 5)) (by exact adN_h (q := q) (v := runv m p) (k := 5) 5) ?_
      refine r_callV1 (ci := 5) (d1 := 0) (c1 := 0) (n1 := 0) dX10_addRun_101 mvX10_84 rfl ⟨(Nat.le_of_ble_eq_true rfl), rfl⟩ (Nat.le_of_ble_eq_true rfl) (by exact Nat.le_of_ble_eq_true rfl) (by exact k_30 (adN_F (q := q) (v := runv m p) hF 5)) ?_
      refine S_X5_add (a := 30) (c := 31) (z := 420) (n := 7 * q + 5) (by exact k_30 (adN_F (q := q) (v := runv m p) hF 5)) (by exact r_30_0 (adN_F (q := q) (v := runv m p) hF 5)) (by exact k_31 (adN_F (q := q) (v := runv m p) hF 5)) (by omega) (by exact adN_n (v := runv m p) hq 5) (by omega) (by decide) (fun _ => ?_) (fun h9 => absurd h9 (by omega))
      show Wp g mX10_addRun _ _ _ 104 _ [] _ Q
      refine r_aload_n dX10_addRun_104 rfl ?_
      refine r_getRc dX10_addRun_105 fgX10_37 rfl (by exact k_5 (adN_F (q := q) (v := runv m p) hF 6)) (by exact r_5_5 (adN_F (q := q) (v := runv m p) hF 6)) ?_
      refine r_iload_n dX10_addRun_108 rfl ?_
      refine r_callV1 (ci := 5) (d1 := 0) (c1 := 0) (n1 := 0) dX10_addRun_109 mvX10_84 rfl ⟨(Nat.le_of_ble_eq_true rfl), rfl⟩ (Nat.le_of_ble_eq_true rfl) (by exact Nat.le_of_ble_eq_true rfl) (by exact k_30 (adN_F (q := q) (v := runv m p) hF 6)) ?_
      refine S_X5_add (a := 30) (c := 31) (z := 420) (n := 7 * q + 6) (by exact k_30 (adN_F (q := q) (v := runv m p) hF 6)) (by exact r_30_0 (adN_F (q := q) (v := runv m p) hF 6)) (by exact k_31 (adN_F (q := q) (v := runv m p) hF 6)) (by omega) (by exact adN_n (v := runv m p) hq 6) (by omega) (by decide) (fun _ => ?_) (fun h9 => absurd h9 (by omega))
      show Wp g mX10_addRun _ _ _ 112 _ [] _ Q
      refine r_aload_n dX10_addRun_112 rfl ?_
      refine r_callV0 (ci := 10) (d1 := 1) (c1 := 0) (n1 := 0) dX10_addRun_113 mvX10_114 rfl ⟨(Nat.le_of_ble_eq_true rfl), rfl⟩ (Nat.le_of_ble_eq_true rfl) (by exact Nat.le_of_ble_eq_true rfl) (by exact k_5 (adN_F (q := q) (v := runv m p) hF 7)) ?_
      refine S_X10_runCount (m := adN m q (runv m p) 7) (q := q + 1) (adN_F hF 7) (adN_n (v := runv m p) hq 7) (by omega) ?_
      show Wp g mX10_addRun _ _ _ 116 _ (_ :: _) _ Q
      refine r_iconst (1) dX10_addRun_116 rfl ?_
      refine r_isub dX10_addRun_117 ?_
      refine r_ireturn dX10_addRun_118 rfl rfl ?_
      rw [nI_pred]; exact k (by omega)
    ·
      refine r_iconst (1) dX10_addRun_82 rfl ?_
      refine r_goto 87 dX10_addRun_83 rfl ?_
      refine Wp_s (st' := [.int (runv m p 4), .ref 30]) (by rw [show runv m p 4 = 1 from hw.resolve_left h2]) ?_
      refine r_callV1 (ci := 5) (d1 := 0) (c1 := 0) (n1 := 0) dX10_addRun_87 mvX10_84 rfl ⟨(Nat.le_of_ble_eq_true rfl), rfl⟩ (Nat.le_of_ble_eq_true rfl) (by exact Nat.le_of_ble_eq_true rfl) (by exact k_30 (adN_F (q := q) (v := runv m p) hF 4)) ?_
      refine S_X5_add (a := 30) (c := 31) (z := 420) (n := 7 * q + 4) (by exact k_30 (adN_F (q := q) (v := runv m p) hF 4)) (by exact r_30_0 (adN_F (q := q) (v := runv m p) hF 4)) (by exact k_31 (adN_F (q := q) (v := runv m p) hF 4)) (by omega) (by exact adN_n (v := runv m p) hq 4) (by omega) (by decide) (fun _ => ?_) (fun h9 => absurd h9 (by omega))
      show Wp g mX10_addRun _ _ _ 90 _ [] _ Q
      refine r_aload_n dX10_addRun_90 rfl ?_
      refine r_getRc dX10_addRun_91 fgX10_37 rfl (by exact k_5 (adN_F (q := q) (v := runv m p) hF 5)) (by exact r_5_5 (adN_F (q := q) (v := runv m p) hF 5)) ?_
      refine r_aload_n dX10_addRun_94 rfl ?_
      refine r_getRc dX10_addRun_95 fgX10_33 rfl (by exact k_5 (adN_F (q := q) (v := runv m p) hF 5)) (by exact r_5_4 (adN_F (q := q) (v := runv m p) hF 5)) ?_
      refine r_getIc (runv m p 5) dX10_addRun_98 fgX10_111 rfl (by exact k_29 (adN_F (q := q) (v := runv m p) hF 5)) (by exact adN_h (q := q) (v := runv m p) (k := 5) 5) ?_
      refine r_callV1 (ci := 5) (d1 := 0) (c1 := 0) (n1 := 0) dX10_addRun_101 mvX10_84 rfl ⟨(Nat.le_of_ble_eq_true rfl), rfl⟩ (Nat.le_of_ble_eq_true rfl) (by exact Nat.le_of_ble_eq_true rfl) (by exact k_30 (adN_F (q := q) (v := runv m p) hF 5)) ?_
      refine S_X5_add (a := 30) (c := 31) (z := 420) (n := 7 * q + 5) (by exact k_30 (adN_F (q := q) (v := runv m p) hF 5)) (by exact r_30_0 (adN_F (q := q) (v := runv m p) hF 5)) (by exact k_31 (adN_F (q := q) (v := runv m p) hF 5)) (by omega) (by exact adN_n (v := runv m p) hq 5) (by omega) (by decide) (fun _ => ?_) (fun h9 => absurd h9 (by omega))
      show Wp g mX10_addRun _ _ _ 104 _ [] _ Q
      refine r_aload_n dX10_addRun_104 rfl ?_
      refine r_getRc dX10_addRun_105 fgX10_37 rfl (by exact k_5 (adN_F (q := q) (v := runv m p) hF 6)) (by exact r_5_5 (adN_F (q := q) (v := runv m p) hF 6)) ?_
      refine r_iload_n dX10_addRun_108 rfl ?_
      refine r_callV1 (ci := 5) (d1 := 0) (c1 := 0) (n1 := 0) dX10_addRun_109 mvX10_84 rfl ⟨(Nat.le_of_ble_eq_true rfl), rfl⟩ (Nat.le_of_ble_eq_true rfl) (by exact Nat.le_of_ble_eq_true rfl) (by exact k_30 (adN_F (q := q) (v := runv m p) hF 6)) ?_
      refine S_X5_add (a := 30) (c := 31) (z := 420) (n := 7 * q + 6) (by exact k_30 (adN_F (q := q) (v := runv m p) hF 6)) (by exact r_30_0 (adN_F (q := q) (v := runv m p) hF 6)) (by exact k_31 (adN_F (q := q) (v := runv m p) hF 6)) (by omega) (by exact adN_n (v := runv m p) hq 6) (by omega) (by decide) (fun _ => ?_) (fun h9 => absurd h9 (by omega))
      show Wp g mX10_addRun _ _ _ 112 _ [] _ Q
      refine r_aload_n dX10_addRun_112 rfl ?_
      refine r_callV0 (ci := 10) (d1 := 1) (c1 := 0) (n1 := 0) dX10_addRun_113 mvX10_114 rfl ⟨(Nat.le_of_ble_eq_true rfl), rfl⟩ (Nat.le_of_ble_eq_true rfl) (by exact Nat.le_of_ble_eq_true rfl) (by exact k_5 (adN_F (q := q) (v := runv m p) hF 7)) ?_
      refine S_X10_runCount (m := adN m q (runv m p) 7) (q := q + 1) (adN_F hF 7) (adN_n (v := runv m p) hq 7) (by omega) ?_
      show Wp g mX10_addRun _ _ _ 116 _ (_ :: _) _ Q
      refine r_iconst (1) dX10_addRun_116 rfl ?_
      refine r_isub dX10_addRun_117 ?_
      refine r_ireturn dX10_addRun_118 rfl rfl ?_
      rw [nI_pred]; exact k (by omega)
theorem S_X10_fetchRun {g : GG} {m : MM} {Q : Out → Prop} (hF : Fx m) {q : Nat} (hq : ldI m 30 1 = nI (7 * q)) (hq60 : q ≤ 60) {r : Nat} (hr : r < q) (hw : ldI m 31 (7 * r + 4) = 0 ∨ ldI m 31 (7 * r + 4) = 1) (k : Q (.inl none, rDr (rPl m 165 (ldI m 31 (7 * r + 0)) (ldI m 31 (7 * r + 1)) (ldI m 31 (7 * r + 2)) (ldI m 31 (7 * r + 3))) 165 (ldI m 31 (7 * r + 4)) (ldI m 31 (7 * r + 5)))) : Cl g 2 0 0 mX10_fetchRun [.ref 5, .int (nI r), .ref 165] m Q := by
  refine Cl.of rfl (by decide) (Nat.le_of_ble_eq_true rfl) ?_
  show Wp g mX10_fetchRun 2 0 0 0 [.ref 5, .int (nI r), .ref 165] [] m Q
  refine r_aload_n dX10_fetchRun_0 rfl ?_
  refine r_aload_n dX10_fetchRun_1 rfl ?_
  refine r_iload_n dX10_fetchRun_2 rfl ?_
  refine r_iconst (0) dX10_fetchRun_3 rfl ?_
  refine r_callV2 (ci := 10) (d1 := 1) (c1 := 0) (n1 := 0) dX10_fetchRun_4 mvX10_117 rfl ⟨(Nat.le_of_ble_eq_true rfl), rfl⟩ (Nat.le_of_ble_eq_true rfl) (by exact Nat.le_of_ble_eq_true rfl) (by exact k_5 hF) ?_
  refine S_X10_runCell (q := q) (r := r) (w := 0) (by exact hF) (by exact hq) hq60 hr (by decide) ?_
  show Wp g mX10_fetchRun _ _ _ 7 _ (_ :: _) _ Q
  refine r_aload_n dX10_fetchRun_7 rfl ?_
  refine r_iload_n dX10_fetchRun_8 rfl ?_
  refine r_iconst (1) dX10_fetchRun_9 rfl ?_
  refine r_callV2 (ci := 10) (d1 := 1) (c1 := 0) (n1 := 0) dX10_fetchRun_10 mvX10_117 rfl ⟨(Nat.le_of_ble_eq_true rfl), rfl⟩ (Nat.le_of_ble_eq_true rfl) (by exact Nat.le_of_ble_eq_true rfl) (by exact k_5 hF) ?_
  refine S_X10_runCell (q := q) (r := r) (w := 1) (by exact hF) (by exact hq) hq60 hr (by decide) ?_
  show Wp g mX10_fetchRun _ _ _ 13 _ (_ :: _) _ Q
  refine r_aload_n dX10_fetchRun_13 rfl ?_
  refine r_iload_n dX10_fetchRun_14 rfl ?_
  refine r_iconst (2) dX10_fetchRun_15 rfl ?_
  refine r_callV2 (ci := 10) (d1 := 1) (c1 := 0) (n1 := 0) dX10_fetchRun_16 mvX10_117 rfl ⟨(Nat.le_of_ble_eq_true rfl), rfl⟩ (Nat.le_of_ble_eq_true rfl) (by exact Nat.le_of_ble_eq_true rfl) (by exact k_5 hF) ?_
  refine S_X10_runCell (q := q) (r := r) (w := 2) (by exact hF) (by exact hq) hq60 hr (by decide) ?_
  show Wp g mX10_fetchRun _ _ _ 19 _ (_ :: _) _ Q
  refine r_aload_n dX10_fetchRun_19 rfl ?_
  refine r_iload_n dX10_fetchRun_20 rfl ?_
  refine r_iconst (3) dX10_fetchRun_21 rfl ?_
  refine r_callV2 (ci := 10) (d1 := 1) (c1 := 0) (n1 := 0) dX10_fetchRun_22 mvX10_117 rfl ⟨(Nat.le_of_ble_eq_true rfl), rfl⟩ (Nat.le_of_ble_eq_true rfl) (by exact Nat.le_of_ble_eq_true rfl) (by exact k_5 hF) ?_
  refine S_X10_runCell (q := q) (r := r) (w := 3) (by exact hF) (by exact hq) hq60 hr (by decide) ?_
  show Wp g mX10_fetchRun _ _ _ 25 _ (_ :: _) _ Q
  refine r_callV4 (ci := 6) (d1 := 0) (c1 := 0) (n1 := 0) dX10_fetchRun_25 mvX10_121 rfl ⟨(Nat.le_of_ble_eq_true rfl), rfl⟩ (Nat.le_of_ble_eq_true rfl) (by exact Nat.le_of_ble_eq_true rfl) (by exact k_165 hF) ?_
  refine S_X6_place (by exact k_165 hF) ?_
  show Wp g mX10_fetchRun _ _ _ 28 _ [] _ Q
  refine r_aload_n dX10_fetchRun_28 rfl ?_
  refine r_aload_n dX10_fetchRun_29 rfl ?_
  refine r_iload_n dX10_fetchRun_30 rfl ?_
  refine r_iconst (4) dX10_fetchRun_31 rfl ?_
  refine r_callV2 (ci := 10) (d1 := 1) (c1 := 0) (n1 := 0) dX10_fetchRun_32 mvX10_117 rfl ⟨(Nat.le_of_ble_eq_true rfl), rfl⟩ (Nat.le_of_ble_eq_true rfl) (by exact Nat.le_of_ble_eq_true rfl) (by exact k_5 hF) ?_
  refine S_X10_runCell (q := q) (r := r) (w := 4) (by exact hF) (by exact hq) hq60 hr (by decide) ?_
  show Wp g mX10_fetchRun _ _ _ 35 _ (_ :: _) _ Q
  refine r_iconst (1) dX10_fetchRun_35 rfl ?_
  refine r_icmp_ne 43 dX10_fetchRun_36 rfl (fun h1 => ?_) (fun h1 => ?_)
  ·
    refine r_iconst (0) dX10_fetchRun_43 rfl ?_
    refine Wp_s (st' := [.int (ldI m 31 (7 * r + 4)), .ref 165]) (by rw [hw.resolve_right h1]; rfl) ?_
    refine r_aload_n dX10_fetchRun_44 rfl ?_
    refine r_iload_n dX10_fetchRun_45 rfl ?_
    refine r_iconst (5) dX10_fetchRun_46 rfl ?_
    refine r_callV2 (ci := 10) (d1 := 1) (c1 := 0) (n1 := 0) dX10_fetchRun_47 mvX10_117 rfl ⟨(Nat.le_of_ble_eq_true rfl), rfl⟩ (Nat.le_of_ble_eq_true rfl) (by exact Nat.le_of_ble_eq_true rfl) (by exact k_5 hF) ?_
    refine S_X10_runCell (q := q) (r := r) (w := 5) (by exact hF) (by exact hq) hq60 hr (by decide) ?_
    show Wp g mX10_fetchRun _ _ _ 50 _ (_ :: _) _ Q
    refine r_callV2 (ci := 6) (d1 := 0) (c1 := 0) (n1 := 0) dX10_fetchRun_50 mvX10_125 rfl ⟨(Nat.le_of_ble_eq_true rfl), rfl⟩ (Nat.le_of_ble_eq_true rfl) (by exact Nat.le_of_ble_eq_true rfl) (by exact k_165 hF) ?_
    refine S_X6_dress (by exact k_165 hF) hw ?_
    show Wp g mX10_fetchRun _ _ _ 53 _ [] _ Q
    refine r_return dX10_fetchRun_53 rfl ?_
    exact k
  ·
    refine r_iconst (1) dX10_fetchRun_39 rfl ?_
    refine r_goto 44 dX10_fetchRun_40 rfl ?_
    refine Wp_s (st' := [.int (ldI m 31 (7 * r + 4)), .ref 165]) (by rw [show ldI m 31 (7 * r + 4) = 1 from h1]; rfl) ?_
    refine r_aload_n dX10_fetchRun_44 rfl ?_
    refine r_iload_n dX10_fetchRun_45 rfl ?_
    refine r_iconst (5) dX10_fetchRun_46 rfl ?_
    refine r_callV2 (ci := 10) (d1 := 1) (c1 := 0) (n1 := 0) dX10_fetchRun_47 mvX10_117 rfl ⟨(Nat.le_of_ble_eq_true rfl), rfl⟩ (Nat.le_of_ble_eq_true rfl) (by exact Nat.le_of_ble_eq_true rfl) (by exact k_5 hF) ?_
    refine S_X10_runCell (q := q) (r := r) (w := 5) (by exact hF) (by exact hq) hq60 hr (by decide) ?_
    show Wp g mX10_fetchRun _ _ _ 50 _ (_ :: _) _ Q
    refine r_callV2 (ci := 6) (d1 := 0) (c1 := 0) (n1 := 0) dX10_fetchRun_50 mvX10_125 rfl ⟨(Nat.le_of_ble_eq_true rfl), rfl⟩ (Nat.le_of_ble_eq_true rfl) (by exact Nat.le_of_ble_eq_true rfl) (by exact k_165 hF) ?_
    refine S_X6_dress (by exact k_165 hF) hw ?_
    show Wp g mX10_fetchRun _ _ _ 53 _ [] _ Q
    refine r_return dX10_fetchRun_53 rfl ?_
    exact k
