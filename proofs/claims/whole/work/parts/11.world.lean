section AC
variable {g : GG} {μ : MD} {d c n pc : Nat} {ls st : List Value} {m : MM} {Q : Out → Prop}
theorem r_aaloadc {a l q b : Nat} {i : Int32} (hd : decode μ.2.1 pc = .ok (.aaload, 1)) (hq0 : 14 < q ∧ q < 19) (ha : kdl m a = some (q, l)) (hi : vp_in i l) (hv : ldR m a i.toNatClampNeg = b) (kk : Wp g μ d c n (pc + 1) ls (.ref b :: st) m Q) : Wp g μ d c n pc ls (.int i :: .ref a :: st) m Q := by
  subst hv; exact r_aaload hd hq0 ha hi kk
end AC
theorem S_X10_hullAt {g : GG} {m : MM} {Q : Out → Prop} (hF : Fx m) {n : Nat} (hn : ldI m 5 1 = nI n) (hn6 : n ≤ 6) {x : Int32} (k1 : ∀ j, x = nI j → j < n → Q (.inl (some (.ref (7 + 3 * j))), m)) (k0 : (x < 0 ∨ nI n ≤ x) → Q (.inl (some (.ref 0)), m)) : Cl g 0 0 0 mX10_hullAt [.ref 5, .int x] m Q := by
  refine Cl.of rfl (by decide) (Nat.le_of_ble_eq_true rfl) ?_
  show Wp g mX10_hullAt 0 0 0 0 [.ref 5, .int x, .retAddr 0] [] m Q
  refine r_iload_n dX10_hullAt_0 rfl ?_
  refine r_if_lt 25 dX10_hullAt_1 rfl (fun h1 => ?_) (fun h1 => ?_)
  ·
    refine r_iconst (0) dX10_hullAt_25 rfl ?_
    refine si_2 dX10_hullAt_26 rfl (Nat.le_of_ble_eq_true rfl) ?_
    refine r_iload_n dX10_hullAt_27 rfl ?_
    refine r_if_eq 40 dX10_hullAt_28 rfl (fun _ => ?_) (fun hz => absurd hz (by decide))
    refine r_null dX10_hullAt_40 ?_
    refine r_areturn dX10_hullAt_41 rfl rfl ?_
    first | exact k0 (Or.inl h1) | exact k0 (Or.inr (by rw [← hn]; exact h2)) | exact k0 (Or.inr (Int32.le_trans (nI_le hn6 (by omega)) h3)) | exact k1 j rfl hj
  ·
    refine r_iload_n dX10_hullAt_4 rfl ?_
    refine r_aload_n dX10_hullAt_5 rfl ?_
    refine r_getI dX10_hullAt_6 fgX10_64 rfl (by exact k_5 hF) ?_
    refine r_icmp_ge 25 dX10_hullAt_9 rfl (fun h2 => ?_) (fun h2 => ?_)
    ·
      refine r_iconst (0) dX10_hullAt_25 rfl ?_
      refine si_2 dX10_hullAt_26 rfl (Nat.le_of_ble_eq_true rfl) ?_
      refine r_iload_n dX10_hullAt_27 rfl ?_
      refine r_if_eq 40 dX10_hullAt_28 rfl (fun _ => ?_) (fun hz => absurd hz (by decide))
      refine r_null dX10_hullAt_40 ?_
      refine r_areturn dX10_hullAt_41 rfl rfl ?_
      first | exact k0 (Or.inl h1) | exact k0 (Or.inr (by rw [← hn]; exact h2)) | exact k0 (Or.inr (Int32.le_trans (nI_le hn6 (by omega)) h3)) | exact k1 j rfl hj
    ·
      refine r_iload_n dX10_hullAt_12 rfl ?_
      refine r_aload_n dX10_hullAt_13 rfl ?_
      refine r_getRc dX10_hullAt_14 fgX10_11 rfl (by exact k_5 hF) (by exact r_5_0 hF) ?_
      refine r_alen _ dX10_hullAt_17 ⟨Nat.le_of_ble_eq_true rfl, Nat.le_of_ble_eq_true rfl⟩ (by exact k_6 hF) rfl ?_
      refine r_icmp_ge 25 dX10_hullAt_18 rfl (fun h3 => ?_) (fun h3 => ?_)
      ·
        refine r_iconst (0) dX10_hullAt_25 rfl ?_
        refine si_2 dX10_hullAt_26 rfl (Nat.le_of_ble_eq_true rfl) ?_
        refine r_iload_n dX10_hullAt_27 rfl ?_
        refine r_if_eq 40 dX10_hullAt_28 rfl (fun _ => ?_) (fun hz => absurd hz (by decide))
        refine r_null dX10_hullAt_40 ?_
        refine r_areturn dX10_hullAt_41 rfl rfl ?_
        first | exact k0 (Or.inl h1) | exact k0 (Or.inr (by rw [← hn]; exact h2)) | exact k0 (Or.inr (Int32.le_trans (nI_le hn6 (by omega)) h3)) | exact k1 j rfl hj
      ·
        obtain ⟨j, rfl, hj⟩ := vin_of h1 (by rw [← hn]; exact h2) (by omega)
        refine r_iconst (1) dX10_hullAt_21 rfl ?_
        refine r_goto 26 dX10_hullAt_22 rfl ?_
        refine si_2 dX10_hullAt_26 rfl (Nat.le_of_ble_eq_true rfl) ?_
        refine r_iload_n dX10_hullAt_27 rfl ?_
        refine r_if_eq 40 dX10_hullAt_28 rfl (fun hz => absurd hz (by decide)) (fun _ => ?_)
        refine r_aload_n dX10_hullAt_31 rfl ?_
        refine r_getRc dX10_hullAt_32 fgX10_11 rfl (by exact k_5 hF) (by exact r_5_0 hF) ?_
        refine r_iload_n dX10_hullAt_35 rfl ?_
        refine r_aaloadc (b := 7 + 3 * j) dX10_hullAt_36 ⟨Nat.le_of_ble_eq_true rfl, Nat.le_of_ble_eq_true rfl⟩ (by exact k_6 hF) (vin (by omega) (by omega)) (by rw [nI_cl j (by omega)]; exact hu0_r hF (by omega)) ?_
        refine r_goto 41 dX10_hullAt_37 rfl ?_
        refine r_areturn dX10_hullAt_41 rfl rfl ?_
        first | exact k0 (Or.inl h1) | exact k0 (Or.inr (by rw [← hn]; exact h2)) | exact k0 (Or.inr (Int32.le_trans (nI_le hn6 (by omega)) h3)) | exact k1 j rfl hj
def adH (m : MM) (n : Nat) (x y : Int32) : MM := stI (fiR (fiR (stI (stI m (7 + 3 * n) 0 x) (7 + 3 * n) 1 y) (8 + 3 * n) 12 10) (9 + 3 * n) 12 5) 5 1 (nI (n + 1))
theorem S_X10_addHull {g : GG} {m : MM} {Q : Out → Prop} (hF : Fx m) {n : Nat} (hn : ldI m 5 1 = nI n) (hn6 : n ≤ 6) {x y : Int32} (k6 : n = 6 → Q (.inl (some (.int (-1))), m)) (k : n < 6 → Q (.inl (some (.int (nI n))), adH m n x y)) : Cl g 2 0 0 mX10_addHull [.ref 5, .int x, .int y] m Q := by
  refine Cl.of rfl (by decide) (Nat.le_of_ble_eq_true rfl) ?_
  show Wp g mX10_addHull 2 0 0 0 [.ref 5, .int x, .int y] [] m Q
  refine r_aload_n dX10_addHull_0 rfl ?_
  refine r_getI dX10_addHull_1 fgX10_64 rfl (by exact k_5 hF) ?_
  refine r_aload_n dX10_addHull_4 rfl ?_
  refine r_getRc dX10_addHull_5 fgX10_11 rfl (by exact k_5 hF) (by exact r_5_0 hF) ?_
  refine r_alen _ dX10_addHull_8 ⟨Nat.le_of_ble_eq_true rfl, Nat.le_of_ble_eq_true rfl⟩ (by exact k_6 hF) rfl ?_
  refine r_icmp_lt 14 dX10_addHull_9 rfl (fun h1 => ?_) (fun h1 => ?_)
  ·
    have hlt : n < 6 := Nat.not_le.mp fun q => nI_nlt q (by omega) (by rw [← hn]; exact h1)
    refine r_aload_n dX10_addHull_14 rfl ?_
    refine r_getRc dX10_addHull_15 fgX10_11 rfl (by exact k_5 hF) (by exact r_5_0 hF) ?_
    refine r_aload_n dX10_addHull_18 rfl ?_
    refine r_getI dX10_addHull_19 fgX10_64 rfl (by exact k_5 hF) ?_
    refine r_aaloadc (b := 7 + 3 * n) dX10_addHull_22 ⟨Nat.le_of_ble_eq_true rfl, Nat.le_of_ble_eq_true rfl⟩ (by exact k_6 hF) (by rw [hn]; exact vin hlt (by omega)) (by rw [hn, nI_cl n (by omega)]; exact hu0_r hF (by omega)) ?_
    refine r_iload_n dX10_addHull_23 rfl ?_
    refine r_iload_n dX10_addHull_24 rfl ?_
    refine r_callV2 (ci := 1) (d1 := 1) (c1 := 0) (n1 := 0) dX10_addHull_25 mvX10_76 rfl ⟨(Nat.le_of_ble_eq_true rfl), rfl⟩ (Nat.le_of_ble_eq_true rfl) (by exact Nat.le_of_ble_eq_true rfl) (by exact hu0_k hF (i := n) (by omega)) ?_
    refine S_X1_lay (n := 0) (b := 8 + 3 * n) (e := 9 + 3 * n) (by exact hu0_k hF (by omega)) (by exact hb0_r hF (by omega)) (by exact hb0_k hF (by omega)) (by exact hd0_r hF (by omega)) (by exact hd0_k hF (by omega)) ?_
    show Wp g mX10_addHull _ _ _ 28 _ [] _ Q
    refine r_aload_n dX10_addHull_28 rfl ?_
    refine r_dup dX10_addHull_29 rfl ?_
    refine r_getI dX10_addHull_30 fgX10_64 rfl (by exact k_5 hF) ?_
    refine r_iconst (1) dX10_addHull_33 rfl ?_
    refine r_iadd dX10_addHull_34 ?_
    refine r_putI dX10_addHull_35 (fpX10_64 _ rfl) rfl (by exact k_5 hF) ⟨rfl, rfl⟩ ?_
    refine r_aload_n dX10_addHull_38 rfl ?_
    refine r_getI dX10_addHull_39 fgX10_64 rfl (by exact k_5 hF) ?_
    refine r_iconst (1) dX10_addHull_42 rfl ?_
    refine r_isub dX10_addHull_43 ?_
    refine r_ireturn dX10_addHull_44 rfl rfl ?_
    have e1 : ldI (fiR (fiR (stI (stI m (7 + 3 * n) 0 x) (7 + 3 * n) 1 y) (8 + 3 * n) 12 10) (9 + 3 * n) 12 5) 5 1 = nI n := by simp only [fiR, ldI_stRow, ldI_stI]; rw [if_neg (by omega), if_neg (by omega), if_neg (by omega), if_neg (by omega)]; exact hn
    have k9 := k hlt
    rw [e1, nI_1, ldI_stI, if_pos ⟨rfl, rfl⟩, nI_pred]
    exact k9
  ·
    refine r_iconst (-1) dX10_addHull_12 rfl ?_
    refine r_ireturn dX10_addHull_13 rfl rfl ?_
    exact k6 (Nat.le_antisymm hn6 (Nat.not_lt.mp fun q => h1 (by rw [hn]; exact nI_lt q (by omega))))
def adT (m : MM) (n : Nat) (x y : Int32) : MM := stI (stI (stI (stI m 26 n x) 25 1 (nI (n + 1))) 28 n y) 27 1 (nI (n + 1))
theorem S_X10_addTank {g : GG} {m : MM} {Q : Out → Prop} (hF : Fx m) {n : Nat} (hn : ldI m 25 1 = nI n) (hn2 : ldI m 27 1 = nI n) (hn4 : n ≤ 4) {x y : Int32} (k4 : n = 4 → Q (.inl (some (.int (-1))), m)) (k : n < 4 → Q (.inl (some (.int (nI n))), adT m n x y)) : Cl g 1 0 0 mX10_addTank [.ref 5, .int x, .int y] m Q := by
  refine Cl.of rfl (by decide) (Nat.le_of_ble_eq_true rfl) ?_
  show Wp g mX10_addTank 1 0 0 0 [.ref 5, .int x, .int y] [] m Q
  refine r_aload_n dX10_addTank_0 rfl ?_
  refine r_getRc dX10_addTank_1 fgX10_23 rfl (by exact k_5 hF) (by exact r_5_2 hF) ?_
  refine r_callV0 (ci := 5) (d1 := 0) (c1 := 0) (n1 := 0) dX10_addTank_4 mvX10_80 rfl ⟨(Nat.le_of_ble_eq_true rfl), rfl⟩ (Nat.le_of_ble_eq_true rfl) (by exact Nat.le_of_ble_eq_true rfl) (by exact k_25 hF) ?_
  refine S_X5_isFull (a := 25) (c := 26) (z := 4) (n := n) (by exact k_25 hF) (by exact r_25_0 hF) (by exact k_26 hF) (by omega) (by exact hn) hn4 (fun h1 => ?_) (fun h1 => ?_)
  ·
    show Wp g mX10_addTank _ _ _ 7 _ (_ :: _) _ Q
    refine r_if_eq 12 dX10_addTank_7 rfl (fun hz => absurd hz (by decide)) (fun _ => ?_)
    refine r_iconst (-1) dX10_addTank_10 rfl ?_
    refine r_ireturn dX10_addTank_11 rfl rfl ?_
    exact k4 h1
  ·
    show Wp g mX10_addTank _ _ _ 7 _ (_ :: _) _ Q
    refine r_if_eq 12 dX10_addTank_7 rfl (fun _ => ?_) (fun hz => absurd hz (by decide))
    refine r_aload_n dX10_addTank_12 rfl ?_
    refine r_getRc dX10_addTank_13 fgX10_23 rfl (by exact k_5 hF) (by exact r_5_2 hF) ?_
    refine r_iload_n dX10_addTank_16 rfl ?_
    refine r_callV1 (ci := 5) (d1 := 0) (c1 := 0) (n1 := 0) dX10_addTank_17 mvX10_84 rfl ⟨(Nat.le_of_ble_eq_true rfl), rfl⟩ (Nat.le_of_ble_eq_true rfl) (by exact Nat.le_of_ble_eq_true rfl) (by exact k_25 hF) ?_
    refine S_X5_add (a := 25) (c := 26) (z := 4) (n := n) (by exact k_25 hF) (by exact r_25_0 hF) (by exact k_26 hF) (by omega) (by exact hn) hn4 (by decide) (fun _ => ?_) (fun h9 => absurd h9 (by omega))
    show Wp g mX10_addTank _ _ _ 20 _ [] _ Q
    refine r_aload_n dX10_addTank_20 rfl ?_
    refine r_getRc dX10_addTank_21 fgX10_27 rfl (by exact k_5 hF) (by exact r_5_3 hF) ?_
    refine r_iload_n dX10_addTank_24 rfl ?_
    refine r_callV1 (ci := 5) (d1 := 0) (c1 := 0) (n1 := 0) dX10_addTank_25 mvX10_84 rfl ⟨(Nat.le_of_ble_eq_true rfl), rfl⟩ (Nat.le_of_ble_eq_true rfl) (by exact Nat.le_of_ble_eq_true rfl) (by exact k_27 hF) ?_
    refine S_X5_add (a := 27) (c := 28) (z := 4) (n := n) (by exact k_27 hF) (by exact r_27_0 hF) (by exact k_28 hF) (by omega) (by exact (show ldI (stI (stI m 26 n x) 25 1 (nI (n + 1))) 27 1 = nI n by simp only [ldI_stI]; rw [if_neg (by decide), if_neg (by omega)]; exact hn2)) hn4 (by decide) (fun _ => ?_) (fun h9 => absurd h9 (by omega))
    show Wp g mX10_addTank _ _ _ 28 _ [] _ Q
    refine r_aload_n dX10_addTank_28 rfl ?_
    refine r_getRc dX10_addTank_29 fgX10_23 rfl (by exact k_5 hF) (by exact r_5_2 hF) ?_
    refine r_callV0 (ci := 5) (d1 := 0) (c1 := 0) (n1 := 0) dX10_addTank_32 mvX10_87 rfl ⟨(Nat.le_of_ble_eq_true rfl), rfl⟩ (Nat.le_of_ble_eq_true rfl) (by exact Nat.le_of_ble_eq_true rfl) (by exact k_25 hF) ?_
    refine S_X5_filled (by exact k_25 hF) ?_
    show Wp g mX10_addTank _ _ _ 35 _ (_ :: _) _ Q
    refine r_iconst (1) dX10_addTank_35 rfl ?_
    refine r_isub dX10_addTank_36 ?_
    refine r_ireturn dX10_addTank_37 rfl rfl ?_
    have e1 : ldI (adT m n x y) 25 1 = nI (n + 1) := by simp [adT, ldI_stI]
    have k9 := k h1
    rw [show ldI (stI (stI (stI (stI m 26 n x) 25 1 (nI (n + 1))) 28 n y) 27 1 (nI (n + 1))) 25 1 = nI (n + 1) from e1, nI_pred]
    exact k9
theorem S_X10_runCount {g : GG} {m : MM} {Q : Out → Prop} (hF : Fx m) {q : Nat} (hq : ldI m 30 1 = nI (7 * q)) (hq60 : q ≤ 60) (k : Q (.inl (some (.int (nI q))), m)) : Cl g 1 0 0 mX10_runCount [.ref 5] m Q := by
  refine Cl.of rfl (by decide) (Nat.le_of_ble_eq_true rfl) ?_
  show Wp g mX10_runCount 1 0 0 0 [.ref 5] [] m Q
  refine r_aload_n dX10_runCount_0 rfl ?_
  refine r_getRc dX10_runCount_1 fgX10_37 rfl (by exact k_5 hF) (by exact r_5_5 hF) ?_
  refine r_callV0 (ci := 5) (d1 := 0) (c1 := 0) (n1 := 0) dX10_runCount_4 mvX10_87 rfl ⟨(Nat.le_of_ble_eq_true rfl), rfl⟩ (Nat.le_of_ble_eq_true rfl) (by exact Nat.le_of_ble_eq_true rfl) (by exact k_30 hF) ?_
  refine S_X5_filled (by exact k_30 hF) ?_
  show Wp g mX10_runCount _ _ _ 7 _ (_ :: _) _ Q
  refine r_bipush (7) dX10_runCount_7 rfl ?_
  refine r_idiv dX10_runCount_9 (by decide) ?_
  refine r_ireturn dX10_runCount_10 rfl rfl ?_
  have e1 : ldI m 30 1 / 7 = nI q := by rw [hq, show (7 : Int32) = nI 7 from rfl, pk_div (by omega) (by omega) (by omega), Nat.mul_div_cancel_left _ (by omega)]
  rw [e1]; exact k
theorem S_X10_runCell {g : GG} {m : MM} {Q : Out → Prop} (hF : Fx m) {q : Nat} (hq : ldI m 30 1 = nI (7 * q)) (hq60 : q ≤ 60) {r w : Nat} (hr : r < q) (hw : w < 7) (k : Q (.inl (some (.int (ldI m 31 (7 * r + w)))), m)) : Cl g 1 0 0 mX10_runCell [.ref 5, .int (nI r), .int (nI w)] m Q := by
  refine Cl.of rfl (by decide) (Nat.le_of_ble_eq_true rfl) ?_
  show Wp g mX10_runCell 1 0 0 0 [.ref 5, .int (nI r), .int (nI w)] [] m Q
  have e1 : nI r * 7 + nI w = nI (7 * r + w) := by rw [show (7 : Int32) = nI 7 from rfl, pk_mul, nI_add, Nat.mul_comm]
  refine r_aload_n dX10_runCell_0 rfl ?_
  refine r_getRc dX10_runCell_1 fgX10_37 rfl (by exact k_5 hF) (by exact r_5_5 hF) ?_
  refine r_iload_n dX10_runCell_4 rfl ?_
  refine r_bipush (7) dX10_runCell_5 rfl ?_
  refine r_imul dX10_runCell_7 ?_
  refine r_iload_n dX10_runCell_8 rfl ?_
  refine r_iadd dX10_runCell_9 ?_
  refine r_callV1 (ci := 5) (d1 := 0) (c1 := 0) (n1 := 0) dX10_runCell_10 mvX10_91 rfl ⟨(Nat.le_of_ble_eq_true rfl), rfl⟩ (Nat.le_of_ble_eq_true rfl) (by exact Nat.le_of_ble_eq_true rfl) (by exact k_30 hF) ?_
  refine S_X5_at (a := 30) (c := 31) (z := 420) (n := 7 * q) (by exact k_30 hF) (by exact r_30_0 hF) (by exact k_31 hF) (by omega) hq (by omega) (fun j hj hjn => ?_) (fun h9 => ?_)
  ·
    show Wp g mX10_runCell _ _ _ 13 _ (_ :: _) _ Q
    refine r_ireturn dX10_runCell_13 rfl rfl ?_
    rw [e1] at hj
    obtain rfl := (nI_eq (by omega) (by omega)).mp hj
    exact k
  ·
    exact absurd h9 (by rw [e1]; exact fun h => h.elim (nI_pos (by omega)) (nI_ge (by omega) (by omega)))
theorem S_X10_drawOf {g : GG} {m : MM} {Q : Out → Prop} (hF : Fx m) {x : Int32} (k : ¬ x ≤ 0 → Q (.inl (some (.int ((((ldI m 5 10 * 1103515245 + 12345).toUInt32 >>> ((16 : Int32).toUInt32 &&& Int32.toUInt32 31)).toInt32 &&& 32767) - (((ldI m 5 10 * 1103515245 + 12345).toUInt32 >>> ((16 : Int32).toUInt32 &&& Int32.toUInt32 31)).toInt32 &&& 32767) / x * x))), stI m 5 10 (ldI m 5 10 * 1103515245 + 12345))) (k0 : x ≤ 0 → Q (.inl (some (.int 0)), stI m 5 10 (ldI m 5 10 * 1103515245 + 12345))) : Cl g 0 0 0 mX10_drawOf [.ref 5, .int x] m Q := by
  refine Cl.of rfl (by decide) (Nat.le_of_ble_eq_true rfl) ?_
  show Wp g mX10_drawOf 0 0 0 0 [.ref 5, .int x] [] m Q
  refine r_aload_n dX10_drawOf_0 rfl ?_
  refine r_aload_n dX10_drawOf_1 rfl ?_
  refine r_getI dX10_drawOf_2 fgX10_56 rfl (by exact k_5 hF) ?_
  refine r_ldc (1103515245) dX10_drawOf_5 ctX10_129 ?_
  refine r_imul dX10_drawOf_7 ?_
  refine r_sipush (12345) dX10_drawOf_8 rfl ?_
  refine r_iadd dX10_drawOf_11 ?_
  refine r_putI dX10_drawOf_12 (fpX10_56 _ rfl) rfl (by exact k_5 hF) ⟨rfl, rfl⟩ ?_
  refine r_iload_n dX10_drawOf_15 rfl ?_
  refine r_if_le 35 dX10_drawOf_16 rfl (fun h1 => ?_) (fun h1 => ?_)
  ·
    refine r_iconst (0) dX10_drawOf_35 rfl ?_
    refine r_ireturn dX10_drawOf_36 rfl rfl ?_
    first | exact k0 h1 | exact k h1
  ·
    refine r_aload_n dX10_drawOf_19 rfl ?_
    refine r_getI dX10_drawOf_20 fgX10_56 rfl (by exact k_5 hF) ?_
    refine r_bipush (16) dX10_drawOf_23 rfl ?_
    refine r_iushr dX10_drawOf_25 ?_
    refine r_sipush (32767) dX10_drawOf_26 rfl ?_
    refine r_iand dX10_drawOf_29 ?_
    refine r_iload_n dX10_drawOf_30 rfl ?_
    refine r_irem dX10_drawOf_31 (fun h => h1 (by rw [h]; decide)) ?_
    refine r_goto 36 dX10_drawOf_32 rfl ?_
    refine r_ireturn dX10_drawOf_36 rfl rfl ?_
    first | exact k0 h1 | exact k h1
