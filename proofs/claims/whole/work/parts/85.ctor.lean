/-! CONSTRUCTORS -/
theorem w_ls {g : GG} {μ : MD} {d c n pc : Nat} {ls ls' st : List Value} {m : MM} {Q : Out → Prop} (h : ls = ls') (kk : Wp g μ d c n pc ls' st m Q) : Wp g μ d c n pc ls st m Q := h ▸ kk
def qX5_S1_4 : List (Nat × Nat) := [(5, 0), (13, 4)]
def qX5_R2_4 (b : Nat) : List (List Nat) := [[0, 0], []]
def qX5_I3_4 : List (List Int32) := [[0, 0], []]
def qX5_R4_4 (b : Nat) : List (List Nat) := [[b + 1, 0], []]
def fX5_4_S : List (Nat × Nat) := qX5_S1_4
def fX5_4_R (b : Nat) : List (List Nat) := (qX5_R4_4 b)
def fX5_4_I : List (List Int32) := qX5_I3_4
set_option maxHeartbeats 4000000 in
theorem C_X5_4 {g : GG} {m : MM} {Q : Out → Prop} {b : Nat} (hn : nx m = b) (k : Q (.inl none, ap m fX5_4_S (fX5_4_R b) fX5_4_I)) : Cl g 1 1 4 mX5_init [.ref b, .int 4] (ap m [(5, 0)] [List.replicate 2 0] [List.replicate 2 0]) Q := by
  have h4 : 4 ≤ b := by rw [← hn]; unfold nx; omega
  refine Cl.of rfl (by decide) (Nat.le_of_ble_eq_true rfl) ?_
  show Wp g mX5_init 1 1 4 0 [.ref (b), .int (4)] [] _ Q
  refine r_aload_n dX5_init_0 rfl ?_
  refine r_objinit dX5_init_1 oiX5_1 oi_i oi_c (by omega) (Nat.le_of_ble_eq_true rfl) (by exact Nat.le_of_ble_eq_true rfl) ?_
  refine r_aload_n dX5_init_4 rfl ?_
  refine r_iload_n dX5_init_5 rfl ?_
  refine r_if_le 13 dX5_init_6 rfl (fun hz => absurd hz (by decide)) (fun _ => ?_)
  refine r_iload_n dX5_init_9 rfl ?_
  refine r_goto 14 dX5_init_10 rfl ?_
  refine a_newI 4 ⟨rfl, rfl⟩ dX5_init_14 (by decide) (by decide) (by decide) 0 hn (S' := qX5_S1_4) (R' := (qX5_R2_4 b)) (I' := qX5_I3_4) rfl rfl rfl (a := b + 1) rfl ?_
  refine a_putR (i := 0) (l := 0) dX5_init_16 (fpX5_7 _ rfl rfl) rfl hn rfl rfl (by exact Nat.le_of_ble_eq_true rfl) (by exact Nat.le_of_ble_eq_true rfl) (R' := (qX5_R4_4 b)) rfl ?_
  refine r_return dX5_init_19 rfl ?_
  exact k
def qX5_S1_6 : List (Nat × Nat) := [(5, 0), (13, 6)]
def qX5_R2_6 (b : Nat) : List (List Nat) := [[0, 0], []]
def qX5_I3_6 : List (List Int32) := [[0, 0], []]
def qX5_R4_6 (b : Nat) : List (List Nat) := [[b + 1, 0], []]
def fX5_6_S : List (Nat × Nat) := qX5_S1_6
def fX5_6_R (b : Nat) : List (List Nat) := (qX5_R4_6 b)
def fX5_6_I : List (List Int32) := qX5_I3_6
set_option maxHeartbeats 4000000 in
theorem C_X5_6 {g : GG} {m : MM} {Q : Out → Prop} {b : Nat} (hn : nx m = b) (k : Q (.inl none, ap m fX5_6_S (fX5_6_R b) fX5_6_I)) : Cl g 1 1 6 mX5_init [.ref b, .int 6] (ap m [(5, 0)] [List.replicate 2 0] [List.replicate 2 0]) Q := by
  have h4 : 4 ≤ b := by rw [← hn]; unfold nx; omega
  refine Cl.of rfl (by decide) (Nat.le_of_ble_eq_true rfl) ?_
  show Wp g mX5_init 1 1 6 0 [.ref (b), .int (6)] [] _ Q
  refine r_aload_n dX5_init_0 rfl ?_
  refine r_objinit dX5_init_1 oiX5_1 oi_i oi_c (by omega) (Nat.le_of_ble_eq_true rfl) (by exact Nat.le_of_ble_eq_true rfl) ?_
  refine r_aload_n dX5_init_4 rfl ?_
  refine r_iload_n dX5_init_5 rfl ?_
  refine r_if_le 13 dX5_init_6 rfl (fun hz => absurd hz (by decide)) (fun _ => ?_)
  refine r_iload_n dX5_init_9 rfl ?_
  refine r_goto 14 dX5_init_10 rfl ?_
  refine a_newI 6 ⟨rfl, rfl⟩ dX5_init_14 (by decide) (by decide) (by decide) 0 hn (S' := qX5_S1_6) (R' := (qX5_R2_6 b)) (I' := qX5_I3_6) rfl rfl rfl (a := b + 1) rfl ?_
  refine a_putR (i := 0) (l := 0) dX5_init_16 (fpX5_7 _ rfl rfl) rfl hn rfl rfl (by exact Nat.le_of_ble_eq_true rfl) (by exact Nat.le_of_ble_eq_true rfl) (R' := (qX5_R4_6 b)) rfl ?_
  refine r_return dX5_init_19 rfl ?_
  exact k
def qX5_S1_8 : List (Nat × Nat) := [(5, 0), (13, 8)]
def qX5_R2_8 (b : Nat) : List (List Nat) := [[0, 0], []]
def qX5_I3_8 : List (List Int32) := [[0, 0], []]
def qX5_R4_8 (b : Nat) : List (List Nat) := [[b + 1, 0], []]
def fX5_8_S : List (Nat × Nat) := qX5_S1_8
def fX5_8_R (b : Nat) : List (List Nat) := (qX5_R4_8 b)
def fX5_8_I : List (List Int32) := qX5_I3_8
set_option maxHeartbeats 4000000 in
theorem C_X5_8 {g : GG} {m : MM} {Q : Out → Prop} {b : Nat} (hn : nx m = b) (k : Q (.inl none, ap m fX5_8_S (fX5_8_R b) fX5_8_I)) : Cl g 1 1 8 mX5_init [.ref b, .int 8] (ap m [(5, 0)] [List.replicate 2 0] [List.replicate 2 0]) Q := by
  have h4 : 4 ≤ b := by rw [← hn]; unfold nx; omega
  refine Cl.of rfl (by decide) (Nat.le_of_ble_eq_true rfl) ?_
  show Wp g mX5_init 1 1 8 0 [.ref (b), .int (8)] [] _ Q
  refine r_aload_n dX5_init_0 rfl ?_
  refine r_objinit dX5_init_1 oiX5_1 oi_i oi_c (by omega) (Nat.le_of_ble_eq_true rfl) (by exact Nat.le_of_ble_eq_true rfl) ?_
  refine r_aload_n dX5_init_4 rfl ?_
  refine r_iload_n dX5_init_5 rfl ?_
  refine r_if_le 13 dX5_init_6 rfl (fun hz => absurd hz (by decide)) (fun _ => ?_)
  refine r_iload_n dX5_init_9 rfl ?_
  refine r_goto 14 dX5_init_10 rfl ?_
  refine a_newI 8 ⟨rfl, rfl⟩ dX5_init_14 (by decide) (by decide) (by decide) 0 hn (S' := qX5_S1_8) (R' := (qX5_R2_8 b)) (I' := qX5_I3_8) rfl rfl rfl (a := b + 1) rfl ?_
  refine a_putR (i := 0) (l := 0) dX5_init_16 (fpX5_7 _ rfl rfl) rfl hn rfl rfl (by exact Nat.le_of_ble_eq_true rfl) (by exact Nat.le_of_ble_eq_true rfl) (R' := (qX5_R4_8 b)) rfl ?_
  refine r_return dX5_init_19 rfl ?_
  exact k
def qX5_S1_20 : List (Nat × Nat) := [(5, 0), (13, 20)]
def qX5_R2_20 (b : Nat) : List (List Nat) := [[0, 0], []]
def qX5_I3_20 : List (List Int32) := [[0, 0], []]
def qX5_R4_20 (b : Nat) : List (List Nat) := [[b + 1, 0], []]
def fX5_20_S : List (Nat × Nat) := qX5_S1_20
def fX5_20_R (b : Nat) : List (List Nat) := (qX5_R4_20 b)
def fX5_20_I : List (List Int32) := qX5_I3_20
set_option maxHeartbeats 4000000 in
theorem C_X5_20 {g : GG} {m : MM} {Q : Out → Prop} {b : Nat} (hn : nx m = b) (k : Q (.inl none, ap m fX5_20_S (fX5_20_R b) fX5_20_I)) : Cl g 1 1 20 mX5_init [.ref b, .int 20] (ap m [(5, 0)] [List.replicate 2 0] [List.replicate 2 0]) Q := by
  have h4 : 4 ≤ b := by rw [← hn]; unfold nx; omega
  refine Cl.of rfl (by decide) (Nat.le_of_ble_eq_true rfl) ?_
  show Wp g mX5_init 1 1 20 0 [.ref (b), .int (20)] [] _ Q
  refine r_aload_n dX5_init_0 rfl ?_
  refine r_objinit dX5_init_1 oiX5_1 oi_i oi_c (by omega) (Nat.le_of_ble_eq_true rfl) (by exact Nat.le_of_ble_eq_true rfl) ?_
  refine r_aload_n dX5_init_4 rfl ?_
  refine r_iload_n dX5_init_5 rfl ?_
  refine r_if_le 13 dX5_init_6 rfl (fun hz => absurd hz (by decide)) (fun _ => ?_)
  refine r_iload_n dX5_init_9 rfl ?_
  refine r_goto 14 dX5_init_10 rfl ?_
  refine a_newI 20 ⟨rfl, rfl⟩ dX5_init_14 (by decide) (by decide) (by decide) 0 hn (S' := qX5_S1_20) (R' := (qX5_R2_20 b)) (I' := qX5_I3_20) rfl rfl rfl (a := b + 1) rfl ?_
  refine a_putR (i := 0) (l := 0) dX5_init_16 (fpX5_7 _ rfl rfl) rfl hn rfl rfl (by exact Nat.le_of_ble_eq_true rfl) (by exact Nat.le_of_ble_eq_true rfl) (R' := (qX5_R4_20 b)) rfl ?_
  refine r_return dX5_init_19 rfl ?_
  exact k
def qX5_S1_400 : List (Nat × Nat) := [(5, 0), (13, 400)]
def qX5_R2_400 (b : Nat) : List (List Nat) := [[0, 0], []]
def qX5_I3_400 : List (List Int32) := [[0, 0], []]
def qX5_R4_400 (b : Nat) : List (List Nat) := [[b + 1, 0], []]
def fX5_400_S : List (Nat × Nat) := qX5_S1_400
def fX5_400_R (b : Nat) : List (List Nat) := (qX5_R4_400 b)
def fX5_400_I : List (List Int32) := qX5_I3_400
set_option maxHeartbeats 4000000 in
theorem C_X5_400 {g : GG} {m : MM} {Q : Out → Prop} {b : Nat} (hn : nx m = b) (k : Q (.inl none, ap m fX5_400_S (fX5_400_R b) fX5_400_I)) : Cl g 1 1 400 mX5_init [.ref b, .int 400] (ap m [(5, 0)] [List.replicate 2 0] [List.replicate 2 0]) Q := by
  have h4 : 4 ≤ b := by rw [← hn]; unfold nx; omega
  refine Cl.of rfl (by decide) (Nat.le_of_ble_eq_true rfl) ?_
  show Wp g mX5_init 1 1 400 0 [.ref (b), .int (400)] [] _ Q
  refine r_aload_n dX5_init_0 rfl ?_
  refine r_objinit dX5_init_1 oiX5_1 oi_i oi_c (by omega) (Nat.le_of_ble_eq_true rfl) (by exact Nat.le_of_ble_eq_true rfl) ?_
  refine r_aload_n dX5_init_4 rfl ?_
  refine r_iload_n dX5_init_5 rfl ?_
  refine r_if_le 13 dX5_init_6 rfl (fun hz => absurd hz (by decide)) (fun _ => ?_)
  refine r_iload_n dX5_init_9 rfl ?_
  refine r_goto 14 dX5_init_10 rfl ?_
  refine a_newI 400 ⟨rfl, rfl⟩ dX5_init_14 (by decide) (by decide) (by decide) 0 hn (S' := qX5_S1_400) (R' := (qX5_R2_400 b)) (I' := qX5_I3_400) rfl rfl rfl (a := b + 1) rfl ?_
  refine a_putR (i := 0) (l := 0) dX5_init_16 (fpX5_7 _ rfl rfl) rfl hn rfl rfl (by exact Nat.le_of_ble_eq_true rfl) (by exact Nat.le_of_ble_eq_true rfl) (R' := (qX5_R4_400 b)) rfl ?_
  refine r_return dX5_init_19 rfl ?_
  exact k
def qX5_S1_420 : List (Nat × Nat) := [(5, 0), (13, 420)]
def qX5_R2_420 (b : Nat) : List (List Nat) := [[0, 0], []]
def qX5_I3_420 : List (List Int32) := [[0, 0], []]
def qX5_R4_420 (b : Nat) : List (List Nat) := [[b + 1, 0], []]
def fX5_420_S : List (Nat × Nat) := qX5_S1_420
def fX5_420_R (b : Nat) : List (List Nat) := (qX5_R4_420 b)
def fX5_420_I : List (List Int32) := qX5_I3_420
set_option maxHeartbeats 4000000 in
theorem C_X5_420 {g : GG} {m : MM} {Q : Out → Prop} {b : Nat} (hn : nx m = b) (k : Q (.inl none, ap m fX5_420_S (fX5_420_R b) fX5_420_I)) : Cl g 1 1 420 mX5_init [.ref b, .int 420] (ap m [(5, 0)] [List.replicate 2 0] [List.replicate 2 0]) Q := by
  have h4 : 4 ≤ b := by rw [← hn]; unfold nx; omega
  refine Cl.of rfl (by decide) (Nat.le_of_ble_eq_true rfl) ?_
  show Wp g mX5_init 1 1 420 0 [.ref (b), .int (420)] [] _ Q
  refine r_aload_n dX5_init_0 rfl ?_
  refine r_objinit dX5_init_1 oiX5_1 oi_i oi_c (by omega) (Nat.le_of_ble_eq_true rfl) (by exact Nat.le_of_ble_eq_true rfl) ?_
  refine r_aload_n dX5_init_4 rfl ?_
  refine r_iload_n dX5_init_5 rfl ?_
  refine r_if_le 13 dX5_init_6 rfl (fun hz => absurd hz (by decide)) (fun _ => ?_)
  refine r_iload_n dX5_init_9 rfl ?_
  refine r_goto 14 dX5_init_10 rfl ?_
  refine a_newI 420 ⟨rfl, rfl⟩ dX5_init_14 (by decide) (by decide) (by decide) 0 hn (S' := qX5_S1_420) (R' := (qX5_R2_420 b)) (I' := qX5_I3_420) rfl rfl rfl (a := b + 1) rfl ?_
  refine a_putR (i := 0) (l := 0) dX5_init_16 (fpX5_7 _ rfl rfl) rfl hn rfl rfl (by exact Nat.le_of_ble_eq_true rfl) (by exact Nat.le_of_ble_eq_true rfl) (R' := (qX5_R4_420 b)) rfl ?_
  refine r_return dX5_init_19 rfl ?_
  exact k
def qX1_S1 : List (Nat × Nat) := [(1, 0), (13, 12)]
def qX1_R2 (b : Nat) : List (List Nat) := [[0, 0, 0, 0], []]
def qX1_I3 : List (List Int32) := [[0, 0, 0, 0], []]
def qX1_R4 (b : Nat) : List (List Nat) := [[0, 0, b + 1, 0], []]
def qX1_S5 : List (Nat × Nat) := [(1, 0), (13, 12), (13, 12)]
def qX1_R6 (b : Nat) : List (List Nat) := [[0, 0, b + 1, 0], [], []]
def qX1_I7 : List (List Int32) := [[0, 0, 0, 0], [], []]
def qX1_R8 (b : Nat) : List (List Nat) := [[0, 0, b + 1, b + 2], [], []]
def fX1_S : List (Nat × Nat) := qX1_S5
def fX1_R (b : Nat) : List (List Nat) := (qX1_R8 b)
def fX1_I : List (List Int32) := qX1_I7
set_option maxHeartbeats 4000000 in
theorem C_X1 {g : GG} {m : MM} {Q : Out → Prop} {b : Nat} (hn : nx m = b) (k : Q (.inl none, ap m fX1_S (fX1_R b) fX1_I)) : Cl g 1 2 24 mX1_init [.ref b] (ap m [(1, 0)] [List.replicate 4 0] [List.replicate 4 0]) Q := by
  have h4 : 4 ≤ b := by rw [← hn]; unfold nx; omega
  refine Cl.of rfl (by decide) (Nat.le_of_ble_eq_true rfl) ?_
  show Wp g mX1_init 1 2 24 0 [.ref (b)] [] _ Q
  refine r_aload_n dX1_init_0 rfl ?_
  refine r_objinit dX1_init_1 oiX1_3 oi_i oi_c (by omega) (Nat.le_of_ble_eq_true rfl) (by exact Nat.le_of_ble_eq_true rfl) ?_
  refine r_aload_n dX1_init_4 rfl ?_
  refine r_bipush (12) dX1_init_5 rfl ?_
  refine a_newI 12 ⟨rfl, rfl⟩ dX1_init_7 (by decide) (by decide) (by decide) 0 hn (S' := qX1_S1) (R' := (qX1_R2 b)) (I' := qX1_I3) rfl rfl rfl (a := b + 1) rfl ?_
  refine a_putR (i := 0) (l := 0) dX1_init_9 (fpX1_9 _ rfl rfl) rfl hn rfl rfl (by exact Nat.le_of_ble_eq_true rfl) (by exact Nat.le_of_ble_eq_true rfl) (R' := (qX1_R4 b)) rfl ?_
  refine r_aload_n dX1_init_12 rfl ?_
  refine r_bipush (12) dX1_init_13 rfl ?_
  refine a_newI 12 ⟨rfl, rfl⟩ dX1_init_15 (by decide) (by decide) (by decide) 0 hn (S' := qX1_S5) (R' := (qX1_R6 b)) (I' := qX1_I7) rfl rfl rfl (a := b + 2) rfl ?_
  refine a_putR (i := 0) (l := 0) dX1_init_17 (fpX1_15 _ rfl rfl) rfl hn rfl rfl (by exact Nat.le_of_ble_eq_true rfl) (by exact Nat.le_of_ble_eq_true rfl) (R' := (qX1_R8 b)) rfl ?_
  refine r_return dX1_init_20 rfl ?_
  exact k
def fX2_S : List (Nat × Nat) := [(2, 0)]
def fX2_R (b : Nat) : List (List Nat) := [List.replicate 6 0]
def fX2_I : List (List Int32) := [List.replicate 6 0]
set_option maxHeartbeats 4000000 in
theorem C_X2 {g : GG} {m : MM} {Q : Out → Prop} {b : Nat} (hn : nx m = b) (k : Q (.inl none, ap m fX2_S (fX2_R b) fX2_I)) : Cl g 1 0 0 mX2_init [.ref b] (ap m [(2, 0)] [List.replicate 6 0] [List.replicate 6 0]) Q := by
  have h4 : 4 ≤ b := by rw [← hn]; unfold nx; omega
  refine Cl.of rfl (by decide) (Nat.le_of_ble_eq_true rfl) ?_
  show Wp g mX2_init 1 0 0 0 [.ref (b)] [] _ Q
  refine r_aload_n dX2_init_0 rfl ?_
  refine r_objinit dX2_init_1 oiX2_3 oi_i oi_c (by omega) (Nat.le_of_ble_eq_true rfl) (by exact Nat.le_of_ble_eq_true rfl) ?_
  refine r_return dX2_init_4 rfl ?_
  exact k
def qX4_S1 : List (Nat × Nat) := [(4, 0), (13, 400)]
def qX4_R2 (b : Nat) : List (List Nat) := [[0, 0, 0, 0, 0, 0, 0, 0, 0, 0, 0], []]
def qX4_I3 : List (List Int32) := [[0, 0, 0, 0, 0, 0, 0, 0, 0, 0, 0], []]
def qX4_R4 (b : Nat) : List (List Nat) := [[b + 1, 0, 0, 0, 0, 0, 0, 0, 0, 0, 0], []]
def qX4_S5 : List (Nat × Nat) := [(4, 0), (13, 400), (13, 400)]
def qX4_R6 (b : Nat) : List (List Nat) := [[b + 1, 0, 0, 0, 0, 0, 0, 0, 0, 0, 0], [], []]
def qX4_I7 : List (List Int32) := [[0, 0, 0, 0, 0, 0, 0, 0, 0, 0, 0], [], []]
def qX4_R8 (b : Nat) : List (List Nat) := [[b + 1, 0, b + 2, 0, 0, 0, 0, 0, 0, 0, 0], [], []]
def fX4_S : List (Nat × Nat) := qX4_S5
def fX4_R (b : Nat) : List (List Nat) := (qX4_R8 b)
def fX4_I : List (List Int32) := qX4_I7
set_option maxHeartbeats 4000000 in
theorem C_X4 {g : GG} {m : MM} {Q : Out → Prop} {b : Nat} (hn : nx m = b) (k : Q (.inl none, ap m fX4_S (fX4_R b) fX4_I)) : Cl g 1 2 800 mX4_init [.ref b] (ap m [(4, 0)] [List.replicate 11 0] [List.replicate 11 0]) Q := by
  have h4 : 4 ≤ b := by rw [← hn]; unfold nx; omega
  refine Cl.of rfl (by decide) (Nat.le_of_ble_eq_true rfl) ?_
  show Wp g mX4_init 1 2 800 0 [.ref (b)] [] _ Q
  refine r_aload_n dX4_init_0 rfl ?_
  refine r_objinit dX4_init_1 oiX4_3 oi_i oi_c (by omega) (Nat.le_of_ble_eq_true rfl) (by exact Nat.le_of_ble_eq_true rfl) ?_
  refine r_aload_n dX4_init_4 rfl ?_
  refine r_sipush (400) dX4_init_5 rfl ?_
  refine a_newI 400 ⟨rfl, rfl⟩ dX4_init_8 (by decide) (by decide) (by decide) 0 hn (S' := qX4_S1) (R' := (qX4_R2 b)) (I' := qX4_I3) rfl rfl rfl (a := b + 1) rfl ?_
  refine a_putR (i := 0) (l := 0) dX4_init_10 (fpX4_9 _ rfl rfl) rfl hn rfl rfl (by exact Nat.le_of_ble_eq_true rfl) (by exact Nat.le_of_ble_eq_true rfl) (R' := (qX4_R4 b)) rfl ?_
  refine r_aload_n dX4_init_13 rfl ?_
  refine r_sipush (400) dX4_init_14 rfl ?_
  refine a_newI 400 ⟨rfl, rfl⟩ dX4_init_17 (by decide) (by decide) (by decide) 0 hn (S' := qX4_S5) (R' := (qX4_R6 b)) (I' := qX4_I7) rfl rfl rfl (a := b + 2) rfl ?_
  refine a_putR (i := 0) (l := 0) dX4_init_19 (fpX4_15 _ rfl rfl) rfl hn rfl rfl (by exact Nat.le_of_ble_eq_true rfl) (by exact Nat.le_of_ble_eq_true rfl) (R' := (qX4_R8 b)) rfl ?_
  refine r_return dX4_init_22 rfl ?_
  exact k
def qX6_I1 : List (List Int32) := [[0, 1, 0, 0, 0, 0]]
def qX6_I2 : List (List Int32) := [[0, 1, 1, 0, 0, 0]]
def qX6_I3 : List (List Int32) := [[0, 1, 1, (-1), 0, 0]]
def fX6_S : List (Nat × Nat) := [(6, 0)]
def fX6_R (b : Nat) : List (List Nat) := [List.replicate 6 0]
def fX6_I : List (List Int32) := qX6_I3
set_option maxHeartbeats 4000000 in
theorem C_X6 {g : GG} {m : MM} {Q : Out → Prop} {b : Nat} (hn : nx m = b) (k : Q (.inl none, ap m fX6_S (fX6_R b) fX6_I)) : Cl g 1 0 0 mX6_init [.ref b] (ap m [(6, 0)] [List.replicate 6 0] [List.replicate 6 0]) Q := by
  have h4 : 4 ≤ b := by rw [← hn]; unfold nx; omega
  refine Cl.of rfl (by decide) (Nat.le_of_ble_eq_true rfl) ?_
  show Wp g mX6_init 1 0 0 0 [.ref (b)] [] _ Q
  refine r_aload_n dX6_init_0 rfl ?_
  refine r_objinit dX6_init_1 oiX6_3 oi_i oi_c (by omega) (Nat.le_of_ble_eq_true rfl) (by exact Nat.le_of_ble_eq_true rfl) ?_
  refine r_aload_n dX6_init_4 rfl ?_
  refine r_iconst (1) dX6_init_5 rfl ?_
  refine a_putI (i := 0) (l := 0) dX6_init_6 (fpX6_9 _ rfl) rfl ⟨rfl, rfl⟩ hn rfl rfl (by exact Nat.le_of_ble_eq_true rfl) (by exact Nat.le_of_ble_eq_true rfl) (I' := qX6_I1) rfl ?_
  refine r_aload_n dX6_init_9 rfl ?_
  refine r_iconst (1) dX6_init_10 rfl ?_
  refine a_putI (i := 0) (l := 0) dX6_init_11 (fpX6_15 _ rfl) rfl ⟨rfl, rfl⟩ hn rfl rfl (by exact Nat.le_of_ble_eq_true rfl) (by exact Nat.le_of_ble_eq_true rfl) (I' := qX6_I2) rfl ?_
  refine r_aload_n dX6_init_14 rfl ?_
  refine r_iconst (-1) dX6_init_15 rfl ?_
  refine a_putI (i := 0) (l := 0) dX6_init_16 (fpX6_18 _ rfl) rfl ⟨rfl, rfl⟩ hn rfl rfl (by exact Nat.le_of_ble_eq_true rfl) (by exact Nat.le_of_ble_eq_true rfl) (I' := qX6_I3) rfl ?_
  refine r_return dX6_init_19 rfl ?_
  exact k
def qX7_S1_4 : List (Nat × Nat) := [(7, 0), (16, 4)]
def qX7_R2_4 (b : Nat) : List (List Nat) := [[0, 0], []]
def qX7_I3_4 : List (List Int32) := [[0, 0], []]
def qX7_R4_4 (b : Nat) : List (List Nat) := [[b + 1, 0], []]
def fX7_4_S : List (Nat × Nat) := qX7_S1_4
def fX7_4_R (b : Nat) : List (List Nat) := (qX7_R4_4 b)
def fX7_4_I : List (List Int32) := qX7_I3_4
set_option maxHeartbeats 4000000 in
theorem C_X7_4 {g : GG} {m : MM} {Q : Out → Prop} {b : Nat} (hn : nx m = b) (k : Q (.inl none, ap m fX7_4_S (fX7_4_R b) fX7_4_I)) : Cl g 1 1 4 mX7_init [.ref b, .int 4] (ap m [(7, 0)] [List.replicate 2 0] [List.replicate 2 0]) Q := by
  have h4 : 4 ≤ b := by rw [← hn]; unfold nx; omega
  refine Cl.of rfl (by decide) (Nat.le_of_ble_eq_true rfl) ?_
  show Wp g mX7_init 1 1 4 0 [.ref (b), .int (4)] [] _ Q
  refine r_aload_n dX7_init_0 rfl ?_
  refine r_objinit dX7_init_1 oiX7_1 oi_i oi_c (by omega) (Nat.le_of_ble_eq_true rfl) (by exact Nat.le_of_ble_eq_true rfl) ?_
  refine r_aload_n dX7_init_4 rfl ?_
  refine r_iload_n dX7_init_5 rfl ?_
  refine r_if_le 13 dX7_init_6 rfl (fun hz => absurd hz (by decide)) (fun _ => ?_)
  refine r_iload_n dX7_init_9 rfl ?_
  refine r_goto 14 dX7_init_10 rfl ?_
  refine a_newA (ci := 3) (q := 16) 4 ⟨rfl, rfl⟩ dX7_init_14 (Or.inr (Or.inl ⟨rfl, rfl⟩)) clX7_7 (by decide) (by decide) (by decide) 0 hn (S' := qX7_S1_4) (R' := (qX7_R2_4 b)) (I' := qX7_I3_4) rfl rfl rfl (a := b + 1) rfl ?_
  refine a_putR (i := 0) (l := 0) dX7_init_17 (fpX7_9 _ rfl rfl) rfl hn rfl rfl (by exact Nat.le_of_ble_eq_true rfl) (by exact Nat.le_of_ble_eq_true rfl) (R' := (qX7_R4_4 b)) rfl ?_
  refine r_return dX7_init_20 rfl ?_
  exact k
def qX7_S1_3 : List (Nat × Nat) := [(7, 0), (16, 3)]
def qX7_R2_3 (b : Nat) : List (List Nat) := [[0, 0], []]
def qX7_I3_3 : List (List Int32) := [[0, 0], []]
def qX7_R4_3 (b : Nat) : List (List Nat) := [[b + 1, 0], []]
def fX7_3_S : List (Nat × Nat) := qX7_S1_3
def fX7_3_R (b : Nat) : List (List Nat) := (qX7_R4_3 b)
def fX7_3_I : List (List Int32) := qX7_I3_3
set_option maxHeartbeats 4000000 in
theorem C_X7_3 {g : GG} {m : MM} {Q : Out → Prop} {b : Nat} (hn : nx m = b) (k : Q (.inl none, ap m fX7_3_S (fX7_3_R b) fX7_3_I)) : Cl g 1 1 3 mX7_init [.ref b, .int 3] (ap m [(7, 0)] [List.replicate 2 0] [List.replicate 2 0]) Q := by
  have h4 : 4 ≤ b := by rw [← hn]; unfold nx; omega
  refine Cl.of rfl (by decide) (Nat.le_of_ble_eq_true rfl) ?_
  show Wp g mX7_init 1 1 3 0 [.ref (b), .int (3)] [] _ Q
  refine r_aload_n dX7_init_0 rfl ?_
  refine r_objinit dX7_init_1 oiX7_1 oi_i oi_c (by omega) (Nat.le_of_ble_eq_true rfl) (by exact Nat.le_of_ble_eq_true rfl) ?_
  refine r_aload_n dX7_init_4 rfl ?_
  refine r_iload_n dX7_init_5 rfl ?_
  refine r_if_le 13 dX7_init_6 rfl (fun hz => absurd hz (by decide)) (fun _ => ?_)
  refine r_iload_n dX7_init_9 rfl ?_
  refine r_goto 14 dX7_init_10 rfl ?_
  refine a_newA (ci := 3) (q := 16) 3 ⟨rfl, rfl⟩ dX7_init_14 (Or.inr (Or.inl ⟨rfl, rfl⟩)) clX7_7 (by decide) (by decide) (by decide) 0 hn (S' := qX7_S1_3) (R' := (qX7_R2_3 b)) (I' := qX7_I3_3) rfl rfl rfl (a := b + 1) rfl ?_
  refine a_putR (i := 0) (l := 0) dX7_init_17 (fpX7_9 _ rfl rfl) rfl hn rfl rfl (by exact Nat.le_of_ble_eq_true rfl) (by exact Nat.le_of_ble_eq_true rfl) (R' := (qX7_R4_3 b)) rfl ?_
  refine r_return dX7_init_20 rfl ?_
  exact k
def qX8_S1 : List (Nat × Nat) := [(8, 0), (5, 0), (13, 20)]
def qX8_R2 (b : Nat) : List (List Nat) := [[0], [b + 2, 0], []]
def qX8_I3 : List (List Int32) := [[0], [0, 0], []]
def qX8_R4 (b : Nat) : List (List Nat) := [[b + 1], [b + 2, 0], []]
def fX8_S : List (Nat × Nat) := qX8_S1
def fX8_R (b : Nat) : List (List Nat) := (qX8_R4 b)
def fX8_I : List (List Int32) := qX8_I3
set_option maxHeartbeats 4000000 in
theorem C_X8 {g : GG} {m : MM} {Q : Out → Prop} {b : Nat} (hn : nx m = b) (k : Q (.inl none, ap m fX8_S (fX8_R b) fX8_I)) : Cl g 2 2 22 mX8_init [.ref b] (ap m [(8, 0)] [List.replicate 1 0] [List.replicate 1 0]) Q := by
  have h4 : 4 ≤ b := by rw [← hn]; unfold nx; omega
  refine Cl.of rfl (by decide) (Nat.le_of_ble_eq_true rfl) ?_
  show Wp g mX8_init 2 2 22 0 [.ref (b)] [] _ Q
  refine r_aload_n dX8_init_0 rfl ?_
  refine r_objinit dX8_init_1 oiX8_3 oi_i oi_c (by omega) (Nat.le_of_ble_eq_true rfl) (by exact Nat.le_of_ble_eq_true rfl) ?_
  refine r_aload_n dX8_init_4 rfl ?_
  refine b_new (ci := 5) 2 2 ⟨rfl, rfl⟩ dX8_init_5 (Nat.le_of_ble_eq_true rfl) clX8_9 inX5.1 inX5.2 hn (a := b + 1) rfl ?_
  refine r_dup dX8_init_8 rfl ?_
  refine r_bipush (20) dX8_init_9 rfl ?_
  refine r_callI1 (d1 := 1) (c1 := 1) (n1 := 20) dX8_init_11 miX8_11 (Nat.le_of_ble_eq_true rfl) (by exact Nat.le_of_ble_eq_true rfl) (by omega) ?_
  refine C_X5_20 (nx_at hn rfl) ?_
  show Wp g mX8_init _ _ _ 14 _ (_ :: _) _ Q
  refine a_merge ⟨rfl, rfl⟩ (S' := qX8_S1) (R' := (qX8_R2 b)) (I' := qX8_I3) rfl rfl rfl ?_
  refine a_putR (i := 0) (l := 0) dX8_init_14 (fpX8_14 _ rfl rfl) rfl hn rfl rfl (by exact Nat.le_of_ble_eq_true rfl) (by exact Nat.le_of_ble_eq_true rfl) (R' := (qX8_R4 b)) rfl ?_
  refine r_return dX8_init_17 rfl ?_
  exact k
def qX9_S1 : List (Nat × Nat) := [(9, 0), (14, 10)]
def qX9_R2 (b : Nat) : List (List Nat) := [[0, 0, 0, 0, 0, 0], []]
def qX9_I3 : List (List Int32) := [[0, 0, 0, 0, 0, 0], []]
def qX9_R4 (b : Nat) : List (List Nat) := [[b + 1, 0, 0, 0, 0, 0], []]
def qX9_S5 : List (Nat × Nat) := [(9, 0), (14, 10), (14, 8)]
def qX9_R6 (b : Nat) : List (List Nat) := [[b + 1, 0, 0, 0, 0, 0], [], []]
def qX9_I7 : List (List Int32) := [[0, 0, 0, 0, 0, 0], [], []]
def qX9_R8 (b : Nat) : List (List Nat) := [[b + 1, b + 2, 0, 0, 0, 0], [], []]
def qX9_S9 : List (Nat × Nat) := [(9, 0), (14, 10), (14, 8), (14, 64)]
def qX9_R10 (b : Nat) : List (List Nat) := [[b + 1, b + 2, 0, 0, 0, 0], [], [], []]
def qX9_I11 : List (List Int32) := [[0, 0, 0, 0, 0, 0], [], [], []]
def qX9_R12 (b : Nat) : List (List Nat) := [[b + 1, b + 2, b + 3, 0, 0, 0], [], [], []]
def fX9_S : List (Nat × Nat) := qX9_S9
def fX9_R (b : Nat) : List (List Nat) := (qX9_R12 b)
def fX9_I : List (List Int32) := qX9_I11
set_option maxHeartbeats 4000000 in
theorem C_X9 {g : GG} {m : MM} {Q : Out → Prop} {b : Nat} (hn : nx m = b) (k : Q (.inl none, ap m fX9_S (fX9_R b) fX9_I)) : Cl g 1 3 82 mX9_init [.ref b] (ap m [(9, 0)] [List.replicate 6 0] [List.replicate 6 0]) Q := by
  have h4 : 4 ≤ b := by rw [← hn]; unfold nx; omega
  refine Cl.of rfl (by decide) (Nat.le_of_ble_eq_true rfl) ?_
  show Wp g mX9_init 1 3 82 0 [.ref (b)] [] _ Q
  refine r_aload_n dX9_init_0 rfl ?_
  refine r_objinit dX9_init_1 oiX9_3 oi_i oi_c (by omega) (Nat.le_of_ble_eq_true rfl) (by exact Nat.le_of_ble_eq_true rfl) ?_
  refine r_aload_n dX9_init_4 rfl ?_
  refine r_bipush (10) dX9_init_5 rfl ?_
  refine a_newL 10 ⟨rfl, rfl⟩ dX9_init_7 (by decide) (by decide) (by decide) hn (S' := qX9_S1) (R' := (qX9_R2 b)) (I' := qX9_I3) rfl rfl rfl (a := b + 1) rfl ?_
  refine a_putR (i := 0) (l := 0) dX9_init_9 (fpX9_9 _ rfl rfl) rfl hn rfl rfl (by exact Nat.le_of_ble_eq_true rfl) (by exact Nat.le_of_ble_eq_true rfl) (R' := (qX9_R4 b)) rfl ?_
  refine r_aload_n dX9_init_12 rfl ?_
  refine r_bipush (8) dX9_init_13 rfl ?_
  refine a_newL 8 ⟨rfl, rfl⟩ dX9_init_15 (by decide) (by decide) (by decide) hn (S' := qX9_S5) (R' := (qX9_R6 b)) (I' := qX9_I7) rfl rfl rfl (a := b + 2) rfl ?_
  refine a_putR (i := 0) (l := 0) dX9_init_17 (fpX9_15 _ rfl rfl) rfl hn rfl rfl (by exact Nat.le_of_ble_eq_true rfl) (by exact Nat.le_of_ble_eq_true rfl) (R' := (qX9_R8 b)) rfl ?_
  refine r_aload_n dX9_init_20 rfl ?_
  refine r_bipush (64) dX9_init_21 rfl ?_
  refine a_newL 64 ⟨rfl, rfl⟩ dX9_init_23 (by decide) (by decide) (by decide) hn (S' := qX9_S9) (R' := (qX9_R10 b)) (I' := qX9_I11) rfl rfl rfl (a := b + 3) rfl ?_
  refine a_putR (i := 0) (l := 0) dX9_init_25 (fpX9_18 _ rfl rfl) rfl hn rfl rfl (by exact Nat.le_of_ble_eq_true rfl) (by exact Nat.le_of_ble_eq_true rfl) (R' := (qX9_R12 b)) rfl ?_
  refine r_return dX9_init_28 rfl ?_
  exact k
def qX10_S1 : List (Nat × Nat) := [(10, 0), (15, 6)]
def qX10_R2 (b : Nat) : List (List Nat) := [[0, 0, 0, 0, 0, 0, 0, 0, 0, 0, 0], [0, 0, 0, 0, 0, 0]]
def qX10_I3 : List (List Int32) := [[0, 0, 0, 0, 0, 0, 0, 0, 0, 0, 0], []]
def qX10_R4 (b : Nat) : List (List Nat) := [[b + 1, 0, 0, 0, 0, 0, 0, 0, 0, 0, 0], [0, 0, 0, 0, 0, 0]]
def qX10_S5 : List (Nat × Nat) := [(10, 0), (15, 6), (1, 0), (13, 12), (13, 12)]
def qX10_R6 (b : Nat) : List (List Nat) := [[b + 1, 0, 0, 0, 0, 0, 0, 0, 0, 0, 0], [0, 0, 0, 0, 0, 0], [0, 0, b + 3, b + 4], [], []]
def qX10_I7 : List (List Int32) := [[0, 0, 0, 0, 0, 0, 0, 0, 0, 0, 0], [], [0, 0, 0, 0], [], []]
def qX10_R8 (b : Nat) : List (List Nat) := [[b + 1, 0, 0, 0, 0, 0, 0, 0, 0, 0, 0], [b + 2, 0, 0, 0, 0, 0], [0, 0, b + 3, b + 4], [], []]
def qX10_S9 : List (Nat × Nat) := [(10, 0), (15, 6), (1, 0), (13, 12), (13, 12), (1, 0), (13, 12), (13, 12)]
def qX10_R10 (b : Nat) : List (List Nat) := [[b + 1, 0, 0, 0, 0, 0, 0, 0, 0, 0, 0], [b + 2, 0, 0, 0, 0, 0], [0, 0, b + 3, b + 4], [], [], [0, 0, b + 6, b + 7], [], []]
def qX10_I11 : List (List Int32) := [[0, 0, 0, 0, 0, 0, 0, 0, 0, 0, 0], [], [0, 0, 0, 0], [], [], [0, 0, 0, 0], [], []]
def qX10_R12 (b : Nat) : List (List Nat) := [[b + 1, 0, 0, 0, 0, 0, 0, 0, 0, 0, 0], [b + 2, b + 5, 0, 0, 0, 0], [0, 0, b + 3, b + 4], [], [], [0, 0, b + 6, b + 7], [], []]
def qX10_S13 : List (Nat × Nat) := [(10, 0), (15, 6), (1, 0), (13, 12), (13, 12), (1, 0), (13, 12), (13, 12), (1, 0), (13, 12), (13, 12)]
def qX10_R14 (b : Nat) : List (List Nat) := [[b + 1, 0, 0, 0, 0, 0, 0, 0, 0, 0, 0], [b + 2, b + 5, 0, 0, 0, 0], [0, 0, b + 3, b + 4], [], [], [0, 0, b + 6, b + 7], [], [], [0, 0, b + 9, b + 10], [], []]
def qX10_I15 : List (List Int32) := [[0, 0, 0, 0, 0, 0, 0, 0, 0, 0, 0], [], [0, 0, 0, 0], [], [], [0, 0, 0, 0], [], [], [0, 0, 0, 0], [], []]
def qX10_R16 (b : Nat) : List (List Nat) := [[b + 1, 0, 0, 0, 0, 0, 0, 0, 0, 0, 0], [b + 2, b + 5, b + 8, 0, 0, 0], [0, 0, b + 3, b + 4], [], [], [0, 0, b + 6, b + 7], [], [], [0, 0, b + 9, b + 10], [], []]
def qX10_S17 : List (Nat × Nat) := [(10, 0), (15, 6), (1, 0), (13, 12), (13, 12), (1, 0), (13, 12), (13, 12), (1, 0), (13, 12), (13, 12), (1, 0), (13, 12), (13, 12)]
def qX10_R18 (b : Nat) : List (List Nat) := [[b + 1, 0, 0, 0, 0, 0, 0, 0, 0, 0, 0], [b + 2, b + 5, b + 8, 0, 0, 0], [0, 0, b + 3, b + 4], [], [], [0, 0, b + 6, b + 7], [], [], [0, 0, b + 9, b + 10], [], [], [0, 0, b + 12, b + 13], [], []]
def qX10_I19 : List (List Int32) := [[0, 0, 0, 0, 0, 0, 0, 0, 0, 0, 0], [], [0, 0, 0, 0], [], [], [0, 0, 0, 0], [], [], [0, 0, 0, 0], [], [], [0, 0, 0, 0], [], []]
def qX10_R20 (b : Nat) : List (List Nat) := [[b + 1, 0, 0, 0, 0, 0, 0, 0, 0, 0, 0], [b + 2, b + 5, b + 8, b + 11, 0, 0], [0, 0, b + 3, b + 4], [], [], [0, 0, b + 6, b + 7], [], [], [0, 0, b + 9, b + 10], [], [], [0, 0, b + 12, b + 13], [], []]
def qX10_S21 : List (Nat × Nat) := [(10, 0), (15, 6), (1, 0), (13, 12), (13, 12), (1, 0), (13, 12), (13, 12), (1, 0), (13, 12), (13, 12), (1, 0), (13, 12), (13, 12), (1, 0), (13, 12), (13, 12)]
def qX10_R22 (b : Nat) : List (List Nat) := [[b + 1, 0, 0, 0, 0, 0, 0, 0, 0, 0, 0], [b + 2, b + 5, b + 8, b + 11, 0, 0], [0, 0, b + 3, b + 4], [], [], [0, 0, b + 6, b + 7], [], [], [0, 0, b + 9, b + 10], [], [], [0, 0, b + 12, b + 13], [], [], [0, 0, b + 15, b + 16], [], []]
def qX10_I23 : List (List Int32) := [[0, 0, 0, 0, 0, 0, 0, 0, 0, 0, 0], [], [0, 0, 0, 0], [], [], [0, 0, 0, 0], [], [], [0, 0, 0, 0], [], [], [0, 0, 0, 0], [], [], [0, 0, 0, 0], [], []]
def qX10_R24 (b : Nat) : List (List Nat) := [[b + 1, 0, 0, 0, 0, 0, 0, 0, 0, 0, 0], [b + 2, b + 5, b + 8, b + 11, b + 14, 0], [0, 0, b + 3, b + 4], [], [], [0, 0, b + 6, b + 7], [], [], [0, 0, b + 9, b + 10], [], [], [0, 0, b + 12, b + 13], [], [], [0, 0, b + 15, b + 16], [], []]
def qX10_S25 : List (Nat × Nat) := [(10, 0), (15, 6), (1, 0), (13, 12), (13, 12), (1, 0), (13, 12), (13, 12), (1, 0), (13, 12), (13, 12), (1, 0), (13, 12), (13, 12), (1, 0), (13, 12), (13, 12), (1, 0), (13, 12), (13, 12)]
def qX10_R26 (b : Nat) : List (List Nat) := [[b + 1, 0, 0, 0, 0, 0, 0, 0, 0, 0, 0], [b + 2, b + 5, b + 8, b + 11, b + 14, 0], [0, 0, b + 3, b + 4], [], [], [0, 0, b + 6, b + 7], [], [], [0, 0, b + 9, b + 10], [], [], [0, 0, b + 12, b + 13], [], [], [0, 0, b + 15, b + 16], [], [], [0, 0, b + 18, b + 19], [], []]
def qX10_I27 : List (List Int32) := [[0, 0, 0, 0, 0, 0, 0, 0, 0, 0, 0], [], [0, 0, 0, 0], [], [], [0, 0, 0, 0], [], [], [0, 0, 0, 0], [], [], [0, 0, 0, 0], [], [], [0, 0, 0, 0], [], [], [0, 0, 0, 0], [], []]
def qX10_R28 (b : Nat) : List (List Nat) := [[b + 1, 0, 0, 0, 0, 0, 0, 0, 0, 0, 0], [b + 2, b + 5, b + 8, b + 11, b + 14, b + 17], [0, 0, b + 3, b + 4], [], [], [0, 0, b + 6, b + 7], [], [], [0, 0, b + 9, b + 10], [], [], [0, 0, b + 12, b + 13], [], [], [0, 0, b + 15, b + 16], [], [], [0, 0, b + 18, b + 19], [], []]
def qX10_S29 : List (Nat × Nat) := [(10, 0), (15, 6), (1, 0), (13, 12), (13, 12), (1, 0), (13, 12), (13, 12), (1, 0), (13, 12), (13, 12), (1, 0), (13, 12), (13, 12), (1, 0), (13, 12), (13, 12), (1, 0), (13, 12), (13, 12), (5, 0), (13, 4)]
def qX10_R30 (b : Nat) : List (List Nat) := [[b + 1, 0, 0, 0, 0, 0, 0, 0, 0, 0, 0], [b + 2, b + 5, b + 8, b + 11, b + 14, b + 17], [0, 0, b + 3, b + 4], [], [], [0, 0, b + 6, b + 7], [], [], [0, 0, b + 9, b + 10], [], [], [0, 0, b + 12, b + 13], [], [], [0, 0, b + 15, b + 16], [], [], [0, 0, b + 18, b + 19], [], [], [b + 21, 0], []]
def qX10_I31 : List (List Int32) := [[0, 0, 0, 0, 0, 0, 0, 0, 0, 0, 0], [], [0, 0, 0, 0], [], [], [0, 0, 0, 0], [], [], [0, 0, 0, 0], [], [], [0, 0, 0, 0], [], [], [0, 0, 0, 0], [], [], [0, 0, 0, 0], [], [], [0, 0], []]
def qX10_R32 (b : Nat) : List (List Nat) := [[b + 1, 0, b + 20, 0, 0, 0, 0, 0, 0, 0, 0], [b + 2, b + 5, b + 8, b + 11, b + 14, b + 17], [0, 0, b + 3, b + 4], [], [], [0, 0, b + 6, b + 7], [], [], [0, 0, b + 9, b + 10], [], [], [0, 0, b + 12, b + 13], [], [], [0, 0, b + 15, b + 16], [], [], [0, 0, b + 18, b + 19], [], [], [b + 21, 0], []]
def qX10_S33 : List (Nat × Nat) := [(10, 0), (15, 6), (1, 0), (13, 12), (13, 12), (1, 0), (13, 12), (13, 12), (1, 0), (13, 12), (13, 12), (1, 0), (13, 12), (13, 12), (1, 0), (13, 12), (13, 12), (1, 0), (13, 12), (13, 12), (5, 0), (13, 4), (5, 0), (13, 4)]
def qX10_R34 (b : Nat) : List (List Nat) := [[b + 1, 0, b + 20, 0, 0, 0, 0, 0, 0, 0, 0], [b + 2, b + 5, b + 8, b + 11, b + 14, b + 17], [0, 0, b + 3, b + 4], [], [], [0, 0, b + 6, b + 7], [], [], [0, 0, b + 9, b + 10], [], [], [0, 0, b + 12, b + 13], [], [], [0, 0, b + 15, b + 16], [], [], [0, 0, b + 18, b + 19], [], [], [b + 21, 0], [], [b + 23, 0], []]
def qX10_I35 : List (List Int32) := [[0, 0, 0, 0, 0, 0, 0, 0, 0, 0, 0], [], [0, 0, 0, 0], [], [], [0, 0, 0, 0], [], [], [0, 0, 0, 0], [], [], [0, 0, 0, 0], [], [], [0, 0, 0, 0], [], [], [0, 0, 0, 0], [], [], [0, 0], [], [0, 0], []]
def qX10_R36 (b : Nat) : List (List Nat) := [[b + 1, 0, b + 20, b + 22, 0, 0, 0, 0, 0, 0, 0], [b + 2, b + 5, b + 8, b + 11, b + 14, b + 17], [0, 0, b + 3, b + 4], [], [], [0, 0, b + 6, b + 7], [], [], [0, 0, b + 9, b + 10], [], [], [0, 0, b + 12, b + 13], [], [], [0, 0, b + 15, b + 16], [], [], [0, 0, b + 18, b + 19], [], [], [b + 21, 0], [], [b + 23, 0], []]
def qX10_S37 : List (Nat × Nat) := [(10, 0), (15, 6), (1, 0), (13, 12), (13, 12), (1, 0), (13, 12), (13, 12), (1, 0), (13, 12), (13, 12), (1, 0), (13, 12), (13, 12), (1, 0), (13, 12), (13, 12), (1, 0), (13, 12), (13, 12), (5, 0), (13, 4), (5, 0), (13, 4), (6, 0)]
def qX10_R38 (b : Nat) : List (List Nat) := [[b + 1, 0, b + 20, b + 22, 0, 0, 0, 0, 0, 0, 0], [b + 2, b + 5, b + 8, b + 11, b + 14, b + 17], [0, 0, b + 3, b + 4], [], [], [0, 0, b + 6, b + 7], [], [], [0, 0, b + 9, b + 10], [], [], [0, 0, b + 12, b + 13], [], [], [0, 0, b + 15, b + 16], [], [], [0, 0, b + 18, b + 19], [], [], [b + 21, 0], [], [b + 23, 0], [], [0, 0, 0, 0, 0, 0]]
def qX10_I39 : List (List Int32) := [[0, 0, 0, 0, 0, 0, 0, 0, 0, 0, 0], [], [0, 0, 0, 0], [], [], [0, 0, 0, 0], [], [], [0, 0, 0, 0], [], [], [0, 0, 0, 0], [], [], [0, 0, 0, 0], [], [], [0, 0, 0, 0], [], [], [0, 0], [], [0, 0], [], [0, 1, 1, (-1), 0, 0]]
def qX10_R40 (b : Nat) : List (List Nat) := [[b + 1, 0, b + 20, b + 22, b + 24, 0, 0, 0, 0, 0, 0], [b + 2, b + 5, b + 8, b + 11, b + 14, b + 17], [0, 0, b + 3, b + 4], [], [], [0, 0, b + 6, b + 7], [], [], [0, 0, b + 9, b + 10], [], [], [0, 0, b + 12, b + 13], [], [], [0, 0, b + 15, b + 16], [], [], [0, 0, b + 18, b + 19], [], [], [b + 21, 0], [], [b + 23, 0], [], [0, 0, 0, 0, 0, 0]]
def qX10_S41 : List (Nat × Nat) := [(10, 0), (15, 6), (1, 0), (13, 12), (13, 12), (1, 0), (13, 12), (13, 12), (1, 0), (13, 12), (13, 12), (1, 0), (13, 12), (13, 12), (1, 0), (13, 12), (13, 12), (1, 0), (13, 12), (13, 12), (5, 0), (13, 4), (5, 0), (13, 4), (6, 0), (5, 0), (13, 420)]
def qX10_R42 (b : Nat) : List (List Nat) := [[b + 1, 0, b + 20, b + 22, b + 24, 0, 0, 0, 0, 0, 0], [b + 2, b + 5, b + 8, b + 11, b + 14, b + 17], [0, 0, b + 3, b + 4], [], [], [0, 0, b + 6, b + 7], [], [], [0, 0, b + 9, b + 10], [], [], [0, 0, b + 12, b + 13], [], [], [0, 0, b + 15, b + 16], [], [], [0, 0, b + 18, b + 19], [], [], [b + 21, 0], [], [b + 23, 0], [], [0, 0, 0, 0, 0, 0], [b + 26, 0], []]
def qX10_I43 : List (List Int32) := [[0, 0, 0, 0, 0, 0, 0, 0, 0, 0, 0], [], [0, 0, 0, 0], [], [], [0, 0, 0, 0], [], [], [0, 0, 0, 0], [], [], [0, 0, 0, 0], [], [], [0, 0, 0, 0], [], [], [0, 0, 0, 0], [], [], [0, 0], [], [0, 0], [], [0, 1, 1, (-1), 0, 0], [0, 0], []]
def qX10_R44 (b : Nat) : List (List Nat) := [[b + 1, 0, b + 20, b + 22, b + 24, b + 25, 0, 0, 0, 0, 0], [b + 2, b + 5, b + 8, b + 11, b + 14, b + 17], [0, 0, b + 3, b + 4], [], [], [0, 0, b + 6, b + 7], [], [], [0, 0, b + 9, b + 10], [], [], [0, 0, b + 12, b + 13], [], [], [0, 0, b + 15, b + 16], [], [], [0, 0, b + 18, b + 19], [], [], [b + 21, 0], [], [b + 23, 0], [], [0, 0, 0, 0, 0, 0], [b + 26, 0], []]
def qX10_S45 : List (Nat × Nat) := [(10, 0), (15, 6), (1, 0), (13, 12), (13, 12), (1, 0), (13, 12), (13, 12), (1, 0), (13, 12), (13, 12), (1, 0), (13, 12), (13, 12), (1, 0), (13, 12), (13, 12), (1, 0), (13, 12), (13, 12), (5, 0), (13, 4), (5, 0), (13, 4), (6, 0), (5, 0), (13, 420), (8, 0), (5, 0), (13, 20)]
def qX10_R46 (b : Nat) : List (List Nat) := [[b + 1, 0, b + 20, b + 22, b + 24, b + 25, 0, 0, 0, 0, 0], [b + 2, b + 5, b + 8, b + 11, b + 14, b + 17], [0, 0, b + 3, b + 4], [], [], [0, 0, b + 6, b + 7], [], [], [0, 0, b + 9, b + 10], [], [], [0, 0, b + 12, b + 13], [], [], [0, 0, b + 15, b + 16], [], [], [0, 0, b + 18, b + 19], [], [], [b + 21, 0], [], [b + 23, 0], [], [0, 0, 0, 0, 0, 0], [b + 26, 0], [], [b + 28], [b + 29, 0], []]
def qX10_I47 : List (List Int32) := [[0, 0, 0, 0, 0, 0, 0, 0, 0, 0, 0], [], [0, 0, 0, 0], [], [], [0, 0, 0, 0], [], [], [0, 0, 0, 0], [], [], [0, 0, 0, 0], [], [], [0, 0, 0, 0], [], [], [0, 0, 0, 0], [], [], [0, 0], [], [0, 0], [], [0, 1, 1, (-1), 0, 0], [0, 0], [], [0], [0, 0], []]
def qX10_R48 (b : Nat) : List (List Nat) := [[b + 1, 0, b + 20, b + 22, b + 24, b + 25, b + 27, 0, 0, 0, 0], [b + 2, b + 5, b + 8, b + 11, b + 14, b + 17], [0, 0, b + 3, b + 4], [], [], [0, 0, b + 6, b + 7], [], [], [0, 0, b + 9, b + 10], [], [], [0, 0, b + 12, b + 13], [], [], [0, 0, b + 15, b + 16], [], [], [0, 0, b + 18, b + 19], [], [], [b + 21, 0], [], [b + 23, 0], [], [0, 0, 0, 0, 0, 0], [b + 26, 0], [], [b + 28], [b + 29, 0], []]
def qX10_S49 : List (Nat × Nat) := [(10, 0), (15, 6), (1, 0), (13, 12), (13, 12), (1, 0), (13, 12), (13, 12), (1, 0), (13, 12), (13, 12), (1, 0), (13, 12), (13, 12), (1, 0), (13, 12), (13, 12), (1, 0), (13, 12), (13, 12), (5, 0), (13, 4), (5, 0), (13, 4), (6, 0), (5, 0), (13, 420), (8, 0), (5, 0), (13, 20), (5, 0), (13, 6)]
def qX10_R50 (b : Nat) : List (List Nat) := [[b + 1, 0, b + 20, b + 22, b + 24, b + 25, b + 27, 0, 0, 0, 0], [b + 2, b + 5, b + 8, b + 11, b + 14, b + 17], [0, 0, b + 3, b + 4], [], [], [0, 0, b + 6, b + 7], [], [], [0, 0, b + 9, b + 10], [], [], [0, 0, b + 12, b + 13], [], [], [0, 0, b + 15, b + 16], [], [], [0, 0, b + 18, b + 19], [], [], [b + 21, 0], [], [b + 23, 0], [], [0, 0, 0, 0, 0, 0], [b + 26, 0], [], [b + 28], [b + 29, 0], [], [b + 31, 0], []]
def qX10_I51 : List (List Int32) := [[0, 0, 0, 0, 0, 0, 0, 0, 0, 0, 0], [], [0, 0, 0, 0], [], [], [0, 0, 0, 0], [], [], [0, 0, 0, 0], [], [], [0, 0, 0, 0], [], [], [0, 0, 0, 0], [], [], [0, 0, 0, 0], [], [], [0, 0], [], [0, 0], [], [0, 1, 1, (-1), 0, 0], [0, 0], [], [0], [0, 0], [], [0, 0], []]
def qX10_R52 (b : Nat) : List (List Nat) := [[b + 1, 0, b + 20, b + 22, b + 24, b + 25, b + 27, b + 30, 0, 0, 0], [b + 2, b + 5, b + 8, b + 11, b + 14, b + 17], [0, 0, b + 3, b + 4], [], [], [0, 0, b + 6, b + 7], [], [], [0, 0, b + 9, b + 10], [], [], [0, 0, b + 12, b + 13], [], [], [0, 0, b + 15, b + 16], [], [], [0, 0, b + 18, b + 19], [], [], [b + 21, 0], [], [b + 23, 0], [], [0, 0, 0, 0, 0, 0], [b + 26, 0], [], [b + 28], [b + 29, 0], [], [b + 31, 0], []]
def qX10_S53 : List (Nat × Nat) := [(10, 0), (15, 6), (1, 0), (13, 12), (13, 12), (1, 0), (13, 12), (13, 12), (1, 0), (13, 12), (13, 12), (1, 0), (13, 12), (13, 12), (1, 0), (13, 12), (13, 12), (1, 0), (13, 12), (13, 12), (5, 0), (13, 4), (5, 0), (13, 4), (6, 0), (5, 0), (13, 420), (8, 0), (5, 0), (13, 20), (5, 0), (13, 6), (5, 0), (13, 8)]
def qX10_R54 (b : Nat) : List (List Nat) := [[b + 1, 0, b + 20, b + 22, b + 24, b + 25, b + 27, b + 30, 0, 0, 0], [b + 2, b + 5, b + 8, b + 11, b + 14, b + 17], [0, 0, b + 3, b + 4], [], [], [0, 0, b + 6, b + 7], [], [], [0, 0, b + 9, b + 10], [], [], [0, 0, b + 12, b + 13], [], [], [0, 0, b + 15, b + 16], [], [], [0, 0, b + 18, b + 19], [], [], [b + 21, 0], [], [b + 23, 0], [], [0, 0, 0, 0, 0, 0], [b + 26, 0], [], [b + 28], [b + 29, 0], [], [b + 31, 0], [], [b + 33, 0], []]
def qX10_I55 : List (List Int32) := [[0, 0, 0, 0, 0, 0, 0, 0, 0, 0, 0], [], [0, 0, 0, 0], [], [], [0, 0, 0, 0], [], [], [0, 0, 0, 0], [], [], [0, 0, 0, 0], [], [], [0, 0, 0, 0], [], [], [0, 0, 0, 0], [], [], [0, 0], [], [0, 0], [], [0, 1, 1, (-1), 0, 0], [0, 0], [], [0], [0, 0], [], [0, 0], [], [0, 0], []]
def qX10_R56 (b : Nat) : List (List Nat) := [[b + 1, 0, b + 20, b + 22, b + 24, b + 25, b + 27, b + 30, b + 32, 0, 0], [b + 2, b + 5, b + 8, b + 11, b + 14, b + 17], [0, 0, b + 3, b + 4], [], [], [0, 0, b + 6, b + 7], [], [], [0, 0, b + 9, b + 10], [], [], [0, 0, b + 12, b + 13], [], [], [0, 0, b + 15, b + 16], [], [], [0, 0, b + 18, b + 19], [], [], [b + 21, 0], [], [b + 23, 0], [], [0, 0, 0, 0, 0, 0], [b + 26, 0], [], [b + 28], [b + 29, 0], [], [b + 31, 0], [], [b + 33, 0], []]
def qX10_S57 : List (Nat × Nat) := [(10, 0), (15, 6), (1, 0), (13, 12), (13, 12), (1, 0), (13, 12), (13, 12), (1, 0), (13, 12), (13, 12), (1, 0), (13, 12), (13, 12), (1, 0), (13, 12), (13, 12), (1, 0), (13, 12), (13, 12), (5, 0), (13, 4), (5, 0), (13, 4), (6, 0), (5, 0), (13, 420), (8, 0), (5, 0), (13, 20), (5, 0), (13, 6), (5, 0), (13, 8), (5, 0), (13, 8)]
def qX10_R58 (b : Nat) : List (List Nat) := [[b + 1, 0, b + 20, b + 22, b + 24, b + 25, b + 27, b + 30, b + 32, 0, 0], [b + 2, b + 5, b + 8, b + 11, b + 14, b + 17], [0, 0, b + 3, b + 4], [], [], [0, 0, b + 6, b + 7], [], [], [0, 0, b + 9, b + 10], [], [], [0, 0, b + 12, b + 13], [], [], [0, 0, b + 15, b + 16], [], [], [0, 0, b + 18, b + 19], [], [], [b + 21, 0], [], [b + 23, 0], [], [0, 0, 0, 0, 0, 0], [b + 26, 0], [], [b + 28], [b + 29, 0], [], [b + 31, 0], [], [b + 33, 0], [], [b + 35, 0], []]
def qX10_I59 : List (List Int32) := [[0, 0, 0, 0, 0, 0, 0, 0, 0, 0, 0], [], [0, 0, 0, 0], [], [], [0, 0, 0, 0], [], [], [0, 0, 0, 0], [], [], [0, 0, 0, 0], [], [], [0, 0, 0, 0], [], [], [0, 0, 0, 0], [], [], [0, 0], [], [0, 0], [], [0, 1, 1, (-1), 0, 0], [0, 0], [], [0], [0, 0], [], [0, 0], [], [0, 0], [], [0, 0], []]
def qX10_R60 (b : Nat) : List (List Nat) := [[b + 1, 0, b + 20, b + 22, b + 24, b + 25, b + 27, b + 30, b + 32, b + 34, 0], [b + 2, b + 5, b + 8, b + 11, b + 14, b + 17], [0, 0, b + 3, b + 4], [], [], [0, 0, b + 6, b + 7], [], [], [0, 0, b + 9, b + 10], [], [], [0, 0, b + 12, b + 13], [], [], [0, 0, b + 15, b + 16], [], [], [0, 0, b + 18, b + 19], [], [], [b + 21, 0], [], [b + 23, 0], [], [0, 0, 0, 0, 0, 0], [b + 26, 0], [], [b + 28], [b + 29, 0], [], [b + 31, 0], [], [b + 33, 0], [], [b + 35, 0], []]
def qX10_I61 : List (List Int32) := [[0, 0, 0, 0, 0, 0, 0, 0, 0, 0, 1], [], [0, 0, 0, 0], [], [], [0, 0, 0, 0], [], [], [0, 0, 0, 0], [], [], [0, 0, 0, 0], [], [], [0, 0, 0, 0], [], [], [0, 0, 0, 0], [], [], [0, 0], [], [0, 0], [], [0, 1, 1, (-1), 0, 0], [0, 0], [], [0], [0, 0], [], [0, 0], [], [0, 0], [], [0, 0], []]
def fX10_S : List (Nat × Nat) := qX10_S57
def fX10_R (b : Nat) : List (List Nat) := (qX10_R60 b)
def fX10_I : List (List Int32) := qX10_I61
set_option maxHeartbeats 4000000 in
theorem C_X10 {g : GG} {m : MM} {Q : Out → Prop} {b : Nat} (hn : nx m = b) (k : Q (.inl none, ap m fX10_S (fX10_R b) fX10_I)) : Cl g 3 35 665 mX10_init [.ref b] (ap m [(10, 0)] [List.replicate 11 0] [List.replicate 11 0]) Q := by
  have h4 : 4 ≤ b := by rw [← hn]; unfold nx; omega
  refine Cl.of rfl (by decide) (Nat.le_of_ble_eq_true rfl) ?_
  show Wp g mX10_init 3 35 665 0 [.ref (b), .retAddr 0] [] _ Q
  refine r_aload_n dX10_init_0 rfl ?_
  refine r_objinit dX10_init_1 oiX10_3 oi_i oi_c (by omega) (Nat.le_of_ble_eq_true rfl) (by exact Nat.le_of_ble_eq_true rfl) ?_
  refine r_aload_n dX10_init_4 rfl ?_
  refine r_bipush (6) dX10_init_5 rfl ?_
  refine a_newA (ci := 1) (q := 15) 6 ⟨rfl, rfl⟩ dX10_init_7 (Or.inl ⟨rfl, rfl⟩) clX10_9 (by decide) (by decide) (by decide) 6 hn (S' := qX10_S1) (R' := (qX10_R2 b)) (I' := qX10_I3) rfl rfl rfl (a := b + 1) rfl ?_
  refine a_putR (i := 0) (l := 0) dX10_init_10 (fpX10_11 _ rfl rfl) rfl hn rfl rfl (by exact Nat.le_of_ble_eq_true rfl) (by exact Nat.le_of_ble_eq_true rfl) (R' := (qX10_R4 b)) rfl ?_
  refine r_iconst (0) dX10_init_13 rfl ?_
  refine si_1 dX10_init_14 rfl (Nat.le_of_ble_eq_true rfl) ?_
  refine r_iload_n dX10_init_15 rfl ?_
  refine r_aload_n dX10_init_16 rfl ?_
  refine a_getR (i := 0) (l := 0) (x := b + 1) dX10_init_17 fgX10_11 rfl hn rfl rfl rfl ?_
  refine a_alen (i := 1) (q := 15) (l := 6) (6) dX10_init_20 ⟨by decide, by decide⟩ hn rfl rfl rfl ?_
  refine r_icmp_ge 43 dX10_init_21 rfl (fun hz => absurd hz (by decide)) (fun _ => ?_)
  refine r_aload_n dX10_init_24 rfl ?_
  refine a_getR (i := 0) (l := 0) (x := b + 1) dX10_init_25 fgX10_11 rfl hn rfl rfl rfl ?_
  refine r_iload_n dX10_init_28 rfl ?_
  refine b_new (ci := 1) 4 4 ⟨rfl, rfl⟩ dX10_init_29 (Nat.le_of_ble_eq_true rfl) clX10_9 inX1.1 inX1.2 hn (a := b + 2) rfl ?_
  refine r_dup dX10_init_32 rfl ?_
  refine r_callI0 (d1 := 1) (c1 := 2) (n1 := 24) dX10_init_33 miX10_17 (Nat.le_of_ble_eq_true rfl) (by exact Nat.le_of_ble_eq_true rfl) (by omega) ?_
  refine C_X1 (nx_at hn rfl) ?_
  show Wp g mX10_init _ _ _ 36 _ (_ :: _) _ Q
  refine a_merge ⟨rfl, rfl⟩ (S' := qX10_S5) (R' := (qX10_R6 b)) (I' := qX10_I7) rfl rfl rfl ?_
  refine a_aast (i := 1) (i2 := 2) (j := 0) (q := 15) (l := 6) (ci := 1) (l2 := 0) dX10_init_36 (Or.inl ⟨rfl, rfl⟩) hn rfl rfl rfl rfl (vin (j := 0) (by omega) (by omega)) (by decide) (by exact Nat.le_of_ble_eq_true rfl) (by exact Nat.le_of_ble_eq_true rfl) (R' := (qX10_R8 b)) rfl ?_
  refine ic_1 (1) dX10_init_37 rfl rfl (Nat.le_of_ble_eq_true rfl) ?_
  refine w_ls (ls' := [.ref (b), .int (1)]) (congrArg (fun q : Int32 => ([.ref (b), .int q] : List Value)) (show (0 : Int32) + 1 = 1 from by decide)) ?_
  refine r_goto 15 dX10_init_40 rfl ?_
  refine r_iload_n dX10_init_15 rfl ?_
  refine r_aload_n dX10_init_16 rfl ?_
  refine a_getR (i := 0) (l := 0) (x := b + 1) dX10_init_17 fgX10_11 rfl hn rfl rfl rfl ?_
  refine a_alen (i := 1) (q := 15) (l := 6) (6) dX10_init_20 ⟨by decide, by decide⟩ hn rfl rfl rfl ?_
  refine r_icmp_ge 43 dX10_init_21 rfl (fun hz => absurd hz (by decide)) (fun _ => ?_)
  refine r_aload_n dX10_init_24 rfl ?_
  refine a_getR (i := 0) (l := 0) (x := b + 1) dX10_init_25 fgX10_11 rfl hn rfl rfl rfl ?_
  refine r_iload_n dX10_init_28 rfl ?_
  refine b_new (ci := 1) 4 4 ⟨rfl, rfl⟩ dX10_init_29 (Nat.le_of_ble_eq_true rfl) clX10_9 inX1.1 inX1.2 hn (a := b + 5) rfl ?_
  refine r_dup dX10_init_32 rfl ?_
  refine r_callI0 (d1 := 1) (c1 := 2) (n1 := 24) dX10_init_33 miX10_17 (Nat.le_of_ble_eq_true rfl) (by exact Nat.le_of_ble_eq_true rfl) (by omega) ?_
  refine C_X1 (nx_at hn rfl) ?_
  show Wp g mX10_init _ _ _ 36 _ (_ :: _) _ Q
  refine a_merge ⟨rfl, rfl⟩ (S' := qX10_S9) (R' := (qX10_R10 b)) (I' := qX10_I11) rfl rfl rfl ?_
  refine a_aast (i := 1) (i2 := 5) (j := 1) (q := 15) (l := 6) (ci := 1) (l2 := 0) dX10_init_36 (Or.inl ⟨rfl, rfl⟩) hn rfl rfl rfl rfl (vin (j := 1) (by omega) (by omega)) (by decide) (by exact Nat.le_of_ble_eq_true rfl) (by exact Nat.le_of_ble_eq_true rfl) (R' := (qX10_R12 b)) rfl ?_
  refine ic_1 (1) dX10_init_37 rfl rfl (Nat.le_of_ble_eq_true rfl) ?_
  refine w_ls (ls' := [.ref (b), .int (2)]) (congrArg (fun q : Int32 => ([.ref (b), .int q] : List Value)) (show (1 : Int32) + 1 = 2 from by decide)) ?_
  refine r_goto 15 dX10_init_40 rfl ?_
  refine r_iload_n dX10_init_15 rfl ?_
  refine r_aload_n dX10_init_16 rfl ?_
  refine a_getR (i := 0) (l := 0) (x := b + 1) dX10_init_17 fgX10_11 rfl hn rfl rfl rfl ?_
  refine a_alen (i := 1) (q := 15) (l := 6) (6) dX10_init_20 ⟨by decide, by decide⟩ hn rfl rfl rfl ?_
  refine r_icmp_ge 43 dX10_init_21 rfl (fun hz => absurd hz (by decide)) (fun _ => ?_)
  refine r_aload_n dX10_init_24 rfl ?_
  refine a_getR (i := 0) (l := 0) (x := b + 1) dX10_init_25 fgX10_11 rfl hn rfl rfl rfl ?_
  refine r_iload_n dX10_init_28 rfl ?_
  refine b_new (ci := 1) 4 4 ⟨rfl, rfl⟩ dX10_init_29 (Nat.le_of_ble_eq_true rfl) clX10_9 inX1.1 inX1.2 hn (a := b + 8) rfl ?_
  refine r_dup dX10_init_32 rfl ?_
  refine r_callI0 (d1 := 1) (c1 := 2) (n1 := 24) dX10_init_33 miX10_17 (Nat.le_of_ble_eq_true rfl) (by exact Nat.le_of_ble_eq_true rfl) (by omega) ?_
  refine C_X1 (nx_at hn rfl) ?_
  show Wp g mX10_init _ _ _ 36 _ (_ :: _) _ Q
  refine a_merge ⟨rfl, rfl⟩ (S' := qX10_S13) (R' := (qX10_R14 b)) (I' := qX10_I15) rfl rfl rfl ?_
  refine a_aast (i := 1) (i2 := 8) (j := 2) (q := 15) (l := 6) (ci := 1) (l2 := 0) dX10_init_36 (Or.inl ⟨rfl, rfl⟩) hn rfl rfl rfl rfl (vin (j := 2) (by omega) (by omega)) (by decide) (by exact Nat.le_of_ble_eq_true rfl) (by exact Nat.le_of_ble_eq_true rfl) (R' := (qX10_R16 b)) rfl ?_
  refine ic_1 (1) dX10_init_37 rfl rfl (Nat.le_of_ble_eq_true rfl) ?_
  refine w_ls (ls' := [.ref (b), .int (3)]) (congrArg (fun q : Int32 => ([.ref (b), .int q] : List Value)) (show (2 : Int32) + 1 = 3 from by decide)) ?_
  refine r_goto 15 dX10_init_40 rfl ?_
  refine r_iload_n dX10_init_15 rfl ?_
  refine r_aload_n dX10_init_16 rfl ?_
  refine a_getR (i := 0) (l := 0) (x := b + 1) dX10_init_17 fgX10_11 rfl hn rfl rfl rfl ?_
  refine a_alen (i := 1) (q := 15) (l := 6) (6) dX10_init_20 ⟨by decide, by decide⟩ hn rfl rfl rfl ?_
  refine r_icmp_ge 43 dX10_init_21 rfl (fun hz => absurd hz (by decide)) (fun _ => ?_)
  refine r_aload_n dX10_init_24 rfl ?_
  refine a_getR (i := 0) (l := 0) (x := b + 1) dX10_init_25 fgX10_11 rfl hn rfl rfl rfl ?_
  refine r_iload_n dX10_init_28 rfl ?_
  refine b_new (ci := 1) 4 4 ⟨rfl, rfl⟩ dX10_init_29 (Nat.le_of_ble_eq_true rfl) clX10_9 inX1.1 inX1.2 hn (a := b + 11) rfl ?_
  refine r_dup dX10_init_32 rfl ?_
  refine r_callI0 (d1 := 1) (c1 := 2) (n1 := 24) dX10_init_33 miX10_17 (Nat.le_of_ble_eq_true rfl) (by exact Nat.le_of_ble_eq_true rfl) (by omega) ?_
  refine C_X1 (nx_at hn rfl) ?_
  show Wp g mX10_init _ _ _ 36 _ (_ :: _) _ Q
  refine a_merge ⟨rfl, rfl⟩ (S' := qX10_S17) (R' := (qX10_R18 b)) (I' := qX10_I19) rfl rfl rfl ?_
  refine a_aast (i := 1) (i2 := 11) (j := 3) (q := 15) (l := 6) (ci := 1) (l2 := 0) dX10_init_36 (Or.inl ⟨rfl, rfl⟩) hn rfl rfl rfl rfl (vin (j := 3) (by omega) (by omega)) (by decide) (by exact Nat.le_of_ble_eq_true rfl) (by exact Nat.le_of_ble_eq_true rfl) (R' := (qX10_R20 b)) rfl ?_
  refine ic_1 (1) dX10_init_37 rfl rfl (Nat.le_of_ble_eq_true rfl) ?_
  refine w_ls (ls' := [.ref (b), .int (4)]) (congrArg (fun q : Int32 => ([.ref (b), .int q] : List Value)) (show (3 : Int32) + 1 = 4 from by decide)) ?_
  refine r_goto 15 dX10_init_40 rfl ?_
  refine r_iload_n dX10_init_15 rfl ?_
  refine r_aload_n dX10_init_16 rfl ?_
  refine a_getR (i := 0) (l := 0) (x := b + 1) dX10_init_17 fgX10_11 rfl hn rfl rfl rfl ?_
  refine a_alen (i := 1) (q := 15) (l := 6) (6) dX10_init_20 ⟨by decide, by decide⟩ hn rfl rfl rfl ?_
  refine r_icmp_ge 43 dX10_init_21 rfl (fun hz => absurd hz (by decide)) (fun _ => ?_)
  refine r_aload_n dX10_init_24 rfl ?_
  refine a_getR (i := 0) (l := 0) (x := b + 1) dX10_init_25 fgX10_11 rfl hn rfl rfl rfl ?_
  refine r_iload_n dX10_init_28 rfl ?_
  refine b_new (ci := 1) 4 4 ⟨rfl, rfl⟩ dX10_init_29 (Nat.le_of_ble_eq_true rfl) clX10_9 inX1.1 inX1.2 hn (a := b + 14) rfl ?_
  refine r_dup dX10_init_32 rfl ?_
  refine r_callI0 (d1 := 1) (c1 := 2) (n1 := 24) dX10_init_33 miX10_17 (Nat.le_of_ble_eq_true rfl) (by exact Nat.le_of_ble_eq_true rfl) (by omega) ?_
  refine C_X1 (nx_at hn rfl) ?_
  show Wp g mX10_init _ _ _ 36 _ (_ :: _) _ Q
  refine a_merge ⟨rfl, rfl⟩ (S' := qX10_S21) (R' := (qX10_R22 b)) (I' := qX10_I23) rfl rfl rfl ?_
  refine a_aast (i := 1) (i2 := 14) (j := 4) (q := 15) (l := 6) (ci := 1) (l2 := 0) dX10_init_36 (Or.inl ⟨rfl, rfl⟩) hn rfl rfl rfl rfl (vin (j := 4) (by omega) (by omega)) (by decide) (by exact Nat.le_of_ble_eq_true rfl) (by exact Nat.le_of_ble_eq_true rfl) (R' := (qX10_R24 b)) rfl ?_
  refine ic_1 (1) dX10_init_37 rfl rfl (Nat.le_of_ble_eq_true rfl) ?_
  refine w_ls (ls' := [.ref (b), .int (5)]) (congrArg (fun q : Int32 => ([.ref (b), .int q] : List Value)) (show (4 : Int32) + 1 = 5 from by decide)) ?_
  refine r_goto 15 dX10_init_40 rfl ?_
  refine r_iload_n dX10_init_15 rfl ?_
  refine r_aload_n dX10_init_16 rfl ?_
  refine a_getR (i := 0) (l := 0) (x := b + 1) dX10_init_17 fgX10_11 rfl hn rfl rfl rfl ?_
  refine a_alen (i := 1) (q := 15) (l := 6) (6) dX10_init_20 ⟨by decide, by decide⟩ hn rfl rfl rfl ?_
  refine r_icmp_ge 43 dX10_init_21 rfl (fun hz => absurd hz (by decide)) (fun _ => ?_)
  refine r_aload_n dX10_init_24 rfl ?_
  refine a_getR (i := 0) (l := 0) (x := b + 1) dX10_init_25 fgX10_11 rfl hn rfl rfl rfl ?_
  refine r_iload_n dX10_init_28 rfl ?_
  refine b_new (ci := 1) 4 4 ⟨rfl, rfl⟩ dX10_init_29 (Nat.le_of_ble_eq_true rfl) clX10_9 inX1.1 inX1.2 hn (a := b + 17) rfl ?_
  refine r_dup dX10_init_32 rfl ?_
  refine r_callI0 (d1 := 1) (c1 := 2) (n1 := 24) dX10_init_33 miX10_17 (Nat.le_of_ble_eq_true rfl) (by exact Nat.le_of_ble_eq_true rfl) (by omega) ?_
  refine C_X1 (nx_at hn rfl) ?_
  show Wp g mX10_init _ _ _ 36 _ (_ :: _) _ Q
  refine a_merge ⟨rfl, rfl⟩ (S' := qX10_S25) (R' := (qX10_R26 b)) (I' := qX10_I27) rfl rfl rfl ?_
  refine a_aast (i := 1) (i2 := 17) (j := 5) (q := 15) (l := 6) (ci := 1) (l2 := 0) dX10_init_36 (Or.inl ⟨rfl, rfl⟩) hn rfl rfl rfl rfl (vin (j := 5) (by omega) (by omega)) (by decide) (by exact Nat.le_of_ble_eq_true rfl) (by exact Nat.le_of_ble_eq_true rfl) (R' := (qX10_R28 b)) rfl ?_
  refine ic_1 (1) dX10_init_37 rfl rfl (Nat.le_of_ble_eq_true rfl) ?_
  refine w_ls (ls' := [.ref (b), .int (6)]) (congrArg (fun q : Int32 => ([.ref (b), .int q] : List Value)) (show (5 : Int32) + 1 = 6 from by decide)) ?_
  refine r_goto 15 dX10_init_40 rfl ?_
  refine r_iload_n dX10_init_15 rfl ?_
  refine r_aload_n dX10_init_16 rfl ?_
  refine a_getR (i := 0) (l := 0) (x := b + 1) dX10_init_17 fgX10_11 rfl hn rfl rfl rfl ?_
  refine a_alen (i := 1) (q := 15) (l := 6) (6) dX10_init_20 ⟨by decide, by decide⟩ hn rfl rfl rfl ?_
  refine r_icmp_ge 43 dX10_init_21 rfl (fun _ => ?_) (fun hz => absurd hz (by decide))
  refine r_aload_n dX10_init_43 rfl ?_
  refine b_new (ci := 5) 2 2 ⟨rfl, rfl⟩ dX10_init_44 (Nat.le_of_ble_eq_true rfl) clX10_18 inX5.1 inX5.2 hn (a := b + 20) rfl ?_
  refine r_dup dX10_init_47 rfl ?_
  refine r_iconst (4) dX10_init_48 rfl ?_
  refine r_callI1 (d1 := 1) (c1 := 1) (n1 := 4) dX10_init_49 miX10_20 (Nat.le_of_ble_eq_true rfl) (by exact Nat.le_of_ble_eq_true rfl) (by omega) ?_
  refine C_X5_4 (nx_at hn rfl) ?_
  show Wp g mX10_init _ _ _ 52 _ (_ :: _) _ Q
  refine a_merge ⟨rfl, rfl⟩ (S' := qX10_S29) (R' := (qX10_R30 b)) (I' := qX10_I31) rfl rfl rfl ?_
  refine a_putR (i := 0) (l := 0) dX10_init_52 (fpX10_23 _ rfl rfl) rfl hn rfl rfl (by exact Nat.le_of_ble_eq_true rfl) (by exact Nat.le_of_ble_eq_true rfl) (R' := (qX10_R32 b)) rfl ?_
  refine r_aload_n dX10_init_55 rfl ?_
  refine b_new (ci := 5) 2 2 ⟨rfl, rfl⟩ dX10_init_56 (Nat.le_of_ble_eq_true rfl) clX10_18 inX5.1 inX5.2 hn (a := b + 22) rfl ?_
  refine r_dup dX10_init_59 rfl ?_
  refine r_iconst (4) dX10_init_60 rfl ?_
  refine r_callI1 (d1 := 1) (c1 := 1) (n1 := 4) dX10_init_61 miX10_20 (Nat.le_of_ble_eq_true rfl) (by exact Nat.le_of_ble_eq_true rfl) (by omega) ?_
  refine C_X5_4 (nx_at hn rfl) ?_
  show Wp g mX10_init _ _ _ 64 _ (_ :: _) _ Q
  refine a_merge ⟨rfl, rfl⟩ (S' := qX10_S33) (R' := (qX10_R34 b)) (I' := qX10_I35) rfl rfl rfl ?_
  refine a_putR (i := 0) (l := 0) dX10_init_64 (fpX10_27 _ rfl rfl) rfl hn rfl rfl (by exact Nat.le_of_ble_eq_true rfl) (by exact Nat.le_of_ble_eq_true rfl) (R' := (qX10_R36 b)) rfl ?_
  refine r_aload_n dX10_init_67 rfl ?_
  refine b_new (ci := 6) 6 6 ⟨rfl, rfl⟩ dX10_init_68 (Nat.le_of_ble_eq_true rfl) clX10_30 inX6.1 inX6.2 hn (a := b + 24) rfl ?_
  refine r_dup dX10_init_71 rfl ?_
  refine r_callI0 (d1 := 1) (c1 := 0) (n1 := 0) dX10_init_72 miX10_32 (Nat.le_of_ble_eq_true rfl) (by exact Nat.le_of_ble_eq_true rfl) (by omega) ?_
  refine C_X6 (nx_at hn rfl) ?_
  show Wp g mX10_init _ _ _ 75 _ (_ :: _) _ Q
  refine a_merge ⟨rfl, rfl⟩ (S' := qX10_S37) (R' := (qX10_R38 b)) (I' := qX10_I39) rfl rfl rfl ?_
  refine a_putR (i := 0) (l := 0) dX10_init_75 (fpX10_33 _ rfl rfl) rfl hn rfl rfl (by exact Nat.le_of_ble_eq_true rfl) (by exact Nat.le_of_ble_eq_true rfl) (R' := (qX10_R40 b)) rfl ?_
  refine r_aload_n dX10_init_78 rfl ?_
  refine b_new (ci := 5) 2 2 ⟨rfl, rfl⟩ dX10_init_79 (Nat.le_of_ble_eq_true rfl) clX10_18 inX5.1 inX5.2 hn (a := b + 25) rfl ?_
  refine r_dup dX10_init_82 rfl ?_
  refine r_sipush (420) dX10_init_83 rfl ?_
  refine r_callI1 (d1 := 1) (c1 := 1) (n1 := 420) dX10_init_86 miX10_20 (Nat.le_of_ble_eq_true rfl) (by exact Nat.le_of_ble_eq_true rfl) (by omega) ?_
  refine C_X5_420 (nx_at hn rfl) ?_
  show Wp g mX10_init _ _ _ 89 _ (_ :: _) _ Q
  refine a_merge ⟨rfl, rfl⟩ (S' := qX10_S41) (R' := (qX10_R42 b)) (I' := qX10_I43) rfl rfl rfl ?_
  refine a_putR (i := 0) (l := 0) dX10_init_89 (fpX10_37 _ rfl rfl) rfl hn rfl rfl (by exact Nat.le_of_ble_eq_true rfl) (by exact Nat.le_of_ble_eq_true rfl) (R' := (qX10_R44 b)) rfl ?_
  refine r_aload_n dX10_init_92 rfl ?_
  refine b_new (ci := 8) 1 1 ⟨rfl, rfl⟩ dX10_init_93 (Nat.le_of_ble_eq_true rfl) clX10_40 inX8.1 inX8.2 hn (a := b + 27) rfl ?_
  refine r_dup dX10_init_96 rfl ?_
  refine r_callI0 (d1 := 2) (c1 := 2) (n1 := 22) dX10_init_97 miX10_42 (Nat.le_of_ble_eq_true rfl) (by exact Nat.le_of_ble_eq_true rfl) (by omega) ?_
  refine C_X8 (nx_at hn rfl) ?_
  show Wp g mX10_init _ _ _ 100 _ (_ :: _) _ Q
  refine a_merge ⟨rfl, rfl⟩ (S' := qX10_S45) (R' := (qX10_R46 b)) (I' := qX10_I47) rfl rfl rfl ?_
  refine a_putR (i := 0) (l := 0) dX10_init_100 (fpX10_43 _ rfl rfl) rfl hn rfl rfl (by exact Nat.le_of_ble_eq_true rfl) (by exact Nat.le_of_ble_eq_true rfl) (R' := (qX10_R48 b)) rfl ?_
  refine r_aload_n dX10_init_103 rfl ?_
  refine b_new (ci := 5) 2 2 ⟨rfl, rfl⟩ dX10_init_104 (Nat.le_of_ble_eq_true rfl) clX10_18 inX5.1 inX5.2 hn (a := b + 30) rfl ?_
  refine r_dup dX10_init_107 rfl ?_
  refine r_bipush (6) dX10_init_108 rfl ?_
  refine r_callI1 (d1 := 1) (c1 := 1) (n1 := 6) dX10_init_110 miX10_20 (Nat.le_of_ble_eq_true rfl) (by exact Nat.le_of_ble_eq_true rfl) (by omega) ?_
  refine C_X5_6 (nx_at hn rfl) ?_
  show Wp g mX10_init _ _ _ 113 _ (_ :: _) _ Q
  refine a_merge ⟨rfl, rfl⟩ (S' := qX10_S49) (R' := (qX10_R50 b)) (I' := qX10_I51) rfl rfl rfl ?_
  refine a_putR (i := 0) (l := 0) dX10_init_113 (fpX10_47 _ rfl rfl) rfl hn rfl rfl (by exact Nat.le_of_ble_eq_true rfl) (by exact Nat.le_of_ble_eq_true rfl) (R' := (qX10_R52 b)) rfl ?_
  refine r_aload_n dX10_init_116 rfl ?_
  refine b_new (ci := 5) 2 2 ⟨rfl, rfl⟩ dX10_init_117 (Nat.le_of_ble_eq_true rfl) clX10_18 inX5.1 inX5.2 hn (a := b + 32) rfl ?_
  refine r_dup dX10_init_120 rfl ?_
  refine r_bipush (8) dX10_init_121 rfl ?_
  refine r_callI1 (d1 := 1) (c1 := 1) (n1 := 8) dX10_init_123 miX10_20 (Nat.le_of_ble_eq_true rfl) (by exact Nat.le_of_ble_eq_true rfl) (by omega) ?_
  refine C_X5_8 (nx_at hn rfl) ?_
  show Wp g mX10_init _ _ _ 126 _ (_ :: _) _ Q
  refine a_merge ⟨rfl, rfl⟩ (S' := qX10_S53) (R' := (qX10_R54 b)) (I' := qX10_I55) rfl rfl rfl ?_
  refine a_putR (i := 0) (l := 0) dX10_init_126 (fpX10_50 _ rfl rfl) rfl hn rfl rfl (by exact Nat.le_of_ble_eq_true rfl) (by exact Nat.le_of_ble_eq_true rfl) (R' := (qX10_R56 b)) rfl ?_
  refine r_aload_n dX10_init_129 rfl ?_
  refine b_new (ci := 5) 2 2 ⟨rfl, rfl⟩ dX10_init_130 (Nat.le_of_ble_eq_true rfl) clX10_18 inX5.1 inX5.2 hn (a := b + 34) rfl ?_
  refine r_dup dX10_init_133 rfl ?_
  refine r_bipush (8) dX10_init_134 rfl ?_
  refine r_callI1 (d1 := 1) (c1 := 1) (n1 := 8) dX10_init_136 miX10_20 (Nat.le_of_ble_eq_true rfl) (by exact Nat.le_of_ble_eq_true rfl) (by omega) ?_
  refine C_X5_8 (nx_at hn rfl) ?_
  show Wp g mX10_init _ _ _ 139 _ (_ :: _) _ Q
  refine a_merge ⟨rfl, rfl⟩ (S' := qX10_S57) (R' := (qX10_R58 b)) (I' := qX10_I59) rfl rfl rfl ?_
  refine a_putR (i := 0) (l := 0) dX10_init_139 (fpX10_53 _ rfl rfl) rfl hn rfl rfl (by exact Nat.le_of_ble_eq_true rfl) (by exact Nat.le_of_ble_eq_true rfl) (R' := (qX10_R60 b)) rfl ?_
  refine r_aload_n dX10_init_142 rfl ?_
  refine r_iconst (1) dX10_init_143 rfl ?_
  refine a_putI (i := 0) (l := 0) dX10_init_144 (fpX10_56 _ rfl) rfl ⟨rfl, rfl⟩ hn rfl rfl (by exact Nat.le_of_ble_eq_true rfl) (by exact Nat.le_of_ble_eq_true rfl) (I' := qX10_I61) rfl ?_
  refine r_return dX10_init_147 rfl ?_
  exact k
def qX0_R1 : List (List Nat) := stG [List.replicate 9 0] 0 0 5
def qX0_S2 : List (Nat × Nat) := [(0, 0)] ++ fX9_S
def qX0_R3 : List (List Nat) := qX0_R1 ++ fX9_R (160)
def qX0_I4 : List (List Int32) := [List.replicate 9 0] ++ fX9_I
def qX0_R5 : List (List Nat) := stG qX0_R3 0 1 160
def qX0_S6 : List (Nat × Nat) := qX0_S2 ++ fX2_S
def qX0_R7 : List (List Nat) := qX0_R5 ++ fX2_R (164)
def qX0_I8 : List (List Int32) := qX0_I4 ++ fX2_I
def qX0_R9 : List (List Nat) := stG qX0_R7 0 2 164
def qX0_S10 : List (Nat × Nat) := qX0_S6 ++ fX6_S
def qX0_R11 : List (List Nat) := qX0_R9 ++ fX6_R (165)
def qX0_I12 : List (List Int32) := qX0_I8 ++ fX6_I
def qX0_R13 : List (List Nat) := stG qX0_R11 0 3 165
def qX0_S14 : List (Nat × Nat) := qX0_S10 ++ fX6_S
def qX0_R15 : List (List Nat) := qX0_R13 ++ fX6_R (166)
def qX0_I16 : List (List Int32) := qX0_I12 ++ fX6_I
def qX0_R17 : List (List Nat) := stG qX0_R15 0 4 166
def fX0_S : List (Nat × Nat) := qX0_S14
def fX0_R : List (List Nat) := qX0_R17
def fX0_I : List (List Int32) := qX0_I16
set_option maxHeartbeats 4000000 in
theorem C_X0 {g : GG} {m : MM} {Q : Out → Prop} (hn : nx m = 159) (k : Q (.inl none, ap m fX0_S fX0_R fX0_I)) : Cl g 2 7 106 mX0_init [.ref 159, .ref 5] (ap m [(0, 0)] [List.replicate 9 0] [List.replicate 9 0]) Q := by
  skip
  refine Cl.of rfl (by decide) (Nat.le_of_ble_eq_true rfl) ?_
  show Wp g mX0_init 2 7 106 0 [.ref (159), .ref (5)] [] _ Q
  refine r_aload_n dX0_init_0 rfl ?_
  refine r_objinit dX0_init_1 oiX0_3 oi_i oi_c (by omega) (Nat.le_of_ble_eq_true rfl) (by exact Nat.le_of_ble_eq_true rfl) ?_
  refine r_aload_n dX0_init_4 rfl ?_
  refine r_aload_n dX0_init_5 rfl ?_
  refine a_putR (i := 0) (l := 0) dX0_init_6 (fpX0_9 _ rfl rfl) rfl hn (by decide +kernel) (by decide +kernel) (by decide +kernel) (by decide +kernel) (R' := qX0_R1) rfl ?_
  refine r_aload_n dX0_init_9 rfl ?_
  refine b_new (ci := 9) 6 6 ⟨by decide +kernel, by decide +kernel⟩ dX0_init_10 (Nat.le_of_ble_eq_true rfl) clX0_15 inX9.1 inX9.2 hn (a := 160) (by decide +kernel) ?_
  refine r_dup dX0_init_13 rfl ?_
  refine r_callI0 (d1 := 1) (c1 := 3) (n1 := 82) dX0_init_14 miX0_17 (Nat.le_of_ble_eq_true rfl) (by exact Nat.le_of_ble_eq_true rfl) (by omega) ?_
  refine C_X9 (nx_at hn (by decide +kernel)) ?_
  show Wp g mX0_init _ _ _ 17 _ (_ :: _) _ Q
  refine a_merge ⟨by decide +kernel, by decide +kernel⟩ (S' := qX0_S2) (R' := qX0_R3) (I' := qX0_I4) rfl rfl rfl ?_
  refine a_putR (i := 0) (l := 0) dX0_init_17 (fpX0_18 _ rfl rfl) rfl hn (by decide +kernel) (by decide +kernel) (by decide +kernel) (by decide +kernel) (R' := qX0_R5) rfl ?_
  refine r_aload_n dX0_init_20 rfl ?_
  refine b_new (ci := 2) 6 6 ⟨by decide +kernel, by decide +kernel⟩ dX0_init_21 (Nat.le_of_ble_eq_true rfl) clX0_22 inX2.1 inX2.2 hn (a := 164) (by decide +kernel) ?_
  refine r_dup dX0_init_24 rfl ?_
  refine r_callI0 (d1 := 1) (c1 := 0) (n1 := 0) dX0_init_25 miX0_24 (Nat.le_of_ble_eq_true rfl) (by exact Nat.le_of_ble_eq_true rfl) (by omega) ?_
  refine C_X2 (nx_at hn (by decide +kernel)) ?_
  show Wp g mX0_init _ _ _ 28 _ (_ :: _) _ Q
  refine a_merge ⟨by decide +kernel, by decide +kernel⟩ (S' := qX0_S6) (R' := qX0_R7) (I' := qX0_I8) rfl rfl rfl ?_
  refine a_putR (i := 0) (l := 0) dX0_init_28 (fpX0_25 _ rfl rfl) rfl hn (by decide +kernel) (by decide +kernel) (by decide +kernel) (by decide +kernel) (R' := qX0_R9) rfl ?_
  refine r_aload_n dX0_init_31 rfl ?_
  refine b_new (ci := 6) 6 6 ⟨by decide +kernel, by decide +kernel⟩ dX0_init_32 (Nat.le_of_ble_eq_true rfl) clX0_29 inX6.1 inX6.2 hn (a := 165) (by decide +kernel) ?_
  refine r_dup dX0_init_35 rfl ?_
  refine r_callI0 (d1 := 1) (c1 := 0) (n1 := 0) dX0_init_36 miX0_31 (Nat.le_of_ble_eq_true rfl) (by exact Nat.le_of_ble_eq_true rfl) (by omega) ?_
  refine C_X6 (nx_at hn (by decide +kernel)) ?_
  show Wp g mX0_init _ _ _ 39 _ (_ :: _) _ Q
  refine a_merge ⟨by decide +kernel, by decide +kernel⟩ (S' := qX0_S10) (R' := qX0_R11) (I' := qX0_I12) rfl rfl rfl ?_
  refine a_putR (i := 0) (l := 0) dX0_init_39 (fpX0_32 _ rfl rfl) rfl hn (by decide +kernel) (by decide +kernel) (by decide +kernel) (by decide +kernel) (R' := qX0_R13) rfl ?_
  refine r_aload_n dX0_init_42 rfl ?_
  refine b_new (ci := 6) 6 6 ⟨by decide +kernel, by decide +kernel⟩ dX0_init_43 (Nat.le_of_ble_eq_true rfl) clX0_29 inX6.1 inX6.2 hn (a := 166) (by decide +kernel) ?_
  refine r_dup dX0_init_46 rfl ?_
  refine r_callI0 (d1 := 1) (c1 := 0) (n1 := 0) dX0_init_47 miX0_31 (Nat.le_of_ble_eq_true rfl) (by exact Nat.le_of_ble_eq_true rfl) (by omega) ?_
  refine C_X6 (nx_at hn (by decide +kernel)) ?_
  show Wp g mX0_init _ _ _ 50 _ (_ :: _) _ Q
  refine a_merge ⟨by decide +kernel, by decide +kernel⟩ (S' := qX0_S14) (R' := qX0_R15) (I' := qX0_I16) rfl rfl rfl ?_
  refine a_putR (i := 0) (l := 0) dX0_init_50 (fpX0_36 _ rfl rfl) rfl hn (by decide +kernel) (by decide +kernel) (by decide +kernel) (by decide +kernel) (R' := qX0_R17) rfl ?_
  refine r_return dX0_init_53 rfl ?_
  exact k
