def qX11_S1 : List (Nat × Nat) := [(11, 0)] ++ fX10_S
def qX11_R2 : List (List Nat) := [List.replicate 9 0] ++ fX10_R (5)
def qX11_I3 : List (List Int32) := [List.replicate 9 0] ++ fX10_I
def qX11_R4 : List (List Nat) := stG qX11_R2 0 0 5
def qX11_S5 : List (Nat × Nat) := qX11_S1 ++ [(17, 3)]
def qX11_R6 : List (List Nat) := qX11_R4 ++ [List.replicate 3 0]
def qX11_I7 : List (List Int32) := qX11_I3 ++ [[]]
def qX11_R8 : List (List Nat) := stG qX11_R6 0 1 41
def qX11_S9 : List (Nat × Nat) := qX11_S5 ++ fX10_S
def qX11_R10 : List (List Nat) := qX11_R8 ++ fX10_R (42)
def qX11_I11 : List (List Int32) := qX11_I7 ++ fX10_I
def qX11_R12 : List (List Nat) := stG qX11_R10 37 0 (42)
def qX11_S13 : List (Nat × Nat) := qX11_S9 ++ fX10_S
def qX11_R14 : List (List Nat) := qX11_R12 ++ fX10_R (78)
def qX11_I15 : List (List Int32) := qX11_I11 ++ fX10_I
def qX11_R16 : List (List Nat) := stG qX11_R14 37 1 (78)
def qX11_S17 : List (Nat × Nat) := qX11_S13 ++ fX10_S
def qX11_R18 : List (List Nat) := qX11_R16 ++ fX10_R (114)
def qX11_I19 : List (List Int32) := qX11_I15 ++ fX10_I
def qX11_R20 : List (List Nat) := stG qX11_R18 37 2 (114)
def qX11_S21 : List (Nat × Nat) := qX11_S17 ++ fX5_400_S
def qX11_R22 : List (List Nat) := qX11_R20 ++ fX5_400_R (150)
def qX11_I23 : List (List Int32) := qX11_I19 ++ fX5_400_I
def qX11_R24 : List (List Nat) := stG qX11_R22 0 2 150
def qX11_S25 : List (Nat × Nat) := qX11_S21 ++ fX4_S
def qX11_R26 : List (List Nat) := qX11_R24 ++ fX4_R (152)
def qX11_I27 : List (List Int32) := qX11_I23 ++ fX4_I
def qX11_R28 : List (List Nat) := stG qX11_R26 0 3 152
def qX11_S29 : List (Nat × Nat) := qX11_S25 ++ fX7_4_S
def qX11_R30 : List (List Nat) := qX11_R28 ++ fX7_4_R (155)
def qX11_I31 : List (List Int32) := qX11_I27 ++ fX7_4_I
def qX11_R32 : List (List Nat) := stG qX11_R30 0 4 155
def qX11_S33 : List (Nat × Nat) := qX11_S29 ++ fX7_3_S
def qX11_R34 : List (List Nat) := qX11_R32 ++ fX7_3_R (157)
def qX11_I35 : List (List Int32) := qX11_I31 ++ fX7_3_I
def qX11_R36 : List (List Nat) := stG qX11_R34 0 5 157
def qX11_S37 : List (Nat × Nat) := qX11_S33 ++ fX0_S
def qX11_R38 : List (List Nat) := qX11_R36 ++ fX0_R
def qX11_I39 : List (List Int32) := qX11_I35 ++ fX0_I
def qX11_R40 : List (List Nat) := stG qX11_R38 0 6 159
def qX11_I41 : List (List Int32) := stG qX11_I39 0 8 (-1)
def fX11_S : List (Nat × Nat) := qX11_S37
def fX11_R : List (List Nat) := qX11_R40
def fX11_I : List (List Int32) := qX11_I41
set_option maxHeartbeats 4000000 in
theorem C_X11 {g : GG} {m : MM} {Q : Out → Prop} (hn : nx m = 4) (k : Q (.inl none, ap m fX11_S fX11_R fX11_I)) : Cl g 4 162 4046 mX11_init [.ref 4] (ap m [(11, 0)] [List.replicate 9 0] [List.replicate 9 0]) Q := by
  skip
  refine Cl.of rfl (by decide) (Nat.le_of_ble_eq_true rfl) ?_
  show Wp g mX11_init 4 162 4046 0 [.ref (4), .retAddr 0, .retAddr 0] [] _ Q
  refine r_aload_n dX11_init_0 rfl ?_
  refine r_objinit dX11_init_1 oiX11_3 oi_i oi_c (by omega) (Nat.le_of_ble_eq_true rfl) (by exact Nat.le_of_ble_eq_true rfl) ?_
  refine b_new (ci := 10) 11 11 ⟨by decide +kernel, by decide +kernel⟩ dX11_init_4 (Nat.le_of_ble_eq_true rfl) clX11_9 inX10.1 inX10.2 hn (a := 5) (by decide +kernel) ?_
  refine r_dup dX11_init_7 rfl ?_
  refine r_callI0 (d1 := 3) (c1 := 35) (n1 := 665) dX11_init_8 miX11_11 (Nat.le_of_ble_eq_true rfl) (by exact Nat.le_of_ble_eq_true rfl) (by omega) ?_
  refine C_X10 (nx_at hn (by decide +kernel)) ?_
  show Wp g mX11_init _ _ _ 11 _ (_ :: _) _ Q
  refine a_merge ⟨by decide +kernel, by decide +kernel⟩ (S' := qX11_S1) (R' := qX11_R2) (I' := qX11_I3) rfl rfl rfl ?_
  refine sa_1 dX11_init_11 rfl (Nat.le_of_ble_eq_true rfl) ?_
  refine r_aload_n dX11_init_12 rfl ?_
  refine r_aload_n dX11_init_13 rfl ?_
  refine a_putR (i := 0) (l := 0) dX11_init_14 (fpX11_12 _ rfl rfl) rfl hn (by decide +kernel) (by decide +kernel) (by decide +kernel) (by decide +kernel) (R' := qX11_R4) rfl ?_
  refine r_aload_n dX11_init_17 rfl ?_
  refine r_iconst (3) dX11_init_18 rfl ?_
  refine a_newA (ci := 10) (q := 17) 3 ⟨by decide +kernel, by decide +kernel⟩ dX11_init_19 (Or.inr (Or.inr ⟨rfl, rfl⟩)) clX11_9 (by decide) (by decide) (by decide) 3 hn (S' := qX11_S5) (R' := qX11_R6) (I' := qX11_I7) rfl rfl rfl (a := 41) (by decide +kernel) ?_
  refine a_putR (i := 0) (l := 0) dX11_init_22 (fpX11_16 _ rfl rfl) rfl hn (by decide +kernel) (by decide +kernel) (by decide +kernel) (by decide +kernel) (R' := qX11_R8) rfl ?_
  refine r_iconst (0) dX11_init_25 rfl ?_
  refine si_2 dX11_init_26 rfl (Nat.le_of_ble_eq_true rfl) ?_
  refine r_iload_n dX11_init_27 rfl ?_
  refine r_aload_n dX11_init_28 rfl ?_
  refine a_getR (i := 0) (l := 0) (x := 41) dX11_init_29 fgX11_16 rfl hn (by decide +kernel) (by decide +kernel) (by decide +kernel) ?_
  refine a_alen (i := 37) (q := 17) (l := 3) (3) dX11_init_32 ⟨by decide, by decide⟩ hn (by decide +kernel) (by decide +kernel) rfl ?_
  refine r_icmp_ge 55 dX11_init_33 rfl (fun hz => absurd hz (by decide)) (fun _ => ?_)
  refine r_aload_n dX11_init_36 rfl ?_
  refine a_getR (i := 0) (l := 0) (x := 41) dX11_init_37 fgX11_16 rfl hn (by decide +kernel) (by decide +kernel) (by decide +kernel) ?_
  refine r_iload_n dX11_init_40 rfl ?_
  refine b_new (ci := 10) 11 11 ⟨by decide +kernel, by decide +kernel⟩ dX11_init_41 (Nat.le_of_ble_eq_true rfl) clX11_9 inX10.1 inX10.2 hn (a := 42) (by decide +kernel) ?_
  refine r_dup dX11_init_44 rfl ?_
  refine r_callI0 (d1 := 3) (c1 := 35) (n1 := 665) dX11_init_45 miX11_11 (Nat.le_of_ble_eq_true rfl) (by exact Nat.le_of_ble_eq_true rfl) (by omega) ?_
  refine C_X10 (nx_at hn (by decide +kernel)) ?_
  show Wp g mX11_init _ _ _ 48 _ (_ :: _) _ Q
  refine a_merge ⟨by decide +kernel, by decide +kernel⟩ (S' := qX11_S9) (R' := qX11_R10) (I' := qX11_I11) rfl rfl rfl ?_
  refine a_aast (i := 37) (i2 := 38) (j := 0) (q := 17) (l := 3) (ci := 10) (l2 := 0) dX11_init_48 (Or.inr (Or.inr ⟨rfl, rfl⟩)) hn (by decide +kernel) (by decide +kernel) (by decide +kernel) (by decide +kernel) (vin (j := 0) (by omega) (by omega)) (by decide) (by decide +kernel) (by decide +kernel) (R' := qX11_R12) rfl ?_
  refine ic_2 (1) dX11_init_49 rfl rfl (Nat.le_of_ble_eq_true rfl) ?_
  refine w_ls (ls' := [.ref (4), .ref (5), .int (1)]) (congrArg (fun q : Int32 => ([.ref (4), .ref (5), .int q] : List Value)) (show (0 : Int32) + 1 = 1 from by decide)) ?_
  refine r_goto 27 dX11_init_52 rfl ?_
  refine r_iload_n dX11_init_27 rfl ?_
  refine r_aload_n dX11_init_28 rfl ?_
  refine a_getR (i := 0) (l := 0) (x := 41) dX11_init_29 fgX11_16 rfl hn (by decide +kernel) (by decide +kernel) (by decide +kernel) ?_
  refine a_alen (i := 37) (q := 17) (l := 3) (3) dX11_init_32 ⟨by decide, by decide⟩ hn (by decide +kernel) (by decide +kernel) rfl ?_
  refine r_icmp_ge 55 dX11_init_33 rfl (fun hz => absurd hz (by decide)) (fun _ => ?_)
  refine r_aload_n dX11_init_36 rfl ?_
  refine a_getR (i := 0) (l := 0) (x := 41) dX11_init_37 fgX11_16 rfl hn (by decide +kernel) (by decide +kernel) (by decide +kernel) ?_
  refine r_iload_n dX11_init_40 rfl ?_
  refine b_new (ci := 10) 11 11 ⟨by decide +kernel, by decide +kernel⟩ dX11_init_41 (Nat.le_of_ble_eq_true rfl) clX11_9 inX10.1 inX10.2 hn (a := 78) (by decide +kernel) ?_
  refine r_dup dX11_init_44 rfl ?_
  refine r_callI0 (d1 := 3) (c1 := 35) (n1 := 665) dX11_init_45 miX11_11 (Nat.le_of_ble_eq_true rfl) (by exact Nat.le_of_ble_eq_true rfl) (by omega) ?_
  refine C_X10 (nx_at hn (by decide +kernel)) ?_
  show Wp g mX11_init _ _ _ 48 _ (_ :: _) _ Q
  refine a_merge ⟨by decide +kernel, by decide +kernel⟩ (S' := qX11_S13) (R' := qX11_R14) (I' := qX11_I15) rfl rfl rfl ?_
  refine a_aast (i := 37) (i2 := 74) (j := 1) (q := 17) (l := 3) (ci := 10) (l2 := 0) dX11_init_48 (Or.inr (Or.inr ⟨rfl, rfl⟩)) hn (by decide +kernel) (by decide +kernel) (by decide +kernel) (by decide +kernel) (vin (j := 1) (by omega) (by omega)) (by decide) (by decide +kernel) (by decide +kernel) (R' := qX11_R16) rfl ?_
  refine ic_2 (1) dX11_init_49 rfl rfl (Nat.le_of_ble_eq_true rfl) ?_
  refine w_ls (ls' := [.ref (4), .ref (5), .int (2)]) (congrArg (fun q : Int32 => ([.ref (4), .ref (5), .int q] : List Value)) (show (1 : Int32) + 1 = 2 from by decide)) ?_
  refine r_goto 27 dX11_init_52 rfl ?_
  refine r_iload_n dX11_init_27 rfl ?_
  refine r_aload_n dX11_init_28 rfl ?_
  refine a_getR (i := 0) (l := 0) (x := 41) dX11_init_29 fgX11_16 rfl hn (by decide +kernel) (by decide +kernel) (by decide +kernel) ?_
  refine a_alen (i := 37) (q := 17) (l := 3) (3) dX11_init_32 ⟨by decide, by decide⟩ hn (by decide +kernel) (by decide +kernel) rfl ?_
  refine r_icmp_ge 55 dX11_init_33 rfl (fun hz => absurd hz (by decide)) (fun _ => ?_)
  refine r_aload_n dX11_init_36 rfl ?_
  refine a_getR (i := 0) (l := 0) (x := 41) dX11_init_37 fgX11_16 rfl hn (by decide +kernel) (by decide +kernel) (by decide +kernel) ?_
  refine r_iload_n dX11_init_40 rfl ?_
  refine b_new (ci := 10) 11 11 ⟨by decide +kernel, by decide +kernel⟩ dX11_init_41 (Nat.le_of_ble_eq_true rfl) clX11_9 inX10.1 inX10.2 hn (a := 114) (by decide +kernel) ?_
  refine r_dup dX11_init_44 rfl ?_
  refine r_callI0 (d1 := 3) (c1 := 35) (n1 := 665) dX11_init_45 miX11_11 (Nat.le_of_ble_eq_true rfl) (by exact Nat.le_of_ble_eq_true rfl) (by omega) ?_
  refine C_X10 (nx_at hn (by decide +kernel)) ?_
  show Wp g mX11_init _ _ _ 48 _ (_ :: _) _ Q
  refine a_merge ⟨by decide +kernel, by decide +kernel⟩ (S' := qX11_S17) (R' := qX11_R18) (I' := qX11_I19) rfl rfl rfl ?_
  refine a_aast (i := 37) (i2 := 110) (j := 2) (q := 17) (l := 3) (ci := 10) (l2 := 0) dX11_init_48 (Or.inr (Or.inr ⟨rfl, rfl⟩)) hn (by decide +kernel) (by decide +kernel) (by decide +kernel) (by decide +kernel) (vin (j := 2) (by omega) (by omega)) (by decide) (by decide +kernel) (by decide +kernel) (R' := qX11_R20) rfl ?_
  refine ic_2 (1) dX11_init_49 rfl rfl (Nat.le_of_ble_eq_true rfl) ?_
  refine w_ls (ls' := [.ref (4), .ref (5), .int (3)]) (congrArg (fun q : Int32 => ([.ref (4), .ref (5), .int q] : List Value)) (show (2 : Int32) + 1 = 3 from by decide)) ?_
  refine r_goto 27 dX11_init_52 rfl ?_
  refine r_iload_n dX11_init_27 rfl ?_
  refine r_aload_n dX11_init_28 rfl ?_
  refine a_getR (i := 0) (l := 0) (x := 41) dX11_init_29 fgX11_16 rfl hn (by decide +kernel) (by decide +kernel) (by decide +kernel) ?_
  refine a_alen (i := 37) (q := 17) (l := 3) (3) dX11_init_32 ⟨by decide, by decide⟩ hn (by decide +kernel) (by decide +kernel) rfl ?_
  refine r_icmp_ge 55 dX11_init_33 rfl (fun _ => ?_) (fun hz => absurd hz (by decide))
  refine r_aload_n dX11_init_55 rfl ?_
  refine b_new (ci := 5) 2 2 ⟨by decide +kernel, by decide +kernel⟩ dX11_init_56 (Nat.le_of_ble_eq_true rfl) clX11_20 inX5.1 inX5.2 hn (a := 150) (by decide +kernel) ?_
  refine r_dup dX11_init_59 rfl ?_
  refine r_sipush (400) dX11_init_60 rfl ?_
  refine r_callI1 (d1 := 1) (c1 := 1) (n1 := 400) dX11_init_63 miX11_22 (Nat.le_of_ble_eq_true rfl) (by exact Nat.le_of_ble_eq_true rfl) (by omega) ?_
  refine C_X5_400 (nx_at hn (by decide +kernel)) ?_
  show Wp g mX11_init _ _ _ 66 _ (_ :: _) _ Q
  refine a_merge ⟨by decide +kernel, by decide +kernel⟩ (S' := qX11_S21) (R' := qX11_R22) (I' := qX11_I23) rfl rfl rfl ?_
  refine a_putR (i := 0) (l := 0) dX11_init_66 (fpX11_25 _ rfl rfl) rfl hn (by decide +kernel) (by decide +kernel) (by decide +kernel) (by decide +kernel) (R' := qX11_R24) rfl ?_
  refine r_aload_n dX11_init_69 rfl ?_
  refine b_new (ci := 4) 11 11 ⟨by decide +kernel, by decide +kernel⟩ dX11_init_70 (Nat.le_of_ble_eq_true rfl) clX11_29 inX4.1 inX4.2 hn (a := 152) (by decide +kernel) ?_
  refine r_dup dX11_init_73 rfl ?_
  refine r_callI0 (d1 := 1) (c1 := 2) (n1 := 800) dX11_init_74 miX11_31 (Nat.le_of_ble_eq_true rfl) (by exact Nat.le_of_ble_eq_true rfl) (by omega) ?_
  refine C_X4 (nx_at hn (by decide +kernel)) ?_
  show Wp g mX11_init _ _ _ 77 _ (_ :: _) _ Q
  refine a_merge ⟨by decide +kernel, by decide +kernel⟩ (S' := qX11_S25) (R' := qX11_R26) (I' := qX11_I27) rfl rfl rfl ?_
  refine a_putR (i := 0) (l := 0) dX11_init_77 (fpX11_32 _ rfl rfl) rfl hn (by decide +kernel) (by decide +kernel) (by decide +kernel) (by decide +kernel) (R' := qX11_R28) rfl ?_
  refine r_aload_n dX11_init_80 rfl ?_
  refine b_new (ci := 7) 2 2 ⟨by decide +kernel, by decide +kernel⟩ dX11_init_81 (Nat.le_of_ble_eq_true rfl) clX11_36 inX7.1 inX7.2 hn (a := 155) (by decide +kernel) ?_
  refine r_dup dX11_init_84 rfl ?_
  refine r_iconst (4) dX11_init_85 rfl ?_
  refine r_callI1 (d1 := 1) (c1 := 1) (n1 := 4) dX11_init_86 miX11_38 (Nat.le_of_ble_eq_true rfl) (by exact Nat.le_of_ble_eq_true rfl) (by omega) ?_
  refine C_X7_4 (nx_at hn (by decide +kernel)) ?_
  show Wp g mX11_init _ _ _ 89 _ (_ :: _) _ Q
  refine a_merge ⟨by decide +kernel, by decide +kernel⟩ (S' := qX11_S29) (R' := qX11_R30) (I' := qX11_I31) rfl rfl rfl ?_
  refine a_putR (i := 0) (l := 0) dX11_init_89 (fpX11_39 _ rfl rfl) rfl hn (by decide +kernel) (by decide +kernel) (by decide +kernel) (by decide +kernel) (R' := qX11_R32) rfl ?_
  refine r_aload_n dX11_init_92 rfl ?_
  refine b_new (ci := 7) 2 2 ⟨by decide +kernel, by decide +kernel⟩ dX11_init_93 (Nat.le_of_ble_eq_true rfl) clX11_36 inX7.1 inX7.2 hn (a := 157) (by decide +kernel) ?_
  refine r_dup dX11_init_96 rfl ?_
  refine r_iconst (3) dX11_init_97 rfl ?_
  refine r_callI1 (d1 := 1) (c1 := 1) (n1 := 3) dX11_init_98 miX11_38 (Nat.le_of_ble_eq_true rfl) (by exact Nat.le_of_ble_eq_true rfl) (by omega) ?_
  refine C_X7_3 (nx_at hn (by decide +kernel)) ?_
  show Wp g mX11_init _ _ _ 101 _ (_ :: _) _ Q
  refine a_merge ⟨by decide +kernel, by decide +kernel⟩ (S' := qX11_S33) (R' := qX11_R34) (I' := qX11_I35) rfl rfl rfl ?_
  refine a_putR (i := 0) (l := 0) dX11_init_101 (fpX11_43 _ rfl rfl) rfl hn (by decide +kernel) (by decide +kernel) (by decide +kernel) (by decide +kernel) (R' := qX11_R36) rfl ?_
  refine r_aload_n dX11_init_104 rfl ?_
  refine b_new (ci := 0) 9 9 ⟨by decide +kernel, by decide +kernel⟩ dX11_init_105 (Nat.le_of_ble_eq_true rfl) clX11_46 inX0.1 inX0.2 hn (a := 159) (by decide +kernel) ?_
  refine r_dup dX11_init_108 rfl ?_
  refine r_aload_n dX11_init_109 rfl ?_
  refine r_callI1 (d1 := 2) (c1 := 7) (n1 := 106) dX11_init_110 miX11_48 (Nat.le_of_ble_eq_true rfl) (by exact Nat.le_of_ble_eq_true rfl) (by omega) ?_
  refine C_X0 (nx_at hn (by decide +kernel)) ?_
  show Wp g mX11_init _ _ _ 113 _ (_ :: _) _ Q
  refine a_merge ⟨by decide +kernel, by decide +kernel⟩ (S' := qX11_S37) (R' := qX11_R38) (I' := qX11_I39) rfl rfl rfl ?_
  refine a_putR (i := 0) (l := 0) dX11_init_113 (fpX11_51 _ rfl rfl) rfl hn (by decide +kernel) (by decide +kernel) (by decide +kernel) (by decide +kernel) (R' := qX11_R40) rfl ?_
  refine r_aload_n dX11_init_116 rfl ?_
  refine r_iconst (-1) dX11_init_117 rfl ?_
  refine a_putI (i := 0) (l := 0) dX11_init_118 (fpX11_55 _ rfl) rfl ⟨rfl, rfl⟩ hn (by decide +kernel) (by decide +kernel) (by decide +kernel) (by decide +kernel) (I' := qX11_I41) rfl ?_
  refine r_return dX11_init_121 rfl ?_
  exact k
def qX12_I1 : List (List Int32) := stG [List.replicate 45 0] 0 3 (-1)
def qX12_S2 : List (Nat × Nat) := [(12, 0)] ++ [(13, 400)]
def qX12_R3 : List (List Nat) := [List.replicate 45 0] ++ [[]]
def qX12_I4 : List (List Int32) := qX12_I1 ++ [List.replicate 0 0]
def qX12_R5 : List (List Nat) := stG qX12_R3 0 10 168
def qX12_S6 : List (Nat × Nat) := qX12_S2 ++ (18, 7) :: List.replicate 7 (13, 400)
def qX12_R7 : List (List Nat) := qX12_R5 ++ (List.range 7).map (fun j => 169 + 1 + j) :: List.replicate 7 []
def qX12_I8 : List (List Int32) := qX12_I4 ++ [] :: List.replicate 7 []
def qX12_R9 : List (List Nat) := stG qX12_R7 0 11 169
def qX12_S10 : List (Nat × Nat) := qX12_S6 ++ [(13, 7)]
def qX12_R11 : List (List Nat) := qX12_R9 ++ [[]]
def qX12_I12 : List (List Int32) := qX12_I8 ++ [List.replicate 0 0]
def qX12_R13 : List (List Nat) := stG qX12_R11 0 12 177
def qX12_S14 : List (Nat × Nat) := qX12_S10 ++ [(14, 10)]
def qX12_R15 : List (List Nat) := qX12_R13 ++ [[]]
def qX12_I16 : List (List Int32) := qX12_I12 ++ [[]]
def qX12_R17 : List (List Nat) := stG qX12_R15 0 16 178
def qX12_S18 : List (Nat × Nat) := qX12_S14 ++ [(14, 8)]
def qX12_R19 : List (List Nat) := qX12_R17 ++ [[]]
def qX12_I20 : List (List Int32) := qX12_I16 ++ [[]]
def qX12_R21 : List (List Nat) := stG qX12_R19 0 17 179
def qX12_S22 : List (Nat × Nat) := qX12_S18 ++ [(13, 6)]
def qX12_R23 : List (List Nat) := qX12_R21 ++ [[]]
def qX12_I24 : List (List Int32) := qX12_I20 ++ [List.replicate 0 0]
def qX12_R25 : List (List Nat) := stG qX12_R23 0 20 180
def qX12_S26 : List (Nat × Nat) := qX12_S22 ++ [(13, 6)]
def qX12_R27 : List (List Nat) := qX12_R25 ++ [[]]
def qX12_I28 : List (List Int32) := qX12_I24 ++ [List.replicate 0 0]
def qX12_R29 : List (List Nat) := stG qX12_R27 0 21 181
def qX12_S30 : List (Nat × Nat) := qX12_S26 ++ (18, 6) :: List.replicate 6 (13, 12)
def qX12_R31 : List (List Nat) := qX12_R29 ++ (List.range 6).map (fun j => 182 + 1 + j) :: List.replicate 6 []
def qX12_I32 : List (List Int32) := qX12_I28 ++ [] :: List.replicate 6 []
def qX12_R33 : List (List Nat) := stG qX12_R31 0 22 182
def qX12_S34 : List (Nat × Nat) := qX12_S30 ++ (18, 6) :: List.replicate 6 (13, 12)
def qX12_R35 : List (List Nat) := qX12_R33 ++ (List.range 6).map (fun j => 189 + 1 + j) :: List.replicate 6 []
def qX12_I36 : List (List Int32) := qX12_I32 ++ [] :: List.replicate 6 []
def qX12_R37 : List (List Nat) := stG qX12_R35 0 23 189
def qX12_S38 : List (Nat × Nat) := qX12_S34 ++ [(13, 4)]
def qX12_R39 : List (List Nat) := qX12_R37 ++ [[]]
def qX12_I40 : List (List Int32) := qX12_I36 ++ [List.replicate 0 0]
def qX12_R41 : List (List Nat) := stG qX12_R39 0 24 196
def qX12_S42 : List (Nat × Nat) := qX12_S38 ++ [(13, 4)]
def qX12_R43 : List (List Nat) := qX12_R41 ++ [[]]
def qX12_I44 : List (List Int32) := qX12_I40 ++ [List.replicate 0 0]
def qX12_R45 : List (List Nat) := stG qX12_R43 0 25 197
def qX12_S46 : List (Nat × Nat) := qX12_S42 ++ [(13, 6)]
def qX12_R47 : List (List Nat) := qX12_R45 ++ [[]]
def qX12_I48 : List (List Int32) := qX12_I44 ++ [List.replicate 6 0]
def qX12_I49 : List (List Int32) := stG qX12_I48 31 0 (0)
def qX12_I50 : List (List Int32) := stG qX12_I49 31 1 (1)
def qX12_I51 : List (List Int32) := stG qX12_I50 31 2 (1)
def qX12_I52 : List (List Int32) := stG qX12_I51 31 3 (-1)
def qX12_I53 : List (List Int32) := stG qX12_I52 31 4 (0)
def qX12_I54 : List (List Int32) := stG qX12_I53 31 5 (0)
def qX12_R55 : List (List Nat) := stG qX12_R47 0 26 198
def qX12_I56 : List (List Int32) := stG qX12_I54 0 31 (1)
def qX12_S57 : List (Nat × Nat) := qX12_S46 ++ (18, 60) :: List.replicate 60 (13, 7)
def qX12_R58 : List (List Nat) := qX12_R55 ++ (List.range 60).map (fun j => 199 + 1 + j) :: List.replicate 60 []
def qX12_I59 : List (List Int32) := qX12_I56 ++ [] :: List.replicate 60 []
def qX12_R60 : List (List Nat) := stG qX12_R58 0 32 199
def qX12_S61 : List (Nat × Nat) := qX12_S57 ++ [(13, 20)]
def qX12_R62 : List (List Nat) := qX12_R60 ++ [[]]
def qX12_I63 : List (List Int32) := qX12_I59 ++ [List.replicate 0 0]
def qX12_R64 : List (List Nat) := stG qX12_R62 0 33 260
def qX12_S65 : List (Nat × Nat) := qX12_S61 ++ [(13, 20)]
def qX12_R66 : List (List Nat) := qX12_R64 ++ [[]]
def qX12_I67 : List (List Int32) := qX12_I63 ++ [List.replicate 0 0]
def qX12_R68 : List (List Nat) := stG qX12_R66 0 34 261
def qX12_S69 : List (Nat × Nat) := qX12_S65 ++ [(13, 20)]
def qX12_R70 : List (List Nat) := qX12_R68 ++ [[]]
def qX12_I71 : List (List Int32) := qX12_I67 ++ [List.replicate 0 0]
def qX12_R72 : List (List Nat) := stG qX12_R70 0 35 262
def qX12_S73 : List (Nat × Nat) := qX12_S69 ++ (18, 6) :: List.replicate 6 (13, 2)
def qX12_R74 : List (List Nat) := qX12_R72 ++ (List.range 6).map (fun j => 263 + 1 + j) :: List.replicate 6 []
def qX12_I75 : List (List Int32) := qX12_I71 ++ [] :: List.replicate 6 []
def qX12_R76 : List (List Nat) := stG qX12_R74 0 36 263
def qX12_S77 : List (Nat × Nat) := qX12_S73 ++ (18, 8) :: List.replicate 8 (13, 2)
def qX12_R78 : List (List Nat) := qX12_R76 ++ (List.range 8).map (fun j => 270 + 1 + j) :: List.replicate 8 []
def qX12_I79 : List (List Int32) := qX12_I75 ++ [] :: List.replicate 8 []
def qX12_R80 : List (List Nat) := stG qX12_R78 0 37 270
def qX12_S81 : List (Nat × Nat) := qX12_S77 ++ (18, 3) :: List.replicate 3 (13, 800)
def qX12_R82 : List (List Nat) := qX12_R80 ++ (List.range 3).map (fun j => 279 + 1 + j) :: List.replicate 3 []
def qX12_I83 : List (List Int32) := qX12_I79 ++ [] :: List.replicate 3 []
def qX12_R84 : List (List Nat) := stG qX12_R82 0 43 279
def fX12_S : List (Nat × Nat) := qX12_S81
def fX12_R : List (List Nat) := qX12_R84
def fX12_I : List (List Int32) := qX12_I83
set_option maxHeartbeats 4000000 in
theorem C_X12 {g : GG} {m : MM} {Q : Out → Prop} (hn : nx m = 167) (k : Q (.inl none, ap m fX12_S fX12_R fX12_I)) : Cl g 1 115 6399 mX12_init [.ref 167] (ap m [(12, 0)] [List.replicate 45 0] [List.replicate 45 0]) Q := by
  skip
  refine Cl.of rfl (by decide) (Nat.le_of_ble_eq_true rfl) ?_
  show Wp g mX12_init 1 115 6399 0 [.ref (167)] [] _ Q
  refine r_aload_n dX12_init_0 rfl ?_
  refine r_objinit dX12_init_1 oiX12_3 oi_i oi_c (by omega) (Nat.le_of_ble_eq_true rfl) (by exact Nat.le_of_ble_eq_true rfl) ?_
  refine r_aload_n dX12_init_4 rfl ?_
  refine r_iconst (-1) dX12_init_5 rfl ?_
  refine a_putI (i := 0) (l := 0) dX12_init_6 (fpX12_11 _ rfl) rfl ⟨rfl, rfl⟩ hn (by decide +kernel) (by decide +kernel) (by decide +kernel) (by decide +kernel) (I' := qX12_I1) rfl ?_
  refine r_aload_n dX12_init_9 rfl ?_
  refine r_sipush (400) dX12_init_10 rfl ?_
  refine a_newI 400 ⟨by decide +kernel, by decide +kernel⟩ dX12_init_13 (by decide) (by decide) (by decide) 0 hn (S' := qX12_S2) (R' := qX12_R3) (I' := qX12_I4) rfl rfl rfl (a := 168) (by decide +kernel) ?_
  refine a_putR (i := 0) (l := 0) dX12_init_15 (fpX12_15 _ rfl rfl) rfl hn (by decide +kernel) (by decide +kernel) (by decide +kernel) (by decide +kernel) (R' := qX12_R5) rfl ?_
  refine r_aload_n dX12_init_18 rfl ?_
  refine r_bipush (7) dX12_init_19 rfl ?_
  refine r_sipush (400) dX12_init_21 rfl ?_
  refine a_mna 7 400 ⟨by decide +kernel, by decide +kernel⟩ dX12_init_24 (tb_6 125 rfl rfl) (by decide) (by decide) (by decide) (by decide) (by decide) (by decide) hn (a := 169) (by decide +kernel) (S' := qX12_S6) (R' := qX12_R7) (I' := qX12_I8) rfl rfl rfl ?_
  refine a_putR (i := 0) (l := 0) dX12_init_28 (fpX12_21 _ rfl rfl) rfl hn (by decide +kernel) (by decide +kernel) (by decide +kernel) (by decide +kernel) (R' := qX12_R9) rfl ?_
  refine r_aload_n dX12_init_31 rfl ?_
  refine r_bipush (7) dX12_init_32 rfl ?_
  refine a_newI 7 ⟨by decide +kernel, by decide +kernel⟩ dX12_init_34 (by decide) (by decide) (by decide) 0 hn (S' := qX12_S10) (R' := qX12_R11) (I' := qX12_I12) rfl rfl rfl (a := 177) (by decide +kernel) ?_
  refine a_putR (i := 0) (l := 0) dX12_init_36 (fpX12_24 _ rfl rfl) rfl hn (by decide +kernel) (by decide +kernel) (by decide +kernel) (by decide +kernel) (R' := qX12_R13) rfl ?_
  refine r_aload_n dX12_init_39 rfl ?_
  refine r_bipush (10) dX12_init_40 rfl ?_
  refine a_newL 10 ⟨by decide +kernel, by decide +kernel⟩ dX12_init_42 (by decide) (by decide) (by decide) hn (S' := qX12_S14) (R' := qX12_R15) (I' := qX12_I16) rfl rfl rfl (a := 178) (by decide +kernel) ?_
  refine a_putR (i := 0) (l := 0) dX12_init_44 (fpX12_27 _ rfl rfl) rfl hn (by decide +kernel) (by decide +kernel) (by decide +kernel) (by decide +kernel) (R' := qX12_R17) rfl ?_
  refine r_aload_n dX12_init_47 rfl ?_
  refine r_bipush (8) dX12_init_48 rfl ?_
  refine a_newL 8 ⟨by decide +kernel, by decide +kernel⟩ dX12_init_50 (by decide) (by decide) (by decide) hn (S' := qX12_S18) (R' := qX12_R19) (I' := qX12_I20) rfl rfl rfl (a := 179) (by decide +kernel) ?_
  refine a_putR (i := 0) (l := 0) dX12_init_52 (fpX12_31 _ rfl rfl) rfl hn (by decide +kernel) (by decide +kernel) (by decide +kernel) (by decide +kernel) (R' := qX12_R21) rfl ?_
  refine r_aload_n dX12_init_55 rfl ?_
  refine r_bipush (6) dX12_init_56 rfl ?_
  refine a_newI 6 ⟨by decide +kernel, by decide +kernel⟩ dX12_init_58 (by decide) (by decide) (by decide) 0 hn (S' := qX12_S22) (R' := qX12_R23) (I' := qX12_I24) rfl rfl rfl (a := 180) (by decide +kernel) ?_
  refine a_putR (i := 0) (l := 0) dX12_init_60 (fpX12_34 _ rfl rfl) rfl hn (by decide +kernel) (by decide +kernel) (by decide +kernel) (by decide +kernel) (R' := qX12_R25) rfl ?_
  refine r_aload_n dX12_init_63 rfl ?_
  refine r_bipush (6) dX12_init_64 rfl ?_
  refine a_newI 6 ⟨by decide +kernel, by decide +kernel⟩ dX12_init_66 (by decide) (by decide) (by decide) 0 hn (S' := qX12_S26) (R' := qX12_R27) (I' := qX12_I28) rfl rfl rfl (a := 181) (by decide +kernel) ?_
  refine a_putR (i := 0) (l := 0) dX12_init_68 (fpX12_37 _ rfl rfl) rfl hn (by decide +kernel) (by decide +kernel) (by decide +kernel) (by decide +kernel) (R' := qX12_R29) rfl ?_
  refine r_aload_n dX12_init_71 rfl ?_
  refine r_bipush (6) dX12_init_72 rfl ?_
  refine r_bipush (12) dX12_init_74 rfl ?_
  refine a_mna 6 12 ⟨by decide +kernel, by decide +kernel⟩ dX12_init_76 (tb_6 125 rfl rfl) (by decide) (by decide) (by decide) (by decide) (by decide) (by decide) hn (a := 182) (by decide +kernel) (S' := qX12_S30) (R' := qX12_R31) (I' := qX12_I32) rfl rfl rfl ?_
  refine a_putR (i := 0) (l := 0) dX12_init_80 (fpX12_40 _ rfl rfl) rfl hn (by decide +kernel) (by decide +kernel) (by decide +kernel) (by decide +kernel) (R' := qX12_R33) rfl ?_
  refine r_aload_n dX12_init_83 rfl ?_
  refine r_bipush (6) dX12_init_84 rfl ?_
  refine r_bipush (12) dX12_init_86 rfl ?_
  refine a_mna 6 12 ⟨by decide +kernel, by decide +kernel⟩ dX12_init_88 (tb_6 125 rfl rfl) (by decide) (by decide) (by decide) (by decide) (by decide) (by decide) hn (a := 189) (by decide +kernel) (S' := qX12_S34) (R' := qX12_R35) (I' := qX12_I36) rfl rfl rfl ?_
  refine a_putR (i := 0) (l := 0) dX12_init_92 (fpX12_43 _ rfl rfl) rfl hn (by decide +kernel) (by decide +kernel) (by decide +kernel) (by decide +kernel) (R' := qX12_R37) rfl ?_
  refine r_aload_n dX12_init_95 rfl ?_
  refine r_iconst (4) dX12_init_96 rfl ?_
  refine a_newI 4 ⟨by decide +kernel, by decide +kernel⟩ dX12_init_97 (by decide) (by decide) (by decide) 0 hn (S' := qX12_S38) (R' := qX12_R39) (I' := qX12_I40) rfl rfl rfl (a := 196) (by decide +kernel) ?_
  refine a_putR (i := 0) (l := 0) dX12_init_99 (fpX12_46 _ rfl rfl) rfl hn (by decide +kernel) (by decide +kernel) (by decide +kernel) (by decide +kernel) (R' := qX12_R41) rfl ?_
  refine r_aload_n dX12_init_102 rfl ?_
  refine r_iconst (4) dX12_init_103 rfl ?_
  refine a_newI 4 ⟨by decide +kernel, by decide +kernel⟩ dX12_init_104 (by decide) (by decide) (by decide) 0 hn (S' := qX12_S42) (R' := qX12_R43) (I' := qX12_I44) rfl rfl rfl (a := 197) (by decide +kernel) ?_
  refine a_putR (i := 0) (l := 0) dX12_init_106 (fpX12_49 _ rfl rfl) rfl hn (by decide +kernel) (by decide +kernel) (by decide +kernel) (by decide +kernel) (R' := qX12_R45) rfl ?_
  refine r_aload_n dX12_init_109 rfl ?_
  refine r_bipush (6) dX12_init_110 rfl ?_
  refine a_newI 6 ⟨by decide +kernel, by decide +kernel⟩ dX12_init_112 (by decide) (by decide) (by decide) 6 hn (S' := qX12_S46) (R' := qX12_R47) (I' := qX12_I48) rfl rfl rfl (a := 198) (by decide +kernel) ?_
  refine r_dup dX12_init_114 rfl ?_
  refine r_iconst (0) dX12_init_115 rfl ?_
  refine r_iconst (0) dX12_init_116 rfl ?_
  refine a_iast (i := 31) (j := 0) (l := 6) dX12_init_117 hn (by decide +kernel) (by decide +kernel) (vin (j := 0) (by omega) (by omega)) (by decide) (by decide +kernel) (by decide +kernel) (I' := qX12_I49) rfl ?_
  refine r_dup dX12_init_118 rfl ?_
  refine r_iconst (1) dX12_init_119 rfl ?_
  refine r_iconst (1) dX12_init_120 rfl ?_
  refine a_iast (i := 31) (j := 1) (l := 6) dX12_init_121 hn (by decide +kernel) (by decide +kernel) (vin (j := 1) (by omega) (by omega)) (by decide) (by decide +kernel) (by decide +kernel) (I' := qX12_I50) rfl ?_
  refine r_dup dX12_init_122 rfl ?_
  refine r_iconst (2) dX12_init_123 rfl ?_
  refine r_iconst (1) dX12_init_124 rfl ?_
  refine a_iast (i := 31) (j := 2) (l := 6) dX12_init_125 hn (by decide +kernel) (by decide +kernel) (vin (j := 2) (by omega) (by omega)) (by decide) (by decide +kernel) (by decide +kernel) (I' := qX12_I51) rfl ?_
  refine r_dup dX12_init_126 rfl ?_
  refine r_iconst (3) dX12_init_127 rfl ?_
  refine r_iconst (-1) dX12_init_128 rfl ?_
  refine a_iast (i := 31) (j := 3) (l := 6) dX12_init_129 hn (by decide +kernel) (by decide +kernel) (vin (j := 3) (by omega) (by omega)) (by decide) (by decide +kernel) (by decide +kernel) (I' := qX12_I52) rfl ?_
  refine r_dup dX12_init_130 rfl ?_
  refine r_iconst (4) dX12_init_131 rfl ?_
  refine r_iconst (0) dX12_init_132 rfl ?_
  refine a_iast (i := 31) (j := 4) (l := 6) dX12_init_133 hn (by decide +kernel) (by decide +kernel) (vin (j := 4) (by omega) (by omega)) (by decide) (by decide +kernel) (by decide +kernel) (I' := qX12_I53) rfl ?_
  refine r_dup dX12_init_134 rfl ?_
  refine r_iconst (5) dX12_init_135 rfl ?_
  refine r_iconst (0) dX12_init_136 rfl ?_
  refine a_iast (i := 31) (j := 5) (l := 6) dX12_init_137 hn (by decide +kernel) (by decide +kernel) (vin (j := 5) (by omega) (by omega)) (by decide) (by decide +kernel) (by decide +kernel) (I' := qX12_I54) rfl ?_
  refine a_putR (i := 0) (l := 0) dX12_init_138 (fpX12_52 _ rfl rfl) rfl hn (by decide +kernel) (by decide +kernel) (by decide +kernel) (by decide +kernel) (R' := qX12_R55) rfl ?_
  refine r_aload_n dX12_init_141 rfl ?_
  refine r_iconst (1) dX12_init_142 rfl ?_
  refine a_putI (i := 0) (l := 0) dX12_init_143 (fpX12_55 _ rfl) rfl ⟨rfl, rfl⟩ hn (by decide +kernel) (by decide +kernel) (by decide +kernel) (by decide +kernel) (I' := qX12_I56) rfl ?_
  refine r_aload_n dX12_init_146 rfl ?_
  refine r_bipush (60) dX12_init_147 rfl ?_
  refine r_bipush (7) dX12_init_149 rfl ?_
  refine a_mna 60 7 ⟨by decide +kernel, by decide +kernel⟩ dX12_init_151 (tb_6 125 rfl rfl) (by decide) (by decide) (by decide) (by decide) (by decide) (by decide) hn (a := 199) (by decide +kernel) (S' := qX12_S57) (R' := qX12_R58) (I' := qX12_I59) rfl rfl rfl ?_
  refine a_putR (i := 0) (l := 0) dX12_init_155 (fpX12_58 _ rfl rfl) rfl hn (by decide +kernel) (by decide +kernel) (by decide +kernel) (by decide +kernel) (R' := qX12_R60) rfl ?_
  refine r_aload_n dX12_init_158 rfl ?_
  refine r_bipush (20) dX12_init_159 rfl ?_
  refine a_newI 20 ⟨by decide +kernel, by decide +kernel⟩ dX12_init_161 (by decide) (by decide) (by decide) 0 hn (S' := qX12_S61) (R' := qX12_R62) (I' := qX12_I63) rfl rfl rfl (a := 260) (by decide +kernel) ?_
  refine a_putR (i := 0) (l := 0) dX12_init_163 (fpX12_61 _ rfl rfl) rfl hn (by decide +kernel) (by decide +kernel) (by decide +kernel) (by decide +kernel) (R' := qX12_R64) rfl ?_
  refine r_aload_n dX12_init_166 rfl ?_
  refine r_bipush (20) dX12_init_167 rfl ?_
  refine a_newI 20 ⟨by decide +kernel, by decide +kernel⟩ dX12_init_169 (by decide) (by decide) (by decide) 0 hn (S' := qX12_S65) (R' := qX12_R66) (I' := qX12_I67) rfl rfl rfl (a := 261) (by decide +kernel) ?_
  refine a_putR (i := 0) (l := 0) dX12_init_171 (fpX12_64 _ rfl rfl) rfl hn (by decide +kernel) (by decide +kernel) (by decide +kernel) (by decide +kernel) (R' := qX12_R68) rfl ?_
  refine r_aload_n dX12_init_174 rfl ?_
  refine r_bipush (20) dX12_init_175 rfl ?_
  refine a_newI 20 ⟨by decide +kernel, by decide +kernel⟩ dX12_init_177 (by decide) (by decide) (by decide) 0 hn (S' := qX12_S69) (R' := qX12_R70) (I' := qX12_I71) rfl rfl rfl (a := 262) (by decide +kernel) ?_
  refine a_putR (i := 0) (l := 0) dX12_init_179 (fpX12_67 _ rfl rfl) rfl hn (by decide +kernel) (by decide +kernel) (by decide +kernel) (by decide +kernel) (R' := qX12_R72) rfl ?_
  refine r_aload_n dX12_init_182 rfl ?_
  refine r_bipush (6) dX12_init_183 rfl ?_
  refine r_iconst (2) dX12_init_185 rfl ?_
  refine a_mna 6 2 ⟨by decide +kernel, by decide +kernel⟩ dX12_init_186 (tb_6 125 rfl rfl) (by decide) (by decide) (by decide) (by decide) (by decide) (by decide) hn (a := 263) (by decide +kernel) (S' := qX12_S73) (R' := qX12_R74) (I' := qX12_I75) rfl rfl rfl ?_
  refine a_putR (i := 0) (l := 0) dX12_init_190 (fpX12_70 _ rfl rfl) rfl hn (by decide +kernel) (by decide +kernel) (by decide +kernel) (by decide +kernel) (R' := qX12_R76) rfl ?_
  refine r_aload_n dX12_init_193 rfl ?_
  refine r_bipush (8) dX12_init_194 rfl ?_
  refine r_iconst (2) dX12_init_196 rfl ?_
  refine a_mna 8 2 ⟨by decide +kernel, by decide +kernel⟩ dX12_init_197 (tb_6 125 rfl rfl) (by decide) (by decide) (by decide) (by decide) (by decide) (by decide) hn (a := 270) (by decide +kernel) (S' := qX12_S77) (R' := qX12_R78) (I' := qX12_I79) rfl rfl rfl ?_
  refine a_putR (i := 0) (l := 0) dX12_init_201 (fpX12_73 _ rfl rfl) rfl hn (by decide +kernel) (by decide +kernel) (by decide +kernel) (by decide +kernel) (R' := qX12_R80) rfl ?_
  refine r_aload_n dX12_init_204 rfl ?_
  refine r_iconst (3) dX12_init_205 rfl ?_
  refine r_sipush (800) dX12_init_206 rfl ?_
  refine a_mna 3 800 ⟨by decide +kernel, by decide +kernel⟩ dX12_init_209 (tb_6 125 rfl rfl) (by decide) (by decide) (by decide) (by decide) (by decide) (by decide) hn (a := 279) (by decide +kernel) (S' := qX12_S81) (R' := qX12_R82) (I' := qX12_I83) rfl rfl rfl ?_
  refine a_putR (i := 0) (l := 0) dX12_init_213 (fpX12_76 _ rfl rfl) rfl hn (by decide +kernel) (by decide +kernel) (by decide +kernel) (by decide +kernel) (R' := qX12_R84) rfl ?_
  refine r_return dX12_init_216 rfl ?_
  exact k
