theorem sfl_9 : Cond.fieldLink RJ0 9 "java/lang/String" "value" "[B" ∈ TB := (tb_8 186 rfl rfl)
theorem sfl_15 : Cond.fieldLink RJ0 15 "java/lang/String" "coder" "B" ∈ TB := (tb_8 187 rfl rfl)
theorem sfl_38 : Cond.fieldLink RJ0 38 "java/lang/String" "COMPACT_STRINGS" "Z" ∈ TB := (tb_3 212 rfl rfl)
theorem sfl_1053 : Cond.fieldLink RJ0 1053 "jdk/internal/util/Preconditions" "SIOOBE_FORMATTER" "Ljava/util/function/BiFunction;" ∈ TB := (tb_3 228 rfl rfl)
theorem S_coder {g : GG} {m : MM} {Q : Out → Prop} (k : Q (.inl (some (.int 0)), m)) : Cl g 0 0 0 mJ0_coder_7d493 [.ref 2] m Q := by
  refine Cl.of rfl (by decide) (Nat.le_of_ble_eq_true rfl) ?_
  show Wp g mJ0_coder_7d493 0 0 0 0 [.ref 2] [] m Q
  refine r_gsC dJ0_coder_7d493_0 sfl_38 ?_
  refine r_if_eq 13 dJ0_coder_7d493_3 rfl (fun hz => absurd hz (by decide)) (fun _ => ?_)
  refine r_aload_n dJ0_coder_7d493_6 rfl ?_
  refine r_strcoder dJ0_coder_7d493_7 sfl_15 ?_
  refine r_goto 14 dJ0_coder_7d493_10 rfl ?_
  refine r_ireturn dJ0_coder_7d493_14 rfl rfl ?_
  exact k
theorem sh0 (x : Int32) : x >>> ((0 : Int32) &&& 31) = x := by rw [show ((0 : Int32) &&& 31) = 0 from rfl, ← Int32.toBitVec_inj]; simp
theorem WB_l : WB.length = 123 := by decide +kernel
theorem S_strLen {g : GG} {m : MM} {Q : Out → Prop} (k : Q (.inl (some (.int (nI 123))), m)) : Cl g 1 0 0 mJ0_length_8abf5 [.ref 2] m Q := by
  refine Cl.of rfl (by decide) (Nat.le_of_ble_eq_true rfl) ?_
  show Wp g mJ0_length_8abf5 1 0 0 0 [.ref 2] [] m Q
  refine r_aload_n dJ0_length_8abf5_0 rfl ?_
  refine r_strval dJ0_length_8abf5_1 sfl_9 ?_
  refine r_strlen dJ0_length_8abf5_4 ?_
  refine r_aload_n dJ0_length_8abf5_5 rfl ?_
  refine r_callVs (d1 := 0) (c1 := 0) (n1 := 0) [] rfl dJ0_length_8abf5_6 mvJ0_335 rfl rfl (Nat.le_of_ble_eq_true rfl) (by exact Nat.le_of_ble_eq_true rfl) ?_
  refine S_coder ?_
  show Wp g mJ0_length_8abf5 _ _ _ 9 _ (_ :: _) _ Q
  refine r_ishr dJ0_length_8abf5_9 ?_
  refine r_ireturn dJ0_length_8abf5_10 rfl rfl ?_
  rw [sh0, WB_l]; exact k
theorem S_isLatin {g : GG} {m : MM} {Q : Out → Prop} (k : Q (.inl (some (.int 1)), m)) : Cl g 0 0 0 mJ0_isLatin1_aae02 [.ref 2] m Q := by
  refine Cl.of rfl (by decide) (Nat.le_of_ble_eq_true rfl) ?_
  show Wp g mJ0_isLatin1_aae02 0 0 0 0 [.ref 2] [] m Q
  refine r_gsC dJ0_isLatin1_aae02_0 sfl_38 ?_
  refine r_if_eq 17 dJ0_isLatin1_aae02_3 rfl (fun hz => absurd hz (by decide)) (fun _ => ?_)
  refine r_aload_n dJ0_isLatin1_aae02_6 rfl ?_
  refine r_strcoder dJ0_isLatin1_aae02_7 sfl_15 ?_
  refine r_if_ne 17 dJ0_isLatin1_aae02_10 rfl (fun hz => absurd hz (by decide)) (fun _ => ?_)
  refine r_iconst (1) dJ0_isLatin1_aae02_13 rfl ?_
  refine r_goto 18 dJ0_isLatin1_aae02_14 rfl ?_
  refine r_ireturn dJ0_isLatin1_aae02_18 rfl rfl ?_
  exact k
theorem S_pcheck {g : GG} {m : MM} {Q : Out → Prop} {i n : Int32} (h0 : ¬ i < 0) (h1 : i < n) (k : Q (.inl (some (.int i)), m)) : Cl g 0 0 0 mJ3_checkIndex_8e157 [.int i, .int n, .float 0] m Q := by
  refine Cl.of rfl (by decide) (Nat.le_of_ble_eq_true rfl) ?_
  show Wp g mJ3_checkIndex_8e157 0 0 0 0 [.int i, .int n, .float 0] [] m Q
  refine r_iload_n dJ3_checkIndex_8e157_0 rfl ?_
  refine r_if_lt 9 dJ3_checkIndex_8e157_1 rfl (fun hz => absurd hz h0) (fun _ => ?_)
  refine r_iload_n dJ3_checkIndex_8e157_4 rfl ?_
  refine r_iload_n dJ3_checkIndex_8e157_5 rfl ?_
  refine r_icmp_lt 16 dJ3_checkIndex_8e157_6 rfl (fun _ => ?_) (fun hz => absurd h1 hz)
  refine r_iload_n dJ3_checkIndex_8e157_16 rfl ?_
  refine r_ireturn dJ3_checkIndex_8e157_17 rfl rfl ?_
  exact k
theorem S_scheck {g : GG} {m : MM} {Q : Out → Prop} {i n : Int32} (h0 : ¬ i < 0) (h1 : i < n) (k : Q (.inl none, m)) : Cl g 1 0 0 mJ0_checkIndex_df160 [.int i, .int n] m Q := by
  refine Cl.of rfl (by decide) (Nat.le_of_ble_eq_true rfl) ?_
  show Wp g mJ0_checkIndex_df160 1 0 0 0 [.int i, .int n] [] m Q
  refine r_iload_n dJ0_checkIndex_df160_0 rfl ?_
  refine r_iload_n dJ0_checkIndex_df160_1 rfl ?_
  refine r_gsP dJ0_checkIndex_df160_2 sfl_1053 ?_
  refine r_callS3 (d1 := 0) (c1 := 0) (n1 := 0) dJ0_checkIndex_df160_5 msJ0_1059 rfl (Nat.le_of_ble_eq_true rfl) (by exact Nat.le_of_ble_eq_true rfl) ?_
  refine S_pcheck h0 h1 ?_
  show Wp g mJ0_checkIndex_df160 _ _ _ 8 _ (_ :: _) _ Q
  refine r_pop dJ0_checkIndex_df160_8 rfl ?_
  refine r_return dJ0_checkIndex_df160_9 rfl ?_
  exact k
theorem WB_b : ∀ j, j < WB.length → ((WB.getD j 0 &&& 255).toUInt32 % 65536).toInt32 = WB.getD j 0 := by decide +kernel
theorem WB_c : ∀ j, j < WB.length → ((WB.getD j 0).toUInt32 % 65536).toInt32 = WB.getD j 0 := by decide +kernel
theorem WB_n {j : Nat} (h : j < WB.length) : narrow FieldType.char (.int (WB.getD j 0)) = .int (WB.getD j 0) := by
  show Value.int ((WB.getD j 0).toUInt32 % 65536).toInt32 = _
  rw [WB_c j h]
theorem S_charL {g : GG} {m : MM} {Q : Out → Prop} {j : Nat} (hj : j < WB.length) (k : Q (.inl (some (.int (WB.getD j 0))), m)) : Cl g 2 0 0 mJ1_charAt_3b067 [.ref 3, .int (nI j)] m Q := by
  have hl : WB.length = 123 := by decide +kernel
  refine Cl.of rfl (by decide) (Nat.le_of_ble_eq_true rfl) ?_
  show Wp g mJ1_charAt_3b067 2 0 0 0 [.ref 3, .int (nI j)] [] m Q
  refine r_iload_n dJ1_charAt_3b067_0 rfl ?_
  refine r_aload_n dJ1_charAt_3b067_1 rfl ?_
  refine r_strlen dJ1_charAt_3b067_2 ?_
  refine r_callS2 (d1 := 1) (c1 := 0) (n1 := 0) dJ1_charAt_3b067_3 msJ1_9 rfl (Nat.le_of_ble_eq_true rfl) (by exact Nat.le_of_ble_eq_true rfl) ?_
  refine S_scheck (nI_pos (by omega)) (nI_lt hj (by omega)) ?_
  show Wp g mJ1_charAt_3b067 _ _ _ 6 _ [] _ Q
  refine r_aload_n dJ1_charAt_3b067_6 rfl ?_
  refine r_iload_n dJ1_charAt_3b067_7 rfl ?_
  refine r_strbyte dJ1_charAt_3b067_8 (vin hj (by omega)) ?_
  refine r_sipush (255) dJ1_charAt_3b067_9 rfl ?_
  refine r_iand dJ1_charAt_3b067_12 ?_
  refine r_i2c dJ1_charAt_3b067_13 ?_
  rw [nI_cl j (by omega), WB_b j hj]
  refine r_ireturn dJ1_charAt_3b067_14 rfl (WB_n hj) ?_
  exact k
theorem S_charAt {g : GG} {m : MM} {Q : Out → Prop} {j : Nat} (hj0 : j < 123) (k : Q (.inl (some (.int (WB.getD j 0))), m)) : Cl g 4 0 0 mJ0_charAt_5068e [.ref 2, .int (nI j)] m Q := by
  have hj : j < WB.length := by rw [WB_l]; exact hj0
  refine Cl.of rfl (by decide) (Nat.le_of_ble_eq_true rfl) ?_
  show Wp g mJ0_charAt_5068e 4 0 0 0 [.ref 2, .int (nI j)] [] m Q
  refine r_aload_n dJ0_charAt_5068e_0 rfl ?_
  refine r_callVs (d1 := 0) (c1 := 0) (n1 := 0) [] rfl dJ0_charAt_5068e_1 mvJ0_492 rfl rfl (Nat.le_of_ble_eq_true rfl) (by exact Nat.le_of_ble_eq_true rfl) ?_
  refine S_isLatin ?_
  show Wp g mJ0_charAt_5068e _ _ _ 4 _ (_ :: _) _ Q
  refine r_if_eq 16 dJ0_charAt_5068e_4 rfl (fun hz => absurd hz (by decide)) (fun _ => ?_)
  refine r_aload_n dJ0_charAt_5068e_7 rfl ?_
  refine r_strval dJ0_charAt_5068e_8 sfl_9 ?_
  refine r_iload_n dJ0_charAt_5068e_11 rfl ?_
  refine r_callS2 (d1 := 2) (c1 := 0) (n1 := 0) dJ0_charAt_5068e_12 msJ0_495 rfl (Nat.le_of_ble_eq_true rfl) (by exact Nat.le_of_ble_eq_true rfl) ?_
  refine S_charL hj ?_
  show Wp g mJ0_charAt_5068e _ _ _ 15 _ (_ :: _) _ Q
  refine r_ireturn dJ0_charAt_5068e_15 rfl (WB_n hj) ?_
  exact k
