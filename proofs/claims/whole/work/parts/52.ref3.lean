theorem S_X12_seed {g : GG} {m : MM} {Q : Out → Prop} {f : Nat → Int32} {fs : Nat → Nat → Int32} {ic : Nat} {tp : Nat → Int32} {tn : Nat} {pl : Int32} {n1 n2 : Nat} {ts : Nat → (Nat → Int32) × Nat} (hV : Vf f) (hI : RI f fs ic tp tn pl n1 n2 ts m) {x : Int32} (k : ∀ m', RJ (sedF f x) fs ic tp tn pl n1 n2 ts m 0 m' → Q (.inl (some (.int (f 6))), m')) : Cl g 0 0 0 mX12_seed [.ref 167, .int x] m Q := by
  refine Cl.of rfl (by decide) (Nat.le_of_ble_eq_true rfl) ?_
  show Wp g mX12_seed 0 0 0 0 [.ref 167, .int x, .retAddr 0] [] m Q
  refine r_aload_n dX12_seed_0 rfl ?_
  refine r_iconst (0) dX12_seed_1 rfl ?_
  refine r_putI dX12_seed_2 (fpX12_79 _ rfl) rfl (by exact k_167 hI.1) ⟨rfl, rfl⟩ ?_
  have hJ1 := hI.go
  refine r_aload_n dX12_seed_5 rfl ?_
  refine r_getIc (f 6) dX12_seed_6 fgX12_55 rfl (by exact k_167 hJ1.F) (by exact hJ1.g (by omega) l_6) ?_
  refine si_2 dX12_seed_9 rfl (Nat.le_of_ble_eq_true rfl) ?_
  refine r_aload_n dX12_seed_10 rfl ?_
  refine r_iload_n dX12_seed_11 rfl ?_
  refine r_putI dX12_seed_12 (fpX12_55 _ rfl) rfl (by exact k_167 hJ1.F) ⟨rfl, rfl⟩ ?_
  have hJ2 := hJ1.up (z := 6) (v := x) (by omega) l_6
  refine r_iload_n dX12_seed_15 rfl ?_
  refine r_ireturn dX12_seed_16 rfl rfl ?_
  exact k _ hJ2
theorem S_X12_anew {g : GG} {m : MM} {Q : Out → Prop} {f : Nat → Int32} {fs : Nat → Nat → Int32} {ic : Nat} {tp : Nat → Int32} {tn : Nat} {pl : Int32} {n1 n2 : Nat} {ts : Nat → (Nat → Int32) × Nat} (hV : Vf f) (hI : RI f fs ic tp tn pl n1 n2 ts m) (k : ∀ m', RJ (aneF f) fs ic tp tn pl n1 n2 ts m 0 m' → Q (.inl (some (.int (f 4))), m')) : Cl g 0 0 0 mX12_anew [.ref 167] m Q := by
  refine Cl.of rfl (by decide) (Nat.le_of_ble_eq_true rfl) ?_
  show Wp g mX12_anew 0 0 0 0 [.ref 167, .retAddr 0] [] m Q
  refine r_aload_n dX12_anew_0 rfl ?_
  refine r_iconst (0) dX12_anew_1 rfl ?_
  refine r_putI dX12_anew_2 (fpX12_79 _ rfl) rfl (by exact k_167 hI.1) ⟨rfl, rfl⟩ ?_
  have hJ1 := hI.go
  refine r_aload_n dX12_anew_5 rfl ?_
  refine r_getIc (f 4) dX12_anew_6 fgX12_338 rfl (by exact k_167 hJ1.F) (by exact hJ1.g (by omega) l_4) ?_
  refine si_1 dX12_anew_9 rfl (Nat.le_of_ble_eq_true rfl) ?_
  refine r_aload_n dX12_anew_10 rfl ?_
  refine r_iconst (0) dX12_anew_11 rfl ?_
  refine r_putI dX12_anew_12 (fpX12_338 _ rfl) rfl (by exact k_167 hJ1.F) ⟨rfl, rfl⟩ ?_
  have hJ2 := hJ1.up (z := 4) (v := 0) (by omega) l_4
  refine r_iload_n dX12_anew_15 rfl ?_
  refine r_ireturn dX12_anew_16 rfl rfl ?_
  exact k _ hJ2
theorem S_X12_fault {g : GG} {m : MM} {Q : Out → Prop} {f : Nat → Int32} {fs : Nat → Nat → Int32} {ic : Nat} {tp : Nat → Int32} {tn : Nat} {pl : Int32} {n1 n2 : Nat} {ts : Nat → (Nat → Int32) × Nat} (hV : Vf f) (hI : RI f fs ic tp tn pl n1 n2 ts m) (k : ∀ m', RJ f fs ic tp tn pl n1 n2 ts m 0 m' → Q (.inl (some (.int pl)), m')) : Cl g 0 0 0 mX12_fault [.ref 167] m Q := by
  refine Cl.of rfl (by decide) (Nat.le_of_ble_eq_true rfl) ?_
  show Wp g mX12_fault 0 0 0 0 [.ref 167] [] m Q
  refine r_aload_n dX12_fault_0 rfl ?_
  refine r_iconst (0) dX12_fault_1 rfl ?_
  refine r_putI dX12_fault_2 (fpX12_79 _ rfl) rfl (by exact k_167 hI.1) ⟨rfl, rfl⟩ ?_
  have hJ1 := hI.go
  refine r_aload_n dX12_fault_5 rfl ?_
  refine r_getIc (pl) dX12_fault_6 fgX12_11 rfl (by exact k_167 hJ1.F) (by exact hJ1.1.2.2.2.2.1) ?_
  refine r_ireturn dX12_fault_9 rfl rfl ?_
  exact k _ hJ1
theorem S_rcount0 {g : GG} {m : MM} {Q : Out → Prop} {f : Nat → Int32} {fs : Nat → Nat → Int32} {ic : Nat} {tp : Nat → Int32} {tn : Nat} {pl : Int32} {n1 n2 : Nat} {ts : Nat → (Nat → Int32) × Nat} (hV : Vf f) (hI : RI f fs ic tp tn pl n1 n2 ts m) (k : ∀ m', RJ f fs ic tp tn pl n1 n2 ts m 0 m' → Q (.inl (some (.int (coV f ic tn n1 n2 0))), m')) : Cl g 0 0 0 mX12_count [.ref 167, .int 0] m Q := by
  refine Cl.of rfl (by decide) (Nat.le_of_ble_eq_true rfl) ?_
  show Wp g mX12_count 0 0 0 0 [.ref 167, .int 0] [] m Q
  refine r_aload_n dX12_count_0 rfl ?_
  refine r_iconst (0) dX12_count_1 rfl ?_
  refine r_putI dX12_count_2 (fpX12_79 _ rfl) rfl (by exact k_167 hI.1) ⟨rfl, rfl⟩ ?_
  have hJ1 := hI.go
  refine r_iload_n dX12_count_5 rfl ?_
  refine r_tabIn 64 dX12_count_6 (by decide) (by decide) rfl rfl ?_
  refine r_aload_n dX12_count_64 rfl ?_
  refine r_getIc (f 0) dX12_count_65 fgX12_90 rfl (by exact k_167 hJ1.F) (by exact hJ1.g (by omega) l_0) ?_
  refine r_ireturn dX12_count_68 rfl rfl ?_
  exact k _ hJ1
theorem S_rcount1 {g : GG} {m : MM} {Q : Out → Prop} {f : Nat → Int32} {fs : Nat → Nat → Int32} {ic : Nat} {tp : Nat → Int32} {tn : Nat} {pl : Int32} {n1 n2 : Nat} {ts : Nat → (Nat → Int32) × Nat} (hV : Vf f) (hI : RI f fs ic tp tn pl n1 n2 ts m) (k : ∀ m', RJ f fs ic tp tn pl n1 n2 ts m 0 m' → Q (.inl (some (.int (coV f ic tn n1 n2 1))), m')) : Cl g 0 0 0 mX12_count [.ref 167, .int 1] m Q := by
  refine Cl.of rfl (by decide) (Nat.le_of_ble_eq_true rfl) ?_
  show Wp g mX12_count 0 0 0 0 [.ref 167, .int 1] [] m Q
  refine r_aload_n dX12_count_0 rfl ?_
  refine r_iconst (0) dX12_count_1 rfl ?_
  refine r_putI dX12_count_2 (fpX12_79 _ rfl) rfl (by exact k_167 hI.1) ⟨rfl, rfl⟩ ?_
  have hJ1 := hI.go
  refine r_iload_n dX12_count_5 rfl ?_
  refine r_tabIn 69 dX12_count_6 (by decide) (by decide) rfl rfl ?_
  refine r_aload_n dX12_count_69 rfl ?_
  refine r_getIc (f 1) dX12_count_70 fgX12_105 rfl (by exact k_167 hJ1.F) (by exact hJ1.g (by omega) l_1) ?_
  refine r_ireturn dX12_count_73 rfl rfl ?_
  exact k _ hJ1
theorem S_rcount2 {g : GG} {m : MM} {Q : Out → Prop} {f : Nat → Int32} {fs : Nat → Nat → Int32} {ic : Nat} {tp : Nat → Int32} {tn : Nat} {pl : Int32} {n1 n2 : Nat} {ts : Nat → (Nat → Int32) × Nat} (hV : Vf f) (hI : RI f fs ic tp tn pl n1 n2 ts m) (k : ∀ m', RJ f fs ic tp tn pl n1 n2 ts m 0 m' → Q (.inl (some (.int (coV f ic tn n1 n2 2))), m')) : Cl g 0 0 0 mX12_count [.ref 167, .int 2] m Q := by
  refine Cl.of rfl (by decide) (Nat.le_of_ble_eq_true rfl) ?_
  show Wp g mX12_count 0 0 0 0 [.ref 167, .int 2] [] m Q
  refine r_aload_n dX12_count_0 rfl ?_
  refine r_iconst (0) dX12_count_1 rfl ?_
  refine r_putI dX12_count_2 (fpX12_79 _ rfl) rfl (by exact k_167 hI.1) ⟨rfl, rfl⟩ ?_
  have hJ1 := hI.go
  refine r_iload_n dX12_count_5 rfl ?_
  refine r_tabIn 74 dX12_count_6 (by decide) (by decide) rfl rfl ?_
  refine r_aload_n dX12_count_74 rfl ?_
  refine r_getIc (nI n1) dX12_count_75 fgX12_223 rfl (by exact k_167 hJ1.F) (by exact hJ1.1.2.2.2.2.2.1.1) ?_
  refine r_ireturn dX12_count_78 rfl rfl ?_
  exact k _ hJ1
theorem S_rcount3 {g : GG} {m : MM} {Q : Out → Prop} {f : Nat → Int32} {fs : Nat → Nat → Int32} {ic : Nat} {tp : Nat → Int32} {tn : Nat} {pl : Int32} {n1 n2 : Nat} {ts : Nat → (Nat → Int32) × Nat} (hV : Vf f) (hI : RI f fs ic tp tn pl n1 n2 ts m) (k : ∀ m', RJ f fs ic tp tn pl n1 n2 ts m 0 m' → Q (.inl (some (.int (coV f ic tn n1 n2 3))), m')) : Cl g 0 0 0 mX12_count [.ref 167, .int 3] m Q := by
  refine Cl.of rfl (by decide) (Nat.le_of_ble_eq_true rfl) ?_
  show Wp g mX12_count 0 0 0 0 [.ref 167, .int 3] [] m Q
  refine r_aload_n dX12_count_0 rfl ?_
  refine r_iconst (0) dX12_count_1 rfl ?_
  refine r_putI dX12_count_2 (fpX12_79 _ rfl) rfl (by exact k_167 hI.1) ⟨rfl, rfl⟩ ?_
  have hJ1 := hI.go
  refine r_iload_n dX12_count_5 rfl ?_
  refine r_tabIn 79 dX12_count_6 (by decide) (by decide) rfl rfl ?_
  refine r_aload_n dX12_count_79 rfl ?_
  refine r_getIc (nI n2) dX12_count_80 fgX12_220 rfl (by exact k_167 hJ1.F) (by exact hJ1.1.2.2.2.2.2.2.1.1) ?_
  refine r_ireturn dX12_count_83 rfl rfl ?_
  exact k _ hJ1
theorem S_rcount4 {g : GG} {m : MM} {Q : Out → Prop} {f : Nat → Int32} {fs : Nat → Nat → Int32} {ic : Nat} {tp : Nat → Int32} {tn : Nat} {pl : Int32} {n1 n2 : Nat} {ts : Nat → (Nat → Int32) × Nat} (hV : Vf f) (hI : RI f fs ic tp tn pl n1 n2 ts m) (k : ∀ m', RJ f fs ic tp tn pl n1 n2 ts m 0 m' → Q (.inl (some (.int (coV f ic tn n1 n2 4))), m')) : Cl g 0 0 0 mX12_count [.ref 167, .int 4] m Q := by
  refine Cl.of rfl (by decide) (Nat.le_of_ble_eq_true rfl) ?_
  show Wp g mX12_count 0 0 0 0 [.ref 167, .int 4] [] m Q
  refine r_aload_n dX12_count_0 rfl ?_
  refine r_iconst (0) dX12_count_1 rfl ?_
  refine r_putI dX12_count_2 (fpX12_79 _ rfl) rfl (by exact k_167 hI.1) ⟨rfl, rfl⟩ ?_
  have hJ1 := hI.go
  refine r_iload_n dX12_count_5 rfl ?_
  refine r_tabIn 84 dX12_count_6 (by decide) (by decide) rfl rfl ?_
  refine r_aload_n dX12_count_84 rfl ?_
  refine r_getIc (f 2) dX12_count_85 fgX12_287 rfl (by exact k_167 hJ1.F) (by exact hJ1.g (by omega) l_2) ?_
  refine r_ireturn dX12_count_88 rfl rfl ?_
  rw [hV.1.2.2.1.1]; exact k _ hJ1
theorem S_rcount5 {g : GG} {m : MM} {Q : Out → Prop} {f : Nat → Int32} {fs : Nat → Nat → Int32} {ic : Nat} {tp : Nat → Int32} {tn : Nat} {pl : Int32} {n1 n2 : Nat} {ts : Nat → (Nat → Int32) × Nat} (hV : Vf f) (hI : RI f fs ic tp tn pl n1 n2 ts m) (k : ∀ m', RJ f fs ic tp tn pl n1 n2 ts m 0 m' → Q (.inl (some (.int (coV f ic tn n1 n2 5))), m')) : Cl g 0 0 0 mX12_count [.ref 167, .int 5] m Q := by
  refine Cl.of rfl (by decide) (Nat.le_of_ble_eq_true rfl) ?_
  show Wp g mX12_count 0 0 0 0 [.ref 167, .int 5] [] m Q
  refine r_aload_n dX12_count_0 rfl ?_
  refine r_iconst (0) dX12_count_1 rfl ?_
  refine r_putI dX12_count_2 (fpX12_79 _ rfl) rfl (by exact k_167 hI.1) ⟨rfl, rfl⟩ ?_
  have hJ1 := hI.go
  refine r_iload_n dX12_count_5 rfl ?_
  refine r_tabIn 89 dX12_count_6 (by decide) (by decide) rfl rfl ?_
  refine r_aload_n dX12_count_89 rfl ?_
  refine r_getIc (f 3) dX12_count_90 fgX12_300 rfl (by exact k_167 hJ1.F) (by exact hJ1.g (by omega) l_3) ?_
  refine r_ireturn dX12_count_93 rfl rfl ?_
  exact k _ hJ1
theorem S_rcount6 {g : GG} {m : MM} {Q : Out → Prop} {f : Nat → Int32} {fs : Nat → Nat → Int32} {ic : Nat} {tp : Nat → Int32} {tn : Nat} {pl : Int32} {n1 n2 : Nat} {ts : Nat → (Nat → Int32) × Nat} (hV : Vf f) (hI : RI f fs ic tp tn pl n1 n2 ts m) (k : ∀ m', RJ f fs ic tp tn pl n1 n2 ts m 0 m' → Q (.inl (some (.int (coV f ic tn n1 n2 6))), m')) : Cl g 0 0 0 mX12_count [.ref 167, .int 6] m Q := by
  refine Cl.of rfl (by decide) (Nat.le_of_ble_eq_true rfl) ?_
  show Wp g mX12_count 0 0 0 0 [.ref 167, .int 6] [] m Q
  refine r_aload_n dX12_count_0 rfl ?_
  refine r_iconst (0) dX12_count_1 rfl ?_
  refine r_putI dX12_count_2 (fpX12_79 _ rfl) rfl (by exact k_167 hI.1) ⟨rfl, rfl⟩ ?_
  have hJ1 := hI.go
  refine r_iload_n dX12_count_5 rfl ?_
  refine r_tabIn 94 dX12_count_6 (by decide) (by decide) rfl rfl ?_
  refine r_aload_n dX12_count_94 rfl ?_
  refine r_getIc (f 4) dX12_count_95 fgX12_338 rfl (by exact k_167 hJ1.F) (by exact hJ1.g (by omega) l_4) ?_
  refine r_ireturn dX12_count_98 rfl rfl ?_
  exact k _ hJ1
theorem S_rcount7 {g : GG} {m : MM} {Q : Out → Prop} {f : Nat → Int32} {fs : Nat → Nat → Int32} {ic : Nat} {tp : Nat → Int32} {tn : Nat} {pl : Int32} {n1 n2 : Nat} {ts : Nat → (Nat → Int32) × Nat} (hV : Vf f) (hI : RI f fs ic tp tn pl n1 n2 ts m) (k : ∀ m', RJ f fs ic tp tn pl n1 n2 ts m 0 m' → Q (.inl (some (.int (coV f ic tn n1 n2 7))), m')) : Cl g 0 0 0 mX12_count [.ref 167, .int 7] m Q := by
  refine Cl.of rfl (by decide) (Nat.le_of_ble_eq_true rfl) ?_
  show Wp g mX12_count 0 0 0 0 [.ref 167, .int 7] [] m Q
  refine r_aload_n dX12_count_0 rfl ?_
  refine r_iconst (0) dX12_count_1 rfl ?_
  refine r_putI dX12_count_2 (fpX12_79 _ rfl) rfl (by exact k_167 hI.1) ⟨rfl, rfl⟩ ?_
  have hJ1 := hI.go
  refine r_iload_n dX12_count_5 rfl ?_
  refine r_tabIn 99 dX12_count_6 (by decide) (by decide) rfl rfl ?_
  refine r_aload_n dX12_count_99 rfl ?_
  refine r_getIc (f 5) dX12_count_100 fgX12_349 rfl (by exact k_167 hJ1.F) (by exact hJ1.g (by omega) l_5) ?_
  refine r_ireturn dX12_count_103 rfl rfl ?_
  exact k _ hJ1
theorem S_rcount8 {g : GG} {m : MM} {Q : Out → Prop} {f : Nat → Int32} {fs : Nat → Nat → Int32} {ic : Nat} {tp : Nat → Int32} {tn : Nat} {pl : Int32} {n1 n2 : Nat} {ts : Nat → (Nat → Int32) × Nat} (hV : Vf f) (hI : RI f fs ic tp tn pl n1 n2 ts m) (k : ∀ m', RJ f fs ic tp tn pl n1 n2 ts m 0 m' → Q (.inl (some (.int (coV f ic tn n1 n2 8))), m')) : Cl g 0 0 0 mX12_count [.ref 167, .int 8] m Q := by
  refine Cl.of rfl (by decide) (Nat.le_of_ble_eq_true rfl) ?_
  show Wp g mX12_count 0 0 0 0 [.ref 167, .int 8] [] m Q
  refine r_aload_n dX12_count_0 rfl ?_
  refine r_iconst (0) dX12_count_1 rfl ?_
  refine r_putI dX12_count_2 (fpX12_79 _ rfl) rfl (by exact k_167 hI.1) ⟨rfl, rfl⟩ ?_
  have hJ1 := hI.go
  refine r_iload_n dX12_count_5 rfl ?_
  refine r_tabIn 104 dX12_count_6 (by decide) (by decide) rfl rfl ?_
  refine r_aload_n dX12_count_104 rfl ?_
  refine r_getIc (nI ic) dX12_count_105 fgX12_362 rfl (by exact k_167 hJ1.F) (by exact hJ1.1.2.2.1.1) ?_
  refine r_ireturn dX12_count_108 rfl rfl ?_
  exact k _ hJ1
theorem S_rcount9 {g : GG} {m : MM} {Q : Out → Prop} {f : Nat → Int32} {fs : Nat → Nat → Int32} {ic : Nat} {tp : Nat → Int32} {tn : Nat} {pl : Int32} {n1 n2 : Nat} {ts : Nat → (Nat → Int32) × Nat} (hV : Vf f) (hI : RI f fs ic tp tn pl n1 n2 ts m) (k : ∀ m', RJ f fs ic tp tn pl n1 n2 ts m 0 m' → Q (.inl (some (.int (coV f ic tn n1 n2 9))), m')) : Cl g 0 0 0 mX12_count [.ref 167, .int 9] m Q := by
  refine Cl.of rfl (by decide) (Nat.le_of_ble_eq_true rfl) ?_
  show Wp g mX12_count 0 0 0 0 [.ref 167, .int 9] [] m Q
  refine r_aload_n dX12_count_0 rfl ?_
  refine r_iconst (0) dX12_count_1 rfl ?_
  refine r_putI dX12_count_2 (fpX12_79 _ rfl) rfl (by exact k_167 hI.1) ⟨rfl, rfl⟩ ?_
  have hJ1 := hI.go
  refine r_iload_n dX12_count_5 rfl ?_
  refine r_tabIn 109 dX12_count_6 (by decide) (by decide) rfl rfl ?_
  refine r_aload_n dX12_count_109 rfl ?_
  refine r_getIc (nI tn) dX12_count_110 fgX12_108 rfl (by exact k_167 hJ1.F) (by exact hJ1.1.2.2.2.1.1) ?_
  refine r_ireturn dX12_count_113 rfl rfl ?_
  exact k _ hJ1
theorem S_rcount10 {g : GG} {m : MM} {Q : Out → Prop} {f : Nat → Int32} {fs : Nat → Nat → Int32} {ic : Nat} {tp : Nat → Int32} {tn : Nat} {pl : Int32} {n1 n2 : Nat} {ts : Nat → (Nat → Int32) × Nat} (hV : Vf f) (hI : RI f fs ic tp tn pl n1 n2 ts m) (k : ∀ m', RJ f fs ic tp tn pl n1 n2 ts m 0 m' → Q (.inl (some (.int (coV f ic tn n1 n2 10))), m')) : Cl g 0 0 0 mX12_count [.ref 167, .int 10] m Q := by
  refine Cl.of rfl (by decide) (Nat.le_of_ble_eq_true rfl) ?_
  show Wp g mX12_count 0 0 0 0 [.ref 167, .int 10] [] m Q
  refine r_aload_n dX12_count_0 rfl ?_
  refine r_iconst (0) dX12_count_1 rfl ?_
  refine r_putI dX12_count_2 (fpX12_79 _ rfl) rfl (by exact k_167 hI.1) ⟨rfl, rfl⟩ ?_
  have hJ1 := hI.go
  refine r_iload_n dX12_count_5 rfl ?_
  refine r_tabIn 114 dX12_count_6 (by decide) (by decide) rfl rfl ?_
  refine r_aload_n dX12_count_114 rfl ?_
  refine r_getIc (f 6) dX12_count_115 fgX12_55 rfl (by exact k_167 hJ1.F) (by exact hJ1.g (by omega) l_6) ?_
  refine r_ireturn dX12_count_118 rfl rfl ?_
  exact k _ hJ1
theorem S_rcountO {g : GG} {m : MM} {Q : Out → Prop} {f : Nat → Int32} {fs : Nat → Nat → Int32} {ic : Nat} {tp : Nat → Int32} {tn : Nat} {pl : Int32} {n1 n2 : Nat} {ts : Nat → (Nat → Int32) × Nat} (hV : Vf f) (hI : RI f fs ic tp tn pl n1 n2 ts m) {x : Int32} (h : x.toInt < 0 ∨ 10 < x.toInt) (k : ∀ m', RJ f fs ic tp tn pl n1 n2 ts m 0 m' → Q (.inl (some (.int (-1))), m')) : Cl g 0 0 0 mX12_count [.ref 167, .int x] m Q := by
  refine Cl.of rfl (by decide) (Nat.le_of_ble_eq_true rfl) ?_
  show Wp g mX12_count 0 0 0 0 [.ref 167, .int x] [] m Q
  refine r_aload_n dX12_count_0 rfl ?_
  refine r_iconst (0) dX12_count_1 rfl ?_
  refine r_putI dX12_count_2 (fpX12_79 _ rfl) rfl (by exact k_167 hI.1) ⟨rfl, rfl⟩ ?_
  have hJ1 := hI.go
  refine r_iload_n dX12_count_5 rfl ?_
  refine r_tabOut 119 dX12_count_6 h rfl ?_
  refine r_iconst (-1) dX12_count_119 rfl ?_
  refine r_ireturn dX12_count_120 rfl rfl ?_
  exact k _ hJ1
theorem S_X12_count {g : GG} {m : MM} {Q : Out → Prop} {f : Nat → Int32} {fs : Nat → Nat → Int32} {ic : Nat} {tp : Nat → Int32} {tn : Nat} {pl : Int32} {n1 n2 : Nat} {ts : Nat → (Nat → Int32) × Nat} (hV : Vf f) (hI : RI f fs ic tp tn pl n1 n2 ts m) {x : Int32} (k1 : ∀ j, j < 11 → x = nI j → ∀ m', RJ f fs ic tp tn pl n1 n2 ts m 0 m' → Q (.inl (some (.int (coV f ic tn n1 n2 j))), m')) (k0 : ¬ (0 ≤ x ∧ x ≤ 10) → ∀ m', RJ f fs ic tp tn pl n1 n2 ts m 0 m' → Q (.inl (some (.int (-1))), m')) : Cl g 0 0 0 mX12_count [.ref 167, .int x] m Q := by
  by_cases h : 0 ≤ x ∧ x ≤ 10
  · obtain ⟨j, hj, rfl⟩ := i32_small 10 (by omega) h.1 h.2
    have k9 := k1 j (by omega) rfl
    rcases j with _ | _ | _ | _ | _ | _ | _ | _ | _ | _ | _ | j
    · exact S_rcount0 hV hI k9
    · exact S_rcount1 hV hI k9
    · exact S_rcount2 hV hI k9
    · exact S_rcount3 hV hI k9
    · exact S_rcount4 hV hI k9
    · exact S_rcount5 hV hI k9
    · exact S_rcount6 hV hI k9
    · exact S_rcount7 hV hI k9
    · exact S_rcount8 hV hI k9
    · exact S_rcount9 hV hI k9
    · exact S_rcount10 hV hI k9
    · omega
  · refine S_rcountO hV hI ?_ (k0 h)
    simp only [Int32.le_iff_toInt_le] at h
    have a2 : (0 : Int32).toInt = 0 := rfl
    have a3 : (10 : Int32).toInt = 10 := rfl
    omega
theorem S_X12_mile {g : GG} {m : MM} {Q : Out → Prop} {f : Nat → Int32} {fs : Nat → Nat → Int32} {ic : Nat} {tp : Nat → Int32} {tn : Nat} {pl : Int32} {n1 n2 : Nat} {ts : Nat → (Nat → Int32) × Nat} (hV : Vf f) (hI : RI f fs ic tp tn pl n1 n2 ts m) {x y : Int32} (kb : ¬ ((0 ≤ x ∧ x ≤ 999) ∧ -99 ≤ y ∧ y ≤ 99) → ∀ m', RJ f fs ic tp tn pl n1 n2 ts m 1 m' → Q (.inl (some (.int 0)), m')) (kf : ((0 ≤ x ∧ x ≤ 999) ∧ -99 ≤ y ∧ y ≤ 99) → nM f = 6 → ∀ m', RJ f fs ic tp tn pl n1 n2 ts m 0 m' → Q (.inl (some (.int (-1))), m')) (k : ((0 ≤ x ∧ x ≤ 999) ∧ -99 ≤ y ∧ y ≤ 99) → nM f < 6 → ∀ m', RJ (milF f x y) fs ic tp tn pl n1 n2 ts m 0 m' → Q (.inl (some (.int (nI (nM f + 1)))), m')) : Cl g 1 0 0 mX12_mile [.ref 167, .int x, .int y] m Q := by
  refine Cl.of rfl (by decide) (Nat.le_of_ble_eq_true rfl) ?_
  show Wp g mX12_mile 1 0 0 0 [.ref 167, .int x, .int y] [] m Q
  have hc := hV.1.2.2.2.2.1.1
  refine r_aload_n dX12_mile_0 rfl ?_
  refine r_iconst (0) dX12_mile_1 rfl ?_
  refine r_putI dX12_mile_2 (fpX12_79 _ rfl) rfl (by exact k_167 hI.1) ⟨rfl, rfl⟩ ?_
  have hJ1 := hI.go
  refine r_aload_n dX12_mile_5 rfl ?_
  refine r_iload_n dX12_mile_6 rfl ?_
  refine r_iconst (0) dX12_mile_7 rfl ?_
  refine r_sipush (999) dX12_mile_8 rfl ?_
  refine r_callS3 (d1 := 0) (c1 := 0) (n1 := 0) dX12_mile_11 msX12_82 rfl (Nat.le_of_ble_eq_true rfl) (by exact Nat.le_of_ble_eq_true rfl) ?_
  refine S_X12_in (fun w11a w11b => ?_) (fun w11 => ?_)
  ·
    show Wp g mX12_mile _ _ _ 14 _ (_ :: _) _ Q
    refine r_if_eq 28 dX12_mile_14 rfl (fun hz => absurd hz (by decide)) (fun _ => ?_)
    refine r_iload_n dX12_mile_17 rfl ?_
    refine r_bipush (-99) dX12_mile_18 rfl ?_
    refine r_bipush (99) dX12_mile_20 rfl ?_
    refine r_callS3 (d1 := 0) (c1 := 0) (n1 := 0) dX12_mile_22 msX12_82 rfl (Nat.le_of_ble_eq_true rfl) (by exact Nat.le_of_ble_eq_true rfl) ?_
    refine S_X12_in (fun w22a w22b => ?_) (fun w22 => ?_)
    ·
      show Wp g mX12_mile _ _ _ 25 _ (_ :: _) _ Q
      refine r_if_ne 32 dX12_mile_25 rfl (fun _ => ?_) (fun hz => absurd hz (by decide))
      refine r_iconst (0) dX12_mile_32 rfl ?_
      refine r_iconst (1) dX12_mile_33 rfl ?_
      refine r_callV2 (ci := 12) (d1 := 0) (c1 := 0) (n1 := 0) dX12_mile_34 mvX12_86 rfl ⟨(Nat.le_of_ble_eq_true rfl), rfl⟩ (Nat.le_of_ble_eq_true rfl) (by exact Nat.le_of_ble_eq_true rfl) (by exact k_167 hJ1.F) ?_
      refine S_bad0 hJ1.F hJ1.2.2 ?_
      show Wp g mX12_mile _ _ _ 37 _ (_ :: _) _ Q
      refine r_if_eq 42 dX12_mile_37 rfl (fun _ => ?_) (fun hz => absurd hz (by decide))
      refine r_aload_n dX12_mile_42 rfl ?_
      refine r_getIc (f 4) dX12_mile_43 fgX12_338 rfl (by exact k_167 hJ1.F) (by exact hJ1.g (by omega) l_4) ?_
      refine r_bipush (6) dX12_mile_46 rfl ?_
      refine r_icmp_ne 53 dX12_mile_48 rfl (fun h6 => ?_) (fun h6 => ?_)
      ·
        have hl6 : nM f < 6 := by have := hV.1.2.2.2.2.1.2; exact Nat.lt_of_le_of_ne this (fun q => h6 (by rw [hc, q]; rfl))
        refine r_aload_n dX12_mile_53 rfl ?_
        refine r_getRc dX12_mile_54 fgX12_70 rfl (by exact k_167 hJ1.F) (by exact r_167_36 hJ1.F) ?_
        refine r_aload_n dX12_mile_57 rfl ?_
        refine r_getIc (f 4) dX12_mile_58 fgX12_338 rfl (by exact k_167 hJ1.F) (by exact hJ1.g (by omega) l_4) ?_
        refine r_aaloadc (b := 264 + nM f) dX12_mile_61 ⟨Nat.le_of_ble_eq_true rfl, Nat.le_of_ble_eq_true rfl⟩ (by exact k_263 hJ1.F) (by rw [hc]; exact vin (by omega) (by omega)) (by exact R_mil (i := nM f) hJ1.F (by omega)) ?_
        refine r_iconst (0) dX12_mile_62 rfl ?_
        refine r_iload_n dX12_mile_63 rfl ?_
        refine r_iastoren (0) rfl dX12_mile_64 (by exact K_mil hJ1.F (by omega)) (vin (j := 0) (by omega) (by omega)) ?_
        have hJ2 := hJ1.up (z := 637 + 2 * nM f) (v := x) (by omega) (l_mil (r := nM f) (j := 0) (by omega) (by omega))
        refine r_aload_n dX12_mile_65 rfl ?_
        refine r_getRc dX12_mile_66 fgX12_70 rfl (by exact k_167 hJ2.F) (by exact r_167_36 hJ2.F) ?_
        refine r_aload_n dX12_mile_69 rfl ?_
        refine r_getIc (f 4) dX12_mile_70 fgX12_338 rfl (by exact k_167 hJ2.F) (by exact (hJ2.g (by omega) l_4).trans (upF_n (by omega) rfl)) ?_
        refine r_aaloadc (b := 264 + nM f) dX12_mile_73 ⟨Nat.le_of_ble_eq_true rfl, Nat.le_of_ble_eq_true rfl⟩ (by exact k_263 hJ2.F) (by rw [hc]; exact vin (by omega) (by omega)) (by exact R_mil (i := nM f) hJ2.F (by omega)) ?_
        refine r_iconst (1) dX12_mile_74 rfl ?_
        refine r_iload_n dX12_mile_75 rfl ?_
        refine r_iastoren (1) rfl dX12_mile_76 (by exact K_mil hJ2.F (by omega)) (vin (j := 1) (by omega) (by omega)) ?_
        have hJ3 := hJ2.up (z := 638 + 2 * nM f) (v := y) (by omega) (by have z := l_mil (r := nM f) (j := 1) (by omega) (by omega); rw [show 637 + 2 * nM f + 1 = 638 + 2 * nM f from by omega] at z; exact z)
        refine r_aload_n dX12_mile_77 rfl ?_
        refine r_dup dX12_mile_78 rfl ?_
        refine r_getIc (f 4) dX12_mile_79 fgX12_338 rfl (by exact k_167 hJ3.F) (by exact (hJ3.g (by omega) l_4).trans (upF_n (by omega) (upF_n (by omega) rfl))) ?_
        refine r_iconst (1) dX12_mile_82 rfl ?_
        refine r_iadd dX12_mile_83 ?_
        rw [hc, nI_1]
        refine r_putI dX12_mile_84 (fpX12_338 _ rfl) rfl (by exact k_167 hJ3.F) ⟨rfl, rfl⟩ ?_
        have hJ4 := hJ3.up (z := 4) (v := nI (nM f + 1)) (by omega) l_4
        refine r_aload_n dX12_mile_87 rfl ?_
        refine r_getIc (nI (nM f + 1)) dX12_mile_88 fgX12_338 rfl (by exact k_167 hJ4.F) (by exact ld_s) ?_
        refine r_ireturn dX12_mile_91 rfl rfl ?_
        exact k ⟨⟨w11a, w11b⟩, ⟨w22a, w22b⟩⟩ hl6 _ hJ4
      ·
        refine r_iconst (-1) dX12_mile_51 rfl ?_
        refine r_ireturn dX12_mile_52 rfl rfl ?_
        exact kf ⟨⟨w11a, w11b⟩, ⟨w22a, w22b⟩⟩ ((nI_eq (b := 6) (by have := hV.1.2.2.2.2.1.2; omega) (by omega)).mp (hc.symm.trans h6)) _ hJ1
    ·
      show Wp g mX12_mile _ _ _ 25 _ (_ :: _) _ Q
      refine r_if_ne 32 dX12_mile_25 rfl (fun hz => absurd hz (by decide)) (fun _ => ?_)
      refine r_iconst (1) dX12_mile_28 rfl ?_
      refine r_goto 33 dX12_mile_29 rfl ?_
      refine r_iconst (1) dX12_mile_33 rfl ?_
      refine r_callV2 (ci := 12) (d1 := 0) (c1 := 0) (n1 := 0) dX12_mile_34 mvX12_86 rfl ⟨(Nat.le_of_ble_eq_true rfl), rfl⟩ (Nat.le_of_ble_eq_true rfl) (by exact Nat.le_of_ble_eq_true rfl) (by exact k_167 hJ1.F) ?_
      refine S_bad1 hJ1.F hJ1.2.2 (by decide) ?_
      have hJ5 := hJ1.bad 1
      show Wp g mX12_mile _ _ _ 37 _ (_ :: _) _ Q
      refine r_if_eq 42 dX12_mile_37 rfl (fun hz => absurd hz (by decide)) (fun _ => ?_)
      refine r_iconst (0) dX12_mile_40 rfl ?_
      refine r_ireturn dX12_mile_41 rfl rfl ?_
      first | exact kb (fun q => w11 q.1) _ hJ5 | exact kb (fun q => w22 q.2) _ hJ5
  ·
    show Wp g mX12_mile _ _ _ 14 _ (_ :: _) _ Q
    refine r_if_eq 28 dX12_mile_14 rfl (fun _ => ?_) (fun hz => absurd hz (by decide))
    refine r_iconst (1) dX12_mile_28 rfl ?_
    refine r_goto 33 dX12_mile_29 rfl ?_
    refine r_iconst (1) dX12_mile_33 rfl ?_
    refine r_callV2 (ci := 12) (d1 := 0) (c1 := 0) (n1 := 0) dX12_mile_34 mvX12_86 rfl ⟨(Nat.le_of_ble_eq_true rfl), rfl⟩ (Nat.le_of_ble_eq_true rfl) (by exact Nat.le_of_ble_eq_true rfl) (by exact k_167 hJ1.F) ?_
    refine S_bad1 hJ1.F hJ1.2.2 (by decide) ?_
    have hJ6 := hJ1.bad 1
    show Wp g mX12_mile _ _ _ 37 _ (_ :: _) _ Q
    refine r_if_eq 42 dX12_mile_37 rfl (fun hz => absurd hz (by decide)) (fun _ => ?_)
    refine r_iconst (0) dX12_mile_40 rfl ?_
    refine r_ireturn dX12_mile_41 rfl rfl ?_
    first | exact kb (fun q => w11 q.1) _ hJ6 | exact kb (fun q => w22 q.2) _ hJ6
theorem S_X12_earlier {g : GG} {m : MM} {Q : Out → Prop} {f : Nat → Int32} {fs : Nat → Nat → Int32} {ic : Nat} {tp : Nat → Int32} {tn : Nat} {pl : Int32} {n1 n2 : Nat} {ts : Nat → (Nat → Int32) × Nat} (hV : Vf f) (hI : RI f fs ic tp tn pl n1 n2 ts m) {x y : Int32} (kb : ¬ ((1 ≤ x ∧ x ≤ 1000000000) ∧ 0 ≤ y ∧ y ≤ 1000000000) → ∀ m', RJ f fs ic tp tn pl n1 n2 ts m 1 m' → Q (.inl (some (.int 0)), m')) (kf : ((1 ≤ x ∧ x ≤ 1000000000) ∧ 0 ≤ y ∧ y ≤ 1000000000) → nE f = 20 → ∀ m', RJ f fs ic tp tn pl n1 n2 ts m 0 m' → Q (.inl (some (.int (-1))), m')) (k : ((1 ≤ x ∧ x ≤ 1000000000) ∧ 0 ≤ y ∧ y ≤ 1000000000) → nE f < 20 → ∀ m', RJ (earF f x y) fs ic tp tn pl n1 n2 ts m 0 m' → Q (.inl (some (.int (nI (nE f + 1)))), m')) : Cl g 1 0 0 mX12_earlier [.ref 167, .int x, .int y] m Q := by
  refine Cl.of rfl (by decide) (Nat.le_of_ble_eq_true rfl) ?_
  show Wp g mX12_earlier 1 0 0 0 [.ref 167, .int x, .int y] [] m Q
  have hc := hV.1.2.2.2.1.1
  refine r_aload_n dX12_earlier_0 rfl ?_
  refine r_iconst (0) dX12_earlier_1 rfl ?_
  refine r_putI dX12_earlier_2 (fpX12_79 _ rfl) rfl (by exact k_167 hI.1) ⟨rfl, rfl⟩ ?_
  have hJ1 := hI.go
  refine r_aload_n dX12_earlier_5 rfl ?_
  refine r_iload_n dX12_earlier_6 rfl ?_
  refine r_iconst (1) dX12_earlier_7 rfl ?_
  refine r_ldcw (1000000000) dX12_earlier_8 ctX12_264 ?_
  refine r_callS3 (d1 := 0) (c1 := 0) (n1 := 0) dX12_earlier_11 msX12_82 rfl (Nat.le_of_ble_eq_true rfl) (by exact Nat.le_of_ble_eq_true rfl) ?_
  refine S_X12_in (fun w11a w11b => ?_) (fun w11 => ?_)
  ·
    show Wp g mX12_earlier _ _ _ 14 _ (_ :: _) _ Q
    refine r_if_eq 28 dX12_earlier_14 rfl (fun hz => absurd hz (by decide)) (fun _ => ?_)
    refine r_iload_n dX12_earlier_17 rfl ?_
    refine r_iconst (0) dX12_earlier_18 rfl ?_
    refine r_ldcw (1000000000) dX12_earlier_19 ctX12_264 ?_
    refine r_callS3 (d1 := 0) (c1 := 0) (n1 := 0) dX12_earlier_22 msX12_82 rfl (Nat.le_of_ble_eq_true rfl) (by exact Nat.le_of_ble_eq_true rfl) ?_
    refine S_X12_in (fun w22a w22b => ?_) (fun w22 => ?_)
    ·
      show Wp g mX12_earlier _ _ _ 25 _ (_ :: _) _ Q
      refine r_if_ne 32 dX12_earlier_25 rfl (fun _ => ?_) (fun hz => absurd hz (by decide))
      refine r_iconst (0) dX12_earlier_32 rfl ?_
      refine r_iconst (1) dX12_earlier_33 rfl ?_
      refine r_callV2 (ci := 12) (d1 := 0) (c1 := 0) (n1 := 0) dX12_earlier_34 mvX12_86 rfl ⟨(Nat.le_of_ble_eq_true rfl), rfl⟩ (Nat.le_of_ble_eq_true rfl) (by exact Nat.le_of_ble_eq_true rfl) (by exact k_167 hJ1.F) ?_
      refine S_bad0 hJ1.F hJ1.2.2 ?_
      show Wp g mX12_earlier _ _ _ 37 _ (_ :: _) _ Q
      refine r_if_eq 42 dX12_earlier_37 rfl (fun _ => ?_) (fun hz => absurd hz (by decide))
      refine r_aload_n dX12_earlier_42 rfl ?_
      refine r_getIc (f 3) dX12_earlier_43 fgX12_300 rfl (by exact k_167 hJ1.F) (by exact hJ1.g (by omega) l_3) ?_
      refine r_bipush (20) dX12_earlier_46 rfl ?_
      refine r_icmp_ne 53 dX12_earlier_48 rfl (fun h6 => ?_) (fun h6 => ?_)
      ·
        have hl6 : nE f < 20 := by have := hV.1.2.2.2.1.2; exact Nat.lt_of_le_of_ne this (fun q => h6 (by rw [hc, q]; rfl))
        refine r_aload_n dX12_earlier_53 rfl ?_
        refine r_getRc dX12_earlier_54 fgX12_61 rfl (by exact k_167 hJ1.F) (by exact r_167_33 hJ1.F) ?_
        refine r_aload_n dX12_earlier_57 rfl ?_
        refine r_getIc (f 3) dX12_earlier_58 fgX12_300 rfl (by exact k_167 hJ1.F) (by exact hJ1.g (by omega) l_3) ?_
        refine r_iload_n dX12_earlier_61 rfl ?_
        refine r_iastoren (nE f) (by rw [hc, nI_cl _ (by omega)]) dX12_earlier_62 (by exact k_260 hJ1.F) (by rw [hc]; exact vin (by omega) (by omega)) ?_
        have hJ2 := hJ1.up (z := 33 + nE f) (v := x) (by omega) (l_for (by omega))
        refine r_aload_n dX12_earlier_63 rfl ?_
        refine r_getRc dX12_earlier_64 fgX12_64 rfl (by exact k_167 hJ2.F) (by exact r_167_34 hJ2.F) ?_
        refine r_aload_n dX12_earlier_67 rfl ?_
        refine r_getIc (f 3) dX12_earlier_68 fgX12_300 rfl (by exact k_167 hJ2.F) (by exact (hJ2.g (by omega) l_3).trans (upF_n (by omega) rfl)) ?_
        refine r_iload_n dX12_earlier_71 rfl ?_
        refine r_iastoren (nE f) (by rw [hc, nI_cl _ (by omega)]) dX12_earlier_72 (by exact k_261 hJ2.F) (by rw [hc]; exact vin (by omega) (by omega)) ?_
        have hJ3 := hJ2.up (z := 53 + nE f) (v := y) (by omega) (l_was (by omega))
        refine r_aload_n dX12_earlier_73 rfl ?_
        refine r_dup dX12_earlier_74 rfl ?_
        refine r_getIc (f 3) dX12_earlier_75 fgX12_300 rfl (by exact k_167 hJ3.F) (by exact (hJ3.g (by omega) l_3).trans (upF_n (by omega) (upF_n (by omega) rfl))) ?_
        refine r_iconst (1) dX12_earlier_78 rfl ?_
        refine r_iadd dX12_earlier_79 ?_
        rw [hc, nI_1]
        refine r_putI dX12_earlier_80 (fpX12_300 _ rfl) rfl (by exact k_167 hJ3.F) ⟨rfl, rfl⟩ ?_
        have hJ4 := hJ3.up (z := 3) (v := nI (nE f + 1)) (by omega) l_3
        refine r_aload_n dX12_earlier_83 rfl ?_
        refine r_getIc (nI (nE f + 1)) dX12_earlier_84 fgX12_300 rfl (by exact k_167 hJ4.F) (by exact ld_s) ?_
        refine r_ireturn dX12_earlier_87 rfl rfl ?_
        exact k ⟨⟨w11a, w11b⟩, ⟨w22a, w22b⟩⟩ hl6 _ hJ4
      ·
        refine r_iconst (-1) dX12_earlier_51 rfl ?_
        refine r_ireturn dX12_earlier_52 rfl rfl ?_
        exact kf ⟨⟨w11a, w11b⟩, ⟨w22a, w22b⟩⟩ ((nI_eq (b := 20) (by have := hV.1.2.2.2.1.2; omega) (by omega)).mp (hc.symm.trans h6)) _ hJ1
    ·
      show Wp g mX12_earlier _ _ _ 25 _ (_ :: _) _ Q
      refine r_if_ne 32 dX12_earlier_25 rfl (fun hz => absurd hz (by decide)) (fun _ => ?_)
      refine r_iconst (1) dX12_earlier_28 rfl ?_
      refine r_goto 33 dX12_earlier_29 rfl ?_
      refine r_iconst (1) dX12_earlier_33 rfl ?_
      refine r_callV2 (ci := 12) (d1 := 0) (c1 := 0) (n1 := 0) dX12_earlier_34 mvX12_86 rfl ⟨(Nat.le_of_ble_eq_true rfl), rfl⟩ (Nat.le_of_ble_eq_true rfl) (by exact Nat.le_of_ble_eq_true rfl) (by exact k_167 hJ1.F) ?_
      refine S_bad1 hJ1.F hJ1.2.2 (by decide) ?_
      have hJ5 := hJ1.bad 1
      show Wp g mX12_earlier _ _ _ 37 _ (_ :: _) _ Q
      refine r_if_eq 42 dX12_earlier_37 rfl (fun hz => absurd hz (by decide)) (fun _ => ?_)
      refine r_iconst (0) dX12_earlier_40 rfl ?_
      refine r_ireturn dX12_earlier_41 rfl rfl ?_
      first | exact kb (fun q => w11 q.1) _ hJ5 | exact kb (fun q => w22 q.2) _ hJ5
  ·
    show Wp g mX12_earlier _ _ _ 14 _ (_ :: _) _ Q
    refine r_if_eq 28 dX12_earlier_14 rfl (fun _ => ?_) (fun hz => absurd hz (by decide))
    refine r_iconst (1) dX12_earlier_28 rfl ?_
    refine r_goto 33 dX12_earlier_29 rfl ?_
    refine r_iconst (1) dX12_earlier_33 rfl ?_
    refine r_callV2 (ci := 12) (d1 := 0) (c1 := 0) (n1 := 0) dX12_earlier_34 mvX12_86 rfl ⟨(Nat.le_of_ble_eq_true rfl), rfl⟩ (Nat.le_of_ble_eq_true rfl) (by exact Nat.le_of_ble_eq_true rfl) (by exact k_167 hJ1.F) ?_
    refine S_bad1 hJ1.F hJ1.2.2 (by decide) ?_
    have hJ6 := hJ1.bad 1
    show Wp g mX12_earlier _ _ _ 37 _ (_ :: _) _ Q
    refine r_if_eq 42 dX12_earlier_37 rfl (fun hz => absurd hz (by decide)) (fun _ => ?_)
    refine r_iconst (0) dX12_earlier_40 rfl ?_
    refine r_ireturn dX12_earlier_41 rfl rfl ?_
    first | exact kb (fun q => w11 q.1) _ hJ6 | exact kb (fun q => w22 q.2) _ hJ6
theorem S_X12_foul {g : GG} {m : MM} {Q : Out → Prop} {f : Nat → Int32} {fs : Nat → Nat → Int32} {ic : Nat} {tp : Nat → Int32} {tn : Nat} {pl : Int32} {n1 n2 : Nat} {ts : Nat → (Nat → Int32) × Nat} (hV : Vf f) (hI : RI f fs ic tp tn pl n1 n2 ts m) {x y : Int32} (kb : ¬ ((0 ≤ x ∧ x ≤ 999) ∧ 0 ≤ y ∧ y ≤ 999) → ∀ m', RJ f fs ic tp tn pl n1 n2 ts m 1 m' → Q (.inl (some (.int 0)), m')) (kf : ((0 ≤ x ∧ x ≤ 999) ∧ 0 ≤ y ∧ y ≤ 999) → nFo f = 8 → ∀ m', RJ f fs ic tp tn pl n1 n2 ts m 0 m' → Q (.inl (some (.int (-1))), m')) (k2 : ((0 ≤ x ∧ x ≤ 999) ∧ 0 ≤ y ∧ y ≤ 999) → nFo f < 8 → 0 < nFo f → x ≤ f (649 + 2 * (nFo f - 1)) → ∀ m', RJ f fs ic tp tn pl n1 n2 ts m 0 m' → Q (.inl (some (.int (-2))), m')) (k : ((0 ≤ x ∧ x ≤ 999) ∧ 0 ≤ y ∧ y ≤ 999) → nFo f < 8 → (nFo f = 0 ∨ f (649 + 2 * (nFo f - 1)) < x) → ∀ m', RJ (fouF f x y) fs ic tp tn pl n1 n2 ts m 0 m' → Q (.inl (some (.int (nI (nFo f + 1)))), m')) : Cl g 1 0 0 mX12_foul [.ref 167, .int x, .int y] m Q := by
  refine Cl.of rfl (by decide) (Nat.le_of_ble_eq_true rfl) ?_
  show Wp g mX12_foul 1 0 0 0 [.ref 167, .int x, .int y] [] m Q
  have hc := hV.1.2.2.2.2.2.1
  refine r_aload_n dX12_foul_0 rfl ?_
  refine r_iconst (0) dX12_foul_1 rfl ?_
  refine r_putI dX12_foul_2 (fpX12_79 _ rfl) rfl (by exact k_167 hI.1) ⟨rfl, rfl⟩ ?_
  have hJ1 := hI.go
  refine r_aload_n dX12_foul_5 rfl ?_
  refine r_iload_n dX12_foul_6 rfl ?_
  refine r_iconst (0) dX12_foul_7 rfl ?_
  refine r_sipush (999) dX12_foul_8 rfl ?_
  refine r_callS3 (d1 := 0) (c1 := 0) (n1 := 0) dX12_foul_11 msX12_82 rfl (Nat.le_of_ble_eq_true rfl) (by exact Nat.le_of_ble_eq_true rfl) ?_
  refine S_X12_in (fun w11a w11b => ?_) (fun w11 => ?_)
  ·
    show Wp g mX12_foul _ _ _ 14 _ (_ :: _) _ Q
    refine r_if_eq 28 dX12_foul_14 rfl (fun hz => absurd hz (by decide)) (fun _ => ?_)
    refine r_iload_n dX12_foul_17 rfl ?_
    refine r_iconst (0) dX12_foul_18 rfl ?_
    refine r_sipush (999) dX12_foul_19 rfl ?_
    refine r_callS3 (d1 := 0) (c1 := 0) (n1 := 0) dX12_foul_22 msX12_82 rfl (Nat.le_of_ble_eq_true rfl) (by exact Nat.le_of_ble_eq_true rfl) ?_
    refine S_X12_in (fun w22a w22b => ?_) (fun w22 => ?_)
    ·
      show Wp g mX12_foul _ _ _ 25 _ (_ :: _) _ Q
      refine r_if_ne 32 dX12_foul_25 rfl (fun _ => ?_) (fun hz => absurd hz (by decide))
      refine r_iconst (0) dX12_foul_32 rfl ?_
      refine r_iconst (1) dX12_foul_33 rfl ?_
      refine r_callV2 (ci := 12) (d1 := 0) (c1 := 0) (n1 := 0) dX12_foul_34 mvX12_86 rfl ⟨(Nat.le_of_ble_eq_true rfl), rfl⟩ (Nat.le_of_ble_eq_true rfl) (by exact Nat.le_of_ble_eq_true rfl) (by exact k_167 hJ1.F) ?_
      refine S_bad0 hJ1.F hJ1.2.2 ?_
      show Wp g mX12_foul _ _ _ 37 _ (_ :: _) _ Q
      refine r_if_eq 42 dX12_foul_37 rfl (fun _ => ?_) (fun hz => absurd hz (by decide))
      refine r_aload_n dX12_foul_42 rfl ?_
      refine r_getIc (f 5) dX12_foul_43 fgX12_349 rfl (by exact k_167 hJ1.F) (by exact hJ1.g (by omega) l_5) ?_
      refine r_bipush (8) dX12_foul_46 rfl ?_
      refine r_icmp_ne 53 dX12_foul_48 rfl (fun h6 => ?_) (fun h6 => ?_)
      ·
        have hl6 : nFo f < 8 := by have := hV.1.2.2.2.2.2.2; exact Nat.lt_of_le_of_ne this (fun q => h6 (by rw [hc, q]; rfl))
        refine r_aload_n dX12_foul_53 rfl ?_
        refine r_getIc (f 5) dX12_foul_54 fgX12_349 rfl (by exact k_167 hJ1.F) (by exact hJ1.g (by omega) l_5) ?_
        refine r_if_le 80 dX12_foul_57 rfl (fun hz => ?_) (fun hz => ?_)
        ·
          refine r_aload_n dX12_foul_80 rfl ?_
          refine r_getRc dX12_foul_81 fgX12_73 rfl (by exact k_167 hJ1.F) (by exact r_167_37 hJ1.F) ?_
          refine r_aload_n dX12_foul_84 rfl ?_
          refine r_getIc (f 5) dX12_foul_85 fgX12_349 rfl (by exact k_167 hJ1.F) (by exact hJ1.g (by omega) l_5) ?_
          refine r_aaloadc (b := 271 + nFo f) dX12_foul_88 ⟨Nat.le_of_ble_eq_true rfl, Nat.le_of_ble_eq_true rfl⟩ (by exact k_270 hJ1.F) (by rw [hc]; exact vin (by omega) (by omega)) (by exact R_fou (i := nFo f) hJ1.F (by omega)) ?_
          refine r_iconst (0) dX12_foul_89 rfl ?_
          refine r_iload_n dX12_foul_90 rfl ?_
          refine r_iastoren (0) rfl dX12_foul_91 (by exact K_fou hJ1.F (by omega)) (vin (j := 0) (by omega) (by omega)) ?_
          have hJ2 := hJ1.up (z := 649 + 2 * nFo f) (v := x) (by omega) (l_fou (r := nFo f) (j := 0) (by omega) (by omega))
          refine r_aload_n dX12_foul_92 rfl ?_
          refine r_getRc dX12_foul_93 fgX12_73 rfl (by exact k_167 hJ2.F) (by exact r_167_37 hJ2.F) ?_
          refine r_aload_n dX12_foul_96 rfl ?_
          refine r_getIc (f 5) dX12_foul_97 fgX12_349 rfl (by exact k_167 hJ2.F) (by exact (hJ2.g (by omega) l_5).trans (upF_n (by omega) rfl)) ?_
          refine r_aaloadc (b := 271 + nFo f) dX12_foul_100 ⟨Nat.le_of_ble_eq_true rfl, Nat.le_of_ble_eq_true rfl⟩ (by exact k_270 hJ2.F) (by rw [hc]; exact vin (by omega) (by omega)) (by exact R_fou (i := nFo f) hJ2.F (by omega)) ?_
          refine r_iconst (1) dX12_foul_101 rfl ?_
          refine r_iload_n dX12_foul_102 rfl ?_
          refine r_iastoren (1) rfl dX12_foul_103 (by exact K_fou hJ2.F (by omega)) (vin (j := 1) (by omega) (by omega)) ?_
          have hJ3 := hJ2.up (z := 650 + 2 * nFo f) (v := y) (by omega) (by have z := l_fou (r := nFo f) (j := 1) (by omega) (by omega); rw [show 649 + 2 * nFo f + 1 = 650 + 2 * nFo f from by omega] at z; exact z)
          refine r_aload_n dX12_foul_104 rfl ?_
          refine r_dup dX12_foul_105 rfl ?_
          refine r_getIc (f 5) dX12_foul_106 fgX12_349 rfl (by exact k_167 hJ3.F) (by exact (hJ3.g (by omega) l_5).trans (upF_n (by omega) (upF_n (by omega) rfl))) ?_
          refine r_iconst (1) dX12_foul_109 rfl ?_
          refine r_iadd dX12_foul_110 ?_
          rw [hc, nI_1]
          refine r_putI dX12_foul_111 (fpX12_349 _ rfl) rfl (by exact k_167 hJ3.F) ⟨rfl, rfl⟩ ?_
          have hJ4 := hJ3.up (z := 5) (v := nI (nFo f + 1)) (by omega) l_5
          refine r_aload_n dX12_foul_114 rfl ?_
          refine r_getIc (nI (nFo f + 1)) dX12_foul_115 fgX12_349 rfl (by exact k_167 hJ4.F) (by exact ld_s) ?_
          refine r_ireturn dX12_foul_118 rfl rfl ?_
          exact k ⟨⟨w11a, w11b⟩, ⟨w22a, w22b⟩⟩ hl6 (Or.inl (Nat.eq_zero_of_not_pos (fun q => absurd hz (by rw [hc]; exact fun w => absurd (nI_lt (a := 0) (b := nFo f) q (by omega)) (i32_nlt.mpr w))))) _ hJ4
        ·
          have h0 : 0 < nFo f := Nat.pos_of_ne_zero (fun q => hz (by rw [hc, q]; decide))
          refine r_iload_n dX12_foul_60 rfl ?_
          refine r_aload_n dX12_foul_61 rfl ?_
          refine r_getRc dX12_foul_62 fgX12_73 rfl (by exact k_167 hJ1.F) (by exact r_167_37 hJ1.F) ?_
          refine r_aload_n dX12_foul_65 rfl ?_
          refine r_getIc (f 5) dX12_foul_66 fgX12_349 rfl (by exact k_167 hJ1.F) (by exact hJ1.g (by omega) l_5) ?_
          refine r_iconst (1) dX12_foul_69 rfl ?_
          refine r_isub dX12_foul_70 ?_
          rw [hc, nI_pr1 h0]
          refine r_aaloadc (b := 271 + (nFo f - 1)) dX12_foul_71 ⟨Nat.le_of_ble_eq_true rfl, Nat.le_of_ble_eq_true rfl⟩ (by exact k_270 hJ1.F) (vin (by omega) (by omega)) (by rw [nI_cl _ (by omega)]; exact R_fou (i := nFo f - 1) hJ1.F (by omega)) ?_
          refine r_iconst (0) dX12_foul_72 rfl ?_
          refine r_ialoadc (f (649 + 2 * (nFo f - 1))) dX12_foul_73 (by exact K_fou hJ1.F (by omega)) (vin (j := 0) (by omega) (by omega)) (by exact hJ1.g (by omega) (l_fou (r := nFo f - 1) (j := 0) (by omega) (by omega))) ?_
          refine r_icmp_gt 80 dX12_foul_74 rfl (fun hgt => ?_) (fun hgt => ?_)
          ·
            refine r_aload_n dX12_foul_80 rfl ?_
            refine r_getRc dX12_foul_81 fgX12_73 rfl (by exact k_167 hJ1.F) (by exact r_167_37 hJ1.F) ?_
            refine r_aload_n dX12_foul_84 rfl ?_
            refine r_getIc (f 5) dX12_foul_85 fgX12_349 rfl (by exact k_167 hJ1.F) (by exact hJ1.g (by omega) l_5) ?_
            refine r_aaloadc (b := 271 + nFo f) dX12_foul_88 ⟨Nat.le_of_ble_eq_true rfl, Nat.le_of_ble_eq_true rfl⟩ (by exact k_270 hJ1.F) (by rw [hc]; exact vin (by omega) (by omega)) (by exact R_fou (i := nFo f) hJ1.F (by omega)) ?_
            refine r_iconst (0) dX12_foul_89 rfl ?_
            refine r_iload_n dX12_foul_90 rfl ?_
            refine r_iastoren (0) rfl dX12_foul_91 (by exact K_fou hJ1.F (by omega)) (vin (j := 0) (by omega) (by omega)) ?_
            have hJ5 := hJ1.up (z := 649 + 2 * nFo f) (v := x) (by omega) (l_fou (r := nFo f) (j := 0) (by omega) (by omega))
            refine r_aload_n dX12_foul_92 rfl ?_
            refine r_getRc dX12_foul_93 fgX12_73 rfl (by exact k_167 hJ5.F) (by exact r_167_37 hJ5.F) ?_
            refine r_aload_n dX12_foul_96 rfl ?_
            refine r_getIc (f 5) dX12_foul_97 fgX12_349 rfl (by exact k_167 hJ5.F) (by exact (hJ5.g (by omega) l_5).trans (upF_n (by omega) rfl)) ?_
            refine r_aaloadc (b := 271 + nFo f) dX12_foul_100 ⟨Nat.le_of_ble_eq_true rfl, Nat.le_of_ble_eq_true rfl⟩ (by exact k_270 hJ5.F) (by rw [hc]; exact vin (by omega) (by omega)) (by exact R_fou (i := nFo f) hJ5.F (by omega)) ?_
            refine r_iconst (1) dX12_foul_101 rfl ?_
            refine r_iload_n dX12_foul_102 rfl ?_
            refine r_iastoren (1) rfl dX12_foul_103 (by exact K_fou hJ5.F (by omega)) (vin (j := 1) (by omega) (by omega)) ?_
            have hJ6 := hJ5.up (z := 650 + 2 * nFo f) (v := y) (by omega) (by have z := l_fou (r := nFo f) (j := 1) (by omega) (by omega); rw [show 649 + 2 * nFo f + 1 = 650 + 2 * nFo f from by omega] at z; exact z)
            refine r_aload_n dX12_foul_104 rfl ?_
            refine r_dup dX12_foul_105 rfl ?_
            refine r_getIc (f 5) dX12_foul_106 fgX12_349 rfl (by exact k_167 hJ6.F) (by exact (hJ6.g (by omega) l_5).trans (upF_n (by omega) (upF_n (by omega) rfl))) ?_
            refine r_iconst (1) dX12_foul_109 rfl ?_
            refine r_iadd dX12_foul_110 ?_
            rw [hc, nI_1]
            refine r_putI dX12_foul_111 (fpX12_349 _ rfl) rfl (by exact k_167 hJ6.F) ⟨rfl, rfl⟩ ?_
            have hJ7 := hJ6.up (z := 5) (v := nI (nFo f + 1)) (by omega) l_5
            refine r_aload_n dX12_foul_114 rfl ?_
            refine r_getIc (nI (nFo f + 1)) dX12_foul_115 fgX12_349 rfl (by exact k_167 hJ7.F) (by exact ld_s) ?_
            refine r_ireturn dX12_foul_118 rfl rfl ?_
            exact k ⟨⟨w11a, w11b⟩, ⟨w22a, w22b⟩⟩ hl6 (Or.inr hgt) _ hJ7
          ·
            refine r_bipush (-2) dX12_foul_77 rfl ?_
            refine r_ireturn dX12_foul_79 rfl rfl ?_
            exact k2 ⟨⟨w11a, w11b⟩, ⟨w22a, w22b⟩⟩ hl6 h0 (i32_nlt.mp hgt) _ hJ1
      ·
        refine r_iconst (-1) dX12_foul_51 rfl ?_
        refine r_ireturn dX12_foul_52 rfl rfl ?_
        exact kf ⟨⟨w11a, w11b⟩, ⟨w22a, w22b⟩⟩ ((nI_eq (b := 8) (by have := hV.1.2.2.2.2.2.2; omega) (by omega)).mp (hc.symm.trans h6)) _ hJ1
    ·
      show Wp g mX12_foul _ _ _ 25 _ (_ :: _) _ Q
      refine r_if_ne 32 dX12_foul_25 rfl (fun hz => absurd hz (by decide)) (fun _ => ?_)
      refine r_iconst (1) dX12_foul_28 rfl ?_
      refine r_goto 33 dX12_foul_29 rfl ?_
      refine r_iconst (1) dX12_foul_33 rfl ?_
      refine r_callV2 (ci := 12) (d1 := 0) (c1 := 0) (n1 := 0) dX12_foul_34 mvX12_86 rfl ⟨(Nat.le_of_ble_eq_true rfl), rfl⟩ (Nat.le_of_ble_eq_true rfl) (by exact Nat.le_of_ble_eq_true rfl) (by exact k_167 hJ1.F) ?_
      refine S_bad1 hJ1.F hJ1.2.2 (by decide) ?_
      have hJ8 := hJ1.bad 1
      show Wp g mX12_foul _ _ _ 37 _ (_ :: _) _ Q
      refine r_if_eq 42 dX12_foul_37 rfl (fun hz => absurd hz (by decide)) (fun _ => ?_)
      refine r_iconst (0) dX12_foul_40 rfl ?_
      refine r_ireturn dX12_foul_41 rfl rfl ?_
      first | exact kb (fun q => w11 q.1) _ hJ8 | exact kb (fun q => w22 q.2) _ hJ8
  ·
    show Wp g mX12_foul _ _ _ 14 _ (_ :: _) _ Q
    refine r_if_eq 28 dX12_foul_14 rfl (fun _ => ?_) (fun hz => absurd hz (by decide))
    refine r_iconst (1) dX12_foul_28 rfl ?_
    refine r_goto 33 dX12_foul_29 rfl ?_
    refine r_iconst (1) dX12_foul_33 rfl ?_
    refine r_callV2 (ci := 12) (d1 := 0) (c1 := 0) (n1 := 0) dX12_foul_34 mvX12_86 rfl ⟨(Nat.le_of_ble_eq_true rfl), rfl⟩ (Nat.le_of_ble_eq_true rfl) (by exact Nat.le_of_ble_eq_true rfl) (by exact k_167 hJ1.F) ?_
    refine S_bad1 hJ1.F hJ1.2.2 (by decide) ?_
    have hJ9 := hJ1.bad 1
    show Wp g mX12_foul _ _ _ 37 _ (_ :: _) _ Q
    refine r_if_eq 42 dX12_foul_37 rfl (fun hz => absurd hz (by decide)) (fun _ => ?_)
    refine r_iconst (0) dX12_foul_40 rfl ?_
    refine r_ireturn dX12_foul_41 rfl rfl ?_
    first | exact kb (fun q => w11 q.1) _ hJ9 | exact kb (fun q => w22 q.2) _ hJ9
theorem S_X12_trim {g : GG} {m : MM} {Q : Out → Prop} {f : Nat → Int32} {fs : Nat → Nat → Int32} {ic : Nat} {tp : Nat → Int32} {tn : Nat} {pl : Int32} {n1 n2 : Nat} {ts : Nat → (Nat → Int32) × Nat} (hV : Vf f) (hI : RI f fs ic tp tn pl n1 n2 ts m) {x y : Int32} (hx : x = 0 ∨ x = 1) (kb : ¬ (0 ≤ y ∧ y ≤ 99) → ∀ m', RJ f fs ic tp tn pl n1 n2 ts m 1 m' → Q (.inl (some (.int 0)), m')) (k : (0 ≤ y ∧ y ≤ 99) → ∀ m', RJ (trmF f x y) fs ic tp tn pl n1 n2 ts m 0 m' → Q (.inl (some (.int (f 32))), m')) : Cl g 1 0 0 mX12_trim [.ref 167, .int x, .int y] m Q := by
  refine Cl.of rfl (by decide) (Nat.le_of_ble_eq_true rfl) ?_
  show Wp g mX12_trim 1 0 0 0 [.ref 167, .int x, .int y, .retAddr 0] [] m Q
  refine r_aload_n dX12_trim_0 rfl ?_
  refine r_iconst (0) dX12_trim_1 rfl ?_
  refine r_putI dX12_trim_2 (fpX12_79 _ rfl) rfl (by exact k_167 hI.1) ⟨rfl, rfl⟩ ?_
  have hJ1 := hI.go
  refine r_aload_n dX12_trim_5 rfl ?_
  refine r_iload_n dX12_trim_6 rfl ?_
  refine r_iconst (0) dX12_trim_7 rfl ?_
  refine r_bipush (99) dX12_trim_8 rfl ?_
  refine r_callS3 (d1 := 0) (c1 := 0) (n1 := 0) dX12_trim_10 msX12_82 rfl (Nat.le_of_ble_eq_true rfl) (by exact Nat.le_of_ble_eq_true rfl) ?_
  refine S_X12_in (fun w10a w10b => ?_) (fun w10 => ?_)
  ·
    show Wp g mX12_trim _ _ _ 13 _ (_ :: _) _ Q
    refine r_if_ne 20 dX12_trim_13 rfl (fun _ => ?_) (fun hz => absurd hz (by decide))
    refine r_iconst (0) dX12_trim_20 rfl ?_
    refine r_iconst (1) dX12_trim_21 rfl ?_
    refine r_callV2 (ci := 12) (d1 := 0) (c1 := 0) (n1 := 0) dX12_trim_22 mvX12_86 rfl ⟨(Nat.le_of_ble_eq_true rfl), rfl⟩ (Nat.le_of_ble_eq_true rfl) (by exact Nat.le_of_ble_eq_true rfl) (by exact k_167 hJ1.F) ?_
    refine S_bad0 hJ1.F hJ1.2.2 ?_
    show Wp g mX12_trim _ _ _ 25 _ (_ :: _) _ Q
    refine r_if_eq 30 dX12_trim_25 rfl (fun _ => ?_) (fun hz => absurd hz (by decide))
    refine r_aload_n dX12_trim_30 rfl ?_
    refine r_getRc dX12_trim_31 fgX12_52 rfl (by exact k_167 hJ1.F) (by exact r_167_26 hJ1.F) ?_
    refine r_iconst (5) dX12_trim_34 rfl ?_
    refine r_ialoadc (f 32) dX12_trim_35 (by exact k_198 hJ1.F) (vin (j := 5) (by omega) (by omega)) (by exact hJ1.g (by omega) (l_han (i := 5) (by omega))) ?_
    refine si_3 dX12_trim_36 rfl (Nat.le_of_ble_eq_true rfl) ?_
    refine r_aload_n dX12_trim_37 rfl ?_
    refine r_getRc dX12_trim_38 fgX12_52 rfl (by exact k_167 hJ1.F) (by exact r_167_26 hJ1.F) ?_
    refine r_iconst (4) dX12_trim_41 rfl ?_
    refine r_iload_n dX12_trim_42 rfl ?_
    refine r_if_eq 50 dX12_trim_43 rfl (fun hx0 => ?_) (fun hx0 => ?_)
    ·
      refine r_iconst (0) dX12_trim_50 rfl ?_
      refine r_iastoren (4) rfl dX12_trim_51 (by exact k_198 hJ1.F) (vin (j := 4) (by omega) (by omega)) ?_
      obtain rfl : x = 0 := hx0
      have hJ2 := hJ1.up (z := 31) (v := 0) (by omega) (l_han (i := 4) (by omega))
      refine r_aload_n dX12_trim_52 rfl ?_
      refine r_getRc dX12_trim_53 fgX12_52 rfl (by exact k_167 hJ2.F) (by exact r_167_26 hJ2.F) ?_
      refine r_iconst (5) dX12_trim_56 rfl ?_
      refine r_iload_n dX12_trim_57 rfl ?_
      refine r_iastoren (5) rfl dX12_trim_58 (by exact k_198 hJ2.F) (vin (j := 5) (by omega) (by omega)) ?_
      have hJ3 := hJ2.up (z := 32) (v := y) (by omega) (l_han (i := 5) (by omega))
      refine r_iload_n dX12_trim_59 rfl ?_
      refine r_ireturn dX12_trim_60 rfl rfl ?_
      exact k ⟨w10a, w10b⟩ _ hJ3
    ·
      refine r_iconst (1) dX12_trim_46 rfl ?_
      refine r_goto 51 dX12_trim_47 rfl ?_
      refine r_iastoren (4) rfl dX12_trim_51 (by exact k_198 hJ1.F) (vin (j := 4) (by omega) (by omega)) ?_
      obtain rfl : x = 1 := hx.resolve_left hx0
      have hJ4 := hJ1.up (z := 31) (v := 1) (by omega) (l_han (i := 4) (by omega))
      refine r_aload_n dX12_trim_52 rfl ?_
      refine r_getRc dX12_trim_53 fgX12_52 rfl (by exact k_167 hJ4.F) (by exact r_167_26 hJ4.F) ?_
      refine r_iconst (5) dX12_trim_56 rfl ?_
      refine r_iload_n dX12_trim_57 rfl ?_
      refine r_iastoren (5) rfl dX12_trim_58 (by exact k_198 hJ4.F) (vin (j := 5) (by omega) (by omega)) ?_
      have hJ5 := hJ4.up (z := 32) (v := y) (by omega) (l_han (i := 5) (by omega))
      refine r_iload_n dX12_trim_59 rfl ?_
      refine r_ireturn dX12_trim_60 rfl rfl ?_
      exact k ⟨w10a, w10b⟩ _ hJ5
  ·
    show Wp g mX12_trim _ _ _ 13 _ (_ :: _) _ Q
    refine r_if_ne 20 dX12_trim_13 rfl (fun hz => absurd hz (by decide)) (fun _ => ?_)
    refine r_iconst (1) dX12_trim_16 rfl ?_
    refine r_goto 21 dX12_trim_17 rfl ?_
    refine r_iconst (1) dX12_trim_21 rfl ?_
    refine r_callV2 (ci := 12) (d1 := 0) (c1 := 0) (n1 := 0) dX12_trim_22 mvX12_86 rfl ⟨(Nat.le_of_ble_eq_true rfl), rfl⟩ (Nat.le_of_ble_eq_true rfl) (by exact Nat.le_of_ble_eq_true rfl) (by exact k_167 hJ1.F) ?_
    refine S_bad1 hJ1.F hJ1.2.2 (by decide) ?_
    have hJ6 := hJ1.bad 1
    show Wp g mX12_trim _ _ _ 25 _ (_ :: _) _ Q
    refine r_if_eq 30 dX12_trim_25 rfl (fun hz => absurd hz (by decide)) (fun _ => ?_)
    refine r_iconst (0) dX12_trim_28 rfl ?_
    refine r_ireturn dX12_trim_29 rfl rfl ?_
    exact kb w10 _ hJ6
