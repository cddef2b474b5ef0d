def cnt (p : Nat → Bool) : Nat → Nat
  | 0 => 0
  | n + 1 => cnt p n + (if p n then 1 else 0)
theorem cnt_le (p : Nat → Bool) (n : Nat) : cnt p n ≤ n := by
  induction n with
  | zero => exact Nat.le_refl _
  | succ n ih => unfold cnt; split <;> omega
def bitsF (p : Nat → Bool) : Nat → Int32
  | 0 => 0
  | n + 1 => if p n then bitsF p n ||| (1 <<< (nI n &&& 31)) else bitsF p n
theorem S_X8_known {g : GG} {m : MM} {Q : Out → Prop} (hF : Fx m) (k : Q (.inl (some (.int (ldI m 33 1))), m)) : Cl g 1 0 0 mX8_known [.ref 32] m Q := by
  refine Cl.of rfl (by decide) (Nat.le_of_ble_eq_true rfl) ?_
  show Wp g mX8_known 1 0 0 0 [.ref 32] [] m Q
  refine r_aload_n dX8_known_0 rfl ?_
  refine r_getRc dX8_known_1 fgX8_14 rfl (by exact k_32 hF) (by exact r_32_0 hF) ?_
  refine r_callV0 (ci := 5) (d1 := 0) (c1 := 0) (n1 := 0) dX8_known_4 mvX8_20 rfl ⟨(Nat.le_of_ble_eq_true rfl), rfl⟩ (Nat.le_of_ble_eq_true rfl) (by exact Nat.le_of_ble_eq_true rfl) (by exact k_33 hF) ?_
  refine S_X5_filled (by exact k_33 hF) ?_
  show Wp g mX8_known _ _ _ 7 _ (_ :: _) _ Q
  refine r_ireturn dX8_known_7 rfl rfl ?_
  exact k
theorem S_X8_ratioAt {g : GG} {m : MM} {Q : Out → Prop} (hF : Fx m) {e : Nat} (hn : ldI m 33 1 = nI e) (he : e ≤ 20) {i : Nat} (hi : i < e) (k : Q (.inl (some (.int (ldI m 34 i))), m)) : Cl g 1 0 0 mX8_ratioAt [.ref 32, .int (nI i)] m Q := by
  refine Cl.of rfl (by decide) (Nat.le_of_ble_eq_true rfl) ?_
  show Wp g mX8_ratioAt 1 0 0 0 [.ref 32, .int (nI i)] [] m Q
  refine r_aload_n dX8_ratioAt_0 rfl ?_
  refine r_getRc dX8_ratioAt_1 fgX8_14 rfl (by exact k_32 hF) (by exact r_32_0 hF) ?_
  refine r_iload_n dX8_ratioAt_4 rfl ?_
  refine r_callV1 (ci := 5) (d1 := 0) (c1 := 0) (n1 := 0) dX8_ratioAt_5 mvX8_24 rfl ⟨(Nat.le_of_ble_eq_true rfl), rfl⟩ (Nat.le_of_ble_eq_true rfl) (by exact Nat.le_of_ble_eq_true rfl) (by exact k_33 hF) ?_
  refine S_X5_at (a := 33) (c := 34) (z := 20) (n := e) (by exact k_33 hF) (by exact r_33_0 hF) (by exact k_34 hF) (by omega) hn (by omega) (fun j hj hjn => ?_) (fun h9 => ?_)
  ·
    show Wp g mX8_ratioAt _ _ _ 8 _ (_ :: _) _ Q
    refine r_ireturn dX8_ratioAt_8 rfl rfl ?_
    (obtain rfl := (nI_eq (by omega) (by omega)).mp hj; exact k)
  ·
    exact absurd h9 (fun h => h.elim (nI_pos (by omega)) (nI_ge (by omega) (by omega)))
theorem i32_nle {a b : Int32} : ¬ a ≤ b ↔ b < a := by rw [Int32.lt_iff_toInt_lt, Int32.le_iff_toInt_le]; omega
theorem cnt_t {p : Nat → Bool} {i : Nat} {x : Int32} (h : p i = true) (hx : x = 1) : nI (cnt p i) + x = nI (cnt p (i + 1)) := by
  subst hx; show _ = nI (cnt p i + (if p i then 1 else 0)); rw [if_pos h]; exact nI_1 _
theorem cnt_f {p : Nat → Bool} {i : Nat} {x : Int32} (h : ¬ p i = true) (hx : x = 0) : nI (cnt p i) + x = nI (cnt p (i + 1)) := by
  subst hx; show _ = nI (cnt p i + (if p i then 1 else 0)); rw [if_neg h]; exact Int32.add_zero _
theorem Wp_l {g : GG} {μ : MD} {d c n pc : Nat} {ls ls' st : List Value} {m : MM} {Q : Out → Prop} (h : ls = ls') (k : Wp g μ d c n pc ls' st m Q) : Wp g μ d c n pc ls st m Q := h ▸ k
theorem L_mid_in {g : GG} {m : MM} {Q : Out → Prop} (hF : Fx m) {e : Nat} (hn : ldI m 33 1 = nI e) (he : e ≤ 20) {p : Int32} {o : Nat} (ho : o < e) (kx : Wp g mX8_middle 3 0 0 88 [.ref 32, .int p, .int (nI o), .int (nI (cnt (fun j => decide (ldI m 34 j < ldI m 34 o)) e)), .int (nI (cnt (fun j => decide (ldI m 34 j ≤ ldI m 34 o)) e)), .int (nI e)] [] m Q) : ∀ (t i : Nat), i + t = e → Wp g mX8_middle 3 0 0 27 [.ref 32, .int p, .int (nI o), .int (nI (cnt (fun j => decide (ldI m 34 j < ldI m 34 o)) i)), .int (nI (cnt (fun j => decide (ldI m 34 j ≤ ldI m 34 o)) i)), .int (nI i)] [] m Q := by
  intro t
  induction t with
  | zero =>
    intro i hi
    obtain rfl : i = e := by omega
    refine r_iload dX8_middle_27 rfl ?_
    refine r_aload_n dX8_middle_29 rfl ?_
    refine r_callV0 (ci := 8) (d1 := 1) (c1 := 0) (n1 := 0) dX8_middle_30 mvX8_44 rfl ⟨(Nat.le_of_ble_eq_true rfl), rfl⟩ (Nat.le_of_ble_eq_true rfl) (by exact Nat.le_of_ble_eq_true rfl) (by exact k_32 hF) ?_
    refine S_X8_known hF ?_
    show Wp g mX8_middle _ _ _ 33 _ (_ :: _) _ Q
    refine r_icmp_ge 88 dX8_middle_33 rfl (fun h1 => ?_) (fun h1 => ?_)
    ·
      exact kx
    ·
      exact absurd (by rw [hn]; exact nI_le (Nat.le_refl _) (by omega)) h1
  | succ t ih =>
    intro i hi
    have hin : i < e := by omega
    refine r_iload dX8_middle_27 rfl ?_
    refine r_aload_n dX8_middle_29 rfl ?_
    refine r_callV0 (ci := 8) (d1 := 1) (c1 := 0) (n1 := 0) dX8_middle_30 mvX8_44 rfl ⟨(Nat.le_of_ble_eq_true rfl), rfl⟩ (Nat.le_of_ble_eq_true rfl) (by exact Nat.le_of_ble_eq_true rfl) (by exact k_32 hF) ?_
    refine S_X8_known hF ?_
    show Wp g mX8_middle _ _ _ 33 _ (_ :: _) _ Q
    refine r_icmp_ge 88 dX8_middle_33 rfl (fun h1 => ?_) (fun h1 => ?_)
    ·
      exact absurd h1 (by rw [hn]; exact nI_ge hin (by omega))
    ·
      refine r_iload_n dX8_middle_36 rfl ?_
      refine r_aload_n dX8_middle_37 rfl ?_
      refine r_iload dX8_middle_38 rfl ?_
      refine r_callV1 (ci := 8) (d1 := 1) (c1 := 0) (n1 := 0) dX8_middle_40 mvX8_47 rfl ⟨(Nat.le_of_ble_eq_true rfl), rfl⟩ (Nat.le_of_ble_eq_true rfl) (by exact Nat.le_of_ble_eq_true rfl) (by exact k_32 hF) ?_
      refine S_X8_ratioAt hF hn he (i := i) (by omega) ?_
      show Wp g mX8_middle _ _ _ 43 _ (_ :: _) _ Q
      refine r_aload_n dX8_middle_43 rfl ?_
      refine r_iload_n dX8_middle_44 rfl ?_
      refine r_callV1 (ci := 8) (d1 := 1) (c1 := 0) (n1 := 0) dX8_middle_45 mvX8_47 rfl ⟨(Nat.le_of_ble_eq_true rfl), rfl⟩ (Nat.le_of_ble_eq_true rfl) (by exact Nat.le_of_ble_eq_true rfl) (by exact k_32 hF) ?_
      refine S_X8_ratioAt hF hn he (i := o) (by omega) ?_
      show Wp g mX8_middle _ _ _ 48 _ (_ :: _) _ Q
      refine r_icmp_ge 55 dX8_middle_48 rfl (fun h2 => ?_) (fun h2 => ?_)
      ·
        refine r_iconst (0) dX8_middle_55 rfl ?_
        refine r_iadd dX8_middle_56 ?_
        refine si_3 dX8_middle_57 rfl (Nat.le_of_ble_eq_true rfl) ?_
        refine r_iload dX8_middle_58 rfl ?_
        refine r_aload_n dX8_middle_60 rfl ?_
        refine r_iload dX8_middle_61 rfl ?_
        refine r_callV1 (ci := 8) (d1 := 1) (c1 := 0) (n1 := 0) dX8_middle_63 mvX8_47 rfl ⟨(Nat.le_of_ble_eq_true rfl), rfl⟩ (Nat.le_of_ble_eq_true rfl) (by exact Nat.le_of_ble_eq_true rfl) (by exact k_32 hF) ?_
        refine S_X8_ratioAt hF hn he (i := i) (by omega) ?_
        show Wp g mX8_middle _ _ _ 66 _ (_ :: _) _ Q
        refine r_aload_n dX8_middle_66 rfl ?_
        refine r_iload_n dX8_middle_67 rfl ?_
        refine r_callV1 (ci := 8) (d1 := 1) (c1 := 0) (n1 := 0) dX8_middle_68 mvX8_47 rfl ⟨(Nat.le_of_ble_eq_true rfl), rfl⟩ (Nat.le_of_ble_eq_true rfl) (by exact Nat.le_of_ble_eq_true rfl) (by exact k_32 hF) ?_
        refine S_X8_ratioAt hF hn he (i := o) (by omega) ?_
        show Wp g mX8_middle _ _ _ 71 _ (_ :: _) _ Q
        refine r_icmp_gt 78 dX8_middle_71 rfl (fun h3 => ?_) (fun h3 => ?_)
        ·
          refine r_iconst (0) dX8_middle_78 rfl ?_
          refine r_iadd dX8_middle_79 ?_
          refine si_4 dX8_middle_80 rfl (Nat.le_of_ble_eq_true rfl) ?_
          refine ic_5 (1) dX8_middle_82 rfl rfl (Nat.le_of_ble_eq_true rfl) ?_
          refine r_goto 27 dX8_middle_85 rfl ?_
          refine Wp_l (ls' := [.ref 32, .int p, .int (nI o), .int (nI (cnt (fun j => decide (ldI m 34 j < ldI m 34 o)) (i + 1))), .int (nI (cnt (fun j => decide (ldI m 34 j ≤ ldI m 34 o)) (i + 1))), .int (nI (i + 1))]) ?_ (ih (i + 1) (by omega))
          congr 1; congr 1; congr 1
          congr 1
          · first | exact congrArg Value.int (cnt_t (by simp only [decide_eq_true_eq]; exact i32_nle.mp h2) rfl) | exact congrArg Value.int (cnt_f (by simp only [decide_eq_true_eq]; exact i32_nlt.mpr h2) rfl)
          · congr 1
            · first | exact congrArg Value.int (cnt_t (by simp only [decide_eq_true_eq]; exact i32_nlt.mp h3) rfl) | exact congrArg Value.int (cnt_f (by simp only [decide_eq_true_eq]; exact i32_nle.mpr h3) rfl)
            · exact congrArg (fun z => [Value.int z]) (nI_1 i)
        ·
          refine r_iconst (1) dX8_middle_74 rfl ?_
          refine r_goto 79 dX8_middle_75 rfl ?_
          refine r_iadd dX8_middle_79 ?_
          refine si_4 dX8_middle_80 rfl (Nat.le_of_ble_eq_true rfl) ?_
          refine ic_5 (1) dX8_middle_82 rfl rfl (Nat.le_of_ble_eq_true rfl) ?_
          refine r_goto 27 dX8_middle_85 rfl ?_
          refine Wp_l (ls' := [.ref 32, .int p, .int (nI o), .int (nI (cnt (fun j => decide (ldI m 34 j < ldI m 34 o)) (i + 1))), .int (nI (cnt (fun j => decide (ldI m 34 j ≤ ldI m 34 o)) (i + 1))), .int (nI (i + 1))]) ?_ (ih (i + 1) (by omega))
          congr 1; congr 1; congr 1
          congr 1
          · first | exact congrArg Value.int (cnt_t (by simp only [decide_eq_true_eq]; exact i32_nle.mp h2) rfl) | exact congrArg Value.int (cnt_f (by simp only [decide_eq_true_eq]; exact i32_nlt.mpr h2) rfl)
          · congr 1
            · first | exact congrArg Value.int (cnt_t (by simp only [decide_eq_true_eq]; exact i32_nlt.mp h3) rfl) | exact congrArg Value.int (cnt_f (by simp only [decide_eq_true_eq]; exact i32_nle.mpr h3) rfl)
            · exact congrArg (fun z => [Value.int z]) (nI_1 i)
      ·
        refine r_iconst (1) dX8_middle_51 rfl ?_
        refine r_goto 56 dX8_middle_52 rfl ?_
        refine r_iadd dX8_middle_56 ?_
        refine si_3 dX8_middle_57 rfl (Nat.le_of_ble_eq_true rfl) ?_
        refine r_iload dX8_middle_58 rfl ?_
        refine r_aload_n dX8_middle_60 rfl ?_
        refine r_iload dX8_middle_61 rfl ?_
        refine r_callV1 (ci := 8) (d1 := 1) (c1 := 0) (n1 := 0) dX8_middle_63 mvX8_47 rfl ⟨(Nat.le_of_ble_eq_true rfl), rfl⟩ (Nat.le_of_ble_eq_true rfl) (by exact Nat.le_of_ble_eq_true rfl) (by exact k_32 hF) ?_
        refine S_X8_ratioAt hF hn he (i := i) (by omega) ?_
        show Wp g mX8_middle _ _ _ 66 _ (_ :: _) _ Q
        refine r_aload_n dX8_middle_66 rfl ?_
        refine r_iload_n dX8_middle_67 rfl ?_
        refine r_callV1 (ci := 8) (d1 := 1) (c1 := 0) (n1 := 0) dX8_middle_68 mvX8_47 rfl ⟨(Nat.le_of_ble_eq_true rfl), rfl⟩ (Nat.le_of_ble_eq_true rfl) (by exact Nat.le_of_ble_eq_true rfl) (by exact k_32 hF) ?_
        refine S_X8_ratioAt hF hn he (i := o) (by omega) ?_
        show Wp g mX8_middle _ _ _ 71 _ (_ :: _) _ Q
        refine r_icmp_gt 78 dX8_middle_71 rfl (fun h3 => ?_) (fun h3 => ?_)
        ·
          refine r_iconst (0) dX8_middle_78 rfl ?_
          refine r_iadd dX8_middle_79 ?_
          refine si_4 dX8_middle_80 rfl (Nat.le_of_ble_eq_true rfl) ?_
          refine ic_5 (1) dX8_middle_82 rfl rfl (Nat.le_of_ble_eq_true rfl) ?_
          refine r_goto 27 dX8_middle_85 rfl ?_
          refine Wp_l (ls' := [.ref 32, .int p, .int (nI o), .int (nI (cnt (fun j => decide (ldI m 34 j < ldI m 34 o)) (i + 1))), .int (nI (cnt (fun j => decide (ldI m 34 j ≤ ldI m 34 o)) (i + 1))), .int (nI (i + 1))]) ?_ (ih (i + 1) (by omega))
          congr 1; congr 1; congr 1
          congr 1
          · first | exact congrArg Value.int (cnt_t (by simp only [decide_eq_true_eq]; exact i32_nle.mp h2) rfl) | exact congrArg Value.int (cnt_f (by simp only [decide_eq_true_eq]; exact i32_nlt.mpr h2) rfl)
          · congr 1
            · first | exact congrArg Value.int (cnt_t (by simp only [decide_eq_true_eq]; exact i32_nlt.mp h3) rfl) | exact congrArg Value.int (cnt_f (by simp only [decide_eq_true_eq]; exact i32_nle.mpr h3) rfl)
            · exact congrArg (fun z => [Value.int z]) (nI_1 i)
        ·
          refine r_iconst (1) dX8_middle_74 rfl ?_
          refine r_goto 79 dX8_middle_75 rfl ?_
          refine r_iadd dX8_middle_79 ?_
          refine si_4 dX8_middle_80 rfl (Nat.le_of_ble_eq_true rfl) ?_
          refine ic_5 (1) dX8_middle_82 rfl rfl (Nat.le_of_ble_eq_true rfl) ?_
          refine r_goto 27 dX8_middle_85 rfl ?_
          refine Wp_l (ls' := [.ref 32, .int p, .int (nI o), .int (nI (cnt (fun j => decide (ldI m 34 j < ldI m 34 o)) (i + 1))), .int (nI (cnt (fun j => decide (ldI m 34 j ≤ ldI m 34 o)) (i + 1))), .int (nI (i + 1))]) ?_ (ih (i + 1) (by omega))
          congr 1; congr 1; congr 1
          congr 1
          · first | exact congrArg Value.int (cnt_t (by simp only [decide_eq_true_eq]; exact i32_nle.mp h2) rfl) | exact congrArg Value.int (cnt_f (by simp only [decide_eq_true_eq]; exact i32_nlt.mpr h2) rfl)
          · congr 1
            · first | exact congrArg Value.int (cnt_t (by simp only [decide_eq_true_eq]; exact i32_nlt.mp h3) rfl) | exact congrArg Value.int (cnt_f (by simp only [decide_eq_true_eq]; exact i32_nle.mpr h3) rfl)
            · exact congrArg (fun z => [Value.int z]) (nI_1 i)
