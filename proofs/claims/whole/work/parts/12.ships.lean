def cnt (p : Nat → Bool) : Nat → Nat
  | 0 => 0
  | n + 1 => cnt p n + (if p n then 1 else 0)
theorem cnt_le (p : Nat → Bool) (n : Nat) : cnt p n ≤ n := by
  induction n with
  | zero => exact Nat.le_refl _
  | succ n ih => unfold cnt; split <;> omega
def bitsF (p : Nat → Bool) : Nat → Int32
  | 0 => 0
  | n + 1 => if p n then bitsF p n ||| (1 <<< (nI n &&& 31)) else bitsF p n
theorem S_X8_known {g : GG} {m : MM} {Q : Out → Prop} (hF : Fx m) (k : Q (.inl (some (.int (ldI m 33 1))), m)) : Cl g 1 0 0 mX8_known [.ref 32] m Q := by
  refine Cl.of rfl (by decide) (Nat.le_of_ble_eq_true rfl) ?_
  show Wp g mX8_known 1 0 0 0 [.ref 32] [] m Q
  refine r_aload_n dX8_known_0 rfl ?_
  refine r_getRc dX8_known_1 fgX8_14 rfl (by exact k_32 hF) (by exact r_32_0 hF) ?_
  refine r_callV0 (ci := 5) (d1 := 0) (c1 := 0) (n1 := 0) dX8_known_4 mvX8_20 rfl ⟨(Nat.le_of_ble_eq_true rfl), rfl⟩ (Nat.le_of_ble_eq_true rfl) (by exact Nat.le_of_ble_eq_true rfl) (by exact k_33 hF) ?_
  refine S_X5_filled (by exact k_33 hF) ?_
  show Wp g mX8_known _ _ _ 7 _ (_ :: _) _ Q
  refine r_ireturn dX8_known_7 rfl rfl ?_
  exact k
theorem S_X8_ratioAt {g : GG} {m : MM} {Q : Out → Prop} (hF : Fx m) {e : Nat} (hn : ldI m 33 1 = nI e) (he : e ≤ 20) {i : Nat} (hi : i < e) (k : Q (.inl (some (.int (ldI m 34 i))), m)) : Cl g 1 0 0 mX8_ratioAt [.ref 32, .int (nI i)] m Q := by
  refine Cl.of rfl (by decide) (Nat.le_of_ble_eq_true rfl) ?_
  show Wp g mX8_ratioAt 1 0 0 0 [.ref 32, .int (nI i)] [] m Q
  refine r_aload_n dX8_ratioAt_0 rfl ?_
  refine r_getRc dX8_ratioAt_1 fgX8_14 rfl (by exact k_32 hF) (by exact r_32_0 hF) ?_
  refine r_iload_n dX8_ratioAt_4 rfl ?_
  refine r_callV1 (ci := 5) (d1 := 0) (c1 := 0) (n1 := 0) dX8_ratioAt_5 mvX8_24 rfl ⟨(Nat.le_of_ble_eq_true rfl), rfl⟩ (Nat.le_of_ble_eq_true rfl) (by exact Nat.le_of_ble_eq_true rfl) (by exact k_33 hF) ?_
  refine S_X5_at (a := 33) (c := 34) (z := 20) (n := e) (by exact k_33 hF) (by exact r_33_0 hF) (by exact k_34 hF) (by omega) hn (by omega) (fun j hj hjn => ?_) (fun h9 => ?_)
  ·
    show Wp g mX8_ratioAt _ _ _ 8 _ (_ :: _) _ Q
    refine r_ireturn dX8_ratioAt_8 rfl rfl ?_
    (obtain rfl := (nI_eq (by omega) (by omega)).mp hj; exact k)
  ·
    exact absurd h9 (fun h => h.elim (nI_pos (by omega)) (nI_ge (by omega) (by omega)))
theorem i32_nle {a b : Int32} : ¬ a ≤ b ↔ b < a := by rw [Int32.lt_iff_toInt_lt, Int32.le_iff_toInt_le]; omega
theorem cnt_t {p : Nat → Bool} {i : Nat} {x : Int32} (h : p i = true) (hx : x = 1) : nI (cnt p i) + x = nI (cnt p (i + 1)) := by
  subst hx; show _ = nI (cnt p i + (if p i then 1 else 0)); rw [if_pos h]; exact nI_1 _
theorem cnt_f {p : Nat → Bool} {i : Nat} {x : Int32} (h : ¬ p i = true) (hx : x = 0) : nI (cnt p i) + x = nI (cnt p (i + 1)) := by
  subst hx; show _ = nI (cnt p i + (if p i then 1 else 0)); rw [if_neg h]; exact Int32.add_zero _
theorem Wp_l {g : GG} {μ : MD} {d c n pc : Nat} {ls ls' st : List Value} {m : MM} {Q : Out → Prop} (h : ls = ls') (k : Wp g μ d c n pc ls' st m Q) : Wp g μ d c n pc ls st m Q := h ▸ k
theorem L_mid_in {g : GG} {m : MM} {Q : Out → Prop} (hF : Fx m) {e : Nat} (hn : ldI m 33 1 = nI e) (he : e ≤ 20) {p : Int32} {o : Nat} (ho : o < e) (kx : Wp g mX8_middle 2 0 0 88 [.ref 32, .int p, .int (nI o), .int (nI (cnt (fun j => decide (ldI m 34 j < ldI m 34 o)) e)), .int (nI (cnt (fun j => decide (ldI m 34 j ≤ ldI m 34 o)) e)), .int (nI e)] [] m Q) : ∀ (t i : Nat), i + t = e → Wp g mX8_middle 2 0 0 27 [.ref 32, .int p, .int (nI o), .int (nI (cnt (fun j => decide (ldI m 34 j < ldI m 34 o)) i)), .int (nI (cnt (fun j => decide (ldI m 34 j ≤ ldI m 34 o)) i)), .int (nI i)] [] m Q := by
  intro t
  induction t with
  | zero =>
    intro i hi
    obtain rfl : i = e := by omega
    refine r_iload dX8_middle_27 rfl ?_
    refine r_aload_n dX8_middle_29 rfl ?_
    refine r_callV0 (ci := 8) (d1 := 1) (c1 := 0) (n1 := 0) dX8_middle_30 mvX8_44 rfl ⟨(Nat.le_of_ble_eq_true rfl), rfl⟩ (Nat.le_of_ble_eq_true rfl) (by exact Nat.le_of_ble_eq_true rfl) (by exact k_32 hF) ?_
    refine S_X8_known hF ?_
    show Wp g mX8_middle _ _ _ 33 _ (_ :: _) _ Q
    refine r_icmp_ge 88 dX8_middle_33 rfl (fun h1 => ?_) (fun h1 => ?_)
    ·
      exact kx
    ·
      exact absurd (by rw [hn]; exact nI_le (Nat.le_refl _) (by omega)) h1
  | succ t ih =>
    intro i hi
    have hin : i < e := by omega
    refine r_iload dX8_middle_27 rfl ?_
    refine r_aload_n dX8_middle_29 rfl ?_
    refine r_callV0 (ci := 8) (d1 := 1) (c1 := 0) (n1 := 0) dX8_middle_30 mvX8_44 rfl ⟨(Nat.le_of_ble_eq_true rfl), rfl⟩ (Nat.le_of_ble_eq_true rfl) (by exact Nat.le_of_ble_eq_true rfl) (by exact k_32 hF) ?_
    refine S_X8_known hF ?_
    show Wp g mX8_middle _ _ _ 33 _ (_ :: _) _ Q
    refine r_icmp_ge 88 dX8_middle_33 rfl (fun h1 => ?_) (fun h1 => ?_)
    ·
      exact absurd h1 (by rw [hn]; exact nI_ge hin (by omega))
    ·
      refine r_iload_n dX8_middle_36 rfl ?_
      refine r_aload_n dX8_middle_37 rfl ?_
      refine r_iload dX8_middle_38 rfl ?_
      refine r_callV1 (ci := 8) (d1 := 1) (c1 := 0) (n1 := 0) dX8_middle_40 mvX8_47 rfl ⟨(Nat.le_of_ble_eq_true rfl), rfl⟩ (Nat.le_of_ble_eq_true rfl) (by exact Nat.le_of_ble_eq_true rfl) (by exact k_32 hF) ?_
      refine S_X8_ratioAt hF hn he (i := i) (by omega) ?_
      show Wp g mX8_middle _ _ _ 43 _ (_ :: _) _ Q
      refine r_aload_n dX8_middle_43 rfl ?_
      refine r_iload_n dX8_middle_44 rfl ?_
      refine r_callV1 (ci := 8) (d1 := 1) (c1 := 0) (n1 := 0) dX8_middle_45 mvX8_47 rfl ⟨(Nat.le_of_ble_eq_true rfl), rfl⟩ (Nat.le_of_ble_eq_true rfl) (by exact Nat.le_of_ble_eq_true rfl) (by exact k_32 hF) ?_
      refine S_X8_ratioAt hF hn he (i := o) (by omega) ?_
      show Wp g mX8_middle _ _ _ 48 _ (_ :: _) _ Q
      refine r_icmp_ge 55 dX8_middle_48 rfl (fun h2 => ?_) (fun h2 => ?_)
      ·
        refine r_iconst (0) dX8_middle_55 rfl ?_
        refine r_iadd dX8_middle_56 ?_
        refine si_3 dX8_middle_57 rfl (Nat.le_of_ble_eq_true rfl) ?_
        refine r_iload dX8_middle_58 rfl ?_
        refine r_aload_n dX8_middle_60 rfl ?_
        refine r_iload dX8_middle_61 rfl ?_
        refine r_callV1 (ci := 8) (d1 := 1) (c1 := 0) (n1 := 0) dX8_middle_63 mvX8_47 rfl ⟨(Nat.le_of_ble_eq_true rfl), rfl⟩ (Nat.le_of_ble_eq_true rfl) (by exact Nat.le_of_ble_eq_true rfl) (by exact k_32 hF) ?_
        refine S_X8_ratioAt hF hn he (i := i) (by omega) ?_
        show Wp g mX8_middle _ _ _ 66 _ (_ :: _) _ Q
        refine r_aload_n dX8_middle_66 rfl ?_
        refine r_iload_n dX8_middle_67 rfl ?_
        refine r_callV1 (ci := 8) (d1 := 1) (c1 := 0) (n1 := 0) dX8_middle_68 mvX8_47 rfl ⟨(Nat.le_of_ble_eq_true rfl), rfl⟩ (Nat.le_of_ble_eq_true rfl) (by exact Nat.le_of_ble_eq_true rfl) (by exact k_32 hF) ?_
        refine S_X8_ratioAt hF hn he (i := o) (by omega) ?_
        show Wp g mX8_middle _ _ _ 71 _ (_ :: _) _ Q
        refine r_icmp_gt 78 dX8_middle_71 rfl (fun h3 => ?_) (fun h3 => ?_)
        ·
          refine r_iconst (0) dX8_middle_78 rfl ?_
          refine r_iadd dX8_middle_79 ?_
          refine si_4 dX8_middle_80 rfl (Nat.le_of_ble_eq_true rfl) ?_
          refine ic_5 (1) dX8_middle_82 rfl rfl (Nat.le_of_ble_eq_true rfl) ?_
          refine r_goto 27 dX8_middle_85 rfl ?_
          refine Wp_l (ls' := [.ref 32, .int p, .int (nI o), .int (nI (cnt (fun j => decide (ldI m 34 j < ldI m 34 o)) (i + 1))), .int (nI (cnt (fun j => decide (ldI m 34 j ≤ ldI m 34 o)) (i + 1))), .int (nI (i + 1))]) ?_ (ih (i + 1) (by omega))
          congr 1; congr 1; congr 1
          congr 1
          · first | exact congrArg Value.int (cnt_t (by simp only [decide_eq_true_eq]; exact i32_nle.mp h2) rfl) | exact congrArg Value.int (cnt_f (by simp only [decide_eq_true_eq]; exact i32_nlt.mpr h2) rfl)
          · congr 1
            · first | exact congrArg Value.int (cnt_t (by simp only [decide_eq_true_eq]; exact i32_nlt.mp h3) rfl) | exact congrArg Value.int (cnt_f (by simp only [decide_eq_true_eq]; exact i32_nle.mpr h3) rfl)
            · exact congrArg (fun z => [Value.int z]) (nI_1 i)
        ·
          refine r_iconst (1) dX8_middle_74 rfl ?_
          refine r_goto 79 dX8_middle_75 rfl ?_
          refine r_iadd dX8_middle_79 ?_
          refine si_4 dX8_middle_80 rfl (Nat.le_of_ble_eq_true rfl) ?_
          refine ic_5 (1) dX8_middle_82 rfl rfl (Nat.le_of_ble_eq_true rfl) ?_
          refine r_goto 27 dX8_middle_85 rfl ?_
          refine Wp_l (ls' := [.ref 32, .int p, .int (nI o), .int (nI (cnt (fun j => decide (ldI m 34 j < ldI m 34 o)) (i + 1))), .int (nI (cnt (fun j => decide (ldI m 34 j ≤ ldI m 34 o)) (i + 1))), .int (nI (i + 1))]) ?_ (ih (i + 1) (by omega))
          congr 1; congr 1; congr 1
          congr 1
          · first | exact congrArg Value.int (cnt_t (by simp only [decide_eq_true_eq]; exact i32_nle.mp h2) rfl) | exact congrArg Value.int (cnt_f (by simp only [decide_eq_true_eq]; exact i32_nlt.mpr h2) rfl)
          · congr 1
            · first | exact congrArg Value.int (cnt_t (by simp only [decide_eq_true_eq]; exact i32_nlt.mp h3) rfl) | exact congrArg Value.int (cnt_f (by simp only [decide_eq_true_eq]; exact i32_nle.mpr h3) rfl)
            · exact congrArg (fun z => [Value.int z]) (nI_1 i)
      ·
        refine r_iconst (1) dX8_middle_51 rfl ?_
        refine r_goto 56 dX8_middle_52 rfl ?_
        refine r_iadd dX8_middle_56 ?_
        refine si_3 dX8_middle_57 rfl (Nat.le_of_ble_eq_true rfl) ?_
        refine r_iload dX8_middle_58 rfl ?_
        refine r_aload_n dX8_middle_60 rfl ?_
        refine r_iload dX8_middle_61 rfl ?_
        refine r_callV1 (ci := 8) (d1 := 1) (c1 := 0) (n1 := 0) dX8_middle_63 mvX8_47 rfl ⟨(Nat.le_of_ble_eq_true rfl), rfl⟩ (Nat.le_of_ble_eq_true rfl) (by exact Nat.le_of_ble_eq_true rfl) (by exact k_32 hF) ?_
        refine S_X8_ratioAt hF hn he (i := i) (by omega) ?_
        show Wp g mX8_middle _ _ _ 66 _ (_ :: _) _ Q
        refine r_aload_n dX8_middle_66 rfl ?_
        refine r_iload_n dX8_middle_67 rfl ?_
        refine r_callV1 (ci := 8) (d1 := 1) (c1 := 0) (n1 := 0) dX8_middle_68 mvX8_47 rfl ⟨(Nat.le_of_ble_eq_true rfl), rfl⟩ (Nat.le_of_ble_eq_true rfl) (by exact Nat.le_of_ble_eq_true rfl) (by exact k_32 hF) ?_
        refine S_X8_ratioAt hF hn he (i := o) (by omega) ?_
        show Wp g mX8_middle _ _ _ 71 _ (_ :: _) _ Q
        refine r_icmp_gt 78 dX8_middle_71 rfl (fun h3 => ?_) (fun h3 => ?_)
        ·
          refine r_iconst (0) dX8_middle_78 rfl ?_
          refine r_iadd dX8_middle_79 ?_
          refine si_4 dX8_middle_80 rfl (Nat.le_of_ble_eq_true rfl) ?_
          refine ic_5 (1) dX8_middle_82 rfl rfl (Nat.le_of_ble_eq_true rfl) ?_
          refine r_goto 27 dX8_middle_85 rfl ?_
          refine Wp_l (ls' := [.ref 32, .int p, .int (nI o), .int (nI (cnt (fun j => decide (ldI m 34 j < ldI m 34 o)) (i + 1))), .int (nI (cnt (fun j => decide (ldI m 34 j ≤ ldI m 34 o)) (i + 1))), .int (nI (i + 1))]) ?_ (ih (i + 1) (by omega))
          congr 1; congr 1; congr 1
          congr 1
          · first | exact congrArg Value.int (cnt_t (by simp only [decide_eq_true_eq]; exact i32_nle.mp h2) rfl) | exact congrArg Value.int (cnt_f (by simp only [decide_eq_true_eq]; exact i32_nlt.mpr h2) rfl)
          · congr 1
            · first | exact congrArg Value.int (cnt_t (by simp only [decide_eq_true_eq]; exact i32_nlt.mp h3) rfl) | exact congrArg Value.int (cnt_f (by simp only [decide_eq_true_eq]; exact i32_nle.mpr h3) rfl)
            · exact congrArg (fun z => [Value.int z]) (nI_1 i)
        ·
          refine r_iconst (1) dX8_middle_74 rfl ?_
          refine r_goto 79 dX8_middle_75 rfl ?_
          refine r_iadd dX8_middle_79 ?_
          refine si_4 dX8_middle_80 rfl (Nat.le_of_ble_eq_true rfl) ?_
          refine ic_5 (1) dX8_middle_82 rfl rfl (Nat.le_of_ble_eq_true rfl) ?_
          refine r_goto 27 dX8_middle_85 rfl ?_
          refine Wp_l (ls' := [.ref 32, .int p, .int (nI o), .int (nI (cnt (fun j => decide (ldI m 34 j < ldI m 34 o)) (i + 1))), .int (nI (cnt (fun j => decide (ldI m 34 j ≤ ldI m 34 o)) (i + 1))), .int (nI (i + 1))]) ?_ (ih (i + 1) (by omega))
          congr 1; congr 1; congr 1
          congr 1
          · first | exact congrArg Value.int (cnt_t (by simp only [decide_eq_true_eq]; exact i32_nle.mp h2) rfl) | exact congrArg Value.int (cnt_f (by simp only [decide_eq_true_eq]; exact i32_nlt.mpr h2) rfl)
          · congr 1
            · first | exact congrArg Value.int (cnt_t (by simp only [decide_eq_true_eq]; exact i32_nlt.mp h3) rfl) | exact congrArg Value.int (cnt_f (by simp only [decide_eq_true_eq]; exact i32_nle.mpr h3) rfl)
            · exact congrArg (fun z => [Value.int z]) (nI_1 i)
def MidP (ρ : Nat → Int32) (e o : Nat) : Prop := cnt (fun j => decide (ρ j < ρ o)) e ≤ (e - 1) / 2 ∧ (e - 1) / 2 < cnt (fun j => decide (ρ j ≤ ρ o)) e
def MidV (ρ : Nat → Int32) (e : Nat) (v : Int32) : Prop := (∃ o, o < e ∧ MidP ρ e o ∧ v = ρ o) ∨ (v = 0 ∧ ∀ o, o < e → ¬ MidP ρ e o)
theorem half_nI {e : Nat} (h : 0 < e) (h2 : e ≤ 20) : (nI e - 1) / 2 = nI ((e - 1) / 2) := by
  rw [show (1 : Int32) = nI 1 from rfl, pk_sub h, show (2 : Int32) = nI 2 from rfl, pk_div (by omega) (by omega) (by omega)]
theorem nI_nle2 {a b : Nat} (ha : a < 2 ^ 31) (hb : b < 2 ^ 31) (h : a ≤ b) : ¬ nI b < nI a := nI_nlt h hb
theorem L_mid_out {g : GG} {m : MM} {Q : Out → Prop} (hF : Fx m) {e : Nat} (hn : ldI m 33 1 = nI e) (he : e ≤ 20) (k : ∀ v, MidV (ldI m 34) e v → Q (.inl (some (.int v)), m)) : ∀ (t o : Nat) (x3 x4 x5 : Value), o + t = e → (∀ o', o' < o → ¬ MidP (ldI m 34) e o') → Wp g mX8_middle 2 0 0 11 [.ref 32, .int ((nI e - 1) / 2), .int (nI o), x3, x4, x5] [] m Q := by
  intro t
  induction t with
  | zero =>
    intro o x3 x4 x5 hi hno
    obtain rfl : o = e := by omega
    refine r_iload_n dX8_middle_11 rfl ?_
    refine r_aload_n dX8_middle_12 rfl ?_
    refine r_callV0 (ci := 8) (d1 := 1) (c1 := 0) (n1 := 0) dX8_middle_13 mvX8_44 rfl ⟨(Nat.le_of_ble_eq_true rfl), rfl⟩ (Nat.le_of_ble_eq_true rfl) (by exact Nat.le_of_ble_eq_true rfl) (by exact k_32 hF) ?_
    refine S_X8_known hF ?_
    show Wp g mX8_middle _ _ _ 16 _ (_ :: _) _ Q
    refine r_icmp_ge 111 dX8_middle_16 rfl (fun h1 => ?_) (fun h1 => ?_)
    ·
      refine r_iconst (0) dX8_middle_111 rfl ?_
      refine r_ireturn dX8_middle_112 rfl rfl ?_
      exact k 0 (Or.inr ⟨rfl, hno⟩)
    ·
      exact absurd (by rw [hn]; exact nI_le (Nat.le_refl _) (by omega)) h1
  | succ t ih =>
    intro o x3 x4 x5 hi hno
    have hin : o < e := by omega
    refine r_iload_n dX8_middle_11 rfl ?_
    refine r_aload_n dX8_middle_12 rfl ?_
    refine r_callV0 (ci := 8) (d1 := 1) (c1 := 0) (n1 := 0) dX8_middle_13 mvX8_44 rfl ⟨(Nat.le_of_ble_eq_true rfl), rfl⟩ (Nat.le_of_ble_eq_true rfl) (by exact Nat.le_of_ble_eq_true rfl) (by exact k_32 hF) ?_
    refine S_X8_known hF ?_
    show Wp g mX8_middle _ _ _ 16 _ (_ :: _) _ Q
    refine r_icmp_ge 111 dX8_middle_16 rfl (fun h1 => ?_) (fun h1 => ?_)
    ·
      exact absurd h1 (by rw [hn]; exact nI_ge hin (by omega))
    ·
      refine r_iconst (0) dX8_middle_19 rfl ?_
      refine si_3 dX8_middle_20 rfl (Nat.le_of_ble_eq_true rfl) ?_
      refine r_iconst (0) dX8_middle_21 rfl ?_
      refine si_4 dX8_middle_22 rfl (Nat.le_of_ble_eq_true rfl) ?_
      refine r_iconst (0) dX8_middle_24 rfl ?_
      refine si_5 dX8_middle_25 rfl (Nat.le_of_ble_eq_true rfl) ?_
      refine L_mid_in hF hn he hin ?_ e 0 (by omega)
      rw [half_nI (by omega) he]
      refine r_iload_n dX8_middle_88 rfl ?_
      refine r_iload_n dX8_middle_89 rfl ?_
      refine r_icmp_gt 105 dX8_middle_90 rfl (fun h2 => ?_) (fun h2 => ?_)
      ·
        refine ic_2 (1) dX8_middle_105 rfl rfl (Nat.le_of_ble_eq_true rfl) ?_
        refine r_goto 11 dX8_middle_108 rfl ?_
        rw [nI_1, ← half_nI (by omega) he]
        refine ih (o + 1) _ _ _ (by omega) (fun o2 h2o => ?_)
        rcases Nat.lt_succ_iff_lt_or_eq.mp h2o with h | rfl
        · exact hno o2 h
        · first | exact fun q => nI_nle2 (by have := cnt_le (fun j => decide (ldI m 34 j < ldI m 34 o2)) e; omega) (by omega) q.1 h2 | exact fun q => nI_ge q.2 (by have := cnt_le (fun j => decide (ldI m 34 j ≤ ldI m 34 o2)) e; omega) h3
      ·
        refine r_iload_n dX8_middle_93 rfl ?_
        refine r_iload dX8_middle_94 rfl ?_
        refine r_icmp_ge 105 dX8_middle_96 rfl (fun h3 => ?_) (fun h3 => ?_)
        ·
          refine ic_2 (1) dX8_middle_105 rfl rfl (Nat.le_of_ble_eq_true rfl) ?_
          refine r_goto 11 dX8_middle_108 rfl ?_
          rw [nI_1, ← half_nI (by omega) he]
          refine ih (o + 1) _ _ _ (by omega) (fun o2 h2o => ?_)
          rcases Nat.lt_succ_iff_lt_or_eq.mp h2o with h | rfl
          · exact hno o2 h
          · first | exact fun q => nI_nle2 (by have := cnt_le (fun j => decide (ldI m 34 j < ldI m 34 o2)) e; omega) (by omega) q.1 h2 | exact fun q => nI_ge q.2 (by have := cnt_le (fun j => decide (ldI m 34 j ≤ ldI m 34 o2)) e; omega) h3
        ·
          refine r_aload_n dX8_middle_99 rfl ?_
          refine r_iload_n dX8_middle_100 rfl ?_
          refine r_callV1 (ci := 8) (d1 := 1) (c1 := 0) (n1 := 0) dX8_middle_101 mvX8_47 rfl ⟨(Nat.le_of_ble_eq_true rfl), rfl⟩ (Nat.le_of_ble_eq_true rfl) (by exact Nat.le_of_ble_eq_true rfl) (by exact k_32 hF) ?_
          refine S_X8_ratioAt hF hn he (i := o) (by omega) ?_
          show Wp g mX8_middle _ _ _ 104 _ (_ :: _) _ Q
          refine r_ireturn dX8_middle_104 rfl rfl ?_
          exact k _ (Or.inl ⟨o, hin, ⟨(nI_leI (by have := cnt_le (fun j => decide (ldI m 34 j < ldI m 34 o)) e; omega) (by omega)).mp (i32_nlt.mp h2), (nI_ltI (by omega) (by have := cnt_le (fun j => decide (ldI m 34 j ≤ ldI m 34 o)) e; omega)).mp (i32_nle.mp h3)⟩, rfl⟩)
theorem S_X8_middle {g : GG} {m : MM} {Q : Out → Prop} (hF : Fx m) {e : Nat} (hn : ldI m 33 1 = nI e) (he : e ≤ 20) (k : ∀ v, MidV (ldI m 34) e v → Q (.inl (some (.int v)), m)) : Cl g 2 0 0 mX8_middle [.ref 32] m Q := by
  refine Cl.of rfl (by decide) (Nat.le_of_ble_eq_true rfl) ?_
  show Wp g mX8_middle 2 0 0 0 [.ref 32, .retAddr 0, .retAddr 0, .retAddr 0, .retAddr 0, .retAddr 0] [] m Q
  refine r_aload_n dX8_middle_0 rfl ?_
  refine r_callV0 (ci := 8) (d1 := 1) (c1 := 0) (n1 := 0) dX8_middle_1 mvX8_44 rfl ⟨(Nat.le_of_ble_eq_true rfl), rfl⟩ (Nat.le_of_ble_eq_true rfl) (by exact Nat.le_of_ble_eq_true rfl) (by exact k_32 hF) ?_
  refine S_X8_known hF ?_
  show Wp g mX8_middle _ _ _ 4 _ (_ :: _) _ Q
  refine r_iconst (1) dX8_middle_4 rfl ?_
  refine r_isub dX8_middle_5 ?_
  refine r_iconst (2) dX8_middle_6 rfl ?_
  refine r_idiv dX8_middle_7 (by decide) ?_
  refine si_1 dX8_middle_8 rfl (Nat.le_of_ble_eq_true rfl) ?_
  refine r_iconst (0) dX8_middle_9 rfl ?_
  refine si_2 dX8_middle_10 rfl (Nat.le_of_ble_eq_true rfl) ?_
  rw [hn]
  exact L_mid_out hF hn he k e 0 _ _ _ (by omega) (fun _ h => absurd h (Nat.not_lt_zero _))
theorem i64_nle {a b : Int64} : ¬ a ≤ b ↔ b < a := by rw [Int64.lt_iff_toInt_lt, Int64.le_iff_toInt_le]; omega
def dst (x y : Int64) : Int64 := if y ≤ x then x - y else y - x
theorem S_dist {g : GG} {m : MM} {Q : Out → Prop} {x y : Int64} (k : Q (.inl (some (.long (dst x y))), m)) : Cl g 0 0 0 mX11_distance [.long x, .long y] m Q := by
  refine S_X11_distance (fun h => ?_) (fun h => ?_)
  · rw [dst, if_pos h] at k; exact k
  · rw [dst, if_neg (i64_nle.mpr h)] at k; exact k
def strg (ρ : Nat → Int32) (md b : Int32) : Nat → Bool := fun i => decide (b.toInt64 < dst (ρ i).toInt64 md.toInt64)
theorem bits_t {p : Nat → Bool} {i : Nat} (h : p i = true) : bitsF p i ||| (1 <<< (nI i &&& 31)) = bitsF p (i + 1) := by show _ = if p i then _ else _; rw [if_pos h]
theorem bits_f {p : Nat → Bool} {i : Nat} (h : ¬ p i = true) : bitsF p i = bitsF p (i + 1) := by show _ = if p i then _ else _; rw [if_neg h]
theorem L_strb {g : GG} {m : MM} {Q : Out → Prop} (hF : Fx m) {e : Nat} (hn : ldI m 33 1 = nI e) (he : e ≤ 20) {md b : Int32}  (kx : Wp g mX8_strangeBits 3 0 0 50 [.ref 32, .int b, .int md, .int (bitsF (strg (ldI m 34) md b) e), .int (nI e)] [] (m) Q) : ∀ (t i : Nat), i + t = e → Wp g mX8_strangeBits 3 0 0 10 [.ref 32, .int b, .int md, .int (bitsF (strg (ldI m 34) md b) i), .int (nI i)] [] (m) Q := by
  intro t
  induction t with
  | zero =>
    intro i hi
    obtain rfl : i = e := by omega
    refine r_iload dX8_strangeBits_10 rfl ?_
    refine r_aload_n dX8_strangeBits_12 rfl ?_
    refine r_callV0 (ci := 8) (d1 := 1) (c1 := 0) (n1 := 0) dX8_strangeBits_13 mvX8_44 rfl ⟨(Nat.le_of_ble_eq_true rfl), rfl⟩ (Nat.le_of_ble_eq_true rfl) (by exact Nat.le_of_ble_eq_true rfl) (by exact k_32 hF) ?_
    refine S_X8_known hF ?_
    show Wp g mX8_strangeBits _ _ _ 16 _ (_ :: _) _ Q
    refine r_icmp_ge 50 dX8_strangeBits_16 rfl (fun h1 => ?_) (fun h1 => ?_)
    ·
      exact kx
    ·
      exact absurd (by rw [hn]; exact nI_le (Nat.le_refl _) (by omega)) h1
  | succ t ih =>
    intro i hi
    have hin : i < e := by omega
    refine r_iload dX8_strangeBits_10 rfl ?_
    refine r_aload_n dX8_strangeBits_12 rfl ?_
    refine r_callV0 (ci := 8) (d1 := 1) (c1 := 0) (n1 := 0) dX8_strangeBits_13 mvX8_44 rfl ⟨(Nat.le_of_ble_eq_true rfl), rfl⟩ (Nat.le_of_ble_eq_true rfl) (by exact Nat.le_of_ble_eq_true rfl) (by exact k_32 hF) ?_
    refine S_X8_known hF ?_
    show Wp g mX8_strangeBits _ _ _ 16 _ (_ :: _) _ Q
    refine r_icmp_ge 50 dX8_strangeBits_16 rfl (fun h1 => ?_) (fun h1 => ?_)
    ·
      exact absurd h1 (by rw [hn]; exact nI_ge hin (by omega))
    ·
      refine r_aload_n dX8_strangeBits_19 rfl ?_
      refine r_iload dX8_strangeBits_20 rfl ?_
      refine r_callV1 (ci := 8) (d1 := 1) (c1 := 0) (n1 := 0) dX8_strangeBits_22 mvX8_47 rfl ⟨(Nat.le_of_ble_eq_true rfl), rfl⟩ (Nat.le_of_ble_eq_true rfl) (by exact Nat.le_of_ble_eq_true rfl) (by exact k_32 hF) ?_
      refine S_X8_ratioAt hF hn he (i := i) (by omega) ?_
      show Wp g mX8_strangeBits _ _ _ 25 _ (_ :: _) _ Q
      refine r_i2l dX8_strangeBits_25 ?_
      refine r_iload_n dX8_strangeBits_26 rfl ?_
      refine r_i2l dX8_strangeBits_27 ?_
      refine r_callN2 (d1 := 0) (c1 := 0) (n1 := 0) dX8_strangeBits_28 msX8_53 (Nat.le_of_ble_eq_true rfl) (by exact Nat.le_of_ble_eq_true rfl) ?_
      refine S_dist ?_
      show Wp g mX8_strangeBits _ _ _ 31 _ (_ :: _) _ Q
      refine r_iload_n dX8_strangeBits_31 rfl ?_
      refine r_i2l dX8_strangeBits_32 ?_
      refine r_lcmp_le 44 dX8_strangeBits_33 dX8_strangeBits_34 rfl (fun h2 => ?_) (fun h2 => ?_)
      ·
        refine ic_4 (1) dX8_strangeBits_44 rfl rfl (Nat.le_of_ble_eq_true rfl) ?_
        refine r_goto 10 dX8_strangeBits_47 rfl ?_
        first
          | rw [bits_t (p := strg (ldI m 34) md b) (by simp only [strg, decide_eq_true_eq]; exact i64_nle.mp h2), nI_1]
          | rw [bits_f (p := strg (ldI m 34) md b) (by simp only [strg, decide_eq_true_eq]; exact i64_nlt.mpr h2), nI_1]
        exact ih (i + 1) (by omega)
      ·
        refine r_iload_n dX8_strangeBits_37 rfl ?_
        refine r_iconst (1) dX8_strangeBits_38 rfl ?_
        refine r_iload dX8_strangeBits_39 rfl ?_
        refine r_ishl dX8_strangeBits_41 ?_
        refine r_ior dX8_strangeBits_42 ?_
        refine si_3 dX8_strangeBits_43 rfl (Nat.le_of_ble_eq_true rfl) ?_
        refine ic_4 (1) dX8_strangeBits_44 rfl rfl (Nat.le_of_ble_eq_true rfl) ?_
        refine r_goto 10 dX8_strangeBits_47 rfl ?_
        first
          | rw [bits_t (p := strg (ldI m 34) md b) (by simp only [strg, decide_eq_true_eq]; exact i64_nle.mp h2), nI_1]
          | rw [bits_f (p := strg (ldI m 34) md b) (by simp only [strg, decide_eq_true_eq]; exact i64_nlt.mpr h2), nI_1]
        exact ih (i + 1) (by omega)
theorem S_X8_strangeBits {g : GG} {m : MM} {Q : Out → Prop} (hF : Fx m) {e : Nat} (hn : ldI m 33 1 = nI e) (he : e ≤ 20) {b : Int32} (k : ∀ v, MidV (ldI m 34) e v → Q (.inl (some (.int (bitsF (strg (ldI m 34) v b) e))), m)) : Cl g 3 0 0 mX8_strangeBits [.ref 32, .int b] m Q := by
  refine Cl.of rfl (by decide) (Nat.le_of_ble_eq_true rfl) ?_
  show Wp g mX8_strangeBits 3 0 0 0 [.ref 32, .int b, .retAddr 0, .retAddr 0, .retAddr 0] [] m Q
  refine r_aload_n dX8_strangeBits_0 rfl ?_
  refine r_callV0 (ci := 8) (d1 := 2) (c1 := 0) (n1 := 0) dX8_strangeBits_1 mvX8_50 rfl ⟨(Nat.le_of_ble_eq_true rfl), rfl⟩ (Nat.le_of_ble_eq_true rfl) (by exact Nat.le_of_ble_eq_true rfl) (by exact k_32 hF) ?_
  refine S_X8_middle hF hn he (fun mv hmv => ?_)
  show Wp g mX8_strangeBits _ _ _ 4 _ (_ :: _) _ Q
  refine si_2 dX8_strangeBits_4 rfl (Nat.le_of_ble_eq_true rfl) ?_
  refine r_iconst (0) dX8_strangeBits_5 rfl ?_
  refine si_3 dX8_strangeBits_6 rfl (Nat.le_of_ble_eq_true rfl) ?_
  refine r_iconst (0) dX8_strangeBits_7 rfl ?_
  refine si_4 dX8_strangeBits_8 rfl (Nat.le_of_ble_eq_true rfl) ?_
  refine L_strb hF hn he ?_ e 0 (by omega)
  refine r_iload_n dX8_strangeBits_50 rfl ?_
  refine r_ireturn dX8_strangeBits_51 rfl rfl ?_
  exact k mv hmv
theorem bt_bitsF (p : Nat → Bool) : ∀ (n : Nat), n ≤ 32 → ∀ i, i < 32 → bt (bitsF p n) i = (decide (i < n) && p i) := by
  intro n
  induction n with
  | zero => intro _ i _; rw [show bitsF p 0 = 0 from rfl, b_0]; simp
  | succ n ih =>
    intro hn i hi
    show bt (if p n then bitsF p n ||| (1 <<< (nI n &&& 31)) else bitsF p n) i = _
    by_cases hp : p n = true
    · rw [if_pos hp, b_or, ih (by omega) i hi, b_shl n (by omega) 1 hi]
      by_cases h1 : i < n
      · have h2 : ¬ n ≤ i := by omega
        have h3 : i < n + 1 := by omega
        simp [h1, h2, h3]
      · by_cases h2 : i = n
        · subst h2; rw [Nat.sub_self, bt_one 0 (by omega)]; simp [hp]
        · have h3 : ¬ i < n + 1 := by omega
          have h4 : ¬ i - n = 0 := by omega
          rw [bt_one _ (by omega)]
          simp [h1, h3, h4]
    · rw [if_neg hp, ih (by omega) i hi]
      by_cases h1 : i < n
      · have h3 : i < n + 1 := by omega
        simp [h1, h3]
      · by_cases h2 : i = n
        · subst h2; simp [hp]
        · have h3 : ¬ i < n + 1 := by omega
          simp [h1, h3]
theorem bitAt {p : Nat → Bool} {n i : Nat} (hn : n ≤ 32) (hi : i < n) : ((bitsF p n >>> (nI i &&& 31)) &&& 1) = if p i then 1 else 0 := by
  apply b_ext
  intro j hj
  rw [b_and, b_sshr i (by omega) _ hj, bt_one j hj]
  by_cases h0 : j = 0
  · subst h0
    rw [if_pos (by omega), bt_bitsF p n hn _ (by omega)]
    by_cases hp : p i = true
    · rw [if_pos hp]; simp [hi, hp]; decide
    · rw [if_neg hp]; simp [hp]; decide
  · by_cases hp : p i = true
    · rw [if_pos hp, bt_one j hj]; simp [h0]
    · rw [if_neg hp, b_0]; simp [h0]
theorem bit0 {p : Nat → Bool} {n i : Nat} (hn : n ≤ 32) (hi : i < n) (h : ((bitsF p n >>> (nI i &&& 31)) &&& 1) = 0) : p i = false := by
  rw [bitAt hn hi] at h
  cases hp : p i
  · rfl
  · rw [hp] at h; exact absurd h (by decide)
theorem bit1 {p : Nat → Bool} {n i : Nat} (hn : n ≤ 32) (hi : i < n) (h : ¬ ((bitsF p n >>> (nI i &&& 31)) &&& 1) = 0) : p i = true := by
  rw [bitAt hn hi] at h
  cases hp : p i
  · rw [hp] at h; exact absurd rfl h
  · rfl
def spF (ρ : Nat → Int32) (p : Nat → Bool) (most : Int32) : Nat → Int32
  | 0 => -1
  | n + 1 => if p n = false ∧ (spF ρ p most n = -1 ∨ (if most = 0 then ρ n < spF ρ p most n else spF ρ p most n < ρ n)) then ρ n else spF ρ p most n
theorem sp_t {ρ : Nat → Int32} {p : Nat → Bool} {mo : Int32} {n : Nat} (h1 : p n = false) (h2 : spF ρ p mo n = -1 ∨ (if mo = 0 then ρ n < spF ρ p mo n else spF ρ p mo n < ρ n)) : ρ n = spF ρ p mo (n + 1) := by show _ = if _ then _ else _; rw [if_pos ⟨h1, h2⟩]
theorem sp_f {ρ : Nat → Int32} {p : Nat → Bool} {mo : Int32} {n : Nat} (h : ¬ (p n = false ∧ (spF ρ p mo n = -1 ∨ (if mo = 0 then ρ n < spF ρ p mo n else spF ρ p mo n < ρ n)))) : spF ρ p mo n = spF ρ p mo (n + 1) := by show _ = if _ then _ else _; rw [if_neg h]
theorem L_span {g : GG} {m : MM} {Q : Out → Prop} (hF : Fx m) {e : Nat} (hn : ldI m 33 1 = nI e) (he : e ≤ 20) {nd mo : Int32} {p : Nat → Bool} (kx : ∀ (x6 x7 : Value) , Wp g mX8_spanOf 4 0 0 89 [.ref 32, .int nd, .int mo, .int (bitsF p e), .int (spF (ldI m 34) p mo e), .int (nI e), x6, x7] [] m Q) : ∀ (t i : Nat) (x6 x7 : Value) , i + t = e → Wp g mX8_spanOf 4 0 0 14 [.ref 32, .int nd, .int mo, .int (bitsF p e), .int (spF (ldI m 34) p mo i), .int (nI i), x6, x7] [] m Q := by
  intro t
  induction t with
  | zero =>
    intro i x6 x7 hi
    obtain rfl : i = e := by omega
    refine r_iload dX8_spanOf_14 rfl ?_
    refine r_aload_n dX8_spanOf_16 rfl ?_
    refine r_callV0 (ci := 8) (d1 := 1) (c1 := 0) (n1 := 0) dX8_spanOf_17 mvX8_44 rfl ⟨(Nat.le_of_ble_eq_true rfl), rfl⟩ (Nat.le_of_ble_eq_true rfl) (by exact Nat.le_of_ble_eq_true rfl) (by exact k_32 hF) ?_
    refine S_X8_known hF ?_
    show Wp g mX8_spanOf _ _ _ 20 _ (_ :: _) _ Q
    refine r_icmp_ge 89 dX8_spanOf_20 rfl (fun h1 => ?_) (fun h1 => ?_)
    ·
      exact kx x6 x7
    ·
      exact absurd (by rw [hn]; exact nI_le (Nat.le_refl _) (by omega)) h1
  | succ t ih =>
    intro i x6 x7 hi
    have hin : i < e := by omega
    refine r_iload dX8_spanOf_14 rfl ?_
    refine r_aload_n dX8_spanOf_16 rfl ?_
    refine r_callV0 (ci := 8) (d1 := 1) (c1 := 0) (n1 := 0) dX8_spanOf_17 mvX8_44 rfl ⟨(Nat.le_of_ble_eq_true rfl), rfl⟩ (Nat.le_of_ble_eq_true rfl) (by exact Nat.le_of_ble_eq_true rfl) (by exact k_32 hF) ?_
    refine S_X8_known hF ?_
    show Wp g mX8_spanOf _ _ _ 20 _ (_ :: _) _ Q
    refine r_icmp_ge 89 dX8_spanOf_20 rfl (fun h1 => ?_) (fun h1 => ?_)
    ·
      exact absurd h1 (by rw [hn]; exact nI_ge hin (by omega))
    ·
      refine r_aload_n dX8_spanOf_23 rfl ?_
      refine r_iload dX8_spanOf_24 rfl ?_
      refine r_callV1 (ci := 8) (d1 := 1) (c1 := 0) (n1 := 0) dX8_spanOf_26 mvX8_47 rfl ⟨(Nat.le_of_ble_eq_true rfl), rfl⟩ (Nat.le_of_ble_eq_true rfl) (by exact Nat.le_of_ble_eq_true rfl) (by exact k_32 hF) ?_
      refine S_X8_ratioAt hF hn he (i := i) (by omega) ?_
      show Wp g mX8_spanOf _ _ _ 29 _ (_ :: _) _ Q
      refine si_6 dX8_spanOf_29 rfl (Nat.le_of_ble_eq_true rfl) ?_
      refine r_iload_n dX8_spanOf_31 rfl ?_
      refine r_iload dX8_spanOf_32 rfl ?_
      refine r_ishr dX8_spanOf_34 ?_
      refine r_iconst (1) dX8_spanOf_35 rfl ?_
      refine r_iand dX8_spanOf_36 ?_
      refine r_if_ne 44 dX8_spanOf_37 rfl (fun h2 => ?_) (fun h2 => ?_)
      ·
        refine r_iconst (0) dX8_spanOf_44 rfl ?_
        refine si_7 dX8_spanOf_45 rfl (Nat.le_of_ble_eq_true rfl) ?_
        refine r_iload dX8_spanOf_47 rfl ?_
        refine r_if_eq 83 dX8_spanOf_49 rfl (fun _ => ?_) (fun hz => absurd hz (by decide))
        refine ic_5 (1) dX8_spanOf_83 rfl rfl (Nat.le_of_ble_eq_true rfl) ?_
        refine r_goto 14 dX8_spanOf_86 rfl ?_
        rw [nI_1 i]
        first
          | rw [sp_t (ρ := ldI m 34) (p := p) (mo := mo) (bit0 (by omega) hin h2) (Or.inl h3)]
          | rw [sp_t (ρ := ldI m 34) (p := p) (mo := mo) (bit0 (by omega) hin h2) (Or.inr (by rw [if_neg h4]; exact i32_nle.mp h5))]
          | rw [sp_t (ρ := ldI m 34) (p := p) (mo := mo) (bit0 (by omega) hin h2) (Or.inr (by rw [if_pos h4]; exact i32_nle.mp h5))]
          | rw [sp_f (ρ := ldI m 34) (p := p) (mo := mo) (fun q => absurd (bit1 (by omega) hin h2) (by rw [q.1]; decide))]
          | rw [sp_f (ρ := ldI m 34) (p := p) (mo := mo) (fun q => q.2.elim h3 (fun r => by rw [if_neg h4] at r; exact i32_nle.mpr r h5))]
          | rw [sp_f (ρ := ldI m 34) (p := p) (mo := mo) (fun q => q.2.elim h3 (fun r => by rw [if_pos h4] at r; exact i32_nle.mpr r h5))]
        exact ih (i + 1) _ _ (by omega)
      ·
        refine r_iconst (1) dX8_spanOf_40 rfl ?_
        refine r_goto 45 dX8_spanOf_41 rfl ?_
        refine si_7 dX8_spanOf_45 rfl (Nat.le_of_ble_eq_true rfl) ?_
        refine r_iload dX8_spanOf_47 rfl ?_
        refine r_if_eq 83 dX8_spanOf_49 rfl (fun hz => absurd hz (by decide)) (fun _ => ?_)
        refine r_iload dX8_spanOf_52 rfl ?_
        refine r_iconst (-1) dX8_spanOf_54 rfl ?_
        refine r_icmp_eq 79 dX8_spanOf_55 rfl (fun h3 => ?_) (fun h3 => ?_)
        ·
          refine r_iload dX8_spanOf_79 rfl ?_
          refine si_4 dX8_spanOf_81 rfl (Nat.le_of_ble_eq_true rfl) ?_
          refine ic_5 (1) dX8_spanOf_83 rfl rfl (Nat.le_of_ble_eq_true rfl) ?_
          refine r_goto 14 dX8_spanOf_86 rfl ?_
          rw [nI_1 i]
          first
            | rw [sp_t (ρ := ldI m 34) (p := p) (mo := mo) (bit0 (by omega) hin h2) (Or.inl h3)]
            | rw [sp_t (ρ := ldI m 34) (p := p) (mo := mo) (bit0 (by omega) hin h2) (Or.inr (by rw [if_neg h4]; exact i32_nle.mp h5))]
            | rw [sp_t (ρ := ldI m 34) (p := p) (mo := mo) (bit0 (by omega) hin h2) (Or.inr (by rw [if_pos h4]; exact i32_nle.mp h5))]
            | rw [sp_f (ρ := ldI m 34) (p := p) (mo := mo) (fun q => absurd (bit1 (by omega) hin h2) (by rw [q.1]; decide))]
            | rw [sp_f (ρ := ldI m 34) (p := p) (mo := mo) (fun q => q.2.elim h3 (fun r => by rw [if_neg h4] at r; exact i32_nle.mpr r h5))]
            | rw [sp_f (ρ := ldI m 34) (p := p) (mo := mo) (fun q => q.2.elim h3 (fun r => by rw [if_pos h4] at r; exact i32_nle.mpr r h5))]
          exact ih (i + 1) _ _ (by omega)
        ·
          refine r_iload_n dX8_spanOf_58 rfl ?_
          refine r_if_eq 72 dX8_spanOf_59 rfl (fun h4 => ?_) (fun h4 => ?_)
          ·
            refine r_iload dX8_spanOf_72 rfl ?_
            refine r_iload dX8_spanOf_74 rfl ?_
            refine r_icmp_ge 83 dX8_spanOf_76 rfl (fun h5 => ?_) (fun h5 => ?_)
            ·
              refine ic_5 (1) dX8_spanOf_83 rfl rfl (Nat.le_of_ble_eq_true rfl) ?_
              refine r_goto 14 dX8_spanOf_86 rfl ?_
              rw [nI_1 i]
              first
                | rw [sp_t (ρ := ldI m 34) (p := p) (mo := mo) (bit0 (by omega) hin h2) (Or.inl h3)]
                | rw [sp_t (ρ := ldI m 34) (p := p) (mo := mo) (bit0 (by omega) hin h2) (Or.inr (by rw [if_neg h4]; exact i32_nle.mp h5))]
                | rw [sp_t (ρ := ldI m 34) (p := p) (mo := mo) (bit0 (by omega) hin h2) (Or.inr (by rw [if_pos h4]; exact i32_nle.mp h5))]
                | rw [sp_f (ρ := ldI m 34) (p := p) (mo := mo) (fun q => absurd (bit1 (by omega) hin h2) (by rw [q.1]; decide))]
                | rw [sp_f (ρ := ldI m 34) (p := p) (mo := mo) (fun q => q.2.elim h3 (fun r => by rw [if_neg h4] at r; exact i32_nle.mpr r h5))]
                | rw [sp_f (ρ := ldI m 34) (p := p) (mo := mo) (fun q => q.2.elim h3 (fun r => by rw [if_pos h4] at r; exact i32_nle.mpr r h5))]
              exact ih (i + 1) _ _ (by omega)
            ·
              refine r_iload dX8_spanOf_79 rfl ?_
              refine si_4 dX8_spanOf_81 rfl (Nat.le_of_ble_eq_true rfl) ?_
              refine ic_5 (1) dX8_spanOf_83 rfl rfl (Nat.le_of_ble_eq_true rfl) ?_
              refine r_goto 14 dX8_spanOf_86 rfl ?_
              rw [nI_1 i]
              first
                | rw [sp_t (ρ := ldI m 34) (p := p) (mo := mo) (bit0 (by omega) hin h2) (Or.inl h3)]
                | rw [sp_t (ρ := ldI m 34) (p := p) (mo := mo) (bit0 (by omega) hin h2) (Or.inr (by rw [if_neg h4]; exact i32_nle.mp h5))]
                | rw [sp_t (ρ := ldI m 34) (p := p) (mo := mo) (bit0 (by omega) hin h2) (Or.inr (by rw [if_pos h4]; exact i32_nle.mp h5))]
                | rw [sp_f (ρ := ldI m 34) (p := p) (mo := mo) (fun q => absurd (bit1 (by omega) hin h2) (by rw [q.1]; decide))]
                | rw [sp_f (ρ := ldI m 34) (p := p) (mo := mo) (fun q => q.2.elim h3 (fun r => by rw [if_neg h4] at r; exact i32_nle.mpr r h5))]
                | rw [sp_f (ρ := ldI m 34) (p := p) (mo := mo) (fun q => q.2.elim h3 (fun r => by rw [if_pos h4] at r; exact i32_nle.mpr r h5))]
              exact ih (i + 1) _ _ (by omega)
          ·
            refine r_iload dX8_spanOf_62 rfl ?_
            refine r_iload dX8_spanOf_64 rfl ?_
            refine r_icmp_le 83 dX8_spanOf_66 rfl (fun h5 => ?_) (fun h5 => ?_)
            ·
              refine ic_5 (1) dX8_spanOf_83 rfl rfl (Nat.le_of_ble_eq_true rfl) ?_
              refine r_goto 14 dX8_spanOf_86 rfl ?_
              rw [nI_1 i]
              first
                | rw [sp_t (ρ := ldI m 34) (p := p) (mo := mo) (bit0 (by omega) hin h2) (Or.inl h3)]
                | rw [sp_t (ρ := ldI m 34) (p := p) (mo := mo) (bit0 (by omega) hin h2) (Or.inr (by rw [if_neg h4]; exact i32_nle.mp h5))]
                | rw [sp_t (ρ := ldI m 34) (p := p) (mo := mo) (bit0 (by omega) hin h2) (Or.inr (by rw [if_pos h4]; exact i32_nle.mp h5))]
                | rw [sp_f (ρ := ldI m 34) (p := p) (mo := mo) (fun q => absurd (bit1 (by omega) hin h2) (by rw [q.1]; decide))]
                | rw [sp_f (ρ := ldI m 34) (p := p) (mo := mo) (fun q => q.2.elim h3 (fun r => by rw [if_neg h4] at r; exact i32_nle.mpr r h5))]
                | rw [sp_f (ρ := ldI m 34) (p := p) (mo := mo) (fun q => q.2.elim h3 (fun r => by rw [if_pos h4] at r; exact i32_nle.mpr r h5))]
              exact ih (i + 1) _ _ (by omega)
            ·
              refine r_goto 79 dX8_spanOf_69 rfl ?_
              refine r_iload dX8_spanOf_79 rfl ?_
              refine si_4 dX8_spanOf_81 rfl (Nat.le_of_ble_eq_true rfl) ?_
              refine ic_5 (1) dX8_spanOf_83 rfl rfl (Nat.le_of_ble_eq_true rfl) ?_
              refine r_goto 14 dX8_spanOf_86 rfl ?_
              rw [nI_1 i]
              first
                | rw [sp_t (ρ := ldI m 34) (p := p) (mo := mo) (bit0 (by omega) hin h2) (Or.inl h3)]
                | rw [sp_t (ρ := ldI m 34) (p := p) (mo := mo) (bit0 (by omega) hin h2) (Or.inr (by rw [if_neg h4]; exact i32_nle.mp h5))]
                | rw [sp_t (ρ := ldI m 34) (p := p) (mo := mo) (bit0 (by omega) hin h2) (Or.inr (by rw [if_pos h4]; exact i32_nle.mp h5))]
                | rw [sp_f (ρ := ldI m 34) (p := p) (mo := mo) (fun q => absurd (bit1 (by omega) hin h2) (by rw [q.1]; decide))]
                | rw [sp_f (ρ := ldI m 34) (p := p) (mo := mo) (fun q => q.2.elim h3 (fun r => by rw [if_neg h4] at r; exact i32_nle.mpr r h5))]
                | rw [sp_f (ρ := ldI m 34) (p := p) (mo := mo) (fun q => q.2.elim h3 (fun r => by rw [if_pos h4] at r; exact i32_nle.mpr r h5))]
              exact ih (i + 1) _ _ (by omega)
def spV (c nd : Int32) : Int64 := if c = -1 then nd.toInt64 else nd.toInt64 * c.toInt64 / 1000
theorem S_X8_spanOf {g : GG} {m : MM} {Q : Out → Prop} (hF : Fx m) {e : Nat} (hn : ldI m 33 1 = nI e) (he : e ≤ 20) {nd mo : Int32} (k : ∀ v, MidV (ldI m 34) e v → Q (.inl (some (.long (spV (spF (ldI m 34) (strg (ldI m 34) v 200) mo e) nd))), m)) : Cl g 4 0 0 mX8_spanOf [.ref 32, .int nd, .int mo] m Q := by
  refine Cl.of rfl (by decide) (Nat.le_of_ble_eq_true rfl) ?_
  show Wp g mX8_spanOf 4 0 0 0 [.ref 32, .int nd, .int mo, .retAddr 0, .retAddr 0, .retAddr 0, .retAddr 0, .retAddr 0] [] m Q
  refine r_aload_n dX8_spanOf_0 rfl ?_
  refine r_sipush (200) dX8_spanOf_1 rfl ?_
  refine r_callV1 (ci := 8) (d1 := 3) (c1 := 0) (n1 := 0) dX8_spanOf_4 mvX8_56 rfl ⟨(Nat.le_of_ble_eq_true rfl), rfl⟩ (Nat.le_of_ble_eq_true rfl) (by exact Nat.le_of_ble_eq_true rfl) (by exact k_32 hF) ?_
  refine S_X8_strangeBits hF hn he (fun mv hmv => ?_)
  show Wp g mX8_spanOf _ _ _ 7 _ (_ :: _) _ Q
  refine si_3 dX8_spanOf_7 rfl (Nat.le_of_ble_eq_true rfl) ?_
  refine r_iconst (-1) dX8_spanOf_8 rfl ?_
  refine si_4 dX8_spanOf_9 rfl (Nat.le_of_ble_eq_true rfl) ?_
  refine r_iconst (0) dX8_spanOf_11 rfl ?_
  refine si_5 dX8_spanOf_12 rfl (Nat.le_of_ble_eq_true rfl) ?_
  refine L_span hF hn he (fun x6 x7 => ?_) e 0 _ _ (by omega)
  refine r_iload dX8_spanOf_89 rfl ?_
  refine r_iconst (-1) dX8_spanOf_91 rfl ?_
  refine r_icmp_ne 100 dX8_spanOf_92 rfl (fun h9 => ?_) (fun h9 => ?_)
  ·
    refine r_iload_n dX8_spanOf_100 rfl ?_
    refine r_i2l dX8_spanOf_101 ?_
    refine r_iload dX8_spanOf_102 rfl ?_
    refine r_i2l dX8_spanOf_104 ?_
    refine r_lmul dX8_spanOf_105 ?_
    refine r_ldc2 (1000) dX8_spanOf_106 ctX8_32 ?_
    refine r_ldiv dX8_spanOf_109 (by decide) ?_
    refine r_lreturn dX8_spanOf_110 rfl ?_
    first | (have k9 := k mv hmv; rw [spV, if_pos h9] at k9; exact k9) | (have k9 := k mv hmv; rw [spV, if_neg h9] at k9; exact k9)
  ·
    refine r_iload_n dX8_spanOf_95 rfl ?_
    refine r_i2l dX8_spanOf_96 ?_
    refine r_goto 110 dX8_spanOf_97 rfl ?_
    refine r_lreturn dX8_spanOf_110 rfl ?_
    first | (have k9 := k mv hmv; rw [spV, if_pos h9] at k9; exact k9) | (have k9 := k mv hmv; rw [spV, if_neg h9] at k9; exact k9)
theorem cnt_s {p : Nat → Bool} {i : Nat} (h : ¬ p i = true) : cnt p i = cnt p (i + 1) := by show _ = cnt p i + (if p i then 1 else 0); rw [if_neg h]; rfl
def wiF (ρ : Nat → Int32) (p : Nat → Bool) (nd en : Int32) : Nat → Bool := fun i => !p i && decide (nd.toInt64 * (ρ i).toInt64 / 1000 ≤ en.toInt64)
theorem L_within {g : GG} {m : MM} {Q : Out → Prop} (hF : Fx m) {e : Nat} (hn : ldI m 33 1 = nI e) (he : e ≤ 20) {nd en : Int32} {p : Nat → Bool} (kx : ∀ (x6 : Value) , Wp g mX8_within 4 0 0 73 [.ref 32, .int nd, .int en, .int (bitsF p e), .int (nI (cnt (wiF (ldI m 34) p nd en) e)), .int (nI e), x6] [] m Q) : ∀ (t i : Nat) (x6 : Value) , i + t = e → Wp g mX8_within 4 0 0 14 [.ref 32, .int nd, .int en, .int (bitsF p e), .int (nI (cnt (wiF (ldI m 34) p nd en) i)), .int (nI i), x6] [] m Q := by
  intro t
  induction t with
  | zero =>
    intro i x6 hi
    obtain rfl : i = e := by omega
    refine r_iload dX8_within_14 rfl ?_
    refine r_aload_n dX8_within_16 rfl ?_
    refine r_callV0 (ci := 8) (d1 := 1) (c1 := 0) (n1 := 0) dX8_within_17 mvX8_44 rfl ⟨(Nat.le_of_ble_eq_true rfl), rfl⟩ (Nat.le_of_ble_eq_true rfl) (by exact Nat.le_of_ble_eq_true rfl) (by exact k_32 hF) ?_
    refine S_X8_known hF ?_
    show Wp g mX8_within _ _ _ 20 _ (_ :: _) _ Q
    refine r_icmp_ge 73 dX8_within_20 rfl (fun h1 => ?_) (fun h1 => ?_)
    ·
      exact kx x6
    ·
      exact absurd (by rw [hn]; exact nI_le (Nat.le_refl _) (by omega)) h1
  | succ t ih =>
    intro i x6 hi
    have hin : i < e := by omega
    refine r_iload dX8_within_14 rfl ?_
    refine r_aload_n dX8_within_16 rfl ?_
    refine r_callV0 (ci := 8) (d1 := 1) (c1 := 0) (n1 := 0) dX8_within_17 mvX8_44 rfl ⟨(Nat.le_of_ble_eq_true rfl), rfl⟩ (Nat.le_of_ble_eq_true rfl) (by exact Nat.le_of_ble_eq_true rfl) (by exact k_32 hF) ?_
    refine S_X8_known hF ?_
    show Wp g mX8_within _ _ _ 20 _ (_ :: _) _ Q
    refine r_icmp_ge 73 dX8_within_20 rfl (fun h1 => ?_) (fun h1 => ?_)
    ·
      exact absurd h1 (by rw [hn]; exact nI_ge hin (by omega))
    ·
      refine r_iload_n dX8_within_23 rfl ?_
      refine r_iload dX8_within_24 rfl ?_
      refine r_ishr dX8_within_26 ?_
      refine r_iconst (1) dX8_within_27 rfl ?_
      refine r_iand dX8_within_28 ?_
      refine r_if_ne 36 dX8_within_29 rfl (fun h2 => ?_) (fun h2 => ?_)
      ·
        refine r_iconst (0) dX8_within_36 rfl ?_
        refine si_6 dX8_within_37 rfl (Nat.le_of_ble_eq_true rfl) ?_
        refine r_iload dX8_within_39 rfl ?_
        refine r_if_eq 67 dX8_within_41 rfl (fun _ => ?_) (fun hz => absurd hz (by decide))
        refine ic_5 (1) dX8_within_67 rfl rfl (Nat.le_of_ble_eq_true rfl) ?_
        refine r_goto 14 dX8_within_70 rfl ?_
        first
          | rw [cnt_t (p := wiF (ldI m 34) p nd en) (i := i) (by simp only [wiF, bit0 (by omega) hin h2, Bool.not_false, Bool.true_and, decide_eq_true_eq]; exact i64_nlt.mp h3) rfl, nI_1 i]
          | rw [cnt_s (p := wiF (ldI m 34) p nd en) (i := i) (by simp only [wiF, bit0 (by omega) hin h2, Bool.not_false, Bool.true_and, decide_eq_true_eq]; exact i64_nle.mpr h3), nI_1 i]
          | rw [cnt_s (p := wiF (ldI m 34) p nd en) (i := i) (by simp [wiF, bit1 (by omega) hin h2]), nI_1 i]
        exact ih (i + 1) _ (by omega)
      ·
        refine r_iconst (1) dX8_within_32 rfl ?_
        refine r_goto 37 dX8_within_33 rfl ?_
        refine si_6 dX8_within_37 rfl (Nat.le_of_ble_eq_true rfl) ?_
        refine r_iload dX8_within_39 rfl ?_
        refine r_if_eq 67 dX8_within_41 rfl (fun hz => absurd hz (by decide)) (fun _ => ?_)
        refine r_iload_n dX8_within_44 rfl ?_
        refine r_i2l dX8_within_45 ?_
        refine r_aload_n dX8_within_46 rfl ?_
        refine r_iload dX8_within_47 rfl ?_
        refine r_callV1 (ci := 8) (d1 := 1) (c1 := 0) (n1 := 0) dX8_within_49 mvX8_47 rfl ⟨(Nat.le_of_ble_eq_true rfl), rfl⟩ (Nat.le_of_ble_eq_true rfl) (by exact Nat.le_of_ble_eq_true rfl) (by exact k_32 hF) ?_
        refine S_X8_ratioAt hF hn he (i := i) (by omega) ?_
        show Wp g mX8_within _ _ _ 52 _ (_ :: _) _ Q
        refine r_i2l dX8_within_52 ?_
        refine r_lmul dX8_within_53 ?_
        refine r_ldc2 (1000) dX8_within_54 ctX8_32 ?_
        refine r_ldiv dX8_within_57 (by decide) ?_
        refine r_iload_n dX8_within_58 rfl ?_
        refine r_i2l dX8_within_59 ?_
        refine r_lcmp_gt 67 dX8_within_60 dX8_within_61 rfl (fun h3 => ?_) (fun h3 => ?_)
        ·
          refine ic_5 (1) dX8_within_67 rfl rfl (Nat.le_of_ble_eq_true rfl) ?_
          refine r_goto 14 dX8_within_70 rfl ?_
          first
            | rw [cnt_t (p := wiF (ldI m 34) p nd en) (i := i) (by simp only [wiF, bit0 (by omega) hin h2, Bool.not_false, Bool.true_and, decide_eq_true_eq]; exact i64_nlt.mp h3) rfl, nI_1 i]
            | rw [cnt_s (p := wiF (ldI m 34) p nd en) (i := i) (by simp only [wiF, bit0 (by omega) hin h2, Bool.not_false, Bool.true_and, decide_eq_true_eq]; exact i64_nle.mpr h3), nI_1 i]
            | rw [cnt_s (p := wiF (ldI m 34) p nd en) (i := i) (by simp [wiF, bit1 (by omega) hin h2]), nI_1 i]
          exact ih (i + 1) _ (by omega)
        ·
          refine ic_4 (1) dX8_within_64 rfl rfl (Nat.le_of_ble_eq_true rfl) ?_
          refine ic_5 (1) dX8_within_67 rfl rfl (Nat.le_of_ble_eq_true rfl) ?_
          refine r_goto 14 dX8_within_70 rfl ?_
          first
            | rw [cnt_t (p := wiF (ldI m 34) p nd en) (i := i) (by simp only [wiF, bit0 (by omega) hin h2, Bool.not_false, Bool.true_and, decide_eq_true_eq]; exact i64_nlt.mp h3) rfl, nI_1 i]
            | rw [cnt_s (p := wiF (ldI m 34) p nd en) (i := i) (by simp only [wiF, bit0 (by omega) hin h2, Bool.not_false, Bool.true_and, decide_eq_true_eq]; exact i64_nle.mpr h3), nI_1 i]
            | rw [cnt_s (p := wiF (ldI m 34) p nd en) (i := i) (by simp [wiF, bit1 (by omega) hin h2]), nI_1 i]
          exact ih (i + 1) _ (by omega)
theorem S_X8_within {g : GG} {m : MM} {Q : Out → Prop} (hF : Fx m) {e : Nat} (hn : ldI m 33 1 = nI e) (he : e ≤ 20) {nd en : Int32} (k : ∀ v, MidV (ldI m 34) e v → Q (.inl (some (.int (nI (cnt (wiF (ldI m 34) (strg (ldI m 34) v 200) nd en) e)))), m)) : Cl g 4 0 0 mX8_within [.ref 32, .int nd, .int en] m Q := by
  refine Cl.of rfl (by decide) (Nat.le_of_ble_eq_true rfl) ?_
  show Wp g mX8_within 4 0 0 0 [.ref 32, .int nd, .int en, .retAddr 0, .retAddr 0, .retAddr 0, .retAddr 0] [] m Q
  refine r_aload_n dX8_within_0 rfl ?_
  refine r_sipush (200) dX8_within_1 rfl ?_
  refine r_callV1 (ci := 8) (d1 := 3) (c1 := 0) (n1 := 0) dX8_within_4 mvX8_56 rfl ⟨(Nat.le_of_ble_eq_true rfl), rfl⟩ (Nat.le_of_ble_eq_true rfl) (by exact Nat.le_of_ble_eq_true rfl) (by exact k_32 hF) ?_
  refine S_X8_strangeBits hF hn he (fun mv hmv => ?_)
  show Wp g mX8_within _ _ _ 7 _ (_ :: _) _ Q
  refine si_3 dX8_within_7 rfl (Nat.le_of_ble_eq_true rfl) ?_
  refine r_iconst (0) dX8_within_8 rfl ?_
  refine si_4 dX8_within_9 rfl (Nat.le_of_ble_eq_true rfl) ?_
  refine r_iconst (0) dX8_within_11 rfl ?_
  refine si_5 dX8_within_12 rfl (Nat.le_of_ble_eq_true rfl) ?_
  refine L_within hF hn he (fun x6 => ?_) e 0 _ (by omega)
  refine r_iload dX8_within_73 rfl ?_
  refine r_ireturn dX8_within_75 rfl rfl ?_
  exact k mv hmv
def rat (f w : Int32) : Int32 := if 2147483647 < 1000 * w.toInt64 / f.toInt64 then 2147483647 else (1000 * w.toInt64 / f.toInt64).toInt32
theorem S_X8_addShip {g : GG} {m : MM} {Q : Out → Prop} (hF : Fx m) {e : Nat} (hn : ldI m 33 1 = nI e) (he : e ≤ 20) {f w : Int32} (hf : ¬ f.toInt64 = 0) (k20 : e = 20 → Q (.inl (some (.int (-1))), m)) (k : e < 20 → Q (.inl (some (.int (nI (e + 1)))), stI (stI m 34 e (rat f w)) 33 1 (nI (e + 1)))) : Cl g 1 0 0 mX8_addShip [.ref 32, .int f, .int w] m Q := by
  refine Cl.of rfl (by decide) (Nat.le_of_ble_eq_true rfl) ?_
  show Wp g mX8_addShip 1 0 0 0 [.ref 32, .int f, .int w, .retAddr 0, .retAddr 0] [] m Q
  refine r_aload_n dX8_addShip_0 rfl ?_
  refine r_getRc dX8_addShip_1 fgX8_14 rfl (by exact k_32 hF) (by exact r_32_0 hF) ?_
  refine r_callV0 (ci := 5) (d1 := 0) (c1 := 0) (n1 := 0) dX8_addShip_4 mvX8_28 rfl ⟨(Nat.le_of_ble_eq_true rfl), rfl⟩ (Nat.le_of_ble_eq_true rfl) (by exact Nat.le_of_ble_eq_true rfl) (by exact k_33 hF) ?_
  refine S_X5_isFull (a := 33) (c := 34) (z := 20) (n := e) (by exact k_33 hF) (by exact r_33_0 hF) (by exact k_34 hF) (by omega) (by exact hn) he (fun hx1 => ?_) (fun hx1 => ?_)
  ·
    show Wp g mX8_addShip _ _ _ 7 _ (_ :: _) _ Q
    refine r_if_eq 12 dX8_addShip_7 rfl (fun hz => absurd hz (by decide)) (fun _ => ?_)
    refine r_iconst (-1) dX8_addShip_10 rfl ?_
    refine r_ireturn dX8_addShip_11 rfl rfl ?_
    exact k20 hx1
  ·
    show Wp g mX8_addShip _ _ _ 7 _ (_ :: _) _ Q
    refine r_if_eq 12 dX8_addShip_7 rfl (fun _ => ?_) (fun hz => absurd hz (by decide))
    refine r_ldc2 (1000) dX8_addShip_12 ctX8_32 ?_
    refine r_iload_n dX8_addShip_15 rfl ?_
    refine r_i2l dX8_addShip_16 ?_
    refine r_lmul dX8_addShip_17 ?_
    refine r_iload_n dX8_addShip_18 rfl ?_
    refine r_i2l dX8_addShip_19 ?_
    refine r_callN2 (d1 := 0) (c1 := 0) (n1 := 0) dX8_addShip_20 msX8_34 (Nat.le_of_ble_eq_true rfl) (by exact Nat.le_of_ble_eq_true rfl) ?_
    refine S_X11_over (fun hov => ?_) (fun hov => ?_)
    ·
      exact absurd hov hf
    ·
      show Wp g mX8_addShip _ _ _ 23 _ (_ :: _) _ Q
      refine sl_3 dX8_addShip_23 rfl (Nat.le_of_ble_eq_true rfl) ?_
      refine r_aload_n dX8_addShip_24 rfl ?_
      refine r_getRc dX8_addShip_25 fgX8_14 rfl (by exact k_32 hF) (by exact r_32_0 hF) ?_
      refine r_lload_n dX8_addShip_28 rfl ?_
      refine r_ldc2 (2147483647) dX8_addShip_29 ctX8_38 ?_
      refine r_lcmp_le 41 dX8_addShip_32 dX8_addShip_33 rfl (fun h3 => ?_) (fun h3 => ?_)
      ·
        refine r_lload_n dX8_addShip_41 rfl ?_
        refine r_l2i dX8_addShip_42 ?_
        refine r_callV1 (ci := 5) (d1 := 0) (c1 := 0) (n1 := 0) dX8_addShip_43 mvX8_41 rfl ⟨(Nat.le_of_ble_eq_true rfl), rfl⟩ (Nat.le_of_ble_eq_true rfl) (by exact Nat.le_of_ble_eq_true rfl) (by exact k_33 hF) ?_
        refine S_X5_add (a := 33) (c := 34) (z := 20) (n := e) (by exact k_33 hF) (by exact r_33_0 hF) (by exact k_34 hF) (by omega) (by exact hn) he (by decide) (fun _ => ?_) (fun h9 => absurd h9 (by omega))
        show Wp g mX8_addShip _ _ _ 46 _ [] _ Q
        refine r_aload_n dX8_addShip_46 rfl ?_
        refine r_getRc dX8_addShip_47 fgX8_14 rfl (by exact k_32 hF) (by exact r_32_0 hF) ?_
        refine r_callV0 (ci := 5) (d1 := 0) (c1 := 0) (n1 := 0) dX8_addShip_50 mvX8_20 rfl ⟨(Nat.le_of_ble_eq_true rfl), rfl⟩ (Nat.le_of_ble_eq_true rfl) (by exact Nat.le_of_ble_eq_true rfl) (by exact k_33 hF) ?_
        refine S_X5_filled (by exact k_33 hF) ?_
        show Wp g mX8_addShip _ _ _ 53 _ (_ :: _) _ Q
        refine r_ireturn dX8_addShip_53 rfl rfl ?_
        have k9 := k hx1
        rw [ldI_stI, if_pos ⟨rfl, rfl⟩]
        first | (rw [rat, if_pos (i64_nle.mp h3)] at k9; exact k9) | (rw [rat, if_neg (i64_nlt.mpr h3)] at k9; exact k9)
      ·
        refine r_ldc (2147483647) dX8_addShip_36 ctX8_40 ?_
        refine r_goto 43 dX8_addShip_38 rfl ?_
        refine r_callV1 (ci := 5) (d1 := 0) (c1 := 0) (n1 := 0) dX8_addShip_43 mvX8_41 rfl ⟨(Nat.le_of_ble_eq_true rfl), rfl⟩ (Nat.le_of_ble_eq_true rfl) (by exact Nat.le_of_ble_eq_true rfl) (by exact k_33 hF) ?_
        refine S_X5_add (a := 33) (c := 34) (z := 20) (n := e) (by exact k_33 hF) (by exact r_33_0 hF) (by exact k_34 hF) (by omega) (by exact hn) he (by decide) (fun _ => ?_) (fun h9 => absurd h9 (by omega))
        show Wp g mX8_addShip _ _ _ 46 _ [] _ Q
        refine r_aload_n dX8_addShip_46 rfl ?_
        refine r_getRc dX8_addShip_47 fgX8_14 rfl (by exact k_32 hF) (by exact r_32_0 hF) ?_
        refine r_callV0 (ci := 5) (d1 := 0) (c1 := 0) (n1 := 0) dX8_addShip_50 mvX8_20 rfl ⟨(Nat.le_of_ble_eq_true rfl), rfl⟩ (Nat.le_of_ble_eq_true rfl) (by exact Nat.le_of_ble_eq_true rfl) (by exact k_33 hF) ?_
        refine S_X5_filled (by exact k_33 hF) ?_
        show Wp g mX8_addShip _ _ _ 53 _ (_ :: _) _ Q
        refine r_ireturn dX8_addShip_53 rfl rfl ?_
        have k9 := k hx1
        rw [ldI_stI, if_pos ⟨rfl, rfl⟩]
        first | (rw [rat, if_pos (i64_nle.mp h3)] at k9; exact k9) | (rw [rat, if_neg (i64_nlt.mpr h3)] at k9; exact k9)
