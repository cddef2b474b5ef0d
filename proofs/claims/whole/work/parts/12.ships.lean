def cnt (p : Nat → Bool) : Nat → Nat
  | 0 => 0
  | n + 1 => cnt p n + (if p n then 1 else 0)
theorem cnt_le (p : Nat → Bool) (n : Nat) : cnt p n ≤ n := by
  induction n with
  | zero => exact Nat.le_refl _
  | succ n ih => unfold cnt; split <;> omega
def bitsF (p : Nat → Bool) : Nat → Int32
  | 0 => 0
  | n + 1 => if p n then bitsF p n ||| (1 <<< (nI n &&& 31)) else bitsF p n
theorem S_X8_known {g : GG} {m : MM} {Q : Out → Prop} (hF : Fx m) (k : Q (.inl (some (.int (ldI m 33 1))), m)) : Cl g 1 0 0 mX8_known [.ref 32] m Q := by
  refine Cl.of rfl (by decide) (Nat.le_of_ble_eq_true rfl) ?_
  show Wp g mX8_known 1 0 0 0 [.ref 32] [] m Q
  refine r_aload_n dX8_known_0 rfl ?_
  refine r_getRc dX8_known_1 fgX8_14 rfl (by exact k_32 hF) (by exact r_32_0 hF) ?_
  refine r_callV0 (ci := 5) (d1 := 0) (c1 := 0) (n1 := 0) dX8_known_4 mvX8_20 rfl ⟨(Nat.le_of_ble_eq_true rfl), rfl⟩ (Nat.le_of_ble_eq_true rfl) (by exact Nat.le_of_ble_eq_true rfl) (by exact k_33 hF) ?_
  refine S_X5_filled (by exact k_33 hF) ?_
  show Wp g mX8_known _ _ _ 7 _ (_ :: _) _ Q
  refine r_ireturn dX8_known_7 rfl rfl ?_
  exact k
theorem S_X8_ratioAt {g : GG} {m : MM} {Q : Out → Prop} (hF : Fx m) {e : Nat} (hn : ldI m 33 1 = nI e) (he : e ≤ 20) {i : Nat} (hi : i < e) (k : Q (.inl (some (.int (ldI m 34 i))), m)) : Cl g 1 0 0 mX8_ratioAt [.ref 32, .int (nI i)] m Q := by
  refine Cl.of rfl (by decide) (Nat.le_of_ble_eq_true rfl) ?_
  show Wp g mX8_ratioAt 1 0 0 0 [.ref 32, .int (nI i)] [] m Q
  refine r_aload_n dX8_ratioAt_0 rfl ?_
  refine r_getRc dX8_ratioAt_1 fgX8_14 rfl (by exact k_32 hF) (by exact r_32_0 hF) ?_
  refine r_iload_n dX8_ratioAt_4 rfl ?_
  refine r_callV1 (ci := 5) (d1 := 0) (c1 := 0) (n1 := 0) dX8_ratioAt_5 mvX8_24 rfl ⟨(Nat.le_of_ble_eq_true rfl), rfl⟩ (Nat.le_of_ble_eq_true rfl) (by exact Nat.le_of_ble_eq_true rfl) (by exact k_33 hF) ?_
  refine S_X5_at (a := 33) (c := 34) (z := 20) (n := e) (by exact k_33 hF) (by exact r_33_0 hF) (by exact k_34 hF) (by omega) hn (by omega) (fun j hj hjn => ?_) (fun h9 => ?_)
  ·
    show Wp g mX8_ratioAt _ _ _ 8 _ (_ :: _) _ Q
    refine r_ireturn dX8_ratioAt_8 rfl rfl ?_
    (obtain rfl := (nI_eq (by omega) (by omega)).mp hj; exact k)
  ·
    exact absurd h9 (fun h => h.elim (nI_pos (by omega)) (nI_ge (by omega) (by omega)))
theorem i32_nle {a b : Int32} : ¬ a ≤ b ↔ b < a := by rw [Int32.lt_iff_toInt_lt, Int32.le_iff_toInt_le]; omega
theorem cnt_t {p : Nat → Bool} {i : Nat} {x : Int32} (h : p i = true) (hx : x = 1) : nI (cnt p i) + x = nI (cnt p (i + 1)) := by
  subst hx; show _ = nI (cnt p i + (if p i then 1 else 0)); rw [if_pos h]; exact nI_1 _
theorem cnt_f {p : Nat → Bool} {i : Nat} {x : Int32} (h : ¬ p i = true) (hx : x = 0) : nI (cnt p i) + x = nI (cnt p (i + 1)) := by
  subst hx; show _ = nI (cnt p i + (if p i then 1 else 0)); rw [if_neg h]; exact Int32.add_zero _
theorem Wp_l {g : GG} {μ : MD} {d c n pc : Nat} {ls ls' st : List Value} {m : MM} {Q : Out → Prop} (h : ls = ls') (k : Wp g μ d c n pc ls' st m Q) : Wp g μ d c n pc ls st m Q := h ▸ k
theorem L_mid_in {g : GG} {m : MM} {Q : Out → Prop} (hF : Fx m) {e : Nat} (hn : ldI m 33 1 = nI e) (he : e ≤ 20) {p : Int32} {o : Nat} (ho : o < e) (kx : Wp g mX8_middle 2 0 0 88 [.ref 32, .int p, .int (nI o), .int (nI (cnt (fun j => decide (ldI m 34 j < ldI m 34 o)) e)), .int (nI (cnt (fun j => decide (ldI m 34 j ≤ ldI m 34 o)) e)), .int (nI e)] [] m Q) : ∀ (t i : Nat), i + t = e → Wp g mX8_middle 2 0 0 27 [.ref 32, .int p, .int (nI o), .int (nI (cnt (fun j => decide (ldI m 34 j < ldI m 34 o)) i)), .int (nI (cnt (fun j => decide (ldI m 34 j ≤ ldI m 34 o)) i)), .int (nI i)] [] m Q := by
  intro t
  induction t with
  | zero =>
    intro i hi
    obtain rfl : i = e := by omega
    refine r_iload dX8_middle_27 rfl ?_
    refine r_aload_n dX8_middle_29 rfl ?_
    refine r_callV0 (ci := 8) (d1 := 1) (c1 := 0) (n1 := 0) dX8_middle_30 mvX8_44 rfl ⟨(Nat.le_of_ble_eq_true rfl), rfl⟩ (Nat.le_of_ble_eq_true rfl) (by exact Nat.le_of_ble_eq_true rfl) (by exact k_32 hF) ?_
    refine S_X8_known hF ?_
    show Wp g mX8_middle _ _ _ 33 _ (_ :: _) _ Q
    refine r_icmp_ge 88 dX8_middle_33 rfl (fun h1 => ?_) (fun h1 => ?_)
    ·
      exact kx
    ·
      exact absurd (by rw [hn]; exact nI_le (Nat.le_refl _) (by omega)) h1
  | succ t ih =>
    intro i hi
    have hin : i < e := by omega
    refine r_iload dX8_middle_27 rfl ?_
    refine r_aload_n dX8_middle_29 rfl ?_
    refine r_callV0 (ci := 8) (d1 := 1) (c1 := 0) (n1 := 0) dX8_middle_30 mvX8_44 rfl ⟨(Nat.le_of_ble_eq_true rfl), rfl⟩ (Nat.le_of_ble_eq_true rfl) (by exact Nat.le_of_ble_eq_true rfl) (by exact k_32 hF) ?_
    refine S_X8_known hF ?_
    show Wp g mX8_middle _ _ _ 33 _ (_ :: _) _ Q
    refine r_icmp_ge 88 dX8_middle_33 rfl (fun h1 => ?_) (fun h1 => ?_)
    ·
      exact absurd h1 (by rw [hn]; exact nI_ge hin (by omega))
    ·
      refine r_iload_n dX8_middle_36 rfl ?_
      refine r_aload_n dX8_middle_37 rfl ?_
      refine r_iload dX8_middle_38 rfl ?_
      refine r_callV1 (ci := 8) (d1 := 1) (c1 := 0) (n1 := 0) dX8_middle_40 mvX8_47 rfl ⟨(Nat.le_of_ble_eq_true rfl), rfl⟩ (Nat.le_of_ble_eq_true rfl) (by exact Nat.le_of_ble_eq_true rfl) (by exact k_32 hF) ?_
      refine S_X8_ratioAt hF hn he (i := i) (by omega) ?_
      show Wp g mX8_middle _ _ _ 43 _ (_ :: _) _ Q
      refine r_aload_n dX8_middle_43 rfl ?_
      refine r_iload_n dX8_middle_44 rfl ?_
      refine r_callV1 (ci := 8) (d1 := 1) (c1 := 0) (n1 := 0) dX8_middle_45 mvX8_47 rfl ⟨(Nat.le_of_ble_eq_true rfl), rfl⟩ (Nat.le_of_ble_eq_true rfl) (by exact Nat.le_of_ble_eq_true rfl) (by exact k_32 hF) ?_
      refine S_X8_ratioAt hF hn he (i := o) (by omega) ?_
      show Wp g mX8_middle _ _ _ 48 _ (_ :: _) _ Q
      refine r_icmp_ge 55 dX8_middle_48 rfl (fun h2 => ?_) (fun h2 => ?_)
      ·
        refine r_iconst (0) dX8_middle_55 rfl ?_
        refine r_iadd dX8_middle_56 ?_
        refine si_3 dX8_middle_57 rfl (Nat.le_of_ble_eq_true rfl) ?_
        refine r_iload dX8_middle_58 rfl ?_
        refine r_aload_n dX8_middle_60 rfl ?_
        refine r_iload dX8_middle_61 rfl ?_
        refine r_callV1 (ci := 8) (d1 := 1) (c1 := 0) (n1 := 0) dX8_middle_63 mvX8_47 rfl ⟨(Nat.le_of_ble_eq_true rfl), rfl⟩ (Nat.le_of_ble_eq_true rfl) (by exact Nat.le_of_ble_eq_true rfl) (by exact k_32 hF) ?_
        refine S_X8_ratioAt hF hn he (i := i) (by omega) ?_
        show Wp g mX8_middle _ _ _ 66 _ (_ :: _) _ Q
        refine r_aload_n dX8_middle_66 rfl ?_
        refine r_iload_n dX8_middle_67 rfl ?_
        refine r_callV1 (ci := 8) (d1 := 1) (c1 := 0) (n1 := 0) dX8_middle_68 mvX8_47 rfl ⟨(Nat.le_of_ble_eq_true rfl), rfl⟩ (Nat.le_of_ble_eq_true rfl) (by exact Nat.le_of_ble_eq_true rfl) (by exact k_32 hF) ?_
        refine S_X8_ratioAt hF hn he (i := o) (by omega) ?_
        show Wp g mX8_middle _ _ _ 71 _ (_ :: _) _ Q
        refine r_icmp_gt 78 dX8_middle_71 rfl (fun h3 => ?_) (fun h3 => ?_)
        ·
          refine r_iconst (0) dX8_middle_78 rfl ?_
          refine r_iadd dX8_middle_79 ?_
          refine si_4 dX8_middle_80 rfl (Nat.le_of_ble_eq_true rfl) ?_
          refine ic_5 (1) dX8_middle_82 rfl rfl (Nat.le_of_ble_eq_true rfl) ?_
          refine r_goto 27 dX8_middle_85 rfl ?_
          refine Wp_l (ls' := [.ref 32, .int p, .int (nI o), .int (nI (cnt (fun j => decide (ldI m 34 j < ldI m 34 o)) (i + 1))), .int (nI (cnt (fun j => decide (ldI m 34 j ≤ ldI m 34 o)) (i + 1))), .int (nI (i + 1))]) ?_ (ih (i + 1) (by omega))
          congr 1; congr 1; congr 1
          congr 1
          · first | exact congrArg Value.int (cnt_t (by simp only [decide_eq_true_eq]; exact i32_nle.mp h2) rfl) | exact congrArg Value.int (cnt_f (by simp only [decide_eq_true_eq]; exact i32_nlt.mpr h2) rfl)
          · congr 1
            · first | exact congrArg Value.int (cnt_t (by simp only [decide_eq_true_eq]; exact i32_nlt.mp h3) rfl) | exact congrArg Value.int (cnt_f (by simp only [decide_eq_true_eq]; exact i32_nle.mpr h3) rfl)
            · exact congrArg (fun z => [Value.int z]) (nI_1 i)
        ·
          refine r_iconst (1) dX8_middle_74 rfl ?_
          refine r_goto 79 dX8_middle_75 rfl ?_
          refine r_iadd dX8_middle_79 ?_
          refine si_4 dX8_middle_80 rfl (Nat.le_of_ble_eq_true rfl) ?_
          refine ic_5 (1) dX8_middle_82 rfl rfl (Nat.le_of_ble_eq_true rfl) ?_
          refine r_goto 27 dX8_middle_85 rfl ?_
          refine Wp_l (ls' := [.ref 32, .int p, .int (nI o), .int (nI (cnt (fun j => decide (ldI m 34 j < ldI m 34 o)) (i + 1))), .int (nI (cnt (fun j => decide (ldI m 34 j ≤ ldI m 34 o)) (i + 1))), .int (nI (i + 1))]) ?_ (ih (i + 1) (by omega))
          congr 1; congr 1; congr 1
          congr 1
          · first | exact congrArg Value.int (cnt_t (by simp only [decide_eq_true_eq]; exact i32_nle.mp h2) rfl) | exact congrArg Value.int (cnt_f (by simp only [decide_eq_true_eq]; exact i32_nlt.mpr h2) rfl)
          · congr 1
            · first | exact congrArg Value.int (cnt_t (by simp only [decide_eq_true_eq]; exact i32_nlt.mp h3) rfl) | exact congrArg Value.int (cnt_f (by simp only [decide_eq_true_eq]; exact i32_nle.mpr h3) rfl)
            · exact congrArg (fun z => [Value.int z]) (nI_1 i)
      ·
        refine r_iconst (1) dX8_middle_51 rfl ?_
        refine r_goto 56 dX8_middle_52 rfl ?_
        refine r_iadd dX8_middle_56 ?_
        refine si_3 dX8_middle_57 rfl (Nat.le_of_ble_eq_true rfl) ?_
        refine r_iload dX8_middle_58 rfl ?_
        refine r_aload_n dX8_middle_60 rfl ?_
        refine r_iload dX8_middle_61 rfl ?_
        refine r_callV1 (ci := 8) (d1 := 1) (c1 := 0) (n1 := 0) dX8_middle_63 mvX8_47 rfl ⟨(Nat.le_of_ble_eq_true rfl), rfl⟩ (Nat.le_of_ble_eq_true rfl) (by exact Nat.le_of_ble_eq_true rfl) (by exact k_32 hF) ?_
        refine S_X8_ratioAt hF hn he (i := i) (by omega) ?_
        show Wp g mX8_middle _ _ _ 66 _ (_ :: _) _ Q
        refine r_aload_n dX8_middle_66 rfl ?_
        refine r_iload_n dX8_middle_67 rfl ?_
        refine r_callV1 (ci := 8) (d1 := 1) (c1 := 0) (n1 := 0) dX8_middle_68 mvX8_47 rfl ⟨(Nat.le_of_ble_eq_true rfl), rfl⟩ (Nat.le_of_ble_eq_true rfl) (by exact Nat.le_of_ble_eq_true rfl) (by exact k_32 hF) ?_
        refine S_X8_ratioAt hF hn he (i := o) (by omega) ?_
        show Wp g mX8_middle _ _ _ 71 _ (_ :: _) _ Q
        refine r_icmp_gt 78 dX8_middle_71 rfl (fun h3 => ?_) (fun h3 => ?_)
        ·
          refine r_iconst (0) dX8_middle_78 rfl ?_
          refine r_iadd dX8_middle_79 ?_
          refine si_4 dX8_middle_80 rfl (Nat.le_of_ble_eq_true rfl) ?_
          refine ic_5 (1) dX8_middle_82 rfl rfl (Nat.le_of_ble_eq_true rfl) ?_
          refine r_goto 27 dX8_middle_85 rfl ?_
          refine Wp_l (ls' := [.ref 32, .int p, .int (nI o), .int (nI (cnt (fun j => decide (ldI m 34 j < ldI m 34 o)) (i + 1))), .int (nI (cnt (fun j => decide (ldI m 34 j ≤ ldI m 34 o)) (i + 1))), .int (nI (i + 1))]) ?_ (ih (i + 1) (by omega))
          congr 1; congr 1; congr 1
          congr 1
          · first | exact congrArg Value.int (cnt_t (by simp only [decide_eq_true_eq]; exact i32_nle.mp h2) rfl) | exact congrArg Value.int (cnt_f (by simp only [decide_eq_true_eq]; exact i32_nlt.mpr h2) rfl)
          · congr 1
            · first | exact congrArg Value.int (cnt_t (by simp only [decide_eq_true_eq]; exact i32_nlt.mp h3) rfl) | exact congrArg Value.int (cnt_f (by simp only [decide_eq_true_eq]; exact i32_nle.mpr h3) rfl)
            · exact congrArg (fun z => [Value.int z]) (nI_1 i)
        ·
          refine r_iconst (1) dX8_middle_74 rfl ?_
          refine r_goto 79 dX8_middle_75 rfl ?_
          refine r_iadd dX8_middle_79 ?_
          refine si_4 dX8_middle_80 rfl (Nat.le_of_ble_eq_true rfl) ?_
          refine ic_5 (1) dX8_middle_82 rfl rfl (Nat.le_of_ble_eq_true rfl) ?_
          refine r_goto 27 dX8_middle_85 rfl ?_
          refine Wp_l (ls' := [.ref 32, .int p, .int (nI o), .int (nI (cnt (fun j => decide (ldI m 34 j < ldI m 34 o)) (i + 1))), .int (nI (cnt (fun j => decide (ldI m 34 j ≤ ldI m 34 o)) (i + 1))), .int (nI (i + 1))]) ?_ (ih (i + 1) (by omega))
          congr 1; congr 1; congr 1
          congr 1
          · first | exact congrArg Value.int (cnt_t (by simp only [decide_eq_true_eq]; exact i32_nle.mp h2) rfl) | exact congrArg Value.int (cnt_f (by simp only [decide_eq_true_eq]; exact i32_nlt.mpr h2) rfl)
          · congr 1
            · first | exact congrArg Value.int (cnt_t (by simp only [decide_eq_true_eq]; exact i32_nlt.mp h3) rfl) | exact congrArg Value.int (cnt_f (by simp only [decide_eq_true_eq]; exact i32_nle.mpr h3) rfl)
            · exact congrArg (fun z => [Value.int z]) (nI_1 i)
def MidP (ρ : Nat → Int32) (e o : Nat) : Prop := cnt (fun j => decide (ρ j < ρ o)) e ≤ (e - 1) / 2 ∧ (e - 1) / 2 < cnt (fun j => decide (ρ j ≤ ρ o)) e
def MidV (ρ : Nat → Int32) (e : Nat) (v : Int32) : Prop := (∃ o, o < e ∧ MidP ρ e o ∧ v = ρ o) ∨ (v = 0 ∧ ∀ o, o < e → ¬ MidP ρ e o)
theorem half_nI {e : Nat} (h : 0 < e) (h2 : e ≤ 20) : (nI e - 1) / 2 = nI ((e - 1) / 2) := by
  rw [show (1 : Int32) = nI 1 from rfl, pk_sub h, show (2 : Int32) = nI 2 from rfl, pk_div (by omega) (by omega) (by omega)]
theorem nI_nle2 {a b : Nat} (ha : a < 2 ^ 31) (hb : b < 2 ^ 31) (h : a ≤ b) : ¬ nI b < nI a := nI_nlt h hb
theorem L_mid_out {g : GG} {m : MM} {Q : Out → Prop} (hF : Fx m) {e : Nat} (hn : ldI m 33 1 = nI e) (he : e ≤ 20) (k : ∀ v, MidV (ldI m 34) e v → Q (.inl (some (.int v)), m)) : ∀ (t o : Nat) (x3 x4 x5 : Value), o + t = e → (∀ o', o' < o → ¬ MidP (ldI m 34) e o') → Wp g mX8_middle 2 0 0 11 [.ref 32, .int ((nI e - 1) / 2), .int (nI o), x3, x4, x5] [] m Q := by
  intro t
  induction t with
  | zero =>
    intro o x3 x4 x5 hi hno
    obtain rfl : o = e := by omega
    refine r_iload_n dX8_middle_11 rfl ?_
    refine r_aload_n dX8_middle_12 rfl ?_
    refine r_callV0 (ci := 8) (d1 := 1) (c1 := 0) (n1 := 0) dX8_middle_13 mvX8_44 rfl ⟨(Nat.le_of_ble_eq_true rfl), rfl⟩ (Nat.le_of_ble_eq_true rfl) (by exact Nat.le_of_ble_eq_true rfl) (by exact k_32 hF) ?_
    refine S_X8_known hF ?_
    show Wp g mX8_middle _ _ _ 16 _ (_ :: _) _ Q
    refine r_icmp_ge 111 dX8_middle_16 rfl (fun h1 => ?_) (fun h1 => ?_)
    ·
      refine r_iconst (0) dX8_middle_111 rfl ?_
      refine r_ireturn dX8_middle_112 rfl rfl ?_
      exact k 0 (Or.inr ⟨rfl, hno⟩)
    ·
      exact absurd (by rw [hn]; exact nI_le (Nat.le_refl _) (by omega)) h1
  | succ t ih =>
    intro o x3 x4 x5 hi hno
    have hin : o < e := by omega
    refine r_iload_n dX8_middle_11 rfl ?_
    refine r_aload_n dX8_middle_12 rfl ?_
    refine r_callV0 (ci := 8) (d1 := 1) (c1 := 0) (n1 := 0) dX8_middle_13 mvX8_44 rfl ⟨(Nat.le_of_ble_eq_true rfl), rfl⟩ (Nat.le_of_ble_eq_true rfl) (by exact Nat.le_of_ble_eq_true rfl) (by exact k_32 hF) ?_
    refine S_X8_known hF ?_
    show Wp g mX8_middle _ _ _ 16 _ (_ :: _) _ Q
    refine r_icmp_ge 111 dX8_middle_16 rfl (fun h1 => ?_) (fun h1 => ?_)
    ·
      exact absurd h1 (by rw [hn]; exact nI_ge hin (by omega))
    ·
      refine r_iconst (0) dX8_middle_19 rfl ?_
      refine si_3 dX8_middle_20 rfl (Nat.le_of_ble_eq_true rfl) ?_
      refine r_iconst (0) dX8_middle_21 rfl ?_
      refine si_4 dX8_middle_22 rfl (Nat.le_of_ble_eq_true rfl) ?_
      refine r_iconst (0) dX8_middle_24 rfl ?_
      refine si_5 dX8_middle_25 rfl (Nat.le_of_ble_eq_true rfl) ?_
      refine L_mid_in hF hn he hin ?_ e 0 (by omega)
      rw [half_nI (by omega) he]
      refine r_iload_n dX8_middle_88 rfl ?_
      refine r_iload_n dX8_middle_89 rfl ?_
      refine r_icmp_gt 105 dX8_middle_90 rfl (fun h2 => ?_) (fun h2 => ?_)
      ·
        refine ic_2 (1) dX8_middle_105 rfl rfl (Nat.le_of_ble_eq_true rfl) ?_
        refine r_goto 11 dX8_middle_108 rfl ?_
        rw [nI_1, ← half_nI (by omega) he]
        refine ih (o + 1) _ _ _ (by omega) (fun o2 h2o => ?_)
        rcases Nat.lt_succ_iff_lt_or_eq.mp h2o with h | rfl
        · exact hno o2 h
        · first | exact fun q => nI_nle2 (by have := cnt_le (fun j => decide (ldI m 34 j < ldI m 34 o2)) e; omega) (by omega) q.1 h2 | exact fun q => nI_ge q.2 (by have := cnt_le (fun j => decide (ldI m 34 j ≤ ldI m 34 o2)) e; omega) h3
      ·
        refine r_iload_n dX8_middle_93 rfl ?_
        refine r_iload dX8_middle_94 rfl ?_
        refine r_icmp_ge 105 dX8_middle_96 rfl (fun h3 => ?_) (fun h3 => ?_)
        ·
          refine ic_2 (1) dX8_middle_105 rfl rfl (Nat.le_of_ble_eq_true rfl) ?_
          refine r_goto 11 dX8_middle_108 rfl ?_
          rw [nI_1, ← half_nI (by omega) he]
          refine ih (o + 1) _ _ _ (by omega) (fun o2 h2o => ?_)
          rcases Nat.lt_succ_iff_lt_or_eq.mp h2o with h | rfl
          · exact hno o2 h
          · first | exact fun q => nI_nle2 (by have := cnt_le (fun j => decide (ldI m 34 j < ldI m 34 o2)) e; omega) (by omega) q.1 h2 | exact fun q => nI_ge q.2 (by have := cnt_le (fun j => decide (ldI m 34 j ≤ ldI m 34 o2)) e; omega) h3
        ·
          refine r_aload_n dX8_middle_99 rfl ?_
          refine r_iload_n dX8_middle_100 rfl ?_
          refine r_callV1 (ci := 8) (d1 := 1) (c1 := 0) (n1 := 0) dX8_middle_101 mvX8_47 rfl ⟨(Nat.le_of_ble_eq_true rfl), rfl⟩ (Nat.le_of_ble_eq_true rfl) (by exact Nat.le_of_ble_eq_true rfl) (by exact k_32 hF) ?_
          refine S_X8_ratioAt hF hn he (i := o) (by omega) ?_
          show Wp g mX8_middle _ _ _ 104 _ (_ :: _) _ Q
          refine r_ireturn dX8_middle_104 rfl rfl ?_
          exact k _ (Or.inl ⟨o, hin, ⟨(nI_leI (by have := cnt_le (fun j => decide (ldI m 34 j < ldI m 34 o)) e; omega) (by omega)).mp (i32_nlt.mp h2), (nI_ltI (by omega) (by have := cnt_le (fun j => decide (ldI m 34 j ≤ ldI m 34 o)) e; omega)).mp (i32_nle.mp h3)⟩, rfl⟩)
theorem S_X8_middle {g : GG} {m : MM} {Q : Out → Prop} (hF : Fx m) {e : Nat} (hn : ldI m 33 1 = nI e) (he : e ≤ 20) (k : ∀ v, MidV (ldI m 34) e v → Q (.inl (some (.int v)), m)) : Cl g 2 0 0 mX8_middle [.ref 32] m Q := by
  refine Cl.of rfl (by decide) (Nat.le_of_ble_eq_true rfl) ?_
  show Wp g mX8_middle 2 0 0 0 [.ref 32, .retAddr 0, .retAddr 0, .retAddr 0, .retAddr 0, .retAddr 0] [] m Q
  refine r_aload_n dX8_middle_0 rfl ?_
  refine r_callV0 (ci := 8) (d1 := 1) (c1 := 0) (n1 := 0) dX8_middle_1 mvX8_44 rfl ⟨(Nat.le_of_ble_eq_true rfl), rfl⟩ (Nat.le_of_ble_eq_true rfl) (by exact Nat.le_of_ble_eq_true rfl) (by exact k_32 hF) ?_
  refine S_X8_known hF ?_
  show Wp g mX8_middle _ _ _ 4 _ (_ :: _) _ Q
  refine r_iconst (1) dX8_middle_4 rfl ?_
  refine r_isub dX8_middle_5 ?_
  refine r_iconst (2) dX8_middle_6 rfl ?_
  refine r_idiv dX8_middle_7 (by decide) ?_
  refine si_1 dX8_middle_8 rfl (Nat.le_of_ble_eq_true rfl) ?_
  refine r_iconst (0) dX8_middle_9 rfl ?_
  refine si_2 dX8_middle_10 rfl (Nat.le_of_ble_eq_true rfl) ?_
  rw [hn]
  exact L_mid_out hF hn he k e 0 _ _ _ (by omega) (fun _ h => absurd h (Nat.not_lt_zero _))
theorem i64_nle {a b : Int64} : ¬ a ≤ b ↔ b < a := by rw [Int64.lt_iff_toInt_lt, Int64.le_iff_toInt_le]; omega
def dst (x y : Int64) : Int64 := if y ≤ x then x - y else y - x
theorem S_dist {g : GG} {m : MM} {Q : Out → Prop} {x y : Int64} (k : Q (.inl (some (.long (dst x y))), m)) : Cl g 0 0 0 mX11_distance [.long x, .long y] m Q := by
  refine S_X11_distance (fun h => ?_) (fun h => ?_)
  · rw [dst, if_pos h] at k; exact k
  · rw [dst, if_neg (i64_nle.mpr h)] at k; exact k
def strg (ρ : Nat → Int32) (md b : Int32) : Nat → Bool := fun i => decide (b.toInt64 < dst (ρ i).toInt64 md.toInt64)
theorem bits_t {p : Nat → Bool} {i : Nat} (h : p i = true) : bitsF p i ||| (1 <<< (nI i &&& 31)) = bitsF p (i + 1) := by show _ = if p i then _ else _; rw [if_pos h]
theorem bits_f {p : Nat → Bool} {i : Nat} (h : ¬ p i = true) : bitsF p i = bitsF p (i + 1) := by show _ = if p i then _ else _; rw [if_neg h]
theorem L_strb {g : GG} {m : MM} {Q : Out → Prop} (hF : Fx m) {e : Nat} (hn : ldI m 33 1 = nI e) (he : e ≤ 20) {md b : Int32}  (kx : Wp g mX8_strangeBits 3 0 0 50 [.ref 32, .int b, .int md, .int (bitsF (strg (ldI m 34) md b) e), .int (nI e)] [] (m) Q) : ∀ (t i : Nat), i + t = e → Wp g mX8_strangeBits 3 0 0 10 [.ref 32, .int b, .int md, .int (bitsF (strg (ldI m 34) md b) i), .int (nI i)] [] (m) Q := by
  intro t
  induction t with
  | zero =>
    intro i hi
    obtain rfl : i = e := by omega
    refine r_iload dX8_strangeBits_10 rfl ?_
    refine r_aload_n dX8_strangeBits_12 rfl ?_
    refine r_callV0 (ci := 8) (d1 := 1) (c1 := 0) (n1 := 0) dX8_strangeBits_13 mvX8_44 rfl ⟨(Nat.le_of_ble_eq_true rfl), rfl⟩ (Nat.le_of_ble_eq_true rfl) (by exact Nat.le_of_ble_eq_true rfl) (by exact k_32 hF) ?_
    refine S_X8_known hF ?_
    show Wp g mX8_strangeBits _ _ _ 16 _ (_ :: _) _ Q
    refine r_icmp_ge 50 dX8_strangeBits_16 rfl (fun h1 => ?_) (fun h1 => ?_)
    ·
      exact kx
    ·
      exact absurd (by rw [hn]; exact nI_le (Nat.le_refl _) (by omega)) h1
  | succ t ih =>
    intro i hi
    have hin : i < e := by omega
    refine r_iload dX8_strangeBits_10 rfl ?_
    refine r_aload_n dX8_strangeBits_12 rfl ?_
    refine r_callV0 (ci := 8) (d1 := 1) (c1 := 0) (n1 := 0) dX8_strangeBits_13 mvX8_44 rfl ⟨(Nat.le_of_ble_eq_true rfl), rfl⟩ (Nat.le_of_ble_eq_true rfl) (by exact Nat.le_of_ble_eq_true rfl) (by exact k_32 hF) ?_
    refine S_X8_known hF ?_
    show Wp g mX8_strangeBits _ _ _ 16 _ (_ :: _) _ Q
    refine r_icmp_ge 50 dX8_strangeBits_16 rfl (fun h1 => ?_) (fun h1 => ?_)
    ·
      exact absurd h1 (by rw [hn]; exact nI_ge hin (by omega))
    ·
      refine r_aload_n dX8_strangeBits_19 rfl ?_
      refine r_iload dX8_strangeBits_20 rfl ?_
      refine r_callV1 (ci := 8) (d1 := 1) (c1 := 0) (n1 := 0) dX8_strangeBits_22 mvX8_47 rfl ⟨(Nat.le_of_ble_eq_true rfl), rfl⟩ (Nat.le_of_ble_eq_true rfl) (by exact Nat.le_of_ble_eq_true rfl) (by exact k_32 hF) ?_
      refine S_X8_ratioAt hF hn he (i := i) (by omega) ?_
      show Wp g mX8_strangeBits _ _ _ 25 _ (_ :: _) _ Q
      refine r_i2l dX8_strangeBits_25 ?_
      refine r_iload_n dX8_strangeBits_26 rfl ?_
      refine r_i2l dX8_strangeBits_27 ?_
      refine r_callN2 (d1 := 0) (c1 := 0) (n1 := 0) dX8_strangeBits_28 msX8_53 (Nat.le_of_ble_eq_true rfl) (by exact Nat.le_of_ble_eq_true rfl) ?_
      refine S_dist ?_
      show Wp g mX8_strangeBits _ _ _ 31 _ (_ :: _) _ Q
      refine r_iload_n dX8_strangeBits_31 rfl ?_
      refine r_i2l dX8_strangeBits_32 ?_
      refine r_lcmp_le 44 dX8_strangeBits_33 dX8_strangeBits_34 rfl (fun h2 => ?_) (fun h2 => ?_)
      ·
        refine ic_4 (1) dX8_strangeBits_44 rfl rfl (Nat.le_of_ble_eq_true rfl) ?_
        refine r_goto 10 dX8_strangeBits_47 rfl ?_
        first
          | rw [bits_t (p := strg (ldI m 34) md b) (by simp only [strg, decide_eq_true_eq]; exact i64_nle.mp h2), nI_1]
          | rw [bits_f (p := strg (ldI m 34) md b) (by simp only [strg, decide_eq_true_eq]; exact i64_nlt.mpr h2), nI_1]
        exact ih (i + 1) (by omega)
      ·
        refine r_iload_n dX8_strangeBits_37 rfl ?_
        refine r_iconst (1) dX8_strangeBits_38 rfl ?_
        refine r_iload dX8_strangeBits_39 rfl ?_
        refine r_ishl dX8_strangeBits_41 ?_
        refine r_ior dX8_strangeBits_42 ?_
        refine si_3 dX8_strangeBits_43 rfl (Nat.le_of_ble_eq_true rfl) ?_
        refine ic_4 (1) dX8_strangeBits_44 rfl rfl (Nat.le_of_ble_eq_true rfl) ?_
        refine r_goto 10 dX8_strangeBits_47 rfl ?_
        first
          | rw [bits_t (p := strg (ldI m 34) md b) (by simp only [strg, decide_eq_true_eq]; exact i64_nle.mp h2), nI_1]
          | rw [bits_f (p := strg (ldI m 34) md b) (by simp only [strg, decide_eq_true_eq]; exact i64_nlt.mpr h2), nI_1]
        exact ih (i + 1) (by omega)
theorem S_X8_strangeBits {g : GG} {m : MM} {Q : Out → Prop} (hF : Fx m) {e : Nat} (hn : ldI m 33 1 = nI e) (he : e ≤ 20) {b : Int32} (k : ∀ v, MidV (ldI m 34) e v → Q (.inl (some (.int (bitsF (strg (ldI m 34) v b) e))), m)) : Cl g 3 0 0 mX8_strangeBits [.ref 32, .int b] m Q := by
  refine Cl.of rfl (by decide) (Nat.le_of_ble_eq_true rfl) ?_
  show Wp g mX8_strangeBits 3 0 0 0 [.ref 32, .int b, .retAddr 0, .retAddr 0, .retAddr 0] [] m Q
  refine r_aload_n dX8_strangeBits_0 rfl ?_
  refine r_callV0 (ci := 8) (d1 := 2) (c1 := 0) (n1 := 0) dX8_strangeBits_1 mvX8_50 rfl ⟨(Nat.le_of_ble_eq_true rfl), rfl⟩ (Nat.le_of_ble_eq_true rfl) (by exact Nat.le_of_ble_eq_true rfl) (by exact k_32 hF) ?_
  refine S_X8_middle hF hn he (fun mv hmv => ?_)
  show Wp g mX8_strangeBits _ _ _ 4 _ (_ :: _) _ Q
  refine si_2 dX8_strangeBits_4 rfl (Nat.le_of_ble_eq_true rfl) ?_
  refine r_iconst (0) dX8_strangeBits_5 rfl ?_
  refine si_3 dX8_strangeBits_6 rfl (Nat.le_of_ble_eq_true rfl) ?_
  refine r_iconst (0) dX8_strangeBits_7 rfl ?_
  refine si_4 dX8_strangeBits_8 rfl (Nat.le_of_ble_eq_true rfl) ?_
  refine L_strb hF hn he ?_ e 0 (by omega)
  refine r_iload_n dX8_strangeBits_50 rfl ?_
  refine r_ireturn dX8_strangeBits_51 rfl rfl ?_
  exact k mv hmv
