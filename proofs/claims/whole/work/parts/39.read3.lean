theorem L_blank {g : GG} {m : MM} {Q : Out → Prop} {b : Nat → Int32} {n : Nat} (hR : Rtx b n m) : ∀ (t p : Nat), n - p = t → p ≤ n → Wp g mX4_advance 6 0 0 30 [.ref 152, .int (nI (rE b n isBl p))] [] m Q → Wp g mX4_advance 6 0 0 5 [.ref 152, .int (nI p)] [] m Q := by
  have hF := hR.1
  have hn := hR.2.1
  intro t
  induction t with
  | zero =>
    intro p ht hp k
    rw [rE_f (by omega)] at k
    refine r_iload_n dX4_advance_5 rfl ?_
    refine r_aload_n dX4_advance_6 rfl ?_
    refine r_getIc (nI n) dX4_advance_7 fgX4_27 rfl (by exact k_152 hF) (by exact hR.2.2.2.1) ?_
    refine r_icmp_ge 30 dX4_advance_10 rfl (fun hge => ?_) (fun hge => ?_)
    ·
      exact k
    ·
      exact absurd (nI_le (by omega) (by omega)) hge
  | succ t ih =>
    intro p ht hp k
    have hpl : p < n := by omega
    refine r_iload_n dX4_advance_5 rfl ?_
    refine r_aload_n dX4_advance_6 rfl ?_
    refine r_getIc (nI n) dX4_advance_7 fgX4_27 rfl (by exact k_152 hF) (by exact hR.2.2.2.1) ?_
    refine r_icmp_ge 30 dX4_advance_10 rfl (fun hge => ?_) (fun hge => ?_)
    ·
      exact absurd hge (nI_ge hpl (by omega))
    ·
      refine r_aload_n dX4_advance_13 rfl ?_
      refine r_getRc dX4_advance_14 fgX4_15 rfl (by exact k_152 hF) (by exact r_152_2 hF) ?_
      refine r_iload_n dX4_advance_17 rfl ?_
      refine r_ialoadc (b p) dX4_advance_18 (by exact k_154 hF) (vin (by omega) (by omega)) (by rw [nI_cl p (by omega)]; exact hR.2.2.2.2 p hpl) ?_
      refine r_bipush (32) dX4_advance_19 rfl ?_
      refine r_icmp_ne 30 dX4_advance_21 rfl (fun hne => ?_) (fun hne => ?_)
      ·
        rw [rE_f (fun q => hne (of_decide_eq_true q.2))] at k; exact k
      ·
        refine ic_1 (1) dX4_advance_24 rfl rfl (Nat.le_of_ble_eq_true rfl) ?_
        refine r_goto 5 dX4_advance_27 rfl ?_
        rw [nI_1 p]; rw [rE_t hpl (decide_eq_true hne)] at k; exact ih (p + 1) (by omega) (by omega) k
theorem L_lett {g : GG} {Q : Out → Prop} {b : Nat → Int32} {n : Nat} {x : Value} : ∀ (t p : Nat) (m : MM), n - p = t → Rtx b n m → p ≤ n → ldI m 152 4 = nI p → (∀ m', Sx m m' → ldI m' 152 4 = nI (rE b n isLt p) → ldI m' 152 5 = ldI m 152 5 → Wp g mX4_advance 6 0 0 126 [.ref 152, x] [] m' Q) → Wp g mX4_advance 6 0 0 87 [.ref 152, x] [] m Q := by
  intro t
  induction t with
  | zero =>
    intro p m ht hR hp h4 k
    have hF := hR.1
    have hn := hR.2.1
    rw [rE_f (by omega)] at k
    refine r_aload_n dX4_advance_87 rfl ?_
    refine r_getIc (nI p) dX4_advance_88 fgX4_40 rfl (by exact k_152 hF) (by exact h4) ?_
    refine r_aload_n dX4_advance_91 rfl ?_
    refine r_getIc (nI n) dX4_advance_92 fgX4_27 rfl (by exact k_152 hF) (by exact hR.2.2.2.1) ?_
    refine r_icmp_ge 126 dX4_advance_95 rfl (fun hge => ?_) (fun hge => ?_)
    ·
      exact k m Sx.rf h4 rfl
    ·
      exact absurd (nI_le (by omega) (by omega)) hge
  | succ t ih =>
    intro p m ht hR hp h4 k
    have hF := hR.1
    have hn := hR.2.1
    have hpl : p < n := by omega
    refine r_aload_n dX4_advance_87 rfl ?_
    refine r_getIc (nI p) dX4_advance_88 fgX4_40 rfl (by exact k_152 hF) (by exact h4) ?_
    refine r_aload_n dX4_advance_91 rfl ?_
    refine r_getIc (nI n) dX4_advance_92 fgX4_27 rfl (by exact k_152 hF) (by exact hR.2.2.2.1) ?_
    refine r_icmp_ge 126 dX4_advance_95 rfl (fun hge => ?_) (fun hge => ?_)
    ·
      exact absurd hge (nI_ge hpl (by omega))
    ·
      refine r_aload_n dX4_advance_98 rfl ?_
      refine r_getRc dX4_advance_99 fgX4_15 rfl (by exact k_152 hF) (by exact r_152_2 hF) ?_
      refine r_aload_n dX4_advance_102 rfl ?_
      refine r_getIc (nI p) dX4_advance_103 fgX4_40 rfl (by exact k_152 hF) (by exact h4) ?_
      refine r_ialoadc (b p) dX4_advance_106 (by exact k_154 hF) (vin (by omega) (by omega)) (by rw [nI_cl p (by omega)]; exact hR.2.2.2.2 p hpl) ?_
      refine r_callS1 (d1 := 0) (c1 := 0) (n1 := 0) dX4_advance_107 msX4_130 rfl (Nat.le_of_ble_eq_true rfl) (by exact Nat.le_of_ble_eq_true rfl) ?_
      refine S_X4_isLetter (fun hlt => ?_) (fun hlt => ?_)
      ·
        show Wp g mX4_advance _ _ _ 110 _ (_ :: _) _ Q
        refine r_if_eq 126 dX4_advance_110 rfl (fun hz => absurd hz (by decide)) (fun _ => ?_)
        refine r_aload_n dX4_advance_113 rfl ?_
        refine r_dup dX4_advance_114 rfl ?_
        refine r_getIc (nI p) dX4_advance_115 fgX4_40 rfl (by exact k_152 hF) (by exact h4) ?_
        refine r_iconst (1) dX4_advance_118 rfl ?_
        refine r_iadd dX4_advance_119 ?_
        refine r_putI dX4_advance_120 (fpX4_40 _ rfl) rfl (by exact k_152 hF) ⟨rfl, rfl⟩ ?_
        refine r_goto 87 dX4_advance_123 rfl ?_
        rw [nI_1 p]; rw [rE_t hpl hlt] at k
        have x9 : Sx m (stI m 152 4 (nI (p + 1))) := Sx.rf.stI (by omega) (by omega)
        exact ih (p + 1) _ (by omega) (hR.sx x9) (by omega) ld_s (fun m' s9 a1 a2 => k m' (x9.tr s9) a1 (a2.trans (ld_n (by decide) rfl)))
      ·
        show Wp g mX4_advance _ _ _ 110 _ (_ :: _) _ Q
        refine r_if_eq 126 dX4_advance_110 rfl (fun _ => ?_) (fun hz => absurd hz (by decide))
        rw [rE_f (fun q => hlt q.2)] at k; exact k m Sx.rf h4 rfl
theorem wIx_cases {b : Nat → Int32} {s e : Nat} : ∀ (ws : List (List Int32)) (i : Nat), i + ws.length < 2147483648 → wIx b s e ws i = -3 ∨ ∃ j, i ≤ j ∧ j < i + ws.length ∧ wIx b s e ws i = nI j
  | [], _, _ => Or.inl rfl
  | w :: ws, i, h => by
    show (if wEq b w s e = true then nI i else wIx b s e ws (i + 1)) = -3 ∨ ∃ j, i ≤ j ∧ j < i + (w :: ws).length ∧ (if wEq b w s e = true then nI i else wIx b s e ws (i + 1)) = nI j
    rw [List.length_cons] at h ⊢
    by_cases q : wEq b w s e = true
    · rw [if_pos q]; exact Or.inr ⟨i, Nat.le_refl _, by omega, rfl⟩
    · rw [if_neg q]
      rcases wIx_cases ws (i + 1) (by omega) with h1 | ⟨j, j1, j2, j3⟩
      · exact Or.inl h1
      · exact Or.inr ⟨j, by omega, by omega, j3⟩
theorem wIx_n2 {b : Nat → Int32} {s e : Nat} : ¬ wIx b s e wds 256 = -2 := by
  rcases wIx_cases (b := b) (s := s) (e := e) wds 256 (by decide) with h | ⟨j, j1, j2, h⟩
  · rw [h]; decide
  · rw [h]
    have j3 : j < 281 := j2
    intro q
    have := congrArg Int32.toInt q
    rw [nI_int j (by omega)] at this
    have z : (-2 : Int32).toInt = -2 := rfl
    omega
theorem T_adv {g : GG} {m : MM} {Q : Out → Prop} {b : Nat → Int32} {n s : Nat} (hR : Rtx b n m) (hs : s ≤ n) (k : ∀ m', Sx m m' → Lx b n s m' → Q (.inl none, m')) : Wp g mX4_advance 6 0 0 30 [.ref 152, .int (nI s)] [] m Q := by
  have hF0 := hR.1
  have hn := hR.2.1
  have x1 : Sx m (stI (stI m 152 5 (nI s)) 152 4 (nI s)) := (Sx.rf.stI (by omega) (by omega)).stI (by omega) (by omega)
  have hR1 := hR.sx x1
  have hF := hF0
  have q5 : ldI (stI (stI m 152 5 (nI s)) 152 4 (nI s)) 152 5 = nI s := ld_n (by decide) ld_s
  have q4 : ldI (stI (stI m 152 5 (nI s)) 152 4 (nI s)) 152 4 = nI s := ld_s
  refine r_aload_n dX4_advance_30 rfl ?_
  refine r_iload_n dX4_advance_31 rfl ?_
  refine r_putI dX4_advance_32 (fpX4_121 _ rfl) rfl (by exact k_152 hF) ⟨rfl, rfl⟩ ?_
  refine r_aload_n dX4_advance_35 rfl ?_
  refine r_iload_n dX4_advance_36 rfl ?_
  refine r_putI dX4_advance_37 (fpX4_40 _ rfl) rfl (by exact k_152 hF) ⟨rfl, rfl⟩ ?_
  refine r_iload_n dX4_advance_40 rfl ?_
  refine r_aload_n dX4_advance_41 rfl ?_
  refine r_getIc (nI n) dX4_advance_42 fgX4_27 rfl (by exact k_152 hR1.1) (by exact hR1.2.2.2.1) ?_
  refine r_icmp_lt 56 dX4_advance_45 rfl (fun hlt0 => ?_) (fun hlt0 => ?_)
  ·
    have hsl : s < n := Nat.lt_of_not_le (fun z => absurd hlt0 (nI_nlt z (by omega)))
    refine r_aload_n dX4_advance_56 rfl ?_
    refine r_getRc dX4_advance_57 fgX4_15 rfl (by exact k_152 hR1.1) (by exact r_152_2 hR1.1) ?_
    refine r_iload_n dX4_advance_60 rfl ?_
    refine r_ialoadc (b s) dX4_advance_61 (by exact k_154 hR1.1) (vin (by omega) (by omega)) (by rw [nI_cl s (by omega)]; exact hR1.2.2.2.2 s hsl) ?_
    refine r_callS1 (d1 := 0) (c1 := 0) (n1 := 0) dX4_advance_62 msX4_124 rfl (Nat.le_of_ble_eq_true rfl) (by exact Nat.le_of_ble_eq_true rfl) ?_
    refine S_X4_isDigit (fun hdg => ?_) (fun hdg => ?_)
    ·
      show Wp g mX4_advance _ _ _ 65 _ (_ :: _) _ Q
      refine r_if_eq 75 dX4_advance_65 rfl (fun hz => absurd hz (by decide)) (fun _ => ?_)
      refine r_aload_n dX4_advance_68 rfl ?_
      refine r_callV0 (ci := 4) (d1 := 1) (c1 := 0) (n1 := 0) dX4_advance_69 mvX4_127 rfl ⟨(Nat.le_of_ble_eq_true rfl), rfl⟩ (Nat.le_of_ble_eq_true rfl) (by exact Nat.le_of_ble_eq_true rfl) (by exact k_152 hR1.1) ?_
      refine S_X4_scanNumber hR1 hs q4 (fun m2 s2 a1 a2 a3 a4 => ?_)
      have hR2 := hR1.sx s2
      show Wp g mX4_advance _ _ _ 72 _ [] _ Q
      refine r_goto 162 dX4_advance_72 rfl ?_
      refine r_return dX4_advance_162 rfl ?_
      have n2 : nxP b n s = rE b n isDg s := (if_neg (by omega)).trans (if_pos hdg)
      have t2 : tkP b n s = -2 := (if_neg (by omega)).trans (if_pos hdg)
      exact k m2 (x1.tr s2) ⟨by rw [n2]; exact a1, a4.trans q5, by rw [t2]; exact a3, fun _ => a2⟩
    ·
      show Wp g mX4_advance _ _ _ 65 _ (_ :: _) _ Q
      refine r_if_eq 75 dX4_advance_65 rfl (fun _ => ?_) (fun hz => absurd hz (by decide))
      refine r_aload_n dX4_advance_75 rfl ?_
      refine r_getRc dX4_advance_76 fgX4_15 rfl (by exact k_152 hR1.1) (by exact r_152_2 hR1.1) ?_
      refine r_iload_n dX4_advance_79 rfl ?_
      refine r_ialoadc (b s) dX4_advance_80 (by exact k_154 hR1.1) (vin (by omega) (by omega)) (by rw [nI_cl s (by omega)]; exact hR1.2.2.2.2 s hsl) ?_
      refine r_callS1 (d1 := 0) (c1 := 0) (n1 := 0) dX4_advance_81 msX4_130 rfl (Nat.le_of_ble_eq_true rfl) (by exact Nat.le_of_ble_eq_true rfl) ?_
      refine S_X4_isLetter (fun hlt => ?_) (fun hlt => ?_)
      ·
        show Wp g mX4_advance _ _ _ 84 _ (_ :: _) _ Q
        refine r_if_eq 145 dX4_advance_84 rfl (fun hz => absurd hz (by decide)) (fun _ => ?_)
        refine L_lett _ s _ rfl hR1 hs q4 (fun m2 s2 a1 a2 => ?_)
        have hR2 := hR1.sx s2
        refine r_aload_n dX4_advance_126 rfl ?_
        refine r_aload_n dX4_advance_127 rfl ?_
        refine r_aload_n dX4_advance_128 rfl ?_
        refine r_getI dX4_advance_129 fgX4_121 rfl (by exact k_152 hR2.1) ?_
        refine r_aload_n dX4_advance_132 rfl ?_
        refine r_getI dX4_advance_133 fgX4_40 rfl (by exact k_152 hR2.1) ?_
        refine r_callV2 (ci := 4) (d1 := 5) (c1 := 0) (n1 := 0) dX4_advance_136 mvX4_133 rfl ⟨(Nat.le_of_ble_eq_true rfl), rfl⟩ (Nat.le_of_ble_eq_true rfl) (by exact Nat.le_of_ble_eq_true rfl) (by exact k_152 hR2.1) ?_
        rw [a2, q5, a1]
        refine S_X4_wordBetween hR2 (by omega) (rE_n hs) ?_
        show Wp g mX4_advance _ _ _ 139 _ (_ :: _) _ Q
        refine r_putI dX4_advance_139 (fpX4_55 _ rfl) rfl (by exact k_152 hR2.1) ⟨rfl, rfl⟩ ?_
        refine r_goto 162 dX4_advance_142 rfl ?_
        refine r_return dX4_advance_162 rfl ?_
        have n2 : nxP b n s = rE b n isLt s := (if_neg (by omega)).trans ((if_neg hdg).trans (if_pos hlt))
        have t2 : tkP b n s = wIx b s (rE b n isLt s) wds 256 := (if_neg (by omega)).trans ((if_neg hdg).trans (if_pos hlt))
        exact k _ ((x1.tr s2).stI (by omega) (by omega)) ⟨by rw [n2]; exact (ld_n (by decide) a1), (ld_n (by decide) (a2.trans q5)), by rw [t2]; exact ld_s, fun z => absurd (t2.symm.trans z) wIx_n2⟩
      ·
        show Wp g mX4_advance _ _ _ 84 _ (_ :: _) _ Q
        refine r_if_eq 145 dX4_advance_84 rfl (fun _ => ?_) (fun hz => absurd hz (by decide))
        refine r_aload_n dX4_advance_145 rfl ?_
        refine r_aload_n dX4_advance_146 rfl ?_
        refine r_getRc dX4_advance_147 fgX4_15 rfl (by exact k_152 hR1.1) (by exact r_152_2 hR1.1) ?_
        refine r_iload_n dX4_advance_150 rfl ?_
        refine r_ialoadc (b s) dX4_advance_151 (by exact k_154 hR1.1) (vin (by omega) (by omega)) (by rw [nI_cl s (by omega)]; exact hR1.2.2.2.2 s hsl) ?_
        refine r_putI dX4_advance_152 (fpX4_55 _ rfl) rfl (by exact k_152 hR1.1) ⟨rfl, rfl⟩ ?_
        refine r_aload_n dX4_advance_155 rfl ?_
        refine r_iload_n dX4_advance_156 rfl ?_
        refine r_iconst (1) dX4_advance_157 rfl ?_
        refine r_iadd dX4_advance_158 ?_
        refine r_putI dX4_advance_159 (fpX4_40 _ rfl) rfl (by exact k_152 hR1.1) ⟨rfl, rfl⟩ ?_
        refine r_return dX4_advance_162 rfl ?_
        have n2 : nxP b n s = s + 1 := (if_neg (by omega)).trans ((if_neg hdg).trans (if_neg hlt))
        have t2 : tkP b n s = b s := (if_neg (by omega)).trans ((if_neg hdg).trans (if_neg hlt))
        rw [nI_1 s]
        exact k _ ((x1.stI (by omega) (by omega)).stI (by omega) (by omega)) ⟨by rw [n2]; exact ld_s, (ld_n (by decide) (ld_n (by decide) q5)), by rw [t2]; exact (ld_n (by decide) ld_s), fun z => absurd (t2.symm.trans z) (by have := hR.2.2.1 s hsl; unfold iv at this; intro q; rw [q] at this; exact absurd this.1 (by decide))⟩
  ·
    refine r_aload_n dX4_advance_48 rfl ?_
    refine r_iconst (-1) dX4_advance_49 rfl ?_
    refine r_putI dX4_advance_50 (fpX4_55 _ rfl) rfl (by exact k_152 hR1.1) ⟨rfl, rfl⟩ ?_
    refine r_goto 162 dX4_advance_53 rfl ?_
    refine r_return dX4_advance_162 rfl ?_
    have hsn : n ≤ s := Nat.le_of_not_lt (fun z => hlt0 (nI_lt z (by omega)))
    exact k _ (x1.stI (by omega) (by omega)) ⟨(ld_n (by decide) q4).trans (by rw [show nxP b n s = s from if_pos hsn]), (ld_n (by decide) q5), ld_s.trans (tkP_end hsn).symm, fun z => absurd ((tkP_end hsn).symm.trans z) (by decide)⟩
theorem S_X4_advance {g : GG} {m : MM} {Q : Out → Prop} {b : Nat → Int32} {n p : Nat} (hR : Rtx b n m) (hp : p ≤ n) (h4 : ldI m 152 4 = nI p) (k : ∀ m', Sx m m' → Lx b n (rE b n isBl p) m' → Q (.inl none, m')) : Cl g 6 0 0 mX4_advance [.ref 152] m Q := by
  refine Cl.of rfl (by decide) (Nat.le_of_ble_eq_true rfl) ?_
  show Wp g mX4_advance 6 0 0 0 [.ref 152, .retAddr 0] [] m Q
  have hF := hR.1
  refine r_aload_n dX4_advance_0 rfl ?_
  refine r_getIc (nI p) dX4_advance_1 fgX4_40 rfl (by exact k_152 hF) (by exact h4) ?_
  refine si_1 dX4_advance_4 rfl (Nat.le_of_ble_eq_true rfl) ?_
  exact L_blank hR _ p rfl hp (T_adv hR (rE_n hp) k)
