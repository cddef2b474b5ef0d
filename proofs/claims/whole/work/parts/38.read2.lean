/-- the reader's text -/
def Rtx (b : Nat → Int32) (n : Nat) (m : MM) : Prop := Fx m ∧ n ≤ 400 ∧ (∀ j, j < n → iv 0 255 (b j)) ∧ ldI m 152 3 = nI n ∧ ∀ j, j < n → ldI m 154 j = b j
/-- only the lexer's slots 4..7 differ -/
def Sx (m m' : MM) : Prop := Off 152 152 m m' ∧ ∀ k, k < 4 ∨ 7 < k → ldI m' 152 k = ldI m 152 k
theorem Sx.rf {m : MM} : Sx m m := ⟨Off.rf, fun _ _ => rfl⟩
theorem Sx.tr {m m1 m2 : MM} (h : Sx m m1) (h2 : Sx m1 m2) : Sx m m2 := ⟨h.1.tr h2.1, fun k hk => (h2.2 k hk).trans (h.2 k hk)⟩
theorem Sx.stI {m m1 : MM} {k : Nat} {v : Int32} (h : Sx m m1) (h1 : 4 ≤ k) (h2 : k ≤ 7) : Sx m (stI m1 152 k v) := ⟨h.1.stI (by omega) (by omega), fun j hj => ld_n (by omega) (h.2 j hj)⟩
theorem Rtx.off {b : Nat → Int32} {n : Nat} {m m' : MM} (h : Rtx b n m) (o : Off 152 153 m m') (h3 : ldI m' 152 3 = ldI m 152 3) : Rtx b n m' := ⟨Fx_of o.1 h.1, h.2.1, h.2.2.1, h3.trans h.2.2.2.1, fun j hj => ((o.2 154 (by omega)).1 j).trans (h.2.2.2.2 j hj)⟩
theorem Rtx.sx {b : Nat → Int32} {n : Nat} {m m' : MM} (h : Rtx b n m) (o : Sx m m') : Rtx b n m' := h.off (o.1.wd (by omega) (by omega)) (o.2 3 (by omega))
def Lx (b : Nat → Int32) (n s : Nat) (m : MM) : Prop := ldI m 152 4 = nI (nxP b n s) ∧ ldI m 152 5 = nI s ∧ ldI m 152 6 = tkP b n s ∧ (tkP b n s = -2 → ldI m 152 7 = nmC b n s)
theorem S_X4_isDigit {g : GG} {m : MM} {Q : Out → Prop} {x : Int32} (k1 : isDg x = true → Q (.inl (some (.int 1)), m)) (k0 : ¬ isDg x = true → Q (.inl (some (.int 0)), m)) : Cl g 0 0 0 mX4_isDigit [.int x] m Q := by
  refine Cl.of rfl (by decide) (Nat.le_of_ble_eq_true rfl) ?_
  show Wp g mX4_isDigit 0 0 0 0 [.int x] [] m Q
  refine r_iload_n dX4_isDigit_0 rfl ?_
  refine r_bipush (48) dX4_isDigit_1 rfl ?_
  refine r_icmp_lt 16 dX4_isDigit_3 rfl (fun a => ?_) (fun a => ?_)
  ·
    refine r_iconst (0) dX4_isDigit_16 rfl ?_
    refine r_ireturn dX4_isDigit_17 rfl rfl ?_
    exact k0 (fun q => absurd a (i32_nlt.mpr (of_decide_eq_true q).1))
  ·
    refine r_iload_n dX4_isDigit_6 rfl ?_
    refine r_bipush (57) dX4_isDigit_7 rfl ?_
    refine r_icmp_gt 16 dX4_isDigit_9 rfl (fun c => ?_) (fun c => ?_)
    ·
      refine r_iconst (0) dX4_isDigit_16 rfl ?_
      refine r_ireturn dX4_isDigit_17 rfl rfl ?_
      exact k0 (fun q => absurd c (i32_nlt.mpr (of_decide_eq_true q).2))
    ·
      refine r_iconst (1) dX4_isDigit_12 rfl ?_
      refine r_goto 17 dX4_isDigit_13 rfl ?_
      refine r_ireturn dX4_isDigit_17 rfl rfl ?_
      exact k1 (decide_eq_true ⟨i32_nlt.mp a, i32_nlt.mp c⟩)
theorem S_X4_isLetter {g : GG} {m : MM} {Q : Out → Prop} {x : Int32} (k1 : isLt x = true → Q (.inl (some (.int 1)), m)) (k0 : ¬ isLt x = true → Q (.inl (some (.int 0)), m)) : Cl g 0 0 0 mX4_isLetter [.int x] m Q := by
  refine Cl.of rfl (by decide) (Nat.le_of_ble_eq_true rfl) ?_
  show Wp g mX4_isLetter 0 0 0 0 [.int x] [] m Q
  refine r_iload_n dX4_isLetter_0 rfl ?_
  refine r_bipush (97) dX4_isLetter_1 rfl ?_
  refine r_icmp_lt 16 dX4_isLetter_3 rfl (fun a => ?_) (fun a => ?_)
  ·
    refine r_iconst (0) dX4_isLetter_16 rfl ?_
    refine r_ireturn dX4_isLetter_17 rfl rfl ?_
    exact k0 (fun q => absurd a (i32_nlt.mpr (of_decide_eq_true q).1))
  ·
    refine r_iload_n dX4_isLetter_6 rfl ?_
    refine r_bipush (122) dX4_isLetter_7 rfl ?_
    refine r_icmp_gt 16 dX4_isLetter_9 rfl (fun c => ?_) (fun c => ?_)
    ·
      refine r_iconst (0) dX4_isLetter_16 rfl ?_
      refine r_ireturn dX4_isLetter_17 rfl rfl ?_
      exact k0 (fun q => absurd c (i32_nlt.mpr (of_decide_eq_true q).2))
    ·
      refine r_iconst (1) dX4_isLetter_12 rfl ?_
      refine r_goto 17 dX4_isLetter_13 rfl ?_
      refine r_ireturn dX4_isLetter_17 rfl rfl ?_
      exact k1 (decide_eq_true ⟨i32_nlt.mp a, i32_nlt.mp c⟩)
theorem dg_nat {x : Int32} (h : isDg x = true) : x = nI x.toNatClampNeg ∧ 48 ≤ x.toNatClampNeg ∧ x.toNatClampNeg ≤ 57 := by
  have q := of_decide_eq_true h
  have w := nI_of_iv (iv_mk q.1 q.2) (by decide)
  have e := iv_mk q.1 q.2
  unfold iv at e
  have a1 : (48 : Int32).toInt = 48 := rfl
  have a2 : (57 : Int32).toInt = 57 := rfl
  exact ⟨w.1, by omega, by omega⟩
theorem nm_step {v d : Nat} (h : v ≤ 10000) (h1 : 48 ≤ d) (h2 : d ≤ 57) : (if 10000 < nI v * 10 + nI d - 48 then 10000 else nI v * 10 + nI d - 48 : Int32) = nI (min (10 * v + (d - 48)) 10000) := by
  have e : nI v * 10 + nI d - 48 = nI (10 * v + (d - 48)) := Int32.toInt_inj.mp (by
    rw [Int32.toInt_sub, Int32.toInt_add, Int32.toInt_mul, nI_int _ (by omega), nI_int _ (by omega), nI_int _ (by omega)]
    show Int.bmod (Int.bmod (Int.bmod ((v : Int) * 10) (2 ^ 32) + d) (2 ^ 32) - 48) (2 ^ 32) = _
    rw [Int.bmod_eq_of_le (n := (v : Int) * 10) (by omega) (by omega), Int.bmod_eq_of_le (n := (v : Int) * 10 + d) (by omega) (by omega), Int.bmod_eq_of_le (by omega) (by omega)]; omega)
  rw [e]
  by_cases q : 10000 < 10 * v + (d - 48)
  · rw [if_pos (by rw [show (10000 : Int32) = nI 10000 from rfl]; exact nI_lt q (by omega)), Nat.min_eq_right (by omega)]; rfl
  · rw [if_neg (by rw [show (10000 : Int32) = nI 10000 from rfl]; exact nI_nlt (by omega) (by omega)), Nat.min_eq_left (by omega)]
theorem min_step (x d : Nat) : min (10 * min x 10000 + d) 10000 = min (10 * x + d) 10000 := by omega
theorem L_scan {g : GG} {Q : Out → Prop} {b : Nat → Int32} {n s : Nat} : ∀ (t p : Nat) (m : MM), n - p = t → Rtx b n m → s ≤ p → p ≤ n → ldI m 152 4 = nI p → ldI m 152 7 = nI (min (dgV b s (p - s)) 10000) → (∀ m', Sx m m' → ldI m' 152 4 = nI (rE b n isDg p) → ldI m' 152 7 = nI (min (dgV b s (rE b n isDg p - s)) 10000) → ldI m' 152 6 = ldI m 152 6 → ldI m' 152 5 = ldI m 152 5 → Q (.inl none, m')) → Wp g mX4_scanNumber 1 0 0 11 [.ref 152] [] m Q := by
  intro t
  induction t with
  | zero =>
    intro p m ht hR hsp hpn h4 h7 k
    have hF := hR.1
    have hn := hR.2.1
    obtain rfl : p = n := by omega
    refine r_aload_n dX4_scanNumber_11 rfl ?_
    refine r_getIc (nI p) dX4_scanNumber_12 fgX4_40 rfl (by exact k_152 hF) (by exact h4) ?_
    refine r_aload_n dX4_scanNumber_15 rfl ?_
    refine r_getIc (nI p) dX4_scanNumber_16 fgX4_27 rfl (by exact k_152 hF) (by exact hR.2.2.2.1) ?_
    refine r_icmp_ge 80 dX4_scanNumber_19 rfl (fun hge => ?_) (fun hge => ?_)
    ·
      refine r_return dX4_scanNumber_80 rfl ?_
      have e9 : rE b p isDg p = p := rE_f (by omega)
      rw [e9] at k; exact k m Sx.rf h4 h7 rfl rfl
    ·
      exact absurd (nI_le (Nat.le_refl _) (by omega)) hge
  | succ t ih =>
    intro p m ht hR hsp hpn h4 h7 k
    have hF := hR.1
    have hn := hR.2.1
    have hpl : p < n := by omega
    refine r_aload_n dX4_scanNumber_11 rfl ?_
    refine r_getIc (nI p) dX4_scanNumber_12 fgX4_40 rfl (by exact k_152 hF) (by exact h4) ?_
    refine r_aload_n dX4_scanNumber_15 rfl ?_
    refine r_getIc (nI n) dX4_scanNumber_16 fgX4_27 rfl (by exact k_152 hF) (by exact hR.2.2.2.1) ?_
    refine r_icmp_ge 80 dX4_scanNumber_19 rfl (fun hge => ?_) (fun hge => ?_)
    ·
      refine r_return dX4_scanNumber_80 rfl ?_
      first
        | exact absurd hge (nI_ge hpl (by omega))
        | (have e9 : rE b n isDg p = p := rE_f (fun q => hdg q.2)
           rw [e9] at k; exact k m Sx.rf h4 h7 rfl rfl)
    ·
      refine r_aload_n dX4_scanNumber_22 rfl ?_
      refine r_getRc dX4_scanNumber_23 fgX4_15 rfl (by exact k_152 hF) (by exact r_152_2 hF) ?_
      refine r_aload_n dX4_scanNumber_26 rfl ?_
      refine r_getIc (nI p) dX4_scanNumber_27 fgX4_40 rfl (by exact k_152 hF) (by exact h4) ?_
      refine r_ialoadc (b p) dX4_scanNumber_30 (by exact k_154 hF) (vin (by omega) (by omega)) (by rw [nI_cl p (by omega)]; exact hR.2.2.2.2 p hpl) ?_
      refine r_callS1 (d1 := 0) (c1 := 0) (n1 := 0) dX4_scanNumber_31 msX4_124 rfl (Nat.le_of_ble_eq_true rfl) (by exact Nat.le_of_ble_eq_true rfl) ?_
      refine S_X4_isDigit (fun hdg => ?_) (fun hdg => ?_)
      ·
        show Wp g mX4_scanNumber _ _ _ 34 _ (_ :: _) _ Q
        refine r_if_eq 80 dX4_scanNumber_34 rfl (fun hz => absurd hz (by decide)) (fun _ => ?_)
        refine r_aload_n dX4_scanNumber_37 rfl ?_
        refine r_aload_n dX4_scanNumber_38 rfl ?_
        refine r_getIc (nI (min (dgV b s (p - s)) 10000)) dX4_scanNumber_39 fgX4_118 rfl (by exact k_152 hF) (by exact h7) ?_
        refine r_bipush (10) dX4_scanNumber_42 rfl ?_
        refine r_imul dX4_scanNumber_44 ?_
        refine r_aload_n dX4_scanNumber_45 rfl ?_
        refine r_getRc dX4_scanNumber_46 fgX4_15 rfl (by exact k_152 hF) (by exact r_152_2 hF) ?_
        refine r_aload_n dX4_scanNumber_49 rfl ?_
        refine r_getIc (nI p) dX4_scanNumber_50 fgX4_40 rfl (by exact k_152 hF) (by exact h4) ?_
        refine r_ialoadc (b p) dX4_scanNumber_53 (by exact k_154 hF) (vin (by omega) (by omega)) (by rw [nI_cl p (by omega)]; exact hR.2.2.2.2 p hpl) ?_
        refine r_iadd dX4_scanNumber_54 ?_
        refine r_bipush (48) dX4_scanNumber_55 rfl ?_
        refine r_isub dX4_scanNumber_57 ?_
        refine r_sipush (10000) dX4_scanNumber_58 rfl ?_
        refine r_mminI dX4_scanNumber_61 msX4_18 (Nat.le_of_ble_eq_true rfl) (by exact Nat.le_of_ble_eq_true rfl) ?_
        have w9 := dg_nat hdg
        have e8 : (if 10000 < nI (min (dgV b s (p - s)) 10000) * 10 + b p - 48 then 10000 else nI (min (dgV b s (p - s)) 10000) * 10 + b p - 48 : Int32) = nI (min (dgV b s (p + 1 - s)) 10000) := by
          rw [show p + 1 - s = (p - s) + 1 from by omega, show dgV b s ((p - s) + 1) = 10 * dgV b s (p - s) + ((b (s + (p - s))).toNatClampNeg - 48) from rfl, show s + (p - s) = p from by omega, ← min_step (dgV b s (p - s)), ← nm_step (by omega) w9.2.1 w9.2.2, ← w9.1]
        rw [e8]
        refine r_putI dX4_scanNumber_64 (fpX4_118 _ rfl) rfl (by exact k_152 hF) ⟨rfl, rfl⟩ ?_
        refine r_aload_n dX4_scanNumber_67 rfl ?_
        refine r_dup dX4_scanNumber_68 rfl ?_
        refine r_getIc (nI p) dX4_scanNumber_69 fgX4_40 rfl (by exact k_152 hF) (by exact ld_n (by decide) h4) ?_
        refine r_iconst (1) dX4_scanNumber_72 rfl ?_
        refine r_iadd dX4_scanNumber_73 ?_
        refine r_putI dX4_scanNumber_74 (fpX4_40 _ rfl) rfl (by exact k_152 hF) ⟨rfl, rfl⟩ ?_
        refine r_goto 11 dX4_scanNumber_77 rfl ?_
        rw [nI_1 p]
        have x9 : Sx m (stI (stI m 152 7 (nI (min (dgV b s (p + 1 - s)) 10000))) 152 4 (nI (p + 1))) := (Sx.rf.stI (by omega) (by omega)).stI (by omega) (by omega)
        refine ih (p + 1) _ (by omega) (hR.sx x9) (by omega) (by omega) ld_s (ld_n (by decide) ld_s) (fun m' s9 a1 a2 a3 a4 => ?_)
        rw [rE_t hpl hdg] at k
        exact k m' (x9.tr s9) a1 a2 (a3.trans (ld_n (by decide) (ld_n (by decide) rfl))) (a4.trans (ld_n (by decide) (ld_n (by decide) rfl)))
      ·
        show Wp g mX4_scanNumber _ _ _ 34 _ (_ :: _) _ Q
        refine r_if_eq 80 dX4_scanNumber_34 rfl (fun _ => ?_) (fun hz => absurd hz (by decide))
        refine r_return dX4_scanNumber_80 rfl ?_
        first
          | exact absurd hge (nI_ge hpl (by omega))
          | (have e9 : rE b n isDg p = p := rE_f (fun q => hdg q.2)
             rw [e9] at k; exact k m Sx.rf h4 h7 rfl rfl)
theorem S_X4_scanNumber {g : GG} {m : MM} {Q : Out → Prop} {b : Nat → Int32} {n s : Nat} (hR : Rtx b n m) (hs : s ≤ n) (h4 : ldI m 152 4 = nI s) (k : ∀ m', Sx m m' → ldI m' 152 4 = nI (rE b n isDg s) → ldI m' 152 7 = nmC b n s → ldI m' 152 6 = -2 → ldI m' 152 5 = ldI m 152 5 → Q (.inl none, m')) : Cl g 1 0 0 mX4_scanNumber [.ref 152] m Q := by
  refine Cl.of rfl (by decide) (Nat.le_of_ble_eq_true rfl) ?_
  show Wp g mX4_scanNumber 1 0 0 0 [.ref 152] [] m Q
  have hF := hR.1
  have x9 : Sx m (stI (stI m 152 6 (-2)) 152 7 0) := (Sx.rf.stI (by omega) (by omega)).stI (by omega) (by omega)
  refine r_aload_n dX4_scanNumber_0 rfl ?_
  refine r_bipush (-2) dX4_scanNumber_1 rfl ?_
  refine r_putI dX4_scanNumber_3 (fpX4_55 _ rfl) rfl (by exact k_152 hF) ⟨rfl, rfl⟩ ?_
  refine r_aload_n dX4_scanNumber_6 rfl ?_
  refine r_iconst (0) dX4_scanNumber_7 rfl ?_
  refine r_putI dX4_scanNumber_8 (fpX4_118 _ rfl) rfl (by exact k_152 hF) ⟨rfl, rfl⟩ ?_
  refine L_scan (s := s) _ s _ rfl (hR.sx x9) (Nat.le_refl _) (by omega) (ld_n (by decide) (ld_n (by decide) h4)) (by rw [Nat.sub_self]; exact ld_s) (fun m' s9 a1 a2 a3 a4 => ?_)
  exact k m' (x9.tr s9) a1 a2 (a3.trans (ld_n (by decide) ld_s)) (a4.trans (ld_n (by decide) (ld_n (by decide) rfl)))
theorem drop_c {i : Nat} (h : i < WB.length) : WB.drop i = WB.getD i 0 :: WB.drop (i + 1) := by
  rw [List.drop_eq_getElem_cons h, show WB.getD i 0 = WB[i] from by simp [List.getD_eq_getElem?_getD, List.getElem?_eq_getElem h]]
theorem wbR_n {b : Nat → Int32} {s e w a : Nat} {c : Int32} {cs : List Int32} {q : Bool} (h : ¬ c = 32) : wbR b s e (c :: cs) w a q = wbR b s e cs w (a + 1) (q && (decide (a < e) && decide (b a = c))) := if_pos h
theorem wbR_y {b : Nat → Int32} {s e w a : Nat} {c : Int32} {cs : List Int32} {q : Bool} (h : c = 32) (h1 : q = true ∧ a = e) : wbR b s e (c :: cs) w a q = nI w := (if_neg (fun z => z h)).trans (if_pos h1)
theorem wbR_z {b : Nat → Int32} {s e w a : Nat} {c : Int32} {cs : List Int32} {q : Bool} (h : c = 32) (h1 : ¬ (q = true ∧ a = e)) : wbR b s e (c :: cs) w a q = wbR b s e cs (w + 1) s true := (if_neg (fun z => z h)).trans (if_neg h1)
theorem L_word {g : GG} {m : MM} {Q : Out → Prop} {b : Nat → Int32} {n s e : Nat} (hR : Rtx b n m) (hs : s ≤ 400) (he : e ≤ n) : ∀ (t i w a : Nat) (q : Bool) (x7 : Value), i + t = 123 → w ≤ 256 + i → a ≤ 400 + i → Q (.inl (some (.int (wbR b s e (WB.drop i) w a q))), m) → Wp g mX4_wordBetween 5 0 0 13 [.ref 152, .int (nI s), .int (nI e), .int (nI w), .int (nI a), .int (if q = true then 1 else 0), .int (nI i), x7] [] m Q := by
  have hF := hR.1
  have hn := hR.2.1
  have hL := WB_l
  intro t
  induction t with
  | zero =>
    intro i w a q x7 ht hw ha k
    obtain rfl : i = 123 := by omega
    rw [List.drop_eq_nil_of_le (by omega)] at k
    cases q
    ·
      show Wp g mX4_wordBetween 5 0 0 13 [.ref 152, .int (nI s), .int (nI e), .int (nI w), .int (nI a), .int 0, .int (nI 123), x7] [] m Q
      refine r_iload dX4_wordBetween_13 rfl ?_
      refine r_ldcS rfl dX4_wordBetween_15 ?_
      refine r_callVs (d1 := 1) (c1 := 0) (n1 := 0) [] rfl dX4_wordBetween_17 mvX4_138 rfl rfl (Nat.le_of_ble_eq_true rfl) (by exact Nat.le_of_ble_eq_true rfl) ?_
      refine S_strLen ?_
      show Wp g mX4_wordBetween _ _ _ 20 _ (_ :: _) _ Q
      refine r_icmp_gt 118 dX4_wordBetween_20 rfl (fun hgt => ?_) (fun hgt => ?_)
      ·
        refine r_bipush (-3) dX4_wordBetween_118 rfl ?_
        refine r_ireturn dX4_wordBetween_120 rfl rfl ?_
        exact absurd hgt (nI_nlt (Nat.le_refl _) (by omega))
      ·
        refine r_iload dX4_wordBetween_23 rfl ?_
        refine r_ldcS rfl dX4_wordBetween_25 ?_
        refine r_callVs (d1 := 1) (c1 := 0) (n1 := 0) [] rfl dX4_wordBetween_27 mvX4_138 rfl rfl (Nat.le_of_ble_eq_true rfl) (by exact Nat.le_of_ble_eq_true rfl) ?_
        refine S_strLen ?_
        show Wp g mX4_wordBetween _ _ _ 30 _ (_ :: _) _ Q
        refine r_icmp_ge 43 dX4_wordBetween_30 rfl (fun hge => ?_) (fun hge => ?_)
        ·
          refine r_bipush (32) dX4_wordBetween_43 rfl ?_
          refine si_7 dX4_wordBetween_45 rfl (Nat.le_of_ble_eq_true rfl) ?_
          refine r_iload dX4_wordBetween_47 rfl ?_
          refine r_bipush (32) dX4_wordBetween_49 rfl ?_
          refine r_icmp_eq 90 dX4_wordBetween_51 rfl (fun _ => ?_) (fun hz => absurd hz (by decide))
          refine r_iload dX4_wordBetween_90 rfl ?_
          refine r_if_eq 103 dX4_wordBetween_92 rfl (fun _ => ?_) (fun hz => absurd hz (by decide))
          refine ic_3 (1) dX4_wordBetween_103 rfl rfl (Nat.le_of_ble_eq_true rfl) ?_
          refine r_iload_n dX4_wordBetween_106 rfl ?_
          refine si_4 dX4_wordBetween_107 rfl (Nat.le_of_ble_eq_true rfl) ?_
          refine r_iconst (1) dX4_wordBetween_109 rfl ?_
          refine si_5 dX4_wordBetween_110 rfl (Nat.le_of_ble_eq_true rfl) ?_
          refine ic_6 (1) dX4_wordBetween_112 rfl rfl (Nat.le_of_ble_eq_true rfl) ?_
          refine r_goto 13 dX4_wordBetween_115 rfl ?_
          rw [nI_1 123]
          refine r_iload dX4_wordBetween_13 rfl ?_
          refine r_ldcS rfl dX4_wordBetween_15 ?_
          refine r_callVs (d1 := 1) (c1 := 0) (n1 := 0) [] rfl dX4_wordBetween_17 mvX4_138 rfl rfl (Nat.le_of_ble_eq_true rfl) (by exact Nat.le_of_ble_eq_true rfl) ?_
          refine S_strLen ?_
          show Wp g mX4_wordBetween _ _ _ 20 _ (_ :: _) _ Q
          refine r_icmp_gt 118 dX4_wordBetween_20 rfl (fun _ => ?_) (fun hz => absurd (nI_lt (Nat.lt_succ_self _) (by omega)) hz)
          refine r_bipush (-3) dX4_wordBetween_118 rfl ?_
          refine r_ireturn dX4_wordBetween_120 rfl rfl ?_
          rw [show wbR b s e [] w a false = -3 from if_neg (fun z => Bool.noConfusion z.1)] at k; exact k
        ·
          exact absurd (nI_le (Nat.le_refl _) (by omega)) hge
    ·
      show Wp g mX4_wordBetween 5 0 0 13 [.ref 152, .int (nI s), .int (nI e), .int (nI w), .int (nI a), .int 1, .int (nI 123), x7] [] m Q
      refine r_iload dX4_wordBetween_13 rfl ?_
      refine r_ldcS rfl dX4_wordBetween_15 ?_
      refine r_callVs (d1 := 1) (c1 := 0) (n1 := 0) [] rfl dX4_wordBetween_17 mvX4_138 rfl rfl (Nat.le_of_ble_eq_true rfl) (by exact Nat.le_of_ble_eq_true rfl) ?_
      refine S_strLen ?_
      show Wp g mX4_wordBetween _ _ _ 20 _ (_ :: _) _ Q
      refine r_icmp_gt 118 dX4_wordBetween_20 rfl (fun hgt => ?_) (fun hgt => ?_)
      ·
        refine r_bipush (-3) dX4_wordBetween_118 rfl ?_
        refine r_ireturn dX4_wordBetween_120 rfl rfl ?_
        exact absurd hgt (nI_nlt (Nat.le_refl _) (by omega))
      ·
        refine r_iload dX4_wordBetween_23 rfl ?_
        refine r_ldcS rfl dX4_wordBetween_25 ?_
        refine r_callVs (d1 := 1) (c1 := 0) (n1 := 0) [] rfl dX4_wordBetween_27 mvX4_138 rfl rfl (Nat.le_of_ble_eq_true rfl) (by exact Nat.le_of_ble_eq_true rfl) ?_
        refine S_strLen ?_
        show Wp g mX4_wordBetween _ _ _ 30 _ (_ :: _) _ Q
        refine r_icmp_ge 43 dX4_wordBetween_30 rfl (fun hge => ?_) (fun hge => ?_)
        ·
          refine r_bipush (32) dX4_wordBetween_43 rfl ?_
          refine si_7 dX4_wordBetween_45 rfl (Nat.le_of_ble_eq_true rfl) ?_
          refine r_iload dX4_wordBetween_47 rfl ?_
          refine r_bipush (32) dX4_wordBetween_49 rfl ?_
          refine r_icmp_eq 90 dX4_wordBetween_51 rfl (fun _ => ?_) (fun hz => absurd hz (by decide))
          refine r_iload dX4_wordBetween_90 rfl ?_
          refine r_if_eq 103 dX4_wordBetween_92 rfl (fun hz => absurd hz (by decide)) (fun _ => ?_)
          refine r_iload dX4_wordBetween_95 rfl ?_
          refine r_iload_n dX4_wordBetween_97 rfl ?_
          refine r_icmp_ne 103 dX4_wordBetween_98 rfl (fun hee => ?_) (fun hee => ?_)
          ·
            refine ic_3 (1) dX4_wordBetween_103 rfl rfl (Nat.le_of_ble_eq_true rfl) ?_
            refine r_iload_n dX4_wordBetween_106 rfl ?_
            refine si_4 dX4_wordBetween_107 rfl (Nat.le_of_ble_eq_true rfl) ?_
            refine r_iconst (1) dX4_wordBetween_109 rfl ?_
            refine si_5 dX4_wordBetween_110 rfl (Nat.le_of_ble_eq_true rfl) ?_
            refine ic_6 (1) dX4_wordBetween_112 rfl rfl (Nat.le_of_ble_eq_true rfl) ?_
            refine r_goto 13 dX4_wordBetween_115 rfl ?_
            rw [nI_1 123]
            refine r_iload dX4_wordBetween_13 rfl ?_
            refine r_ldcS rfl dX4_wordBetween_15 ?_
            refine r_callVs (d1 := 1) (c1 := 0) (n1 := 0) [] rfl dX4_wordBetween_17 mvX4_138 rfl rfl (Nat.le_of_ble_eq_true rfl) (by exact Nat.le_of_ble_eq_true rfl) ?_
            refine S_strLen ?_
            show Wp g mX4_wordBetween _ _ _ 20 _ (_ :: _) _ Q
            refine r_icmp_gt 118 dX4_wordBetween_20 rfl (fun _ => ?_) (fun hz => absurd (nI_lt (Nat.lt_succ_self _) (by omega)) hz)
            refine r_bipush (-3) dX4_wordBetween_118 rfl ?_
            refine r_ireturn dX4_wordBetween_120 rfl rfl ?_
            rw [show wbR b s e [] w a true = -3 from if_neg (fun z => hee (by rw [z.2]))] at k; exact k
          ·
            refine r_iload_n dX4_wordBetween_101 rfl ?_
            refine r_ireturn dX4_wordBetween_102 rfl rfl ?_
            rw [show wbR b s e [] w a true = nI w from if_pos ⟨rfl, (nI_eq (by omega) (by omega)).mp (hee)⟩] at k; exact k
        ·
          exact absurd (nI_le (Nat.le_refl _) (by omega)) hge
  | succ t ih =>
    intro i w a q x7 ht hw ha k
    have hil : i < 123 := by omega
    rw [drop_c (by omega)] at k
    cases q
    ·
      show Wp g mX4_wordBetween 5 0 0 13 [.ref 152, .int (nI s), .int (nI e), .int (nI w), .int (nI a), .int 0, .int (nI i), x7] [] m Q
      refine r_iload dX4_wordBetween_13 rfl ?_
      refine r_ldcS rfl dX4_wordBetween_15 ?_
      refine r_callVs (d1 := 1) (c1 := 0) (n1 := 0) [] rfl dX4_wordBetween_17 mvX4_138 rfl rfl (Nat.le_of_ble_eq_true rfl) (by exact Nat.le_of_ble_eq_true rfl) ?_
      refine S_strLen ?_
      show Wp g mX4_wordBetween _ _ _ 20 _ (_ :: _) _ Q
      refine r_icmp_gt 118 dX4_wordBetween_20 rfl (fun hgt => ?_) (fun hgt => ?_)
      ·
        exact absurd hgt (nI_nlt (by omega) (by omega))
      ·
        refine r_iload dX4_wordBetween_23 rfl ?_
        refine r_ldcS rfl dX4_wordBetween_25 ?_
        refine r_callVs (d1 := 1) (c1 := 0) (n1 := 0) [] rfl dX4_wordBetween_27 mvX4_138 rfl rfl (Nat.le_of_ble_eq_true rfl) (by exact Nat.le_of_ble_eq_true rfl) ?_
        refine S_strLen ?_
        show Wp g mX4_wordBetween _ _ _ 30 _ (_ :: _) _ Q
        refine r_icmp_ge 43 dX4_wordBetween_30 rfl (fun hge => ?_) (fun hge => ?_)
        ·
          exact absurd hge (nI_ge (by omega) (by omega))
        ·
          refine r_ldcS rfl dX4_wordBetween_33 ?_
          refine r_iload dX4_wordBetween_35 rfl ?_
          refine r_callVs (d1 := 4) (c1 := 0) (n1 := 0) [.int (nI i)] rfl dX4_wordBetween_37 mvX4_143 rfl rfl (Nat.le_of_ble_eq_true rfl) (by exact Nat.le_of_ble_eq_true rfl) ?_
          refine S_charAt hil ?_
          show Wp g mX4_wordBetween _ _ _ 40 _ (_ :: _) _ Q
          refine r_goto 45 dX4_wordBetween_40 rfl ?_
          refine si_7 dX4_wordBetween_45 rfl (Nat.le_of_ble_eq_true rfl) ?_
          refine r_iload dX4_wordBetween_47 rfl ?_
          refine r_bipush (32) dX4_wordBetween_49 rfl ?_
          refine r_icmp_eq 90 dX4_wordBetween_51 rfl (fun hc => ?_) (fun hc => ?_)
          ·
            refine r_iload dX4_wordBetween_90 rfl ?_
            refine r_if_eq 103 dX4_wordBetween_92 rfl (fun _ => ?_) (fun hz => absurd hz (by decide))
            refine ic_3 (1) dX4_wordBetween_103 rfl rfl (Nat.le_of_ble_eq_true rfl) ?_
            refine r_iload_n dX4_wordBetween_106 rfl ?_
            refine si_4 dX4_wordBetween_107 rfl (Nat.le_of_ble_eq_true rfl) ?_
            refine r_iconst (1) dX4_wordBetween_109 rfl ?_
            refine si_5 dX4_wordBetween_110 rfl (Nat.le_of_ble_eq_true rfl) ?_
            refine ic_6 (1) dX4_wordBetween_112 rfl rfl (Nat.le_of_ble_eq_true rfl) ?_
            refine r_goto 13 dX4_wordBetween_115 rfl ?_
            rw [nI_1 i, nI_1 w]
            rw [wbR_z hc (fun z => Bool.noConfusion z.1)] at k
            exact ih (i + 1) (w + 1) s true _ (by omega) (by omega) (by omega) k
          ·
            refine r_iload dX4_wordBetween_54 rfl ?_
            refine r_if_eq 81 dX4_wordBetween_56 rfl (fun _ => ?_) (fun hz => absurd hz (by decide))
            refine r_iconst (0) dX4_wordBetween_81 rfl ?_
            refine si_5 dX4_wordBetween_82 rfl (Nat.le_of_ble_eq_true rfl) ?_
            refine ic_4 (1) dX4_wordBetween_84 rfl rfl (Nat.le_of_ble_eq_true rfl) ?_
            refine r_goto 112 dX4_wordBetween_87 rfl ?_
            refine ic_6 (1) dX4_wordBetween_112 rfl rfl (Nat.le_of_ble_eq_true rfl) ?_
            refine r_goto 13 dX4_wordBetween_115 rfl ?_
            rw [nI_1 i, nI_1 a]
            rw [wbR_n hc, show (false && (decide (a < e) && decide (b a = WB.getD i 0))) = false from rfl] at k
            exact ih (i + 1) w (a + 1) false _ (by omega) (by omega) (by omega) k
    ·
      show Wp g mX4_wordBetween 5 0 0 13 [.ref 152, .int (nI s), .int (nI e), .int (nI w), .int (nI a), .int 1, .int (nI i), x7] [] m Q
      refine r_iload dX4_wordBetween_13 rfl ?_
      refine r_ldcS rfl dX4_wordBetween_15 ?_
      refine r_callVs (d1 := 1) (c1 := 0) (n1 := 0) [] rfl dX4_wordBetween_17 mvX4_138 rfl rfl (Nat.le_of_ble_eq_true rfl) (by exact Nat.le_of_ble_eq_true rfl) ?_
      refine S_strLen ?_
      show Wp g mX4_wordBetween _ _ _ 20 _ (_ :: _) _ Q
      refine r_icmp_gt 118 dX4_wordBetween_20 rfl (fun hgt => ?_) (fun hgt => ?_)
      ·
        exact absurd hgt (nI_nlt (by omega) (by omega))
      ·
        refine r_iload dX4_wordBetween_23 rfl ?_
        refine r_ldcS rfl dX4_wordBetween_25 ?_
        refine r_callVs (d1 := 1) (c1 := 0) (n1 := 0) [] rfl dX4_wordBetween_27 mvX4_138 rfl rfl (Nat.le_of_ble_eq_true rfl) (by exact Nat.le_of_ble_eq_true rfl) ?_
        refine S_strLen ?_
        show Wp g mX4_wordBetween _ _ _ 30 _ (_ :: _) _ Q
        refine r_icmp_ge 43 dX4_wordBetween_30 rfl (fun hge => ?_) (fun hge => ?_)
        ·
          exact absurd hge (nI_ge (by omega) (by omega))
        ·
          refine r_ldcS rfl dX4_wordBetween_33 ?_
          refine r_iload dX4_wordBetween_35 rfl ?_
          refine r_callVs (d1 := 4) (c1 := 0) (n1 := 0) [.int (nI i)] rfl dX4_wordBetween_37 mvX4_143 rfl rfl (Nat.le_of_ble_eq_true rfl) (by exact Nat.le_of_ble_eq_true rfl) ?_
          refine S_charAt hil ?_
          show Wp g mX4_wordBetween _ _ _ 40 _ (_ :: _) _ Q
          refine r_goto 45 dX4_wordBetween_40 rfl ?_
          refine si_7 dX4_wordBetween_45 rfl (Nat.le_of_ble_eq_true rfl) ?_
          refine r_iload dX4_wordBetween_47 rfl ?_
          refine r_bipush (32) dX4_wordBetween_49 rfl ?_
          refine r_icmp_eq 90 dX4_wordBetween_51 rfl (fun hc => ?_) (fun hc => ?_)
          ·
            refine r_iload dX4_wordBetween_90 rfl ?_
            refine r_if_eq 103 dX4_wordBetween_92 rfl (fun hz => absurd hz (by decide)) (fun _ => ?_)
            refine r_iload dX4_wordBetween_95 rfl ?_
            refine r_iload_n dX4_wordBetween_97 rfl ?_
            refine r_icmp_ne 103 dX4_wordBetween_98 rfl (fun hee => ?_) (fun hee => ?_)
            ·
              refine ic_3 (1) dX4_wordBetween_103 rfl rfl (Nat.le_of_ble_eq_true rfl) ?_
              refine r_iload_n dX4_wordBetween_106 rfl ?_
              refine si_4 dX4_wordBetween_107 rfl (Nat.le_of_ble_eq_true rfl) ?_
              refine r_iconst (1) dX4_wordBetween_109 rfl ?_
              refine si_5 dX4_wordBetween_110 rfl (Nat.le_of_ble_eq_true rfl) ?_
              refine ic_6 (1) dX4_wordBetween_112 rfl rfl (Nat.le_of_ble_eq_true rfl) ?_
              refine r_goto 13 dX4_wordBetween_115 rfl ?_
              rw [nI_1 i, nI_1 w]
              rw [wbR_z hc (fun z => hee (by rw [z.2]))] at k
              exact ih (i + 1) (w + 1) s true _ (by omega) (by omega) (by omega) k
            ·
              refine r_iload_n dX4_wordBetween_101 rfl ?_
              refine r_ireturn dX4_wordBetween_102 rfl rfl ?_
              rw [wbR_y hc ⟨rfl, (nI_eq (by omega) (by omega)).mp (hee)⟩] at k; exact k
          ·
            refine r_iload dX4_wordBetween_54 rfl ?_
            refine r_if_eq 81 dX4_wordBetween_56 rfl (fun hz => absurd hz (by decide)) (fun _ => ?_)
            refine r_iload dX4_wordBetween_59 rfl ?_
            refine r_iload_n dX4_wordBetween_61 rfl ?_
            refine r_icmp_ge 81 dX4_wordBetween_62 rfl (fun hae => ?_) (fun hae => ?_)
            ·
              refine r_iconst (0) dX4_wordBetween_81 rfl ?_
              refine si_5 dX4_wordBetween_82 rfl (Nat.le_of_ble_eq_true rfl) ?_
              refine ic_4 (1) dX4_wordBetween_84 rfl rfl (Nat.le_of_ble_eq_true rfl) ?_
              refine r_goto 112 dX4_wordBetween_87 rfl ?_
              refine ic_6 (1) dX4_wordBetween_112 rfl rfl (Nat.le_of_ble_eq_true rfl) ?_
              refine r_goto 13 dX4_wordBetween_115 rfl ?_
              rw [nI_1 i, nI_1 a]
              rw [wbR_n hc, show (true && (decide (a < e) && decide (b a = WB.getD i 0))) = false from by rw [decide_eq_false (fun z => i32_nle.mpr (nI_lt z (by omega)) hae)]; rfl] at k
              exact ih (i + 1) w (a + 1) false _ (by omega) (by omega) (by omega) k
            ·
              have hal : a < e := Nat.lt_of_not_le (fun z => hae (nI_le z (by omega)))
              refine r_aload_n dX4_wordBetween_65 rfl ?_
              refine r_getRc dX4_wordBetween_66 fgX4_15 rfl (by exact k_152 hF) (by exact r_152_2 hF) ?_
              refine r_iload dX4_wordBetween_69 rfl ?_
              refine r_ialoadc (b a) dX4_wordBetween_71 (by exact k_154 hF) (vin (by omega) (by omega)) (by rw [nI_cl a (by omega)]; exact hR.2.2.2.2 a (by omega)) ?_
              refine r_iload dX4_wordBetween_72 rfl ?_
              refine r_icmp_ne 81 dX4_wordBetween_74 rfl (fun hne => ?_) (fun hne => ?_)
              ·
                refine r_iconst (0) dX4_wordBetween_81 rfl ?_
                refine si_5 dX4_wordBetween_82 rfl (Nat.le_of_ble_eq_true rfl) ?_
                refine ic_4 (1) dX4_wordBetween_84 rfl rfl (Nat.le_of_ble_eq_true rfl) ?_
                refine r_goto 112 dX4_wordBetween_87 rfl ?_
                refine ic_6 (1) dX4_wordBetween_112 rfl rfl (Nat.le_of_ble_eq_true rfl) ?_
                refine r_goto 13 dX4_wordBetween_115 rfl ?_
                rw [nI_1 i, nI_1 a]
                rw [wbR_n hc, show (true && (decide (a < e) && decide (b a = WB.getD i 0))) = false from by rw [decide_eq_false hne, Bool.and_false]; rfl] at k
                exact ih (i + 1) w (a + 1) false _ (by omega) (by omega) (by omega) k
              ·
                refine r_iconst (1) dX4_wordBetween_77 rfl ?_
                refine r_goto 82 dX4_wordBetween_78 rfl ?_
                refine si_5 dX4_wordBetween_82 rfl (Nat.le_of_ble_eq_true rfl) ?_
                refine ic_4 (1) dX4_wordBetween_84 rfl rfl (Nat.le_of_ble_eq_true rfl) ?_
                refine r_goto 112 dX4_wordBetween_87 rfl ?_
                refine ic_6 (1) dX4_wordBetween_112 rfl rfl (Nat.le_of_ble_eq_true rfl) ?_
                refine r_goto 13 dX4_wordBetween_115 rfl ?_
                rw [nI_1 i, nI_1 a]
                rw [wbR_n hc, show (true && (decide (a < e) && decide (b a = WB.getD i 0))) = true from by rw [decide_eq_true hne, decide_eq_true hal]; rfl] at k
                exact ih (i + 1) w (a + 1) true _ (by omega) (by omega) (by omega) k
theorem S_X4_wordBetween {g : GG} {m : MM} {Q : Out → Prop} {b : Nat → Int32} {n s e : Nat} (hR : Rtx b n m) (hs : s ≤ 400) (he : e ≤ n) (k : Q (.inl (some (.int (wIx b s e wds 256))), m)) : Cl g 5 0 0 mX4_wordBetween [.ref 152, .int (nI s), .int (nI e)] m Q := by
  refine Cl.of rfl (by decide) (Nat.le_of_ble_eq_true rfl) ?_
  show Wp g mX4_wordBetween 5 0 0 0 [.ref 152, .int (nI s), .int (nI e), .retAddr 0, .retAddr 0, .retAddr 0, .retAddr 0, .retAddr 0] [] m Q
  refine r_sipush (256) dX4_wordBetween_0 rfl ?_
  refine si_3 dX4_wordBetween_3 rfl (Nat.le_of_ble_eq_true rfl) ?_
  refine r_iload_n dX4_wordBetween_4 rfl ?_
  refine si_4 dX4_wordBetween_5 rfl (Nat.le_of_ble_eq_true rfl) ?_
  refine r_iconst (1) dX4_wordBetween_7 rfl ?_
  refine si_5 dX4_wordBetween_8 rfl (Nat.le_of_ble_eq_true rfl) ?_
  refine r_iconst (0) dX4_wordBetween_10 rfl ?_
  refine si_6 dX4_wordBetween_11 rfl (Nat.le_of_ble_eq_true rfl) ?_
  exact L_word hR hs he 123 0 256 s true _ (by omega) (by omega) (by omega) (by rw [List.drop_zero, wbR_WB]; exact k)
