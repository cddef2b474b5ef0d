theorem T_txB {g : GG} {m : MM} {Q : Out → Prop} {b : Nat → Int32} {n o d : Nat} {e : Er} (h : RB b n o e m) {x2 : Value} {x3 x4 : Int32} (k : Q (.inl (some (.int e.1)), m)) : Wp g mX4_readText d 0 0 80 [.ref 152, .ref 150, x2, .int x3, .int x4] [] m Q := by
  refine r_iload dX4_readText_80 rfl ?_
  refine r_bipush (16) dX4_readText_82 rfl ?_
  refine r_icmp_gt 115 dX4_readText_84 rfl (fun hgt => ?_) (fun hgt => ?_)
  ·
    refine r_aload_n dX4_readText_115 rfl ?_
    refine r_getIc (e.1) dX4_readText_116 fgX4_46 rfl (by exact k_152 h.F) (by exact h.2.2.2.1) ?_
    refine r_ireturn dX4_readText_119 rfl rfl ?_
    exact k
  ·
    refine r_aload_n dX4_readText_87 rfl ?_
    refine r_getIc (-4) dX4_readText_88 fgX4_55 rfl (by exact k_152 h.F) (by exact h.2.1) ?_
    refine r_iconst (-1) dX4_readText_91 rfl ?_
    refine r_icmp_eq 115 dX4_readText_92 rfl (fun hz => absurd hz (by decide)) (fun _ => ?_)
    refine r_aload_n dX4_readText_95 rfl ?_
    refine r_getIc (e.1) dX4_readText_96 fgX4_46 rfl (by exact k_152 h.F) (by exact h.2.2.2.1) ?_
    refine r_if_ne 115 dX4_readText_99 rfl (fun hz => ?_) (fun hz => ?_)
    ·
      refine r_aload_n dX4_readText_115 rfl ?_
      refine r_getIc (e.1) dX4_readText_116 fgX4_46 rfl (by exact k_152 h.F) (by exact h.2.2.2.1) ?_
      refine r_ireturn dX4_readText_119 rfl rfl ?_
      exact k
    ·
      exact absurd hz h.2.2.2.2.1
theorem L_txt0 {g : GG} {Q : Out → Prop} {b : Nat → Int32} {n : Nat} {x2 : Value} : ∀ (t i : Nat) (a : Nat × List Int32 × TL) (m : MM), i + t = 17 → RS b n a.1 0 a.2.1 m → a.2.1.length ≤ a.1 → a.2.1.length < 400 → (∀ e, txL b n false t i a = .inl e → ∀ m', Off 152 153 m m' → RB b n 0 e m' → Q (.inl (some (.int e.1)), m')) → (∀ r, txL b n false t i a = .inr r → r.1.length < 400 → ∀ s m', Off 152 153 m m' → RS b n s 0 r.1 m' → Q (.inl (some (.int 0)), m')) → Wp g mX4_readText 57 0 0 80 [.ref 152, .ref 150, x2, .int 0, .int (nI i)] [] m Q := by
  intro t
  induction t with
  | zero =>
    intro i a m hi h hl hl4 k0 k1
    obtain rfl : i = 17 := by omega
    refine r_iload dX4_readText_80 rfl ?_
    refine r_bipush (16) dX4_readText_82 rfl ?_
    refine r_icmp_gt 115 dX4_readText_84 rfl (fun hgt => ?_) (fun hgt => ?_)
    ·
      refine r_aload_n dX4_readText_115 rfl ?_
      refine r_getIc (0) dX4_readText_116 fgX4_46 rfl (by exact k_152 h.F) (by exact h.2.2.2.2.1) ?_
      refine r_ireturn dX4_readText_119 rfl rfl ?_
      exact k1 a.2 rfl hl4 a.1 m Off.rf h
    ·
      exact absurd (nI_lt (a := 16) (b := 17) (by omega) (by omega)) hgt
  | succ t ih =>
    intro i a m hi h hl hl4 k0 k1
    have hn4 := h.1.2.1
    refine r_iload dX4_readText_80 rfl ?_
    refine r_bipush (16) dX4_readText_82 rfl ?_
    refine r_icmp_gt 115 dX4_readText_84 rfl (fun hgt => ?_) (fun hgt => ?_)
    ·
      refine r_aload_n dX4_readText_115 rfl ?_
      refine r_getIc (0) dX4_readText_116 fgX4_46 rfl (by exact k_152 h.F) (by exact h.2.2.2.2.1) ?_
      refine r_ireturn dX4_readText_119 rfl rfl ?_
      exact absurd hgt (nI_nlt (a := 16) (b := i) (by omega) (by omega))
    ·
      refine r_aload_n dX4_readText_87 rfl ?_
      refine r_getIc (tkP b n a.1) dX4_readText_88 fgX4_55 rfl (by exact k_152 h.F) (by exact h.tk) ?_
      refine r_iconst (-1) dX4_readText_91 rfl ?_
      refine r_icmp_eq 115 dX4_readText_92 rfl (fun te => ?_) (fun te => ?_)
      ·
        refine r_aload_n dX4_readText_115 rfl ?_
        refine r_getIc (0) dX4_readText_116 fgX4_46 rfl (by exact k_152 h.F) (by exact h.2.2.2.2.1) ?_
        refine r_ireturn dX4_readText_119 rfl rfl ?_
        exact k1 a.2 (if_pos te) hl4 a.1 m Off.rf h
      ·
        refine r_aload_n dX4_readText_95 rfl ?_
        refine r_getIc (0) dX4_readText_96 fgX4_46 rfl (by exact k_152 h.F) (by exact h.2.2.2.2.1) ?_
        refine r_if_ne 115 dX4_readText_99 rfl (fun hz => absurd hz (by decide)) (fun _ => ?_)
        refine r_aload_n dX4_readText_102 rfl ?_
        refine r_iload_n dX4_readText_103 rfl ?_
        refine r_iload dX4_readText_104 rfl ?_
        refine r_callV2 (ci := 4) (d1 := 56) (c1 := 0) (n1 := 0) dX4_readText_106 mvX4_58 rfl ⟨(Nat.le_of_ble_eq_true rfl), rfl⟩ (by omega) (by exact Nat.le_of_ble_eq_true rfl) (by exact k_152 h.F) ?_
        refine S_clause0 h hl (by omega) (fun er her m1 q1 h1 => ?_) (fun r hr m2 q2 h2 => ?_)
        ·
          have o1 := q1
          show Wp g mX4_readText _ _ _ 109 _ [] _ Q
          refine ic_4 (1) dX4_readText_109 rfl rfl (Nat.le_of_ble_eq_true rfl) ?_
          refine r_goto 80 dX4_readText_112 rfl ?_
          exact T_txB h1 (k0 er ((if_neg te).trans (rB_l her)) m1 o1 h1)
        ·
          have o2 := q2
          show Wp g mX4_readText _ _ _ 109 _ [] _ Q
          refine ic_4 (1) dX4_readText_109 rfl rfl (Nat.le_of_ble_eq_true rfl) ?_
          refine r_goto 80 dX4_readText_112 rfl ?_
          rw [nI_1 i]
          have e9 : txL b n false (t + 1) i a = txL b n false t (i + 1) (r.1, a.2.1 ++ r.2.1, tlT a.2.2 r.2.2.1 r.2.2.2.1 r.2.2.2.2) := (if_neg te).trans (rB_r hr)
          rw [e9] at k0 k1
          have v := claP_g0 h.2.1 hr
          exact ih (i + 1) (r.1, a.2.1 ++ r.2.1, tlT a.2.2 r.2.2.1 r.2.2.2.1 r.2.2.2.2) m2 (by omega) h2 (by show (a.2.1 ++ r.2.1).length ≤ r.1; rw [List.length_append]; omega) (by show (a.2.1 ++ r.2.1).length < 400; rw [List.length_append]; omega) (fun e he m9 q9 => k0 e he m9 (o2.tr q9)) (fun r hr hl9 s9 m9 q9 => k1 r hr hl9 s9 m9 (o2.tr q9))
/-- what readText is given: the tape -/
def Tap (tp : Nat → Int32) (tn : Nat) (m : MM) : Prop := ldI m 150 1 = nI tn ∧ tn ≤ 400 ∧ ∀ j, j < tn → ldI m 151 j = tp j ∧ iv 0 255 (tp j)
theorem L_txc {g : GG} {Q : Out → Prop} {b : Nat → Int32} {n tn : Nat} {x2 : Value} {x3 : Int32} (hnt : n ≤ tn) : ∀ (t i : Nat) (m : MM), i + t = n → Fx m → Tap b tn m → ldI m 152 3 = nI n → (∀ j, j < i → ldI m 154 j = b j) → (∀ m', Off 154 154 m m' → (∀ j, j < n → ldI m' 154 j = b j) → Wp g mX4_readText 57 0 0 48 [.ref 152, .ref 150, x2, .int x3, .int (nI n)] [] m' Q) → Wp g mX4_readText 57 0 0 20 [.ref 152, .ref 150, x2, .int x3, .int (nI i)] [] m Q := by
  intro t
  induction t with
  | zero =>
    intro i m hi hF hT h3 hc k
    have hn4 := hT.2.1
    obtain rfl : i = n := by omega
    refine r_iload dX4_readText_20 rfl ?_
    refine r_aload_n dX4_readText_22 rfl ?_
    refine r_getIc (nI i) dX4_readText_23 fgX4_27 rfl (by exact k_152 hF) (by exact h3) ?_
    refine r_icmp_ge 48 dX4_readText_26 rfl (fun hge => ?_) (fun hge => ?_)
    ·
      exact k m Off.rf hc
    ·
      exact absurd (nI_le (Nat.le_refl _) (by omega)) hge
  | succ t ih =>
    intro i m hi hF hT h3 hc k
    have hn4 := hT.2.1
    refine r_iload dX4_readText_20 rfl ?_
    refine r_aload_n dX4_readText_22 rfl ?_
    refine r_getIc (nI n) dX4_readText_23 fgX4_27 rfl (by exact k_152 hF) (by exact h3) ?_
    refine r_icmp_ge 48 dX4_readText_26 rfl (fun hge => ?_) (fun hge => ?_)
    ·
      exact absurd hge (nI_ge (by omega) (by omega))
    ·
      refine r_aload_n dX4_readText_29 rfl ?_
      refine r_getRc dX4_readText_30 fgX4_15 rfl (by exact k_152 hF) (by exact r_152_2 hF) ?_
      refine r_iload dX4_readText_33 rfl ?_
      refine r_aload_n dX4_readText_35 rfl ?_
      refine r_iload dX4_readText_36 rfl ?_
      refine r_callV1 (ci := 5) (d1 := 0) (c1 := 0) (n1 := 0) dX4_readText_38 mvX4_31 rfl ⟨(Nat.le_of_ble_eq_true rfl), rfl⟩ (Nat.le_of_ble_eq_true rfl) (by exact Nat.le_of_ble_eq_true rfl) (by exact k_150 hF) ?_
      refine S_at (a := 150) (c := 151) (z := 400) (by exact k_150 hF) (by exact r_150_0 hF) (by exact k_151 hF) (by omega) hT.1 hn4 (i := i) rfl (by omega) ?_
      show Wp g mX4_readText _ _ _ 41 _ (_ :: _) _ Q
      refine r_iastoren (i) (nI_cl _ (by omega)) dX4_readText_41 (by exact k_154 hF) (vin (by omega) (by omega)) ?_
      refine ic_4 (1) dX4_readText_42 rfl rfl (Nat.le_of_ble_eq_true rfl) ?_
      refine r_goto 20 dX4_readText_45 rfl ?_
      rw [nI_1 i, (hT.2.2 i (by omega)).1]
      have o9 : Off 154 154 m (stI m 154 i (b i)) := Off.rf.stI (by omega) (by omega)
      refine ih (i + 1) _ (by omega) (Fx_of o9.1 hF) ⟨((o9.2 150 (by omega)).1 1).trans hT.1, hn4, fun j hj => ⟨((o9.2 151 (by omega)).1 j).trans (hT.2.2 j hj).1, (hT.2.2 j hj).2⟩⟩ (((o9.2 152 (by omega)).1 3).trans h3) (fun j hj => ?_) (fun m' q9 c9 => k m' (o9.tr q9) c9)
      by_cases q : j = i
      · subst q; exact ld_s
      · exact ld_n (by omega) (hc j (by omega))
theorem mm_n {n : Nat} (h : n ≤ 400) : (if (0 : Int32) < (if Int32.ofNat 400 < nI n then Int32.ofNat 400 else nI n) then (if Int32.ofNat 400 < nI n then Int32.ofNat 400 else nI n) else 0) = nI n := by
  rw [if_neg (show ¬ Int32.ofNat 400 < nI n from nI_nlt (b := n) (a := 400) h (by omega))]
  by_cases q : (0 : Int32) < nI n
  · rw [if_pos q]
  · rw [if_neg q]
    have : n = 0 := Nat.eq_zero_of_not_pos (fun z => q (nI_lt (a := 0) (b := n) z (by omega)))
    rw [this]; rfl
theorem S_readText0 {g : GG} {m : MM} {Q : Out → Prop} {b : Nat → Int32} {n tn : Nat} (hF : Fx m) (hT : Tap b tn m) (hnt : n ≤ tn) (k0 : ∀ e, texP b n false = .inl e → ∀ m', Off 152 154 m m' → ldI m' 152 10 = nI e.2 → ¬ e.1 = 0 → Q (.inl (some (.int e.1)), m')) (k1 : ∀ r, texP b n false = .inr r → r.1.length < 400 → ∀ m', Off 152 154 m m' → ldI m' 152 10 = -1 → ldI m' 152 1 = nI r.1.length → (∀ j, j < r.1.length → ldI m' 153 j = r.1.getD j 0) → Q (.inl (some (.int 0)), m')) : Cl g 57 0 0 mX4_readText [.ref 152, .ref 150, .int (nI n), .int 0] m Q := by
  refine Cl.of rfl (by decide) (Nat.le_of_ble_eq_true rfl) ?_
  show Wp g mX4_readText 57 0 0 0 [.ref 152, .ref 150, .int (nI n), .int 0, .retAddr 0] [] m Q
  have hn4 := hT.2.1
  refine r_aload_n dX4_readText_0 rfl ?_
  refine r_iconst (0) dX4_readText_1 rfl ?_
  refine r_iload_n dX4_readText_2 rfl ?_
  refine r_aload_n dX4_readText_3 rfl ?_
  refine r_getRc dX4_readText_4 fgX4_15 rfl (by exact k_152 hF) (by exact r_152_2 hF) ?_
  refine r_alen _ dX4_readText_7 ⟨Nat.le_of_ble_eq_true rfl, Nat.le_of_ble_eq_true rfl⟩ (by exact k_154 hF) rfl ?_
  refine r_mminI dX4_readText_8 msX4_18 (Nat.le_of_ble_eq_true rfl) (by exact Nat.le_of_ble_eq_true rfl) ?_
  refine r_mmaxI dX4_readText_11 msX4_24 (Nat.le_of_ble_eq_true rfl) (by exact Nat.le_of_ble_eq_true rfl) ?_
  refine r_putI dX4_readText_14 (fpX4_27 _ rfl) rfl (by exact k_152 hF) ⟨rfl, rfl⟩ ?_
  refine r_iconst (0) dX4_readText_17 rfl ?_
  refine si_4 dX4_readText_18 rfl (Nat.le_of_ble_eq_true rfl) ?_
  rw [mm_n (by omega)]
  have o1 : Off 152 154 m (stI m 152 3 (nI n)) := Off.rf.stI (by omega) (by omega)
  refine L_txc hnt n 0 _ (by omega) (Fx_of o1.1 hF) ⟨((o1.2 150 (by omega)).1 1).trans hT.1, hn4, fun j hj => ⟨((o1.2 151 (by omega)).1 j).trans (hT.2.2 j hj).1, (hT.2.2 j hj).2⟩⟩ ld_s (fun j hj => absurd hj (by omega)) (fun m1 q1 c1 => ?_)
  have o3 := o1.tr (q1.wd (by omega) (by omega))
  have hF1 := Fx_of o3.1 hF
  have o4 : Off 152 154 m1 (stI (stI (stI (stI (stI m1 152 1 0) 152 4 0) 152 8 0) 152 9 0) 152 10 (-1)) := ((((Off.rf.stI (by omega) (by omega)).stI (by omega) (by omega)).stI (by omega) (by omega)).stI (by omega) (by omega)).stI (by omega) (by omega)
  have hR : Rtx b n (stI (stI (stI (stI (stI m1 152 1 0) 152 4 0) 152 8 0) 152 9 0) 152 10 (-1)) := ⟨Fx_of o4.1 hF1, by omega, fun j hj => (hT.2.2 j (by omega)).2, ld_n (by decide) (ld_n (by decide) (ld_n (by decide) (ld_n (by decide) (ld_n (by decide) (((q1.2 152 (by omega)).1 3).trans ld_s))))), fun j hj => ld_n (by omega) (ld_n (by omega) (ld_n (by omega) (ld_n (by omega) (ld_n (by omega) (c1 j hj)))))⟩
  have p4 : ldI (stI (stI (stI (stI (stI m1 152 1 0) 152 4 0) 152 8 0) 152 9 0) 152 10 (-1)) 152 4 = nI 0 := ld_n (by decide) (ld_n (by decide) (ld_n (by decide) ld_s))
  refine r_aload_n dX4_readText_48 rfl ?_
  refine r_iconst (0) dX4_readText_49 rfl ?_
  refine r_putI dX4_readText_50 (fpX4_37 _ rfl) rfl (by exact k_152 hF1) ⟨rfl, rfl⟩ ?_
  refine r_aload_n dX4_readText_53 rfl ?_
  refine r_iconst (0) dX4_readText_54 rfl ?_
  refine r_putI dX4_readText_55 (fpX4_40 _ rfl) rfl (by exact k_152 hF1) ⟨rfl, rfl⟩ ?_
  refine r_aload_n dX4_readText_58 rfl ?_
  refine r_iconst (0) dX4_readText_59 rfl ?_
  refine r_putI dX4_readText_60 (fpX4_43 _ rfl) rfl (by exact k_152 hF1) ⟨rfl, rfl⟩ ?_
  refine r_aload_n dX4_readText_63 rfl ?_
  refine r_iconst (0) dX4_readText_64 rfl ?_
  refine r_putI dX4_readText_65 (fpX4_46 _ rfl) rfl (by exact k_152 hF1) ⟨rfl, rfl⟩ ?_
  refine r_aload_n dX4_readText_68 rfl ?_
  refine r_iconst (-1) dX4_readText_69 rfl ?_
  refine r_putI dX4_readText_70 (fpX4_49 _ rfl) rfl (by exact k_152 hF1) ⟨rfl, rfl⟩ ?_
  refine r_aload_n dX4_readText_73 rfl ?_
  refine r_callV0 (ci := 4) (d1 := 6) (c1 := 0) (n1 := 0) dX4_readText_74 mvX4_52 rfl ⟨(Nat.le_of_ble_eq_true rfl), rfl⟩ (Nat.le_of_ble_eq_true rfl) (by exact Nat.le_of_ble_eq_true rfl) (by exact k_152 hF1) ?_
  refine S_X4_advance hR (Nat.zero_le _) p4 (fun m2 s2 l2 => ?_)
  have hF2 := (hR.sx s2).1
  show Wp g mX4_readText _ _ _ 77 _ [] _ Q
  refine r_iconst (0) dX4_readText_77 rfl ?_
  refine si_4 dX4_readText_78 rfl (Nat.le_of_ble_eq_true rfl) ?_
  have hx : RS b n (rE b n isBl 0) 0 [] m2 := ⟨hR.sx s2, rE_n (Nat.zero_le _), l2, (s2.2 8 (by omega)).trans (ld_n (by decide) (ld_n (by decide) ld_s)), (s2.2 9 (by omega)).trans (ld_n (by decide) ld_s), (s2.2 1 (by omega)).trans (ld_n (by decide) (ld_n (by decide) (ld_n (by decide) (ld_n (by decide) ld_s)))), by decide, fun j hj => absurd hj (by simp), (s2.2 10 (by omega)).trans ld_s⟩
  have o5 := (o3.tr o4).tr (s2.1.wd (by omega) (by omega))
  exact L_txt0 17 0 (rE b n isBl 0, [], fun _ _ => 0) m2 (by omega) hx (Nat.zero_le _) (Nat.zero_lt_succ _) (fun e he m9 q9 h9 => k0 e he m9 (o5.tr (q9.wd (by omega) (by omega))) h9.2.2.2.2.2.1 h9.2.2.2.2.1) (fun r hr hl9 s9 m9 q9 h9 => k1 r hr hl9 m9 (o5.tr (q9.wd (by omega) (by omega))) h9.2.2.2.2.2.2.2.2 h9.2.2.2.2.2.1 h9.2.2.2.2.2.2.2.1)
theorem L_txt1 {g : GG} {Q : Out → Prop} {b : Nat → Int32} {n : Nat} {x2 : Value} : ∀ (t i : Nat) (a : Nat × List Int32 × TL) (m : MM), i + t = 17 → RS b n a.1 0 a.2.1 m → a.2.1.length ≤ a.1 → a.2.1.length < 400 → (∀ e, txL b n true t i a = .inl e → ∀ m', Off 152 153 m m' → RB b n 0 e m' → Q (.inl (some (.int e.1)), m')) → (∀ r, txL b n true t i a = .inr r → r.1.length < 400 → ∀ s m', Off 152 153 m m' → RS b n s 0 r.1 m' → Q (.inl (some (.int 0)), m')) → Wp g mX4_readText 57 0 0 80 [.ref 152, .ref 150, x2, .int 1, .int (nI i)] [] m Q := by
  intro t
  induction t with
  | zero =>
    intro i a m hi h hl hl4 k0 k1
    obtain rfl : i = 17 := by omega
    refine r_iload dX4_readText_80 rfl ?_
    refine r_bipush (16) dX4_readText_82 rfl ?_
    refine r_icmp_gt 115 dX4_readText_84 rfl (fun hgt => ?_) (fun hgt => ?_)
    ·
      refine r_aload_n dX4_readText_115 rfl ?_
      refine r_getIc (0) dX4_readText_116 fgX4_46 rfl (by exact k_152 h.F) (by exact h.2.2.2.2.1) ?_
      refine r_ireturn dX4_readText_119 rfl rfl ?_
      exact k1 a.2 rfl hl4 a.1 m Off.rf h
    ·
      exact absurd (nI_lt (a := 16) (b := 17) (by omega) (by omega)) hgt
  | succ t ih =>
    intro i a m hi h hl hl4 k0 k1
    have hn4 := h.1.2.1
    refine r_iload dX4_readText_80 rfl ?_
    refine r_bipush (16) dX4_readText_82 rfl ?_
    refine r_icmp_gt 115 dX4_readText_84 rfl (fun hgt => ?_) (fun hgt => ?_)
    ·
      refine r_aload_n dX4_readText_115 rfl ?_
      refine r_getIc (0) dX4_readText_116 fgX4_46 rfl (by exact k_152 h.F) (by exact h.2.2.2.2.1) ?_
      refine r_ireturn dX4_readText_119 rfl rfl ?_
      exact absurd hgt (nI_nlt (a := 16) (b := i) (by omega) (by omega))
    ·
      refine r_aload_n dX4_readText_87 rfl ?_
      refine r_getIc (tkP b n a.1) dX4_readText_88 fgX4_55 rfl (by exact k_152 h.F) (by exact h.tk) ?_
      refine r_iconst (-1) dX4_readText_91 rfl ?_
      refine r_icmp_eq 115 dX4_readText_92 rfl (fun te => ?_) (fun te => ?_)
      ·
        refine r_aload_n dX4_readText_115 rfl ?_
        refine r_getIc (0) dX4_readText_116 fgX4_46 rfl (by exact k_152 h.F) (by exact h.2.2.2.2.1) ?_
        refine r_ireturn dX4_readText_119 rfl rfl ?_
        exact k1 a.2 (if_pos te) hl4 a.1 m Off.rf h
      ·
        refine r_aload_n dX4_readText_95 rfl ?_
        refine r_getIc (0) dX4_readText_96 fgX4_46 rfl (by exact k_152 h.F) (by exact h.2.2.2.2.1) ?_
        refine r_if_ne 115 dX4_readText_99 rfl (fun hz => absurd hz (by decide)) (fun _ => ?_)
        refine r_aload_n dX4_readText_102 rfl ?_
        refine r_iload_n dX4_readText_103 rfl ?_
        refine r_iload dX4_readText_104 rfl ?_
        refine r_callV2 (ci := 4) (d1 := 56) (c1 := 0) (n1 := 0) dX4_readText_106 mvX4_58 rfl ⟨(Nat.le_of_ble_eq_true rfl), rfl⟩ (by omega) (by exact Nat.le_of_ble_eq_true rfl) (by exact k_152 h.F) ?_
        refine S_clause1 h hl (by omega) (fun er her m1 q1 h1 => ?_) (fun r hr m2 q2 h2 => ?_)
        ·
          have o1 := q1
          show Wp g mX4_readText _ _ _ 109 _ [] _ Q
          refine ic_4 (1) dX4_readText_109 rfl rfl (Nat.le_of_ble_eq_true rfl) ?_
          refine r_goto 80 dX4_readText_112 rfl ?_
          exact T_txB h1 (k0 er ((if_neg te).trans (rB_l her)) m1 o1 h1)
        ·
          have o2 := q2
          show Wp g mX4_readText _ _ _ 109 _ [] _ Q
          refine ic_4 (1) dX4_readText_109 rfl rfl (Nat.le_of_ble_eq_true rfl) ?_
          refine r_goto 80 dX4_readText_112 rfl ?_
          rw [nI_1 i]
          have e9 : txL b n true (t + 1) i a = txL b n true t (i + 1) (r.1, a.2.1 ++ r.2.1, tlT a.2.2 r.2.2.1 r.2.2.2.1 r.2.2.2.2) := (if_neg te).trans (rB_r hr)
          rw [e9] at k0 k1
          have v := claP_g1 h.2.1 hr
          exact ih (i + 1) (r.1, a.2.1 ++ r.2.1, tlT a.2.2 r.2.2.1 r.2.2.2.1 r.2.2.2.2) m2 (by omega) h2 (by show (a.2.1 ++ r.2.1).length ≤ r.1; rw [List.length_append]; omega) (by show (a.2.1 ++ r.2.1).length < 400; rw [List.length_append]; omega) (fun e he m9 q9 => k0 e he m9 (o2.tr q9)) (fun r hr hl9 s9 m9 q9 => k1 r hr hl9 s9 m9 (o2.tr q9))
theorem S_readText1 {g : GG} {m : MM} {Q : Out → Prop} {b : Nat → Int32} {n tn : Nat} (hF : Fx m) (hT : Tap b tn m) (hnt : n ≤ tn) (k0 : ∀ e, texP b n true = .inl e → ∀ m', Off 152 154 m m' → ldI m' 152 10 = nI e.2 → ¬ e.1 = 0 → Q (.inl (some (.int e.1)), m')) (k1 : ∀ r, texP b n true = .inr r → r.1.length < 400 → ∀ m', Off 152 154 m m' → ldI m' 152 10 = -1 → ldI m' 152 1 = nI r.1.length → (∀ j, j < r.1.length → ldI m' 153 j = r.1.getD j 0) → Q (.inl (some (.int 0)), m')) : Cl g 57 0 0 mX4_readText [.ref 152, .ref 150, .int (nI n), .int 1] m Q := by
  refine Cl.of rfl (by decide) (Nat.le_of_ble_eq_true rfl) ?_
  show Wp g mX4_readText 57 0 0 0 [.ref 152, .ref 150, .int (nI n), .int 1, .retAddr 0] [] m Q
  have hn4 := hT.2.1
  refine r_aload_n dX4_readText_0 rfl ?_
  refine r_iconst (0) dX4_readText_1 rfl ?_
  refine r_iload_n dX4_readText_2 rfl ?_
  refine r_aload_n dX4_readText_3 rfl ?_
  refine r_getRc dX4_readText_4 fgX4_15 rfl (by exact k_152 hF) (by exact r_152_2 hF) ?_
  refine r_alen _ dX4_readText_7 ⟨Nat.le_of_ble_eq_true rfl, Nat.le_of_ble_eq_true rfl⟩ (by exact k_154 hF) rfl ?_
  refine r_mminI dX4_readText_8 msX4_18 (Nat.le_of_ble_eq_true rfl) (by exact Nat.le_of_ble_eq_true rfl) ?_
  refine r_mmaxI dX4_readText_11 msX4_24 (Nat.le_of_ble_eq_true rfl) (by exact Nat.le_of_ble_eq_true rfl) ?_
  refine r_putI dX4_readText_14 (fpX4_27 _ rfl) rfl (by exact k_152 hF) ⟨rfl, rfl⟩ ?_
  refine r_iconst (0) dX4_readText_17 rfl ?_
  refine si_4 dX4_readText_18 rfl (Nat.le_of_ble_eq_true rfl) ?_
  rw [mm_n (by omega)]
  have o1 : Off 152 154 m (stI m 152 3 (nI n)) := Off.rf.stI (by omega) (by omega)
  refine L_txc hnt n 0 _ (by omega) (Fx_of o1.1 hF) ⟨((o1.2 150 (by omega)).1 1).trans hT.1, hn4, fun j hj => ⟨((o1.2 151 (by omega)).1 j).trans (hT.2.2 j hj).1, (hT.2.2 j hj).2⟩⟩ ld_s (fun j hj => absurd hj (by omega)) (fun m1 q1 c1 => ?_)
  have o3 := o1.tr (q1.wd (by omega) (by omega))
  have hF1 := Fx_of o3.1 hF
  have o4 : Off 152 154 m1 (stI (stI (stI (stI (stI m1 152 1 0) 152 4 0) 152 8 0) 152 9 0) 152 10 (-1)) := ((((Off.rf.stI (by omega) (by omega)).stI (by omega) (by omega)).stI (by omega) (by omega)).stI (by omega) (by omega)).stI (by omega) (by omega)
  have hR : Rtx b n (stI (stI (stI (stI (stI m1 152 1 0) 152 4 0) 152 8 0) 152 9 0) 152 10 (-1)) := ⟨Fx_of o4.1 hF1, by omega, fun j hj => (hT.2.2 j (by omega)).2, ld_n (by decide) (ld_n (by decide) (ld_n (by decide) (ld_n (by decide) (ld_n (by decide) (((q1.2 152 (by omega)).1 3).trans ld_s))))), fun j hj => ld_n (by omega) (ld_n (by omega) (ld_n (by omega) (ld_n (by omega) (ld_n (by omega) (c1 j hj)))))⟩
  have p4 : ldI (stI (stI (stI (stI (stI m1 152 1 0) 152 4 0) 152 8 0) 152 9 0) 152 10 (-1)) 152 4 = nI 0 := ld_n (by decide) (ld_n (by decide) (ld_n (by decide) ld_s))
  refine r_aload_n dX4_readText_48 rfl ?_
  refine r_iconst (0) dX4_readText_49 rfl ?_
  refine r_putI dX4_readText_50 (fpX4_37 _ rfl) rfl (by exact k_152 hF1) ⟨rfl, rfl⟩ ?_
  refine r_aload_n dX4_readText_53 rfl ?_
  refine r_iconst (0) dX4_readText_54 rfl ?_
  refine r_putI dX4_readText_55 (fpX4_40 _ rfl) rfl (by exact k_152 hF1) ⟨rfl, rfl⟩ ?_
  refine r_aload_n dX4_readText_58 rfl ?_
  refine r_iconst (0) dX4_readText_59 rfl ?_
  refine r_putI dX4_readText_60 (fpX4_43 _ rfl) rfl (by exact k_152 hF1) ⟨rfl, rfl⟩ ?_
  refine r_aload_n dX4_readText_63 rfl ?_
  refine r_iconst (0) dX4_readText_64 rfl ?_
  refine r_putI dX4_readText_65 (fpX4_46 _ rfl) rfl (by exact k_152 hF1) ⟨rfl, rfl⟩ ?_
  refine r_aload_n dX4_readText_68 rfl ?_
  refine r_iconst (-1) dX4_readText_69 rfl ?_
  refine r_putI dX4_readText_70 (fpX4_49 _ rfl) rfl (by exact k_152 hF1) ⟨rfl, rfl⟩ ?_
  refine r_aload_n dX4_readText_73 rfl ?_
  refine r_callV0 (ci := 4) (d1 := 6) (c1 := 0) (n1 := 0) dX4_readText_74 mvX4_52 rfl ⟨(Nat.le_of_ble_eq_true rfl), rfl⟩ (Nat.le_of_ble_eq_true rfl) (by exact Nat.le_of_ble_eq_true rfl) (by exact k_152 hF1) ?_
  refine S_X4_advance hR (Nat.zero_le _) p4 (fun m2 s2 l2 => ?_)
  have hF2 := (hR.sx s2).1
  show Wp g mX4_readText _ _ _ 77 _ [] _ Q
  refine r_iconst (0) dX4_readText_77 rfl ?_
  refine si_4 dX4_readText_78 rfl (Nat.le_of_ble_eq_true rfl) ?_
  have hx : RS b n (rE b n isBl 0) 0 [] m2 := ⟨hR.sx s2, rE_n (Nat.zero_le _), l2, (s2.2 8 (by omega)).trans (ld_n (by decide) (ld_n (by decide) ld_s)), (s2.2 9 (by omega)).trans (ld_n (by decide) ld_s), (s2.2 1 (by omega)).trans (ld_n (by decide) (ld_n (by decide) (ld_n (by decide) (ld_n (by decide) ld_s)))), by decide, fun j hj => absurd hj (by simp), (s2.2 10 (by omega)).trans ld_s⟩
  have o5 := (o3.tr o4).tr (s2.1.wd (by omega) (by omega))
  exact L_txt1 17 0 (rE b n isBl 0, [], fun _ _ => 0) m2 (by omega) hx (Nat.zero_le _) (Nat.zero_lt_succ _) (fun e he m9 q9 h9 => k0 e he m9 (o5.tr (q9.wd (by omega) (by omega))) h9.2.2.2.2.2.1 h9.2.2.2.2.1) (fun r hr hl9 s9 m9 q9 h9 => k1 r hr hl9 m9 (o5.tr (q9.wd (by omega) (by omega))) h9.2.2.2.2.2.2.2.2 h9.2.2.2.2.2.1 h9.2.2.2.2.2.2.2.1)
