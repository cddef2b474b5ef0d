theorem nI_nle9 {l : Nat} (h : 4 ≤ l ∧ l < 100) : ¬ nI l ≤ 3 := fun q => by rw [Int32.le_iff_toInt_le, nI_int l (by omega)] at q; have y : (3 : Int32).toInt = 3 := rfl; omega
def wiN (v lo hi : Int64) : Int64 := if v < lo then lo else if hi < v then hi else v
theorem S_X12_within {g : GG} {m : MM} {Q : Out → Prop} {v lo hi : Int64} (k : Q (.inl (some (.long (wiN v lo hi))), m)) : Cl g 0 0 0 mX12_within [.long v, .long lo, .long hi] m Q := by
  refine Cl.of rfl (by decide) (Nat.le_of_ble_eq_true rfl) ?_
  show Wp g mX12_within 0 0 0 0 [.long v, .retAddr 0, .long lo, .retAddr 0, .long hi, .retAddr 0] [] m Q
  refine r_lload_n dX12_within_0 rfl ?_
  refine r_lload_n dX12_within_1 rfl ?_
  refine r_lcmp_ge 10 dX12_within_2 dX12_within_3 rfl (fun a => ?_) (fun a => ?_)
  ·
    refine r_lload_n dX12_within_10 rfl ?_
    refine r_lload dX12_within_11 rfl ?_
    refine r_lcmp_le 22 dX12_within_13 dX12_within_14 rfl (fun c => ?_) (fun c => ?_)
    ·
      refine r_lload_n dX12_within_22 rfl ?_
      refine r_lreturn dX12_within_23 rfl ?_
      unfold wiN at k; first | (rw [if_pos (i64_nle.mp a)] at k; exact k) | (rw [if_neg (i64_nlt.mpr a), if_pos (i64_nle.mp c)] at k; exact k) | (rw [if_neg (i64_nlt.mpr a), if_neg (i64_nlt.mpr c)] at k; exact k)
    ·
      refine r_lload dX12_within_17 rfl ?_
      refine r_goto 23 dX12_within_19 rfl ?_
      refine r_lreturn dX12_within_23 rfl ?_
      unfold wiN at k; first | (rw [if_pos (i64_nle.mp a)] at k; exact k) | (rw [if_neg (i64_nlt.mpr a), if_pos (i64_nle.mp c)] at k; exact k) | (rw [if_neg (i64_nlt.mpr a), if_neg (i64_nlt.mpr c)] at k; exact k)
  ·
    refine r_lload_n dX12_within_6 rfl ?_
    refine r_goto 23 dX12_within_7 rfl ?_
    refine r_lreturn dX12_within_23 rfl ?_
    unfold wiN at k; first | (rw [if_pos (i64_nle.mp a)] at k; exact k) | (rw [if_neg (i64_nlt.mpr a), if_pos (i64_nle.mp c)] at k; exact k) | (rw [if_neg (i64_nlt.mpr a), if_neg (i64_nlt.mpr c)] at k; exact k)
theorem asN {M : MM} {t : Nat → Int64} {j : Nat} (h : ∀ i, i < 8 → ldL M 179 i = if i < j then capT (nI i) (t i) else t i) : ∀ i, i < 8 → ldL (stL M 179 j (capT (nI j) (t j))) 179 i = if i < j + 1 then capT (nI i) (t i) else t i := fun i hi => by
  show (if 179 = 179 ∧ i = j then capT (nI j) (t j) else ldL M 179 i) = _
  by_cases q : i = j
  · subst q; rw [if_pos ⟨rfl, rfl⟩, if_pos (by omega)]
  · rw [if_neg (fun z => q z.2), h i hi]
    by_cases z : i < j
    · rw [if_pos z, if_pos (by omega)]
    · rw [if_neg z, if_neg (by omega)]
theorem asM {M : MM} {j k : Nat} {v : Int64} : ldL (stL M 179 j v) 178 k = ldL M 178 k := by
  show (if 178 = 179 ∧ k = j then v else ldL M 178 k) = _
  rw [if_neg (by omega)]
theorem capT_a {j : Int32} {x : Int64} (h : j = 4 ∨ j = 3 ∨ j = 7) : wiN x 0 10000 = capT j x := by unfold wiN capT; rw [if_pos h]
theorem capT_b {j : Int32} {x : Int64} (h : ¬ (j = 4 ∨ j = 3 ∨ j = 7)) : wiN x 0 1000000000 = capT j x := by unfold wiN capT; rw [if_neg h]
theorem S_asks0 {g : GG} {m : MM} {Q : Out → Prop} {f : Nat → Int32} {fs : Nat → Nat → Int32} {ic : Nat} {tp : Nat → Int32} {tn : Nat} {pl : Int32} {n1 n2 : Nat} {ts : Nat → (Nat → Int32) × Nat} (hI : RI f fs ic tp tn pl n1 n2 ts m) {l : Nat} (hl : l < n1) {st : List Int32} {T : TL} (hx : texP (ts l).1 (ts l).2 false = .inr (st, T)) {N : Nat → Int64} (hN : ∀ j, j < 10 → ldL m 178 j = N j) (k : ∀ m', Sw m m' → (∀ j, j < 10 → ldL m' 178 j = N j) → (∀ j, j < 8 → ldL m' 179 j = capT (nI j) (T (cut N) j)) → Q (.inl none, m')) : Cl g 32 0 0 mX12_asks [.ref 167, .int (nI l)] m Q := by
  have hF := hI.1
  have h4 := hI.2.2.2.2.2.1.2
  have h3 := hI.2.2.2.2.2.2.1.2
  obtain ⟨x1, x2, x3⟩ := hI.2.2.2.2.2.2.2 l (by omega)
  have l7 : l < 7 := by omega
  refine Cl.of rfl (by decide) (Nat.le_of_ble_eq_true rfl) ?_
  show Wp g mX12_asks 32 0 0 0 [.ref 167, .int (nI l), .retAddr 0] [] m Q
  refine r_aload_n dX12_asks_0 rfl ?_
  refine r_iload_n dX12_asks_1 rfl ?_
  refine r_putI dX12_asks_2 (fpX12_114 _ rfl) rfl (by exact k_167 hF) ⟨rfl, rfl⟩ ?_
  refine r_aload_n dX12_asks_5 rfl ?_
  refine r_aload_n dX12_asks_6 rfl ?_
  refine r_getRc dX12_asks_7 fgX12_24 rfl (by exact k_167 hF) (by exact r_167_12 hF) ?_
  refine r_iload_n dX12_asks_10 rfl ?_
  refine r_ialoadc (nI (ts l).2) dX12_asks_11 (by exact k_177 hF) (vin (by omega) (by omega)) (by rw [nI_cl _ (by omega)]; exact ld_n (by omega) x1) ?_
  refine r_putI dX12_asks_12 (fpX12_111 _ rfl) rfl (by exact k_167 hF) ⟨rfl, rfl⟩ ?_
  refine r_aload_n dX12_asks_15 rfl ?_
  refine r_iload_n dX12_asks_16 rfl ?_
  refine r_iconst (3) dX12_asks_17 rfl ?_
  refine r_icmp_le 25 dX12_asks_18 rfl (fun h3 => ?_) (fun h3 => ?_)
  ·
    refine r_iconst (0) dX12_asks_25 rfl ?_
    refine r_putI dX12_asks_26 (fpX12_207 _ rfl) rfl (by exact k_167 hF) ⟨rfl, rfl⟩ ?_
    have s0 : Sw m (stI (stI (stI m 167 8 (nI l)) 167 2 (nI (ts l).2)) 167 15 0) := ((Sw.rf.s (by unfold scS; omega) (by decide)).s (by unfold scS; omega) (by decide)).s (by unfold scS; omega) (by decide)
    have hTx : TxB (ts l).1 (ts l).2 (stI (stI (stI m 167 8 (nI l)) 167 2 (nI (ts l).2)) 167 15 0) := ⟨Fx_of (m := m) rfl hF, x2, fun j hj => (x3 j hj).2, ld_n (by decide) ld_s, Or.inr ⟨l, l7, ld_n (by decide) (ld_n (by decide) ld_s), fun k hk => ld_n (by omega) (ld_n (by omega) (ld_n (by omega) (x3 k hk).1))⟩⟩
    have n0 : ∀ j, j < 10 → ldL (stI (stI (stI m 167 8 (nI l)) 167 2 (nI (ts l).2)) 167 15 0) 178 j = N j := hN
    refine r_aload_n dX12_asks_29 rfl ?_
    refine r_callV0 (ci := 12) (d1 := 31) (c1 := 0) (n1 := 0) dX12_asks_30 mvX12_226 rfl ⟨(Nat.le_of_ble_eq_true rfl), rfl⟩ (Nat.le_of_ble_eq_true rfl) (by exact Nat.le_of_ble_eq_true rfl) (by exact k_167 hF) ?_
    refine S_walks0 hTx n0 ld_s (fun e he => absurd (hx.symm.trans he) (by intro q; cases q)) (fun r hr m1 s1 f6 f7 hN1 ht1 => ?_)
    obtain rfl : (st, T) = r := Sum.inr.inj (hx.symm.trans hr)
    have hF := s1.1.F hTx.1
    have s2 := s0.tr s1
    have hA0 : ∀ i, i < 8 → ldL m1 179 i = if i < 0 then capT (nI i) (T (cut N) i) else T (cut N) i := fun i hi => (ht1 i hi).trans (if_neg (by omega)).symm
    show Wp g mX12_asks _ _ _ 33 _ [] _ Q
    refine r_iconst (0) dX12_asks_33 rfl ?_
    refine si_2 dX12_asks_34 rfl (Nat.le_of_ble_eq_true rfl) ?_
    refine r_iload_n dX12_asks_35 rfl ?_
    refine r_bipush (8) dX12_asks_36 rfl ?_
    refine r_icmp_ge 88 dX12_asks_38 rfl (fun hz => absurd hz (by decide)) (fun _ => ?_)
    refine r_aload_n dX12_asks_41 rfl ?_
    refine r_getRc dX12_asks_42 fgX12_31 rfl (by exact k_167 hF) (by exact r_167_17 hF) ?_
    refine r_iload_n dX12_asks_45 rfl ?_
    refine r_aload_n dX12_asks_46 rfl ?_
    refine r_getRc dX12_asks_47 fgX12_31 rfl (by exact k_167 hF) (by exact r_167_17 hF) ?_
    refine r_iload_n dX12_asks_50 rfl ?_
    refine r_laloadc (T (cut N) 0) dX12_asks_51 (by exact k_179 hF) (vin (j := 0) (by omega) (by omega)) (by exact (hA0 0 (by omega)).trans (if_neg (by omega))) ?_
    refine r_lconst (0) dX12_asks_52 rfl ?_
    refine r_iload_n dX12_asks_53 rfl ?_
    refine r_iconst (3) dX12_asks_54 rfl ?_
    refine r_icmp_eq 69 dX12_asks_55 rfl (fun hz => absurd hz (by decide)) (fun _ => ?_)
    refine r_iload_n dX12_asks_58 rfl ?_
    refine r_iconst (4) dX12_asks_59 rfl ?_
    refine r_icmp_eq 69 dX12_asks_60 rfl (fun hz => absurd hz (by decide)) (fun _ => ?_)
    refine r_iload_n dX12_asks_63 rfl ?_
    refine r_bipush (7) dX12_asks_64 rfl ?_
    refine r_icmp_ne 75 dX12_asks_66 rfl (fun _ => ?_) (fun hz => absurd hz (by decide))
    refine r_ldc2 (1000000000) dX12_asks_75 ctX12_229 ?_
    refine r_callS3 (d1 := 0) (c1 := 0) (n1 := 0) dX12_asks_78 msX12_231 rfl (Nat.le_of_ble_eq_true rfl) (by exact Nat.le_of_ble_eq_true rfl) ?_
    refine S_X12_within ?_
    show Wp g mX12_asks _ _ _ 81 _ (_ :: _) _ Q
    refine r_lastoren (0) rfl dX12_asks_81 (by exact k_179 hF) (vin (j := 0) (by omega) (by omega)) ?_
    rw [capT_b (j := nI 0) (by decide)]
    have hA1 := asN hA0
    have sx1 := s2.l (a := 179) (k := 0) (v := capT (nI 0) (T (cut N) 0)) (by omega) (by omega)
    have hNx1 : ∀ i, i < 10 → ldL (stL m1 179 0 (capT (nI 0) (T (cut N) 0))) 178 i = N i := fun i hi => asM.trans (hN1 i hi)
    have hF1 := sx1.1.F hI.1
    change Wp g mX12_asks _ _ _ _ _ _ (stL m1 179 0 (capT (nI 0) (T (cut N) 0))) Q
    generalize stL m1 179 0 (capT (nI 0) (T (cut N) 0)) = M1 at hA1 sx1 hNx1 hF1 ⊢
    refine ic_2 (1) dX12_asks_82 rfl rfl (Nat.le_of_ble_eq_true rfl) ?_
    refine r_goto 35 dX12_asks_85 rfl ?_
    rw [show ((0 : Int32) + 1) = 1 from rfl]
    refine r_iload_n dX12_asks_35 rfl ?_
    refine r_bipush (8) dX12_asks_36 rfl ?_
    refine r_icmp_ge 88 dX12_asks_38 rfl (fun hz => absurd hz (by decide)) (fun _ => ?_)
    refine r_aload_n dX12_asks_41 rfl ?_
    refine r_getRc dX12_asks_42 fgX12_31 rfl (by exact k_167 hF1) (by exact r_167_17 hF1) ?_
    refine r_iload_n dX12_asks_45 rfl ?_
    refine r_aload_n dX12_asks_46 rfl ?_
    refine r_getRc dX12_asks_47 fgX12_31 rfl (by exact k_167 hF1) (by exact r_167_17 hF1) ?_
    refine r_iload_n dX12_asks_50 rfl ?_
    refine r_laloadc (T (cut N) 1) dX12_asks_51 (by exact k_179 hF1) (vin (j := 1) (by omega) (by omega)) (by exact (hA1 1 (by omega)).trans (if_neg (by omega))) ?_
    refine r_lconst (0) dX12_asks_52 rfl ?_
    refine r_iload_n dX12_asks_53 rfl ?_
    refine r_iconst (3) dX12_asks_54 rfl ?_
    refine r_icmp_eq 69 dX12_asks_55 rfl (fun hz => absurd hz (by decide)) (fun _ => ?_)
    refine r_iload_n dX12_asks_58 rfl ?_
    refine r_iconst (4) dX12_asks_59 rfl ?_
    refine r_icmp_eq 69 dX12_asks_60 rfl (fun hz => absurd hz (by decide)) (fun _ => ?_)
    refine r_iload_n dX12_asks_63 rfl ?_
    refine r_bipush (7) dX12_asks_64 rfl ?_
    refine r_icmp_ne 75 dX12_asks_66 rfl (fun _ => ?_) (fun hz => absurd hz (by decide))
    refine r_ldc2 (1000000000) dX12_asks_75 ctX12_229 ?_
    refine r_callS3 (d1 := 0) (c1 := 0) (n1 := 0) dX12_asks_78 msX12_231 rfl (Nat.le_of_ble_eq_true rfl) (by exact Nat.le_of_ble_eq_true rfl) ?_
    refine S_X12_within ?_
    show Wp g mX12_asks _ _ _ 81 _ (_ :: _) _ Q
    refine r_lastoren (1) rfl dX12_asks_81 (by exact k_179 hF1) (vin (j := 1) (by omega) (by omega)) ?_
    rw [capT_b (j := nI 1) (by decide)]
    have hA2 := asN hA1
    have sx2 := sx1.l (a := 179) (k := 1) (v := capT (nI 1) (T (cut N) 1)) (by omega) (by omega)
    have hNx2 : ∀ i, i < 10 → ldL (stL M1 179 1 (capT (nI 1) (T (cut N) 1))) 178 i = N i := fun i hi => asM.trans (hNx1 i hi)
    have hF2 := sx2.1.F hI.1
    change Wp g mX12_asks _ _ _ _ _ _ (stL M1 179 1 (capT (nI 1) (T (cut N) 1))) Q
    generalize stL M1 179 1 (capT (nI 1) (T (cut N) 1)) = M2 at hA2 sx2 hNx2 hF2 ⊢
    refine ic_2 (1) dX12_asks_82 rfl rfl (Nat.le_of_ble_eq_true rfl) ?_
    refine r_goto 35 dX12_asks_85 rfl ?_
    rw [show ((1 : Int32) + 1) = 2 from rfl]
    refine r_iload_n dX12_asks_35 rfl ?_
    refine r_bipush (8) dX12_asks_36 rfl ?_
    refine r_icmp_ge 88 dX12_asks_38 rfl (fun hz => absurd hz (by decide)) (fun _ => ?_)
    refine r_aload_n dX12_asks_41 rfl ?_
    refine r_getRc dX12_asks_42 fgX12_31 rfl (by exact k_167 hF2) (by exact r_167_17 hF2) ?_
    refine r_iload_n dX12_asks_45 rfl ?_
    refine r_aload_n dX12_asks_46 rfl ?_
    refine r_getRc dX12_asks_47 fgX12_31 rfl (by exact k_167 hF2) (by exact r_167_17 hF2) ?_
    refine r_iload_n dX12_asks_50 rfl ?_
    refine r_laloadc (T (cut N) 2) dX12_asks_51 (by exact k_179 hF2) (vin (j := 2) (by omega) (by omega)) (by exact (hA2 2 (by omega)).trans (if_neg (by omega))) ?_
    refine r_lconst (0) dX12_asks_52 rfl ?_
    refine r_iload_n dX12_asks_53 rfl ?_
    refine r_iconst (3) dX12_asks_54 rfl ?_
    refine r_icmp_eq 69 dX12_asks_55 rfl (fun hz => absurd hz (by decide)) (fun _ => ?_)
    refine r_iload_n dX12_asks_58 rfl ?_
    refine r_iconst (4) dX12_asks_59 rfl ?_
    refine r_icmp_eq 69 dX12_asks_60 rfl (fun hz => absurd hz (by decide)) (fun _ => ?_)
    refine r_iload_n dX12_asks_63 rfl ?_
    refine r_bipush (7) dX12_asks_64 rfl ?_
    refine r_icmp_ne 75 dX12_asks_66 rfl (fun _ => ?_) (fun hz => absurd hz (by decide))
    refine r_ldc2 (1000000000) dX12_asks_75 ctX12_229 ?_
    refine r_callS3 (d1 := 0) (c1 := 0) (n1 := 0) dX12_asks_78 msX12_231 rfl (Nat.le_of_ble_eq_true rfl) (by exact Nat.le_of_ble_eq_true rfl) ?_
    refine S_X12_within ?_
    show Wp g mX12_asks _ _ _ 81 _ (_ :: _) _ Q
    refine r_lastoren (2) rfl dX12_asks_81 (by exact k_179 hF2) (vin (j := 2) (by omega) (by omega)) ?_
    rw [capT_b (j := nI 2) (by decide)]
    have hA3 := asN hA2
    have sx3 := sx2.l (a := 179) (k := 2) (v := capT (nI 2) (T (cut N) 2)) (by omega) (by omega)
    have hNx3 : ∀ i, i < 10 → ldL (stL M2 179 2 (capT (nI 2) (T (cut N) 2))) 178 i = N i := fun i hi => asM.trans (hNx2 i hi)
    have hF3 := sx3.1.F hI.1
    change Wp g mX12_asks _ _ _ _ _ _ (stL M2 179 2 (capT (nI 2) (T (cut N) 2))) Q
    generalize stL M2 179 2 (capT (nI 2) (T (cut N) 2)) = M3 at hA3 sx3 hNx3 hF3 ⊢
    refine ic_2 (1) dX12_asks_82 rfl rfl (Nat.le_of_ble_eq_true rfl) ?_
    refine r_goto 35 dX12_asks_85 rfl ?_
    rw [show ((2 : Int32) + 1) = 3 from rfl]
    refine r_iload_n dX12_asks_35 rfl ?_
    refine r_bipush (8) dX12_asks_36 rfl ?_
    refine r_icmp_ge 88 dX12_asks_38 rfl (fun hz => absurd hz (by decide)) (fun _ => ?_)
    refine r_aload_n dX12_asks_41 rfl ?_
    refine r_getRc dX12_asks_42 fgX12_31 rfl (by exact k_167 hF3) (by exact r_167_17 hF3) ?_
    refine r_iload_n dX12_asks_45 rfl ?_
    refine r_aload_n dX12_asks_46 rfl ?_
    refine r_getRc dX12_asks_47 fgX12_31 rfl (by exact k_167 hF3) (by exact r_167_17 hF3) ?_
    refine r_iload_n dX12_asks_50 rfl ?_
    refine r_laloadc (T (cut N) 3) dX12_asks_51 (by exact k_179 hF3) (vin (j := 3) (by omega) (by omega)) (by exact (hA3 3 (by omega)).trans (if_neg (by omega))) ?_
    refine r_lconst (0) dX12_asks_52 rfl ?_
    refine r_iload_n dX12_asks_53 rfl ?_
    refine r_iconst (3) dX12_asks_54 rfl ?_
    refine r_icmp_eq 69 dX12_asks_55 rfl (fun _ => ?_) (fun hz => absurd hz (by decide))
    refine r_ldc2 (10000) dX12_asks_69 ctX12_99 ?_
    refine r_goto 78 dX12_asks_72 rfl ?_
    refine r_callS3 (d1 := 0) (c1 := 0) (n1 := 0) dX12_asks_78 msX12_231 rfl (Nat.le_of_ble_eq_true rfl) (by exact Nat.le_of_ble_eq_true rfl) ?_
    refine S_X12_within ?_
    show Wp g mX12_asks _ _ _ 81 _ (_ :: _) _ Q
    refine r_lastoren (3) rfl dX12_asks_81 (by exact k_179 hF3) (vin (j := 3) (by omega) (by omega)) ?_
    rw [capT_a (j := nI 3) (by decide)]
    have hA4 := asN hA3
    have sx4 := sx3.l (a := 179) (k := 3) (v := capT (nI 3) (T (cut N) 3)) (by omega) (by omega)
    have hNx4 : ∀ i, i < 10 → ldL (stL M3 179 3 (capT (nI 3) (T (cut N) 3))) 178 i = N i := fun i hi => asM.trans (hNx3 i hi)
    have hF4 := sx4.1.F hI.1
    change Wp g mX12_asks _ _ _ _ _ _ (stL M3 179 3 (capT (nI 3) (T (cut N) 3))) Q
    generalize stL M3 179 3 (capT (nI 3) (T (cut N) 3)) = M4 at hA4 sx4 hNx4 hF4 ⊢
    refine ic_2 (1) dX12_asks_82 rfl rfl (Nat.le_of_ble_eq_true rfl) ?_
    refine r_goto 35 dX12_asks_85 rfl ?_
    rw [show ((3 : Int32) + 1) = 4 from rfl]
    refine r_iload_n dX12_asks_35 rfl ?_
    refine r_bipush (8) dX12_asks_36 rfl ?_
    refine r_icmp_ge 88 dX12_asks_38 rfl (fun hz => absurd hz (by decide)) (fun _ => ?_)
    refine r_aload_n dX12_asks_41 rfl ?_
    refine r_getRc dX12_asks_42 fgX12_31 rfl (by exact k_167 hF4) (by exact r_167_17 hF4) ?_
    refine r_iload_n dX12_asks_45 rfl ?_
    refine r_aload_n dX12_asks_46 rfl ?_
    refine r_getRc dX12_asks_47 fgX12_31 rfl (by exact k_167 hF4) (by exact r_167_17 hF4) ?_
    refine r_iload_n dX12_asks_50 rfl ?_
    refine r_laloadc (T (cut N) 4) dX12_asks_51 (by exact k_179 hF4) (vin (j := 4) (by omega) (by omega)) (by exact (hA4 4 (by omega)).trans (if_neg (by omega))) ?_
    refine r_lconst (0) dX12_asks_52 rfl ?_
    refine r_iload_n dX12_asks_53 rfl ?_
    refine r_iconst (3) dX12_asks_54 rfl ?_
    refine r_icmp_eq 69 dX12_asks_55 rfl (fun hz => absurd hz (by decide)) (fun _ => ?_)
    refine r_iload_n dX12_asks_58 rfl ?_
    refine r_iconst (4) dX12_asks_59 rfl ?_
    refine r_icmp_eq 69 dX12_asks_60 rfl (fun _ => ?_) (fun hz => absurd hz (by decide))
    refine r_ldc2 (10000) dX12_asks_69 ctX12_99 ?_
    refine r_goto 78 dX12_asks_72 rfl ?_
    refine r_callS3 (d1 := 0) (c1 := 0) (n1 := 0) dX12_asks_78 msX12_231 rfl (Nat.le_of_ble_eq_true rfl) (by exact Nat.le_of_ble_eq_true rfl) ?_
    refine S_X12_within ?_
    show Wp g mX12_asks _ _ _ 81 _ (_ :: _) _ Q
    refine r_lastoren (4) rfl dX12_asks_81 (by exact k_179 hF4) (vin (j := 4) (by omega) (by omega)) ?_
    rw [capT_a (j := nI 4) (by decide)]
    have hA5 := asN hA4
    have sx5 := sx4.l (a := 179) (k := 4) (v := capT (nI 4) (T (cut N) 4)) (by omega) (by omega)
    have hNx5 : ∀ i, i < 10 → ldL (stL M4 179 4 (capT (nI 4) (T (cut N) 4))) 178 i = N i := fun i hi => asM.trans (hNx4 i hi)
    have hF5 := sx5.1.F hI.1
    change Wp g mX12_asks _ _ _ _ _ _ (stL M4 179 4 (capT (nI 4) (T (cut N) 4))) Q
    generalize stL M4 179 4 (capT (nI 4) (T (cut N) 4)) = M5 at hA5 sx5 hNx5 hF5 ⊢
    refine ic_2 (1) dX12_asks_82 rfl rfl (Nat.le_of_ble_eq_true rfl) ?_
    refine r_goto 35 dX12_asks_85 rfl ?_
    rw [show ((4 : Int32) + 1) = 5 from rfl]
    refine r_iload_n dX12_asks_35 rfl ?_
    refine r_bipush (8) dX12_asks_36 rfl ?_
    refine r_icmp_ge 88 dX12_asks_38 rfl (fun hz => absurd hz (by decide)) (fun _ => ?_)
    refine r_aload_n dX12_asks_41 rfl ?_
    refine r_getRc dX12_asks_42 fgX12_31 rfl (by exact k_167 hF5) (by exact r_167_17 hF5) ?_
    refine r_iload_n dX12_asks_45 rfl ?_
    refine r_aload_n dX12_asks_46 rfl ?_
    refine r_getRc dX12_asks_47 fgX12_31 rfl (by exact k_167 hF5) (by exact r_167_17 hF5) ?_
    refine r_iload_n dX12_asks_50 rfl ?_
    refine r_laloadc (T (cut N) 5) dX12_asks_51 (by exact k_179 hF5) (vin (j := 5) (by omega) (by omega)) (by exact (hA5 5 (by omega)).trans (if_neg (by omega))) ?_
    refine r_lconst (0) dX12_asks_52 rfl ?_
    refine r_iload_n dX12_asks_53 rfl ?_
    refine r_iconst (3) dX12_asks_54 rfl ?_
    refine r_icmp_eq 69 dX12_asks_55 rfl (fun hz => absurd hz (by decide)) (fun _ => ?_)
    refine r_iload_n dX12_asks_58 rfl ?_
    refine r_iconst (4) dX12_asks_59 rfl ?_
    refine r_icmp_eq 69 dX12_asks_60 rfl (fun hz => absurd hz (by decide)) (fun _ => ?_)
    refine r_iload_n dX12_asks_63 rfl ?_
    refine r_bipush (7) dX12_asks_64 rfl ?_
    refine r_icmp_ne 75 dX12_asks_66 rfl (fun _ => ?_) (fun hz => absurd hz (by decide))
    refine r_ldc2 (1000000000) dX12_asks_75 ctX12_229 ?_
    refine r_callS3 (d1 := 0) (c1 := 0) (n1 := 0) dX12_asks_78 msX12_231 rfl (Nat.le_of_ble_eq_true rfl) (by exact Nat.le_of_ble_eq_true rfl) ?_
    refine S_X12_within ?_
    show Wp g mX12_asks _ _ _ 81 _ (_ :: _) _ Q
    refine r_lastoren (5) rfl dX12_asks_81 (by exact k_179 hF5) (vin (j := 5) (by omega) (by omega)) ?_
    rw [capT_b (j := nI 5) (by decide)]
    have hA6 := asN hA5
    have sx6 := sx5.l (a := 179) (k := 5) (v := capT (nI 5) (T (cut N) 5)) (by omega) (by omega)
    have hNx6 : ∀ i, i < 10 → ldL (stL M5 179 5 (capT (nI 5) (T (cut N) 5))) 178 i = N i := fun i hi => asM.trans (hNx5 i hi)
    have hF6 := sx6.1.F hI.1
    change Wp g mX12_asks _ _ _ _ _ _ (stL M5 179 5 (capT (nI 5) (T (cut N) 5))) Q
    generalize stL M5 179 5 (capT (nI 5) (T (cut N) 5)) = M6 at hA6 sx6 hNx6 hF6 ⊢
    refine ic_2 (1) dX12_asks_82 rfl rfl (Nat.le_of_ble_eq_true rfl) ?_
    refine r_goto 35 dX12_asks_85 rfl ?_
    rw [show ((5 : Int32) + 1) = 6 from rfl]
    refine r_iload_n dX12_asks_35 rfl ?_
    refine r_bipush (8) dX12_asks_36 rfl ?_
    refine r_icmp_ge 88 dX12_asks_38 rfl (fun hz => absurd hz (by decide)) (fun _ => ?_)
    refine r_aload_n dX12_asks_41 rfl ?_
    refine r_getRc dX12_asks_42 fgX12_31 rfl (by exact k_167 hF6) (by exact r_167_17 hF6) ?_
    refine r_iload_n dX12_asks_45 rfl ?_
    refine r_aload_n dX12_asks_46 rfl ?_
    refine r_getRc dX12_asks_47 fgX12_31 rfl (by exact k_167 hF6) (by exact r_167_17 hF6) ?_
    refine r_iload_n dX12_asks_50 rfl ?_
    refine r_laloadc (T (cut N) 6) dX12_asks_51 (by exact k_179 hF6) (vin (j := 6) (by omega) (by omega)) (by exact (hA6 6 (by omega)).trans (if_neg (by omega))) ?_
    refine r_lconst (0) dX12_asks_52 rfl ?_
    refine r_iload_n dX12_asks_53 rfl ?_
    refine r_iconst (3) dX12_asks_54 rfl ?_
    refine r_icmp_eq 69 dX12_asks_55 rfl (fun hz => absurd hz (by decide)) (fun _ => ?_)
    refine r_iload_n dX12_asks_58 rfl ?_
    refine r_iconst (4) dX12_asks_59 rfl ?_
    refine r_icmp_eq 69 dX12_asks_60 rfl (fun hz => absurd hz (by decide)) (fun _ => ?_)
    refine r_iload_n dX12_asks_63 rfl ?_
    refine r_bipush (7) dX12_asks_64 rfl ?_
    refine r_icmp_ne 75 dX12_asks_66 rfl (fun _ => ?_) (fun hz => absurd hz (by decide))
    refine r_ldc2 (1000000000) dX12_asks_75 ctX12_229 ?_
    refine r_callS3 (d1 := 0) (c1 := 0) (n1 := 0) dX12_asks_78 msX12_231 rfl (Nat.le_of_ble_eq_true rfl) (by exact Nat.le_of_ble_eq_true rfl) ?_
    refine S_X12_within ?_
    show Wp g mX12_asks _ _ _ 81 _ (_ :: _) _ Q
    refine r_lastoren (6) rfl dX12_asks_81 (by exact k_179 hF6) (vin (j := 6) (by omega) (by omega)) ?_
    rw [capT_b (j := nI 6) (by decide)]
    have hA7 := asN hA6
    have sx7 := sx6.l (a := 179) (k := 6) (v := capT (nI 6) (T (cut N) 6)) (by omega) (by omega)
    have hNx7 : ∀ i, i < 10 → ldL (stL M6 179 6 (capT (nI 6) (T (cut N) 6))) 178 i = N i := fun i hi => asM.trans (hNx6 i hi)
    have hF7 := sx7.1.F hI.1
    change Wp g mX12_asks _ _ _ _ _ _ (stL M6 179 6 (capT (nI 6) (T (cut N) 6))) Q
    generalize stL M6 179 6 (capT (nI 6) (T (cut N) 6)) = M7 at hA7 sx7 hNx7 hF7 ⊢
    refine ic_2 (1) dX12_asks_82 rfl rfl (Nat.le_of_ble_eq_true rfl) ?_
    refine r_goto 35 dX12_asks_85 rfl ?_
    rw [show ((6 : Int32) + 1) = 7 from rfl]
    refine r_iload_n dX12_asks_35 rfl ?_
    refine r_bipush (8) dX12_asks_36 rfl ?_
    refine r_icmp_ge 88 dX12_asks_38 rfl (fun hz => absurd hz (by decide)) (fun _ => ?_)
    refine r_aload_n dX12_asks_41 rfl ?_
    refine r_getRc dX12_asks_42 fgX12_31 rfl (by exact k_167 hF7) (by exact r_167_17 hF7) ?_
    refine r_iload_n dX12_asks_45 rfl ?_
    refine r_aload_n dX12_asks_46 rfl ?_
    refine r_getRc dX12_asks_47 fgX12_31 rfl (by exact k_167 hF7) (by exact r_167_17 hF7) ?_
    refine r_iload_n dX12_asks_50 rfl ?_
    refine r_laloadc (T (cut N) 7) dX12_asks_51 (by exact k_179 hF7) (vin (j := 7) (by omega) (by omega)) (by exact (hA7 7 (by omega)).trans (if_neg (by omega))) ?_
    refine r_lconst (0) dX12_asks_52 rfl ?_
    refine r_iload_n dX12_asks_53 rfl ?_
    refine r_iconst (3) dX12_asks_54 rfl ?_
    refine r_icmp_eq 69 dX12_asks_55 rfl (fun hz => absurd hz (by decide)) (fun _ => ?_)
    refine r_iload_n dX12_asks_58 rfl ?_
    refine r_iconst (4) dX12_asks_59 rfl ?_
    refine r_icmp_eq 69 dX12_asks_60 rfl (fun hz => absurd hz (by decide)) (fun _ => ?_)
    refine r_iload_n dX12_asks_63 rfl ?_
    refine r_bipush (7) dX12_asks_64 rfl ?_
    refine r_icmp_ne 75 dX12_asks_66 rfl (fun hz => absurd hz (by decide)) (fun _ => ?_)
    refine r_ldc2 (10000) dX12_asks_69 ctX12_99 ?_
    refine r_goto 78 dX12_asks_72 rfl ?_
    refine r_callS3 (d1 := 0) (c1 := 0) (n1 := 0) dX12_asks_78 msX12_231 rfl (Nat.le_of_ble_eq_true rfl) (by exact Nat.le_of_ble_eq_true rfl) ?_
    refine S_X12_within ?_
    show Wp g mX12_asks _ _ _ 81 _ (_ :: _) _ Q
    refine r_lastoren (7) rfl dX12_asks_81 (by exact k_179 hF7) (vin (j := 7) (by omega) (by omega)) ?_
    rw [capT_a (j := nI 7) (by decide)]
    have hA8 := asN hA7
    have sx8 := sx7.l (a := 179) (k := 7) (v := capT (nI 7) (T (cut N) 7)) (by omega) (by omega)
    have hNx8 : ∀ i, i < 10 → ldL (stL M7 179 7 (capT (nI 7) (T (cut N) 7))) 178 i = N i := fun i hi => asM.trans (hNx7 i hi)
    have hF8 := sx8.1.F hI.1
    change Wp g mX12_asks _ _ _ _ _ _ (stL M7 179 7 (capT (nI 7) (T (cut N) 7))) Q
    generalize stL M7 179 7 (capT (nI 7) (T (cut N) 7)) = M8 at hA8 sx8 hNx8 hF8 ⊢
    refine ic_2 (1) dX12_asks_82 rfl rfl (Nat.le_of_ble_eq_true rfl) ?_
    refine r_goto 35 dX12_asks_85 rfl ?_
    rw [show ((7 : Int32) + 1) = 8 from rfl]
    refine r_iload_n dX12_asks_35 rfl ?_
    refine r_bipush (8) dX12_asks_36 rfl ?_
    refine r_icmp_ge 88 dX12_asks_38 rfl (fun _ => ?_) (fun hz => absurd hz (by decide))
    refine r_return dX12_asks_88 rfl ?_
    exact k M8 sx8 hNx8 (fun j hj => (hA8 j hj).trans (if_pos hj))
  ·
    exact absurd (nI_le (b := 3) (by omega) (by omega)) h3
theorem S_asks1 {g : GG} {m : MM} {Q : Out → Prop} {f : Nat → Int32} {fs : Nat → Nat → Int32} {ic : Nat} {tp : Nat → Int32} {tn : Nat} {pl : Int32} {n1 n2 : Nat} {ts : Nat → (Nat → Int32) × Nat} (hI : RI f fs ic tp tn pl n1 n2 ts m) {l : Nat} (hl : 4 ≤ l ∧ l < 4 + n2) {st : List Int32} {T : TL} (hx : texP (ts l).1 (ts l).2 true = .inr (st, T)) {N : Nat → Int64} (hN : ∀ j, j < 10 → ldL m 178 j = N j) (k : ∀ m', Sw m m' → (∀ j, j < 10 → ldL m' 178 j = N j) → (∀ j, j < 8 → ldL m' 179 j = capT (nI j) (T (cut N) j)) → Q (.inl none, m')) : Cl g 32 0 0 mX12_asks [.ref 167, .int (nI l)] m Q := by
  have hF := hI.1
  have h4 := hI.2.2.2.2.2.1.2
  have h3 := hI.2.2.2.2.2.2.1.2
  obtain ⟨x1, x2, x3⟩ := hI.2.2.2.2.2.2.2 l (by omega)
  have l7 : l < 7 := by omega
  refine Cl.of rfl (by decide) (Nat.le_of_ble_eq_true rfl) ?_
  show Wp g mX12_asks 32 0 0 0 [.ref 167, .int (nI l), .retAddr 0] [] m Q
  refine r_aload_n dX12_asks_0 rfl ?_
  refine r_iload_n dX12_asks_1 rfl ?_
  refine r_putI dX12_asks_2 (fpX12_114 _ rfl) rfl (by exact k_167 hF) ⟨rfl, rfl⟩ ?_
  refine r_aload_n dX12_asks_5 rfl ?_
  refine r_aload_n dX12_asks_6 rfl ?_
  refine r_getRc dX12_asks_7 fgX12_24 rfl (by exact k_167 hF) (by exact r_167_12 hF) ?_
  refine r_iload_n dX12_asks_10 rfl ?_
  refine r_ialoadc (nI (ts l).2) dX12_asks_11 (by exact k_177 hF) (vin (by omega) (by omega)) (by rw [nI_cl _ (by omega)]; exact ld_n (by omega) x1) ?_
  refine r_putI dX12_asks_12 (fpX12_111 _ rfl) rfl (by exact k_167 hF) ⟨rfl, rfl⟩ ?_
  refine r_aload_n dX12_asks_15 rfl ?_
  refine r_iload_n dX12_asks_16 rfl ?_
  refine r_iconst (3) dX12_asks_17 rfl ?_
  refine r_icmp_le 25 dX12_asks_18 rfl (fun h3 => ?_) (fun h3 => ?_)
  ·
    exact absurd h3 (nI_nle9 (by omega))
  ·
    refine r_iconst (1) dX12_asks_21 rfl ?_
    refine r_goto 26 dX12_asks_22 rfl ?_
    refine r_putI dX12_asks_26 (fpX12_207 _ rfl) rfl (by exact k_167 hF) ⟨rfl, rfl⟩ ?_
    have s0 : Sw m (stI (stI (stI m 167 8 (nI l)) 167 2 (nI (ts l).2)) 167 15 1) := ((Sw.rf.s (by unfold scS; omega) (by decide)).s (by unfold scS; omega) (by decide)).s (by unfold scS; omega) (by decide)
    have hTx : TxB (ts l).1 (ts l).2 (stI (stI (stI m 167 8 (nI l)) 167 2 (nI (ts l).2)) 167 15 1) := ⟨Fx_of (m := m) rfl hF, x2, fun j hj => (x3 j hj).2, ld_n (by decide) ld_s, Or.inr ⟨l, l7, ld_n (by decide) (ld_n (by decide) ld_s), fun k hk => ld_n (by omega) (ld_n (by omega) (ld_n (by omega) (x3 k hk).1))⟩⟩
    have n0 : ∀ j, j < 10 → ldL (stI (stI (stI m 167 8 (nI l)) 167 2 (nI (ts l).2)) 167 15 1) 178 j = N j := hN
    refine r_aload_n dX12_asks_29 rfl ?_
    refine r_callV0 (ci := 12) (d1 := 31) (c1 := 0) (n1 := 0) dX12_asks_30 mvX12_226 rfl ⟨(Nat.le_of_ble_eq_true rfl), rfl⟩ (Nat.le_of_ble_eq_true rfl) (by exact Nat.le_of_ble_eq_true rfl) (by exact k_167 hF) ?_
    refine S_walks1 hTx n0 ld_s (fun e he => absurd (hx.symm.trans he) (by intro q; cases q)) (fun r hr m1 s1 f6 f7 hN1 ht1 => ?_)
    obtain rfl : (st, T) = r := Sum.inr.inj (hx.symm.trans hr)
    have hF := s1.1.F hTx.1
    have s2 := s0.tr s1
    have hA0 : ∀ i, i < 8 → ldL m1 179 i = if i < 0 then capT (nI i) (T (cut N) i) else T (cut N) i := fun i hi => (ht1 i hi).trans (if_neg (by omega)).symm
    show Wp g mX12_asks _ _ _ 33 _ [] _ Q
    refine r_iconst (0) dX12_asks_33 rfl ?_
    refine si_2 dX12_asks_34 rfl (Nat.le_of_ble_eq_true rfl) ?_
    refine r_iload_n dX12_asks_35 rfl ?_
    refine r_bipush (8) dX12_asks_36 rfl ?_
    refine r_icmp_ge 88 dX12_asks_38 rfl (fun hz => absurd hz (by decide)) (fun _ => ?_)
    refine r_aload_n dX12_asks_41 rfl ?_
    refine r_getRc dX12_asks_42 fgX12_31 rfl (by exact k_167 hF) (by exact r_167_17 hF) ?_
    refine r_iload_n dX12_asks_45 rfl ?_
    refine r_aload_n dX12_asks_46 rfl ?_
    refine r_getRc dX12_asks_47 fgX12_31 rfl (by exact k_167 hF) (by exact r_167_17 hF) ?_
    refine r_iload_n dX12_asks_50 rfl ?_
    refine r_laloadc (T (cut N) 0) dX12_asks_51 (by exact k_179 hF) (vin (j := 0) (by omega) (by omega)) (by exact (hA0 0 (by omega)).trans (if_neg (by omega))) ?_
    refine r_lconst (0) dX12_asks_52 rfl ?_
    refine r_iload_n dX12_asks_53 rfl ?_
    refine r_iconst (3) dX12_asks_54 rfl ?_
    refine r_icmp_eq 69 dX12_asks_55 rfl (fun hz => absurd hz (by decide)) (fun _ => ?_)
    refine r_iload_n dX12_asks_58 rfl ?_
    refine r_iconst (4) dX12_asks_59 rfl ?_
    refine r_icmp_eq 69 dX12_asks_60 rfl (fun hz => absurd hz (by decide)) (fun _ => ?_)
    refine r_iload_n dX12_asks_63 rfl ?_
    refine r_bipush (7) dX12_asks_64 rfl ?_
    refine r_icmp_ne 75 dX12_asks_66 rfl (fun _ => ?_) (fun hz => absurd hz (by decide))
    refine r_ldc2 (1000000000) dX12_asks_75 ctX12_229 ?_
    refine r_callS3 (d1 := 0) (c1 := 0) (n1 := 0) dX12_asks_78 msX12_231 rfl (Nat.le_of_ble_eq_true rfl) (by exact Nat.le_of_ble_eq_true rfl) ?_
    refine S_X12_within ?_
    show Wp g mX12_asks _ _ _ 81 _ (_ :: _) _ Q
    refine r_lastoren (0) rfl dX12_asks_81 (by exact k_179 hF) (vin (j := 0) (by omega) (by omega)) ?_
    rw [capT_b (j := nI 0) (by decide)]
    have hA1 := asN hA0
    have sx1 := s2.l (a := 179) (k := 0) (v := capT (nI 0) (T (cut N) 0)) (by omega) (by omega)
    have hNx1 : ∀ i, i < 10 → ldL (stL m1 179 0 (capT (nI 0) (T (cut N) 0))) 178 i = N i := fun i hi => asM.trans (hN1 i hi)
    have hF1 := sx1.1.F hI.1
    change Wp g mX12_asks _ _ _ _ _ _ (stL m1 179 0 (capT (nI 0) (T (cut N) 0))) Q
    generalize stL m1 179 0 (capT (nI 0) (T (cut N) 0)) = M1 at hA1 sx1 hNx1 hF1 ⊢
    refine ic_2 (1) dX12_asks_82 rfl rfl (Nat.le_of_ble_eq_true rfl) ?_
    refine r_goto 35 dX12_asks_85 rfl ?_
    rw [show ((0 : Int32) + 1) = 1 from rfl]
    refine r_iload_n dX12_asks_35 rfl ?_
    refine r_bipush (8) dX12_asks_36 rfl ?_
    refine r_icmp_ge 88 dX12_asks_38 rfl (fun hz => absurd hz (by decide)) (fun _ => ?_)
    refine r_aload_n dX12_asks_41 rfl ?_
    refine r_getRc dX12_asks_42 fgX12_31 rfl (by exact k_167 hF1) (by exact r_167_17 hF1) ?_
    refine r_iload_n dX12_asks_45 rfl ?_
    refine r_aload_n dX12_asks_46 rfl ?_
    refine r_getRc dX12_asks_47 fgX12_31 rfl (by exact k_167 hF1) (by exact r_167_17 hF1) ?_
    refine r_iload_n dX12_asks_50 rfl ?_
    refine r_laloadc (T (cut N) 1) dX12_asks_51 (by exact k_179 hF1) (vin (j := 1) (by omega) (by omega)) (by exact (hA1 1 (by omega)).trans (if_neg (by omega))) ?_
    refine r_lconst (0) dX12_asks_52 rfl ?_
    refine r_iload_n dX12_asks_53 rfl ?_
    refine r_iconst (3) dX12_asks_54 rfl ?_
    refine r_icmp_eq 69 dX12_asks_55 rfl (fun hz => absurd hz (by decide)) (fun _ => ?_)
    refine r_iload_n dX12_asks_58 rfl ?_
    refine r_iconst (4) dX12_asks_59 rfl ?_
    refine r_icmp_eq 69 dX12_asks_60 rfl (fun hz => absurd hz (by decide)) (fun _ => ?_)
    refine r_iload_n dX12_asks_63 rfl ?_
    refine r_bipush (7) dX12_asks_64 rfl ?_
    refine r_icmp_ne 75 dX12_asks_66 rfl (fun _ => ?_) (fun hz => absurd hz (by decide))
    refine r_ldc2 (1000000000) dX12_asks_75 ctX12_229 ?_
    refine r_callS3 (d1 := 0) (c1 := 0) (n1 := 0) dX12_asks_78 msX12_231 rfl (Nat.le_of_ble_eq_true rfl) (by exact Nat.le_of_ble_eq_true rfl) ?_
    refine S_X12_within ?_
    show Wp g mX12_asks _ _ _ 81 _ (_ :: _) _ Q
    refine r_lastoren (1) rfl dX12_asks_81 (by exact k_179 hF1) (vin (j := 1) (by omega) (by omega)) ?_
    rw [capT_b (j := nI 1) (by decide)]
    have hA2 := asN hA1
    have sx2 := sx1.l (a := 179) (k := 1) (v := capT (nI 1) (T (cut N) 1)) (by omega) (by omega)
    have hNx2 : ∀ i, i < 10 → ldL (stL M1 179 1 (capT (nI 1) (T (cut N) 1))) 178 i = N i := fun i hi => asM.trans (hNx1 i hi)
    have hF2 := sx2.1.F hI.1
    change Wp g mX12_asks _ _ _ _ _ _ (stL M1 179 1 (capT (nI 1) (T (cut N) 1))) Q
    generalize stL M1 179 1 (capT (nI 1) (T (cut N) 1)) = M2 at hA2 sx2 hNx2 hF2 ⊢
    refine ic_2 (1) dX12_asks_82 rfl rfl (Nat.le_of_ble_eq_true rfl) ?_
    refine r_goto 35 dX12_asks_85 rfl ?_
    rw [show ((1 : Int32) + 1) = 2 from rfl]
    refine r_iload_n dX12_asks_35 rfl ?_
    refine r_bipush (8) dX12_asks_36 rfl ?_
    refine r_icmp_ge 88 dX12_asks_38 rfl (fun hz => absurd hz (by decide)) (fun _ => ?_)
    refine r_aload_n dX12_asks_41 rfl ?_
    refine r_getRc dX12_asks_42 fgX12_31 rfl (by exact k_167 hF2) (by exact r_167_17 hF2) ?_
    refine r_iload_n dX12_asks_45 rfl ?_
    refine r_aload_n dX12_asks_46 rfl ?_
    refine r_getRc dX12_asks_47 fgX12_31 rfl (by exact k_167 hF2) (by exact r_167_17 hF2) ?_
    refine r_iload_n dX12_asks_50 rfl ?_
    refine r_laloadc (T (cut N) 2) dX12_asks_51 (by exact k_179 hF2) (vin (j := 2) (by omega) (by omega)) (by exact (hA2 2 (by omega)).trans (if_neg (by omega))) ?_
    refine r_lconst (0) dX12_asks_52 rfl ?_
    refine r_iload_n dX12_asks_53 rfl ?_
    refine r_iconst (3) dX12_asks_54 rfl ?_
    refine r_icmp_eq 69 dX12_asks_55 rfl (fun hz => absurd hz (by decide)) (fun _ => ?_)
    refine r_iload_n dX12_asks_58 rfl ?_
    refine r_iconst (4) dX12_asks_59 rfl ?_
    refine r_icmp_eq 69 dX12_asks_60 rfl (fun hz => absurd hz (by decide)) (fun _ => ?_)
    refine r_iload_n dX12_asks_63 rfl ?_
    refine r_bipush (7) dX12_asks_64 rfl ?_
    refine r_icmp_ne 75 dX12_asks_66 rfl (fun _ => ?_) (fun hz => absurd hz (by decide))
    refine r_ldc2 (1000000000) dX12_asks_75 ctX12_229 ?_
    refine r_callS3 (d1 := 0) (c1 := 0) (n1 := 0) dX12_asks_78 msX12_231 rfl (Nat.le_of_ble_eq_true rfl) (by exact Nat.le_of_ble_eq_true rfl) ?_
    refine S_X12_within ?_
    show Wp g mX12_asks _ _ _ 81 _ (_ :: _) _ Q
    refine r_lastoren (2) rfl dX12_asks_81 (by exact k_179 hF2) (vin (j := 2) (by omega) (by omega)) ?_
    rw [capT_b (j := nI 2) (by decide)]
    have hA3 := asN hA2
    have sx3 := sx2.l (a := 179) (k := 2) (v := capT (nI 2) (T (cut N) 2)) (by omega) (by omega)
    have hNx3 : ∀ i, i < 10 → ldL (stL M2 179 2 (capT (nI 2) (T (cut N) 2))) 178 i = N i := fun i hi => asM.trans (hNx2 i hi)
    have hF3 := sx3.1.F hI.1
    change Wp g mX12_asks _ _ _ _ _ _ (stL M2 179 2 (capT (nI 2) (T (cut N) 2))) Q
    generalize stL M2 179 2 (capT (nI 2) (T (cut N) 2)) = M3 at hA3 sx3 hNx3 hF3 ⊢
    refine ic_2 (1) dX12_asks_82 rfl rfl (Nat.le_of_ble_eq_true rfl) ?_
    refine r_goto 35 dX12_asks_85 rfl ?_
    rw [show ((2 : Int32) + 1) = 3 from rfl]
    refine r_iload_n dX12_asks_35 rfl ?_
    refine r_bipush (8) dX12_asks_36 rfl ?_
    refine r_icmp_ge 88 dX12_asks_38 rfl (fun hz => absurd hz (by decide)) (fun _ => ?_)
    refine r_aload_n dX12_asks_41 rfl ?_
    refine r_getRc dX12_asks_42 fgX12_31 rfl (by exact k_167 hF3) (by exact r_167_17 hF3) ?_
    refine r_iload_n dX12_asks_45 rfl ?_
    refine r_aload_n dX12_asks_46 rfl ?_
    refine r_getRc dX12_asks_47 fgX12_31 rfl (by exact k_167 hF3) (by exact r_167_17 hF3) ?_
    refine r_iload_n dX12_asks_50 rfl ?_
    refine r_laloadc (T (cut N) 3) dX12_asks_51 (by exact k_179 hF3) (vin (j := 3) (by omega) (by omega)) (by exact (hA3 3 (by omega)).trans (if_neg (by omega))) ?_
    refine r_lconst (0) dX12_asks_52 rfl ?_
    refine r_iload_n dX12_asks_53 rfl ?_
    refine r_iconst (3) dX12_asks_54 rfl ?_
    refine r_icmp_eq 69 dX12_asks_55 rfl (fun _ => ?_) (fun hz => absurd hz (by decide))
    refine r_ldc2 (10000) dX12_asks_69 ctX12_99 ?_
    refine r_goto 78 dX12_asks_72 rfl ?_
    refine r_callS3 (d1 := 0) (c1 := 0) (n1 := 0) dX12_asks_78 msX12_231 rfl (Nat.le_of_ble_eq_true rfl) (by exact Nat.le_of_ble_eq_true rfl) ?_
    refine S_X12_within ?_
    show Wp g mX12_asks _ _ _ 81 _ (_ :: _) _ Q
    refine r_lastoren (3) rfl dX12_asks_81 (by exact k_179 hF3) (vin (j := 3) (by omega) (by omega)) ?_
    rw [capT_a (j := nI 3) (by decide)]
    have hA4 := asN hA3
    have sx4 := sx3.l (a := 179) (k := 3) (v := capT (nI 3) (T (cut N) 3)) (by omega) (by omega)
    have hNx4 : ∀ i, i < 10 → ldL (stL M3 179 3 (capT (nI 3) (T (cut N) 3))) 178 i = N i := fun i hi => asM.trans (hNx3 i hi)
    have hF4 := sx4.1.F hI.1
    change Wp g mX12_asks _ _ _ _ _ _ (stL M3 179 3 (capT (nI 3) (T (cut N) 3))) Q
    generalize stL M3 179 3 (capT (nI 3) (T (cut N) 3)) = M4 at hA4 sx4 hNx4 hF4 ⊢
    refine ic_2 (1) dX12_asks_82 rfl rfl (Nat.le_of_ble_eq_true rfl) ?_
    refine r_goto 35 dX12_asks_85 rfl ?_
    rw [show ((3 : Int32) + 1) = 4 from rfl]
    refine r_iload_n dX12_asks_35 rfl ?_
    refine r_bipush (8) dX12_asks_36 rfl ?_
    refine r_icmp_ge 88 dX12_asks_38 rfl (fun hz => absurd hz (by decide)) (fun _ => ?_)
    refine r_aload_n dX12_asks_41 rfl ?_
    refine r_getRc dX12_asks_42 fgX12_31 rfl (by exact k_167 hF4) (by exact r_167_17 hF4) ?_
    refine r_iload_n dX12_asks_45 rfl ?_
    refine r_aload_n dX12_asks_46 rfl ?_
    refine r_getRc dX12_asks_47 fgX12_31 rfl (by exact k_167 hF4) (by exact r_167_17 hF4) ?_
    refine r_iload_n dX12_asks_50 rfl ?_
    refine r_laloadc (T (cut N) 4) dX12_asks_51 (by exact k_179 hF4) (vin (j := 4) (by omega) (by omega)) (by exact (hA4 4 (by omega)).trans (if_neg (by omega))) ?_
    refine r_lconst (0) dX12_asks_52 rfl ?_
    refine r_iload_n dX12_asks_53 rfl ?_
    refine r_iconst (3) dX12_asks_54 rfl ?_
    refine r_icmp_eq 69 dX12_asks_55 rfl (fun hz => absurd hz (by decide)) (fun _ => ?_)
    refine r_iload_n dX12_asks_58 rfl ?_
    refine r_iconst (4) dX12_asks_59 rfl ?_
    refine r_icmp_eq 69 dX12_asks_60 rfl (fun _ => ?_) (fun hz => absurd hz (by decide))
    refine r_ldc2 (10000) dX12_asks_69 ctX12_99 ?_
    refine r_goto 78 dX12_asks_72 rfl ?_
    refine r_callS3 (d1 := 0) (c1 := 0) (n1 := 0) dX12_asks_78 msX12_231 rfl (Nat.le_of_ble_eq_true rfl) (by exact Nat.le_of_ble_eq_true rfl) ?_
    refine S_X12_within ?_
    show Wp g mX12_asks _ _ _ 81 _ (_ :: _) _ Q
    refine r_lastoren (4) rfl dX12_asks_81 (by exact k_179 hF4) (vin (j := 4) (by omega) (by omega)) ?_
    rw [capT_a (j := nI 4) (by decide)]
    have hA5 := asN hA4
    have sx5 := sx4.l (a := 179) (k := 4) (v := capT (nI 4) (T (cut N) 4)) (by omega) (by omega)
    have hNx5 : ∀ i, i < 10 → ldL (stL M4 179 4 (capT (nI 4) (T (cut N) 4))) 178 i = N i := fun i hi => asM.trans (hNx4 i hi)
    have hF5 := sx5.1.F hI.1
    change Wp g mX12_asks _ _ _ _ _ _ (stL M4 179 4 (capT (nI 4) (T (cut N) 4))) Q
    generalize stL M4 179 4 (capT (nI 4) (T (cut N) 4)) = M5 at hA5 sx5 hNx5 hF5 ⊢
    refine ic_2 (1) dX12_asks_82 rfl rfl (Nat.le_of_ble_eq_true rfl) ?_
    refine r_goto 35 dX12_asks_85 rfl ?_
    rw [show ((4 : Int32) + 1) = 5 from rfl]
    refine r_iload_n dX12_asks_35 rfl ?_
    refine r_bipush (8) dX12_asks_36 rfl ?_
    refine r_icmp_ge 88 dX12_asks_38 rfl (fun hz => absurd hz (by decide)) (fun _ => ?_)
    refine r_aload_n dX12_asks_41 rfl ?_
    refine r_getRc dX12_asks_42 fgX12_31 rfl (by exact k_167 hF5) (by exact r_167_17 hF5) ?_
    refine r_iload_n dX12_asks_45 rfl ?_
    refine r_aload_n dX12_asks_46 rfl ?_
    refine r_getRc dX12_asks_47 fgX12_31 rfl (by exact k_167 hF5) (by exact r_167_17 hF5) ?_
    refine r_iload_n dX12_asks_50 rfl ?_
    refine r_laloadc (T (cut N) 5) dX12_asks_51 (by exact k_179 hF5) (vin (j := 5) (by omega) (by omega)) (by exact (hA5 5 (by omega)).trans (if_neg (by omega))) ?_
    refine r_lconst (0) dX12_asks_52 rfl ?_
    refine r_iload_n dX12_asks_53 rfl ?_
    refine r_iconst (3) dX12_asks_54 rfl ?_
    refine r_icmp_eq 69 dX12_asks_55 rfl (fun hz => absurd hz (by decide)) (fun _ => ?_)
    refine r_iload_n dX12_asks_58 rfl ?_
    refine r_iconst (4) dX12_asks_59 rfl ?_
    refine r_icmp_eq 69 dX12_asks_60 rfl (fun hz => absurd hz (by decide)) (fun _ => ?_)
    refine r_iload_n dX12_asks_63 rfl ?_
    refine r_bipush (7) dX12_asks_64 rfl ?_
    refine r_icmp_ne 75 dX12_asks_66 rfl (fun _ => ?_) (fun hz => absurd hz (by decide))
    refine r_ldc2 (1000000000) dX12_asks_75 ctX12_229 ?_
    refine r_callS3 (d1 := 0) (c1 := 0) (n1 := 0) dX12_asks_78 msX12_231 rfl (Nat.le_of_ble_eq_true rfl) (by exact Nat.le_of_ble_eq_true rfl) ?_
    refine S_X12_within ?_
    show Wp g mX12_asks _ _ _ 81 _ (_ :: _) _ Q
    refine r_lastoren (5) rfl dX12_asks_81 (by exact k_179 hF5) (vin (j := 5) (by omega) (by omega)) ?_
    rw [capT_b (j := nI 5) (by decide)]
    have hA6 := asN hA5
    have sx6 := sx5.l (a := 179) (k := 5) (v := capT (nI 5) (T (cut N) 5)) (by omega) (by omega)
    have hNx6 : ∀ i, i < 10 → ldL (stL M5 179 5 (capT (nI 5) (T (cut N) 5))) 178 i = N i := fun i hi => asM.trans (hNx5 i hi)
    have hF6 := sx6.1.F hI.1
    change Wp g mX12_asks _ _ _ _ _ _ (stL M5 179 5 (capT (nI 5) (T (cut N) 5))) Q
    generalize stL M5 179 5 (capT (nI 5) (T (cut N) 5)) = M6 at hA6 sx6 hNx6 hF6 ⊢
    refine ic_2 (1) dX12_asks_82 rfl rfl (Nat.le_of_ble_eq_true rfl) ?_
    refine r_goto 35 dX12_asks_85 rfl ?_
    rw [show ((5 : Int32) + 1) = 6 from rfl]
    refine r_iload_n dX12_asks_35 rfl ?_
    refine r_bipush (8) dX12_asks_36 rfl ?_
    refine r_icmp_ge 88 dX12_asks_38 rfl (fun hz => absurd hz (by decide)) (fun _ => ?_)
    refine r_aload_n dX12_asks_41 rfl ?_
    refine r_getRc dX12_asks_42 fgX12_31 rfl (by exact k_167 hF6) (by exact r_167_17 hF6) ?_
    refine r_iload_n dX12_asks_45 rfl ?_
    refine r_aload_n dX12_asks_46 rfl ?_
    refine r_getRc dX12_asks_47 fgX12_31 rfl (by exact k_167 hF6) (by exact r_167_17 hF6) ?_
    refine r_iload_n dX12_asks_50 rfl ?_
    refine r_laloadc (T (cut N) 6) dX12_asks_51 (by exact k_179 hF6) (vin (j := 6) (by omega) (by omega)) (by exact (hA6 6 (by omega)).trans (if_neg (by omega))) ?_
    refine r_lconst (0) dX12_asks_52 rfl ?_
    refine r_iload_n dX12_asks_53 rfl ?_
    refine r_iconst (3) dX12_asks_54 rfl ?_
    refine r_icmp_eq 69 dX12_asks_55 rfl (fun hz => absurd hz (by decide)) (fun _ => ?_)
    refine r_iload_n dX12_asks_58 rfl ?_
    refine r_iconst (4) dX12_asks_59 rfl ?_
    refine r_icmp_eq 69 dX12_asks_60 rfl (fun hz => absurd hz (by decide)) (fun _ => ?_)
    refine r_iload_n dX12_asks_63 rfl ?_
    refine r_bipush (7) dX12_asks_64 rfl ?_
    refine r_icmp_ne 75 dX12_asks_66 rfl (fun _ => ?_) (fun hz => absurd hz (by decide))
    refine r_ldc2 (1000000000) dX12_asks_75 ctX12_229 ?_
    refine r_callS3 (d1 := 0) (c1 := 0) (n1 := 0) dX12_asks_78 msX12_231 rfl (Nat.le_of_ble_eq_true rfl) (by exact Nat.le_of_ble_eq_true rfl) ?_
    refine S_X12_within ?_
    show Wp g mX12_asks _ _ _ 81 _ (_ :: _) _ Q
    refine r_lastoren (6) rfl dX12_asks_81 (by exact k_179 hF6) (vin (j := 6) (by omega) (by omega)) ?_
    rw [capT_b (j := nI 6) (by decide)]
    have hA7 := asN hA6
    have sx7 := sx6.l (a := 179) (k := 6) (v := capT (nI 6) (T (cut N) 6)) (by omega) (by omega)
    have hNx7 : ∀ i, i < 10 → ldL (stL M6 179 6 (capT (nI 6) (T (cut N) 6))) 178 i = N i := fun i hi => asM.trans (hNx6 i hi)
    have hF7 := sx7.1.F hI.1
    change Wp g mX12_asks _ _ _ _ _ _ (stL M6 179 6 (capT (nI 6) (T (cut N) 6))) Q
    generalize stL M6 179 6 (capT (nI 6) (T (cut N) 6)) = M7 at hA7 sx7 hNx7 hF7 ⊢
    refine ic_2 (1) dX12_asks_82 rfl rfl (Nat.le_of_ble_eq_true rfl) ?_
    refine r_goto 35 dX12_asks_85 rfl ?_
    rw [show ((6 : Int32) + 1) = 7 from rfl]
    refine r_iload_n dX12_asks_35 rfl ?_
    refine r_bipush (8) dX12_asks_36 rfl ?_
    refine r_icmp_ge 88 dX12_asks_38 rfl (fun hz => absurd hz (by decide)) (fun _ => ?_)
    refine r_aload_n dX12_asks_41 rfl ?_
    refine r_getRc dX12_asks_42 fgX12_31 rfl (by exact k_167 hF7) (by exact r_167_17 hF7) ?_
    refine r_iload_n dX12_asks_45 rfl ?_
    refine r_aload_n dX12_asks_46 rfl ?_
    refine r_getRc dX12_asks_47 fgX12_31 rfl (by exact k_167 hF7) (by exact r_167_17 hF7) ?_
    refine r_iload_n dX12_asks_50 rfl ?_
    refine r_laloadc (T (cut N) 7) dX12_asks_51 (by exact k_179 hF7) (vin (j := 7) (by omega) (by omega)) (by exact (hA7 7 (by omega)).trans (if_neg (by omega))) ?_
    refine r_lconst (0) dX12_asks_52 rfl ?_
    refine r_iload_n dX12_asks_53 rfl ?_
    refine r_iconst (3) dX12_asks_54 rfl ?_
    refine r_icmp_eq 69 dX12_asks_55 rfl (fun hz => absurd hz (by decide)) (fun _ => ?_)
    refine r_iload_n dX12_asks_58 rfl ?_
    refine r_iconst (4) dX12_asks_59 rfl ?_
    refine r_icmp_eq 69 dX12_asks_60 rfl (fun hz => absurd hz (by decide)) (fun _ => ?_)
    refine r_iload_n dX12_asks_63 rfl ?_
    refine r_bipush (7) dX12_asks_64 rfl ?_
    refine r_icmp_ne 75 dX12_asks_66 rfl (fun hz => absurd hz (by decide)) (fun _ => ?_)
    refine r_ldc2 (10000) dX12_asks_69 ctX12_99 ?_
    refine r_goto 78 dX12_asks_72 rfl ?_
    refine r_callS3 (d1 := 0) (c1 := 0) (n1 := 0) dX12_asks_78 msX12_231 rfl (Nat.le_of_ble_eq_true rfl) (by exact Nat.le_of_ble_eq_true rfl) ?_
    refine S_X12_within ?_
    show Wp g mX12_asks _ _ _ 81 _ (_ :: _) _ Q
    refine r_lastoren (7) rfl dX12_asks_81 (by exact k_179 hF7) (vin (j := 7) (by omega) (by omega)) ?_
    rw [capT_a (j := nI 7) (by decide)]
    have hA8 := asN hA7
    have sx8 := sx7.l (a := 179) (k := 7) (v := capT (nI 7) (T (cut N) 7)) (by omega) (by omega)
    have hNx8 : ∀ i, i < 10 → ldL (stL M7 179 7 (capT (nI 7) (T (cut N) 7))) 178 i = N i := fun i hi => asM.trans (hNx7 i hi)
    have hF8 := sx8.1.F hI.1
    change Wp g mX12_asks _ _ _ _ _ _ (stL M7 179 7 (capT (nI 7) (T (cut N) 7))) Q
    generalize stL M7 179 7 (capT (nI 7) (T (cut N) 7)) = M8 at hA8 sx8 hNx8 hF8 ⊢
    refine ic_2 (1) dX12_asks_82 rfl rfl (Nat.le_of_ble_eq_true rfl) ?_
    refine r_goto 35 dX12_asks_85 rfl ?_
    rw [show ((7 : Int32) + 1) = 8 from rfl]
    refine r_iload_n dX12_asks_35 rfl ?_
    refine r_bipush (8) dX12_asks_36 rfl ?_
    refine r_icmp_ge 88 dX12_asks_38 rfl (fun _ => ?_) (fun hz => absurd hz (by decide))
    refine r_return dX12_asks_88 rfl ?_
    exact k M8 sx8 hNx8 (fun j hj => (hA8 j hj).trans (if_pos hj))
