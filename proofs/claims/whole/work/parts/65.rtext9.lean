theorem tk_end {b : Nat → Int32} {n s : Nat} (hb : ∀ j, j < n → iv 0 255 (b j)) : tkP b n s = -1 ↔ n ≤ s := by
  constructor
  · intro h
    refine Nat.le_of_not_lt (fun q => ?_)
    unfold tkP at h
    rw [if_neg (by omega)] at h
    by_cases d2 : isDg (b s) = true
    · rw [if_pos d2] at h; exact absurd h (by decide)
    · rw [if_neg d2] at h
      by_cases d3 : isLt (b s) = true
      · rw [if_pos d3] at h
        rcases wIx_cases (b := b) (s := s) (e := rE b n isLt s) wds 256 (by decide) with y | ⟨j, j1, j2, y⟩
        · rw [y] at h; exact absurd h (by decide)
        · rw [y] at h
          have j3 : j < 281 := j2
          have z := congrArg Int32.toInt h; rw [nI_int j (by omega)] at z; have y : (-1 : Int32).toInt = -1 := rfl; omega
      · rw [if_neg d3] at h
        have := hb s q; unfold iv at this; rw [h] at this; exact absurd this.1 (by decide)
  · exact tkP_end
theorem claP_lt {b : Nat → Int32} {n i s : Nat} {way : Bool} {r : Nat × List Int32 × Int32 × VF × VF} (h : claP b n way i s = .inr r) : i < 16 := by
  unfold claP at h
  obtain ⟨_, h⟩ := if_ok h
  by_cases c : 16 ≤ i
  · rw [if_pos c] at h; cases h
  · omega
theorem T_walkE {g : GG} {m : MM} {Q : Out → Prop} {b : Nat → Int32} {n K d : Nat} {e : Er} (h : RE b n K e m) {x1 : Value} (k : Q (.inl none, m)) : Wp g mX12_walks d 0 0 50 [.ref 167, x1] [] m Q := by
  have hF := h.1.1
  refine r_aload_n dX12_walks_50 rfl ?_
  refine r_getIc (e.1) dX12_walks_51 fgX12_124 rfl (by exact k_167 hF) (by exact h.2.2.1) ?_
  refine r_if_ne 79 dX12_walks_54 rfl (fun hz => ?_) (fun hz => ?_)
  ·
    refine r_return dX12_walks_79 rfl ?_
    exact k
  ·
    exact absurd hz h.2.2.2.1
theorem L_walk0 {g : GG} {Q : Out → Prop} {b : Nat → Int32} {n : Nat} {N : Nat → Int64} {x1 : Value} : ∀ (t i : Nat) (a : Nat × List Int32 × TL) (m : MM), i + t = 16 → RPa b n a.1 0 m → rE b n isBl a.1 = a.1 → (∀ j, j < 10 → ldL m 178 j = N j) → ldI m 167 15 = 0 → ldI m 167 9 = nI i → (∀ j, j < 8 → ldL m 179 j = a.2.2 (cut N) j) → (∀ e, txL b n false (t + 1) i a = .inl e → ∀ m', Sw m m' → ldI m' 167 6 = e.1 → ¬ e.1 = 0 → ldI m' 167 7 = nI e.2 → Q (.inl none, m')) → (∀ r, txL b n false (t + 1) i a = .inr r → ∀ m', Sw m m' → ldI m' 167 6 = 0 → ldI m' 167 7 = -1 → (∀ j, j < 10 → ldL m' 178 j = N j) → (∀ j, j < 8 → ldL m' 179 j = r.2 (cut N) j) → Q (.inl none, m')) → Wp g mX12_walks 31 0 0 50 [.ref 167, x1] [] m Q := by
  intro t
  induction t with
  | zero =>
    intro i a m hi h ha hN hw h9 hT k0 k1
    have hF := h.1.1
    have hb := h.1.2.2.1
    have hn4 := h.1.2.1
    have han := h.2.2.1
    refine r_aload_n dX12_walks_50 rfl ?_
    refine r_getIc (0) dX12_walks_51 fgX12_124 rfl (by exact k_167 hF) (by exact h.2.2.2.2.1) ?_
    refine r_if_ne 79 dX12_walks_54 rfl (fun hz => absurd hz (by decide)) (fun _ => ?_)
    refine r_aload_n dX12_walks_57 rfl ?_
    refine r_getIc (nI a.1) dX12_walks_58 fgX12_117 rfl (by exact k_167 hF) (by exact h.2.1) ?_
    refine r_aload_n dX12_walks_61 rfl ?_
    refine r_getIc (nI n) dX12_walks_62 fgX12_111 rfl (by exact k_167 hF) (by exact h.1.2.2.2.1) ?_
    refine r_icmp_ge 79 dX12_walks_65 rfl (fun hge => ?_) (fun hge => ?_)
    ·
      refine r_return dX12_walks_79 rfl ?_
      have hend : n ≤ a.1 := Nat.le_of_not_lt (fun z => absurd hge (nI_ge z (by omega)))
      exact k1 a.2 (if_pos ((tk_end hb).mpr hend)) m Sw.rf h.2.2.2.2.1 h.2.2.2.2.2 hN hT
    ·
      have hne : ¬ tkP b n a.1 = -1 := fun z => hge (nI_le ((tk_end hb).mp z) (by omega))
      refine r_aload_n dX12_walks_68 rfl ?_
      refine r_callV0 (ci := 12) (d1 := 30) (c1 := 0) (n1 := 0) dX12_walks_69 mvX12_217 rfl ⟨(Nat.le_of_ble_eq_true rfl), rfl⟩ (Nat.le_of_ble_eq_true rfl) (by exact Nat.le_of_ble_eq_true rfl) (by exact k_167 hF) ?_
      refine S_rclause0 ⟨a.1, h, ha⟩ hN hw h9 (by omega) (fun e he m1 s1 h1 => ?_) (fun r hr m1 s1 h1 hN1 hw1 h91 ht1 => ?_)
      ·
        have hF := h1.1.1
        show Wp g mX12_walks _ _ _ 72 _ [] _ Q
        refine r_aload_n dX12_walks_72 rfl ?_
        refine r_callV0 (ci := 12) (d1 := 1) (c1 := 0) (n1 := 0) dX12_walks_73 mvX12_145 rfl ⟨(Nat.le_of_ble_eq_true rfl), rfl⟩ (Nat.le_of_ble_eq_true rfl) (by exact Nat.le_of_ble_eq_true rfl) (by exact k_167 hF) ?_
        refine S_blanksE h1 (fun m2 s2 h2 => ?_)
        have hF := h2.1.1
        show Wp g mX12_walks _ _ _ 76 _ [] _ Q
        refine r_goto 50 dX12_walks_76 rfl ?_
        exact T_walkE h2 (k0 e ((if_neg hne).trans (rB_l he)) m2 (s1.tr (sy_sc s2)) h2.2.2.1 h2.2.2.2.1 h2.2.2.2.2)
      ·
        have hlt := claP_lt hr
        exact absurd hlt (by omega)
  | succ t ih =>
    intro i a m hi h ha hN hw h9 hT k0 k1
    have hF := h.1.1
    have hb := h.1.2.2.1
    have hn4 := h.1.2.1
    have han := h.2.2.1
    refine r_aload_n dX12_walks_50 rfl ?_
    refine r_getIc (0) dX12_walks_51 fgX12_124 rfl (by exact k_167 hF) (by exact h.2.2.2.2.1) ?_
    refine r_if_ne 79 dX12_walks_54 rfl (fun hz => absurd hz (by decide)) (fun _ => ?_)
    refine r_aload_n dX12_walks_57 rfl ?_
    refine r_getIc (nI a.1) dX12_walks_58 fgX12_117 rfl (by exact k_167 hF) (by exact h.2.1) ?_
    refine r_aload_n dX12_walks_61 rfl ?_
    refine r_getIc (nI n) dX12_walks_62 fgX12_111 rfl (by exact k_167 hF) (by exact h.1.2.2.2.1) ?_
    refine r_icmp_ge 79 dX12_walks_65 rfl (fun hge => ?_) (fun hge => ?_)
    ·
      refine r_return dX12_walks_79 rfl ?_
      have hend : n ≤ a.1 := Nat.le_of_not_lt (fun z => absurd hge (nI_ge z (by omega)))
      exact k1 a.2 (if_pos ((tk_end hb).mpr hend)) m Sw.rf h.2.2.2.2.1 h.2.2.2.2.2 hN hT
    ·
      have hne : ¬ tkP b n a.1 = -1 := fun z => hge (nI_le ((tk_end hb).mp z) (by omega))
      refine r_aload_n dX12_walks_68 rfl ?_
      refine r_callV0 (ci := 12) (d1 := 30) (c1 := 0) (n1 := 0) dX12_walks_69 mvX12_217 rfl ⟨(Nat.le_of_ble_eq_true rfl), rfl⟩ (Nat.le_of_ble_eq_true rfl) (by exact Nat.le_of_ble_eq_true rfl) (by exact k_167 hF) ?_
      refine S_rclause0 ⟨a.1, h, ha⟩ hN hw h9 (by omega) (fun e he m1 s1 h1 => ?_) (fun r hr m1 s1 h1 hN1 hw1 h91 ht1 => ?_)
      ·
        have hF := h1.1.1
        show Wp g mX12_walks _ _ _ 72 _ [] _ Q
        refine r_aload_n dX12_walks_72 rfl ?_
        refine r_callV0 (ci := 12) (d1 := 1) (c1 := 0) (n1 := 0) dX12_walks_73 mvX12_145 rfl ⟨(Nat.le_of_ble_eq_true rfl), rfl⟩ (Nat.le_of_ble_eq_true rfl) (by exact Nat.le_of_ble_eq_true rfl) (by exact k_167 hF) ?_
        refine S_blanksE h1 (fun m2 s2 h2 => ?_)
        have hF := h2.1.1
        show Wp g mX12_walks _ _ _ 76 _ [] _ Q
        refine r_goto 50 dX12_walks_76 rfl ?_
        exact T_walkE h2 (k0 e ((if_neg hne).trans (rB_l he)) m2 (s1.tr (sy_sc s2)) h2.2.2.1 h2.2.2.2.1 h2.2.2.2.2)
      ·
        have hlt := claP_lt hr
        obtain ⟨a1, h1, ha1⟩ := h1
        have hF := h1.1.1
        show Wp g mX12_walks _ _ _ 72 _ [] _ Q
        refine r_aload_n dX12_walks_72 rfl ?_
        refine r_callV0 (ci := 12) (d1 := 1) (c1 := 0) (n1 := 0) dX12_walks_73 mvX12_145 rfl ⟨(Nat.le_of_ble_eq_true rfl), rfl⟩ (Nat.le_of_ble_eq_true rfl) (by exact Nat.le_of_ble_eq_true rfl) (by exact k_167 hF) ?_
        refine S_blanksP h1 (fun m2 s2 h2 => ?_)
        have hF := h2.1.1
        show Wp g mX12_walks _ _ _ 76 _ [] _ Q
        refine r_goto 50 dX12_walks_76 rfl ?_
        have e9 : txL b n false (t + 1 + 1) i a = txL b n false (t + 1) (i + 1) (r.1, a.2.1 ++ r.2.1, tlT a.2.2 r.2.2.1 r.2.2.2.1 r.2.2.2.2) := (if_neg hne).trans (rB_r hr)
        rw [e9] at k0 k1
        rw [ha1] at h2
        refine ih (i + 1) (r.1, a.2.1 ++ r.2.1, tlT a.2.2 r.2.2.1 r.2.2.2.1 r.2.2.2.2) m2 (by omega) h2 (by rw [← ha1]; exact rE_id) (s2.n hN1) ((s2.2.1 167 15 (by omega)).trans hw1) ((s2.2.1 167 9 (by omega)).trans h91) (fun j hj => ?_) (fun e he m9 q9 => k0 e he m9 ((s1.tr (sy_sc s2)).tr q9)) (fun r hr m9 q9 => k1 r hr m9 ((s1.tr (sy_sc s2)).tr q9))
        rw [s2.2.2 179 j trivial, ht1 j hj]
        unfold tlU tlT; rw [hT j hj]
theorem S_walks0 {g : GG} {m : MM} {Q : Out → Prop} {b : Nat → Int32} {n : Nat} {N : Nat → Int64} (hT : TxB b n m) (hN : ∀ j, j < 10 → ldL m 178 j = N j) (hw : ldI m 167 15 = 0) (k0 : ∀ e, texP b n false = .inl e → ∀ m', Sw m m' → ldI m' 167 6 = e.1 → ¬ e.1 = 0 → ldI m' 167 7 = nI e.2 → Q (.inl none, m')) (k1 : ∀ r, texP b n false = .inr r → ∀ m', Sw m m' → ldI m' 167 6 = 0 → ldI m' 167 7 = -1 → (∀ j, j < 10 → ldL m' 178 j = N j) → (∀ j, j < 8 → ldL m' 179 j = r.2 (cut N) j) → Q (.inl none, m')) : Cl g 31 0 0 mX12_walks [.ref 167] m Q := by
  have hF := hT.1
  refine Cl.of rfl (by decide) (Nat.le_of_ble_eq_true rfl) ?_
  show Wp g mX12_walks 31 0 0 0 [.ref 167, .retAddr 0] [] m Q
  refine r_aload_n dX12_walks_0 rfl ?_
  refine r_iconst (0) dX12_walks_1 rfl ?_
  refine r_putI dX12_walks_2 (fpX12_117 _ rfl) rfl (by exact k_167 hF) ⟨rfl, rfl⟩ ?_
  refine r_aload_n dX12_walks_5 rfl ?_
  refine r_iconst (0) dX12_walks_6 rfl ?_
  refine r_putI dX12_walks_7 (fpX12_156 _ rfl) rfl (by exact k_167 hF) ⟨rfl, rfl⟩ ?_
  refine r_aload_n dX12_walks_10 rfl ?_
  refine r_iconst (0) dX12_walks_11 rfl ?_
  refine r_putI dX12_walks_12 (fpX12_124 _ rfl) rfl (by exact k_167 hF) ⟨rfl, rfl⟩ ?_
  refine r_aload_n dX12_walks_15 rfl ?_
  refine r_iconst (-1) dX12_walks_16 rfl ?_
  refine r_putI dX12_walks_17 (fpX12_127 _ rfl) rfl (by exact k_167 hF) ⟨rfl, rfl⟩ ?_
  refine r_aload_n dX12_walks_20 rfl ?_
  refine r_iconst (0) dX12_walks_21 rfl ?_
  refine r_putI dX12_walks_22 (fpX12_214 _ rfl) rfl (by exact k_167 hF) ⟨rfl, rfl⟩ ?_
  have e0 : Sw m (stI (stI (stI (stI (stI m 167 4 0) 167 5 0) 167 6 0) 167 7 (-1)) 167 9 0) := ((((Sw.rf.s (by unfold scS; omega) (by decide)).s (by unfold scS; omega) (by decide)).s (by unfold scS; omega) (by decide)).s (by unfold scS; omega) (by decide)).s (by unfold scS; omega) (by decide)
  have p0 : RPa b n 0 0 (stI (stI (stI (stI (stI m 167 4 0) 167 5 0) 167 6 0) 167 7 (-1)) 167 9 0) := ⟨(TxB_c9 (w := 0) (v := 0) (hT.sy ((((Sy.rf.s (by omega) (by omega) (by omega)).s (by omega) (by omega) (by omega)).s (by omega) (by omega) (by omega)).s (by omega) (by omega) (by omega)))).2, ld_n (by decide) (ld_n (by decide) (ld_n (by decide) (ld_n (by decide) ld_s))), Nat.zero_le _, ld_n (by decide) (ld_n (by decide) (ld_n (by decide) ld_s)), ld_n (by decide) (ld_n (by decide) ld_s), ld_n (by decide) ld_s⟩
  have n0 : ∀ j, j < 10 → ldL (stI (stI (stI (stI (stI m 167 4 0) 167 5 0) 167 6 0) 167 7 (-1)) 167 9 0) 178 j = N j := hN
  have w0 : ldI (stI (stI (stI (stI (stI m 167 4 0) 167 5 0) 167 6 0) 167 7 (-1)) 167 9 0) 167 15 = 0 := ld_n (by decide) (ld_n (by decide) (ld_n (by decide) (ld_n (by decide) (ld_n (by decide) hw))))
  have c0 : ldI (stI (stI (stI (stI (stI m 167 4 0) 167 5 0) 167 6 0) 167 7 (-1)) 167 9 0) 167 9 = nI 0 := ld_s
  generalize (stI (stI (stI (stI (stI m 167 4 0) 167 5 0) 167 6 0) 167 7 (-1)) 167 9 0) = M at e0 p0 n0 w0 c0 ⊢
  have hF := p0.1.1
  refine r_iconst (0) dX12_walks_25 rfl ?_
  refine si_1 dX12_walks_26 rfl (Nat.le_of_ble_eq_true rfl) ?_
  refine r_iload_n dX12_walks_27 rfl ?_
  refine r_bipush (8) dX12_walks_28 rfl ?_
  refine r_icmp_ge 46 dX12_walks_30 rfl (fun hz => absurd hz (by decide)) (fun _ => ?_)
  refine r_aload_n dX12_walks_33 rfl ?_
  refine r_getRc dX12_walks_34 fgX12_31 rfl (by exact k_167 hF) (by exact r_167_17 hF) ?_
  refine r_iload_n dX12_walks_37 rfl ?_
  refine r_lconst (0) dX12_walks_38 rfl ?_
  refine r_lastoren (0) rfl dX12_walks_39 (by exact k_179 hF) (vin (j := 0) (by omega) (by omega)) ?_
  refine ic_1 (1) dX12_walks_40 rfl rfl (Nat.le_of_ble_eq_true rfl) ?_
  refine r_goto 27 dX12_walks_43 rfl ?_
  refine r_iload_n dX12_walks_27 rfl ?_
  refine r_bipush (8) dX12_walks_28 rfl ?_
  refine r_icmp_ge 46 dX12_walks_30 rfl (fun hz => absurd hz (by decide)) (fun _ => ?_)
  refine r_aload_n dX12_walks_33 rfl ?_
  refine r_getRc dX12_walks_34 fgX12_31 rfl (by exact k_167 hF) (by exact r_167_17 hF) ?_
  refine r_iload_n dX12_walks_37 rfl ?_
  refine r_lconst (0) dX12_walks_38 rfl ?_
  refine r_lastoren (1) rfl dX12_walks_39 (by exact k_179 hF) (vin (j := 1) (by omega) (by omega)) ?_
  refine ic_1 (1) dX12_walks_40 rfl rfl (Nat.le_of_ble_eq_true rfl) ?_
  refine r_goto 27 dX12_walks_43 rfl ?_
  refine r_iload_n dX12_walks_27 rfl ?_
  refine r_bipush (8) dX12_walks_28 rfl ?_
  refine r_icmp_ge 46 dX12_walks_30 rfl (fun hz => absurd hz (by decide)) (fun _ => ?_)
  refine r_aload_n dX12_walks_33 rfl ?_
  refine r_getRc dX12_walks_34 fgX12_31 rfl (by exact k_167 hF) (by exact r_167_17 hF) ?_
  refine r_iload_n dX12_walks_37 rfl ?_
  refine r_lconst (0) dX12_walks_38 rfl ?_
  refine r_lastoren (2) rfl dX12_walks_39 (by exact k_179 hF) (vin (j := 2) (by omega) (by omega)) ?_
  refine ic_1 (1) dX12_walks_40 rfl rfl (Nat.le_of_ble_eq_true rfl) ?_
  refine r_goto 27 dX12_walks_43 rfl ?_
  refine r_iload_n dX12_walks_27 rfl ?_
  refine r_bipush (8) dX12_walks_28 rfl ?_
  refine r_icmp_ge 46 dX12_walks_30 rfl (fun hz => absurd hz (by decide)) (fun _ => ?_)
  refine r_aload_n dX12_walks_33 rfl ?_
  refine r_getRc dX12_walks_34 fgX12_31 rfl (by exact k_167 hF) (by exact r_167_17 hF) ?_
  refine r_iload_n dX12_walks_37 rfl ?_
  refine r_lconst (0) dX12_walks_38 rfl ?_
  refine r_lastoren (3) rfl dX12_walks_39 (by exact k_179 hF) (vin (j := 3) (by omega) (by omega)) ?_
  refine ic_1 (1) dX12_walks_40 rfl rfl (Nat.le_of_ble_eq_true rfl) ?_
  refine r_goto 27 dX12_walks_43 rfl ?_
  refine r_iload_n dX12_walks_27 rfl ?_
  refine r_bipush (8) dX12_walks_28 rfl ?_
  refine r_icmp_ge 46 dX12_walks_30 rfl (fun hz => absurd hz (by decide)) (fun _ => ?_)
  refine r_aload_n dX12_walks_33 rfl ?_
  refine r_getRc dX12_walks_34 fgX12_31 rfl (by exact k_167 hF) (by exact r_167_17 hF) ?_
  refine r_iload_n dX12_walks_37 rfl ?_
  refine r_lconst (0) dX12_walks_38 rfl ?_
  refine r_lastoren (4) rfl dX12_walks_39 (by exact k_179 hF) (vin (j := 4) (by omega) (by omega)) ?_
  refine ic_1 (1) dX12_walks_40 rfl rfl (Nat.le_of_ble_eq_true rfl) ?_
  refine r_goto 27 dX12_walks_43 rfl ?_
  refine r_iload_n dX12_walks_27 rfl ?_
  refine r_bipush (8) dX12_walks_28 rfl ?_
  refine r_icmp_ge 46 dX12_walks_30 rfl (fun hz => absurd hz (by decide)) (fun _ => ?_)
  refine r_aload_n dX12_walks_33 rfl ?_
  refine r_getRc dX12_walks_34 fgX12_31 rfl (by exact k_167 hF) (by exact r_167_17 hF) ?_
  refine r_iload_n dX12_walks_37 rfl ?_
  refine r_lconst (0) dX12_walks_38 rfl ?_
  refine r_lastoren (5) rfl dX12_walks_39 (by exact k_179 hF) (vin (j := 5) (by omega) (by omega)) ?_
  refine ic_1 (1) dX12_walks_40 rfl rfl (Nat.le_of_ble_eq_true rfl) ?_
  refine r_goto 27 dX12_walks_43 rfl ?_
  refine r_iload_n dX12_walks_27 rfl ?_
  refine r_bipush (8) dX12_walks_28 rfl ?_
  refine r_icmp_ge 46 dX12_walks_30 rfl (fun hz => absurd hz (by decide)) (fun _ => ?_)
  refine r_aload_n dX12_walks_33 rfl ?_
  refine r_getRc dX12_walks_34 fgX12_31 rfl (by exact k_167 hF) (by exact r_167_17 hF) ?_
  refine r_iload_n dX12_walks_37 rfl ?_
  refine r_lconst (0) dX12_walks_38 rfl ?_
  refine r_lastoren (6) rfl dX12_walks_39 (by exact k_179 hF) (vin (j := 6) (by omega) (by omega)) ?_
  refine ic_1 (1) dX12_walks_40 rfl rfl (Nat.le_of_ble_eq_true rfl) ?_
  refine r_goto 27 dX12_walks_43 rfl ?_
  refine r_iload_n dX12_walks_27 rfl ?_
  refine r_bipush (8) dX12_walks_28 rfl ?_
  refine r_icmp_ge 46 dX12_walks_30 rfl (fun hz => absurd hz (by decide)) (fun _ => ?_)
  refine r_aload_n dX12_walks_33 rfl ?_
  refine r_getRc dX12_walks_34 fgX12_31 rfl (by exact k_167 hF) (by exact r_167_17 hF) ?_
  refine r_iload_n dX12_walks_37 rfl ?_
  refine r_lconst (0) dX12_walks_38 rfl ?_
  refine r_lastoren (7) rfl dX12_walks_39 (by exact k_179 hF) (vin (j := 7) (by omega) (by omega)) ?_
  refine ic_1 (1) dX12_walks_40 rfl rfl (Nat.le_of_ble_eq_true rfl) ?_
  refine r_goto 27 dX12_walks_43 rfl ?_
  refine r_iload_n dX12_walks_27 rfl ?_
  refine r_bipush (8) dX12_walks_28 rfl ?_
  refine r_icmp_ge 46 dX12_walks_30 rfl (fun _ => ?_) (fun hz => absurd hz (by decide))
  have e1 : Sw m (stL (stL (stL (stL (stL (stL (stL (stL M 179 0 0) 179 1 0) 179 2 0) 179 3 0) 179 4 0) 179 5 0) 179 6 0) 179 7 0) := ((((((((e0.l (by omega) (by omega)).l (by omega) (by omega)).l (by omega) (by omega)).l (by omega) (by omega)).l (by omega) (by omega)).l (by omega) (by omega)).l (by omega) (by omega)).l (by omega) (by omega))
  have hp : RPa b n 0 0 (stL (stL (stL (stL (stL (stL (stL (stL M 179 0 0) 179 1 0) 179 2 0) 179 3 0) 179 4 0) 179 5 0) 179 6 0) 179 7 0) := p0
  have n1 : ∀ j, j < 10 → ldL (stL (stL (stL (stL (stL (stL (stL (stL M 179 0 0) 179 1 0) 179 2 0) 179 3 0) 179 4 0) 179 5 0) 179 6 0) 179 7 0) 178 j = N j := fun j hj => by
    simp only [ldL_stL]; rw [if_neg (by omega), if_neg (by omega), if_neg (by omega), if_neg (by omega), if_neg (by omega), if_neg (by omega), if_neg (by omega), if_neg (by omega)]; exact n0 j hj
  have z1 : ∀ j, j < 8 → ldL (stL (stL (stL (stL (stL (stL (stL (stL M 179 0 0) 179 1 0) 179 2 0) 179 3 0) 179 4 0) 179 5 0) 179 6 0) 179 7 0) 179 j = 0 := fun j hj => by
    simp only [ldL_stL]
    rcases j with _ | _ | _ | _ | _ | _ | _ | _ | j
    · first | rfl | simp
    · first | rfl | simp
    · first | rfl | simp
    · first | rfl | simp
    · first | rfl | simp
    · first | rfl | simp
    · first | rfl | simp
    · first | rfl | simp
    · omega
  have w1 : ldI (stL (stL (stL (stL (stL (stL (stL (stL M 179 0 0) 179 1 0) 179 2 0) 179 3 0) 179 4 0) 179 5 0) 179 6 0) 179 7 0) 167 15 = 0 := w0
  have c1 : ldI (stL (stL (stL (stL (stL (stL (stL (stL M 179 0 0) 179 1 0) 179 2 0) 179 3 0) 179 4 0) 179 5 0) 179 6 0) 179 7 0) 167 9 = nI 0 := c0
  generalize (stL (stL (stL (stL (stL (stL (stL (stL M 179 0 0) 179 1 0) 179 2 0) 179 3 0) 179 4 0) 179 5 0) 179 6 0) 179 7 0) = M1 at e1 hp n1 z1 w1 c1 ⊢
  have hF := hp.1.1
  refine r_aload_n dX12_walks_46 rfl ?_
  refine r_callV0 (ci := 12) (d1 := 1) (c1 := 0) (n1 := 0) dX12_walks_47 mvX12_145 rfl ⟨(Nat.le_of_ble_eq_true rfl), rfl⟩ (Nat.le_of_ble_eq_true rfl) (by exact Nat.le_of_ble_eq_true rfl) (by exact k_167 hF) ?_
  refine S_blanksP hp (fun m2 s2 h2 => ?_)
  have hF := h2.1.1
  show Wp g mX12_walks _ _ _ 50 _ [] _ Q
  exact L_walk0 16 0 (rE b n isBl 0, [], fun _ _ => 0) m2 (by omega) h2 rE_id (s2.n n1) ((s2.2.1 167 15 (by omega)).trans w1) ((s2.2.1 167 9 (by omega)).trans c1) (fun j hj => (s2.2.2 179 j trivial).trans (z1 j hj)) (fun e he m9 q9 => k0 e he m9 ((e1.tr (sy_sc s2)).tr q9)) (fun r hr m9 q9 => k1 r hr m9 ((e1.tr (sy_sc s2)).tr q9))
theorem L_walk1 {g : GG} {Q : Out → Prop} {b : Nat → Int32} {n : Nat} {N : Nat → Int64} {x1 : Value} : ∀ (t i : Nat) (a : Nat × List Int32 × TL) (m : MM), i + t = 16 → RPa b n a.1 0 m → rE b n isBl a.1 = a.1 → (∀ j, j < 10 → ldL m 178 j = N j) → ldI m 167 15 = 1 → ldI m 167 9 = nI i → (∀ j, j < 8 → ldL m 179 j = a.2.2 (cut N) j) → (∀ e, txL b n true (t + 1) i a = .inl e → ∀ m', Sw m m' → ldI m' 167 6 = e.1 → ¬ e.1 = 0 → ldI m' 167 7 = nI e.2 → Q (.inl none, m')) → (∀ r, txL b n true (t + 1) i a = .inr r → ∀ m', Sw m m' → ldI m' 167 6 = 0 → ldI m' 167 7 = -1 → (∀ j, j < 10 → ldL m' 178 j = N j) → (∀ j, j < 8 → ldL m' 179 j = r.2 (cut N) j) → Q (.inl none, m')) → Wp g mX12_walks 31 0 0 50 [.ref 167, x1] [] m Q := by
  intro t
  induction t with
  | zero =>
    intro i a m hi h ha hN hw h9 hT k0 k1
    have hF := h.1.1
    have hb := h.1.2.2.1
    have hn4 := h.1.2.1
    have han := h.2.2.1
    refine r_aload_n dX12_walks_50 rfl ?_
    refine r_getIc (0) dX12_walks_51 fgX12_124 rfl (by exact k_167 hF) (by exact h.2.2.2.2.1) ?_
    refine r_if_ne 79 dX12_walks_54 rfl (fun hz => absurd hz (by decide)) (fun _ => ?_)
    refine r_aload_n dX12_walks_57 rfl ?_
    refine r_getIc (nI a.1) dX12_walks_58 fgX12_117 rfl (by exact k_167 hF) (by exact h.2.1) ?_
    refine r_aload_n dX12_walks_61 rfl ?_
    refine r_getIc (nI n) dX12_walks_62 fgX12_111 rfl (by exact k_167 hF) (by exact h.1.2.2.2.1) ?_
    refine r_icmp_ge 79 dX12_walks_65 rfl (fun hge => ?_) (fun hge => ?_)
    ·
      refine r_return dX12_walks_79 rfl ?_
      have hend : n ≤ a.1 := Nat.le_of_not_lt (fun z => absurd hge (nI_ge z (by omega)))
      exact k1 a.2 (if_pos ((tk_end hb).mpr hend)) m Sw.rf h.2.2.2.2.1 h.2.2.2.2.2 hN hT
    ·
      have hne : ¬ tkP b n a.1 = -1 := fun z => hge (nI_le ((tk_end hb).mp z) (by omega))
      refine r_aload_n dX12_walks_68 rfl ?_
      refine r_callV0 (ci := 12) (d1 := 30) (c1 := 0) (n1 := 0) dX12_walks_69 mvX12_217 rfl ⟨(Nat.le_of_ble_eq_true rfl), rfl⟩ (Nat.le_of_ble_eq_true rfl) (by exact Nat.le_of_ble_eq_true rfl) (by exact k_167 hF) ?_
      refine S_rclause1 ⟨a.1, h, ha⟩ hN hw h9 (by omega) (fun e he m1 s1 h1 => ?_) (fun r hr m1 s1 h1 hN1 hw1 h91 ht1 => ?_)
      ·
        have hF := h1.1.1
        show Wp g mX12_walks _ _ _ 72 _ [] _ Q
        refine r_aload_n dX12_walks_72 rfl ?_
        refine r_callV0 (ci := 12) (d1 := 1) (c1 := 0) (n1 := 0) dX12_walks_73 mvX12_145 rfl ⟨(Nat.le_of_ble_eq_true rfl), rfl⟩ (Nat.le_of_ble_eq_true rfl) (by exact Nat.le_of_ble_eq_true rfl) (by exact k_167 hF) ?_
        refine S_blanksE h1 (fun m2 s2 h2 => ?_)
        have hF := h2.1.1
        show Wp g mX12_walks _ _ _ 76 _ [] _ Q
        refine r_goto 50 dX12_walks_76 rfl ?_
        exact T_walkE h2 (k0 e ((if_neg hne).trans (rB_l he)) m2 (s1.tr (sy_sc s2)) h2.2.2.1 h2.2.2.2.1 h2.2.2.2.2)
      ·
        have hlt := claP_lt hr
        exact absurd hlt (by omega)
  | succ t ih =>
    intro i a m hi h ha hN hw h9 hT k0 k1
    have hF := h.1.1
    have hb := h.1.2.2.1
    have hn4 := h.1.2.1
    have han := h.2.2.1
    refine r_aload_n dX12_walks_50 rfl ?_
    refine r_getIc (0) dX12_walks_51 fgX12_124 rfl (by exact k_167 hF) (by exact h.2.2.2.2.1) ?_
    refine r_if_ne 79 dX12_walks_54 rfl (fun hz => absurd hz (by decide)) (fun _ => ?_)
    refine r_aload_n dX12_walks_57 rfl ?_
    refine r_getIc (nI a.1) dX12_walks_58 fgX12_117 rfl (by exact k_167 hF) (by exact h.2.1) ?_
    refine r_aload_n dX12_walks_61 rfl ?_
    refine r_getIc (nI n) dX12_walks_62 fgX12_111 rfl (by exact k_167 hF) (by exact h.1.2.2.2.1) ?_
    refine r_icmp_ge 79 dX12_walks_65 rfl (fun hge => ?_) (fun hge => ?_)
    ·
      refine r_return dX12_walks_79 rfl ?_
      have hend : n ≤ a.1 := Nat.le_of_not_lt (fun z => absurd hge (nI_ge z (by omega)))
      exact k1 a.2 (if_pos ((tk_end hb).mpr hend)) m Sw.rf h.2.2.2.2.1 h.2.2.2.2.2 hN hT
    ·
      have hne : ¬ tkP b n a.1 = -1 := fun z => hge (nI_le ((tk_end hb).mp z) (by omega))
      refine r_aload_n dX12_walks_68 rfl ?_
      refine r_callV0 (ci := 12) (d1 := 30) (c1 := 0) (n1 := 0) dX12_walks_69 mvX12_217 rfl ⟨(Nat.le_of_ble_eq_true rfl), rfl⟩ (Nat.le_of_ble_eq_true rfl) (by exact Nat.le_of_ble_eq_true rfl) (by exact k_167 hF) ?_
      refine S_rclause1 ⟨a.1, h, ha⟩ hN hw h9 (by omega) (fun e he m1 s1 h1 => ?_) (fun r hr m1 s1 h1 hN1 hw1 h91 ht1 => ?_)
      ·
        have hF := h1.1.1
        show Wp g mX12_walks _ _ _ 72 _ [] _ Q
        refine r_aload_n dX12_walks_72 rfl ?_
        refine r_callV0 (ci := 12) (d1 := 1) (c1 := 0) (n1 := 0) dX12_walks_73 mvX12_145 rfl ⟨(Nat.le_of_ble_eq_true rfl), rfl⟩ (Nat.le_of_ble_eq_true rfl) (by exact Nat.le_of_ble_eq_true rfl) (by exact k_167 hF) ?_
        refine S_blanksE h1 (fun m2 s2 h2 => ?_)
        have hF := h2.1.1
        show Wp g mX12_walks _ _ _ 76 _ [] _ Q
        refine r_goto 50 dX12_walks_76 rfl ?_
        exact T_walkE h2 (k0 e ((if_neg hne).trans (rB_l he)) m2 (s1.tr (sy_sc s2)) h2.2.2.1 h2.2.2.2.1 h2.2.2.2.2)
      ·
        have hlt := claP_lt hr
        obtain ⟨a1, h1, ha1⟩ := h1
        have hF := h1.1.1
        show Wp g mX12_walks _ _ _ 72 _ [] _ Q
        refine r_aload_n dX12_walks_72 rfl ?_
        refine r_callV0 (ci := 12) (d1 := 1) (c1 := 0) (n1 := 0) dX12_walks_73 mvX12_145 rfl ⟨(Nat.le_of_ble_eq_true rfl), rfl⟩ (Nat.le_of_ble_eq_true rfl) (by exact Nat.le_of_ble_eq_true rfl) (by exact k_167 hF) ?_
        refine S_blanksP h1 (fun m2 s2 h2 => ?_)
        have hF := h2.1.1
        show Wp g mX12_walks _ _ _ 76 _ [] _ Q
        refine r_goto 50 dX12_walks_76 rfl ?_
        have e9 : txL b n true (t + 1 + 1) i a = txL b n true (t + 1) (i + 1) (r.1, a.2.1 ++ r.2.1, tlT a.2.2 r.2.2.1 r.2.2.2.1 r.2.2.2.2) := (if_neg hne).trans (rB_r hr)
        rw [e9] at k0 k1
        rw [ha1] at h2
        refine ih (i + 1) (r.1, a.2.1 ++ r.2.1, tlT a.2.2 r.2.2.1 r.2.2.2.1 r.2.2.2.2) m2 (by omega) h2 (by rw [← ha1]; exact rE_id) (s2.n hN1) ((s2.2.1 167 15 (by omega)).trans hw1) ((s2.2.1 167 9 (by omega)).trans h91) (fun j hj => ?_) (fun e he m9 q9 => k0 e he m9 ((s1.tr (sy_sc s2)).tr q9)) (fun r hr m9 q9 => k1 r hr m9 ((s1.tr (sy_sc s2)).tr q9))
        rw [s2.2.2 179 j trivial, ht1 j hj]
        unfold tlU tlT; rw [hT j hj]
theorem S_walks1 {g : GG} {m : MM} {Q : Out → Prop} {b : Nat → Int32} {n : Nat} {N : Nat → Int64} (hT : TxB b n m) (hN : ∀ j, j < 10 → ldL m 178 j = N j) (hw : ldI m 167 15 = 1) (k0 : ∀ e, texP b n true = .inl e → ∀ m', Sw m m' → ldI m' 167 6 = e.1 → ¬ e.1 = 0 → ldI m' 167 7 = nI e.2 → Q (.inl none, m')) (k1 : ∀ r, texP b n true = .inr r → ∀ m', Sw m m' → ldI m' 167 6 = 0 → ldI m' 167 7 = -1 → (∀ j, j < 10 → ldL m' 178 j = N j) → (∀ j, j < 8 → ldL m' 179 j = r.2 (cut N) j) → Q (.inl none, m')) : Cl g 31 0 0 mX12_walks [.ref 167] m Q := by
  have hF := hT.1
  refine Cl.of rfl (by decide) (Nat.le_of_ble_eq_true rfl) ?_
  show Wp g mX12_walks 31 0 0 0 [.ref 167, .retAddr 0] [] m Q
  refine r_aload_n dX12_walks_0 rfl ?_
  refine r_iconst (0) dX12_walks_1 rfl ?_
  refine r_putI dX12_walks_2 (fpX12_117 _ rfl) rfl (by exact k_167 hF) ⟨rfl, rfl⟩ ?_
  refine r_aload_n dX12_walks_5 rfl ?_
  refine r_iconst (0) dX12_walks_6 rfl ?_
  refine r_putI dX12_walks_7 (fpX12_156 _ rfl) rfl (by exact k_167 hF) ⟨rfl, rfl⟩ ?_
  refine r_aload_n dX12_walks_10 rfl ?_
  refine r_iconst (0) dX12_walks_11 rfl ?_
  refine r_putI dX12_walks_12 (fpX12_124 _ rfl) rfl (by exact k_167 hF) ⟨rfl, rfl⟩ ?_
  refine r_aload_n dX12_walks_15 rfl ?_
  refine r_iconst (-1) dX12_walks_16 rfl ?_
  refine r_putI dX12_walks_17 (fpX12_127 _ rfl) rfl (by exact k_167 hF) ⟨rfl, rfl⟩ ?_
  refine r_aload_n dX12_walks_20 rfl ?_
  refine r_iconst (0) dX12_walks_21 rfl ?_
  refine r_putI dX12_walks_22 (fpX12_214 _ rfl) rfl (by exact k_167 hF) ⟨rfl, rfl⟩ ?_
  have e0 : Sw m (stI (stI (stI (stI (stI m 167 4 0) 167 5 0) 167 6 0) 167 7 (-1)) 167 9 0) := ((((Sw.rf.s (by unfold scS; omega) (by decide)).s (by unfold scS; omega) (by decide)).s (by unfold scS; omega) (by decide)).s (by unfold scS; omega) (by decide)).s (by unfold scS; omega) (by decide)
  have p0 : RPa b n 0 0 (stI (stI (stI (stI (stI m 167 4 0) 167 5 0) 167 6 0) 167 7 (-1)) 167 9 0) := ⟨(TxB_c9 (w := 0) (v := 0) (hT.sy ((((Sy.rf.s (by omega) (by omega) (by omega)).s (by omega) (by omega) (by omega)).s (by omega) (by omega) (by omega)).s (by omega) (by omega) (by omega)))).2, ld_n (by decide) (ld_n (by decide) (ld_n (by decide) (ld_n (by decide) ld_s))), Nat.zero_le _, ld_n (by decide) (ld_n (by decide) (ld_n (by decide) ld_s)), ld_n (by decide) (ld_n (by decide) ld_s), ld_n (by decide) ld_s⟩
  have n0 : ∀ j, j < 10 → ldL (stI (stI (stI (stI (stI m 167 4 0) 167 5 0) 167 6 0) 167 7 (-1)) 167 9 0) 178 j = N j := hN
  have w0 : ldI (stI (stI (stI (stI (stI m 167 4 0) 167 5 0) 167 6 0) 167 7 (-1)) 167 9 0) 167 15 = 1 := ld_n (by decide) (ld_n (by decide) (ld_n (by decide) (ld_n (by decide) (ld_n (by decide) hw))))
  have c0 : ldI (stI (stI (stI (stI (stI m 167 4 0) 167 5 0) 167 6 0) 167 7 (-1)) 167 9 0) 167 9 = nI 0 := ld_s
  generalize (stI (stI (stI (stI (stI m 167 4 0) 167 5 0) 167 6 0) 167 7 (-1)) 167 9 0) = M at e0 p0 n0 w0 c0 ⊢
  have hF := p0.1.1
  refine r_iconst (0) dX12_walks_25 rfl ?_
  refine si_1 dX12_walks_26 rfl (Nat.le_of_ble_eq_true rfl) ?_
  refine r_iload_n dX12_walks_27 rfl ?_
  refine r_bipush (8) dX12_walks_28 rfl ?_
  refine r_icmp_ge 46 dX12_walks_30 rfl (fun hz => absurd hz (by decide)) (fun _ => ?_)
  refine r_aload_n dX12_walks_33 rfl ?_
  refine r_getRc dX12_walks_34 fgX12_31 rfl (by exact k_167 hF) (by exact r_167_17 hF) ?_
  refine r_iload_n dX12_walks_37 rfl ?_
  refine r_lconst (0) dX12_walks_38 rfl ?_
  refine r_lastoren (0) rfl dX12_walks_39 (by exact k_179 hF) (vin (j := 0) (by omega) (by omega)) ?_
  refine ic_1 (1) dX12_walks_40 rfl rfl (Nat.le_of_ble_eq_true rfl) ?_
  refine r_goto 27 dX12_walks_43 rfl ?_
  refine r_iload_n dX12_walks_27 rfl ?_
  refine r_bipush (8) dX12_walks_28 rfl ?_
  refine r_icmp_ge 46 dX12_walks_30 rfl (fun hz => absurd hz (by decide)) (fun _ => ?_)
  refine r_aload_n dX12_walks_33 rfl ?_
  refine r_getRc dX12_walks_34 fgX12_31 rfl (by exact k_167 hF) (by exact r_167_17 hF) ?_
  refine r_iload_n dX12_walks_37 rfl ?_
  refine r_lconst (0) dX12_walks_38 rfl ?_
  refine r_lastoren (1) rfl dX12_walks_39 (by exact k_179 hF) (vin (j := 1) (by omega) (by omega)) ?_
  refine ic_1 (1) dX12_walks_40 rfl rfl (Nat.le_of_ble_eq_true rfl) ?_
  refine r_goto 27 dX12_walks_43 rfl ?_
  refine r_iload_n dX12_walks_27 rfl ?_
  refine r_bipush (8) dX12_walks_28 rfl ?_
  refine r_icmp_ge 46 dX12_walks_30 rfl (fun hz => absurd hz (by decide)) (fun _ => ?_)
  refine r_aload_n dX12_walks_33 rfl ?_
  refine r_getRc dX12_walks_34 fgX12_31 rfl (by exact k_167 hF) (by exact r_167_17 hF) ?_
  refine r_iload_n dX12_walks_37 rfl ?_
  refine r_lconst (0) dX12_walks_38 rfl ?_
  refine r_lastoren (2) rfl dX12_walks_39 (by exact k_179 hF) (vin (j := 2) (by omega) (by omega)) ?_
  refine ic_1 (1) dX12_walks_40 rfl rfl (Nat.le_of_ble_eq_true rfl) ?_
  refine r_goto 27 dX12_walks_43 rfl ?_
  refine r_iload_n dX12_walks_27 rfl ?_
  refine r_bipush (8) dX12_walks_28 rfl ?_
  refine r_icmp_ge 46 dX12_walks_30 rfl (fun hz => absurd hz (by decide)) (fun _ => ?_)
  refine r_aload_n dX12_walks_33 rfl ?_
  refine r_getRc dX12_walks_34 fgX12_31 rfl (by exact k_167 hF) (by exact r_167_17 hF) ?_
  refine r_iload_n dX12_walks_37 rfl ?_
  refine r_lconst (0) dX12_walks_38 rfl ?_
  refine r_lastoren (3) rfl dX12_walks_39 (by exact k_179 hF) (vin (j := 3) (by omega) (by omega)) ?_
  refine ic_1 (1) dX12_walks_40 rfl rfl (Nat.le_of_ble_eq_true rfl) ?_
  refine r_goto 27 dX12_walks_43 rfl ?_
  refine r_iload_n dX12_walks_27 rfl ?_
  refine r_bipush (8) dX12_walks_28 rfl ?_
  refine r_icmp_ge 46 dX12_walks_30 rfl (fun hz => absurd hz (by decide)) (fun _ => ?_)
  refine r_aload_n dX12_walks_33 rfl ?_
  refine r_getRc dX12_walks_34 fgX12_31 rfl (by exact k_167 hF) (by exact r_167_17 hF) ?_
  refine r_iload_n dX12_walks_37 rfl ?_
  refine r_lconst (0) dX12_walks_38 rfl ?_
  refine r_lastoren (4) rfl dX12_walks_39 (by exact k_179 hF) (vin (j := 4) (by omega) (by omega)) ?_
  refine ic_1 (1) dX12_walks_40 rfl rfl (Nat.le_of_ble_eq_true rfl) ?_
  refine r_goto 27 dX12_walks_43 rfl ?_
  refine r_iload_n dX12_walks_27 rfl ?_
  refine r_bipush (8) dX12_walks_28 rfl ?_
  refine r_icmp_ge 46 dX12_walks_30 rfl (fun hz => absurd hz (by decide)) (fun _ => ?_)
  refine r_aload_n dX12_walks_33 rfl ?_
  refine r_getRc dX12_walks_34 fgX12_31 rfl (by exact k_167 hF) (by exact r_167_17 hF) ?_
  refine r_iload_n dX12_walks_37 rfl ?_
  refine r_lconst (0) dX12_walks_38 rfl ?_
  refine r_lastoren (5) rfl dX12_walks_39 (by exact k_179 hF) (vin (j := 5) (by omega) (by omega)) ?_
  refine ic_1 (1) dX12_walks_40 rfl rfl (Nat.le_of_ble_eq_true rfl) ?_
  refine r_goto 27 dX12_walks_43 rfl ?_
  refine r_iload_n dX12_walks_27 rfl ?_
  refine r_bipush (8) dX12_walks_28 rfl ?_
  refine r_icmp_ge 46 dX12_walks_30 rfl (fun hz => absurd hz (by decide)) (fun _ => ?_)
  refine r_aload_n dX12_walks_33 rfl ?_
  refine r_getRc dX12_walks_34 fgX12_31 rfl (by exact k_167 hF) (by exact r_167_17 hF) ?_
  refine r_iload_n dX12_walks_37 rfl ?_
  refine r_lconst (0) dX12_walks_38 rfl ?_
  refine r_lastoren (6) rfl dX12_walks_39 (by exact k_179 hF) (vin (j := 6) (by omega) (by omega)) ?_
  refine ic_1 (1) dX12_walks_40 rfl rfl (Nat.le_of_ble_eq_true rfl) ?_
  refine r_goto 27 dX12_walks_43 rfl ?_
  refine r_iload_n dX12_walks_27 rfl ?_
  refine r_bipush (8) dX12_walks_28 rfl ?_
  refine r_icmp_ge 46 dX12_walks_30 rfl (fun hz => absurd hz (by decide)) (fun _ => ?_)
  refine r_aload_n dX12_walks_33 rfl ?_
  refine r_getRc dX12_walks_34 fgX12_31 rfl (by exact k_167 hF) (by exact r_167_17 hF) ?_
  refine r_iload_n dX12_walks_37 rfl ?_
  refine r_lconst (0) dX12_walks_38 rfl ?_
  refine r_lastoren (7) rfl dX12_walks_39 (by exact k_179 hF) (vin (j := 7) (by omega) (by omega)) ?_
  refine ic_1 (1) dX12_walks_40 rfl rfl (Nat.le_of_ble_eq_true rfl) ?_
  refine r_goto 27 dX12_walks_43 rfl ?_
  refine r_iload_n dX12_walks_27 rfl ?_
  refine r_bipush (8) dX12_walks_28 rfl ?_
  refine r_icmp_ge 46 dX12_walks_30 rfl (fun _ => ?_) (fun hz => absurd hz (by decide))
  have e1 : Sw m (stL (stL (stL (stL (stL (stL (stL (stL M 179 0 0) 179 1 0) 179 2 0) 179 3 0) 179 4 0) 179 5 0) 179 6 0) 179 7 0) := ((((((((e0.l (by omega) (by omega)).l (by omega) (by omega)).l (by omega) (by omega)).l (by omega) (by omega)).l (by omega) (by omega)).l (by omega) (by omega)).l (by omega) (by omega)).l (by omega) (by omega))
  have hp : RPa b n 0 0 (stL (stL (stL (stL (stL (stL (stL (stL M 179 0 0) 179 1 0) 179 2 0) 179 3 0) 179 4 0) 179 5 0) 179 6 0) 179 7 0) := p0
  have n1 : ∀ j, j < 10 → ldL (stL (stL (stL (stL (stL (stL (stL (stL M 179 0 0) 179 1 0) 179 2 0) 179 3 0) 179 4 0) 179 5 0) 179 6 0) 179 7 0) 178 j = N j := fun j hj => by
    simp only [ldL_stL]; rw [if_neg (by omega), if_neg (by omega), if_neg (by omega), if_neg (by omega), if_neg (by omega), if_neg (by omega), if_neg (by omega), if_neg (by omega)]; exact n0 j hj
  have z1 : ∀ j, j < 8 → ldL (stL (stL (stL (stL (stL (stL (stL (stL M 179 0 0) 179 1 0) 179 2 0) 179 3 0) 179 4 0) 179 5 0) 179 6 0) 179 7 0) 179 j = 0 := fun j hj => by
    simp only [ldL_stL]
    rcases j with _ | _ | _ | _ | _ | _ | _ | _ | j
    · first | rfl | simp
    · first | rfl | simp
    · first | rfl | simp
    · first | rfl | simp
    · first | rfl | simp
    · first | rfl | simp
    · first | rfl | simp
    · first | rfl | simp
    · omega
  have w1 : ldI (stL (stL (stL (stL (stL (stL (stL (stL M 179 0 0) 179 1 0) 179 2 0) 179 3 0) 179 4 0) 179 5 0) 179 6 0) 179 7 0) 167 15 = 1 := w0
  have c1 : ldI (stL (stL (stL (stL (stL (stL (stL (stL M 179 0 0) 179 1 0) 179 2 0) 179 3 0) 179 4 0) 179 5 0) 179 6 0) 179 7 0) 167 9 = nI 0 := c0
  generalize (stL (stL (stL (stL (stL (stL (stL (stL M 179 0 0) 179 1 0) 179 2 0) 179 3 0) 179 4 0) 179 5 0) 179 6 0) 179 7 0) = M1 at e1 hp n1 z1 w1 c1 ⊢
  have hF := hp.1.1
  refine r_aload_n dX12_walks_46 rfl ?_
  refine r_callV0 (ci := 12) (d1 := 1) (c1 := 0) (n1 := 0) dX12_walks_47 mvX12_145 rfl ⟨(Nat.le_of_ble_eq_true rfl), rfl⟩ (Nat.le_of_ble_eq_true rfl) (by exact Nat.le_of_ble_eq_true rfl) (by exact k_167 hF) ?_
  refine S_blanksP hp (fun m2 s2 h2 => ?_)
  have hF := h2.1.1
  show Wp g mX12_walks _ _ _ 50 _ [] _ Q
  exact L_walk1 16 0 (rE b n isBl 0, [], fun _ _ => 0) m2 (by omega) h2 rE_id (s2.n n1) ((s2.2.1 167 15 (by omega)).trans w1) ((s2.2.1 167 9 (by omega)).trans c1) (fun j hj => (s2.2.2 179 j trivial).trans (z1 j hj)) (fun e he m9 q9 => k0 e he m9 ((e1.tr (sy_sc s2)).tr q9)) (fun r hr m9 q9 => k1 r hr m9 ((e1.tr (sy_sc s2)).tr q9))
