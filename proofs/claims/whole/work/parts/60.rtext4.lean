def isCh (c : Int32) : Prop := isDg c = false ∧ isLt c = false ∧ 0 ≤ c ∧ c < 256
theorem ch_tk {b : Nat → Int32} {n s : Nat} {c : Int32} (hc : isCh c) : byB b n s = c ↔ tkP b n s = c := by
  obtain ⟨c1, c2, c3, c4⟩ := hc
  have q3 := Int32.le_iff_toInt_le.mp c3
  have q4 := Int32.lt_iff_toInt_lt.mp c4
  have z0 : (0 : Int32).toInt = 0 := rfl
  have z2 : (256 : Int32).toInt = 256 := rfl
  constructor
  · intro h
    have w := byB_in h (fun q => by rw [q] at q3; exact absurd q3 (by decide))
    unfold tkP
    rw [if_neg (by omega), w.2, c1, c2]; rfl
  · intro h
    by_cases d1 : n ≤ s
    · rw [tkP_end d1] at h; rw [← h] at q3; exact absurd q3 (by decide)
    · have e : byB b n s = b s := if_pos (by omega)
      rw [e]
      unfold tkP at h
      rw [if_neg d1] at h
      by_cases d2 : isDg (b s) = true
      · rw [if_pos d2] at h; rw [← h] at q3; exact absurd q3 (by decide)
      · rw [if_neg d2] at h
        by_cases d3 : isLt (b s) = true
        · rw [if_pos d3] at h
          rcases wIx_cases (b := b) (s := s) (e := rE b n isLt s) wds 256 (by decide) with y | ⟨j, j1, j2, y⟩
          · rw [y] at h; rw [← h] at q3; exact absurd q3 (by decide)
          · rw [y] at h
            have j3 : j < 281 := j2
            rw [← h, nI_int j (by omega)] at q4; omega
        · rw [if_neg d3] at h; exact h
theorem nx_ch {b : Nat → Int32} {n s : Nat} {c : Int32} (hc : isCh c) (h : byB b n s = c) : s < n ∧ nxP b n s = s + 1 := by
  obtain ⟨c1, c2, c3, c4⟩ := hc
  have w := byB_in h (fun q => by rw [q] at c3; exact absurd c3 (by decide))
  refine ⟨w.1, ?_⟩
  unfold nxP
  rw [if_neg (by omega), w.2, c1, c2]; rfl
theorem dg_tk {b : Nat → Int32} {n s : Nat} (hb : ∀ j, j < n → iv 0 255 (b j)) : isDg (byB b n s) = true ↔ tkP b n s = -2 := by
  rw [byB_dg]
  constructor
  · rintro ⟨h1, h2⟩; unfold tkP; rw [if_neg (by omega), if_pos h2]
  · intro h
    by_cases d1 : n ≤ s
    · rw [tkP_end d1] at h; exact absurd h (by decide)
    · unfold tkP at h
      rw [if_neg d1] at h
      by_cases d2 : isDg (b s) = true
      · exact ⟨by omega, d2⟩
      · rw [if_neg d2] at h
        by_cases d3 : isLt (b s) = true
        · rw [if_pos d3] at h; exact absurd h wIx_n2
        · rw [if_neg d3] at h
          have := hb s (by omega); unfold iv at this; rw [h] at this; exact absurd this.1 (by decide)
theorem nx_dg {b : Nat → Int32} {n s : Nat} (h : tkP b n s = -2) (hb : ∀ j, j < n → iv 0 255 (b j)) : nxP b n s = rE b n isDg s := by
  have w := byB_dg.mp ((dg_tk hb).mpr h)
  unfold nxP; rw [if_neg (by omega), if_pos w.2]
theorem nx_w {b : Nat → Int32} {n s : Nat} {i : Nat} (hi : i < 25) (hb : ∀ j, j < n → iv 0 255 (b j)) (h : tkP b n s = nI (256 + i)) : nxP b n s = rE b n isLt s ∧ s + (wds.getD i []).length = rE b n isLt s := by
  have w := (wEq_iff _ _).mp ((wEq_w hi).mpr ((tk_w hb hi).mp h))
  obtain ⟨o1, o2, o3⟩ := wds_ok i hi
  have hs : s < n ∧ isLt (b s) = true := rE_i (b := b) (n := n) (P := isLt) (p := s) (j := s) (Nat.le_refl _) (by omega)
  have hd : ¬ isDg (b s) = true := fun q => by
    have a := of_decide_eq_true hs.2
    have c := of_decide_eq_true q
    simp only [Int32.le_iff_toInt_le] at a c
    have a1 : (97 : Int32).toInt = 97 := rfl
    have a2 : (57 : Int32).toInt = 57 := rfl
    omega
  refine ⟨?_, w.1⟩
  unfold nxP; rw [if_neg (by omega), if_neg hd, if_pos hs.2]
def RP (b : Nat → Int32) (n s o : Nat) (m : MM) : Prop := ∃ a, RPa b n a o m ∧ rE b n isBl a = s
def NtR (g : GG) (b : Nat → Int32) (n : Nat) (μ : MD) (o d : Nat) (f : Nat → Rs) : Prop := ∀ (m : MM) (s : Nat) (N : Nat → Int64) (Q : Out → Prop), RP b n s o m → (∀ j, j < 10 → ldL m 178 j = N j) → (∀ e, f s = .inl e → ∀ m' v, Sy m m' → RE b n n e m' → Q (.inl (some (.long v)), m')) → (∀ r, f s = .inr r → ∀ m', Sy m m' → RP b n r.1 o m' → Q (.inl (some (.long (r.2.2 (cut N)))), m')) → Cl g d 0 0 μ [.ref 167] m Q
def NtE (g : GG) (b : Nat → Int32) (n : Nat) (μ : MD) (d : Nat) : Prop := ∀ (m : MM) (K : Nat) (e : Er) (Q : Out → Prop), RE b n K e m → (∀ m' v, Sy m m' → RE b n K e m' → Q (.inl (some (.long v)), m')) → Cl g d 0 0 μ [.ref 167] m Q
theorem Sy.n {m m' : MM} {N : Nat → Int64} (s : Sy m m') (h : ∀ j, j < 10 → ldL m 178 j = N j) : ∀ j, j < 10 → ldL m' 178 j = N j := fun j hj => (s.2.2 178 j (by decide)).trans (h j hj)
theorem RPa.at1 {b : Nat → Int32} {n a o : Nat} {m : MM} (h : RPa b n a o m) (ha : a < n) : RPa b n (a + 1) o (stI m 167 4 (nI (a + 1))) ∧ Sy m (stI m 167 4 (nI (a + 1))) := ⟨⟨h.1.sy (Sy.rf.s (by omega) (by omega) (by omega)), ld_s, ha, ld_n (by decide) h.2.2.2.1, ld_n (by decide) h.2.2.2.2.1, ld_n (by decide) h.2.2.2.2.2⟩, Sy.rf.s (by omega) (by omega) (by omega)⟩
theorem T_X12_productE {g : GG} {m : MM} {Q : Out → Prop} {b : Nat → Int32} {n K d : Nat} {e : Er} (h : RE b n K e m) {v : Int64} {x3 x4 x5 : Value} (k : Q (.inl (some (.long v)), m)) : Wp g mX12_product d 0 0 9 [.ref 167, .long v, .retAddr 0, x3, x4, x5] [] m Q := by
  have hF := h.1.1
  refine r_aload_n dX12_product_9 rfl ?_
  refine r_getIc (e.1) dX12_product_10 fgX12_124 rfl (by exact k_167 hF) (by exact h.2.2.1) ?_
  refine r_if_ne 103 dX12_product_13 rfl (fun hz => ?_) (fun hz => ?_)
  ·
    refine r_lload_n dX12_product_103 rfl ?_
    refine r_lreturn dX12_product_104 rfl ?_
    exact k
  ·
    exact absurd hz h.2.2.2.1
theorem L_X12_product {g : GG} {Q : Out → Prop} {b : Nat → Int32} {n o d : Nat} {f : Nat → Rs} {N : Nat → Int64} (hd : 1 ≤ d) (hu : NtR g b n mX12_unit o d f) (hg : GdF b n f) : ∀ (k : Nat) (a : Ok) (m : MM) (x3 x4 x5 : Value), n ≤ a.1 + k → RPa b n a.1 o m → rE b n isBl a.1 = a.1 → x3.category = 1 → (∀ j, j < 10 → ldL m 178 j = N j) → (∀ e, chL b n f J3 k a = .inl e → ∀ m' v, Sy m m' → RE b n n e m' → Q (.inl (some (.long v)), m')) → (∀ r, chL b n f J3 k a = .inr r → ∀ m', Sy m m' → RP b n r.1 o m' → Q (.inl (some (.long (r.2.2 (cut N)))), m')) → Wp g mX12_product (d + 1) 0 0 9 [.ref 167, .long (a.2.2 (cut N)), .retAddr 0, x3, x4, x5] [] m Q := by
  intro k
  induction k with
  | zero =>
    intro a m x3 x4 x5 hk h ha hx3 hN k0 k1
    have hT := h.1
    have hF := hT.1
    have hn := hT.2.1
    have han := h.2.2.1
    have eb : byB b n a.1 = -1 := if_neg (by omega)
    refine r_aload_n dX12_product_9 rfl ?_
    refine r_getIc (0) dX12_product_10 fgX12_124 rfl (by exact k_167 hF) (by exact h.2.2.2.2.1) ?_
    refine r_if_ne 103 dX12_product_13 rfl (fun hz => absurd hz (by decide)) (fun _ => ?_)
    refine r_aload_n dX12_product_16 rfl ?_
    refine r_aload_n dX12_product_17 rfl ?_
    refine r_getIc (nI a.1) dX12_product_18 fgX12_117 rfl (by exact k_167 hF) (by exact h.2.1) ?_
    refine r_callV1 (ci := 12) (d1 := 0) (c1 := 0) (n1 := 0) dX12_product_21 mvX12_120 rfl ⟨(Nat.le_of_ble_eq_true rfl), rfl⟩ (by omega) (by exact Nat.le_of_ble_eq_true rfl) (by exact k_167 hF) ?_
    refine S_byteAt hT (k := a.1) (by omega) ?_
    show Wp g mX12_product _ _ _ 24 _ (_ :: _) _ Q
    refine r_bipush (42) dX12_product_24 rfl ?_
    refine r_icmp_eq 42 dX12_product_26 rfl (fun t1 => ?_) (fun t1 => ?_)
    ·
      exact absurd (eb.symm.trans t1) (by decide)
    ·
      refine r_aload_n dX12_product_29 rfl ?_
      refine r_aload_n dX12_product_30 rfl ?_
      refine r_getIc (nI a.1) dX12_product_31 fgX12_117 rfl (by exact k_167 hF) (by exact h.2.1) ?_
      refine r_callV1 (ci := 12) (d1 := 0) (c1 := 0) (n1 := 0) dX12_product_34 mvX12_120 rfl ⟨(Nat.le_of_ble_eq_true rfl), rfl⟩ (by omega) (by exact Nat.le_of_ble_eq_true rfl) (by exact k_167 hF) ?_
      refine S_byteAt hT (k := a.1) (by omega) ?_
      show Wp g mX12_product _ _ _ 37 _ (_ :: _) _ Q
      refine r_bipush (47) dX12_product_37 rfl ?_
      refine r_icmp_ne 103 dX12_product_39 rfl (fun t2 => ?_) (fun t2 => ?_)
      ·
        refine r_lload_n dX12_product_103 rfl ?_
        refine r_lreturn dX12_product_104 rfl ?_
        exact k1 a rfl m Sy.rf ⟨a.1, h, ha⟩
      ·
        exact absurd (eb.symm.trans t2) (by decide)
  | succ k ih =>
    intro a m x3 x4 x5 hk h ha hx3 hN k0 k1
    have hT := h.1
    have hF := hT.1
    have hn := hT.2.1
    have han := h.2.2.1
    refine r_aload_n dX12_product_9 rfl ?_
    refine r_getIc (0) dX12_product_10 fgX12_124 rfl (by exact k_167 hF) (by exact h.2.2.2.2.1) ?_
    refine r_if_ne 103 dX12_product_13 rfl (fun hz => absurd hz (by decide)) (fun _ => ?_)
    refine r_aload_n dX12_product_16 rfl ?_
    refine r_aload_n dX12_product_17 rfl ?_
    refine r_getIc (nI a.1) dX12_product_18 fgX12_117 rfl (by exact k_167 hF) (by exact h.2.1) ?_
    refine r_callV1 (ci := 12) (d1 := 0) (c1 := 0) (n1 := 0) dX12_product_21 mvX12_120 rfl ⟨(Nat.le_of_ble_eq_true rfl), rfl⟩ (by omega) (by exact Nat.le_of_ble_eq_true rfl) (by exact k_167 hF) ?_
    refine S_byteAt hT (k := a.1) (by omega) ?_
    show Wp g mX12_product _ _ _ 24 _ (_ :: _) _ Q
    refine r_bipush (42) dX12_product_24 rfl ?_
    refine r_icmp_eq 42 dX12_product_26 rfl (fun t1 => ?_) (fun t1 => ?_)
    ·
      have hx := nx_ch (c := 42) (by unfold isCh; decide) t1
      have tk := (ch_tk (c := 42) (by unfold isCh; decide)).mp t1
      obtain ⟨z1, z2⟩ := h.at1 hx.1
      have hj : J3 (tkP b n a.1) = true := by rw [tk]; decide
      have w := ad_of tk (by decide)
      refine r_aload_n dX12_product_42 rfl ?_
      refine r_aload_n dX12_product_43 rfl ?_
      refine r_getIc (nI a.1) dX12_product_44 fgX12_117 rfl (by exact k_167 hF) (by exact h.2.1) ?_
      refine r_callV1 (ci := 12) (d1 := 0) (c1 := 0) (n1 := 0) dX12_product_47 mvX12_120 rfl ⟨(Nat.le_of_ble_eq_true rfl), rfl⟩ (by omega) (by exact Nat.le_of_ble_eq_true rfl) (by exact k_167 hF) ?_
      refine S_byteAt hT (k := a.1) (by omega) ?_
      show Wp g mX12_product _ _ _ 50 _ (_ :: _) _ Q
      refine si_3 dX12_product_50 (by first | rfl | assumption) (Nat.le_of_ble_eq_true rfl) ?_
      refine r_aload_n dX12_product_51 rfl ?_
      refine r_dup dX12_product_52 rfl ?_
      refine r_getIc (nI a.1) dX12_product_53 fgX12_117 rfl (by exact k_167 hF) (by exact h.2.1) ?_
      refine r_iconst (1) dX12_product_56 rfl ?_
      refine r_iadd dX12_product_57 ?_
      rw [nI_1]
      refine r_putI dX12_product_58 (fpX12_117 _ rfl) rfl (by exact k_167 hF) ⟨rfl, rfl⟩ ?_
      refine r_aload_n dX12_product_61 rfl ?_
      refine r_callV0 (ci := 12) (d1 := d) (c1 := 0) (n1 := 0) dX12_product_62 mvX12_191 rfl ⟨(Nat.le_of_ble_eq_true rfl), rfl⟩ (by omega) (by exact Nat.le_of_ble_eq_true rfl) (by exact k_167 hF) ?_
      refine hu _ (adP b n a.1) N _ ⟨a.1 + 1, z1, by unfold adP; rw [hx.2]⟩ (z2.n hN) (fun e he m1 v1 s1 h1 => ?_) (fun r hr m1 s1 h1 => ?_)
      ·
        have hF := h1.1.1
        show Wp g mX12_product _ _ _ 65 _ (_ :: _) _ Q
        refine sl_4 dX12_product_65 (by first | rfl | assumption) (Nat.le_of_ble_eq_true rfl) ?_
        refine r_iload_n dX12_product_67 rfl ?_
        refine r_bipush (42) dX12_product_68 rfl ?_
        refine r_icmp_ne 80 dX12_product_70 rfl (fun t3 => ?_) (fun t3 => ?_)
        ·
          exact absurd t1 t3
        ·
          refine r_lload_n dX12_product_73 rfl ?_
          refine r_lload dX12_product_74 rfl ?_
          refine r_lmul dX12_product_76 ?_
          refine r_goto 95 dX12_product_77 rfl ?_
          refine sl_1 dX12_product_95 (by first | rfl | assumption) (Nat.le_of_ble_eq_true rfl) ?_
          refine r_aload_n dX12_product_96 rfl ?_
          refine r_callV0 (ci := 12) (d1 := 1) (c1 := 0) (n1 := 0) dX12_product_97 mvX12_145 rfl ⟨(Nat.le_of_ble_eq_true rfl), rfl⟩ (by omega) (by exact Nat.le_of_ble_eq_true rfl) (by exact k_167 hF) ?_
          refine S_blanksE h1 (fun m2 s2 h2 => ?_)
          have hF := h2.1.1
          show Wp g mX12_product _ _ _ 100 _ [] _ Q
          refine r_goto 9 dX12_product_100 rfl ?_
          exact T_X12_productE h2 (k0 e ((if_pos hj).trans (rB_l he)) m2 _ ((z2.tr s1).tr s2) h2)
      ·
        obtain ⟨a1, h1, ha1⟩ := h1
        have hF := h1.1.1
        show Wp g mX12_product _ _ _ 65 _ (_ :: _) _ Q
        refine sl_4 dX12_product_65 (by first | rfl | assumption) (Nat.le_of_ble_eq_true rfl) ?_
        refine r_iload_n dX12_product_67 rfl ?_
        refine r_bipush (42) dX12_product_68 rfl ?_
        refine r_icmp_ne 80 dX12_product_70 rfl (fun t3 => ?_) (fun t3 => ?_)
        ·
          exact absurd t1 t3
        ·
          refine r_lload_n dX12_product_73 rfl ?_
          refine r_lload dX12_product_74 rfl ?_
          refine r_lmul dX12_product_76 ?_
          refine r_goto 95 dX12_product_77 rfl ?_
          refine sl_1 dX12_product_95 (by first | rfl | assumption) (Nat.le_of_ble_eq_true rfl) ?_
          refine r_aload_n dX12_product_96 rfl ?_
          refine r_callV0 (ci := 12) (d1 := 1) (c1 := 0) (n1 := 0) dX12_product_97 mvX12_145 rfl ⟨(Nat.le_of_ble_eq_true rfl), rfl⟩ (by omega) (by exact Nat.le_of_ble_eq_true rfl) (by exact k_167 hF) ?_
          refine S_blanksP h1 (fun m2 s2 h2 => ?_)
          have hF := h2.1.1
          show Wp g mX12_product _ _ _ 100 _ [] _ Q
          refine r_goto 9 dX12_product_100 rfl ?_
          have e9 : chL b n f J3 (k + 1) a = chL b n f J3 k (r.1, a.2.1 ++ r.2.1 ++ [tkP b n a.1], fun N => jnF (tkP b n a.1) (a.2.2 N) (r.2.2 N)) := (if_pos hj).trans (rB_r hr)
          rw [e9] at k0 k1
          rw [ha1] at h2
          have v := hg _ w.2.2 r hr
          have L := ih (r.1, a.2.1 ++ r.2.1 ++ [tkP b n a.1], fun N => jnF (tkP b n a.1) (a.2.2 N) (r.2.2 N)) m2 (.int (byB b n a.1)) (.long (r.2.2 (cut N))) (.retAddr 0) (by show n ≤ r.1 + k; omega) h2 (by rw [← ha1]; exact rE_id) rfl (s2.n (s1.n (z2.n hN))) (fun e he m9 v9 q9 => k0 e he m9 v9 (((z2.tr s1).tr s2).tr q9)) (fun r hr m9 q9 => k1 r hr m9 (((z2.tr s1).tr s2).tr q9))
          dsimp only at L
          rw [show jnF (tkP b n a.1) (a.2.2 (cut N)) (r.2.2 (cut N)) = a.2.2 (cut N) * r.2.2 (cut N) from by rw [tk]; rfl] at L
          exact L
    ·
      refine r_aload_n dX12_product_29 rfl ?_
      refine r_aload_n dX12_product_30 rfl ?_
      refine r_getIc (nI a.1) dX12_product_31 fgX12_117 rfl (by exact k_167 hF) (by exact h.2.1) ?_
      refine r_callV1 (ci := 12) (d1 := 0) (c1 := 0) (n1 := 0) dX12_product_34 mvX12_120 rfl ⟨(Nat.le_of_ble_eq_true rfl), rfl⟩ (by omega) (by exact Nat.le_of_ble_eq_true rfl) (by exact k_167 hF) ?_
      refine S_byteAt hT (k := a.1) (by omega) ?_
      show Wp g mX12_product _ _ _ 37 _ (_ :: _) _ Q
      refine r_bipush (47) dX12_product_37 rfl ?_
      refine r_icmp_ne 103 dX12_product_39 rfl (fun t2 => ?_) (fun t2 => ?_)
      ·
        refine r_lload_n dX12_product_103 rfl ?_
        refine r_lreturn dX12_product_104 rfl ?_
        exact k1 a (if_neg (fun q => (of_decide_eq_true q).elim (fun z => t1 ((ch_tk (by unfold isCh; decide)).mpr z)) (fun z => t2 ((ch_tk (by unfold isCh; decide)).mpr z)))) m Sy.rf ⟨a.1, h, ha⟩
      ·
        have hx := nx_ch (c := 47) (by unfold isCh; decide) t2
        have tk := (ch_tk (c := 47) (by unfold isCh; decide)).mp t2
        obtain ⟨z1, z2⟩ := h.at1 hx.1
        have hj : J3 (tkP b n a.1) = true := by rw [tk]; decide
        have w := ad_of tk (by decide)
        refine r_aload_n dX12_product_42 rfl ?_
        refine r_aload_n dX12_product_43 rfl ?_
        refine r_getIc (nI a.1) dX12_product_44 fgX12_117 rfl (by exact k_167 hF) (by exact h.2.1) ?_
        refine r_callV1 (ci := 12) (d1 := 0) (c1 := 0) (n1 := 0) dX12_product_47 mvX12_120 rfl ⟨(Nat.le_of_ble_eq_true rfl), rfl⟩ (by omega) (by exact Nat.le_of_ble_eq_true rfl) (by exact k_167 hF) ?_
        refine S_byteAt hT (k := a.1) (by omega) ?_
        show Wp g mX12_product _ _ _ 50 _ (_ :: _) _ Q
        refine si_3 dX12_product_50 (by first | rfl | assumption) (Nat.le_of_ble_eq_true rfl) ?_
        refine r_aload_n dX12_product_51 rfl ?_
        refine r_dup dX12_product_52 rfl ?_
        refine r_getIc (nI a.1) dX12_product_53 fgX12_117 rfl (by exact k_167 hF) (by exact h.2.1) ?_
        refine r_iconst (1) dX12_product_56 rfl ?_
        refine r_iadd dX12_product_57 ?_
        rw [nI_1]
        refine r_putI dX12_product_58 (fpX12_117 _ rfl) rfl (by exact k_167 hF) ⟨rfl, rfl⟩ ?_
        refine r_aload_n dX12_product_61 rfl ?_
        refine r_callV0 (ci := 12) (d1 := d) (c1 := 0) (n1 := 0) dX12_product_62 mvX12_191 rfl ⟨(Nat.le_of_ble_eq_true rfl), rfl⟩ (by omega) (by exact Nat.le_of_ble_eq_true rfl) (by exact k_167 hF) ?_
        refine hu _ (adP b n a.1) N _ ⟨a.1 + 1, z1, by unfold adP; rw [hx.2]⟩ (z2.n hN) (fun e he m1 v1 s1 h1 => ?_) (fun r hr m1 s1 h1 => ?_)
        ·
          have hF := h1.1.1
          show Wp g mX12_product _ _ _ 65 _ (_ :: _) _ Q
          refine sl_4 dX12_product_65 (by first | rfl | assumption) (Nat.le_of_ble_eq_true rfl) ?_
          refine r_iload_n dX12_product_67 rfl ?_
          refine r_bipush (42) dX12_product_68 rfl ?_
          refine r_icmp_ne 80 dX12_product_70 rfl (fun t3 => ?_) (fun t3 => ?_)
          ·
            refine r_lload dX12_product_80 rfl ?_
            refine r_lconst (0) dX12_product_82 rfl ?_
            refine r_lcmp_ne 91 dX12_product_83 dX12_product_84 rfl (fun t4 => ?_) (fun t4 => ?_)
            ·
              refine r_lload_n dX12_product_91 rfl ?_
              refine r_lload dX12_product_92 rfl ?_
              refine r_ldiv dX12_product_94 t4 ?_
              refine sl_1 dX12_product_95 (by first | rfl | assumption) (Nat.le_of_ble_eq_true rfl) ?_
              refine r_aload_n dX12_product_96 rfl ?_
              refine r_callV0 (ci := 12) (d1 := 1) (c1 := 0) (n1 := 0) dX12_product_97 mvX12_145 rfl ⟨(Nat.le_of_ble_eq_true rfl), rfl⟩ (by omega) (by exact Nat.le_of_ble_eq_true rfl) (by exact k_167 hF) ?_
              refine S_blanksE h1 (fun m2 s2 h2 => ?_)
              have hF := h2.1.1
              show Wp g mX12_product _ _ _ 100 _ [] _ Q
              refine r_goto 9 dX12_product_100 rfl ?_
              exact T_X12_productE h2 (k0 e ((if_pos hj).trans (rB_l he)) m2 _ ((z2.tr s1).tr s2) h2)
            ·
              refine r_lconst (0) dX12_product_87 rfl ?_
              refine r_goto 95 dX12_product_88 rfl ?_
              refine sl_1 dX12_product_95 (by first | rfl | assumption) (Nat.le_of_ble_eq_true rfl) ?_
              refine r_aload_n dX12_product_96 rfl ?_
              refine r_callV0 (ci := 12) (d1 := 1) (c1 := 0) (n1 := 0) dX12_product_97 mvX12_145 rfl ⟨(Nat.le_of_ble_eq_true rfl), rfl⟩ (by omega) (by exact Nat.le_of_ble_eq_true rfl) (by exact k_167 hF) ?_
              refine S_blanksE h1 (fun m2 s2 h2 => ?_)
              have hF := h2.1.1
              show Wp g mX12_product _ _ _ 100 _ [] _ Q
              refine r_goto 9 dX12_product_100 rfl ?_
              exact T_X12_productE h2 (k0 e ((if_pos hj).trans (rB_l he)) m2 _ ((z2.tr s1).tr s2) h2)
          ·
            exact absurd (t3.symm.trans t2) (by decide)
        ·
          obtain ⟨a1, h1, ha1⟩ := h1
          have hF := h1.1.1
          show Wp g mX12_product _ _ _ 65 _ (_ :: _) _ Q
          refine sl_4 dX12_product_65 (by first | rfl | assumption) (Nat.le_of_ble_eq_true rfl) ?_
          refine r_iload_n dX12_product_67 rfl ?_
          refine r_bipush (42) dX12_product_68 rfl ?_
          refine r_icmp_ne 80 dX12_product_70 rfl (fun t3 => ?_) (fun t3 => ?_)
          ·
            refine r_lload dX12_product_80 rfl ?_
            refine r_lconst (0) dX12_product_82 rfl ?_
            refine r_lcmp_ne 91 dX12_product_83 dX12_product_84 rfl (fun t4 => ?_) (fun t4 => ?_)
            ·
              refine r_lload_n dX12_product_91 rfl ?_
              refine r_lload dX12_product_92 rfl ?_
              refine r_ldiv dX12_product_94 t4 ?_
              refine sl_1 dX12_product_95 (by first | rfl | assumption) (Nat.le_of_ble_eq_true rfl) ?_
              refine r_aload_n dX12_product_96 rfl ?_
              refine r_callV0 (ci := 12) (d1 := 1) (c1 := 0) (n1 := 0) dX12_product_97 mvX12_145 rfl ⟨(Nat.le_of_ble_eq_true rfl), rfl⟩ (by omega) (by exact Nat.le_of_ble_eq_true rfl) (by exact k_167 hF) ?_
              refine S_blanksP h1 (fun m2 s2 h2 => ?_)
              have hF := h2.1.1
              show Wp g mX12_product _ _ _ 100 _ [] _ Q
              refine r_goto 9 dX12_product_100 rfl ?_
              have e9 : chL b n f J3 (k + 1) a = chL b n f J3 k (r.1, a.2.1 ++ r.2.1 ++ [tkP b n a.1], fun N => jnF (tkP b n a.1) (a.2.2 N) (r.2.2 N)) := (if_pos hj).trans (rB_r hr)
              rw [e9] at k0 k1
              rw [ha1] at h2
              have v := hg _ w.2.2 r hr
              have L := ih (r.1, a.2.1 ++ r.2.1 ++ [tkP b n a.1], fun N => jnF (tkP b n a.1) (a.2.2 N) (r.2.2 N)) m2 (.int (byB b n a.1)) (.long (r.2.2 (cut N))) (.retAddr 0) (by show n ≤ r.1 + k; omega) h2 (by rw [← ha1]; exact rE_id) rfl (s2.n (s1.n (z2.n hN))) (fun e he m9 v9 q9 => k0 e he m9 v9 (((z2.tr s1).tr s2).tr q9)) (fun r hr m9 q9 => k1 r hr m9 (((z2.tr s1).tr s2).tr q9))
              dsimp only at L
              rw [show jnF (tkP b n a.1) (a.2.2 (cut N)) (r.2.2 (cut N)) = a.2.2 (cut N) / r.2.2 (cut N) from by rw [tk]; exact if_neg t4] at L
              exact L
            ·
              refine r_lconst (0) dX12_product_87 rfl ?_
              refine r_goto 95 dX12_product_88 rfl ?_
              refine sl_1 dX12_product_95 (by first | rfl | assumption) (Nat.le_of_ble_eq_true rfl) ?_
              refine r_aload_n dX12_product_96 rfl ?_
              refine r_callV0 (ci := 12) (d1 := 1) (c1 := 0) (n1 := 0) dX12_product_97 mvX12_145 rfl ⟨(Nat.le_of_ble_eq_true rfl), rfl⟩ (by omega) (by exact Nat.le_of_ble_eq_true rfl) (by exact k_167 hF) ?_
              refine S_blanksP h1 (fun m2 s2 h2 => ?_)
              have hF := h2.1.1
              show Wp g mX12_product _ _ _ 100 _ [] _ Q
              refine r_goto 9 dX12_product_100 rfl ?_
              have e9 : chL b n f J3 (k + 1) a = chL b n f J3 k (r.1, a.2.1 ++ r.2.1 ++ [tkP b n a.1], fun N => jnF (tkP b n a.1) (a.2.2 N) (r.2.2 N)) := (if_pos hj).trans (rB_r hr)
              rw [e9] at k0 k1
              rw [ha1] at h2
              have v := hg _ w.2.2 r hr
              have L := ih (r.1, a.2.1 ++ r.2.1 ++ [tkP b n a.1], fun N => jnF (tkP b n a.1) (a.2.2 N) (r.2.2 N)) m2 (.int (byB b n a.1)) (.long (r.2.2 (cut N))) (.retAddr 0) (by show n ≤ r.1 + k; omega) h2 (by rw [← ha1]; exact rE_id) rfl (s2.n (s1.n (z2.n hN))) (fun e he m9 v9 q9 => k0 e he m9 v9 (((z2.tr s1).tr s2).tr q9)) (fun r hr m9 q9 => k1 r hr m9 (((z2.tr s1).tr s2).tr q9))
              dsimp only at L
              rw [show jnF (tkP b n a.1) (a.2.2 (cut N)) (r.2.2 (cut N)) = 0 from by rw [tk]; exact if_pos t4] at L
              exact L
          ·
            exact absurd (t3.symm.trans t2) (by decide)
theorem S_X12_product {g : GG} {b : Nat → Int32} {n o d : Nat} {f : Nat → Rs} (hd : 1 ≤ d) (hu : NtR g b n mX12_unit o d f) (hg : GdF b n f) : NtR g b n mX12_product o (d + 1) (chn b n f J3) := by
  intro m s N Q h hN k0 k1
  refine Cl.of rfl (by decide) (Nat.le_of_ble_eq_true rfl) ?_
  show Wp g mX12_product (d + 1) 0 0 0 [.ref 167, .retAddr 0, .retAddr 0, .retAddr 0, .retAddr 0, .retAddr 0] [] m Q
  have hF : Fx m := by obtain ⟨a, h, _⟩ := h; exact h.1.1
  have hsn : s ≤ n := by obtain ⟨a, h, e⟩ := h; rw [← e]; exact rE_n h.2.2.1
  refine r_aload_n dX12_product_0 rfl ?_
  refine r_callV0 (ci := 12) (d1 := d) (c1 := 0) (n1 := 0) dX12_product_1 mvX12_191 rfl ⟨(Nat.le_of_ble_eq_true rfl), rfl⟩ (by omega) (by exact Nat.le_of_ble_eq_true rfl) (by exact k_167 hF) ?_
  refine hu _ s N _ h hN (fun e he m1 v1 s1 h1 => ?_) (fun r hr m1 s1 h1 => ?_)
  ·
    have hF := h1.1.1
    show Wp g mX12_product _ _ _ 4 _ (_ :: _) _ Q
    refine sl_1 dX12_product_4 rfl (Nat.le_of_ble_eq_true rfl) ?_
    refine r_aload_n dX12_product_5 rfl ?_
    refine r_callV0 (ci := 12) (d1 := 1) (c1 := 0) (n1 := 0) dX12_product_6 mvX12_145 rfl ⟨(Nat.le_of_ble_eq_true rfl), rfl⟩ (by omega) (by exact Nat.le_of_ble_eq_true rfl) (by exact k_167 hF) ?_
    refine S_blanksE h1 (fun m2 s2 h2 => ?_)
    have hF := h2.1.1
    show Wp g mX12_product _ _ _ 9 _ [] _ Q
    exact T_X12_productE h2 (k0 e (rB_l he) m2 _ (s1.tr s2) h2)
  ·
    obtain ⟨a1, h1, ha1⟩ := h1
    have hF := h1.1.1
    show Wp g mX12_product _ _ _ 4 _ (_ :: _) _ Q
    refine sl_1 dX12_product_4 rfl (Nat.le_of_ble_eq_true rfl) ?_
    refine r_aload_n dX12_product_5 rfl ?_
    refine r_callV0 (ci := 12) (d1 := 1) (c1 := 0) (n1 := 0) dX12_product_6 mvX12_145 rfl ⟨(Nat.le_of_ble_eq_true rfl), rfl⟩ (by omega) (by exact Nat.le_of_ble_eq_true rfl) (by exact k_167 hF) ?_
    refine S_blanksP h1 (fun m2 s2 h2 => ?_)
    have hF := h2.1.1
    show Wp g mX12_product _ _ _ 9 _ [] _ Q
    rw [ha1] at h2
    have e9 : chn b n f J3 s = chL b n f J3 n r := rB_r hr
    rw [e9] at k0 k1
    exact L_X12_product hd hu hg n r m2 _ _ _ (by omega) h2 (by rw [← ha1]; exact rE_id) rfl (s2.n (s1.n hN)) (fun e he m9 v9 q9 => k0 e he m9 v9 ((s1.tr s2).tr q9)) (fun r hr m9 q9 => k1 r hr m9 ((s1.tr s2).tr q9))
theorem E_X12_product {g : GG} {b : Nat → Int32} {n d : Nat} (hd : 1 ≤ d) (hu : NtE g b n mX12_unit d) : NtE g b n mX12_product (d + 1) := by
  intro m K e Q h k
  refine Cl.of rfl (by decide) (Nat.le_of_ble_eq_true rfl) ?_
  show Wp g mX12_product (d + 1) 0 0 0 [.ref 167, .retAddr 0, .retAddr 0, .retAddr 0, .retAddr 0, .retAddr 0] [] m Q
  have hF := h.1.1
  refine r_aload_n dX12_product_0 rfl ?_
  refine r_callV0 (ci := 12) (d1 := d) (c1 := 0) (n1 := 0) dX12_product_1 mvX12_191 rfl ⟨(Nat.le_of_ble_eq_true rfl), rfl⟩ (by omega) (by exact Nat.le_of_ble_eq_true rfl) (by exact k_167 hF) ?_
  refine hu _ _ _ _ h (fun m1 v1 s1 h1 => ?_)
  have hF := h1.1.1
  show Wp g mX12_product _ _ _ 4 _ (_ :: _) _ Q
  refine sl_1 dX12_product_4 rfl (Nat.le_of_ble_eq_true rfl) ?_
  refine r_aload_n dX12_product_5 rfl ?_
  refine r_callV0 (ci := 12) (d1 := 1) (c1 := 0) (n1 := 0) dX12_product_6 mvX12_145 rfl ⟨(Nat.le_of_ble_eq_true rfl), rfl⟩ (by omega) (by exact Nat.le_of_ble_eq_true rfl) (by exact k_167 hF) ?_
  refine S_blanksE h1 (fun m2 s2 h2 => ?_)
  have hF := h2.1.1
  show Wp g mX12_product _ _ _ 9 _ [] _ Q
  exact T_X12_productE h2 (k m2 _ (s1.tr s2) h2)
theorem T_X12_sumE {g : GG} {m : MM} {Q : Out → Prop} {b : Nat → Int32} {n K d : Nat} {e : Er} (h : RE b n K e m) {v : Int64} {x3 x4 x5 : Value} (k : Q (.inl (some (.long v)), m)) : Wp g mX12_sum d 0 0 9 [.ref 167, .long v, .retAddr 0, x3, x4, x5] [] m Q := by
  have hF := h.1.1
  refine r_aload_n dX12_sum_9 rfl ?_
  refine r_getIc (e.1) dX12_sum_10 fgX12_124 rfl (by exact k_167 hF) (by exact h.2.2.1) ?_
  refine r_if_ne 92 dX12_sum_13 rfl (fun hz => ?_) (fun hz => ?_)
  ·
    refine r_lload_n dX12_sum_92 rfl ?_
    refine r_lreturn dX12_sum_93 rfl ?_
    exact k
  ·
    exact absurd hz h.2.2.2.1
theorem L_X12_sum {g : GG} {Q : Out → Prop} {b : Nat → Int32} {n o d : Nat} {f : Nat → Rs} {N : Nat → Int64} (hd : 1 ≤ d) (hu : NtR g b n mX12_product o d f) (hg : GdF b n f) : ∀ (k : Nat) (a : Ok) (m : MM) (x3 x4 x5 : Value), n ≤ a.1 + k → RPa b n a.1 o m → rE b n isBl a.1 = a.1 → x3.category = 1 → (∀ j, j < 10 → ldL m 178 j = N j) → (∀ e, chL b n f J2 k a = .inl e → ∀ m' v, Sy m m' → RE b n n e m' → Q (.inl (some (.long v)), m')) → (∀ r, chL b n f J2 k a = .inr r → ∀ m', Sy m m' → RP b n r.1 o m' → Q (.inl (some (.long (r.2.2 (cut N)))), m')) → Wp g mX12_sum (d + 1) 0 0 9 [.ref 167, .long (a.2.2 (cut N)), .retAddr 0, x3, x4, x5] [] m Q := by
  intro k
  induction k with
  | zero =>
    intro a m x3 x4 x5 hk h ha hx3 hN k0 k1
    have hT := h.1
    have hF := hT.1
    have hn := hT.2.1
    have han := h.2.2.1
    have eb : byB b n a.1 = -1 := if_neg (by omega)
    refine r_aload_n dX12_sum_9 rfl ?_
    refine r_getIc (0) dX12_sum_10 fgX12_124 rfl (by exact k_167 hF) (by exact h.2.2.2.2.1) ?_
    refine r_if_ne 92 dX12_sum_13 rfl (fun hz => absurd hz (by decide)) (fun _ => ?_)
    refine r_aload_n dX12_sum_16 rfl ?_
    refine r_aload_n dX12_sum_17 rfl ?_
    refine r_getIc (nI a.1) dX12_sum_18 fgX12_117 rfl (by exact k_167 hF) (by exact h.2.1) ?_
    refine r_callV1 (ci := 12) (d1 := 0) (c1 := 0) (n1 := 0) dX12_sum_21 mvX12_120 rfl ⟨(Nat.le_of_ble_eq_true rfl), rfl⟩ (by omega) (by exact Nat.le_of_ble_eq_true rfl) (by exact k_167 hF) ?_
    refine S_byteAt hT (k := a.1) (by omega) ?_
    show Wp g mX12_sum _ _ _ 24 _ (_ :: _) _ Q
    refine r_bipush (43) dX12_sum_24 rfl ?_
    refine r_icmp_eq 42 dX12_sum_26 rfl (fun t1 => ?_) (fun t1 => ?_)
    ·
      exact absurd (eb.symm.trans t1) (by decide)
    ·
      refine r_aload_n dX12_sum_29 rfl ?_
      refine r_aload_n dX12_sum_30 rfl ?_
      refine r_getIc (nI a.1) dX12_sum_31 fgX12_117 rfl (by exact k_167 hF) (by exact h.2.1) ?_
      refine r_callV1 (ci := 12) (d1 := 0) (c1 := 0) (n1 := 0) dX12_sum_34 mvX12_120 rfl ⟨(Nat.le_of_ble_eq_true rfl), rfl⟩ (by omega) (by exact Nat.le_of_ble_eq_true rfl) (by exact k_167 hF) ?_
      refine S_byteAt hT (k := a.1) (by omega) ?_
      show Wp g mX12_sum _ _ _ 37 _ (_ :: _) _ Q
      refine r_bipush (45) dX12_sum_37 rfl ?_
      refine r_icmp_ne 92 dX12_sum_39 rfl (fun t2 => ?_) (fun t2 => ?_)
      ·
        refine r_lload_n dX12_sum_92 rfl ?_
        refine r_lreturn dX12_sum_93 rfl ?_
        exact k1 a rfl m Sy.rf ⟨a.1, h, ha⟩
      ·
        exact absurd (eb.symm.trans t2) (by decide)
  | succ k ih =>
    intro a m x3 x4 x5 hk h ha hx3 hN k0 k1
    have hT := h.1
    have hF := hT.1
    have hn := hT.2.1
    have han := h.2.2.1
    refine r_aload_n dX12_sum_9 rfl ?_
    refine r_getIc (0) dX12_sum_10 fgX12_124 rfl (by exact k_167 hF) (by exact h.2.2.2.2.1) ?_
    refine r_if_ne 92 dX12_sum_13 rfl (fun hz => absurd hz (by decide)) (fun _ => ?_)
    refine r_aload_n dX12_sum_16 rfl ?_
    refine r_aload_n dX12_sum_17 rfl ?_
    refine r_getIc (nI a.1) dX12_sum_18 fgX12_117 rfl (by exact k_167 hF) (by exact h.2.1) ?_
    refine r_callV1 (ci := 12) (d1 := 0) (c1 := 0) (n1 := 0) dX12_sum_21 mvX12_120 rfl ⟨(Nat.le_of_ble_eq_true rfl), rfl⟩ (by omega) (by exact Nat.le_of_ble_eq_true rfl) (by exact k_167 hF) ?_
    refine S_byteAt hT (k := a.1) (by omega) ?_
    show Wp g mX12_sum _ _ _ 24 _ (_ :: _) _ Q
    refine r_bipush (43) dX12_sum_24 rfl ?_
    refine r_icmp_eq 42 dX12_sum_26 rfl (fun t1 => ?_) (fun t1 => ?_)
    ·
      have hx := nx_ch (c := 43) (by unfold isCh; decide) t1
      have tk := (ch_tk (c := 43) (by unfold isCh; decide)).mp t1
      obtain ⟨z1, z2⟩ := h.at1 hx.1
      have hj : J2 (tkP b n a.1) = true := by rw [tk]; decide
      have w := ad_of tk (by decide)
      refine r_aload_n dX12_sum_42 rfl ?_
      refine r_aload_n dX12_sum_43 rfl ?_
      refine r_getIc (nI a.1) dX12_sum_44 fgX12_117 rfl (by exact k_167 hF) (by exact h.2.1) ?_
      refine r_callV1 (ci := 12) (d1 := 0) (c1 := 0) (n1 := 0) dX12_sum_47 mvX12_120 rfl ⟨(Nat.le_of_ble_eq_true rfl), rfl⟩ (by omega) (by exact Nat.le_of_ble_eq_true rfl) (by exact k_167 hF) ?_
      refine S_byteAt hT (k := a.1) (by omega) ?_
      show Wp g mX12_sum _ _ _ 50 _ (_ :: _) _ Q
      refine si_3 dX12_sum_50 (by first | rfl | assumption) (Nat.le_of_ble_eq_true rfl) ?_
      refine r_aload_n dX12_sum_51 rfl ?_
      refine r_dup dX12_sum_52 rfl ?_
      refine r_getIc (nI a.1) dX12_sum_53 fgX12_117 rfl (by exact k_167 hF) (by exact h.2.1) ?_
      refine r_iconst (1) dX12_sum_56 rfl ?_
      refine r_iadd dX12_sum_57 ?_
      rw [nI_1]
      refine r_putI dX12_sum_58 (fpX12_117 _ rfl) rfl (by exact k_167 hF) ⟨rfl, rfl⟩ ?_
      refine r_aload_n dX12_sum_61 rfl ?_
      refine r_callV0 (ci := 12) (d1 := d) (c1 := 0) (n1 := 0) dX12_sum_62 mvX12_194 rfl ⟨(Nat.le_of_ble_eq_true rfl), rfl⟩ (by omega) (by exact Nat.le_of_ble_eq_true rfl) (by exact k_167 hF) ?_
      refine hu _ (adP b n a.1) N _ ⟨a.1 + 1, z1, by unfold adP; rw [hx.2]⟩ (z2.n hN) (fun e he m1 v1 s1 h1 => ?_) (fun r hr m1 s1 h1 => ?_)
      ·
        have hF := h1.1.1
        show Wp g mX12_sum _ _ _ 65 _ (_ :: _) _ Q
        refine sl_4 dX12_sum_65 (by first | rfl | assumption) (Nat.le_of_ble_eq_true rfl) ?_
        refine r_iload_n dX12_sum_67 rfl ?_
        refine r_bipush (43) dX12_sum_68 rfl ?_
        refine r_icmp_ne 80 dX12_sum_70 rfl (fun t3 => ?_) (fun t3 => ?_)
        ·
          exact absurd t1 t3
        ·
          refine r_lload_n dX12_sum_73 rfl ?_
          refine r_lload dX12_sum_74 rfl ?_
          refine r_ladd dX12_sum_76 ?_
          refine r_goto 84 dX12_sum_77 rfl ?_
          refine sl_1 dX12_sum_84 (by first | rfl | assumption) (Nat.le_of_ble_eq_true rfl) ?_
          refine r_aload_n dX12_sum_85 rfl ?_
          refine r_callV0 (ci := 12) (d1 := 1) (c1 := 0) (n1 := 0) dX12_sum_86 mvX12_145 rfl ⟨(Nat.le_of_ble_eq_true rfl), rfl⟩ (by omega) (by exact Nat.le_of_ble_eq_true rfl) (by exact k_167 hF) ?_
          refine S_blanksE h1 (fun m2 s2 h2 => ?_)
          have hF := h2.1.1
          show Wp g mX12_sum _ _ _ 89 _ [] _ Q
          refine r_goto 9 dX12_sum_89 rfl ?_
          exact T_X12_sumE h2 (k0 e ((if_pos hj).trans (rB_l he)) m2 _ ((z2.tr s1).tr s2) h2)
      ·
        obtain ⟨a1, h1, ha1⟩ := h1
        have hF := h1.1.1
        show Wp g mX12_sum _ _ _ 65 _ (_ :: _) _ Q
        refine sl_4 dX12_sum_65 (by first | rfl | assumption) (Nat.le_of_ble_eq_true rfl) ?_
        refine r_iload_n dX12_sum_67 rfl ?_
        refine r_bipush (43) dX12_sum_68 rfl ?_
        refine r_icmp_ne 80 dX12_sum_70 rfl (fun t3 => ?_) (fun t3 => ?_)
        ·
          exact absurd t1 t3
        ·
          refine r_lload_n dX12_sum_73 rfl ?_
          refine r_lload dX12_sum_74 rfl ?_
          refine r_ladd dX12_sum_76 ?_
          refine r_goto 84 dX12_sum_77 rfl ?_
          refine sl_1 dX12_sum_84 (by first | rfl | assumption) (Nat.le_of_ble_eq_true rfl) ?_
          refine r_aload_n dX12_sum_85 rfl ?_
          refine r_callV0 (ci := 12) (d1 := 1) (c1 := 0) (n1 := 0) dX12_sum_86 mvX12_145 rfl ⟨(Nat.le_of_ble_eq_true rfl), rfl⟩ (by omega) (by exact Nat.le_of_ble_eq_true rfl) (by exact k_167 hF) ?_
          refine S_blanksP h1 (fun m2 s2 h2 => ?_)
          have hF := h2.1.1
          show Wp g mX12_sum _ _ _ 89 _ [] _ Q
          refine r_goto 9 dX12_sum_89 rfl ?_
          have e9 : chL b n f J2 (k + 1) a = chL b n f J2 k (r.1, a.2.1 ++ r.2.1 ++ [tkP b n a.1], fun N => jnF (tkP b n a.1) (a.2.2 N) (r.2.2 N)) := (if_pos hj).trans (rB_r hr)
          rw [e9] at k0 k1
          rw [ha1] at h2
          have v := hg _ w.2.2 r hr
          have L := ih (r.1, a.2.1 ++ r.2.1 ++ [tkP b n a.1], fun N => jnF (tkP b n a.1) (a.2.2 N) (r.2.2 N)) m2 (.int (byB b n a.1)) (.long (r.2.2 (cut N))) (.retAddr 0) (by show n ≤ r.1 + k; omega) h2 (by rw [← ha1]; exact rE_id) rfl (s2.n (s1.n (z2.n hN))) (fun e he m9 v9 q9 => k0 e he m9 v9 (((z2.tr s1).tr s2).tr q9)) (fun r hr m9 q9 => k1 r hr m9 (((z2.tr s1).tr s2).tr q9))
          dsimp only at L
          rw [show jnF (tkP b n a.1) (a.2.2 (cut N)) (r.2.2 (cut N)) = a.2.2 (cut N) + r.2.2 (cut N) from by rw [tk]; rfl] at L
          exact L
    ·
      refine r_aload_n dX12_sum_29 rfl ?_
      refine r_aload_n dX12_sum_30 rfl ?_
      refine r_getIc (nI a.1) dX12_sum_31 fgX12_117 rfl (by exact k_167 hF) (by exact h.2.1) ?_
      refine r_callV1 (ci := 12) (d1 := 0) (c1 := 0) (n1 := 0) dX12_sum_34 mvX12_120 rfl ⟨(Nat.le_of_ble_eq_true rfl), rfl⟩ (by omega) (by exact Nat.le_of_ble_eq_true rfl) (by exact k_167 hF) ?_
      refine S_byteAt hT (k := a.1) (by omega) ?_
      show Wp g mX12_sum _ _ _ 37 _ (_ :: _) _ Q
      refine r_bipush (45) dX12_sum_37 rfl ?_
      refine r_icmp_ne 92 dX12_sum_39 rfl (fun t2 => ?_) (fun t2 => ?_)
      ·
        refine r_lload_n dX12_sum_92 rfl ?_
        refine r_lreturn dX12_sum_93 rfl ?_
        exact k1 a (if_neg (fun q => (of_decide_eq_true q).elim (fun z => t1 ((ch_tk (by unfold isCh; decide)).mpr z)) (fun z => t2 ((ch_tk (by unfold isCh; decide)).mpr z)))) m Sy.rf ⟨a.1, h, ha⟩
      ·
        have hx := nx_ch (c := 45) (by unfold isCh; decide) t2
        have tk := (ch_tk (c := 45) (by unfold isCh; decide)).mp t2
        obtain ⟨z1, z2⟩ := h.at1 hx.1
        have hj : J2 (tkP b n a.1) = true := by rw [tk]; decide
        have w := ad_of tk (by decide)
        refine r_aload_n dX12_sum_42 rfl ?_
        refine r_aload_n dX12_sum_43 rfl ?_
        refine r_getIc (nI a.1) dX12_sum_44 fgX12_117 rfl (by exact k_167 hF) (by exact h.2.1) ?_
        refine r_callV1 (ci := 12) (d1 := 0) (c1 := 0) (n1 := 0) dX12_sum_47 mvX12_120 rfl ⟨(Nat.le_of_ble_eq_true rfl), rfl⟩ (by omega) (by exact Nat.le_of_ble_eq_true rfl) (by exact k_167 hF) ?_
        refine S_byteAt hT (k := a.1) (by omega) ?_
        show Wp g mX12_sum _ _ _ 50 _ (_ :: _) _ Q
        refine si_3 dX12_sum_50 (by first | rfl | assumption) (Nat.le_of_ble_eq_true rfl) ?_
        refine r_aload_n dX12_sum_51 rfl ?_
        refine r_dup dX12_sum_52 rfl ?_
        refine r_getIc (nI a.1) dX12_sum_53 fgX12_117 rfl (by exact k_167 hF) (by exact h.2.1) ?_
        refine r_iconst (1) dX12_sum_56 rfl ?_
        refine r_iadd dX12_sum_57 ?_
        rw [nI_1]
        refine r_putI dX12_sum_58 (fpX12_117 _ rfl) rfl (by exact k_167 hF) ⟨rfl, rfl⟩ ?_
        refine r_aload_n dX12_sum_61 rfl ?_
        refine r_callV0 (ci := 12) (d1 := d) (c1 := 0) (n1 := 0) dX12_sum_62 mvX12_194 rfl ⟨(Nat.le_of_ble_eq_true rfl), rfl⟩ (by omega) (by exact Nat.le_of_ble_eq_true rfl) (by exact k_167 hF) ?_
        refine hu _ (adP b n a.1) N _ ⟨a.1 + 1, z1, by unfold adP; rw [hx.2]⟩ (z2.n hN) (fun e he m1 v1 s1 h1 => ?_) (fun r hr m1 s1 h1 => ?_)
        ·
          have hF := h1.1.1
          show Wp g mX12_sum _ _ _ 65 _ (_ :: _) _ Q
          refine sl_4 dX12_sum_65 (by first | rfl | assumption) (Nat.le_of_ble_eq_true rfl) ?_
          refine r_iload_n dX12_sum_67 rfl ?_
          refine r_bipush (43) dX12_sum_68 rfl ?_
          refine r_icmp_ne 80 dX12_sum_70 rfl (fun t3 => ?_) (fun t3 => ?_)
          ·
            refine r_lload_n dX12_sum_80 rfl ?_
            refine r_lload dX12_sum_81 rfl ?_
            refine r_lsub dX12_sum_83 ?_
            refine sl_1 dX12_sum_84 (by first | rfl | assumption) (Nat.le_of_ble_eq_true rfl) ?_
            refine r_aload_n dX12_sum_85 rfl ?_
            refine r_callV0 (ci := 12) (d1 := 1) (c1 := 0) (n1 := 0) dX12_sum_86 mvX12_145 rfl ⟨(Nat.le_of_ble_eq_true rfl), rfl⟩ (by omega) (by exact Nat.le_of_ble_eq_true rfl) (by exact k_167 hF) ?_
            refine S_blanksE h1 (fun m2 s2 h2 => ?_)
            have hF := h2.1.1
            show Wp g mX12_sum _ _ _ 89 _ [] _ Q
            refine r_goto 9 dX12_sum_89 rfl ?_
            exact T_X12_sumE h2 (k0 e ((if_pos hj).trans (rB_l he)) m2 _ ((z2.tr s1).tr s2) h2)
          ·
            exact absurd (t3.symm.trans t2) (by decide)
        ·
          obtain ⟨a1, h1, ha1⟩ := h1
          have hF := h1.1.1
          show Wp g mX12_sum _ _ _ 65 _ (_ :: _) _ Q
          refine sl_4 dX12_sum_65 (by first | rfl | assumption) (Nat.le_of_ble_eq_true rfl) ?_
          refine r_iload_n dX12_sum_67 rfl ?_
          refine r_bipush (43) dX12_sum_68 rfl ?_
          refine r_icmp_ne 80 dX12_sum_70 rfl (fun t3 => ?_) (fun t3 => ?_)
          ·
            refine r_lload_n dX12_sum_80 rfl ?_
            refine r_lload dX12_sum_81 rfl ?_
            refine r_lsub dX12_sum_83 ?_
            refine sl_1 dX12_sum_84 (by first | rfl | assumption) (Nat.le_of_ble_eq_true rfl) ?_
            refine r_aload_n dX12_sum_85 rfl ?_
            refine r_callV0 (ci := 12) (d1 := 1) (c1 := 0) (n1 := 0) dX12_sum_86 mvX12_145 rfl ⟨(Nat.le_of_ble_eq_true rfl), rfl⟩ (by omega) (by exact Nat.le_of_ble_eq_true rfl) (by exact k_167 hF) ?_
            refine S_blanksP h1 (fun m2 s2 h2 => ?_)
            have hF := h2.1.1
            show Wp g mX12_sum _ _ _ 89 _ [] _ Q
            refine r_goto 9 dX12_sum_89 rfl ?_
            have e9 : chL b n f J2 (k + 1) a = chL b n f J2 k (r.1, a.2.1 ++ r.2.1 ++ [tkP b n a.1], fun N => jnF (tkP b n a.1) (a.2.2 N) (r.2.2 N)) := (if_pos hj).trans (rB_r hr)
            rw [e9] at k0 k1
            rw [ha1] at h2
            have v := hg _ w.2.2 r hr
            have L := ih (r.1, a.2.1 ++ r.2.1 ++ [tkP b n a.1], fun N => jnF (tkP b n a.1) (a.2.2 N) (r.2.2 N)) m2 (.int (byB b n a.1)) (.long (r.2.2 (cut N))) (.retAddr 0) (by show n ≤ r.1 + k; omega) h2 (by rw [← ha1]; exact rE_id) rfl (s2.n (s1.n (z2.n hN))) (fun e he m9 v9 q9 => k0 e he m9 v9 (((z2.tr s1).tr s2).tr q9)) (fun r hr m9 q9 => k1 r hr m9 (((z2.tr s1).tr s2).tr q9))
            dsimp only at L
            rw [show jnF (tkP b n a.1) (a.2.2 (cut N)) (r.2.2 (cut N)) = a.2.2 (cut N) - r.2.2 (cut N) from by rw [tk]; rfl] at L
            exact L
          ·
            exact absurd (t3.symm.trans t2) (by decide)
theorem S_X12_sum {g : GG} {b : Nat → Int32} {n o d : Nat} {f : Nat → Rs} (hd : 1 ≤ d) (hu : NtR g b n mX12_product o d f) (hg : GdF b n f) : NtR g b n mX12_sum o (d + 1) (chn b n f J2) := by
  intro m s N Q h hN k0 k1
  refine Cl.of rfl (by decide) (Nat.le_of_ble_eq_true rfl) ?_
  show Wp g mX12_sum (d + 1) 0 0 0 [.ref 167, .retAddr 0, .retAddr 0, .retAddr 0, .retAddr 0, .retAddr 0] [] m Q
  have hF : Fx m := by obtain ⟨a, h, _⟩ := h; exact h.1.1
  have hsn : s ≤ n := by obtain ⟨a, h, e⟩ := h; rw [← e]; exact rE_n h.2.2.1
  refine r_aload_n dX12_sum_0 rfl ?_
  refine r_callV0 (ci := 12) (d1 := d) (c1 := 0) (n1 := 0) dX12_sum_1 mvX12_194 rfl ⟨(Nat.le_of_ble_eq_true rfl), rfl⟩ (by omega) (by exact Nat.le_of_ble_eq_true rfl) (by exact k_167 hF) ?_
  refine hu _ s N _ h hN (fun e he m1 v1 s1 h1 => ?_) (fun r hr m1 s1 h1 => ?_)
  ·
    have hF := h1.1.1
    show Wp g mX12_sum _ _ _ 4 _ (_ :: _) _ Q
    refine sl_1 dX12_sum_4 rfl (Nat.le_of_ble_eq_true rfl) ?_
    refine r_aload_n dX12_sum_5 rfl ?_
    refine r_callV0 (ci := 12) (d1 := 1) (c1 := 0) (n1 := 0) dX12_sum_6 mvX12_145 rfl ⟨(Nat.le_of_ble_eq_true rfl), rfl⟩ (by omega) (by exact Nat.le_of_ble_eq_true rfl) (by exact k_167 hF) ?_
    refine S_blanksE h1 (fun m2 s2 h2 => ?_)
    have hF := h2.1.1
    show Wp g mX12_sum _ _ _ 9 _ [] _ Q
    exact T_X12_sumE h2 (k0 e (rB_l he) m2 _ (s1.tr s2) h2)
  ·
    obtain ⟨a1, h1, ha1⟩ := h1
    have hF := h1.1.1
    show Wp g mX12_sum _ _ _ 4 _ (_ :: _) _ Q
    refine sl_1 dX12_sum_4 rfl (Nat.le_of_ble_eq_true rfl) ?_
    refine r_aload_n dX12_sum_5 rfl ?_
    refine r_callV0 (ci := 12) (d1 := 1) (c1 := 0) (n1 := 0) dX12_sum_6 mvX12_145 rfl ⟨(Nat.le_of_ble_eq_true rfl), rfl⟩ (by omega) (by exact Nat.le_of_ble_eq_true rfl) (by exact k_167 hF) ?_
    refine S_blanksP h1 (fun m2 s2 h2 => ?_)
    have hF := h2.1.1
    show Wp g mX12_sum _ _ _ 9 _ [] _ Q
    rw [ha1] at h2
    have e9 : chn b n f J2 s = chL b n f J2 n r := rB_r hr
    rw [e9] at k0 k1
    exact L_X12_sum hd hu hg n r m2 _ _ _ (by omega) h2 (by rw [← ha1]; exact rE_id) rfl (s2.n (s1.n hN)) (fun e he m9 v9 q9 => k0 e he m9 v9 ((s1.tr s2).tr q9)) (fun r hr m9 q9 => k1 r hr m9 ((s1.tr s2).tr q9))
theorem E_X12_sum {g : GG} {b : Nat → Int32} {n d : Nat} (hd : 1 ≤ d) (hu : NtE g b n mX12_product d) : NtE g b n mX12_sum (d + 1) := by
  intro m K e Q h k
  refine Cl.of rfl (by decide) (Nat.le_of_ble_eq_true rfl) ?_
  show Wp g mX12_sum (d + 1) 0 0 0 [.ref 167, .retAddr 0, .retAddr 0, .retAddr 0, .retAddr 0, .retAddr 0] [] m Q
  have hF := h.1.1
  refine r_aload_n dX12_sum_0 rfl ?_
  refine r_callV0 (ci := 12) (d1 := d) (c1 := 0) (n1 := 0) dX12_sum_1 mvX12_194 rfl ⟨(Nat.le_of_ble_eq_true rfl), rfl⟩ (by omega) (by exact Nat.le_of_ble_eq_true rfl) (by exact k_167 hF) ?_
  refine hu _ _ _ _ h (fun m1 v1 s1 h1 => ?_)
  have hF := h1.1.1
  show Wp g mX12_sum _ _ _ 4 _ (_ :: _) _ Q
  refine sl_1 dX12_sum_4 rfl (Nat.le_of_ble_eq_true rfl) ?_
  refine r_aload_n dX12_sum_5 rfl ?_
  refine r_callV0 (ci := 12) (d1 := 1) (c1 := 0) (n1 := 0) dX12_sum_6 mvX12_145 rfl ⟨(Nat.le_of_ble_eq_true rfl), rfl⟩ (by omega) (by exact Nat.le_of_ble_eq_true rfl) (by exact k_167 hF) ?_
  refine S_blanksE h1 (fun m2 s2 h2 => ?_)
  have hF := h2.1.1
  show Wp g mX12_sum _ _ _ 9 _ [] _ Q
  exact T_X12_sumE h2 (k m2 _ (s1.tr s2) h2)
