def byB (b : Nat → Int32) (n k : Nat) : Int32 := if k < n then b k else -1
def TxB (b : Nat → Int32) (n : Nat) (m : MM) : Prop := Fx m ∧ n ≤ 400 ∧ (∀ j, j < n → iv 0 255 (b j)) ∧ ldI m 167 2 = nI n ∧ ((ldI m 167 8 = -1 ∧ ∀ k, k < n → ldI m 168 k = b k) ∨ ∃ w, w < 7 ∧ ldI m 167 8 = nI w ∧ ∀ k, k < n → ldI m (170 + w) k = b k)
/-- only the walk's own cells differ: at, open, fault, faultAt -/
def Sy (m m' : MM) : Prop := m'.2.2 = m.2.2 ∧ (∀ a k, ¬ (a = 167 ∧ 4 ≤ k ∧ k ≤ 7) → ldI m' a k = ldI m a k) ∧ ∀ a k, True → ldL m' a k = ldL m a k
theorem Sy.rf {m : MM} : Sy m m := ⟨rfl, fun _ _ _ => rfl, fun _ _ _ => rfl⟩
theorem Sy.tr {m m1 m2 : MM} (h : Sy m m1) (h2 : Sy m1 m2) : Sy m m2 := ⟨h2.1.trans h.1, fun a k q => (h2.2.1 a k q).trans (h.2.1 a k q), fun a k q => (h2.2.2 a k q).trans (h.2.2 a k q)⟩
theorem Sy.s {m m1 : MM} {k : Nat} {v : Int32} (h : Sy m m1) (h1 : 4 ≤ k) (h2 : k ≤ 7) (_h3 : k ≠ 8) : Sy m (stI m1 167 k v) := ⟨h.1, fun a j q => ld_n (by omega) (h.2.1 a j q), h.2.2⟩
theorem TxB.sy {b : Nat → Int32} {n : Nat} {m m' : MM} (h : TxB b n m) (s : Sy m m') : TxB b n m' := by
  obtain ⟨a, c, d, e, f⟩ := h
  refine ⟨Fx_of s.1 a, c, d, (s.2.1 _ _ (by omega)).trans e, ?_⟩
  rcases f with ⟨f1, f2⟩ | ⟨w, w7, f1, f2⟩
  · exact Or.inl ⟨(s.2.1 _ _ (by omega)).trans f1, fun k hk => (s.2.1 _ _ (by omega)).trans (f2 k hk)⟩
  · exact Or.inr ⟨w, w7, (s.2.1 _ _ (by omega)).trans f1, fun k hk => (s.2.1 _ _ (by omega)).trans (f2 k hk)⟩
def RPa (b : Nat → Int32) (n a o : Nat) (m : MM) : Prop := TxB b n m ∧ ldI m 167 4 = nI a ∧ a ≤ n ∧ ldI m 167 5 = nI o ∧ ldI m 167 6 = 0 ∧ ldI m 167 7 = -1
def RE (b : Nat → Int32) (n K : Nat) (e : Er) (m : MM) : Prop := TxB b n m ∧ (n ≤ K ∧ K ≤ 500 ∧ ∃ a, a ≤ K ∧ ldI m 167 4 = nI a) ∧ ldI m 167 6 = e.1 ∧ ¬ e.1 = 0 ∧ ldI m 167 7 = nI e.2
theorem S_byteAt {g : GG} {m : MM} {Q : Out → Prop} {b : Nat → Int32} {n k : Nat} (hT : TxB b n m) (hk : k ≤ 1000) (kk : Q (.inl (some (.int (byB b n k))), m)) : Cl g 0 0 0 mX12_byteAt [.ref 167, .int (nI k)] m Q := by
  obtain ⟨hF, hn, hb, h2, h8⟩ := hT
  refine Cl.of rfl (by decide) (Nat.le_of_ble_eq_true rfl) ?_
  show Wp g mX12_byteAt 0 0 0 0 [.ref 167, .int (nI k)] [] m Q
  refine r_iload_n dX12_byteAt_0 rfl ?_
  refine r_aload_n dX12_byteAt_1 rfl ?_
  refine r_getIc (nI n) dX12_byteAt_2 fgX12_111 rfl (by exact k_167 hF) (by exact h2) ?_
  refine r_icmp_lt 12 dX12_byteAt_5 rfl (fun hlt => ?_) (fun hlt => ?_)
  ·
    have hkn : k < n := Nat.lt_of_not_le (fun z => absurd hlt (nI_nlt z (by omega)))
    rw [show byB b n k = b k from if_pos hkn] at kk
    rcases h8 with ⟨e8, f8⟩ | ⟨w, w7, e8, f8⟩
    ·
      refine r_aload_n dX12_byteAt_12 rfl ?_
      refine r_getIc (-1) dX12_byteAt_13 fgX12_114 rfl (by exact k_167 hF) (by exact e8) ?_
      refine r_iconst (-1) dX12_byteAt_16 rfl ?_
      refine r_icmp_ne 29 dX12_byteAt_17 rfl (fun hz => absurd hz (by decide)) (fun _ => ?_)
      refine r_aload_n dX12_byteAt_20 rfl ?_
      refine r_getRc dX12_byteAt_21 fgX12_15 rfl (by exact k_167 hF) (by exact r_167_10 hF) ?_
      refine r_iload_n dX12_byteAt_24 rfl ?_
      refine r_ialoadc (b k) dX12_byteAt_25 (by exact k_168 hF) (vin (by omega) (by omega)) (by rw [nI_cl _ (by omega)]; exact f8 k hkn) ?_
      refine r_goto 40 dX12_byteAt_26 rfl ?_
      refine r_ireturn dX12_byteAt_40 rfl rfl ?_
      exact kk
    ·
      refine r_aload_n dX12_byteAt_12 rfl ?_
      refine r_getIc (nI w) dX12_byteAt_13 fgX12_114 rfl (by exact k_167 hF) (by exact e8) ?_
      refine r_iconst (-1) dX12_byteAt_16 rfl ?_
      refine r_icmp_ne 29 dX12_byteAt_17 rfl (fun hne => ?_) (fun hne => ?_)
      ·
        refine r_aload_n dX12_byteAt_29 rfl ?_
        refine r_getRc dX12_byteAt_30 fgX12_21 rfl (by exact k_167 hF) (by exact r_167_11 hF) ?_
        refine r_aload_n dX12_byteAt_33 rfl ?_
        refine r_getIc (nI w) dX12_byteAt_34 fgX12_114 rfl (by exact k_167 hF) (by exact e8) ?_
        refine r_aaloadc (b := 170 + w) dX12_byteAt_37 ⟨Nat.le_of_ble_eq_true rfl, Nat.le_of_ble_eq_true rfl⟩ (by exact k_169 hF) (vin (by omega) (by omega)) (by rw [nI_cl _ (by omega)]; exact R_txt hF w7) ?_
        refine r_iload_n dX12_byteAt_38 rfl ?_
        refine r_ialoadc (b k) dX12_byteAt_39 (by exact K_txt hF w7) (vin (by omega) (by omega)) (by rw [nI_cl _ (by omega)]; exact f8 k hkn) ?_
        refine r_ireturn dX12_byteAt_40 rfl rfl ?_
        exact kk
      ·
        exact absurd hne (fun q => by have z := congrArg Int32.toInt q; rw [nI_int w (by omega)] at z; have y : (-1 : Int32).toInt = -1 := rfl; omega)
  ·
    refine r_iconst (-1) dX12_byteAt_8 rfl ?_
    refine r_goto 40 dX12_byteAt_9 rfl ?_
    refine r_ireturn dX12_byteAt_40 rfl rfl ?_
    rw [show byB b n k = -1 from if_neg (fun z => hlt (nI_lt z (by omega)))] at kk; exact kk
theorem S_X12_isDigit {g : GG} {m : MM} {Q : Out → Prop} {x : Int32} (k1 : isDg x = true → Q (.inl (some (.int 1)), m)) (k0 : ¬ isDg x = true → Q (.inl (some (.int 0)), m)) : Cl g 0 0 0 mX12_isDigit [.int x] m Q := by
  refine Cl.of rfl (by decide) (Nat.le_of_ble_eq_true rfl) ?_
  show Wp g mX12_isDigit 0 0 0 0 [.int x] [] m Q
  refine r_iload_n dX12_isDigit_0 rfl ?_
  refine r_bipush (48) dX12_isDigit_1 rfl ?_
  refine r_icmp_lt 16 dX12_isDigit_3 rfl (fun a => ?_) (fun a => ?_)
  ·
    refine r_iconst (0) dX12_isDigit_16 rfl ?_
    refine r_ireturn dX12_isDigit_17 rfl rfl ?_
    exact k0 (fun q => absurd a (i32_nlt.mpr (of_decide_eq_true q).1))
  ·
    refine r_iload_n dX12_isDigit_6 rfl ?_
    refine r_bipush (57) dX12_isDigit_7 rfl ?_
    refine r_icmp_gt 16 dX12_isDigit_9 rfl (fun c => ?_) (fun c => ?_)
    ·
      refine r_iconst (0) dX12_isDigit_16 rfl ?_
      refine r_ireturn dX12_isDigit_17 rfl rfl ?_
      exact k0 (fun q => absurd c (i32_nlt.mpr (of_decide_eq_true q).2))
    ·
      refine r_iconst (1) dX12_isDigit_12 rfl ?_
      refine r_goto 17 dX12_isDigit_13 rfl ?_
      refine r_ireturn dX12_isDigit_17 rfl rfl ?_
      exact k1 (decide_eq_true ⟨i32_nlt.mp a, i32_nlt.mp c⟩)
theorem S_wrongP {g : GG} {m : MM} {Q : Out → Prop} {b : Nat → Int32} {n a o p : Nat} (h : RPa b n a o m) {x : Int32} (hx : ¬ x = 0) (k : ∀ m', Sy m m' → RE b n n (x, p) m' → Q (.inl none, m')) : Cl g 0 0 0 mX12_wrong [.ref 167, .int x, .int (nI p)] m Q := by
  refine Cl.of rfl (by decide) (Nat.le_of_ble_eq_true rfl) ?_
  show Wp g mX12_wrong 0 0 0 0 [.ref 167, .int x, .int (nI p)] [] m Q
  have hF := h.1.1
  refine r_aload_n dX12_wrong_0 rfl ?_
  refine r_getIc (0) dX12_wrong_1 fgX12_124 rfl (by exact k_167 hF) (by exact h.2.2.2.2.1) ?_
  refine r_if_ne 17 dX12_wrong_4 rfl (fun hz => absurd hz (by decide)) (fun _ => ?_)
  refine r_aload_n dX12_wrong_7 rfl ?_
  refine r_iload_n dX12_wrong_8 rfl ?_
  refine r_putI dX12_wrong_9 (fpX12_124 _ rfl) rfl (by exact k_167 hF) ⟨rfl, rfl⟩ ?_
  refine r_aload_n dX12_wrong_12 rfl ?_
  refine r_iload_n dX12_wrong_13 rfl ?_
  refine r_putI dX12_wrong_14 (fpX12_127 _ rfl) rfl (by exact k_167 hF) ⟨rfl, rfl⟩ ?_
  refine r_return dX12_wrong_17 rfl ?_
  exact k _ ((Sy.rf.s (by omega) (by omega) (by omega)).s (by omega) (by omega) (by omega)) ⟨h.1.sy ((Sy.rf.s (by omega) (by omega) (by omega)).s (by omega) (by omega) (by omega)), ⟨Nat.le_refl _, by have := h.1.2.1; omega, a, h.2.2.1, ld_n (by decide) (ld_n (by decide) h.2.1)⟩, ld_n (by decide) ld_s, hx, ld_s⟩
theorem S_wrongE {g : GG} {m : MM} {Q : Out → Prop} {b : Nat → Int32} {n K : Nat} {e : Er} (h : RE b n K e m) {x y : Int32} (k : Q (.inl none, m)) : Cl g 0 0 0 mX12_wrong [.ref 167, .int x, .int y] m Q := by
  refine Cl.of rfl (by decide) (Nat.le_of_ble_eq_true rfl) ?_
  show Wp g mX12_wrong 0 0 0 0 [.ref 167, .int x, .int y] [] m Q
  have hF := h.1.1
  refine r_aload_n dX12_wrong_0 rfl ?_
  refine r_getIc (e.1) dX12_wrong_1 fgX12_124 rfl (by exact k_167 hF) (by exact h.2.2.1) ?_
  refine r_if_ne 17 dX12_wrong_4 rfl (fun hz => ?_) (fun hz => ?_)
  ·
    refine r_return dX12_wrong_17 rfl ?_
    exact k
  ·
    exact absurd hz h.2.2.2.1
theorem byB_bl {b : Nat → Int32} {n a : Nat} : byB b n a = 32 ↔ (a < n ∧ isBl (b a) = true) := by
  unfold byB
  by_cases c : a < n
  · rw [if_pos c]; exact ⟨fun q => ⟨c, decide_eq_true q⟩, fun q => of_decide_eq_true q.2⟩
  · rw [if_neg c]; exact ⟨fun q => absurd q (by decide), fun q => absurd q.1 c⟩
theorem L_rbl {g : GG} {Q : Out → Prop} {b : Nat → Int32} {n : Nat} : ∀ (t a : Nat) (m : MM), n - a = t → a ≤ 600 → TxB b n m → ldI m 167 4 = nI a → (∀ m', Sy m m' → (∀ k, k ≠ 4 → ldI m' 167 k = ldI m 167 k) → ldI m' 167 4 = nI (rE b n isBl a) → Q (.inl none, m')) → Wp g mX12_blanks 1 0 0 0 [.ref 167] [] m Q := by
  intro t
  induction t with
  | zero =>
    intro a m ht ha hT h4 k
    have hF := hT.1
    rw [rE_f (by omega)] at k
    refine r_aload_n dX12_blanks_0 rfl ?_
    refine r_aload_n dX12_blanks_1 rfl ?_
    refine r_getIc (nI a) dX12_blanks_2 fgX12_117 rfl (by exact k_167 hF) (by exact h4) ?_
    refine r_callV1 (ci := 12) (d1 := 0) (c1 := 0) (n1 := 0) dX12_blanks_5 mvX12_120 rfl ⟨(Nat.le_of_ble_eq_true rfl), rfl⟩ (Nat.le_of_ble_eq_true rfl) (by exact Nat.le_of_ble_eq_true rfl) (by exact k_167 hF) ?_
    refine S_byteAt hT (k := a) (by omega) ?_
    show Wp g mX12_blanks _ _ _ 8 _ (_ :: _) _ Q
    refine r_bipush (32) dX12_blanks_8 rfl ?_
    refine r_icmp_ne 26 dX12_blanks_10 rfl (fun hne => ?_) (fun hne => ?_)
    ·
      refine r_return dX12_blanks_26 rfl ?_
      exact k m Sy.rf (fun _ _ => rfl) h4
    ·
      exact absurd (byB_bl.mp hne).1 (by omega)
  | succ t ih =>
    intro a m ht ha hT h4 k
    have hF := hT.1
    refine r_aload_n dX12_blanks_0 rfl ?_
    refine r_aload_n dX12_blanks_1 rfl ?_
    refine r_getIc (nI a) dX12_blanks_2 fgX12_117 rfl (by exact k_167 hF) (by exact h4) ?_
    refine r_callV1 (ci := 12) (d1 := 0) (c1 := 0) (n1 := 0) dX12_blanks_5 mvX12_120 rfl ⟨(Nat.le_of_ble_eq_true rfl), rfl⟩ (Nat.le_of_ble_eq_true rfl) (by exact Nat.le_of_ble_eq_true rfl) (by exact k_167 hF) ?_
    refine S_byteAt hT (k := a) (by omega) ?_
    show Wp g mX12_blanks _ _ _ 8 _ (_ :: _) _ Q
    refine r_bipush (32) dX12_blanks_8 rfl ?_
    refine r_icmp_ne 26 dX12_blanks_10 rfl (fun hne => ?_) (fun hne => ?_)
    ·
      refine r_return dX12_blanks_26 rfl ?_
      rw [rE_f (fun q => hne (byB_bl.mpr q))] at k; exact k m Sy.rf (fun _ _ => rfl) h4
    ·
      refine r_aload_n dX12_blanks_13 rfl ?_
      refine r_dup dX12_blanks_14 rfl ?_
      refine r_getIc (nI a) dX12_blanks_15 fgX12_117 rfl (by exact k_167 hF) (by exact h4) ?_
      refine r_iconst (1) dX12_blanks_18 rfl ?_
      refine r_iadd dX12_blanks_19 ?_
      refine r_putI dX12_blanks_20 (fpX12_117 _ rfl) rfl (by exact k_167 hF) ⟨rfl, rfl⟩ ?_
      refine r_goto 0 dX12_blanks_23 rfl ?_
      have w := byB_bl.mp hne
      rw [nI_1 a]; rw [rE_t w.1 w.2] at k
      have y1 : Sy m (stI m 167 4 (nI (a + 1))) := Sy.rf.s (by omega) (by omega) (by omega)
      exact ih (a + 1) _ (by omega) (by have := hT.2.1; omega) (hT.sy y1) ld_s (fun m' s' e' a' => k m' (y1.tr s') (fun j hj => (e' j hj).trans (ld_n (by omega) rfl)) a')
theorem S_blanksP {g : GG} {m : MM} {Q : Out → Prop} {b : Nat → Int32} {n a o : Nat} (h : RPa b n a o m) (k : ∀ m', Sy m m' → RPa b n (rE b n isBl a) o m' → Q (.inl none, m')) : Cl g 1 0 0 mX12_blanks [.ref 167] m Q := by
  obtain ⟨hT, h4, ha, h5, h6, h7⟩ := h
  refine Cl.of rfl (by decide) (Nat.le_of_ble_eq_true rfl) ?_
  exact L_rbl _ a m rfl (by have := hT.2.1; omega) hT h4 (fun m' s' e' a' => k m' s' ⟨hT.sy s', a', rE_n ha, (e' 5 (by omega)).trans h5, (e' 6 (by omega)).trans h6, (e' 7 (by omega)).trans h7⟩)
theorem S_blanksE {g : GG} {m : MM} {Q : Out → Prop} {b : Nat → Int32} {n K : Nat} {e : Er} (h : RE b n K e m) (k : ∀ m', Sy m m' → RE b n K e m' → Q (.inl none, m')) : Cl g 1 0 0 mX12_blanks [.ref 167] m Q := by
  obtain ⟨hT, ⟨hn, hK, a, ha, h4⟩, h6, h7, h8⟩ := h
  refine Cl.of rfl (by decide) (Nat.le_of_ble_eq_true rfl) ?_
  refine L_rbl _ a m rfl (by omega) hT h4 (fun m' s' e' a' => k m' s' ⟨hT.sy s', ⟨hn, hK, _, ?_, a'⟩, (e' 6 (by omega)).trans h6, h7, (e' 7 (by omega)).trans h8⟩)
  by_cases q : a ≤ n
  · exact Nat.le_trans (rE_n q) hn
  · rw [rE_f (by omega)]; exact ha
theorem byB_lt {b : Nat → Int32} {n a : Nat} : (97 ≤ byB b n a ∧ byB b n a ≤ 122) ↔ (a < n ∧ isLt (b a) = true) := by
  unfold byB
  by_cases c : a < n
  · rw [if_pos c]; exact ⟨fun q => ⟨c, decide_eq_true q⟩, fun q => of_decide_eq_true q.2⟩
  · rw [if_neg c]; exact ⟨fun q => absurd q.1 (by decide), fun q => absurd q.1 c⟩
theorem L_rsk {g : GG} {Q : Out → Prop} {b : Nat → Int32} {n : Nat} : ∀ (t a : Nat) (m : MM), n - a = t → a ≤ 600 → TxB b n m → ldI m 167 4 = nI a → (∀ m', Sy m m' → (∀ k, k ≠ 4 → ldI m' 167 k = ldI m 167 k) → ldI m' 167 4 = nI (rE b n isLt a) → Q (.inl none, m')) → Wp g mX12_skipWord 1 0 0 0 [.ref 167] [] m Q := by
  intro t
  induction t with
  | zero =>
    intro a m ht ha hT h4 k
    have hF := hT.1
    rw [rE_f (by omega)] at k
    refine r_aload_n dX12_skipWord_0 rfl ?_
    refine r_aload_n dX12_skipWord_1 rfl ?_
    refine r_getIc (nI a) dX12_skipWord_2 fgX12_117 rfl (by exact k_167 hF) (by exact h4) ?_
    refine r_callV1 (ci := 12) (d1 := 0) (c1 := 0) (n1 := 0) dX12_skipWord_5 mvX12_120 rfl ⟨(Nat.le_of_ble_eq_true rfl), rfl⟩ (Nat.le_of_ble_eq_true rfl) (by exact Nat.le_of_ble_eq_true rfl) (by exact k_167 hF) ?_
    refine S_byteAt hT (k := a) (by omega) ?_
    show Wp g mX12_skipWord _ _ _ 8 _ (_ :: _) _ Q
    refine r_bipush (97) dX12_skipWord_8 rfl ?_
    refine r_icmp_lt 39 dX12_skipWord_10 rfl (fun h1 => ?_) (fun h1 => ?_)
    ·
      refine r_return dX12_skipWord_39 rfl ?_
      exact k m Sy.rf (fun _ _ => rfl) h4
    ·
      refine r_aload_n dX12_skipWord_13 rfl ?_
      refine r_aload_n dX12_skipWord_14 rfl ?_
      refine r_getIc (nI a) dX12_skipWord_15 fgX12_117 rfl (by exact k_167 hF) (by exact h4) ?_
      refine r_callV1 (ci := 12) (d1 := 0) (c1 := 0) (n1 := 0) dX12_skipWord_18 mvX12_120 rfl ⟨(Nat.le_of_ble_eq_true rfl), rfl⟩ (Nat.le_of_ble_eq_true rfl) (by exact Nat.le_of_ble_eq_true rfl) (by exact k_167 hF) ?_
      refine S_byteAt hT (k := a) (by omega) ?_
      show Wp g mX12_skipWord _ _ _ 21 _ (_ :: _) _ Q
      refine r_bipush (122) dX12_skipWord_21 rfl ?_
      refine r_icmp_gt 39 dX12_skipWord_23 rfl (fun h2 => ?_) (fun h2 => ?_)
      ·
        refine r_return dX12_skipWord_39 rfl ?_
        exact k m Sy.rf (fun _ _ => rfl) h4
      ·
        exact absurd (byB_lt.mp ⟨i32_nlt.mp h1, i32_nlt.mp h2⟩).1 (by omega)
  | succ t ih =>
    intro a m ht ha hT h4 k
    have hF := hT.1
    refine r_aload_n dX12_skipWord_0 rfl ?_
    refine r_aload_n dX12_skipWord_1 rfl ?_
    refine r_getIc (nI a) dX12_skipWord_2 fgX12_117 rfl (by exact k_167 hF) (by exact h4) ?_
    refine r_callV1 (ci := 12) (d1 := 0) (c1 := 0) (n1 := 0) dX12_skipWord_5 mvX12_120 rfl ⟨(Nat.le_of_ble_eq_true rfl), rfl⟩ (Nat.le_of_ble_eq_true rfl) (by exact Nat.le_of_ble_eq_true rfl) (by exact k_167 hF) ?_
    refine S_byteAt hT (k := a) (by omega) ?_
    show Wp g mX12_skipWord _ _ _ 8 _ (_ :: _) _ Q
    refine r_bipush (97) dX12_skipWord_8 rfl ?_
    refine r_icmp_lt 39 dX12_skipWord_10 rfl (fun h1 => ?_) (fun h1 => ?_)
    ·
      refine r_return dX12_skipWord_39 rfl ?_
      rw [rE_f (fun q => i32_nlt.mpr (byB_lt.mpr q).1 h1)] at k; exact k m Sy.rf (fun _ _ => rfl) h4
    ·
      refine r_aload_n dX12_skipWord_13 rfl ?_
      refine r_aload_n dX12_skipWord_14 rfl ?_
      refine r_getIc (nI a) dX12_skipWord_15 fgX12_117 rfl (by exact k_167 hF) (by exact h4) ?_
      refine r_callV1 (ci := 12) (d1 := 0) (c1 := 0) (n1 := 0) dX12_skipWord_18 mvX12_120 rfl ⟨(Nat.le_of_ble_eq_true rfl), rfl⟩ (Nat.le_of_ble_eq_true rfl) (by exact Nat.le_of_ble_eq_true rfl) (by exact k_167 hF) ?_
      refine S_byteAt hT (k := a) (by omega) ?_
      show Wp g mX12_skipWord _ _ _ 21 _ (_ :: _) _ Q
      refine r_bipush (122) dX12_skipWord_21 rfl ?_
      refine r_icmp_gt 39 dX12_skipWord_23 rfl (fun h2 => ?_) (fun h2 => ?_)
      ·
        refine r_return dX12_skipWord_39 rfl ?_
        rw [rE_f (fun q => i32_nlt.mpr (byB_lt.mpr q).2 h2)] at k; exact k m Sy.rf (fun _ _ => rfl) h4
      ·
        refine r_aload_n dX12_skipWord_26 rfl ?_
        refine r_dup dX12_skipWord_27 rfl ?_
        refine r_getIc (nI a) dX12_skipWord_28 fgX12_117 rfl (by exact k_167 hF) (by exact h4) ?_
        refine r_iconst (1) dX12_skipWord_31 rfl ?_
        refine r_iadd dX12_skipWord_32 ?_
        refine r_putI dX12_skipWord_33 (fpX12_117 _ rfl) rfl (by exact k_167 hF) ⟨rfl, rfl⟩ ?_
        refine r_goto 0 dX12_skipWord_36 rfl ?_
        have w := byB_lt.mp ⟨i32_nlt.mp h1, i32_nlt.mp h2⟩
        rw [nI_1 a]; rw [rE_t w.1 w.2] at k
        have y1 : Sy m (stI m 167 4 (nI (a + 1))) := Sy.rf.s (by omega) (by omega) (by omega)
        exact ih (a + 1) _ (by omega) (by have := hT.2.1; omega) (hT.sy y1) ld_s (fun m' s' e' a' => k m' (y1.tr s') (fun j hj => (e' j hj).trans (ld_n (by omega) rfl)) a')
theorem S_skipP {g : GG} {m : MM} {Q : Out → Prop} {b : Nat → Int32} {n a o : Nat} (h : RPa b n a o m) (k : ∀ m', Sy m m' → RPa b n (rE b n isLt a) o m' → Q (.inl none, m')) : Cl g 1 0 0 mX12_skipWord [.ref 167] m Q := by
  obtain ⟨hT, h4, ha, h5, h6, h7⟩ := h
  refine Cl.of rfl (by decide) (Nat.le_of_ble_eq_true rfl) ?_
  exact L_rsk _ a m rfl (by have := hT.2.1; omega) hT h4 (fun m' s' e' a' => k m' s' ⟨hT.sy s', a', rE_n ha, (e' 5 (by omega)).trans h5, (e' 6 (by omega)).trans h6, (e' 7 (by omega)).trans h7⟩)
theorem byB_in {b : Nat → Int32} {n a : Nat} {c : Int32} (h : byB b n a = c) (hc : ¬ c = -1) : a < n ∧ b a = c := by
  unfold byB at h
  by_cases q : a < n
  · rw [if_pos q] at h; exact ⟨q, h⟩
  · rw [if_neg q] at h; exact absurd h.symm hc
theorem S_signP {g : GG} {m : MM} {Q : Out → Prop} {b : Nat → Int32} {n a o : Nat} (h : RPa b n a o m) {x : Int32} (hx : ¬ x = -1) (k1 : byB b n (rE b n isBl a) = x → ∀ m', Sy m m' → RPa b n (rE b n isBl a + 1) o m' → Q (.inl none, m')) (k0 : ¬ byB b n (rE b n isBl a) = x → ∀ m', Sy m m' → RE b n n (1, rE b n isBl a) m' → Q (.inl none, m')) : Cl g 2 0 0 mX12_sign [.ref 167, .int x] m Q := by
  refine Cl.of rfl (by decide) (Nat.le_of_ble_eq_true rfl) ?_
  show Wp g mX12_sign 2 0 0 0 [.ref 167, .int x] [] m Q
  have hF := h.1.1
  have hra := rE_n (b := b) (P := isBl) h.2.2.1
  have hn4 := h.1.2.1
  refine r_aload_n dX12_sign_0 rfl ?_
  refine r_callV0 (ci := 12) (d1 := 1) (c1 := 0) (n1 := 0) dX12_sign_1 mvX12_145 rfl ⟨(Nat.le_of_ble_eq_true rfl), rfl⟩ (Nat.le_of_ble_eq_true rfl) (by exact Nat.le_of_ble_eq_true rfl) (by exact k_167 hF) ?_
  refine S_blanksP h (fun m1 s1 h1 => ?_)
  have hT := h1.1
  have hF := hT.1
  show Wp g mX12_sign _ _ _ 4 _ [] _ Q
  refine r_aload_n dX12_sign_4 rfl ?_
  refine r_aload_n dX12_sign_5 rfl ?_
  refine r_getIc (nI (rE b n isBl a)) dX12_sign_6 fgX12_117 rfl (by exact k_167 hF) (by exact h1.2.1) ?_
  refine r_callV1 (ci := 12) (d1 := 0) (c1 := 0) (n1 := 0) dX12_sign_9 mvX12_120 rfl ⟨(Nat.le_of_ble_eq_true rfl), rfl⟩ (Nat.le_of_ble_eq_true rfl) (by exact Nat.le_of_ble_eq_true rfl) (by exact k_167 hF) ?_
  refine S_byteAt hT (k := rE b n isBl a) (by omega) ?_
  show Wp g mX12_sign _ _ _ 12 _ (_ :: _) _ Q
  refine r_iload_n dX12_sign_12 rfl ?_
  refine r_icmp_ne 29 dX12_sign_13 rfl (fun hne => ?_) (fun hne => ?_)
  ·
    refine r_aload_n dX12_sign_29 rfl ?_
    refine r_iconst (1) dX12_sign_30 rfl ?_
    refine r_aload_n dX12_sign_31 rfl ?_
    refine r_getIc (nI (rE b n isBl a)) dX12_sign_32 fgX12_117 rfl (by exact k_167 hF) (by exact h1.2.1) ?_
    refine r_callV2 (ci := 12) (d1 := 0) (c1 := 0) (n1 := 0) dX12_sign_35 mvX12_141 rfl ⟨(Nat.le_of_ble_eq_true rfl), rfl⟩ (Nat.le_of_ble_eq_true rfl) (by exact Nat.le_of_ble_eq_true rfl) (by exact k_167 hF) ?_
    refine S_wrongP h1 (by decide) (fun m2 s2 h2 => ?_)
    show Wp g mX12_sign _ _ _ 38 _ [] _ Q
    refine r_return dX12_sign_38 rfl ?_
    exact k0 hne m2 (s1.tr s2) h2
  ·
    refine r_aload_n dX12_sign_16 rfl ?_
    refine r_dup dX12_sign_17 rfl ?_
    refine r_getIc (nI (rE b n isBl a)) dX12_sign_18 fgX12_117 rfl (by exact k_167 hF) (by exact h1.2.1) ?_
    refine r_iconst (1) dX12_sign_21 rfl ?_
    refine r_iadd dX12_sign_22 ?_
    refine r_putI dX12_sign_23 (fpX12_117 _ rfl) rfl (by exact k_167 hF) ⟨rfl, rfl⟩ ?_
    refine r_goto 38 dX12_sign_26 rfl ?_
    refine r_return dX12_sign_38 rfl ?_
    rw [nI_1]; exact k1 hne _ (s1.s (by omega) (by omega) (by omega)) ⟨hT.sy (Sy.rf.s (by omega) (by omega) (by omega)), ld_s, (byB_in hne hx).1, ld_n (by decide) h1.2.2.2.1, ld_n (by decide) h1.2.2.2.2.1, ld_n (by decide) h1.2.2.2.2.2⟩
theorem S_signE {g : GG} {m : MM} {Q : Out → Prop} {b : Nat → Int32} {n K : Nat} {e : Er} (h : RE b n K e m) {x : Int32} (hx : ¬ x = -1) (k : ∀ m', Sy m m' → RE b n K e m' → Q (.inl none, m')) : Cl g 2 0 0 mX12_sign [.ref 167, .int x] m Q := by
  refine Cl.of rfl (by decide) (Nat.le_of_ble_eq_true rfl) ?_
  show Wp g mX12_sign 2 0 0 0 [.ref 167, .int x] [] m Q
  have hF := h.1.1
  refine r_aload_n dX12_sign_0 rfl ?_
  refine r_callV0 (ci := 12) (d1 := 1) (c1 := 0) (n1 := 0) dX12_sign_1 mvX12_145 rfl ⟨(Nat.le_of_ble_eq_true rfl), rfl⟩ (Nat.le_of_ble_eq_true rfl) (by exact Nat.le_of_ble_eq_true rfl) (by exact k_167 hF) ?_
  refine S_blanksE h (fun m1 s1 h1 => ?_)
  have hT := h1.1
  have hF := hT.1
  obtain ⟨hn, hK, a, ha, h4⟩ := h1.2.1
  show Wp g mX12_sign _ _ _ 4 _ [] _ Q
  refine r_aload_n dX12_sign_4 rfl ?_
  refine r_aload_n dX12_sign_5 rfl ?_
  refine r_getIc (nI a) dX12_sign_6 fgX12_117 rfl (by exact k_167 hF) (by exact h4) ?_
  refine r_callV1 (ci := 12) (d1 := 0) (c1 := 0) (n1 := 0) dX12_sign_9 mvX12_120 rfl ⟨(Nat.le_of_ble_eq_true rfl), rfl⟩ (Nat.le_of_ble_eq_true rfl) (by exact Nat.le_of_ble_eq_true rfl) (by exact k_167 hF) ?_
  refine S_byteAt hT (k := a) (by omega) ?_
  show Wp g mX12_sign _ _ _ 12 _ (_ :: _) _ Q
  refine r_iload_n dX12_sign_12 rfl ?_
  refine r_icmp_ne 29 dX12_sign_13 rfl (fun hne => ?_) (fun hne => ?_)
  ·
    refine r_aload_n dX12_sign_29 rfl ?_
    refine r_iconst (1) dX12_sign_30 rfl ?_
    refine r_aload_n dX12_sign_31 rfl ?_
    refine r_getIc (nI a) dX12_sign_32 fgX12_117 rfl (by exact k_167 hF) (by exact h4) ?_
    refine r_callV2 (ci := 12) (d1 := 0) (c1 := 0) (n1 := 0) dX12_sign_35 mvX12_141 rfl ⟨(Nat.le_of_ble_eq_true rfl), rfl⟩ (Nat.le_of_ble_eq_true rfl) (by exact Nat.le_of_ble_eq_true rfl) (by exact k_167 hF) ?_
    refine S_wrongE h1 ?_
    show Wp g mX12_sign _ _ _ 38 _ [] _ Q
    refine r_return dX12_sign_38 rfl ?_
    exact k m1 s1 h1
  ·
    refine r_aload_n dX12_sign_16 rfl ?_
    refine r_dup dX12_sign_17 rfl ?_
    refine r_getIc (nI a) dX12_sign_18 fgX12_117 rfl (by exact k_167 hF) (by exact h4) ?_
    refine r_iconst (1) dX12_sign_21 rfl ?_
    refine r_iadd dX12_sign_22 ?_
    refine r_putI dX12_sign_23 (fpX12_117 _ rfl) rfl (by exact k_167 hF) ⟨rfl, rfl⟩ ?_
    refine r_goto 38 dX12_sign_26 rfl ?_
    refine r_return dX12_sign_38 rfl ?_
    rw [nI_1]; exact k _ (s1.s (by omega) (by omega) (by omega)) ⟨hT.sy (Sy.rf.s (by omega) (by omega) (by omega)), ⟨hn, hK, a + 1, by have := (byB_in hne hx).1; omega, ld_s⟩, ld_n (by decide) h1.2.2.1, h1.2.2.2.1, ld_n (by decide) h1.2.2.2.2⟩
