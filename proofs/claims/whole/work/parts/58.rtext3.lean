theorem S_wrong4 {g : GG} {m : MM} {Q : Out → Prop} {b : Nat → Int32} {n a o p : Nat} (h : RPa b n a o m) {x : Int32} (hx : ¬ x = 0) (k : ∀ m', Sy m m' → ldI m' 167 4 = nI a → RE b n n (x, p) m' → Q (.inl none, m')) : Cl g 0 0 0 mX12_wrong [.ref 167, .int x, .int (nI p)] m Q := by
  refine Cl.of rfl (by decide) (Nat.le_of_ble_eq_true rfl) ?_
  show Wp g mX12_wrong 0 0 0 0 [.ref 167, .int x, .int (nI p)] [] m Q
  have hF := h.1.1
  refine r_aload_n dX12_wrong_0 rfl ?_
  refine r_getIc (0) dX12_wrong_1 fgX12_124 rfl (by exact k_167 hF) (by exact h.2.2.2.2.1) ?_
  refine r_if_ne 17 dX12_wrong_4 rfl (fun hz => absurd hz (by decide)) (fun _ => ?_)
  refine r_aload_n dX12_wrong_7 rfl ?_
  refine r_iload_n dX12_wrong_8 rfl ?_
  refine r_putI dX12_wrong_9 (fpX12_124 _ rfl) rfl (by exact k_167 hF) ⟨rfl, rfl⟩ ?_
  refine r_aload_n dX12_wrong_12 rfl ?_
  refine r_iload_n dX12_wrong_13 rfl ?_
  refine r_putI dX12_wrong_14 (fpX12_127 _ rfl) rfl (by exact k_167 hF) ⟨rfl, rfl⟩ ?_
  refine r_return dX12_wrong_17 rfl ?_
  exact k _ ((Sy.rf.s (by omega) (by omega) (by omega)).s (by omega) (by omega) (by omega)) (ld_n (by decide) (ld_n (by decide) h.2.1)) ⟨h.1.sy ((Sy.rf.s (by omega) (by omega) (by omega)).s (by omega) (by omega) (by omega)), ⟨Nat.le_refl _, by have := h.1.2.1; omega, a, h.2.2.1, ld_n (by decide) (ld_n (by decide) h.2.1)⟩, ld_n (by decide) ld_s, hx, ld_s⟩
theorem S_opensP {g : GG} {m : MM} {Q : Out → Prop} {b : Nat → Int32} {n a o w : Nat} (h : RPa b n a o m) (ho : o ≤ 6) (hw : a + w ≤ n) (k1 : o < 6 → ∀ m', Sy m m' → RPa b n (a + w) (o + 1) m' → Q (.inl none, m')) (k0 : o = 6 → ∀ m', Sy m m' → RE b n n (3, a) m' → Q (.inl none, m')) : Cl g 1 0 0 mX12_opens [.ref 167, .int (nI w)] m Q := by
  refine Cl.of rfl (by decide) (Nat.le_of_ble_eq_true rfl) ?_
  show Wp g mX12_opens 1 0 0 0 [.ref 167, .int (nI w)] [] m Q
  have hF := h.1.1
  have hn4 := h.1.2.1
  refine r_aload_n dX12_opens_0 rfl ?_
  refine r_getIc (nI o) dX12_opens_1 fgX12_156 rfl (by exact k_167 hF) (by exact h.2.2.2.1) ?_
  refine r_bipush (6) dX12_opens_4 rfl ?_
  refine r_icmp_ne 18 dX12_opens_6 rfl (fun hne => ?_) (fun hne => ?_)
  ·
    refine r_aload_n dX12_opens_18 rfl ?_
    refine r_dup dX12_opens_19 rfl ?_
    refine r_getIc (nI o) dX12_opens_20 fgX12_156 rfl (by exact k_167 hF) (by exact h.2.2.2.1) ?_
    refine r_iconst (1) dX12_opens_23 rfl ?_
    refine r_iadd dX12_opens_24 ?_
    refine r_putI dX12_opens_25 (fpX12_156 _ rfl) rfl (by exact k_167 hF) ⟨rfl, rfl⟩ ?_
    refine r_aload_n dX12_opens_28 rfl ?_
    refine r_dup dX12_opens_29 rfl ?_
    refine r_getIc (nI a) dX12_opens_30 fgX12_117 rfl (by exact k_167 hF) (by exact ld_n (by decide) h.2.1) ?_
    refine r_iload_n dX12_opens_33 rfl ?_
    refine r_iadd dX12_opens_34 ?_
    refine r_putI dX12_opens_35 (fpX12_117 _ rfl) rfl (by exact k_167 hF) ⟨rfl, rfl⟩ ?_
    refine r_return dX12_opens_38 rfl ?_
    rw [nI_1, nI_ad2 (by omega)]
    exact k1 (by have z : o ≠ 6 := fun q => hne (by rw [q]; rfl); omega) _ ((Sy.rf.s (by omega) (by omega) (by omega)).s (by omega) (by omega) (by omega)) ⟨h.1.sy ((Sy.rf.s (by omega) (by omega) (by omega)).s (by omega) (by omega) (by omega)), ld_s, hw, ld_n (by decide) ld_s, ld_n (by decide) (ld_n (by decide) h.2.2.2.2.1), ld_n (by decide) (ld_n (by decide) h.2.2.2.2.2)⟩
  ·
    refine r_aload_n dX12_opens_9 rfl ?_
    refine r_iconst (3) dX12_opens_10 rfl ?_
    refine r_aload_n dX12_opens_11 rfl ?_
    refine r_getIc (nI a) dX12_opens_12 fgX12_117 rfl (by exact k_167 hF) (by exact h.2.1) ?_
    refine r_callV2 (ci := 12) (d1 := 0) (c1 := 0) (n1 := 0) dX12_opens_15 mvX12_141 rfl ⟨(Nat.le_of_ble_eq_true rfl), rfl⟩ (Nat.le_of_ble_eq_true rfl) (by exact Nat.le_of_ble_eq_true rfl) (by exact k_167 hF) ?_
    refine S_wrong4 h (by decide) (fun m1 s1 ha1 h1 => ?_)
    have hF := h1.1.1
    show Wp g mX12_opens _ _ _ 18 _ [] _ Q
    refine r_aload_n dX12_opens_18 rfl ?_
    refine r_dup dX12_opens_19 rfl ?_
    refine r_getI dX12_opens_20 fgX12_156 rfl (by exact k_167 hF) ?_
    refine r_iconst (1) dX12_opens_23 rfl ?_
    refine r_iadd dX12_opens_24 ?_
    refine r_putI dX12_opens_25 (fpX12_156 _ rfl) rfl (by exact k_167 hF) ⟨rfl, rfl⟩ ?_
    refine r_aload_n dX12_opens_28 rfl ?_
    refine r_dup dX12_opens_29 rfl ?_
    refine r_getIc (nI a) dX12_opens_30 fgX12_117 rfl (by exact k_167 hF) (by exact ld_n (by decide) ha1) ?_
    refine r_iload_n dX12_opens_33 rfl ?_
    refine r_iadd dX12_opens_34 ?_
    refine r_putI dX12_opens_35 (fpX12_117 _ rfl) rfl (by exact k_167 hF) ⟨rfl, rfl⟩ ?_
    refine r_return dX12_opens_38 rfl ?_
    rw [nI_ad2 (by omega)]
    exact k0 ((nI_eq (b := 6) (by omega) (by omega)).mp hne) _ ((s1.s (by omega) (by omega) (by omega)).s (by omega) (by omega) (by omega)) ⟨h1.1.sy ((Sy.rf.s (by omega) (by omega) (by omega)).s (by omega) (by omega) (by omega)), ⟨Nat.le_refl _, by omega, a + w, hw, ld_s⟩, ld_n (by decide) (ld_n (by decide) h1.2.2.1), (show ¬ (3 : Int32) = 0 by decide), ld_n (by decide) (ld_n (by decide) h1.2.2.2.2)⟩
theorem S_isW0 {g : GG} {m : MM} {Q : Out → Prop} {b : Nat → Int32} {n a o s : Nat} (h : RPa b n a o m) (hs : rE b n isBl a = s) (k1 : tkP b n s = 256 → ∀ m', Sy m m' → RPa b n s o m' → Q (.inl (some (.int 1)), m')) (k0 : ¬ tkP b n s = 256 → ∀ m', Sy m m' → RPa b n s o m' → Q (.inl (some (.int 0)), m')) : Cl g 3 0 0 mX12_isWord [.ref 167, .int 19, .int 11, .int 9, .int 14, .int 0, .int 0] m Q := by
  subst hs
  have e : wcd 19 11 9 14 0 0 = nI (cdW 0) := by decide +kernel
  exact S_isWordP h (fun q => k1 ((tk_w (i := 0) h.1.2.2.1 (by omega)).mpr (q.trans e))) (fun q => k0 (fun z => q (((tk_w (i := 0) h.1.2.2.1 (by omega)).mp z).trans e.symm)))
theorem S_isW1 {g : GG} {m : MM} {Q : Out → Prop} {b : Nat → Int32} {n a o s : Nat} (h : RPa b n a o m) (hs : rE b n isBl a = s) (k1 : tkP b n s = 257 → ∀ m', Sy m m' → RPa b n s o m' → Q (.inl (some (.int 1)), m')) (k0 : ¬ tkP b n s = 257 → ∀ m', Sy m m' → RPa b n s o m' → Q (.inl (some (.int 0)), m')) : Cl g 3 0 0 mX12_isWord [.ref 167, .int 23, .int 1, .int 22, .int 5, .int 0, .int 0] m Q := by
  subst hs
  have e : wcd 23 1 22 5 0 0 = nI (cdW 1) := by decide +kernel
  exact S_isWordP h (fun q => k1 ((tk_w (i := 1) h.1.2.2.1 (by omega)).mpr (q.trans e))) (fun q => k0 (fun z => q (((tk_w (i := 1) h.1.2.2.1 (by omega)).mp z).trans e.symm)))
theorem S_isW2 {g : GG} {m : MM} {Q : Out → Prop} {b : Nat → Int32} {n a o s : Nat} (h : RPa b n a o m) (hs : rE b n isBl a = s) (k1 : tkP b n s = 258 → ∀ m', Sy m m' → RPa b n s o m' → Q (.inl (some (.int 1)), m')) (k0 : ¬ tkP b n s = 258 → ∀ m', Sy m m' → RPa b n s o m' → Q (.inl (some (.int 0)), m')) : Cl g 3 0 0 mX12_isWord [.ref 167, .int 5, .int 4, .int 4, .int 25, .int 0, .int 0] m Q := by
  subst hs
  have e : wcd 5 4 4 25 0 0 = nI (cdW 2) := by decide +kernel
  exact S_isWordP h (fun q => k1 ((tk_w (i := 2) h.1.2.2.1 (by omega)).mpr (q.trans e))) (fun q => k0 (fun z => q (((tk_w (i := 2) h.1.2.2.1 (by omega)).mp z).trans e.symm)))
theorem S_isW3 {g : GG} {m : MM} {Q : Out → Prop} {b : Nat → Int32} {n a o s : Nat} (h : RPa b n a o m) (hs : rE b n isBl a = s) (k1 : tkP b n s = 259 → ∀ m', Sy m m' → RPa b n s o m' → Q (.inl (some (.int 1)), m')) (k0 : ¬ tkP b n s = 259 → ∀ m', Sy m m' → RPa b n s o m' → Q (.inl (some (.int 0)), m')) : Cl g 3 0 0 mX12_isWord [.ref 167, .int 19, .int 9, .int 4, .int 5, .int 19, .int 0] m Q := by
  subst hs
  have e : wcd 19 9 4 5 19 0 = nI (cdW 3) := by decide +kernel
  exact S_isWordP h (fun q => k1 ((tk_w (i := 3) h.1.2.2.1 (by omega)).mpr (q.trans e))) (fun q => k0 (fun z => q (((tk_w (i := 3) h.1.2.2.1 (by omega)).mp z).trans e.symm)))
theorem S_isW4 {g : GG} {m : MM} {Q : Out → Prop} {b : Nat → Int32} {n a o s : Nat} (h : RPa b n a o m) (hs : rE b n isBl a = s) (k1 : tkP b n s = 260 → ∀ m', Sy m m' → RPa b n s o m' → Q (.inl (some (.int 1)), m')) (k0 : ¬ tkP b n s = 260 → ∀ m', Sy m m' → RPa b n s o m' → Q (.inl (some (.int 0)), m')) : Cl g 3 0 0 mX12_isWord [.ref 167, .int 6, .int 15, .int 21, .int 12, .int 0, .int 0] m Q := by
  subst hs
  have e : wcd 6 15 21 12 0 0 = nI (cdW 4) := by decide +kernel
  exact S_isWordP h (fun q => k1 ((tk_w (i := 4) h.1.2.2.1 (by omega)).mpr (q.trans e))) (fun q => k0 (fun z => q (((tk_w (i := 4) h.1.2.2.1 (by omega)).mp z).trans e.symm)))
theorem S_isW5 {g : GG} {m : MM} {Q : Out → Prop} {b : Nat → Int32} {n a o s : Nat} (h : RPa b n a o m) (hs : rE b n isBl a = s) (k1 : tkP b n s = 261 → ∀ m', Sy m m' → RPa b n s o m' → Q (.inl (some (.int 1)), m')) (k0 : ¬ tkP b n s = 261 → ∀ m', Sy m m' → RPa b n s o m' → Q (.inl (some (.int 0)), m')) : Cl g 3 0 0 mX12_isWord [.ref 167, .int 15, .int 6, .int 6, .int 0, .int 0, .int 0] m Q := by
  subst hs
  have e : wcd 15 6 6 0 0 0 = nI (cdW 5) := by decide +kernel
  exact S_isWordP h (fun q => k1 ((tk_w (i := 5) h.1.2.2.1 (by omega)).mpr (q.trans e))) (fun q => k0 (fun z => q (((tk_w (i := 5) h.1.2.2.1 (by omega)).mp z).trans e.symm)))
theorem S_isW6 {g : GG} {m : MM} {Q : Out → Prop} {b : Nat → Int32} {n a o s : Nat} (h : RPa b n a o m) (hs : rE b n isBl a = s) (k1 : tkP b n s = 262 → ∀ m', Sy m m' → RPa b n s o m' → Q (.inl (some (.int 1)), m')) (k0 : ¬ tkP b n s = 262 → ∀ m', Sy m m' → RPa b n s o m' → Q (.inl (some (.int 0)), m')) : Cl g 3 0 0 mX12_isWord [.ref 167, .int 1, .int 4, .int 4, .int 0, .int 0, .int 0] m Q := by
  subst hs
  have e : wcd 1 4 4 0 0 0 = nI (cdW 6) := by decide +kernel
  exact S_isWordP h (fun q => k1 ((tk_w (i := 6) h.1.2.2.1 (by omega)).mpr (q.trans e))) (fun q => k0 (fun z => q (((tk_w (i := 6) h.1.2.2.1 (by omega)).mp z).trans e.symm)))
theorem S_isW7 {g : GG} {m : MM} {Q : Out → Prop} {b : Nat → Int32} {n a o s : Nat} (h : RPa b n a o m) (hs : rE b n isBl a = s) (k1 : tkP b n s = 263 → ∀ m', Sy m m' → RPa b n s o m' → Q (.inl (some (.int 1)), m')) (k0 : ¬ tkP b n s = 263 → ∀ m', Sy m m' → RPa b n s o m' → Q (.inl (some (.int 0)), m')) : Cl g 3 0 0 mX12_isWord [.ref 167, .int 13, .int 15, .int 18, .int 5, .int 0, .int 0] m Q := by
  subst hs
  have e : wcd 13 15 18 5 0 0 = nI (cdW 7) := by decide +kernel
  exact S_isWordP h (fun q => k1 ((tk_w (i := 7) h.1.2.2.1 (by omega)).mpr (q.trans e))) (fun q => k0 (fun z => q (((tk_w (i := 7) h.1.2.2.1 (by omega)).mp z).trans e.symm)))
theorem S_isW8 {g : GG} {m : MM} {Q : Out → Prop} {b : Nat → Int32} {n a o s : Nat} (h : RPa b n a o m) (hs : rE b n isBl a = s) (k1 : tkP b n s = 264 → ∀ m', Sy m m' → RPa b n s o m' → Q (.inl (some (.int 1)), m')) (k0 : ¬ tkP b n s = 264 → ∀ m', Sy m m' → RPa b n s o m' → Q (.inl (some (.int 0)), m')) : Cl g 3 0 0 mX12_isWord [.ref 167, .int 12, .int 5, .int 14, .int 7, .int 20, .int 8] m Q := by
  subst hs
  have e : wcd 12 5 14 7 20 8 = nI (cdW 8) := by decide +kernel
  exact S_isWordP h (fun q => k1 ((tk_w (i := 8) h.1.2.2.1 (by omega)).mpr (q.trans e))) (fun q => k0 (fun z => q (((tk_w (i := 8) h.1.2.2.1 (by omega)).mp z).trans e.symm)))
theorem S_isW9 {g : GG} {m : MM} {Q : Out → Prop} {b : Nat → Int32} {n a o s : Nat} (h : RPa b n a o m) (hs : rE b n isBl a = s) (k1 : tkP b n s = 265 → ∀ m', Sy m m' → RPa b n s o m' → Q (.inl (some (.int 1)), m')) (k0 : ¬ tkP b n s = 265 → ∀ m', Sy m m' → RPa b n s o m' → Q (.inl (some (.int 0)), m')) : Cl g 3 0 0 mX12_isWord [.ref 167, .int 19, .int 16, .int 5, .int 5, .int 4, .int 0] m Q := by
  subst hs
  have e : wcd 19 16 5 5 4 0 = nI (cdW 9) := by decide +kernel
  exact S_isWordP h (fun q => k1 ((tk_w (i := 9) h.1.2.2.1 (by omega)).mpr (q.trans e))) (fun q => k0 (fun z => q (((tk_w (i := 9) h.1.2.2.1 (by omega)).mp z).trans e.symm)))
theorem S_isW10 {g : GG} {m : MM} {Q : Out → Prop} {b : Nat → Int32} {n a o s : Nat} (h : RPa b n a o m) (hs : rE b n isBl a = s) (k1 : tkP b n s = 266 → ∀ m', Sy m m' → RPa b n s o m' → Q (.inl (some (.int 1)), m')) (k0 : ¬ tkP b n s = 266 → ∀ m', Sy m m' → RPa b n s o m' → Q (.inl (some (.int 0)), m')) : Cl g 3 0 0 mX12_isWord [.ref 167, .int 23, .int 5, .int 20, .int 0, .int 0, .int 0] m Q := by
  subst hs
  have e : wcd 23 5 20 0 0 0 = nI (cdW 10) := by decide +kernel
  exact S_isWordP h (fun q => k1 ((tk_w (i := 10) h.1.2.2.1 (by omega)).mpr (q.trans e))) (fun q => k0 (fun z => q (((tk_w (i := 10) h.1.2.2.1 (by omega)).mp z).trans e.symm)))
theorem S_isW11 {g : GG} {m : MM} {Q : Out → Prop} {b : Nat → Int32} {n a o s : Nat} (h : RPa b n a o m) (hs : rE b n isBl a = s) (k1 : tkP b n s = 267 → ∀ m', Sy m m' → RPa b n s o m' → Q (.inl (some (.int 1)), m')) (k0 : ¬ tkP b n s = 267 → ∀ m', Sy m m' → RPa b n s o m' → Q (.inl (some (.int 0)), m')) : Cl g 3 0 0 mX12_isWord [.ref 167, .int 22, .int 15, .int 12, .int 21, .int 13, .int 5] m Q := by
  subst hs
  have e : wcd 22 15 12 21 13 5 = nI (cdW 11) := by decide +kernel
  exact S_isWordP h (fun q => k1 ((tk_w (i := 11) h.1.2.2.1 (by omega)).mpr (q.trans e))) (fun q => k0 (fun z => q (((tk_w (i := 11) h.1.2.2.1 (by omega)).mp z).trans e.symm)))
theorem S_isW12 {g : GG} {m : MM} {Q : Out → Prop} {b : Nat → Int32} {n a o s : Nat} (h : RPa b n a o m) (hs : rE b n isBl a = s) (k1 : tkP b n s = 268 → ∀ m', Sy m m' → RPa b n s o m' → Q (.inl (some (.int 1)), m')) (k0 : ¬ tkP b n s = 268 → ∀ m', Sy m m' → RPa b n s o m' → Q (.inl (some (.int 0)), m')) : Cl g 3 0 0 mX12_isWord [.ref 167, .int 2, .int 5, .int 1, .int 13, .int 0, .int 0] m Q := by
  subst hs
  have e : wcd 2 5 1 13 0 0 = nI (cdW 12) := by decide +kernel
  exact S_isWordP h (fun q => k1 ((tk_w (i := 12) h.1.2.2.1 (by omega)).mpr (q.trans e))) (fun q => k0 (fun z => q (((tk_w (i := 12) h.1.2.2.1 (by omega)).mp z).trans e.symm)))
theorem S_isW13 {g : GG} {m : MM} {Q : Out → Prop} {b : Nat → Int32} {n a o s : Nat} (h : RPa b n a o m) (hs : rE b n isBl a = s) (k1 : tkP b n s = 269 → ∀ m', Sy m m' → RPa b n s o m' → Q (.inl (some (.int 1)), m')) (k0 : ¬ tkP b n s = 269 → ∀ m', Sy m m' → RPa b n s o m' → Q (.inl (some (.int 0)), m')) : Cl g 3 0 0 mX12_isWord [.ref 167, .int 4, .int 18, .int 1, .int 6, .int 20, .int 0] m Q := by
  subst hs
  have e : wcd 4 18 1 6 20 0 = nI (cdW 13) := by decide +kernel
  exact S_isWordP h (fun q => k1 ((tk_w (i := 13) h.1.2.2.1 (by omega)).mpr (q.trans e))) (fun q => k0 (fun z => q (((tk_w (i := 13) h.1.2.2.1 (by omega)).mp z).trans e.symm)))
theorem S_isW14 {g : GG} {m : MM} {Q : Out → Prop} {b : Nat → Int32} {n a o s : Nat} (h : RPa b n a o m) (hs : rE b n isBl a = s) (k1 : tkP b n s = 270 → ∀ m', Sy m m' → RPa b n s o m' → Q (.inl (some (.int 1)), m')) (k0 : ¬ tkP b n s = 270 → ∀ m', Sy m m' → RPa b n s o m' → Q (.inl (some (.int 0)), m')) : Cl g 3 0 0 mX12_isWord [.ref 167, .int 6, .int 14, .int 0, .int 0, .int 0, .int 0] m Q := by
  subst hs
  have e : wcd 6 14 0 0 0 0 = nI (cdW 14) := by decide +kernel
  exact S_isWordP h (fun q => k1 ((tk_w (i := 14) h.1.2.2.1 (by omega)).mpr (q.trans e))) (fun q => k0 (fun z => q (((tk_w (i := 14) h.1.2.2.1 (by omega)).mp z).trans e.symm)))
theorem S_isW15 {g : GG} {m : MM} {Q : Out → Prop} {b : Nat → Int32} {n a o s : Nat} (h : RPa b n a o m) (hs : rE b n isBl a = s) (k1 : tkP b n s = 271 → ∀ m', Sy m m' → RPa b n s o m' → Q (.inl (some (.int 1)), m')) (k0 : ¬ tkP b n s = 271 → ∀ m', Sy m m' → RPa b n s o m' → Q (.inl (some (.int 0)), m')) : Cl g 3 0 0 mX12_isWord [.ref 167, .int 23, .int 9, .int 18, .int 5, .int 0, .int 0] m Q := by
  subst hs
  have e : wcd 23 9 18 5 0 0 = nI (cdW 15) := by decide +kernel
  exact S_isWordP h (fun q => k1 ((tk_w (i := 15) h.1.2.2.1 (by omega)).mpr (q.trans e))) (fun q => k0 (fun z => q (((tk_w (i := 15) h.1.2.2.1 (by omega)).mp z).trans e.symm)))
theorem S_isW16 {g : GG} {m : MM} {Q : Out → Prop} {b : Nat → Int32} {n a o s : Nat} (h : RPa b n a o m) (hs : rE b n isBl a = s) (k1 : tkP b n s = 272 → ∀ m', Sy m m' → RPa b n s o m' → Q (.inl (some (.int 1)), m')) (k0 : ¬ tkP b n s = 272 → ∀ m', Sy m m' → RPa b n s o m' → Q (.inl (some (.int 0)), m')) : Cl g 3 0 0 mX12_isWord [.ref 167, .int 19, .int 9, .int 4, .int 5, .int 0, .int 0] m Q := by
  subst hs
  have e : wcd 19 9 4 5 0 0 = nI (cdW 16) := by decide +kernel
  exact S_isWordP h (fun q => k1 ((tk_w (i := 16) h.1.2.2.1 (by omega)).mpr (q.trans e))) (fun q => k0 (fun z => q (((tk_w (i := 16) h.1.2.2.1 (by omega)).mp z).trans e.symm)))
theorem S_isW17 {g : GG} {m : MM} {Q : Out → Prop} {b : Nat → Int32} {n a o s : Nat} (h : RPa b n a o m) (hs : rE b n isBl a = s) (k1 : tkP b n s = 273 → ∀ m', Sy m m' → RPa b n s o m' → Q (.inl (some (.int 1)), m')) (k0 : ¬ tkP b n s = 273 → ∀ m', Sy m m' → RPa b n s o m' → Q (.inl (some (.int 0)), m')) : Cl g 3 0 0 mX12_isWord [.ref 167, .int 13, .int 15, .int 14, .int 20, .int 8, .int 19] m Q := by
  subst hs
  have e : wcd 13 15 14 20 8 19 = nI (cdW 17) := by decide +kernel
  exact S_isWordP h (fun q => k1 ((tk_w (i := 17) h.1.2.2.1 (by omega)).mpr (q.trans e))) (fun q => k0 (fun z => q (((tk_w (i := 17) h.1.2.2.1 (by omega)).mp z).trans e.symm)))
theorem S_isW18 {g : GG} {m : MM} {Q : Out → Prop} {b : Nat → Int32} {n a o s : Nat} (h : RPa b n a o m) (hs : rE b n isBl a = s) (k1 : tkP b n s = 274 → ∀ m', Sy m m' → RPa b n s o m' → Q (.inl (some (.int 1)), m')) (k0 : ¬ tkP b n s = 274 → ∀ m', Sy m m' → RPa b n s o m' → Q (.inl (some (.int 0)), m')) : Cl g 3 0 0 mX12_isWord [.ref 167, .int 12, .int 5, .int 1, .int 19, .int 20, .int 0] m Q := by
  subst hs
  have e : wcd 12 5 1 19 20 0 = nI (cdW 18) := by decide +kernel
  exact S_isWordP h (fun q => k1 ((tk_w (i := 18) h.1.2.2.1 (by omega)).mpr (q.trans e))) (fun q => k0 (fun z => q (((tk_w (i := 18) h.1.2.2.1 (by omega)).mp z).trans e.symm)))
theorem S_isW19 {g : GG} {m : MM} {Q : Out → Prop} {b : Nat → Int32} {n a o s : Nat} (h : RPa b n a o m) (hs : rE b n isBl a = s) (k1 : tkP b n s = 275 → ∀ m', Sy m m' → RPa b n s o m' → Q (.inl (some (.int 1)), m')) (k0 : ¬ tkP b n s = 275 → ∀ m', Sy m m' → RPa b n s o m' → Q (.inl (some (.int 0)), m')) : Cl g 3 0 0 mX12_isWord [.ref 167, .int 13, .int 15, .int 19, .int 20, .int 0, .int 0] m Q := by
  subst hs
  have e : wcd 13 15 19 20 0 0 = nI (cdW 19) := by decide +kernel
  exact S_isWordP h (fun q => k1 ((tk_w (i := 19) h.1.2.2.1 (by omega)).mpr (q.trans e))) (fun q => k0 (fun z => q (((tk_w (i := 19) h.1.2.2.1 (by omega)).mp z).trans e.symm)))
theorem S_isW20 {g : GG} {m : MM} {Q : Out → Prop} {b : Nat → Int32} {n a o s : Nat} (h : RPa b n a o m) (hs : rE b n isBl a = s) (k1 : tkP b n s = 276 → ∀ m', Sy m m' → RPa b n s o m' → Q (.inl (some (.int 1)), m')) (k0 : ¬ tkP b n s = 276 → ∀ m', Sy m m' → RPa b n s o m' → Q (.inl (some (.int 0)), m')) : Cl g 3 0 0 mX12_isWord [.ref 167, .int 18, .int 15, .int 15, .int 20, .int 0, .int 0] m Q := by
  subst hs
  have e : wcd 18 15 15 20 0 0 = nI (cdW 20) := by decide +kernel
  exact S_isWordP h (fun q => k1 ((tk_w (i := 20) h.1.2.2.1 (by omega)).mpr (q.trans e))) (fun q => k0 (fun z => q (((tk_w (i := 20) h.1.2.2.1 (by omega)).mp z).trans e.symm)))
theorem S_isW21 {g : GG} {m : MM} {Q : Out → Prop} {b : Nat → Int32} {n a o s : Nat} (h : RPa b n a o m) (hs : rE b n isBl a = s) (k1 : tkP b n s = 277 → ∀ m', Sy m m' → RPa b n s o m' → Q (.inl (some (.int 1)), m')) (k0 : ¬ tkP b n s = 277 → ∀ m', Sy m m' → RPa b n s o m' → Q (.inl (some (.int 0)), m')) : Cl g 3 0 0 mX12_isWord [.ref 167, .int 9, .int 6, .int 0, .int 0, .int 0, .int 0] m Q := by
  subst hs
  have e : wcd 9 6 0 0 0 0 = nI (cdW 21) := by decide +kernel
  exact S_isWordP h (fun q => k1 ((tk_w (i := 21) h.1.2.2.1 (by omega)).mpr (q.trans e))) (fun q => k0 (fun z => q (((tk_w (i := 21) h.1.2.2.1 (by omega)).mp z).trans e.symm)))
theorem S_isW22 {g : GG} {m : MM} {Q : Out → Prop} {b : Nat → Int32} {n a o s : Nat} (h : RPa b n a o m) (hs : rE b n isBl a = s) (k1 : tkP b n s = 278 → ∀ m', Sy m m' → RPa b n s o m' → Q (.inl (some (.int 1)), m')) (k0 : ¬ tkP b n s = 278 → ∀ m', Sy m m' → RPa b n s o m' → Q (.inl (some (.int 0)), m')) : Cl g 3 0 0 mX12_isWord [.ref 167, .int 15, .int 18, .int 0, .int 0, .int 0, .int 0] m Q := by
  subst hs
  have e : wcd 15 18 0 0 0 0 = nI (cdW 22) := by decide +kernel
  exact S_isWordP h (fun q => k1 ((tk_w (i := 22) h.1.2.2.1 (by omega)).mpr (q.trans e))) (fun q => k0 (fun z => q (((tk_w (i := 22) h.1.2.2.1 (by omega)).mp z).trans e.symm)))
theorem S_isW23 {g : GG} {m : MM} {Q : Out → Prop} {b : Nat → Int32} {n a o s : Nat} (h : RPa b n a o m) (hs : rE b n isBl a = s) (k1 : tkP b n s = 279 → ∀ m', Sy m m' → RPa b n s o m' → Q (.inl (some (.int 1)), m')) (k0 : ¬ tkP b n s = 279 → ∀ m', Sy m m' → RPa b n s o m' → Q (.inl (some (.int 0)), m')) : Cl g 3 0 0 mX12_isWord [.ref 167, .int 1, .int 14, .int 4, .int 0, .int 0, .int 0] m Q := by
  subst hs
  have e : wcd 1 14 4 0 0 0 = nI (cdW 23) := by decide +kernel
  exact S_isWordP h (fun q => k1 ((tk_w (i := 23) h.1.2.2.1 (by omega)).mpr (q.trans e))) (fun q => k0 (fun z => q (((tk_w (i := 23) h.1.2.2.1 (by omega)).mp z).trans e.symm)))
theorem S_isW24 {g : GG} {m : MM} {Q : Out → Prop} {b : Nat → Int32} {n a o s : Nat} (h : RPa b n a o m) (hs : rE b n isBl a = s) (k1 : tkP b n s = 280 → ∀ m', Sy m m' → RPa b n s o m' → Q (.inl (some (.int 1)), m')) (k0 : ¬ tkP b n s = 280 → ∀ m', Sy m m' → RPa b n s o m' → Q (.inl (some (.int 0)), m')) : Cl g 3 0 0 mX12_isWord [.ref 167, .int 14, .int 15, .int 20, .int 0, .int 0, .int 0] m Q := by
  subst hs
  have e : wcd 14 15 20 0 0 0 = nI (cdW 24) := by decide +kernel
  exact S_isWordP h (fun q => k1 ((tk_w (i := 24) h.1.2.2.1 (by omega)).mpr (q.trans e))) (fun q => k0 (fun z => q (((tk_w (i := 24) h.1.2.2.1 (by omega)).mp z).trans e.symm)))
theorem S_X12_nameHere {g : GG} {m : MM} {Q : Out → Prop} {b : Nat → Int32} {n a o s : Nat} (h : RPa b n a o m) (hs : rE b n isBl a = s) (k1 : ∀ j, j < 10 → tkP b n s = nI (264 + j) → ∀ m', Sy m m' → RPa b n s o m' → Q (.inl (some (.int (nI j))), m')) (k0 : (∀ j, j < 10 → ¬ tkP b n s = nI (264 + j)) → ∀ m', Sy m m' → RPa b n s o m' → Q (.inl (some (.int (-1))), m')) : Cl g 4 0 0 mX12_nameHere [.ref 167] m Q := by
  refine Cl.of rfl (by decide) (Nat.le_of_ble_eq_true rfl) ?_
  show Wp g mX12_nameHere 4 0 0 0 [.ref 167] [] m Q
  have hss : rE b n isBl s = s := by rw [← hs]; exact rE_id
  refine r_aload_n dX12_nameHere_0 rfl ?_
  refine r_bipush (12) dX12_nameHere_1 rfl ?_
  refine r_iconst (5) dX12_nameHere_3 rfl ?_
  refine r_bipush (14) dX12_nameHere_4 rfl ?_
  refine r_bipush (7) dX12_nameHere_6 rfl ?_
  refine r_bipush (20) dX12_nameHere_8 rfl ?_
  refine r_bipush (8) dX12_nameHere_10 rfl ?_
  refine r_callV6 (ci := 12) (d1 := 3) (c1 := 0) (n1 := 0) dX12_nameHere_12 mvX12_159 rfl ⟨(Nat.le_of_ble_eq_true rfl), rfl⟩ (Nat.le_of_ble_eq_true rfl) (by exact Nat.le_of_ble_eq_true rfl) (by exact k_167 h.1.1) ?_
  refine S_isW8 h hs (fun t8 m1 q1 h1 => ?_) (fun t8 m1 q1 h1 => ?_)
  ·
    have y1 := Sy.rf.tr q1
    have hF := h1.1.1
    show Wp g mX12_nameHere _ _ _ 15 _ (_ :: _) _ Q
    refine r_if_eq 20 dX12_nameHere_15 rfl (fun hz => absurd hz (by decide)) (fun _ => ?_)
    refine r_iconst (0) dX12_nameHere_18 rfl ?_
    refine r_ireturn dX12_nameHere_19 rfl rfl ?_
    exact k1 0 (by omega) t8 m1 y1 h1
  ·
    have y1 := Sy.rf.tr q1
    have hF := h1.1.1
    show Wp g mX12_nameHere _ _ _ 15 _ (_ :: _) _ Q
    refine r_if_eq 20 dX12_nameHere_15 rfl (fun _ => ?_) (fun hz => absurd hz (by decide))
    refine r_aload_n dX12_nameHere_20 rfl ?_
    refine r_bipush (19) dX12_nameHere_21 rfl ?_
    refine r_bipush (16) dX12_nameHere_23 rfl ?_
    refine r_iconst (5) dX12_nameHere_25 rfl ?_
    refine r_iconst (5) dX12_nameHere_26 rfl ?_
    refine r_iconst (4) dX12_nameHere_27 rfl ?_
    refine r_iconst (0) dX12_nameHere_28 rfl ?_
    refine r_callV6 (ci := 12) (d1 := 3) (c1 := 0) (n1 := 0) dX12_nameHere_29 mvX12_159 rfl ⟨(Nat.le_of_ble_eq_true rfl), rfl⟩ (Nat.le_of_ble_eq_true rfl) (by exact Nat.le_of_ble_eq_true rfl) (by exact k_167 h1.1.1) ?_
    refine S_isW9 h1 hss (fun t9 m2 q2 h2 => ?_) (fun t9 m2 q2 h2 => ?_)
    ·
      have y2 := y1.tr q2
      have hF := h2.1.1
      show Wp g mX12_nameHere _ _ _ 32 _ (_ :: _) _ Q
      refine r_if_eq 37 dX12_nameHere_32 rfl (fun hz => absurd hz (by decide)) (fun _ => ?_)
      refine r_iconst (1) dX12_nameHere_35 rfl ?_
      refine r_ireturn dX12_nameHere_36 rfl rfl ?_
      exact k1 1 (by omega) t9 m2 y2 h2
    ·
      have y2 := y1.tr q2
      have hF := h2.1.1
      show Wp g mX12_nameHere _ _ _ 32 _ (_ :: _) _ Q
      refine r_if_eq 37 dX12_nameHere_32 rfl (fun _ => ?_) (fun hz => absurd hz (by decide))
      refine r_aload_n dX12_nameHere_37 rfl ?_
      refine r_bipush (23) dX12_nameHere_38 rfl ?_
      refine r_iconst (5) dX12_nameHere_40 rfl ?_
      refine r_bipush (20) dX12_nameHere_41 rfl ?_
      refine r_iconst (0) dX12_nameHere_43 rfl ?_
      refine r_iconst (0) dX12_nameHere_44 rfl ?_
      refine r_iconst (0) dX12_nameHere_45 rfl ?_
      refine r_callV6 (ci := 12) (d1 := 3) (c1 := 0) (n1 := 0) dX12_nameHere_46 mvX12_159 rfl ⟨(Nat.le_of_ble_eq_true rfl), rfl⟩ (Nat.le_of_ble_eq_true rfl) (by exact Nat.le_of_ble_eq_true rfl) (by exact k_167 h2.1.1) ?_
      refine S_isW10 h2 hss (fun t10 m3 q3 h3 => ?_) (fun t10 m3 q3 h3 => ?_)
      ·
        have y3 := y2.tr q3
        have hF := h3.1.1
        show Wp g mX12_nameHere _ _ _ 49 _ (_ :: _) _ Q
        refine r_if_eq 54 dX12_nameHere_49 rfl (fun hz => absurd hz (by decide)) (fun _ => ?_)
        refine r_iconst (2) dX12_nameHere_52 rfl ?_
        refine r_ireturn dX12_nameHere_53 rfl rfl ?_
        exact k1 2 (by omega) t10 m3 y3 h3
      ·
        have y3 := y2.tr q3
        have hF := h3.1.1
        show Wp g mX12_nameHere _ _ _ 49 _ (_ :: _) _ Q
        refine r_if_eq 54 dX12_nameHere_49 rfl (fun _ => ?_) (fun hz => absurd hz (by decide))
        refine r_aload_n dX12_nameHere_54 rfl ?_
        refine r_bipush (22) dX12_nameHere_55 rfl ?_
        refine r_bipush (15) dX12_nameHere_57 rfl ?_
        refine r_bipush (12) dX12_nameHere_59 rfl ?_
        refine r_bipush (21) dX12_nameHere_61 rfl ?_
        refine r_bipush (13) dX12_nameHere_63 rfl ?_
        refine r_iconst (5) dX12_nameHere_65 rfl ?_
        refine r_callV6 (ci := 12) (d1 := 3) (c1 := 0) (n1 := 0) dX12_nameHere_66 mvX12_159 rfl ⟨(Nat.le_of_ble_eq_true rfl), rfl⟩ (Nat.le_of_ble_eq_true rfl) (by exact Nat.le_of_ble_eq_true rfl) (by exact k_167 h3.1.1) ?_
        refine S_isW11 h3 hss (fun t11 m4 q4 h4 => ?_) (fun t11 m4 q4 h4 => ?_)
        ·
          have y4 := y3.tr q4
          have hF := h4.1.1
          show Wp g mX12_nameHere _ _ _ 69 _ (_ :: _) _ Q
          refine r_if_eq 74 dX12_nameHere_69 rfl (fun hz => absurd hz (by decide)) (fun _ => ?_)
          refine r_iconst (3) dX12_nameHere_72 rfl ?_
          refine r_ireturn dX12_nameHere_73 rfl rfl ?_
          exact k1 3 (by omega) t11 m4 y4 h4
        ·
          have y4 := y3.tr q4
          have hF := h4.1.1
          show Wp g mX12_nameHere _ _ _ 69 _ (_ :: _) _ Q
          refine r_if_eq 74 dX12_nameHere_69 rfl (fun _ => ?_) (fun hz => absurd hz (by decide))
          refine r_aload_n dX12_nameHere_74 rfl ?_
          refine r_iconst (2) dX12_nameHere_75 rfl ?_
          refine r_iconst (5) dX12_nameHere_76 rfl ?_
          refine r_iconst (1) dX12_nameHere_77 rfl ?_
          refine r_bipush (13) dX12_nameHere_78 rfl ?_
          refine r_iconst (0) dX12_nameHere_80 rfl ?_
          refine r_iconst (0) dX12_nameHere_81 rfl ?_
          refine r_callV6 (ci := 12) (d1 := 3) (c1 := 0) (n1 := 0) dX12_nameHere_82 mvX12_159 rfl ⟨(Nat.le_of_ble_eq_true rfl), rfl⟩ (Nat.le_of_ble_eq_true rfl) (by exact Nat.le_of_ble_eq_true rfl) (by exact k_167 h4.1.1) ?_
          refine S_isW12 h4 hss (fun t12 m5 q5 h5 => ?_) (fun t12 m5 q5 h5 => ?_)
          ·
            have y5 := y4.tr q5
            have hF := h5.1.1
            show Wp g mX12_nameHere _ _ _ 85 _ (_ :: _) _ Q
            refine r_if_eq 90 dX12_nameHere_85 rfl (fun hz => absurd hz (by decide)) (fun _ => ?_)
            refine r_iconst (4) dX12_nameHere_88 rfl ?_
            refine r_ireturn dX12_nameHere_89 rfl rfl ?_
            exact k1 4 (by omega) t12 m5 y5 h5
          ·
            have y5 := y4.tr q5
            have hF := h5.1.1
            show Wp g mX12_nameHere _ _ _ 85 _ (_ :: _) _ Q
            refine r_if_eq 90 dX12_nameHere_85 rfl (fun _ => ?_) (fun hz => absurd hz (by decide))
            refine r_aload_n dX12_nameHere_90 rfl ?_
            refine r_iconst (4) dX12_nameHere_91 rfl ?_
            refine r_bipush (18) dX12_nameHere_92 rfl ?_
            refine r_iconst (1) dX12_nameHere_94 rfl ?_
            refine r_bipush (6) dX12_nameHere_95 rfl ?_
            refine r_bipush (20) dX12_nameHere_97 rfl ?_
            refine r_iconst (0) dX12_nameHere_99 rfl ?_
            refine r_callV6 (ci := 12) (d1 := 3) (c1 := 0) (n1 := 0) dX12_nameHere_100 mvX12_159 rfl ⟨(Nat.le_of_ble_eq_true rfl), rfl⟩ (Nat.le_of_ble_eq_true rfl) (by exact Nat.le_of_ble_eq_true rfl) (by exact k_167 h5.1.1) ?_
            refine S_isW13 h5 hss (fun t13 m6 q6 h6 => ?_) (fun t13 m6 q6 h6 => ?_)
            ·
              have y6 := y5.tr q6
              have hF := h6.1.1
              show Wp g mX12_nameHere _ _ _ 103 _ (_ :: _) _ Q
              refine r_if_eq 108 dX12_nameHere_103 rfl (fun hz => absurd hz (by decide)) (fun _ => ?_)
              refine r_iconst (5) dX12_nameHere_106 rfl ?_
              refine r_ireturn dX12_nameHere_107 rfl rfl ?_
              exact k1 5 (by omega) t13 m6 y6 h6
            ·
              have y6 := y5.tr q6
              have hF := h6.1.1
              show Wp g mX12_nameHere _ _ _ 103 _ (_ :: _) _ Q
              refine r_if_eq 108 dX12_nameHere_103 rfl (fun _ => ?_) (fun hz => absurd hz (by decide))
              refine r_aload_n dX12_nameHere_108 rfl ?_
              refine r_bipush (6) dX12_nameHere_109 rfl ?_
              refine r_bipush (14) dX12_nameHere_111 rfl ?_
              refine r_iconst (0) dX12_nameHere_113 rfl ?_
              refine r_iconst (0) dX12_nameHere_114 rfl ?_
              refine r_iconst (0) dX12_nameHere_115 rfl ?_
              refine r_iconst (0) dX12_nameHere_116 rfl ?_
              refine r_callV6 (ci := 12) (d1 := 3) (c1 := 0) (n1 := 0) dX12_nameHere_117 mvX12_159 rfl ⟨(Nat.le_of_ble_eq_true rfl), rfl⟩ (Nat.le_of_ble_eq_true rfl) (by exact Nat.le_of_ble_eq_true rfl) (by exact k_167 h6.1.1) ?_
              refine S_isW14 h6 hss (fun t14 m7 q7 h7 => ?_) (fun t14 m7 q7 h7 => ?_)
              ·
                have y7 := y6.tr q7
                have hF := h7.1.1
                show Wp g mX12_nameHere _ _ _ 120 _ (_ :: _) _ Q
                refine r_if_eq 126 dX12_nameHere_120 rfl (fun hz => absurd hz (by decide)) (fun _ => ?_)
                refine r_bipush (6) dX12_nameHere_123 rfl ?_
                refine r_ireturn dX12_nameHere_125 rfl rfl ?_
                exact k1 6 (by omega) t14 m7 y7 h7
              ·
                have y7 := y6.tr q7
                have hF := h7.1.1
                show Wp g mX12_nameHere _ _ _ 120 _ (_ :: _) _ Q
                refine r_if_eq 126 dX12_nameHere_120 rfl (fun _ => ?_) (fun hz => absurd hz (by decide))
                refine r_aload_n dX12_nameHere_126 rfl ?_
                refine r_bipush (23) dX12_nameHere_127 rfl ?_
                refine r_bipush (9) dX12_nameHere_129 rfl ?_
                refine r_bipush (18) dX12_nameHere_131 rfl ?_
                refine r_iconst (5) dX12_nameHere_133 rfl ?_
                refine r_iconst (0) dX12_nameHere_134 rfl ?_
                refine r_iconst (0) dX12_nameHere_135 rfl ?_
                refine r_callV6 (ci := 12) (d1 := 3) (c1 := 0) (n1 := 0) dX12_nameHere_136 mvX12_159 rfl ⟨(Nat.le_of_ble_eq_true rfl), rfl⟩ (Nat.le_of_ble_eq_true rfl) (by exact Nat.le_of_ble_eq_true rfl) (by exact k_167 h7.1.1) ?_
                refine S_isW15 h7 hss (fun t15 m8 q8 h8 => ?_) (fun t15 m8 q8 h8 => ?_)
                ·
                  have y8 := y7.tr q8
                  have hF := h8.1.1
                  show Wp g mX12_nameHere _ _ _ 139 _ (_ :: _) _ Q
                  refine r_if_eq 145 dX12_nameHere_139 rfl (fun hz => absurd hz (by decide)) (fun _ => ?_)
                  refine r_bipush (7) dX12_nameHere_142 rfl ?_
                  refine r_ireturn dX12_nameHere_144 rfl rfl ?_
                  exact k1 7 (by omega) t15 m8 y8 h8
                ·
                  have y8 := y7.tr q8
                  have hF := h8.1.1
                  show Wp g mX12_nameHere _ _ _ 139 _ (_ :: _) _ Q
                  refine r_if_eq 145 dX12_nameHere_139 rfl (fun _ => ?_) (fun hz => absurd hz (by decide))
                  refine r_aload_n dX12_nameHere_145 rfl ?_
                  refine r_bipush (19) dX12_nameHere_146 rfl ?_
                  refine r_bipush (9) dX12_nameHere_148 rfl ?_
                  refine r_iconst (4) dX12_nameHere_150 rfl ?_
                  refine r_iconst (5) dX12_nameHere_151 rfl ?_
                  refine r_iconst (0) dX12_nameHere_152 rfl ?_
                  refine r_iconst (0) dX12_nameHere_153 rfl ?_
                  refine r_callV6 (ci := 12) (d1 := 3) (c1 := 0) (n1 := 0) dX12_nameHere_154 mvX12_159 rfl ⟨(Nat.le_of_ble_eq_true rfl), rfl⟩ (Nat.le_of_ble_eq_true rfl) (by exact Nat.le_of_ble_eq_true rfl) (by exact k_167 h8.1.1) ?_
                  refine S_isW16 h8 hss (fun t16 m9 q9 h9 => ?_) (fun t16 m9 q9 h9 => ?_)
                  ·
                    have y9 := y8.tr q9
                    have hF := h9.1.1
                    show Wp g mX12_nameHere _ _ _ 157 _ (_ :: _) _ Q
                    refine r_if_eq 163 dX12_nameHere_157 rfl (fun hz => absurd hz (by decide)) (fun _ => ?_)
                    refine r_bipush (8) dX12_nameHere_160 rfl ?_
                    refine r_ireturn dX12_nameHere_162 rfl rfl ?_
                    exact k1 8 (by omega) t16 m9 y9 h9
                  ·
                    have y9 := y8.tr q9
                    have hF := h9.1.1
                    show Wp g mX12_nameHere _ _ _ 157 _ (_ :: _) _ Q
                    refine r_if_eq 163 dX12_nameHere_157 rfl (fun _ => ?_) (fun hz => absurd hz (by decide))
                    refine r_aload_n dX12_nameHere_163 rfl ?_
                    refine r_bipush (13) dX12_nameHere_164 rfl ?_
                    refine r_bipush (15) dX12_nameHere_166 rfl ?_
                    refine r_bipush (14) dX12_nameHere_168 rfl ?_
                    refine r_bipush (20) dX12_nameHere_170 rfl ?_
                    refine r_bipush (8) dX12_nameHere_172 rfl ?_
                    refine r_bipush (19) dX12_nameHere_174 rfl ?_
                    refine r_callV6 (ci := 12) (d1 := 3) (c1 := 0) (n1 := 0) dX12_nameHere_176 mvX12_159 rfl ⟨(Nat.le_of_ble_eq_true rfl), rfl⟩ (Nat.le_of_ble_eq_true rfl) (by exact Nat.le_of_ble_eq_true rfl) (by exact k_167 h9.1.1) ?_
                    refine S_isW17 h9 hss (fun t17 m10 q10 h10 => ?_) (fun t17 m10 q10 h10 => ?_)
                    ·
                      have y10 := y9.tr q10
                      have hF := h10.1.1
                      show Wp g mX12_nameHere _ _ _ 179 _ (_ :: _) _ Q
                      refine r_if_eq 187 dX12_nameHere_179 rfl (fun hz => absurd hz (by decide)) (fun _ => ?_)
                      refine r_bipush (9) dX12_nameHere_182 rfl ?_
                      refine r_goto 188 dX12_nameHere_184 rfl ?_
                      refine r_ireturn dX12_nameHere_188 rfl rfl ?_
                      exact k1 9 (by omega) t17 m10 y10 h10
                    ·
                      have y10 := y9.tr q10
                      have hF := h10.1.1
                      show Wp g mX12_nameHere _ _ _ 179 _ (_ :: _) _ Q
                      refine r_if_eq 187 dX12_nameHere_179 rfl (fun _ => ?_) (fun hz => absurd hz (by decide))
                      refine r_iconst (-1) dX12_nameHere_187 rfl ?_
                      refine r_ireturn dX12_nameHere_188 rfl rfl ?_
                      have hall : ∀ j, j < 10 → ¬ tkP b n s = nI (264 + j) := by
                        intro j hj
                        rcases j with _ | _ | _ | _ | _ | _ | _ | _ | _ | _ | j
                        · exact t8
                        · exact t9
                        · exact t10
                        · exact t11
                        · exact t12
                        · exact t13
                        · exact t14
                        · exact t15
                        · exact t16
                        · exact t17
                        · omega
                      exact k0 hall m10 y10 h10
def nJ (k : Nat) : Int64 := (nI k).toInt64
theorem nJ_int {k : Nat} (h : k < 2147483648) : (nJ k).toInt = k := by unfold nJ; rw [Int32.toInt_toInt64, nI_int k h]
theorem nJ_step {v d : Nat} (h : v ≤ 100000) (h1 : 48 ≤ d) (h2 : d ≤ 57) : 10 * nJ v + (nI d).toInt64 - 48 = nJ (10 * v + (d - 48)) := Int64.toInt_inj.mp (by
  rw [Int64.toInt_sub, Int64.toInt_add, Int64.toInt_mul, nJ_int (by omega), nJ_int (by omega), Int32.toInt_toInt64, nI_int _ (by omega)]
  show Int.bmod (Int.bmod (Int.bmod (10 * (v : Int)) (2 ^ 64) + d) (2 ^ 64) - 48) (2 ^ 64) = _
  rw [Int.bmod_eq_of_le (n := 10 * (v : Int)) (by omega) (by omega), Int.bmod_eq_of_le (n := 10 * (v : Int) + d) (by omega) (by omega), Int.bmod_eq_of_le (by omega) (by omega)]; omega)
theorem nJ_le {a c : Nat} (ha : a < 2147483648) (hc : c < 2147483648) : nJ a ≤ nJ c ↔ a ≤ c := by rw [Int64.le_iff_toInt_le, nJ_int ha, nJ_int hc]; omega
theorem byB_dg {b : Nat → Int32} {n a : Nat} : isDg (byB b n a) = true ↔ (a < n ∧ isDg (b a) = true) := by
  unfold byB
  by_cases c : a < n
  · rw [if_pos c]; exact ⟨fun q => ⟨c, q⟩, fun q => q.2⟩
  · rw [if_neg c]; exact ⟨fun q => absurd q (by decide), fun q => absurd q.1 c⟩
theorem min5 (x d : Nat) : min (10 * min x 100000 + d) 100000 = min (10 * x + d) 100000 := by omega
theorem L_rnum {g : GG} {Q : Out → Prop} {b : Nat → Int32} {n s o : Nat} : ∀ (t p : Nat) (m : MM), n - p = t → RPa b n p o m → s ≤ p → (∀ m', Sy m m' → RPa b n (rE b n isDg p) o m' → Wp g mX12_number 1 0 0 70 [.ref 167, .int (nI s), .long (nJ (min (dgV b s (rE b n isDg p - s)) 100000)), .retAddr 0] [] m' Q) → Wp g mX12_number 1 0 0 7 [.ref 167, .int (nI s), .long (nJ (min (dgV b s (p - s)) 100000)), .retAddr 0] [] m Q := by
  intro t
  induction t with
  | zero =>
    intro p m ht h hsp k
    have hT := h.1
    have hF := hT.1
    have hn := hT.2.1
    have hp := h.2.2.1
    rw [rE_f (by omega)] at k
    refine r_aload_n dX12_number_7 rfl ?_
    refine r_aload_n dX12_number_8 rfl ?_
    refine r_getIc (nI p) dX12_number_9 fgX12_117 rfl (by exact k_167 hF) (by exact h.2.1) ?_
    refine r_callV1 (ci := 12) (d1 := 0) (c1 := 0) (n1 := 0) dX12_number_12 mvX12_120 rfl ⟨(Nat.le_of_ble_eq_true rfl), rfl⟩ (Nat.le_of_ble_eq_true rfl) (by exact Nat.le_of_ble_eq_true rfl) (by exact k_167 hF) ?_
    refine S_byteAt hT (k := p) (by omega) ?_
    show Wp g mX12_number _ _ _ 15 _ (_ :: _) _ Q
    refine r_callS1 (d1 := 0) (c1 := 0) (n1 := 0) dX12_number_15 msX12_130 rfl (Nat.le_of_ble_eq_true rfl) (by exact Nat.le_of_ble_eq_true rfl) ?_
    refine S_X12_isDigit (fun hdg => ?_) (fun hdg => ?_)
    ·
      show Wp g mX12_number _ _ _ 18 _ (_ :: _) _ Q
      refine r_if_eq 70 dX12_number_18 rfl (fun hz => absurd hz (by decide)) (fun _ => ?_)
      exact absurd (byB_dg.mp hdg).1 (by omega)
    ·
      show Wp g mX12_number _ _ _ 18 _ (_ :: _) _ Q
      refine r_if_eq 70 dX12_number_18 rfl (fun _ => ?_) (fun hz => absurd hz (by decide))
      exact k m Sy.rf h
  | succ t ih =>
    intro p m ht h hsp k
    have hT := h.1
    have hF := hT.1
    have hn := hT.2.1
    have hp := h.2.2.1
    refine r_aload_n dX12_number_7 rfl ?_
    refine r_aload_n dX12_number_8 rfl ?_
    refine r_getIc (nI p) dX12_number_9 fgX12_117 rfl (by exact k_167 hF) (by exact h.2.1) ?_
    refine r_callV1 (ci := 12) (d1 := 0) (c1 := 0) (n1 := 0) dX12_number_12 mvX12_120 rfl ⟨(Nat.le_of_ble_eq_true rfl), rfl⟩ (Nat.le_of_ble_eq_true rfl) (by exact Nat.le_of_ble_eq_true rfl) (by exact k_167 hF) ?_
    refine S_byteAt hT (k := p) (by omega) ?_
    show Wp g mX12_number _ _ _ 15 _ (_ :: _) _ Q
    refine r_callS1 (d1 := 0) (c1 := 0) (n1 := 0) dX12_number_15 msX12_130 rfl (Nat.le_of_ble_eq_true rfl) (by exact Nat.le_of_ble_eq_true rfl) ?_
    refine S_X12_isDigit (fun hdg => ?_) (fun hdg => ?_)
    ·
      show Wp g mX12_number _ _ _ 18 _ (_ :: _) _ Q
      refine r_if_eq 70 dX12_number_18 rfl (fun hz => absurd hz (by decide)) (fun _ => ?_)
      have w := byB_dg.mp hdg
      have wd := dg_nat w.2
      have hbb : byB b n p = b p := if_pos w.1
      refine r_ldc2 (10) dX12_number_21 ctX12_133 ?_
      refine r_lload_n dX12_number_24 rfl ?_
      refine r_lmul dX12_number_25 ?_
      refine r_aload_n dX12_number_26 rfl ?_
      refine r_aload_n dX12_number_27 rfl ?_
      refine r_getIc (nI p) dX12_number_28 fgX12_117 rfl (by exact k_167 hF) (by exact h.2.1) ?_
      refine r_callV1 (ci := 12) (d1 := 0) (c1 := 0) (n1 := 0) dX12_number_31 mvX12_120 rfl ⟨(Nat.le_of_ble_eq_true rfl), rfl⟩ (Nat.le_of_ble_eq_true rfl) (by exact Nat.le_of_ble_eq_true rfl) (by exact k_167 hF) ?_
      refine S_byteAt hT (k := p) (by omega) ?_
      show Wp g mX12_number _ _ _ 34 _ (_ :: _) _ Q
      refine r_i2l dX12_number_34 ?_
      refine r_ladd dX12_number_35 ?_
      refine r_ldc2 (48) dX12_number_36 ctX12_135 ?_
      refine r_lsub dX12_number_39 ?_
      rw [hbb, wd.1, nJ_step (by omega) wd.2.1 wd.2.2]
      refine sl_2 dX12_number_40 rfl (Nat.le_of_ble_eq_true rfl) ?_
      refine r_lload_n dX12_number_41 rfl ?_
      refine r_ldc2 (100000) dX12_number_42 ctX12_137 ?_
      refine r_lcmp_le 55 dX12_number_45 dX12_number_46 rfl (fun hc => ?_) (fun hc => ?_)
      ·
        refine r_lload_n dX12_number_55 rfl ?_
        refine sl_2 dX12_number_56 rfl (Nat.le_of_ble_eq_true rfl) ?_
        refine r_aload_n dX12_number_57 rfl ?_
        refine r_dup dX12_number_58 rfl ?_
        refine r_getIc (nI p) dX12_number_59 fgX12_117 rfl (by exact k_167 hF) (by exact h.2.1) ?_
        refine r_iconst (1) dX12_number_62 rfl ?_
        refine r_iadd dX12_number_63 ?_
        refine r_putI dX12_number_64 (fpX12_117 _ rfl) rfl (by exact k_167 hF) ⟨rfl, rfl⟩ ?_
        refine r_goto 7 dX12_number_67 rfl ?_
        rw [nI_1 p]; rw [rE_t w.1 w.2] at k
        have y1 : Sy m (stI m 167 4 (nI (p + 1))) := Sy.rf.s (by omega) (by omega) (by omega)
        have e1 : dgV b s (p + 1 - s) = 10 * dgV b s (p - s) + ((b p).toNatClampNeg - 48) := by rw [show p + 1 - s = (p - s) + 1 from by omega]; show 10 * dgV b s (p - s) + ((b (s + (p - s))).toNatClampNeg - 48) = _; rw [show s + (p - s) = p from by omega]
        have k9 := ih (p + 1) (stI m 167 4 (nI (p + 1))) (by omega) ⟨hT.sy y1, ld_s, by omega, ld_n (by decide) h.2.2.2.1, ld_n (by decide) h.2.2.2.2.1, ld_n (by decide) h.2.2.2.2.2⟩ (by omega) (fun m' s' h' => k m' (y1.tr s') h')
        have q := (nJ_le (c := 100000) (by omega) (by omega)).mp hc
        rw [e1, ← min5, Nat.min_eq_left q] at k9; exact k9
      ·
        refine r_ldc2 (100000) dX12_number_49 ctX12_137 ?_
        refine r_goto 56 dX12_number_52 rfl ?_
        refine sl_2 dX12_number_56 rfl (Nat.le_of_ble_eq_true rfl) ?_
        refine r_aload_n dX12_number_57 rfl ?_
        refine r_dup dX12_number_58 rfl ?_
        refine r_getIc (nI p) dX12_number_59 fgX12_117 rfl (by exact k_167 hF) (by exact h.2.1) ?_
        refine r_iconst (1) dX12_number_62 rfl ?_
        refine r_iadd dX12_number_63 ?_
        refine r_putI dX12_number_64 (fpX12_117 _ rfl) rfl (by exact k_167 hF) ⟨rfl, rfl⟩ ?_
        refine r_goto 7 dX12_number_67 rfl ?_
        rw [nI_1 p]; rw [rE_t w.1 w.2] at k
        have y1 : Sy m (stI m 167 4 (nI (p + 1))) := Sy.rf.s (by omega) (by omega) (by omega)
        have e1 : dgV b s (p + 1 - s) = 10 * dgV b s (p - s) + ((b p).toNatClampNeg - 48) := by rw [show p + 1 - s = (p - s) + 1 from by omega]; show 10 * dgV b s (p - s) + ((b (s + (p - s))).toNatClampNeg - 48) = _; rw [show s + (p - s) = p from by omega]
        have k9 := ih (p + 1) (stI m 167 4 (nI (p + 1))) (by omega) ⟨hT.sy y1, ld_s, by omega, ld_n (by decide) h.2.2.2.1, ld_n (by decide) h.2.2.2.2.1, ld_n (by decide) h.2.2.2.2.2⟩ (by omega) (fun m' s' h' => k m' (y1.tr s') h')
        have q : ¬ 10 * min (dgV b s (p - s)) 100000 + ((b p).toNatClampNeg - 48) ≤ 100000 := fun z => hc ((nJ_le (c := 100000) (by omega) (by omega)).mpr z)
        rw [e1, ← min5, Nat.min_eq_right (by omega)] at k9; exact k9
    ·
      show Wp g mX12_number _ _ _ 18 _ (_ :: _) _ Q
      refine r_if_eq 70 dX12_number_18 rfl (fun _ => ?_) (fun hz => absurd hz (by decide))
      rw [rE_f (fun q => hdg (byB_dg.mpr q))] at k; exact k m Sy.rf h
theorem S_numberP {g : GG} {m : MM} {Q : Out → Prop} {b : Nat → Int32} {n s o : Nat} (h : RPa b n s o m) (k1 : nmC b n s ≤ 9999 → ∀ m', Sy m m' → RPa b n (rE b n isDg s) o m' → Q (.inl (some (.long (nmC b n s).toInt64)), m')) (k0 : ¬ nmC b n s ≤ 9999 → ∀ m' v, Sy m m' → RE b n n (2, s) m' → Q (.inl (some (.long v)), m')) : Cl g 1 0 0 mX12_number [.ref 167] m Q := by
  refine Cl.of rfl (by decide) (Nat.le_of_ble_eq_true rfl) ?_
  show Wp g mX12_number 1 0 0 0 [.ref 167, .retAddr 0, .retAddr 0, .retAddr 0] [] m Q
  have hF := h.1.1
  refine r_aload_n dX12_number_0 rfl ?_
  refine r_getIc (nI s) dX12_number_1 fgX12_117 rfl (by exact k_167 hF) (by exact h.2.1) ?_
  refine si_1 dX12_number_4 rfl (Nat.le_of_ble_eq_true rfl) ?_
  refine r_lconst (0) dX12_number_5 rfl ?_
  refine sl_2 dX12_number_6 rfl (Nat.le_of_ble_eq_true rfl) ?_
  have L := L_rnum (g := g) (Q := Q) (s := s) _ s m rfl h (Nat.le_refl _)
  rw [Nat.sub_self] at L
  refine L (fun m1 s1 h1 => ?_)
  have hF := h1.1.1
  refine r_lload_n dX12_number_70 rfl ?_
  refine r_ldc2 (9999) dX12_number_71 ctX12_139 ?_
  refine r_lcmp_le 84 dX12_number_74 dX12_number_75 rfl (fun hc => ?_) (fun hc => ?_)
  ·
    refine r_lload_n dX12_number_84 rfl ?_
    refine r_lreturn dX12_number_85 rfl ?_
    have q := (nJ_le (c := 9999) (by omega) (by omega)).mp hc
    have e : nmC b n s = nI (dgV b s (rE b n isDg s - s)) := by unfold nmC; rw [Nat.min_eq_left (by omega)]
    have k9 := k1 (by rw [e]; exact nI_le (b := 9999) (by omega) (by omega)) m1 s1 h1
    rw [e] at k9; rw [Nat.min_eq_left (by omega)]; exact k9
  ·
    refine r_aload_n dX12_number_78 rfl ?_
    refine r_iconst (2) dX12_number_79 rfl ?_
    refine r_iload_n dX12_number_80 rfl ?_
    refine r_callV2 (ci := 12) (d1 := 0) (c1 := 0) (n1 := 0) dX12_number_81 mvX12_141 rfl ⟨(Nat.le_of_ble_eq_true rfl), rfl⟩ (Nat.le_of_ble_eq_true rfl) (by exact Nat.le_of_ble_eq_true rfl) (by exact k_167 hF) ?_
    refine S_wrongP h1 (by decide) (fun m2 s2 h2 => ?_)
    show Wp g mX12_number _ _ _ 84 _ [] _ Q
    refine r_lload_n dX12_number_84 rfl ?_
    refine r_lreturn dX12_number_85 rfl ?_
    have q : ¬ min (dgV b s (rE b n isDg s - s)) 100000 ≤ 9999 := fun z => hc ((nJ_le (c := 9999) (by omega) (by omega)).mpr z)
    exact k0 (fun z => by unfold nmC at z; rw [Int32.le_iff_toInt_le, nI_int _ (by omega)] at z; have y : (9999 : Int32).toInt = 9999 := rfl; omega) m2 _ (s1.tr s2) h2
