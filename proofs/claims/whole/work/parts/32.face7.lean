def rtS (f : Nat → Int32) : Nat → Int32 := fun j => rat (f (33 + j)) (f (53 + j))
theorem cnt_congr {p q : Nat → Bool} : ∀ {n : Nat}, (∀ j, j < n → p j = q j) → cnt p n = cnt q n
  | 0, _ => rfl
  | n + 1, h => by show cnt p n + _ = cnt q n + _; rw [cnt_congr (fun j hj => h j (by omega)), h n (by omega)]
theorem bitsF_congr {p q : Nat → Bool} : ∀ {n : Nat}, (∀ j, j < n → p j = q j) → bitsF p n = bitsF q n
  | 0, _ => rfl
  | n + 1, h => by show (if p n then _ else _) = (if q n then _ else _); rw [bitsF_congr (fun j hj => h j (by omega)), h n (by omega)]
theorem spF_congr {ρ η : Nat → Int32} {p q : Nat → Bool} {mo : Int32} : ∀ {n : Nat}, (∀ j, j < n → ρ j = η j) → (∀ j, j < n → p j = q j) → spF ρ p mo n = spF η q mo n
  | 0, _, _ => rfl
  | n + 1, h, h2 => by show (if _ then _ else _) = (if _ then _ else _); rw [spF_congr (n := n) (fun j hj => h j (by omega)) (fun j hj => h2 j (by omega)), h n (by omega), h2 n (by omega)]
theorem MidP_congr {ρ η : Nat → Int32} {e o : Nat} (h : ∀ j, j < e → ρ j = η j) (ho : o < e) : MidP ρ e o = MidP η e o := by
  unfold MidP
  rw [h o ho, cnt_congr (p := fun j => decide (ρ j < η o)) (q := fun j => decide (η j < η o)) (fun j hj => by simp only [h j hj]), cnt_congr (p := fun j => decide (ρ j ≤ η o)) (q := fun j => decide (η j ≤ η o)) (fun j hj => by simp only [h j hj])]
theorem MidV_congr {ρ η : Nat → Int32} {e : Nat} {v : Int32} (h : ∀ j, j < e → ρ j = η j) (q : MidV ρ e v) : MidV η e v := by
  rcases q with ⟨o, h1, h2, h3⟩ | ⟨h1, h2⟩
  · exact Or.inl ⟨o, h1, by rw [← MidP_congr h h1]; exact h2, by rw [← h o h1]; exact h3⟩
  · exact Or.inr ⟨h1, fun o ho => by rw [← MidP_congr h ho]; exact h2 o ho⟩
theorem strg_congr {ρ η : Nat → Int32} {e : Nat} {v b : Int32} (h : ∀ j, j < e → ρ j = η j) : ∀ j, j < e → strg ρ v b j = strg η v b j := fun j hj => by unfold strg; rw [h j hj]
theorem wiF_congr {ρ η : Nat → Int32} {p q : Nat → Bool} {e : Nat} {x y : Int32} (h : ∀ j, j < e → ρ j = η j) (h2 : ∀ j, j < e → p j = q j) : ∀ j, j < e → wiF ρ p x y j = wiF η q x y j := fun j hj => by unfold wiF; rw [h j hj, h2 j hj]
theorem i32_below {x : Int32} {n : Nat} (hn : n < 1000) (h0 : 0 ≤ x) (h : x ≤ nI n - 1) : ∃ j, j < n ∧ x = nI j := by
  have e : (nI n - 1).toInt = (n : Int) - 1 := by
    rw [Int32.toInt_sub, nI_int _ (by omega)]; show Int.bmod ((n : Int) - 1) (2 ^ 32) = _
    rw [Int.bmod_eq_of_le (by omega) (by omega)]
  rw [Int32.le_iff_toInt_le] at h0 h
  rw [e] at h
  have z0 : (0 : Int32).toInt = 0 := rfl
  refine ⟨x.toInt.toNat, by omega, Int32.toInt_inj.mp ?_⟩
  rw [nI_int _ (by omega)]; omega
theorem S_X11_ran {g : GG} {m : MM} {Q : Out → Prop} {f : Nat → Int32} {fs : Nat → Nat → Int32} {ic : Nat} {tp : Nat → Int32} {tn : Nat} {pl : Int32} {n1 : Nat} {T1 : Nat → (Nat → Int64) → Nat → Int64} {n2 : Nat} {T2 : Nat → (Nat → Int64) → Nat → Int64} (hC : CI f fs ic tp tn pl n1 T1 n2 T2 m) {x y : Int32} (kh : ¬ (0 ≤ x ∧ x ≤ nI (nR f) - 1) → Q (.inr ENSE, m)) (kb : (0 ≤ x ∧ x ≤ nI (nR f) - 1) → ¬ (0 ≤ y ∧ y ≤ 6) → Q (.inr EIAE, m)) (k : ∀ r, r < nR f → x = nI r → ∀ i, i < 7 → y = nI i → Q (.inl (some (.int (rn f r i))), m)) : Cl g 7 1 6 mX11_ran [.ref 4, .int x, .int y] m Q := by
  refine Cl.of rfl (by decide) (Nat.le_of_ble_eq_true rfl) ?_
  show Wp g mX11_ran 7 1 6 0 [.ref 4, .int x, .int y] [] m Q
  have hF := hC.1
  have hV := hC.2.1
  have hW := hC.2.2.1
  refine r_iload_n dX11_ran_0 rfl ?_
  refine r_iconst (0) dX11_ran_1 rfl ?_
  refine r_aload_n dX11_ran_2 rfl ?_
  refine r_getRc dX11_ran_3 fgX11_12 rfl (by exact k_4 hF) (by exact r_4_0 hF) ?_
  refine r_callV0 (ci := 10) (d1 := 1) (c1 := 0) (n1 := 0) dX11_ran_6 mvX11_196 rfl ⟨(Nat.le_of_ble_eq_true rfl), rfl⟩ (Nat.le_of_ble_eq_true rfl) (by exact Nat.le_of_ble_eq_true rfl) (by exact k_5 hF) ?_
  refine S_runN hF hV hW ?_
  show Wp g mX11_ran _ _ _ 9 _ (_ :: _) _ Q
  refine r_iconst (1) dX11_ran_9 rfl ?_
  refine r_isub dX11_ran_10 ?_
  refine r_callS3 (d1 := 0) (c1 := 0) (n1 := 0) dX11_ran_11 msX11_59 rfl (Nat.le_of_ble_eq_true rfl) (by exact Nat.le_of_ble_eq_true rfl) ?_
  refine S_X11_isWithin (fun w11a w11b => ?_) (fun w11 => ?_)
  ·
    show Wp g mX11_ran _ _ _ 14 _ (_ :: _) _ Q
    refine r_if_ne 25 dX11_ran_14 rfl (fun _ => ?_) (fun hz => absurd hz (by decide))
    refine r_iload_n dX11_ran_25 rfl ?_
    refine r_iconst (0) dX11_ran_26 rfl ?_
    refine r_bipush (6) dX11_ran_27 rfl ?_
    refine r_callS3 (d1 := 0) (c1 := 0) (n1 := 0) dX11_ran_29 msX11_59 rfl (Nat.le_of_ble_eq_true rfl) (by exact Nat.le_of_ble_eq_true rfl) ?_
    refine S_X11_isWithin (fun w29a w29b => ?_) (fun w29 => ?_)
    ·
      show Wp g mX11_ran _ _ _ 32 _ (_ :: _) _ Q
      refine r_callS1 (d1 := 6) (c1 := 1) (n1 := 6) dX11_ran_32 msX11_63 rfl (Nat.le_of_ble_eq_true rfl) (by exact Nat.le_of_ble_eq_true rfl) ?_
      refine S_demand1 ?_
      show Wp g mX11_ran _ _ _ 35 _ [] _ Q
      refine r_aload_n dX11_ran_35 rfl ?_
      refine r_getRc dX11_ran_36 fgX11_12 rfl (by exact k_4 hF) (by exact r_4_0 hF) ?_
      refine r_iload_n dX11_ran_39 rfl ?_
      refine r_iload_n dX11_ran_40 rfl ?_
      refine r_callV2 (ci := 10) (d1 := 1) (c1 := 0) (n1 := 0) dX11_ran_41 mvX11_202 rfl ⟨(Nat.le_of_ble_eq_true rfl), rfl⟩ (Nat.le_of_ble_eq_true rfl) (by exact Nat.le_of_ble_eq_true rfl) (by exact k_5 hF) ?_
      obtain ⟨r, hr, rfl⟩ := i32_below (by have := hV.1.2.2.1.2; omega) w11a w11b
      obtain ⟨i, hi, rfl⟩ := i32_small 6 (by omega) w29a w29b
      refine S_cell hF hV hW hr (by omega) ?_
      show Wp g mX11_ran _ _ _ 44 _ (_ :: _) _ Q
      refine r_ireturn dX11_ran_44 rfl rfl ?_
      exact k r hr rfl i (by omega) rfl
    ·
      show Wp g mX11_ran _ _ _ 32 _ (_ :: _) _ Q
      refine r_callS1 (d1 := 6) (c1 := 1) (n1 := 6) dX11_ran_32 msX11_63 rfl (Nat.le_of_ble_eq_true rfl) (by exact Nat.le_of_ble_eq_true rfl) ?_
      refine S_demand0 ?_
      exact kb ⟨w11a, w11b⟩ w29
  ·
    show Wp g mX11_ran _ _ _ 14 _ (_ :: _) _ Q
    refine r_if_ne 25 dX11_ran_14 rfl (fun hz => absurd hz (by decide)) (fun _ => ?_)
    refine th_NSE rfl rfl dX11_ran_17 dX11_ran_20 dX11_ran_21 dX11_ran_24 (Nat.le_of_ble_eq_true rfl) (by exact Nat.le_of_ble_eq_true rfl) ?_
    exact kh w11
theorem rat_ix {x : Int32} {n : Nat} (hn : n < 1000) (h0 : -1 ≤ x) (h : x ≤ nI n - 1) (hne : ¬ x = -1) : ∃ j, j < n ∧ x = nI j := by
  refine i32_below hn ?_ h
  have m1 : (-1 : Int32).toInt = -1 := rfl
  have z0 : (0 : Int32).toInt = 0 := rfl
  have q2 : x.toInt ≠ -1 := fun z => hne (Int32.toInt_inj.mp (z.trans m1.symm))
  rw [Int32.le_iff_toInt_le] at h0 ⊢
  omega
theorem S_X11_ratio {g : GG} {m : MM} {Q : Out → Prop} {f : Nat → Int32} {fs : Nat → Nat → Int32} {ic : Nat} {tp : Nat → Int32} {tn : Nat} {pl : Int32} {n1 : Nat} {T1 : Nat → (Nat → Int64) → Nat → Int64} {n2 : Nat} {T2 : Nat → (Nat → Int64) → Nat → Int64} (hC : CI f fs ic tp tn pl n1 T1 n2 T2 m) {x : Int32} (kh : ¬ (¬ f 3 = 0 ∧ -1 ≤ x ∧ x ≤ f 3 - 1) → Q (.inr ENSE, m)) (km : (¬ f 3 = 0 ∧ -1 ≤ x ∧ x ≤ f 3 - 1) → x = -1 → ∀ v, MidV (rtS f) (nE f) v → Q (.inl (some (.int v)), m)) (k : ∀ j, j < nE f → x = nI j → Q (.inl (some (.int (rtS f j))), m)) : Cl g 6 1 6 mX11_ratio [.ref 4, .int x] m Q := by
  refine Cl.of rfl (by decide) (Nat.le_of_ble_eq_true rfl) ?_
  show Wp g mX11_ratio 6 1 6 0 [.ref 4, .int x, .retAddr 0] [] m Q
  have hF := hC.1
  have hV := hC.2.1
  have hW := hC.2.2.1
  have hn := hW.2.2.2.2.2.1.1.trans hV.1.2.2.2.1.1
  have he := hV.1.2.2.2.1.2
  have hR : ∀ j, j < nE f → ldI m 34 j = rtS f j := fun j hj => hW.2.2.2.2.2.1.2 j hj
  refine r_aload_n dX11_ratio_0 rfl ?_
  refine r_getRc dX11_ratio_1 fgX11_12 rfl (by exact k_4 hF) (by exact r_4_0 hF) ?_
  refine r_getRc dX11_ratio_4 fgX11_219 rfl (by exact k_5 hF) (by exact r_5_6 hF) ?_
  refine r_callV0 (ci := 8) (d1 := 1) (c1 := 0) (n1 := 0) dX11_ratio_7 mvX11_228 rfl ⟨(Nat.le_of_ble_eq_true rfl), rfl⟩ (Nat.le_of_ble_eq_true rfl) (by exact Nat.le_of_ble_eq_true rfl) (by exact k_32 hF) ?_
  refine S_X8_known hF ?_
  rw [show ldI m 33 1 = f 3 from hW.2.2.2.2.2.1.1]
  show Wp g mX11_ratio _ _ _ 10 _ (_ :: _) _ Q
  refine si_2 dX11_ratio_10 rfl (Nat.le_of_ble_eq_true rfl) ?_
  refine r_iload_n dX11_ratio_11 rfl ?_
  refine r_if_eq 26 dX11_ratio_12 rfl (fun hz => ?_) (fun hz => ?_)
  ·
    refine th_NSE rfl rfl dX11_ratio_26 dX11_ratio_29 dX11_ratio_30 dX11_ratio_33 (Nat.le_of_ble_eq_true rfl) (by exact Nat.le_of_ble_eq_true rfl) ?_
    exact kh (fun q => q.1 hz)
  ·
    refine r_iload_n dX11_ratio_15 rfl ?_
    refine r_iconst (-1) dX11_ratio_16 rfl ?_
    refine r_iload_n dX11_ratio_17 rfl ?_
    refine r_iconst (1) dX11_ratio_18 rfl ?_
    refine r_isub dX11_ratio_19 ?_
    refine r_callS3 (d1 := 0) (c1 := 0) (n1 := 0) dX11_ratio_20 msX11_59 rfl (Nat.le_of_ble_eq_true rfl) (by exact Nat.le_of_ble_eq_true rfl) ?_
    refine S_X11_isWithin (fun w20a w20b => ?_) (fun w20 => ?_)
    ·
      show Wp g mX11_ratio _ _ _ 23 _ (_ :: _) _ Q
      refine r_if_ne 34 dX11_ratio_23 rfl (fun _ => ?_) (fun hz => absurd hz (by decide))
      refine r_iload_n dX11_ratio_34 rfl ?_
      refine r_iconst (-1) dX11_ratio_35 rfl ?_
      refine r_icmp_ne 52 dX11_ratio_36 rfl (fun hne => ?_) (fun hne => ?_)
      ·
        refine r_aload_n dX11_ratio_52 rfl ?_
        refine r_getRc dX11_ratio_53 fgX11_12 rfl (by exact k_4 hF) (by exact r_4_0 hF) ?_
        refine r_getRc dX11_ratio_56 fgX11_219 rfl (by exact k_5 hF) (by exact r_5_6 hF) ?_
        refine r_iload_n dX11_ratio_59 rfl ?_
        refine r_callV1 (ci := 8) (d1 := 1) (c1 := 0) (n1 := 0) dX11_ratio_60 mvX11_234 rfl ⟨(Nat.le_of_ble_eq_true rfl), rfl⟩ (Nat.le_of_ble_eq_true rfl) (by exact Nat.le_of_ble_eq_true rfl) (by exact k_32 hF) ?_
        obtain ⟨j, hj, rfl⟩ := rat_ix (n := nE f) (by omega) w20a (by rw [← hV.1.2.2.2.1.1]; exact w20b) hne
        refine S_X8_ratioAt hF hn he hj ?_
        show Wp g mX11_ratio _ _ _ 63 _ (_ :: _) _ Q
        refine r_ireturn dX11_ratio_63 rfl rfl ?_
        rw [hR j hj]; exact k j hj rfl
      ·
        refine r_aload_n dX11_ratio_39 rfl ?_
        refine r_getRc dX11_ratio_40 fgX11_12 rfl (by exact k_4 hF) (by exact r_4_0 hF) ?_
        refine r_getRc dX11_ratio_43 fgX11_219 rfl (by exact k_5 hF) (by exact r_5_6 hF) ?_
        refine r_callV0 (ci := 8) (d1 := 2) (c1 := 0) (n1 := 0) dX11_ratio_46 mvX11_231 rfl ⟨(Nat.le_of_ble_eq_true rfl), rfl⟩ (Nat.le_of_ble_eq_true rfl) (by exact Nat.le_of_ble_eq_true rfl) (by exact k_32 hF) ?_
        refine S_X8_middle hF hn he (fun v hv => ?_)
        show Wp g mX11_ratio _ _ _ 49 _ (_ :: _) _ Q
        refine r_goto 63 dX11_ratio_49 rfl ?_
        refine r_ireturn dX11_ratio_63 rfl rfl ?_
        exact km ⟨hz, w20a, w20b⟩ hne v (MidV_congr hR hv)
    ·
      show Wp g mX11_ratio _ _ _ 23 _ (_ :: _) _ Q
      refine r_if_ne 34 dX11_ratio_23 rfl (fun hz => absurd hz (by decide)) (fun _ => ?_)
      refine th_NSE rfl rfl dX11_ratio_26 dX11_ratio_29 dX11_ratio_30 dX11_ratio_33 (Nat.le_of_ble_eq_true rfl) (by exact Nat.le_of_ble_eq_true rfl) ?_
      exact kh (fun q => w20 q.2)
theorem S_X11_strange {g : GG} {m : MM} {Q : Out → Prop} {f : Nat → Int32} {fs : Nat → Nat → Int32} {ic : Nat} {tp : Nat → Int32} {tn : Nat} {pl : Int32} {n1 : Nat} {T1 : Nat → (Nat → Int64) → Nat → Int64} {n2 : Nat} {T2 : Nat → (Nat → Int64) → Nat → Int64} (hC : CI f fs ic tp tn pl n1 T1 n2 T2 m) {x : Int32} (kb : ¬ (0 ≤ x ∧ x ≤ 9999) → Q (.inr EIAE, m)) (k : (0 ≤ x ∧ x ≤ 9999) → ∀ v, MidV (rtS f) (nE f) v → Q (.inl (some (.int (bitsF (strg (rtS f) v x) (nE f)))), m)) : Cl g 7 1 6 mX11_strange [.ref 4, .int x] m Q := by
  refine Cl.of rfl (by decide) (Nat.le_of_ble_eq_true rfl) ?_
  show Wp g mX11_strange 7 1 6 0 [.ref 4, .int x] [] m Q
  have hF := hC.1
  have hV := hC.2.1
  have hW := hC.2.2.1
  have hn := hW.2.2.2.2.2.1.1.trans hV.1.2.2.2.1.1
  have he := hV.1.2.2.2.1.2
  have hR : ∀ j, j < nE f → ldI m 34 j = rtS f j := fun j hj => hW.2.2.2.2.2.1.2 j hj
  refine r_iload_n dX11_strange_0 rfl ?_
  refine r_iconst (0) dX11_strange_1 rfl ?_
  refine r_sipush (9999) dX11_strange_2 rfl ?_
  refine r_callS3 (d1 := 0) (c1 := 0) (n1 := 0) dX11_strange_5 msX11_59 rfl (Nat.le_of_ble_eq_true rfl) (by exact Nat.le_of_ble_eq_true rfl) ?_
  refine S_X11_isWithin (fun w5a w5b => ?_) (fun w5 => ?_)
  ·
    show Wp g mX11_strange _ _ _ 8 _ (_ :: _) _ Q
    refine r_callS1 (d1 := 6) (c1 := 1) (n1 := 6) dX11_strange_8 msX11_63 rfl (Nat.le_of_ble_eq_true rfl) (by exact Nat.le_of_ble_eq_true rfl) ?_
    refine S_demand1 ?_
    show Wp g mX11_strange _ _ _ 11 _ [] _ Q
    refine r_aload_n dX11_strange_11 rfl ?_
    refine r_getRc dX11_strange_12 fgX11_12 rfl (by exact k_4 hF) (by exact r_4_0 hF) ?_
    refine r_getRc dX11_strange_15 fgX11_219 rfl (by exact k_5 hF) (by exact r_5_6 hF) ?_
    refine r_iload_n dX11_strange_18 rfl ?_
    refine r_callV1 (ci := 8) (d1 := 3) (c1 := 0) (n1 := 0) dX11_strange_19 mvX11_237 rfl ⟨(Nat.le_of_ble_eq_true rfl), rfl⟩ (Nat.le_of_ble_eq_true rfl) (by exact Nat.le_of_ble_eq_true rfl) (by exact k_32 hF) ?_
    refine S_X8_strangeBits hF hn he (fun v hv => ?_)
    show Wp g mX11_strange _ _ _ 22 _ (_ :: _) _ Q
    refine r_ireturn dX11_strange_22 rfl rfl ?_
    rw [bitsF_congr (strg_congr hR)]; exact k ⟨w5a, w5b⟩ v (MidV_congr hR hv)
  ·
    show Wp g mX11_strange _ _ _ 8 _ (_ :: _) _ Q
    refine r_callS1 (d1 := 6) (c1 := 1) (n1 := 6) dX11_strange_8 msX11_63 rfl (Nat.le_of_ble_eq_true rfl) (by exact Nat.le_of_ble_eq_true rfl) ?_
    refine S_demand0 ?_
    exact kb w5
theorem S_X11_span {g : GG} {m : MM} {Q : Out → Prop} {f : Nat → Int32} {fs : Nat → Nat → Int32} {ic : Nat} {tp : Nat → Int32} {tn : Nat} {pl : Int32} {n1 : Nat} {T1 : Nat → (Nat → Int64) → Nat → Int64} {n2 : Nat} {T2 : Nat → (Nat → Int64) → Nat → Int64} (hC : CI f fs ic tp tn pl n1 T1 n2 T2 m) {x y : Int32} (kb : ¬ (0 ≤ x ∧ x ≤ 1000000000) → Q (.inr EIAE, m)) (k : (0 ≤ x ∧ x ≤ 1000000000) → ∀ v, MidV (rtS f) (nE f) v → Q (.inl (some (.long (spV (spF (rtS f) (strg (rtS f) v 200) y (nE f)) x))), m)) : Cl g 7 1 6 mX11_span [.ref 4, .int x, .int y] m Q := by
  refine Cl.of rfl (by decide) (Nat.le_of_ble_eq_true rfl) ?_
  show Wp g mX11_span 7 1 6 0 [.ref 4, .int x, .int y] [] m Q
  have hF := hC.1
  have hV := hC.2.1
  have hW := hC.2.2.1
  have hn := hW.2.2.2.2.2.1.1.trans hV.1.2.2.2.1.1
  have he := hV.1.2.2.2.1.2
  have hR : ∀ j, j < nE f → ldI m 34 j = rtS f j := fun j hj => hW.2.2.2.2.2.1.2 j hj
  refine r_iload_n dX11_span_0 rfl ?_
  refine r_iconst (0) dX11_span_1 rfl ?_
  refine r_ldc (1000000000) dX11_span_2 ctX11_165 ?_
  refine r_callS3 (d1 := 0) (c1 := 0) (n1 := 0) dX11_span_4 msX11_59 rfl (Nat.le_of_ble_eq_true rfl) (by exact Nat.le_of_ble_eq_true rfl) ?_
  refine S_X11_isWithin (fun w4a w4b => ?_) (fun w4 => ?_)
  ·
    show Wp g mX11_span _ _ _ 7 _ (_ :: _) _ Q
    refine r_callS1 (d1 := 6) (c1 := 1) (n1 := 6) dX11_span_7 msX11_63 rfl (Nat.le_of_ble_eq_true rfl) (by exact Nat.le_of_ble_eq_true rfl) ?_
    refine S_demand1 ?_
    show Wp g mX11_span _ _ _ 10 _ [] _ Q
    refine r_aload_n dX11_span_10 rfl ?_
    refine r_getRc dX11_span_11 fgX11_12 rfl (by exact k_4 hF) (by exact r_4_0 hF) ?_
    refine r_getRc dX11_span_14 fgX11_219 rfl (by exact k_5 hF) (by exact r_5_6 hF) ?_
    refine r_iload_n dX11_span_17 rfl ?_
    refine r_iload_n dX11_span_18 rfl ?_
    refine r_callV2 (ci := 8) (d1 := 4) (c1 := 0) (n1 := 0) dX11_span_19 mvX11_240 rfl ⟨(Nat.le_of_ble_eq_true rfl), rfl⟩ (Nat.le_of_ble_eq_true rfl) (by exact Nat.le_of_ble_eq_true rfl) (by exact k_32 hF) ?_
    refine S_X8_spanOf hF hn he (fun v hv => ?_)
    show Wp g mX11_span _ _ _ 22 _ (_ :: _) _ Q
    refine r_lreturn dX11_span_22 rfl ?_
    rw [spF_congr hR (strg_congr hR)]; exact k ⟨w4a, w4b⟩ v (MidV_congr hR hv)
  ·
    show Wp g mX11_span _ _ _ 7 _ (_ :: _) _ Q
    refine r_callS1 (d1 := 6) (c1 := 1) (n1 := 6) dX11_span_7 msX11_63 rfl (Nat.le_of_ble_eq_true rfl) (by exact Nat.le_of_ble_eq_true rfl) ?_
    refine S_demand0 ?_
    exact kb w4
theorem S_X11_odds {g : GG} {m : MM} {Q : Out → Prop} {f : Nat → Int32} {fs : Nat → Nat → Int32} {ic : Nat} {tp : Nat → Int32} {tn : Nat} {pl : Int32} {n1 : Nat} {T1 : Nat → (Nat → Int64) → Nat → Int64} {n2 : Nat} {T2 : Nat → (Nat → Int64) → Nat → Int64} (hC : CI f fs ic tp tn pl n1 T1 n2 T2 m) {x y : Int32} (kb : ¬ ((0 ≤ x ∧ x ≤ 1000000000) ∧ 0 ≤ y ∧ y ≤ 1000000000) → Q (.inr EIAE, m)) (k : ((0 ≤ x ∧ x ≤ 1000000000) ∧ 0 ≤ y ∧ y ≤ 1000000000) → ∀ v, MidV (rtS f) (nE f) v → Q (.inl (some (.int (nI (cnt (wiF (rtS f) (strg (rtS f) v 200) x y) (nE f))))), m)) : Cl g 7 1 6 mX11_odds [.ref 4, .int x, .int y] m Q := by
  refine Cl.of rfl (by decide) (Nat.le_of_ble_eq_true rfl) ?_
  show Wp g mX11_odds 7 1 6 0 [.ref 4, .int x, .int y] [] m Q
  have hF := hC.1
  have hV := hC.2.1
  have hW := hC.2.2.1
  have hn := hW.2.2.2.2.2.1.1.trans hV.1.2.2.2.1.1
  have he := hV.1.2.2.2.1.2
  have hR : ∀ j, j < nE f → ldI m 34 j = rtS f j := fun j hj => hW.2.2.2.2.2.1.2 j hj
  refine r_iload_n dX11_odds_0 rfl ?_
  refine r_iconst (0) dX11_odds_1 rfl ?_
  refine r_ldc (1000000000) dX11_odds_2 ctX11_165 ?_
  refine r_callS3 (d1 := 0) (c1 := 0) (n1 := 0) dX11_odds_4 msX11_59 rfl (Nat.le_of_ble_eq_true rfl) (by exact Nat.le_of_ble_eq_true rfl) ?_
  refine S_X11_isWithin (fun w4a w4b => ?_) (fun w4 => ?_)
  ·
    show Wp g mX11_odds _ _ _ 7 _ (_ :: _) _ Q
    refine r_if_eq 24 dX11_odds_7 rfl (fun hz => absurd hz (by decide)) (fun _ => ?_)
    refine r_iload_n dX11_odds_10 rfl ?_
    refine r_iconst (0) dX11_odds_11 rfl ?_
    refine r_ldc (1000000000) dX11_odds_12 ctX11_165 ?_
    refine r_callS3 (d1 := 0) (c1 := 0) (n1 := 0) dX11_odds_14 msX11_59 rfl (Nat.le_of_ble_eq_true rfl) (by exact Nat.le_of_ble_eq_true rfl) ?_
    refine S_X11_isWithin (fun w14a w14b => ?_) (fun w14 => ?_)
    ·
      show Wp g mX11_odds _ _ _ 17 _ (_ :: _) _ Q
      refine r_if_eq 24 dX11_odds_17 rfl (fun hz => absurd hz (by decide)) (fun _ => ?_)
      refine r_iconst (1) dX11_odds_20 rfl ?_
      refine r_goto 25 dX11_odds_21 rfl ?_
      refine r_callS1 (d1 := 6) (c1 := 1) (n1 := 6) dX11_odds_25 msX11_63 rfl (Nat.le_of_ble_eq_true rfl) (by exact Nat.le_of_ble_eq_true rfl) ?_
      refine S_demand1 ?_
      show Wp g mX11_odds _ _ _ 28 _ [] _ Q
      refine r_aload_n dX11_odds_28 rfl ?_
      refine r_getRc dX11_odds_29 fgX11_12 rfl (by exact k_4 hF) (by exact r_4_0 hF) ?_
      refine r_getRc dX11_odds_32 fgX11_219 rfl (by exact k_5 hF) (by exact r_5_6 hF) ?_
      refine r_iload_n dX11_odds_35 rfl ?_
      refine r_iload_n dX11_odds_36 rfl ?_
      refine r_callV2 (ci := 8) (d1 := 4) (c1 := 0) (n1 := 0) dX11_odds_37 mvX11_268 rfl ⟨(Nat.le_of_ble_eq_true rfl), rfl⟩ (Nat.le_of_ble_eq_true rfl) (by exact Nat.le_of_ble_eq_true rfl) (by exact k_32 hF) ?_
      refine S_X8_within hF hn he (fun v hv => ?_)
      rw [cnt_congr (wiF_congr hR (strg_congr hR))]
      show Wp g mX11_odds _ _ _ 40 _ (_ :: _) _ Q
      refine r_ireturn dX11_odds_40 rfl rfl ?_
      exact k ⟨⟨w4a, w4b⟩, ⟨w14a, w14b⟩⟩ v (MidV_congr hR hv)
    ·
      show Wp g mX11_odds _ _ _ 17 _ (_ :: _) _ Q
      refine r_if_eq 24 dX11_odds_17 rfl (fun _ => ?_) (fun hz => absurd hz (by decide))
      refine r_iconst (0) dX11_odds_24 rfl ?_
      refine r_callS1 (d1 := 6) (c1 := 1) (n1 := 6) dX11_odds_25 msX11_63 rfl (Nat.le_of_ble_eq_true rfl) (by exact Nat.le_of_ble_eq_true rfl) ?_
      refine S_demand0 ?_
      first | exact kb (fun q => w4 q.1) | exact kb (fun q => w14 q.2)
  ·
    show Wp g mX11_odds _ _ _ 7 _ (_ :: _) _ Q
    refine r_if_eq 24 dX11_odds_7 rfl (fun _ => ?_) (fun hz => absurd hz (by decide))
    refine r_iconst (0) dX11_odds_24 rfl ?_
    refine r_callS1 (d1 := 6) (c1 := 1) (n1 := 6) dX11_odds_25 msX11_63 rfl (Nat.le_of_ble_eq_true rfl) (by exact Nat.le_of_ble_eq_true rfl) ?_
    refine S_demand0 ?_
    first | exact kb (fun q => w4 q.1) | exact kb (fun q => w14 q.2)
theorem S_X11_price {g : GG} {m : MM} {Q : Out → Prop} {f : Nat → Int32} {fs : Nat → Nat → Int32} {ic : Nat} {tp : Nat → Int32} {tn : Nat} {pl : Int32} {n1 : Nat} {T1 : Nat → (Nat → Int64) → Nat → Int64} {n2 : Nat} {T2 : Nat → (Nat → Int64) → Nat → Int64} (hC : CI f fs ic tp tn pl n1 T1 n2 T2 m) {x y z w : Int32} (kb : ¬ (((0 ≤ x ∧ x ≤ 1000000000) ∧ 0 ≤ y ∧ y ≤ 1000000000) ∧ (0 ≤ z ∧ z ≤ 9999) ∧ 0 ≤ w ∧ w ≤ 9999) → Q (.inr EIAE, m)) (k : (((0 ≤ x ∧ x ≤ 1000000000) ∧ 0 ≤ y ∧ y ≤ 1000000000) ∧ (0 ≤ z ∧ z ≤ 9999) ∧ 0 ≤ w ∧ w ≤ 9999) → ∀ v, MidV (rtS f) (nE f) v → ∀ u, MidV (rtS f) (nE f) u → Q (.inl (some (.int (z * nI (cnt (wiF (rtS f) (strg (rtS f) v 200) x y) (nE f)) - w * (nI (nE f) - bcV (bitsF (strg (rtS f) u 200) (nE f)) - nI (cnt (wiF (rtS f) (strg (rtS f) v 200) x y) (nE f)))))), m)) : Cl g 7 2 12 mX11_price [.ref 4, .int x, .int y, .int z, .int w] m Q := by
  refine Cl.of rfl (by decide) (Nat.le_of_ble_eq_true rfl) ?_
  show Wp g mX11_price 7 2 12 0 [.ref 4, .int x, .int y, .int z, .int w, .retAddr 0] [] m Q
  have hF := hC.1
  have hV := hC.2.1
  have hW := hC.2.2.1
  have hn := hW.2.2.2.2.2.1.1.trans hV.1.2.2.2.1.1
  have he := hV.1.2.2.2.1.2
  have hR : ∀ j, j < nE f → ldI m 34 j = rtS f j := fun j hj => hW.2.2.2.2.2.1.2 j hj
  refine r_iload_n dX11_price_0 rfl ?_
  refine r_iconst (0) dX11_price_1 rfl ?_
  refine r_ldc (1000000000) dX11_price_2 ctX11_165 ?_
  refine r_callS3 (d1 := 0) (c1 := 0) (n1 := 0) dX11_price_4 msX11_59 rfl (Nat.le_of_ble_eq_true rfl) (by exact Nat.le_of_ble_eq_true rfl) ?_
  refine S_X11_isWithin (fun w4a w4b => ?_) (fun w4 => ?_)
  ·
    show Wp g mX11_price _ _ _ 7 _ (_ :: _) _ Q
    refine r_if_eq 24 dX11_price_7 rfl (fun hz => absurd hz (by decide)) (fun _ => ?_)
    refine r_iload_n dX11_price_10 rfl ?_
    refine r_iconst (0) dX11_price_11 rfl ?_
    refine r_ldc (1000000000) dX11_price_12 ctX11_165 ?_
    refine r_callS3 (d1 := 0) (c1 := 0) (n1 := 0) dX11_price_14 msX11_59 rfl (Nat.le_of_ble_eq_true rfl) (by exact Nat.le_of_ble_eq_true rfl) ?_
    refine S_X11_isWithin (fun w14a w14b => ?_) (fun w14 => ?_)
    ·
      show Wp g mX11_price _ _ _ 17 _ (_ :: _) _ Q
      refine r_if_eq 24 dX11_price_17 rfl (fun hz => absurd hz (by decide)) (fun _ => ?_)
      refine r_iconst (1) dX11_price_20 rfl ?_
      refine r_goto 25 dX11_price_21 rfl ?_
      refine r_callS1 (d1 := 6) (c1 := 1) (n1 := 6) dX11_price_25 msX11_63 rfl (Nat.le_of_ble_eq_true rfl) (by exact Nat.le_of_ble_eq_true rfl) ?_
      refine S_demand1 ?_
      show Wp g mX11_price _ _ _ 28 _ [] _ Q
      refine r_iload_n dX11_price_28 rfl ?_
      refine r_iconst (0) dX11_price_29 rfl ?_
      refine r_sipush (9999) dX11_price_30 rfl ?_
      refine r_callS3 (d1 := 0) (c1 := 0) (n1 := 0) dX11_price_33 msX11_59 rfl (Nat.le_of_ble_eq_true rfl) (by exact Nat.le_of_ble_eq_true rfl) ?_
      refine S_X11_isWithin (fun w33a w33b => ?_) (fun w33 => ?_)
      ·
        show Wp g mX11_price _ _ _ 36 _ (_ :: _) _ Q
        refine r_if_eq 55 dX11_price_36 rfl (fun hz => absurd hz (by decide)) (fun _ => ?_)
        refine r_iload dX11_price_39 rfl ?_
        refine r_iconst (0) dX11_price_41 rfl ?_
        refine r_sipush (9999) dX11_price_42 rfl ?_
        refine r_callS3 (d1 := 0) (c1 := 0) (n1 := 0) dX11_price_45 msX11_59 rfl (Nat.le_of_ble_eq_true rfl) (by exact Nat.le_of_ble_eq_true rfl) ?_
        refine S_X11_isWithin (fun w45a w45b => ?_) (fun w45 => ?_)
        ·
          show Wp g mX11_price _ _ _ 48 _ (_ :: _) _ Q
          refine r_if_eq 55 dX11_price_48 rfl (fun hz => absurd hz (by decide)) (fun _ => ?_)
          refine r_iconst (1) dX11_price_51 rfl ?_
          refine r_goto 56 dX11_price_52 rfl ?_
          refine r_callS1 (d1 := 6) (c1 := 1) (n1 := 6) dX11_price_56 msX11_63 rfl (Nat.le_of_ble_eq_true rfl) (by exact Nat.le_of_ble_eq_true rfl) ?_
          refine S_demand1 ?_
          show Wp g mX11_price _ _ _ 59 _ [] _ Q
          refine r_aload_n dX11_price_59 rfl ?_
          refine r_getRc dX11_price_60 fgX11_12 rfl (by exact k_4 hF) (by exact r_4_0 hF) ?_
          refine r_getRc dX11_price_63 fgX11_219 rfl (by exact k_5 hF) (by exact r_5_6 hF) ?_
          refine r_iload_n dX11_price_66 rfl ?_
          refine r_iload_n dX11_price_67 rfl ?_
          refine r_callV2 (ci := 8) (d1 := 4) (c1 := 0) (n1 := 0) dX11_price_68 mvX11_268 rfl ⟨(Nat.le_of_ble_eq_true rfl), rfl⟩ (Nat.le_of_ble_eq_true rfl) (by exact Nat.le_of_ble_eq_true rfl) (by exact k_32 hF) ?_
          refine S_X8_within hF hn he (fun v hv => ?_)
          rw [cnt_congr (wiF_congr hR (strg_congr hR))]
          show Wp g mX11_price _ _ _ 71 _ (_ :: _) _ Q
          refine si_5 dX11_price_71 rfl (Nat.le_of_ble_eq_true rfl) ?_
          refine r_iload_n dX11_price_73 rfl ?_
          refine r_iload dX11_price_74 rfl ?_
          refine r_imul dX11_price_76 ?_
          refine r_iload dX11_price_77 rfl ?_
          refine r_aload_n dX11_price_79 rfl ?_
          refine r_getRc dX11_price_80 fgX11_12 rfl (by exact k_4 hF) (by exact r_4_0 hF) ?_
          refine r_getRc dX11_price_83 fgX11_219 rfl (by exact k_5 hF) (by exact r_5_6 hF) ?_
          refine r_callV0 (ci := 8) (d1 := 4) (c1 := 0) (n1 := 0) dX11_price_86 mvX11_271 rfl ⟨(Nat.le_of_ble_eq_true rfl), rfl⟩ (Nat.le_of_ble_eq_true rfl) (by exact Nat.le_of_ble_eq_true rfl) (by exact k_32 hF) ?_
          refine S_X8_usual hF hn he (fun u hu => ?_)
          rw [bitsF_congr (strg_congr hR)]
          show Wp g mX11_price _ _ _ 89 _ (_ :: _) _ Q
          refine r_iload dX11_price_89 rfl ?_
          refine r_isub dX11_price_91 ?_
          refine r_imul dX11_price_92 ?_
          refine r_isub dX11_price_93 ?_
          refine r_ireturn dX11_price_94 rfl rfl ?_
          exact k ⟨⟨⟨w4a, w4b⟩, ⟨w14a, w14b⟩⟩, ⟨w33a, w33b⟩, ⟨w45a, w45b⟩⟩ v (MidV_congr hR hv) u (MidV_congr hR hu)
        ·
          show Wp g mX11_price _ _ _ 48 _ (_ :: _) _ Q
          refine r_if_eq 55 dX11_price_48 rfl (fun _ => ?_) (fun hz => absurd hz (by decide))
          refine r_iconst (0) dX11_price_55 rfl ?_
          refine r_callS1 (d1 := 6) (c1 := 1) (n1 := 6) dX11_price_56 msX11_63 rfl (Nat.le_of_ble_eq_true rfl) (by exact Nat.le_of_ble_eq_true rfl) ?_
          refine S_demand0 ?_
          first | exact kb (fun q => w4 q.1.1) | exact kb (fun q => w14 q.1.2) | exact kb (fun q => w33 q.2.1) | exact kb (fun q => w45 q.2.2)
      ·
        show Wp g mX11_price _ _ _ 36 _ (_ :: _) _ Q
        refine r_if_eq 55 dX11_price_36 rfl (fun _ => ?_) (fun hz => absurd hz (by decide))
        refine r_iconst (0) dX11_price_55 rfl ?_
        refine r_callS1 (d1 := 6) (c1 := 1) (n1 := 6) dX11_price_56 msX11_63 rfl (Nat.le_of_ble_eq_true rfl) (by exact Nat.le_of_ble_eq_true rfl) ?_
        refine S_demand0 ?_
        first | exact kb (fun q => w4 q.1.1) | exact kb (fun q => w14 q.1.2) | exact kb (fun q => w33 q.2.1) | exact kb (fun q => w45 q.2.2)
    ·
      show Wp g mX11_price _ _ _ 17 _ (_ :: _) _ Q
      refine r_if_eq 24 dX11_price_17 rfl (fun _ => ?_) (fun hz => absurd hz (by decide))
      refine r_iconst (0) dX11_price_24 rfl ?_
      refine r_callS1 (d1 := 6) (c1 := 1) (n1 := 6) dX11_price_25 msX11_63 rfl (Nat.le_of_ble_eq_true rfl) (by exact Nat.le_of_ble_eq_true rfl) ?_
      refine S_demand0 ?_
      first | exact kb (fun q => w4 q.1.1) | exact kb (fun q => w14 q.1.2) | exact kb (fun q => w33 q.2.1) | exact kb (fun q => w45 q.2.2)
  ·
    show Wp g mX11_price _ _ _ 7 _ (_ :: _) _ Q
    refine r_if_eq 24 dX11_price_7 rfl (fun _ => ?_) (fun hz => absurd hz (by decide))
    refine r_iconst (0) dX11_price_24 rfl ?_
    refine r_callS1 (d1 := 6) (c1 := 1) (n1 := 6) dX11_price_25 msX11_63 rfl (Nat.le_of_ble_eq_true rfl) (by exact Nat.le_of_ble_eq_true rfl) ?_
    refine S_demand0 ?_
    first | exact kb (fun q => w4 q.1.1) | exact kb (fun q => w14 q.1.2) | exact kb (fun q => w33 q.2.1) | exact kb (fun q => w45 q.2.2)
def sbG (f : Nat → Int32) (T : (Nat → Int64) → Nat → Int64) : Int64 × Int32 × Int32 × Int32 := sbF f (hH f) T (mdH f (hH f) 1 2) (nS f (hH f)) (PvV f (hH f) T (hd f), -1, 0, 0) (2 * (nS f (hH f) * nS f (hH f)))
def btV (s : Int64 × Int32 × Int32 × Int32) (x : Int32) : Int64 := if x = -1 then s.1 else if x = 0 then s.2.1.toInt64 else if x = 1 then s.2.2.1.toInt64 else s.2.2.2.toInt64
theorem m1_2 {x : Int32} (h0 : -1 ≤ x) (h : x ≤ 2) : x = -1 ∨ x = 0 ∨ x = 1 ∨ x = 2 := by
  simp only [Int32.le_iff_toInt_le, ← Int32.toInt_inj] at *
  have a1 : (-1 : Int32).toInt = -1 := rfl
  have a2 : (0 : Int32).toInt = 0 := rfl
  have a3 : (1 : Int32).toInt = 1 := rfl
  have a4 : (2 : Int32).toInt = 2 := rfl
  omega
theorem S_betAny {g : GG} {m : MM} {Q : Out → Prop} (hF : Fx m) {s : Int64 × Int32 × Int32 × Int32} (hB : BtR m s) (hs : ¬ s.2.1 = -1) {x : Int32} (h0 : -1 ≤ x) (h : x ≤ 2) (k : Q (.inl (some (.long (btV s x))), m)) : Cl g 0 0 0 mX0_betterPart [.ref 159, .int x] m Q := by
  obtain ⟨b1, b2, b3⟩ := hB
  obtain ⟨b4, b5⟩ := b3.resolve_left hs
  rcases m1_2 h0 h with rfl | rfl | rfl | rfl
  · refine S_betterPart3 hF ?_; rw [b1]; exact k
  · refine S_betterPart0 hF ?_; rw [b2]; exact k
  · refine S_betterPart1 hF ?_; rw [b4]; exact k
  · refine S_betterPart2 hF ?_; rw [b5]; exact k
theorem S_X11_better {g : GG} {m : MM} {Q : Out → Prop} {f : Nat → Int32} {fs : Nat → Nat → Int32} {ic : Nat} {tp : Nat → Int32} {tn : Nat} {pl : Int32} {n1 : Nat} {T1 : Nat → (Nat → Int64) → Nat → Int64} {n2 : Nat} {T2 : Nat → (Nat → Int64) → Nat → Int64} (hC : CI f fs ic tp tn pl n1 T1 n2 T2 m) {l x : Int32} (ke : f 0 = 0 → Q (.inr EISE, m)) (kl : ¬ f 0 = 0 → (l < 0 ∨ nI n1 ≤ l) → Q (.inr EIOB, m)) (kb : ¬ f 0 = 0 → ∀ j155, l = nI j155 → j155 < n1 → ¬ (-1 ≤ x ∧ x ≤ 2) → Q (.inr EIAE, m)) (k0 : ¬ f 0 = 0 → ∀ j155, l = nI j155 → j155 < n1 → (-1 ≤ x ∧ x ≤ 2) → (sbG f (T1 j155)).2.1 = -1 → ∀ m', CI f fs ic tp tn pl n1 T1 n2 T2 m' → NoR m m' → Q (.inl (some (.long (-1))), m')) (k : ¬ f 0 = 0 → ∀ j155, l = nI j155 → j155 < n1 → (-1 ≤ x ∧ x ≤ 2) → ¬ (sbG f (T1 j155)).2.1 = -1 → ∀ m', CI f fs ic tp tn pl n1 T1 n2 T2 m' → NoR m m' → Q (.inl (some (.long (btV (sbG f (T1 j155)) x))), m')) : Cl g 7 3 18 mX11_better [.ref 4, .int l, .int x] m Q := by
  refine Cl.of rfl (by decide) (Nat.le_of_ble_eq_true rfl) ?_
  show Wp g mX11_better 7 3 18 0 [.ref 4, .int l, .int x, .retAddr 0] [] m Q
  have hF := hC.1
  have hV := hC.2.1
  have hW := hC.2.2.1
  have hS155 := hC.2.2.2.2.2.2.1
  have hS157 := hC.2.2.2.2.2.2.2
  refine r_aload_n dX11_better_0 rfl ?_
  refine r_callV0 (ci := 11) (d1 := 6) (c1 := 1) (n1 := 6) dX11_better_1 mvX11_151 rfl ⟨(Nat.le_of_ble_eq_true rfl), rfl⟩ (Nat.le_of_ble_eq_true rfl) (by exact Nat.le_of_ble_eq_true rfl) (by exact k_4 hF) ?_
  refine S_X11_demandAnyHull hF hV hW (fun a1 => ?_) (fun a0 => ?_)
  ·
    show Wp g mX11_better _ _ _ 4 _ [] _ Q
    refine r_aload_n dX11_better_4 rfl ?_
    refine r_getRc dX11_better_5 fgX11_39 rfl (by exact k_4 hF) (by exact r_4_4 hF) ?_
    refine r_iload_n dX11_better_8 rfl ?_
    refine r_callS2 (d1 := 6) (c1 := 1) (n1 := 6) dX11_better_9 msX11_157 rfl (Nat.le_of_ble_eq_true rfl) (by exact Nat.le_of_ble_eq_true rfl) ?_
    refine S_demP155 hF hS155 (fun j155 hj155 hjn155 hp155 => ?_) (fun p155 => ?_)
    ·
      subst hj155
      show Wp g mX11_better _ _ _ 12 _ (_ :: _) _ Q
      refine sa_3 dX11_better_12 rfl (Nat.le_of_ble_eq_true rfl) ?_
      refine r_iload_n dX11_better_13 rfl ?_
      refine r_iconst (-1) dX11_better_14 rfl ?_
      refine r_iconst (2) dX11_better_15 rfl ?_
      refine r_callS3 (d1 := 0) (c1 := 0) (n1 := 0) dX11_better_16 msX11_59 rfl (Nat.le_of_ble_eq_true rfl) (by exact Nat.le_of_ble_eq_true rfl) ?_
      refine S_X11_isWithin (fun w16a w16b => ?_) (fun w16 => ?_)
      ·
        show Wp g mX11_better _ _ _ 19 _ (_ :: _) _ Q
        refine r_callS1 (d1 := 6) (c1 := 1) (n1 := 6) dX11_better_19 msX11_63 rfl (Nat.le_of_ble_eq_true rfl) (by exact Nat.le_of_ble_eq_true rfl) ?_
        refine S_demand1 ?_
        show Wp g mX11_better _ _ _ 22 _ [] _ Q
        refine r_aload_n dX11_better_22 rfl ?_
        refine r_getRc dX11_better_23 fgX11_51 rfl (by exact k_4 hF) (by exact r_4_6 hF) ?_
        refine r_aload_n dX11_better_26 rfl ?_
        refine r_callV1 (ci := 0) (d1 := 5) (c1 := 0) (n1 := 0) dX11_better_27 mvX11_244 rfl ⟨(Nat.le_of_ble_eq_true rfl), rfl⟩ (Nat.le_of_ble_eq_true rfl) (by exact Nat.le_of_ble_eq_true rfl) (by exact k_159 hF) ?_
        have hx := hH_of hV a1
        refine S_X0_seekBetter hF hV hW hx.1 hx.2 hp155 (fun m1 o1 hB hs => ?_) (fun m1 o1 hs => ?_)
        ·
          have hF1 := Fx_of o1.1 hF
          show Wp g mX11_better _ _ _ 30 _ (_ :: _) _ Q
          refine r_if_eq 44 dX11_better_30 rfl (fun hz => absurd hz (by decide)) (fun _ => ?_)
          refine r_aload_n dX11_better_33 rfl ?_
          refine r_getRc dX11_better_34 fgX11_51 rfl (by exact k_4 hF1) (by exact r_4_6 hF1) ?_
          refine r_iload_n dX11_better_37 rfl ?_
          refine r_callV1 (ci := 0) (d1 := 0) (c1 := 0) (n1 := 0) dX11_better_38 mvX11_248 rfl ⟨(Nat.le_of_ble_eq_true rfl), rfl⟩ (Nat.le_of_ble_eq_true rfl) (by exact Nat.le_of_ble_eq_true rfl) (by exact k_159 hF1) ?_
          refine S_betAny hF1 hB hs w16a w16b ?_
          show Wp g mX11_better _ _ _ 41 _ (_ :: _) _ Q
          refine r_goto 47 dX11_better_41 rfl ?_
          refine r_lreturn dX11_better_47 rfl ?_
          exact k a1 j155 rfl hjn155 ⟨w16a, w16b⟩ hs m1 (hC.off o1 (by omega) (by omega)) (o1.nor (by omega))
        ·
          have hF1 := Fx_of o1.1 hF
          show Wp g mX11_better _ _ _ 30 _ (_ :: _) _ Q
          refine r_if_eq 44 dX11_better_30 rfl (fun _ => ?_) (fun hz => absurd hz (by decide))
          refine r_ldc2 (-1) dX11_better_44 ctX11_252 ?_
          refine r_lreturn dX11_better_47 rfl ?_
          exact k0 a1 j155 rfl hjn155 ⟨w16a, w16b⟩ hs m1 (hC.off o1 (by omega) (by omega)) (o1.nor (by omega))
      ·
        show Wp g mX11_better _ _ _ 19 _ (_ :: _) _ Q
        refine r_callS1 (d1 := 6) (c1 := 1) (n1 := 6) dX11_better_19 msX11_63 rfl (Nat.le_of_ble_eq_true rfl) (by exact Nat.le_of_ble_eq_true rfl) ?_
        refine S_demand0 ?_
        exact kb a1 j155 rfl hjn155 w16
    ·
      exact kl a1 p155
  ·
    exact ke a0
