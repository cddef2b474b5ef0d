theorem S_X12_ratio {g : GG} {m : MM} {Q : Out → Prop} {f : Nat → Int32} {fs : Nat → Nat → Int32} {ic : Nat} {tp : Nat → Int32} {tn : Nat} {pl : Int32} {n1 n2 : Nat} {ts : Nat → (Nat → Int32) × Nat} (hV : Vf f) (hI : RI f fs ic tp tn pl n1 n2 ts m) {v : Int32} (hv : MidV (rtS f) (nE f) v) {x : Int32} (kh : ¬ (¬ f 3 = 0 ∧ -1 ≤ x ∧ x ≤ f 3 - 1) → ∀ m', RJ f fs ic tp tn pl n1 n2 ts m 1 m' → Q (.inl (some (.int 0)), m')) (km : (¬ f 3 = 0 ∧ -1 ≤ x ∧ x ≤ f 3 - 1) → x = -1 → ∀ m', RJ f fs ic tp tn pl n1 n2 ts m 0 m' → Q (.inl (some (.int v)), m')) (k : ∀ j, j < nE f → x = nI j → ∀ m', RJ f fs ic tp tn pl n1 n2 ts m 0 m' → Q (.inl (some (.int (rtS f j))), m')) : Cl g 3 0 0 mX12_ratio [.ref 167, .int x] m Q := by
  refine Cl.of rfl (by decide) (Nat.le_of_ble_eq_true rfl) ?_
  show Wp g mX12_ratio 3 0 0 0 [.ref 167, .int x] [] m Q
  have hc3 := hV.1.2.2.2.1.1
  have he := hV.1.2.2.2.1.2
  refine r_aload_n dX12_ratio_0 rfl ?_
  refine r_iconst (0) dX12_ratio_1 rfl ?_
  refine r_putI dX12_ratio_2 (fpX12_79 _ rfl) rfl (by exact k_167 hI.1) ⟨rfl, rfl⟩ ?_
  have hJ1 := hI.go
  refine r_aload_n dX12_ratio_5 rfl ?_
  refine r_iload_n dX12_ratio_6 rfl ?_
  refine r_iconst (-1) dX12_ratio_7 rfl ?_
  refine r_aload_n dX12_ratio_8 rfl ?_
  refine r_getIc (f 3) dX12_ratio_9 fgX12_300 rfl (by exact k_167 hJ1.F) (by exact hJ1.g (by omega) l_3) ?_
  refine r_iconst (1) dX12_ratio_12 rfl ?_
  refine r_isub dX12_ratio_13 ?_
  refine r_callS3 (d1 := 0) (c1 := 0) (n1 := 0) dX12_ratio_14 msX12_82 rfl (Nat.le_of_ble_eq_true rfl) (by exact Nat.le_of_ble_eq_true rfl) ?_
  refine S_X12_in (fun w14a w14b => ?_) (fun w14 => ?_)
  ·
    show Wp g mX12_ratio _ _ _ 17 _ (_ :: _) _ Q
    refine r_if_eq 27 dX12_ratio_17 rfl (fun hz => absurd hz (by decide)) (fun _ => ?_)
    refine r_aload_n dX12_ratio_20 rfl ?_
    refine r_getIc (f 3) dX12_ratio_21 fgX12_300 rfl (by exact k_167 hJ1.F) (by exact hJ1.g (by omega) l_3) ?_
    refine r_if_ne 31 dX12_ratio_24 rfl (fun hz => ?_) (fun hz => ?_)
    ·
      refine r_iconst (0) dX12_ratio_31 rfl ?_
      refine r_iconst (1) dX12_ratio_32 rfl ?_
      refine r_callV2 (ci := 12) (d1 := 0) (c1 := 0) (n1 := 0) dX12_ratio_33 mvX12_86 rfl ⟨(Nat.le_of_ble_eq_true rfl), rfl⟩ (Nat.le_of_ble_eq_true rfl) (by exact Nat.le_of_ble_eq_true rfl) (by exact k_167 hJ1.F) ?_
      refine S_bad0 hJ1.F hJ1.2.2 ?_
      show Wp g mX12_ratio _ _ _ 36 _ (_ :: _) _ Q
      refine r_if_eq 41 dX12_ratio_36 rfl (fun _ => ?_) (fun hz => absurd hz (by decide))
      have hE0 : 0 < nE f := Nat.pos_of_ne_zero (fun q => hz (by rw [hc3, q]; rfl))
      refine r_iload_n dX12_ratio_41 rfl ?_
      refine r_iconst (-1) dX12_ratio_42 rfl ?_
      refine r_icmp_ne 53 dX12_ratio_43 rfl (fun hm => ?_) (fun hm => ?_)
      ·
        obtain ⟨jj, hjE, rfl⟩ := i32_below (x := x) (n := nE f) (by omega) (by have a := Int32.le_iff_toInt_le.mp w14a; have b := fun q => hm (Int32.toInt_inj.mp q); refine Int32.le_iff_toInt_le.mpr ?_; have c1 : (-1 : Int32).toInt = -1 := rfl; have c0 : (0 : Int32).toInt = 0 := rfl; have d : ¬ x.toInt = (-1 : Int32).toInt := b; omega) (by rw [← hc3]; exact w14b)
        refine r_aload_n dX12_ratio_53 rfl ?_
        refine r_iload_n dX12_ratio_54 rfl ?_
        refine r_callV1 (ci := 12) (d1 := 1) (c1 := 0) (n1 := 0) dX12_ratio_55 mvX12_307 rfl ⟨(Nat.le_of_ble_eq_true rfl), rfl⟩ (Nat.le_of_ble_eq_true rfl) (by exact Nat.le_of_ble_eq_true rfl) (by exact k_167 hJ1.F) ?_
        refine S_X12_ratioOf hV hJ1.1 hjE ?_
        show Wp g mX12_ratio _ _ _ 58 _ (_ :: _) _ Q
        refine r_ireturn dX12_ratio_58 rfl rfl ?_
        exact k jj hjE rfl _ hJ1
      ·
        refine r_aload_n dX12_ratio_46 rfl ?_
        refine r_callV0 (ci := 12) (d1 := 2) (c1 := 0) (n1 := 0) dX12_ratio_47 mvX12_310 rfl ⟨(Nat.le_of_ble_eq_true rfl), rfl⟩ (Nat.le_of_ble_eq_true rfl) (by exact Nat.le_of_ble_eq_true rfl) (by exact k_167 hJ1.F) ?_
        refine S_rmiddle hV hJ1.1 hE0 hv (fun m9 s9 => ?_)
        have hJ9 := hJ1.sc s9.1 s9.2
        show Wp g mX12_ratio _ _ _ 50 _ (_ :: _) _ Q
        refine r_goto 58 dX12_ratio_50 rfl ?_
        refine r_ireturn dX12_ratio_58 rfl rfl ?_
        exact km ⟨hz, w14a, w14b⟩ hm _ hJ9
    ·
      refine r_iconst (1) dX12_ratio_27 rfl ?_
      refine r_goto 32 dX12_ratio_28 rfl ?_
      refine r_iconst (1) dX12_ratio_32 rfl ?_
      refine r_callV2 (ci := 12) (d1 := 0) (c1 := 0) (n1 := 0) dX12_ratio_33 mvX12_86 rfl ⟨(Nat.le_of_ble_eq_true rfl), rfl⟩ (Nat.le_of_ble_eq_true rfl) (by exact Nat.le_of_ble_eq_true rfl) (by exact k_167 hJ1.F) ?_
      refine S_bad1 hJ1.F hJ1.2.2 (by decide) ?_
      have hJ2 := hJ1.bad 1
      show Wp g mX12_ratio _ _ _ 36 _ (_ :: _) _ Q
      refine r_if_eq 41 dX12_ratio_36 rfl (fun hz => absurd hz (by decide)) (fun _ => ?_)
      refine r_iconst (0) dX12_ratio_39 rfl ?_
      refine r_ireturn dX12_ratio_40 rfl rfl ?_
      first | exact kh (fun q => w14 q.2) _ hJ2 | exact kh (fun q => q.1 hz) _ hJ2
  ·
    show Wp g mX12_ratio _ _ _ 17 _ (_ :: _) _ Q
    refine r_if_eq 27 dX12_ratio_17 rfl (fun _ => ?_) (fun hz => absurd hz (by decide))
    refine r_iconst (1) dX12_ratio_27 rfl ?_
    refine r_goto 32 dX12_ratio_28 rfl ?_
    refine r_iconst (1) dX12_ratio_32 rfl ?_
    refine r_callV2 (ci := 12) (d1 := 0) (c1 := 0) (n1 := 0) dX12_ratio_33 mvX12_86 rfl ⟨(Nat.le_of_ble_eq_true rfl), rfl⟩ (Nat.le_of_ble_eq_true rfl) (by exact Nat.le_of_ble_eq_true rfl) (by exact k_167 hJ1.F) ?_
    refine S_bad1 hJ1.F hJ1.2.2 (by decide) ?_
    have hJ3 := hJ1.bad 1
    show Wp g mX12_ratio _ _ _ 36 _ (_ :: _) _ Q
    refine r_if_eq 41 dX12_ratio_36 rfl (fun hz => absurd hz (by decide)) (fun _ => ?_)
    refine r_iconst (0) dX12_ratio_39 rfl ?_
    refine r_ireturn dX12_ratio_40 rfl rfl ?_
    first | exact kh (fun q => w14 q.2) _ hJ3 | exact kh (fun q => q.1 hz) _ hJ3
theorem S_X12_isStrange {g : GG} {m : MM} {Q : Out → Prop} {f : Nat → Int32} {fs : Nat → Nat → Int32} {ic : Nat} {tp : Nat → Int32} {tn : Nat} {pl : Int32} {n1 n2 : Nat} {ts : Nat → (Nat → Int32) × Nat} {m0 : MM} (hV : Vf f) (hJ : RJ f fs ic tp tn pl n1 n2 ts m0 0 m) {v : Int32} (hv : MidV (rtS f) (nE f) v) {j : Nat} (hj : j < nE f) {b : Int32} (k1 : strg (rtS f) v b j = true → ∀ m', RJ f fs ic tp tn pl n1 n2 ts m0 0 m' → Q (.inl (some (.int 1)), m')) (k0 : ¬ strg (rtS f) v b j = true → ∀ m', RJ f fs ic tp tn pl n1 n2 ts m0 0 m' → Q (.inl (some (.int 0)), m')) : Cl g 3 0 0 mX12_isStrange [.ref 167, .int (nI j), .int b] m Q := by
  refine Cl.of rfl (by decide) (Nat.le_of_ble_eq_true rfl) ?_
  show Wp g mX12_isStrange 3 0 0 0 [.ref 167, .int (nI j), .int b] [] m Q
  refine r_aload_n dX12_isStrange_0 rfl ?_
  refine r_iload_n dX12_isStrange_1 rfl ?_
  refine r_callV1 (ci := 12) (d1 := 1) (c1 := 0) (n1 := 0) dX12_isStrange_2 mvX12_307 rfl ⟨(Nat.le_of_ble_eq_true rfl), rfl⟩ (Nat.le_of_ble_eq_true rfl) (by exact Nat.le_of_ble_eq_true rfl) (by exact k_167 hJ.F) ?_
  refine S_X12_ratioOf hV hJ.1 hj ?_
  show Wp g mX12_isStrange _ _ _ 5 _ (_ :: _) _ Q
  refine r_i2l dX12_isStrange_5 ?_
  refine r_aload_n dX12_isStrange_6 rfl ?_
  refine r_callV0 (ci := 12) (d1 := 2) (c1 := 0) (n1 := 0) dX12_isStrange_7 mvX12_310 rfl ⟨(Nat.le_of_ble_eq_true rfl), rfl⟩ (Nat.le_of_ble_eq_true rfl) (by exact Nat.le_of_ble_eq_true rfl) (by exact k_167 hJ.F) ?_
  refine S_rmiddle hV hJ.1 (by omega) hv (fun m9 s9 => ?_)
  have hJ9 := hJ.sc s9.1 s9.2
  show Wp g mX12_isStrange _ _ _ 10 _ (_ :: _) _ Q
  refine r_i2l dX12_isStrange_10 ?_
  refine r_lsub dX12_isStrange_11 ?_
  refine r_callS1 (d1 := 0) (c1 := 0) (n1 := 0) dX12_isStrange_12 msX12_272 rfl (Nat.le_of_ble_eq_true rfl) (by exact Nat.le_of_ble_eq_true rfl) ?_
  refine S_X12_amount ?_
  rw [am_dst (by rw [Int32.toInt_toInt64]; have := rtS_b hV hj; exact ⟨this.1, by have := this.2; omega⟩) (by rw [Int32.toInt_toInt64]; have := Mid_b hV hv; exact ⟨this.1, by have := this.2; omega⟩)]
  show Wp g mX12_isStrange _ _ _ 15 _ (_ :: _) _ Q
  refine r_iload_n dX12_isStrange_15 rfl ?_
  refine r_i2l dX12_isStrange_16 ?_
  refine r_lcmp_le 25 dX12_isStrange_17 dX12_isStrange_18 rfl (fun hc => ?_) (fun hc => ?_)
  ·
    refine r_iconst (0) dX12_isStrange_25 rfl ?_
    refine r_ireturn dX12_isStrange_26 rfl rfl ?_
    exact k0 (fun q => absurd (of_decide_eq_true q) (i64_nlt.mpr hc)) _ hJ9
  ·
    refine r_iconst (1) dX12_isStrange_21 rfl ?_
    refine r_goto 26 dX12_isStrange_22 rfl ?_
    refine r_ireturn dX12_isStrange_26 rfl rfl ?_
    exact k1 (decide_eq_true (i64_nle.mp hc)) _ hJ9
theorem L_rstr {g : GG} {Q : Out → Prop} {f : Nat → Int32} {fs : Nat → Nat → Int32} {ic : Nat} {tp : Nat → Int32} {tn : Nat} {pl : Int32} {n1 n2 : Nat} {ts : Nat → (Nat → Int32) × Nat} {m0 : MM} (hV : Vf f) {v : Int32} (hv : MidV (rtS f) (nE f) v) {b : Int32} (k : ∀ m', RJ f fs ic tp tn pl n1 n2 ts m0 0 m' → Wp g mX12_strange 4 0 0 68 [.ref 167, .int b, .int (bitsF (strg (rtS f) v b) (nE f)), .int (nI (nE f))] [] m' Q) : ∀ (t i : Nat) (m : MM), i + t = nE f → RJ f fs ic tp tn pl n1 n2 ts m0 0 m → Wp g mX12_strange 4 0 0 35 [.ref 167, .int b, .int (bitsF (strg (rtS f) v b) i), .int (nI i)] [] m Q := by
  have he := hV.1.2.2.2.1.2
  have hc3 := hV.1.2.2.2.1.1
  intro t
  induction t with
  | zero =>
    intro i m  hi  hJ
    have hi : i = nE f := by omega
    subst hi
    refine r_iload_n dX12_strange_35 rfl ?_
    refine r_aload_n dX12_strange_36 rfl ?_
    refine r_getIc (nI (nE f)) dX12_strange_37 fgX12_300 rfl (by exact k_167 hJ.F) (by exact (hJ.g (by omega) l_3).trans hc3) ?_
    refine r_icmp_ge 68 dX12_strange_40 rfl (fun hge => ?_) (fun hge => ?_)
    ·
      exact k m hJ
    ·
      exact absurd (nI_le (Nat.le_refl _) (by omega)) hge
  | succ t ih =>
    intro i m  hi  hJ
    refine r_iload_n dX12_strange_35 rfl ?_
    refine r_aload_n dX12_strange_36 rfl ?_
    refine r_getIc (nI (nE f)) dX12_strange_37 fgX12_300 rfl (by exact k_167 hJ.F) (by exact (hJ.g (by omega) l_3).trans hc3) ?_
    refine r_icmp_ge 68 dX12_strange_40 rfl (fun hge => ?_) (fun hge => ?_)
    ·
      exact absurd hge (nI_ge (by omega) (by omega))
    ·
      refine r_iload_n dX12_strange_43 rfl ?_
      refine r_aload_n dX12_strange_44 rfl ?_
      refine r_iload_n dX12_strange_45 rfl ?_
      refine r_iload_n dX12_strange_46 rfl ?_
      refine r_callV2 (ci := 12) (d1 := 3) (c1 := 0) (n1 := 0) dX12_strange_47 mvX12_313 rfl ⟨(Nat.le_of_ble_eq_true rfl), rfl⟩ (Nat.le_of_ble_eq_true rfl) (by exact Nat.le_of_ble_eq_true rfl) (by exact k_167 hJ.F) ?_
      refine S_X12_isStrange hV hJ hv (by omega) (fun hb m1 hJ1 => ?_) (fun hb m1 hJ1 => ?_)
      ·
        show Wp g mX12_strange _ _ _ 50 _ (_ :: _) _ Q
        refine r_if_eq 59 dX12_strange_50 rfl (fun hz => absurd hz (by decide)) (fun _ => ?_)
        refine r_iconst (1) dX12_strange_53 rfl ?_
        refine r_iload_n dX12_strange_54 rfl ?_
        refine r_ishl dX12_strange_55 ?_
        refine r_goto 60 dX12_strange_56 rfl ?_
        refine r_ior dX12_strange_60 ?_
        refine si_2 dX12_strange_61 (by first | rfl | assumption) (Nat.le_of_ble_eq_true rfl) ?_
        refine ic_3 (1) dX12_strange_62 rfl rfl (Nat.le_of_ble_eq_true rfl) ?_
        refine r_goto 35 dX12_strange_65 rfl ?_
        rw [nI_1 i]
        have L := ih (i + 1) m1 (by omega) hJ1
        rw [show bitsF (strg (rtS f) v b) (i + 1) = bitsF (strg (rtS f) v b) i ||| (1 <<< (nI i &&& 31)) from if_pos hb] at L; exact L
      ·
        show Wp g mX12_strange _ _ _ 50 _ (_ :: _) _ Q
        refine r_if_eq 59 dX12_strange_50 rfl (fun _ => ?_) (fun hz => absurd hz (by decide))
        refine r_iconst (0) dX12_strange_59 rfl ?_
        refine r_ior dX12_strange_60 ?_
        refine si_2 dX12_strange_61 (by first | rfl | assumption) (Nat.le_of_ble_eq_true rfl) ?_
        refine ic_3 (1) dX12_strange_62 rfl rfl (Nat.le_of_ble_eq_true rfl) ?_
        refine r_goto 35 dX12_strange_65 rfl ?_
        rw [nI_1 i]
        have L := ih (i + 1) m1 (by omega) hJ1
        rw [show bitsF (strg (rtS f) v b) (i + 1) = bitsF (strg (rtS f) v b) i from if_neg hb] at L; rw [or0]; exact L
theorem S_X12_strange {g : GG} {m : MM} {Q : Out → Prop} {f : Nat → Int32} {fs : Nat → Nat → Int32} {ic : Nat} {tp : Nat → Int32} {tn : Nat} {pl : Int32} {n1 n2 : Nat} {ts : Nat → (Nat → Int32) × Nat} (hV : Vf f) (hI : RI f fs ic tp tn pl n1 n2 ts m) {v : Int32} (hv : MidV (rtS f) (nE f) v) {x : Int32} (kb : ¬ (0 ≤ x ∧ x ≤ 9999) → ∀ m', RJ f fs ic tp tn pl n1 n2 ts m 1 m' → Q (.inl (some (.int 0)), m')) (k : (0 ≤ x ∧ x ≤ 9999) → ∀ m', RJ f fs ic tp tn pl n1 n2 ts m 0 m' → Q (.inl (some (.int (bitsF (strg (rtS f) v x) (nE f)))), m')) : Cl g 4 0 0 mX12_strange [.ref 167, .int x] m Q := by
  refine Cl.of rfl (by decide) (Nat.le_of_ble_eq_true rfl) ?_
  show Wp g mX12_strange 4 0 0 0 [.ref 167, .int x, .retAddr 0, .retAddr 0] [] m Q
  refine r_aload_n dX12_strange_0 rfl ?_
  refine r_iconst (0) dX12_strange_1 rfl ?_
  refine r_putI dX12_strange_2 (fpX12_79 _ rfl) rfl (by exact k_167 hI.1) ⟨rfl, rfl⟩ ?_
  have hJ1 := hI.go
  refine r_aload_n dX12_strange_5 rfl ?_
  refine r_iload_n dX12_strange_6 rfl ?_
  refine r_iconst (0) dX12_strange_7 rfl ?_
  refine r_sipush (9999) dX12_strange_8 rfl ?_
  refine r_callS3 (d1 := 0) (c1 := 0) (n1 := 0) dX12_strange_11 msX12_82 rfl (Nat.le_of_ble_eq_true rfl) (by exact Nat.le_of_ble_eq_true rfl) ?_
  refine S_X12_in (fun w11a w11b => ?_) (fun w11 => ?_)
  ·
    show Wp g mX12_strange _ _ _ 14 _ (_ :: _) _ Q
    refine r_if_ne 21 dX12_strange_14 rfl (fun _ => ?_) (fun hz => absurd hz (by decide))
    refine r_iconst (0) dX12_strange_21 rfl ?_
    refine r_iconst (1) dX12_strange_22 rfl ?_
    refine r_callV2 (ci := 12) (d1 := 0) (c1 := 0) (n1 := 0) dX12_strange_23 mvX12_86 rfl ⟨(Nat.le_of_ble_eq_true rfl), rfl⟩ (Nat.le_of_ble_eq_true rfl) (by exact Nat.le_of_ble_eq_true rfl) (by exact k_167 hJ1.F) ?_
    refine S_bad0 hJ1.F hJ1.2.2 ?_
    show Wp g mX12_strange _ _ _ 26 _ (_ :: _) _ Q
    refine r_if_eq 31 dX12_strange_26 rfl (fun _ => ?_) (fun hz => absurd hz (by decide))
    refine r_iconst (0) dX12_strange_31 rfl ?_
    refine si_2 dX12_strange_32 rfl (Nat.le_of_ble_eq_true rfl) ?_
    refine r_iconst (0) dX12_strange_33 rfl ?_
    refine si_3 dX12_strange_34 rfl (Nat.le_of_ble_eq_true rfl) ?_
    refine L_rstr hV hv (fun m9 hJ9 => ?_) (nE f) 0 _ (by omega) hJ1
    refine r_iload_n dX12_strange_68 rfl ?_
    refine r_ireturn dX12_strange_69 rfl rfl ?_
    exact k ⟨w11a, w11b⟩ _ hJ9
  ·
    show Wp g mX12_strange _ _ _ 14 _ (_ :: _) _ Q
    refine r_if_ne 21 dX12_strange_14 rfl (fun hz => absurd hz (by decide)) (fun _ => ?_)
    refine r_iconst (1) dX12_strange_17 rfl ?_
    refine r_goto 22 dX12_strange_18 rfl ?_
    refine r_iconst (1) dX12_strange_22 rfl ?_
    refine r_callV2 (ci := 12) (d1 := 0) (c1 := 0) (n1 := 0) dX12_strange_23 mvX12_86 rfl ⟨(Nat.le_of_ble_eq_true rfl), rfl⟩ (Nat.le_of_ble_eq_true rfl) (by exact Nat.le_of_ble_eq_true rfl) (by exact k_167 hJ1.F) ?_
    refine S_bad1 hJ1.F hJ1.2.2 (by decide) ?_
    have hJ2 := hJ1.bad 1
    show Wp g mX12_strange _ _ _ 26 _ (_ :: _) _ Q
    refine r_if_eq 31 dX12_strange_26 rfl (fun hz => absurd hz (by decide)) (fun _ => ?_)
    refine r_iconst (0) dX12_strange_29 rfl ?_
    refine r_ireturn dX12_strange_30 rfl rfl ?_
    exact kb w11 _ hJ2
theorem L_rspa {g : GG} {Q : Out → Prop} {f : Nat → Int32} {fs : Nat → Nat → Int32} {ic : Nat} {tp : Nat → Int32} {tn : Nat} {pl : Int32} {n1 n2 : Nat} {ts : Nat → (Nat → Int32) × Nat} {m0 : MM} (hV : Vf f) {v : Int32} (hv : MidV (rtS f) (nE f) v) {nd mo : Int32} (k : ∀ m', RJ f fs ic tp tn pl n1 n2 ts m0 0 m' → ∀ x5, Wp g mX12_span 4 0 0 101 [.ref 167, .int nd, .int mo, .int (spF (rtS f) (strg (rtS f) v 200) mo (nE f)), .int (nI (nE f)), x5] [] m' Q) : ∀ (t i : Nat) (m : MM) (x5 : Value), i + t = nE f → RJ f fs ic tp tn pl n1 n2 ts m0 0 m → Wp g mX12_span 4 0 0 36 [.ref 167, .int nd, .int mo, .int (spF (rtS f) (strg (rtS f) v 200) mo i), .int (nI i), x5] [] m Q := by
  have he := hV.1.2.2.2.1.2
  have hc3 := hV.1.2.2.2.1.1
  intro t
  induction t with
  | zero =>
    intro i m x5 hi  hJ
    have hi : i = nE f := by omega
    subst hi
    refine r_iload dX12_span_36 rfl ?_
    refine r_aload_n dX12_span_38 rfl ?_
    refine r_getIc (nI (nE f)) dX12_span_39 fgX12_300 rfl (by exact k_167 hJ.F) (by exact (hJ.g (by omega) l_3).trans hc3) ?_
    refine r_icmp_ge 101 dX12_span_42 rfl (fun hge => ?_) (fun hge => ?_)
    ·
      exact k m hJ _
    ·
      exact absurd (nI_le (Nat.le_refl _) (by omega)) hge
  | succ t ih =>
    intro i m x5 hi  hJ
    refine r_iload dX12_span_36 rfl ?_
    refine r_aload_n dX12_span_38 rfl ?_
    refine r_getIc (nI (nE f)) dX12_span_39 fgX12_300 rfl (by exact k_167 hJ.F) (by exact (hJ.g (by omega) l_3).trans hc3) ?_
    refine r_icmp_ge 101 dX12_span_42 rfl (fun hge => ?_) (fun hge => ?_)
    ·
      exact absurd hge (nI_ge (by omega) (by omega))
    ·
      refine r_aload_n dX12_span_45 rfl ?_
      refine r_iload dX12_span_46 rfl ?_
      refine r_sipush (200) dX12_span_48 rfl ?_
      refine r_callV2 (ci := 12) (d1 := 3) (c1 := 0) (n1 := 0) dX12_span_51 mvX12_313 rfl ⟨(Nat.le_of_ble_eq_true rfl), rfl⟩ (Nat.le_of_ble_eq_true rfl) (by exact Nat.le_of_ble_eq_true rfl) (by exact k_167 hJ.F) ?_
      refine S_X12_isStrange hV hJ hv (by omega) (fun hb m1 hJ1 => ?_) (fun hb m1 hJ1 => ?_)
      ·
        show Wp g mX12_span _ _ _ 54 _ (_ :: _) _ Q
        refine r_if_eq 60 dX12_span_54 rfl (fun hz => absurd hz (by decide)) (fun _ => ?_)
        refine r_goto 95 dX12_span_57 rfl ?_
        refine ic_4 (1) dX12_span_95 rfl rfl (Nat.le_of_ble_eq_true rfl) ?_
        refine r_goto 36 dX12_span_98 rfl ?_
        rw [nI_1 i]
        have L := fun x5 => ih (i + 1) m1 x5 (by omega) hJ1
        rw [← sp_f (fun q => absurd q.1 (by rw [hb]; decide))] at L; exact L _
      ·
        show Wp g mX12_span _ _ _ 54 _ (_ :: _) _ Q
        refine r_if_eq 60 dX12_span_54 rfl (fun _ => ?_) (fun hz => absurd hz (by decide))
        refine r_aload_n dX12_span_60 rfl ?_
        refine r_iload dX12_span_61 rfl ?_
        refine r_callV1 (ci := 12) (d1 := 1) (c1 := 0) (n1 := 0) dX12_span_63 mvX12_307 rfl ⟨(Nat.le_of_ble_eq_true rfl), rfl⟩ (Nat.le_of_ble_eq_true rfl) (by exact Nat.le_of_ble_eq_true rfl) (by exact k_167 hJ1.F) ?_
        refine S_X12_ratioOf hV hJ1.1 (by omega) ?_
        show Wp g mX12_span _ _ _ 66 _ (_ :: _) _ Q
        refine si_5 dX12_span_66 (by first | rfl | assumption) (Nat.le_of_ble_eq_true rfl) ?_
        refine r_iload_n dX12_span_68 rfl ?_
        refine r_iconst (-1) dX12_span_69 rfl ?_
        refine r_icmp_eq 92 dX12_span_70 rfl (fun hm => ?_) (fun hm => ?_)
        ·
          refine r_iload dX12_span_92 rfl ?_
          refine si_3 dX12_span_94 (by first | rfl | assumption) (Nat.le_of_ble_eq_true rfl) ?_
          refine ic_4 (1) dX12_span_95 rfl rfl (Nat.le_of_ble_eq_true rfl) ?_
          refine r_goto 36 dX12_span_98 rfl ?_
          rw [nI_1 i]
          have L := fun x5 => ih (i + 1) m1 x5 (by omega) hJ1
          have hb := Bool.eq_false_iff.mpr hb
          rw [← sp_t hb (Or.inl hm)] at L; exact L _
        ·
          refine r_iload_n dX12_span_73 rfl ?_
          refine r_if_eq 86 dX12_span_74 rfl (fun hz => ?_) (fun hz => ?_)
          ·
            refine r_iload dX12_span_86 rfl ?_
            refine r_iload_n dX12_span_88 rfl ?_
            refine r_icmp_ge 95 dX12_span_89 rfl (fun hc => ?_) (fun hc => ?_)
            ·
              refine ic_4 (1) dX12_span_95 rfl rfl (Nat.le_of_ble_eq_true rfl) ?_
              refine r_goto 36 dX12_span_98 rfl ?_
              rw [nI_1 i]
              have L := fun x5 => ih (i + 1) m1 x5 (by omega) hJ1
              have hb := Bool.eq_false_iff.mpr hb
              rw [← sp_f (fun q => q.2.elim hm (fun w => by rw [if_pos hz] at w; exact i32_nlt.mpr hc w))] at L; exact L _
            ·
              refine r_iload dX12_span_92 rfl ?_
              refine si_3 dX12_span_94 (by first | rfl | assumption) (Nat.le_of_ble_eq_true rfl) ?_
              refine ic_4 (1) dX12_span_95 rfl rfl (Nat.le_of_ble_eq_true rfl) ?_
              refine r_goto 36 dX12_span_98 rfl ?_
              rw [nI_1 i]
              have L := fun x5 => ih (i + 1) m1 x5 (by omega) hJ1
              have hb := Bool.eq_false_iff.mpr hb
              rw [← sp_t hb (Or.inr (by rw [if_pos hz]; exact i32_nle.mp hc))] at L; exact L _
          ·
            refine r_iload dX12_span_77 rfl ?_
            refine r_iload_n dX12_span_79 rfl ?_
            refine r_icmp_le 95 dX12_span_80 rfl (fun hc => ?_) (fun hc => ?_)
            ·
              refine ic_4 (1) dX12_span_95 rfl rfl (Nat.le_of_ble_eq_true rfl) ?_
              refine r_goto 36 dX12_span_98 rfl ?_
              rw [nI_1 i]
              have L := fun x5 => ih (i + 1) m1 x5 (by omega) hJ1
              have hb := Bool.eq_false_iff.mpr hb
              rw [← sp_f (fun q => q.2.elim hm (fun w => by rw [if_neg hz] at w; exact i32_nlt.mpr hc w))] at L; exact L _
            ·
              refine r_goto 92 dX12_span_83 rfl ?_
              refine r_iload dX12_span_92 rfl ?_
              refine si_3 dX12_span_94 (by first | rfl | assumption) (Nat.le_of_ble_eq_true rfl) ?_
              refine ic_4 (1) dX12_span_95 rfl rfl (Nat.le_of_ble_eq_true rfl) ?_
              refine r_goto 36 dX12_span_98 rfl ?_
              rw [nI_1 i]
              have L := fun x5 => ih (i + 1) m1 x5 (by omega) hJ1
              have hb := Bool.eq_false_iff.mpr hb
              rw [← sp_t hb (Or.inr (by rw [if_neg hz]; exact i32_nle.mp hc))] at L; exact L _
theorem S_X12_span {g : GG} {m : MM} {Q : Out → Prop} {f : Nat → Int32} {fs : Nat → Nat → Int32} {ic : Nat} {tp : Nat → Int32} {tn : Nat} {pl : Int32} {n1 n2 : Nat} {ts : Nat → (Nat → Int32) × Nat} (hV : Vf f) (hI : RI f fs ic tp tn pl n1 n2 ts m) {v : Int32} (hv : MidV (rtS f) (nE f) v) {x y : Int32} (kb : ¬ (0 ≤ x ∧ x ≤ 1000000000) → ∀ m', RJ f fs ic tp tn pl n1 n2 ts m 1 m' → Q (.inl (some (.long 0)), m')) (k : (0 ≤ x ∧ x ≤ 1000000000) → ∀ m', RJ f fs ic tp tn pl n1 n2 ts m 0 m' → Q (.inl (some (.long (spV (spF (rtS f) (strg (rtS f) v 200) y (nE f)) x))), m')) : Cl g 4 0 0 mX12_span [.ref 167, .int x, .int y] m Q := by
  refine Cl.of rfl (by decide) (Nat.le_of_ble_eq_true rfl) ?_
  show Wp g mX12_span 4 0 0 0 [.ref 167, .int x, .int y, .retAddr 0, .retAddr 0, .retAddr 0] [] m Q
  refine r_aload_n dX12_span_0 rfl ?_
  refine r_iconst (0) dX12_span_1 rfl ?_
  refine r_putI dX12_span_2 (fpX12_79 _ rfl) rfl (by exact k_167 hI.1) ⟨rfl, rfl⟩ ?_
  have hJ1 := hI.go
  refine r_aload_n dX12_span_5 rfl ?_
  refine r_iload_n dX12_span_6 rfl ?_
  refine r_iconst (0) dX12_span_7 rfl ?_
  refine r_ldcw (1000000000) dX12_span_8 ctX12_264 ?_
  refine r_callS3 (d1 := 0) (c1 := 0) (n1 := 0) dX12_span_11 msX12_82 rfl (Nat.le_of_ble_eq_true rfl) (by exact Nat.le_of_ble_eq_true rfl) ?_
  refine S_X12_in (fun w11a w11b => ?_) (fun w11 => ?_)
  ·
    show Wp g mX12_span _ _ _ 14 _ (_ :: _) _ Q
    refine r_if_ne 21 dX12_span_14 rfl (fun _ => ?_) (fun hz => absurd hz (by decide))
    refine r_iconst (0) dX12_span_21 rfl ?_
    refine r_iconst (1) dX12_span_22 rfl ?_
    refine r_callV2 (ci := 12) (d1 := 0) (c1 := 0) (n1 := 0) dX12_span_23 mvX12_86 rfl ⟨(Nat.le_of_ble_eq_true rfl), rfl⟩ (Nat.le_of_ble_eq_true rfl) (by exact Nat.le_of_ble_eq_true rfl) (by exact k_167 hJ1.F) ?_
    refine S_bad0 hJ1.F hJ1.2.2 ?_
    show Wp g mX12_span _ _ _ 26 _ (_ :: _) _ Q
    refine r_if_eq 31 dX12_span_26 rfl (fun _ => ?_) (fun hz => absurd hz (by decide))
    refine r_iconst (-1) dX12_span_31 rfl ?_
    refine si_3 dX12_span_32 rfl (Nat.le_of_ble_eq_true rfl) ?_
    refine r_iconst (0) dX12_span_33 rfl ?_
    refine si_4 dX12_span_34 rfl (Nat.le_of_ble_eq_true rfl) ?_
    refine L_rspa hV hv (fun m9 hJ9 x5 => ?_) (nE f) 0 _ _ (by omega) hJ1
    refine r_iload_n dX12_span_101 rfl ?_
    refine r_iconst (-1) dX12_span_102 rfl ?_
    refine r_icmp_ne 111 dX12_span_103 rfl (fun hn => ?_) (fun hn => ?_)
    ·
      refine r_iload_n dX12_span_111 rfl ?_
      refine r_i2l dX12_span_112 ?_
      refine r_iload_n dX12_span_113 rfl ?_
      refine r_i2l dX12_span_114 ?_
      refine r_lmul dX12_span_115 ?_
      refine r_ldc2 (1000) dX12_span_116 ctX12_303 ?_
      refine r_ldiv dX12_span_119 (by decide) ?_
      refine r_lreturn dX12_span_120 rfl ?_
      have k9 := k ⟨w11a, w11b⟩ _ hJ9; rw [spV, if_neg hn] at k9; exact k9
    ·
      refine r_iload_n dX12_span_106 rfl ?_
      refine r_i2l dX12_span_107 ?_
      refine r_goto 120 dX12_span_108 rfl ?_
      refine r_lreturn dX12_span_120 rfl ?_
      have k9 := k ⟨w11a, w11b⟩ _ hJ9; rw [spV, if_pos hn] at k9; exact k9
  ·
    show Wp g mX12_span _ _ _ 14 _ (_ :: _) _ Q
    refine r_if_ne 21 dX12_span_14 rfl (fun hz => absurd hz (by decide)) (fun _ => ?_)
    refine r_iconst (1) dX12_span_17 rfl ?_
    refine r_goto 22 dX12_span_18 rfl ?_
    refine r_iconst (1) dX12_span_22 rfl ?_
    refine r_callV2 (ci := 12) (d1 := 0) (c1 := 0) (n1 := 0) dX12_span_23 mvX12_86 rfl ⟨(Nat.le_of_ble_eq_true rfl), rfl⟩ (Nat.le_of_ble_eq_true rfl) (by exact Nat.le_of_ble_eq_true rfl) (by exact k_167 hJ1.F) ?_
    refine S_bad1 hJ1.F hJ1.2.2 (by decide) ?_
    have hJ2 := hJ1.bad 1
    show Wp g mX12_span _ _ _ 26 _ (_ :: _) _ Q
    refine r_if_eq 31 dX12_span_26 rfl (fun hz => absurd hz (by decide)) (fun _ => ?_)
    refine r_lconst (0) dX12_span_29 rfl ?_
    refine r_lreturn dX12_span_30 rfl ?_
    exact kb w11 _ hJ2
def wiN2 (ρ : Nat → Int32) (p : Nat → Bool) (nd en : Int32) : Nat → Bool := fun i => !p i && !decide (nd.toInt64 * (ρ i).toInt64 / 1000 ≤ en.toInt64)
theorem cnt_y {p : Nat → Bool} {i : Nat} (h : p i = true) : nI (cnt p i) + 1 = nI (cnt p (i + 1)) := by rw [nI_1]; congr 1; show _ = cnt p i + (if p i then 1 else 0); rw [if_pos h]
theorem cnt_n {p : Nat → Bool} {i : Nat} (h : ¬ p i = true) : nI (cnt p i) + 0 = nI (cnt p (i + 1)) := by rw [Int32.add_zero]; congr 1; show _ = cnt p i + (if p i then 1 else 0); rw [if_neg h]; rfl
theorem L_rodd0 {g : GG} {Q : Out → Prop} {f : Nat → Int32} {fs : Nat → Nat → Int32} {ic : Nat} {tp : Nat → Int32} {tn : Nat} {pl : Int32} {n1 n2 : Nat} {ts : Nat → (Nat → Int32) × Nat} {m0 : MM} (hV : Vf f) {v : Int32} (hv : MidV (rtS f) (nE f) v) {nd en : Int32} (k : ∀ m', RJ f fs ic tp tn pl n1 n2 ts m0 0 m' → Wp g mX12_oddsOf 4 0 0 72 [.ref 167, .int nd, .int en, .int 0, .int (nI (cnt (wiN2 (rtS f) (strg (rtS f) v 200) nd en) (nE f))), .int (nI (nE f))] [] m' Q) : ∀ (t i : Nat) (m : MM), i + t = nE f → RJ f fs ic tp tn pl n1 n2 ts m0 0 m → Wp g mX12_oddsOf 4 0 0 6 [.ref 167, .int nd, .int en, .int 0, .int (nI (cnt (wiN2 (rtS f) (strg (rtS f) v 200) nd en) i)), .int (nI i)] [] m Q := by
  have he := hV.1.2.2.2.1.2
  have hc3 := hV.1.2.2.2.1.1
  intro t
  induction t with
  | zero =>
    intro i m  hi  hJ
    have hi : i = nE f := by omega
    subst hi
    refine r_iload dX12_oddsOf_6 rfl ?_
    refine r_aload_n dX12_oddsOf_8 rfl ?_
    refine r_getIc (nI (nE f)) dX12_oddsOf_9 fgX12_300 rfl (by exact k_167 hJ.F) (by exact (hJ.g (by omega) l_3).trans hc3) ?_
    refine r_icmp_ge 72 dX12_oddsOf_12 rfl (fun hge => ?_) (fun hge => ?_)
    ·
      exact k m hJ
    ·
      exact absurd (nI_le (Nat.le_refl _) (by omega)) hge
  | succ t ih =>
    intro i m  hi  hJ
    refine r_iload dX12_oddsOf_6 rfl ?_
    refine r_aload_n dX12_oddsOf_8 rfl ?_
    refine r_getIc (nI (nE f)) dX12_oddsOf_9 fgX12_300 rfl (by exact k_167 hJ.F) (by exact (hJ.g (by omega) l_3).trans hc3) ?_
    refine r_icmp_ge 72 dX12_oddsOf_12 rfl (fun hge => ?_) (fun hge => ?_)
    ·
      exact absurd hge (nI_ge (by omega) (by omega))
    ·
      refine r_aload_n dX12_oddsOf_15 rfl ?_
      refine r_iload dX12_oddsOf_16 rfl ?_
      refine r_sipush (200) dX12_oddsOf_18 rfl ?_
      refine r_callV2 (ci := 12) (d1 := 3) (c1 := 0) (n1 := 0) dX12_oddsOf_21 mvX12_313 rfl ⟨(Nat.le_of_ble_eq_true rfl), rfl⟩ (Nat.le_of_ble_eq_true rfl) (by exact Nat.le_of_ble_eq_true rfl) (by exact k_167 hJ.F) ?_
      refine S_X12_isStrange hV hJ hv (by omega) (fun hb m1 hJ1 => ?_) (fun hb m1 hJ1 => ?_)
      ·
        show Wp g mX12_oddsOf _ _ _ 24 _ (_ :: _) _ Q
        refine r_if_ne 66 dX12_oddsOf_24 rfl (fun _ => ?_) (fun hz => absurd hz (by decide))
        refine ic_5 (1) dX12_oddsOf_66 rfl rfl (Nat.le_of_ble_eq_true rfl) ?_
        refine r_goto 6 dX12_oddsOf_69 rfl ?_
        rw [nI_1 i]
        have L := ih (i + 1) m1 (by omega) hJ1
        rw [← cnt_s (p := (wiN2 (rtS f) (strg (rtS f) v 200) nd en)) (i := i) (fun q => by have z := (Bool.and_eq_true _ _ ▸ q).1; rw [hb] at z; exact absurd z (by decide))] at L; exact L
      ·
        show Wp g mX12_oddsOf _ _ _ 24 _ (_ :: _) _ Q
        refine r_if_ne 66 dX12_oddsOf_24 rfl (fun hz => absurd hz (by decide)) (fun _ => ?_)
        refine r_iload dX12_oddsOf_27 rfl ?_
        refine r_iload_n dX12_oddsOf_29 rfl ?_
        refine r_i2l dX12_oddsOf_30 ?_
        refine r_aload_n dX12_oddsOf_31 rfl ?_
        refine r_iload dX12_oddsOf_32 rfl ?_
        refine r_callV1 (ci := 12) (d1 := 1) (c1 := 0) (n1 := 0) dX12_oddsOf_34 mvX12_307 rfl ⟨(Nat.le_of_ble_eq_true rfl), rfl⟩ (Nat.le_of_ble_eq_true rfl) (by exact Nat.le_of_ble_eq_true rfl) (by exact k_167 hJ1.F) ?_
        refine S_X12_ratioOf hV hJ1.1 (by omega) ?_
        show Wp g mX12_oddsOf _ _ _ 37 _ (_ :: _) _ Q
        refine r_i2l dX12_oddsOf_37 ?_
        refine r_lmul dX12_oddsOf_38 ?_
        refine r_ldc2 (1000) dX12_oddsOf_39 ctX12_303 ?_
        refine r_ldiv dX12_oddsOf_42 (by decide) ?_
        refine r_iload_n dX12_oddsOf_43 rfl ?_
        refine r_i2l dX12_oddsOf_44 ?_
        refine r_lcmp_gt 53 dX12_oddsOf_45 dX12_oddsOf_46 rfl (fun hc => ?_) (fun hc => ?_)
        ·
          refine r_iconst (0) dX12_oddsOf_53 rfl ?_
          refine r_iload_n dX12_oddsOf_54 rfl ?_
          refine r_icmp_ne 62 dX12_oddsOf_55 rfl (fun hz => absurd hz (by decide)) (fun _ => ?_)
          refine r_iconst (1) dX12_oddsOf_58 rfl ?_
          refine r_goto 63 dX12_oddsOf_59 rfl ?_
          refine r_iadd dX12_oddsOf_63 ?_
          refine si_4 dX12_oddsOf_64 (by first | rfl | assumption) (Nat.le_of_ble_eq_true rfl) ?_
          refine ic_5 (1) dX12_oddsOf_66 rfl rfl (Nat.le_of_ble_eq_true rfl) ?_
          refine r_goto 6 dX12_oddsOf_69 rfl ?_
          rw [nI_1 i]
          have L := ih (i + 1) m1 (by omega) hJ1
          have hb := Bool.eq_false_iff.mpr hb
          have hc := i64_nle.mpr hc
          rw [← cnt_y (p := (wiN2 (rtS f) (strg (rtS f) v 200) nd en)) (i := i) (show (wiN2 (rtS f) (strg (rtS f) v 200) nd en) i = true from by show (!strg (rtS f) v 200 i && !decide _) = _; rw [hb, decide_eq_false hc]; rfl)] at L; exact L
        ·
          refine r_iconst (1) dX12_oddsOf_49 rfl ?_
          refine r_goto 54 dX12_oddsOf_50 rfl ?_
          refine r_iload_n dX12_oddsOf_54 rfl ?_
          refine r_icmp_ne 62 dX12_oddsOf_55 rfl (fun _ => ?_) (fun hz => absurd hz (by decide))
          refine r_iconst (0) dX12_oddsOf_62 rfl ?_
          refine r_iadd dX12_oddsOf_63 ?_
          refine si_4 dX12_oddsOf_64 (by first | rfl | assumption) (Nat.le_of_ble_eq_true rfl) ?_
          refine ic_5 (1) dX12_oddsOf_66 rfl rfl (Nat.le_of_ble_eq_true rfl) ?_
          refine r_goto 6 dX12_oddsOf_69 rfl ?_
          rw [nI_1 i]
          have L := ih (i + 1) m1 (by omega) hJ1
          have hb := Bool.eq_false_iff.mpr hb
          rw [← cnt_n (p := (wiN2 (rtS f) (strg (rtS f) v 200) nd en)) (i := i) (fun q => absurd (q.symm.trans (show (wiN2 (rtS f) (strg (rtS f) v 200) nd en) i = false from by show (!strg (rtS f) v 200 i && !decide _) = _; rw [hb, decide_eq_true (i64_nlt.mp hc)]; rfl)) (by decide))] at L; exact L
theorem S_oddsOf0 {g : GG} {m : MM} {Q : Out → Prop} {f : Nat → Int32} {fs : Nat → Nat → Int32} {ic : Nat} {tp : Nat → Int32} {tn : Nat} {pl : Int32} {n1 n2 : Nat} {ts : Nat → (Nat → Int32) × Nat} {m0 : MM} (hV : Vf f) (hJ : RJ f fs ic tp tn pl n1 n2 ts m0 0 m) {v : Int32} (hv : MidV (rtS f) (nE f) v) {nd en : Int32} (k : ∀ m', RJ f fs ic tp tn pl n1 n2 ts m0 0 m' → Q (.inl (some (.int (nI (cnt (wiN2 (rtS f) (strg (rtS f) v 200) nd en) (nE f))))), m')) : Cl g 4 0 0 mX12_oddsOf [.ref 167, .int nd, .int en, .int 0] m Q := by
  refine Cl.of rfl (by decide) (Nat.le_of_ble_eq_true rfl) ?_
  show Wp g mX12_oddsOf 4 0 0 0 [.ref 167, .int nd, .int en, .int 0, .retAddr 0, .retAddr 0] [] m Q
  refine r_iconst (0) dX12_oddsOf_0 rfl ?_
  refine si_4 dX12_oddsOf_1 rfl (Nat.le_of_ble_eq_true rfl) ?_
  refine r_iconst (0) dX12_oddsOf_3 rfl ?_
  refine si_5 dX12_oddsOf_4 rfl (Nat.le_of_ble_eq_true rfl) ?_
  refine L_rodd0 hV hv (fun m9 hJ9 => ?_) (nE f) 0 _ (by omega) hJ
  refine r_iload dX12_oddsOf_72 rfl ?_
  refine r_ireturn dX12_oddsOf_74 rfl rfl ?_
  exact k _ hJ9
theorem L_rodd1 {g : GG} {Q : Out → Prop} {f : Nat → Int32} {fs : Nat → Nat → Int32} {ic : Nat} {tp : Nat → Int32} {tn : Nat} {pl : Int32} {n1 n2 : Nat} {ts : Nat → (Nat → Int32) × Nat} {m0 : MM} (hV : Vf f) {v : Int32} (hv : MidV (rtS f) (nE f) v) {nd en : Int32} (k : ∀ m', RJ f fs ic tp tn pl n1 n2 ts m0 0 m' → Wp g mX12_oddsOf 4 0 0 72 [.ref 167, .int nd, .int en, .int 1, .int (nI (cnt (wiF (rtS f) (strg (rtS f) v 200) nd en) (nE f))), .int (nI (nE f))] [] m' Q) : ∀ (t i : Nat) (m : MM), i + t = nE f → RJ f fs ic tp tn pl n1 n2 ts m0 0 m → Wp g mX12_oddsOf 4 0 0 6 [.ref 167, .int nd, .int en, .int 1, .int (nI (cnt (wiF (rtS f) (strg (rtS f) v 200) nd en) i)), .int (nI i)] [] m Q := by
  have he := hV.1.2.2.2.1.2
  have hc3 := hV.1.2.2.2.1.1
  intro t
  induction t with
  | zero =>
    intro i m  hi  hJ
    have hi : i = nE f := by omega
    subst hi
    refine r_iload dX12_oddsOf_6 rfl ?_
    refine r_aload_n dX12_oddsOf_8 rfl ?_
    refine r_getIc (nI (nE f)) dX12_oddsOf_9 fgX12_300 rfl (by exact k_167 hJ.F) (by exact (hJ.g (by omega) l_3).trans hc3) ?_
    refine r_icmp_ge 72 dX12_oddsOf_12 rfl (fun hge => ?_) (fun hge => ?_)
    ·
      exact k m hJ
    ·
      exact absurd (nI_le (Nat.le_refl _) (by omega)) hge
  | succ t ih =>
    intro i m  hi  hJ
    refine r_iload dX12_oddsOf_6 rfl ?_
    refine r_aload_n dX12_oddsOf_8 rfl ?_
    refine r_getIc (nI (nE f)) dX12_oddsOf_9 fgX12_300 rfl (by exact k_167 hJ.F) (by exact (hJ.g (by omega) l_3).trans hc3) ?_
    refine r_icmp_ge 72 dX12_oddsOf_12 rfl (fun hge => ?_) (fun hge => ?_)
    ·
      exact absurd hge (nI_ge (by omega) (by omega))
    ·
      refine r_aload_n dX12_oddsOf_15 rfl ?_
      refine r_iload dX12_oddsOf_16 rfl ?_
      refine r_sipush (200) dX12_oddsOf_18 rfl ?_
      refine r_callV2 (ci := 12) (d1 := 3) (c1 := 0) (n1 := 0) dX12_oddsOf_21 mvX12_313 rfl ⟨(Nat.le_of_ble_eq_true rfl), rfl⟩ (Nat.le_of_ble_eq_true rfl) (by exact Nat.le_of_ble_eq_true rfl) (by exact k_167 hJ.F) ?_
      refine S_X12_isStrange hV hJ hv (by omega) (fun hb m1 hJ1 => ?_) (fun hb m1 hJ1 => ?_)
      ·
        show Wp g mX12_oddsOf _ _ _ 24 _ (_ :: _) _ Q
        refine r_if_ne 66 dX12_oddsOf_24 rfl (fun _ => ?_) (fun hz => absurd hz (by decide))
        refine ic_5 (1) dX12_oddsOf_66 rfl rfl (Nat.le_of_ble_eq_true rfl) ?_
        refine r_goto 6 dX12_oddsOf_69 rfl ?_
        rw [nI_1 i]
        have L := ih (i + 1) m1 (by omega) hJ1
        rw [← cnt_s (p := (wiF (rtS f) (strg (rtS f) v 200) nd en)) (i := i) (fun q => by have z := (Bool.and_eq_true _ _ ▸ q).1; rw [hb] at z; exact absurd z (by decide))] at L; exact L
      ·
        show Wp g mX12_oddsOf _ _ _ 24 _ (_ :: _) _ Q
        refine r_if_ne 66 dX12_oddsOf_24 rfl (fun hz => absurd hz (by decide)) (fun _ => ?_)
        refine r_iload dX12_oddsOf_27 rfl ?_
        refine r_iload_n dX12_oddsOf_29 rfl ?_
        refine r_i2l dX12_oddsOf_30 ?_
        refine r_aload_n dX12_oddsOf_31 rfl ?_
        refine r_iload dX12_oddsOf_32 rfl ?_
        refine r_callV1 (ci := 12) (d1 := 1) (c1 := 0) (n1 := 0) dX12_oddsOf_34 mvX12_307 rfl ⟨(Nat.le_of_ble_eq_true rfl), rfl⟩ (Nat.le_of_ble_eq_true rfl) (by exact Nat.le_of_ble_eq_true rfl) (by exact k_167 hJ1.F) ?_
        refine S_X12_ratioOf hV hJ1.1 (by omega) ?_
        show Wp g mX12_oddsOf _ _ _ 37 _ (_ :: _) _ Q
        refine r_i2l dX12_oddsOf_37 ?_
        refine r_lmul dX12_oddsOf_38 ?_
        refine r_ldc2 (1000) dX12_oddsOf_39 ctX12_303 ?_
        refine r_ldiv dX12_oddsOf_42 (by decide) ?_
        refine r_iload_n dX12_oddsOf_43 rfl ?_
        refine r_i2l dX12_oddsOf_44 ?_
        refine r_lcmp_gt 53 dX12_oddsOf_45 dX12_oddsOf_46 rfl (fun hc => ?_) (fun hc => ?_)
        ·
          refine r_iconst (0) dX12_oddsOf_53 rfl ?_
          refine r_iload_n dX12_oddsOf_54 rfl ?_
          refine r_icmp_ne 62 dX12_oddsOf_55 rfl (fun _ => ?_) (fun hz => absurd hz (by decide))
          refine r_iconst (0) dX12_oddsOf_62 rfl ?_
          refine r_iadd dX12_oddsOf_63 ?_
          refine si_4 dX12_oddsOf_64 (by first | rfl | assumption) (Nat.le_of_ble_eq_true rfl) ?_
          refine ic_5 (1) dX12_oddsOf_66 rfl rfl (Nat.le_of_ble_eq_true rfl) ?_
          refine r_goto 6 dX12_oddsOf_69 rfl ?_
          rw [nI_1 i]
          have L := ih (i + 1) m1 (by omega) hJ1
          have hb := Bool.eq_false_iff.mpr hb
          have hc := i64_nle.mpr hc
          rw [← cnt_n (p := (wiF (rtS f) (strg (rtS f) v 200) nd en)) (i := i) (fun q => absurd (q.symm.trans (show (wiF (rtS f) (strg (rtS f) v 200) nd en) i = false from by show (!strg (rtS f) v 200 i && decide _) = _; rw [hb, decide_eq_false hc]; rfl)) (by decide))] at L; exact L
        ·
          refine r_iconst (1) dX12_oddsOf_49 rfl ?_
          refine r_goto 54 dX12_oddsOf_50 rfl ?_
          refine r_iload_n dX12_oddsOf_54 rfl ?_
          refine r_icmp_ne 62 dX12_oddsOf_55 rfl (fun hz => absurd hz (by decide)) (fun _ => ?_)
          refine r_iconst (1) dX12_oddsOf_58 rfl ?_
          refine r_goto 63 dX12_oddsOf_59 rfl ?_
          refine r_iadd dX12_oddsOf_63 ?_
          refine si_4 dX12_oddsOf_64 (by first | rfl | assumption) (Nat.le_of_ble_eq_true rfl) ?_
          refine ic_5 (1) dX12_oddsOf_66 rfl rfl (Nat.le_of_ble_eq_true rfl) ?_
          refine r_goto 6 dX12_oddsOf_69 rfl ?_
          rw [nI_1 i]
          have L := ih (i + 1) m1 (by omega) hJ1
          have hb := Bool.eq_false_iff.mpr hb
          rw [← cnt_y (p := (wiF (rtS f) (strg (rtS f) v 200) nd en)) (i := i) (show (wiF (rtS f) (strg (rtS f) v 200) nd en) i = true from by show (!strg (rtS f) v 200 i && decide _) = _; rw [hb, decide_eq_true (i64_nlt.mp hc)]; rfl)] at L; exact L
theorem S_oddsOf1 {g : GG} {m : MM} {Q : Out → Prop} {f : Nat → Int32} {fs : Nat → Nat → Int32} {ic : Nat} {tp : Nat → Int32} {tn : Nat} {pl : Int32} {n1 n2 : Nat} {ts : Nat → (Nat → Int32) × Nat} {m0 : MM} (hV : Vf f) (hJ : RJ f fs ic tp tn pl n1 n2 ts m0 0 m) {v : Int32} (hv : MidV (rtS f) (nE f) v) {nd en : Int32} (k : ∀ m', RJ f fs ic tp tn pl n1 n2 ts m0 0 m' → Q (.inl (some (.int (nI (cnt (wiF (rtS f) (strg (rtS f) v 200) nd en) (nE f))))), m')) : Cl g 4 0 0 mX12_oddsOf [.ref 167, .int nd, .int en, .int 1] m Q := by
  refine Cl.of rfl (by decide) (Nat.le_of_ble_eq_true rfl) ?_
  show Wp g mX12_oddsOf 4 0 0 0 [.ref 167, .int nd, .int en, .int 1, .retAddr 0, .retAddr 0] [] m Q
  refine r_iconst (0) dX12_oddsOf_0 rfl ?_
  refine si_4 dX12_oddsOf_1 rfl (Nat.le_of_ble_eq_true rfl) ?_
  refine r_iconst (0) dX12_oddsOf_3 rfl ?_
  refine si_5 dX12_oddsOf_4 rfl (Nat.le_of_ble_eq_true rfl) ?_
  refine L_rodd1 hV hv (fun m9 hJ9 => ?_) (nE f) 0 _ (by omega) hJ
  refine r_iload dX12_oddsOf_72 rfl ?_
  refine r_ireturn dX12_oddsOf_74 rfl rfl ?_
  exact k _ hJ9
theorem S_X12_odds {g : GG} {m : MM} {Q : Out → Prop} {f : Nat → Int32} {fs : Nat → Nat → Int32} {ic : Nat} {tp : Nat → Int32} {tn : Nat} {pl : Int32} {n1 n2 : Nat} {ts : Nat → (Nat → Int32) × Nat} (hV : Vf f) (hI : RI f fs ic tp tn pl n1 n2 ts m) {v : Int32} (hv : MidV (rtS f) (nE f) v) {x y : Int32} (kb : ¬ ((0 ≤ x ∧ x ≤ 1000000000) ∧ 0 ≤ y ∧ y ≤ 1000000000) → ∀ m', RJ f fs ic tp tn pl n1 n2 ts m 1 m' → Q (.inl (some (.int 0)), m')) (k : ((0 ≤ x ∧ x ≤ 1000000000) ∧ 0 ≤ y ∧ y ≤ 1000000000) → ∀ m', RJ f fs ic tp tn pl n1 n2 ts m 0 m' → Q (.inl (some (.int (nI (cnt (wiF (rtS f) (strg (rtS f) v 200) x y) (nE f))))), m')) : Cl g 5 0 0 mX12_odds [.ref 167, .int x, .int y] m Q := by
  refine Cl.of rfl (by decide) (Nat.le_of_ble_eq_true rfl) ?_
  show Wp g mX12_odds 5 0 0 0 [.ref 167, .int x, .int y] [] m Q
  refine r_aload_n dX12_odds_0 rfl ?_
  refine r_iconst (0) dX12_odds_1 rfl ?_
  refine r_putI dX12_odds_2 (fpX12_79 _ rfl) rfl (by exact k_167 hI.1) ⟨rfl, rfl⟩ ?_
  have hJ1 := hI.go
  refine r_aload_n dX12_odds_5 rfl ?_
  refine r_iload_n dX12_odds_6 rfl ?_
  refine r_iconst (0) dX12_odds_7 rfl ?_
  refine r_ldcw (1000000000) dX12_odds_8 ctX12_264 ?_
  refine r_callS3 (d1 := 0) (c1 := 0) (n1 := 0) dX12_odds_11 msX12_82 rfl (Nat.le_of_ble_eq_true rfl) (by exact Nat.le_of_ble_eq_true rfl) ?_
  refine S_X12_in (fun w11a w11b => ?_) (fun w11 => ?_)
  ·
    show Wp g mX12_odds _ _ _ 14 _ (_ :: _) _ Q
    refine r_if_eq 28 dX12_odds_14 rfl (fun hz => absurd hz (by decide)) (fun _ => ?_)
    refine r_iload_n dX12_odds_17 rfl ?_
    refine r_iconst (0) dX12_odds_18 rfl ?_
    refine r_ldcw (1000000000) dX12_odds_19 ctX12_264 ?_
    refine r_callS3 (d1 := 0) (c1 := 0) (n1 := 0) dX12_odds_22 msX12_82 rfl (Nat.le_of_ble_eq_true rfl) (by exact Nat.le_of_ble_eq_true rfl) ?_
    refine S_X12_in (fun w22a w22b => ?_) (fun w22 => ?_)
    ·
      show Wp g mX12_odds _ _ _ 25 _ (_ :: _) _ Q
      refine r_if_ne 32 dX12_odds_25 rfl (fun _ => ?_) (fun hz => absurd hz (by decide))
      refine r_iconst (0) dX12_odds_32 rfl ?_
      refine r_iconst (1) dX12_odds_33 rfl ?_
      refine r_callV2 (ci := 12) (d1 := 0) (c1 := 0) (n1 := 0) dX12_odds_34 mvX12_86 rfl ⟨(Nat.le_of_ble_eq_true rfl), rfl⟩ (Nat.le_of_ble_eq_true rfl) (by exact Nat.le_of_ble_eq_true rfl) (by exact k_167 hJ1.F) ?_
      refine S_bad0 hJ1.F hJ1.2.2 ?_
      show Wp g mX12_odds _ _ _ 37 _ (_ :: _) _ Q
      refine r_if_eq 42 dX12_odds_37 rfl (fun _ => ?_) (fun hz => absurd hz (by decide))
      refine r_aload_n dX12_odds_42 rfl ?_
      refine r_iload_n dX12_odds_43 rfl ?_
      refine r_iload_n dX12_odds_44 rfl ?_
      refine r_iconst (1) dX12_odds_45 rfl ?_
      refine r_callV3 (ci := 12) (d1 := 4) (c1 := 0) (n1 := 0) dX12_odds_46 mvX12_345 rfl ⟨(Nat.le_of_ble_eq_true rfl), rfl⟩ (Nat.le_of_ble_eq_true rfl) (by exact Nat.le_of_ble_eq_true rfl) (by exact k_167 hJ1.F) ?_
      refine S_oddsOf1 hV hJ1 hv (fun m11 hJ11 => ?_)
      show Wp g mX12_odds _ _ _ 49 _ (_ :: _) _ Q
      refine r_ireturn dX12_odds_49 rfl rfl ?_
      exact k ⟨⟨w11a, w11b⟩, ⟨w22a, w22b⟩⟩ _ hJ11
    ·
      show Wp g mX12_odds _ _ _ 25 _ (_ :: _) _ Q
      refine r_if_ne 32 dX12_odds_25 rfl (fun hz => absurd hz (by decide)) (fun _ => ?_)
      refine r_iconst (1) dX12_odds_28 rfl ?_
      refine r_goto 33 dX12_odds_29 rfl ?_
      refine r_iconst (1) dX12_odds_33 rfl ?_
      refine r_callV2 (ci := 12) (d1 := 0) (c1 := 0) (n1 := 0) dX12_odds_34 mvX12_86 rfl ⟨(Nat.le_of_ble_eq_true rfl), rfl⟩ (Nat.le_of_ble_eq_true rfl) (by exact Nat.le_of_ble_eq_true rfl) (by exact k_167 hJ1.F) ?_
      refine S_bad1 hJ1.F hJ1.2.2 (by decide) ?_
      have hJ2 := hJ1.bad 1
      show Wp g mX12_odds _ _ _ 37 _ (_ :: _) _ Q
      refine r_if_eq 42 dX12_odds_37 rfl (fun hz => absurd hz (by decide)) (fun _ => ?_)
      refine r_iconst (0) dX12_odds_40 rfl ?_
      refine r_ireturn dX12_odds_41 rfl rfl ?_
      first | exact kb (fun q => w11 q.1) _ hJ2 | exact kb (fun q => w22 q.2) _ hJ2
  ·
    show Wp g mX12_odds _ _ _ 14 _ (_ :: _) _ Q
    refine r_if_eq 28 dX12_odds_14 rfl (fun _ => ?_) (fun hz => absurd hz (by decide))
    refine r_iconst (1) dX12_odds_28 rfl ?_
    refine r_goto 33 dX12_odds_29 rfl ?_
    refine r_iconst (1) dX12_odds_33 rfl ?_
    refine r_callV2 (ci := 12) (d1 := 0) (c1 := 0) (n1 := 0) dX12_odds_34 mvX12_86 rfl ⟨(Nat.le_of_ble_eq_true rfl), rfl⟩ (Nat.le_of_ble_eq_true rfl) (by exact Nat.le_of_ble_eq_true rfl) (by exact k_167 hJ1.F) ?_
    refine S_bad1 hJ1.F hJ1.2.2 (by decide) ?_
    have hJ3 := hJ1.bad 1
    show Wp g mX12_odds _ _ _ 37 _ (_ :: _) _ Q
    refine r_if_eq 42 dX12_odds_37 rfl (fun hz => absurd hz (by decide)) (fun _ => ?_)
    refine r_iconst (0) dX12_odds_40 rfl ?_
    refine r_ireturn dX12_odds_41 rfl rfl ?_
    first | exact kb (fun q => w11 q.1) _ hJ3 | exact kb (fun q => w22 q.2) _ hJ3
theorem S_X12_price {g : GG} {m : MM} {Q : Out → Prop} {f : Nat → Int32} {fs : Nat → Nat → Int32} {ic : Nat} {tp : Nat → Int32} {tn : Nat} {pl : Int32} {n1 n2 : Nat} {ts : Nat → (Nat → Int32) × Nat} (hV : Vf f) (hI : RI f fs ic tp tn pl n1 n2 ts m) {v : Int32} (hv : MidV (rtS f) (nE f) v) {x y z w : Int32} (kb : ¬ (((0 ≤ x ∧ x ≤ 1000000000) ∧ 0 ≤ y ∧ y ≤ 1000000000) ∧ (0 ≤ z ∧ z ≤ 9999) ∧ 0 ≤ w ∧ w ≤ 9999) → ∀ m', RJ f fs ic tp tn pl n1 n2 ts m 1 m' → Q (.inl (some (.int 0)), m')) (k : (((0 ≤ x ∧ x ≤ 1000000000) ∧ 0 ≤ y ∧ y ≤ 1000000000) ∧ (0 ≤ z ∧ z ≤ 9999) ∧ 0 ≤ w ∧ w ≤ 9999) → ∀ m', RJ f fs ic tp tn pl n1 n2 ts m 0 m' → Q (.inl (some (.int (z * nI (cnt (wiF (rtS f) (strg (rtS f) v 200) x y) (nE f)) - w * (nI (nE f) - bcV (bitsF (strg (rtS f) v 200) (nE f)) - nI (cnt (wiF (rtS f) (strg (rtS f) v 200) x y) (nE f)))))), m')) : Cl g 5 0 0 mX12_price [.ref 167, .int x, .int y, .int z, .int w] m Q := by
  refine Cl.of rfl (by decide) (Nat.le_of_ble_eq_true rfl) ?_
  show Wp g mX12_price 5 0 0 0 [.ref 167, .int x, .int y, .int z, .int w] [] m Q
  refine r_aload_n dX12_price_0 rfl ?_
  refine r_iconst (0) dX12_price_1 rfl ?_
  refine r_putI dX12_price_2 (fpX12_79 _ rfl) rfl (by exact k_167 hI.1) ⟨rfl, rfl⟩ ?_
  have hJ1 := hI.go
  refine r_aload_n dX12_price_5 rfl ?_
  refine r_iload_n dX12_price_6 rfl ?_
  refine r_iconst (0) dX12_price_7 rfl ?_
  refine r_ldcw (1000000000) dX12_price_8 ctX12_264 ?_
  refine r_callS3 (d1 := 0) (c1 := 0) (n1 := 0) dX12_price_11 msX12_82 rfl (Nat.le_of_ble_eq_true rfl) (by exact Nat.le_of_ble_eq_true rfl) ?_
  refine S_X12_in (fun w11a w11b => ?_) (fun w11 => ?_)
  ·
    show Wp g mX12_price _ _ _ 14 _ (_ :: _) _ Q
    refine r_if_eq 51 dX12_price_14 rfl (fun hz => absurd hz (by decide)) (fun _ => ?_)
    refine r_iload_n dX12_price_17 rfl ?_
    refine r_iconst (0) dX12_price_18 rfl ?_
    refine r_ldcw (1000000000) dX12_price_19 ctX12_264 ?_
    refine r_callS3 (d1 := 0) (c1 := 0) (n1 := 0) dX12_price_22 msX12_82 rfl (Nat.le_of_ble_eq_true rfl) (by exact Nat.le_of_ble_eq_true rfl) ?_
    refine S_X12_in (fun w22a w22b => ?_) (fun w22 => ?_)
    ·
      show Wp g mX12_price _ _ _ 25 _ (_ :: _) _ Q
      refine r_if_eq 51 dX12_price_25 rfl (fun hz => absurd hz (by decide)) (fun _ => ?_)
      refine r_iload_n dX12_price_28 rfl ?_
      refine r_iconst (0) dX12_price_29 rfl ?_
      refine r_sipush (9999) dX12_price_30 rfl ?_
      refine r_callS3 (d1 := 0) (c1 := 0) (n1 := 0) dX12_price_33 msX12_82 rfl (Nat.le_of_ble_eq_true rfl) (by exact Nat.le_of_ble_eq_true rfl) ?_
      refine S_X12_in (fun w33a w33b => ?_) (fun w33 => ?_)
      ·
        show Wp g mX12_price _ _ _ 36 _ (_ :: _) _ Q
        refine r_if_eq 51 dX12_price_36 rfl (fun hz => absurd hz (by decide)) (fun _ => ?_)
        refine r_iload dX12_price_39 rfl ?_
        refine r_iconst (0) dX12_price_41 rfl ?_
        refine r_sipush (9999) dX12_price_42 rfl ?_
        refine r_callS3 (d1 := 0) (c1 := 0) (n1 := 0) dX12_price_45 msX12_82 rfl (Nat.le_of_ble_eq_true rfl) (by exact Nat.le_of_ble_eq_true rfl) ?_
        refine S_X12_in (fun w45a w45b => ?_) (fun w45 => ?_)
        ·
          show Wp g mX12_price _ _ _ 48 _ (_ :: _) _ Q
          refine r_if_ne 55 dX12_price_48 rfl (fun _ => ?_) (fun hz => absurd hz (by decide))
          refine r_iconst (0) dX12_price_55 rfl ?_
          refine r_iconst (1) dX12_price_56 rfl ?_
          refine r_callV2 (ci := 12) (d1 := 0) (c1 := 0) (n1 := 0) dX12_price_57 mvX12_86 rfl ⟨(Nat.le_of_ble_eq_true rfl), rfl⟩ (Nat.le_of_ble_eq_true rfl) (by exact Nat.le_of_ble_eq_true rfl) (by exact k_167 hJ1.F) ?_
          refine S_bad0 hJ1.F hJ1.2.2 ?_
          show Wp g mX12_price _ _ _ 60 _ (_ :: _) _ Q
          refine r_if_eq 65 dX12_price_60 rfl (fun _ => ?_) (fun hz => absurd hz (by decide))
          refine r_iload_n dX12_price_65 rfl ?_
          refine r_aload_n dX12_price_66 rfl ?_
          refine r_iload_n dX12_price_67 rfl ?_
          refine r_iload_n dX12_price_68 rfl ?_
          refine r_iconst (1) dX12_price_69 rfl ?_
          refine r_callV3 (ci := 12) (d1 := 4) (c1 := 0) (n1 := 0) dX12_price_70 mvX12_345 rfl ⟨(Nat.le_of_ble_eq_true rfl), rfl⟩ (Nat.le_of_ble_eq_true rfl) (by exact Nat.le_of_ble_eq_true rfl) (by exact k_167 hJ1.F) ?_
          refine S_oddsOf1 hV hJ1 hv (fun m11 hJ11 => ?_)
          show Wp g mX12_price _ _ _ 73 _ (_ :: _) _ Q
          refine r_imul dX12_price_73 ?_
          refine r_iload dX12_price_74 rfl ?_
          refine r_aload_n dX12_price_76 rfl ?_
          refine r_iload_n dX12_price_77 rfl ?_
          refine r_iload_n dX12_price_78 rfl ?_
          refine r_iconst (0) dX12_price_79 rfl ?_
          refine r_callV3 (ci := 12) (d1 := 4) (c1 := 0) (n1 := 0) dX12_price_80 mvX12_345 rfl ⟨(Nat.le_of_ble_eq_true rfl), rfl⟩ (Nat.le_of_ble_eq_true rfl) (by exact Nat.le_of_ble_eq_true rfl) (by exact k_167 hJ11.F) ?_
          refine S_oddsOf0 hV hJ11 hv (fun m21 hJ21 => ?_)
          show Wp g mX12_price _ _ _ 83 _ (_ :: _) _ Q
          refine r_imul dX12_price_83 ?_
          refine r_isub dX12_price_84 ?_
          refine r_ireturn dX12_price_85 rfl rfl ?_
          have k9 := k ⟨⟨⟨w11a, w11b⟩, ⟨w22a, w22b⟩⟩, ⟨w33a, w33b⟩, ⟨w45a, w45b⟩⟩ _ hJ21
          rw [bc_cnt _ hV.1.2.2.2.1.2, show nI (nE f) - nI (cnt (strg (rtS f) v 200) (nE f)) - nI (cnt (wiF (rtS f) (strg (rtS f) v 200) x y) (nE f)) = nI (cnt (wiN2 (rtS f) (strg (rtS f) v 200) x y) (nE f)) from pr_eq (cnt_3 (strg (rtS f) v 200) (fun i => decide (x.toInt64 * (rtS f i).toInt64 / 1000 ≤ y.toInt64)) (nE f))] at k9
          exact k9
        ·
          show Wp g mX12_price _ _ _ 48 _ (_ :: _) _ Q
          refine r_if_ne 55 dX12_price_48 rfl (fun hz => absurd hz (by decide)) (fun _ => ?_)
          refine r_iconst (1) dX12_price_51 rfl ?_
          refine r_goto 56 dX12_price_52 rfl ?_
          refine r_iconst (1) dX12_price_56 rfl ?_
          refine r_callV2 (ci := 12) (d1 := 0) (c1 := 0) (n1 := 0) dX12_price_57 mvX12_86 rfl ⟨(Nat.le_of_ble_eq_true rfl), rfl⟩ (Nat.le_of_ble_eq_true rfl) (by exact Nat.le_of_ble_eq_true rfl) (by exact k_167 hJ1.F) ?_
          refine S_bad1 hJ1.F hJ1.2.2 (by decide) ?_
          have hJ2 := hJ1.bad 1
          show Wp g mX12_price _ _ _ 60 _ (_ :: _) _ Q
          refine r_if_eq 65 dX12_price_60 rfl (fun hz => absurd hz (by decide)) (fun _ => ?_)
          refine r_iconst (0) dX12_price_63 rfl ?_
          refine r_ireturn dX12_price_64 rfl rfl ?_
          first | exact kb (fun q => w11 q.1.1) _ hJ2 | exact kb (fun q => w22 q.1.2) _ hJ2 | exact kb (fun q => w33 q.2.1) _ hJ2 | exact kb (fun q => w45 q.2.2) _ hJ2
      ·
        show Wp g mX12_price _ _ _ 36 _ (_ :: _) _ Q
        refine r_if_eq 51 dX12_price_36 rfl (fun _ => ?_) (fun hz => absurd hz (by decide))
        refine r_iconst (1) dX12_price_51 rfl ?_
        refine r_goto 56 dX12_price_52 rfl ?_
        refine r_iconst (1) dX12_price_56 rfl ?_
        refine r_callV2 (ci := 12) (d1 := 0) (c1 := 0) (n1 := 0) dX12_price_57 mvX12_86 rfl ⟨(Nat.le_of_ble_eq_true rfl), rfl⟩ (Nat.le_of_ble_eq_true rfl) (by exact Nat.le_of_ble_eq_true rfl) (by exact k_167 hJ1.F) ?_
        refine S_bad1 hJ1.F hJ1.2.2 (by decide) ?_
        have hJ3 := hJ1.bad 1
        show Wp g mX12_price _ _ _ 60 _ (_ :: _) _ Q
        refine r_if_eq 65 dX12_price_60 rfl (fun hz => absurd hz (by decide)) (fun _ => ?_)
        refine r_iconst (0) dX12_price_63 rfl ?_
        refine r_ireturn dX12_price_64 rfl rfl ?_
        first | exact kb (fun q => w11 q.1.1) _ hJ3 | exact kb (fun q => w22 q.1.2) _ hJ3 | exact kb (fun q => w33 q.2.1) _ hJ3 | exact kb (fun q => w45 q.2.2) _ hJ3
    ·
      show Wp g mX12_price _ _ _ 25 _ (_ :: _) _ Q
      refine r_if_eq 51 dX12_price_25 rfl (fun _ => ?_) (fun hz => absurd hz (by decide))
      refine r_iconst (1) dX12_price_51 rfl ?_
      refine r_goto 56 dX12_price_52 rfl ?_
      refine r_iconst (1) dX12_price_56 rfl ?_
      refine r_callV2 (ci := 12) (d1 := 0) (c1 := 0) (n1 := 0) dX12_price_57 mvX12_86 rfl ⟨(Nat.le_of_ble_eq_true rfl), rfl⟩ (Nat.le_of_ble_eq_true rfl) (by exact Nat.le_of_ble_eq_true rfl) (by exact k_167 hJ1.F) ?_
      refine S_bad1 hJ1.F hJ1.2.2 (by decide) ?_
      have hJ4 := hJ1.bad 1
      show Wp g mX12_price _ _ _ 60 _ (_ :: _) _ Q
      refine r_if_eq 65 dX12_price_60 rfl (fun hz => absurd hz (by decide)) (fun _ => ?_)
      refine r_iconst (0) dX12_price_63 rfl ?_
      refine r_ireturn dX12_price_64 rfl rfl ?_
      first | exact kb (fun q => w11 q.1.1) _ hJ4 | exact kb (fun q => w22 q.1.2) _ hJ4 | exact kb (fun q => w33 q.2.1) _ hJ4 | exact kb (fun q => w45 q.2.2) _ hJ4
  ·
    show Wp g mX12_price _ _ _ 14 _ (_ :: _) _ Q
    refine r_if_eq 51 dX12_price_14 rfl (fun _ => ?_) (fun hz => absurd hz (by decide))
    refine r_iconst (1) dX12_price_51 rfl ?_
    refine r_goto 56 dX12_price_52 rfl ?_
    refine r_iconst (1) dX12_price_56 rfl ?_
    refine r_callV2 (ci := 12) (d1 := 0) (c1 := 0) (n1 := 0) dX12_price_57 mvX12_86 rfl ⟨(Nat.le_of_ble_eq_true rfl), rfl⟩ (Nat.le_of_ble_eq_true rfl) (by exact Nat.le_of_ble_eq_true rfl) (by exact k_167 hJ1.F) ?_
    refine S_bad1 hJ1.F hJ1.2.2 (by decide) ?_
    have hJ5 := hJ1.bad 1
    show Wp g mX12_price _ _ _ 60 _ (_ :: _) _ Q
    refine r_if_eq 65 dX12_price_60 rfl (fun hz => absurd hz (by decide)) (fun _ => ?_)
    refine r_iconst (0) dX12_price_63 rfl ?_
    refine r_ireturn dX12_price_64 rfl rfl ?_
    first | exact kb (fun q => w11 q.1.1) _ hJ5 | exact kb (fun q => w22 q.1.2) _ hJ5 | exact kb (fun q => w33 q.2.1) _ hJ5 | exact kb (fun q => w45 q.2.2) _ hJ5
