theorem S_X12_badBoth {g : GG} {m : MM} {Q : Out → Prop} {f : Nat → Int32} {fs : Nat → Nat → Int32} {ic : Nat} {tp : Nat → Int32} {tn : Nat} {pl : Int32} {n1 n2 : Nat} {ts : Nat → (Nat → Int32) × Nat} {m0 : MM} (hV : Vf f) (hJ : RJ f fs ic tp tn pl n1 n2 ts m0 0 m) {l w : Int32} (ke : f 0 = 0 → Q (.inl (some (.int 1)), stI m 167 0 1)) (kx : ¬ f 0 = 0 → ((l < 0 ∨ nI n1 ≤ l) ∨ (w < 0 ∨ nI n2 ≤ w)) → Q (.inl (some (.int 1)), stI m 167 0 2)) (k : ¬ f 0 = 0 → ∀ j, l = nI j → j < n1 → ∀ i, w = nI i → i < n2 → Q (.inl (some (.int 0)), m)) : Cl g 2 0 0 mX12_badBoth [.ref 167, .int l, .int w] m Q := by
  refine Cl.of rfl (by decide) (Nat.le_of_ble_eq_true rfl) ?_
  show Wp g mX12_badBoth 2 0 0 0 [.ref 167, .int l, .int w] [] m Q
  refine r_aload_n dX12_badBoth_0 rfl ?_
  refine r_aload_n dX12_badBoth_1 rfl ?_
  refine r_getIc (f 0) dX12_badBoth_2 fgX12_90 rfl (by exact k_167 hJ.F) (by exact hJ.g (by omega) l_0) ?_
  refine r_if_ne 12 dX12_badBoth_5 rfl (fun hz => ?_) (fun hz => ?_)
  ·
    refine r_iconst (0) dX12_badBoth_12 rfl ?_
    refine r_iconst (1) dX12_badBoth_13 rfl ?_
    refine r_callV2 (ci := 12) (d1 := 0) (c1 := 0) (n1 := 0) dX12_badBoth_14 mvX12_86 rfl ⟨(Nat.le_of_ble_eq_true rfl), rfl⟩ (Nat.le_of_ble_eq_true rfl) (by exact Nat.le_of_ble_eq_true rfl) (by exact k_167 hJ.F) ?_
    refine S_bad0 hJ.F hJ.2.2 ?_
    show Wp g mX12_badBoth _ _ _ 17 _ (_ :: _) _ Q
    refine r_if_ne 55 dX12_badBoth_17 rfl (fun hz => absurd hz (by decide)) (fun _ => ?_)
    refine r_aload_n dX12_badBoth_20 rfl ?_
    refine r_aload_n dX12_badBoth_21 rfl ?_
    refine r_iload_n dX12_badBoth_22 rfl ?_
    refine r_callV1 (ci := 12) (d1 := 1) (c1 := 0) (n1 := 0) dX12_badBoth_23 mvX12_252 rfl ⟨(Nat.le_of_ble_eq_true rfl), rfl⟩ (Nat.le_of_ble_eq_true rfl) (by exact Nat.le_of_ble_eq_true rfl) (by exact k_167 hJ.F) ?_
    refine S_X12_isLaw hV hJ (fun jl hjl hjln => ?_) (fun l0 => ?_)
    ·
      show Wp g mX12_badBoth _ _ _ 26 _ (_ :: _) _ Q
      refine r_if_eq 43 dX12_badBoth_26 rfl (fun hz => absurd hz (by decide)) (fun _ => ?_)
      refine r_iload_n dX12_badBoth_29 rfl ?_
      refine r_iconst (0) dX12_badBoth_30 rfl ?_
      refine r_aload_n dX12_badBoth_31 rfl ?_
      refine r_getIc (nI n2) dX12_badBoth_32 fgX12_220 rfl (by exact k_167 hJ.F) (by exact hJ.1.2.2.2.2.2.2.1.1) ?_
      refine r_iconst (1) dX12_badBoth_35 rfl ?_
      refine r_isub dX12_badBoth_36 ?_
      refine r_callS3 (d1 := 0) (c1 := 0) (n1 := 0) dX12_badBoth_37 msX12_82 rfl (Nat.le_of_ble_eq_true rfl) (by exact Nat.le_of_ble_eq_true rfl) ?_
      refine S_X12_in (fun w37a w37b => ?_) (fun w37 => ?_)
      ·
        show Wp g mX12_badBoth _ _ _ 40 _ (_ :: _) _ Q
        refine r_if_ne 47 dX12_badBoth_40 rfl (fun _ => ?_) (fun hz => absurd hz (by decide))
        refine r_iconst (0) dX12_badBoth_47 rfl ?_
        refine r_iconst (2) dX12_badBoth_48 rfl ?_
        refine r_callV2 (ci := 12) (d1 := 0) (c1 := 0) (n1 := 0) dX12_badBoth_49 mvX12_86 rfl ⟨(Nat.le_of_ble_eq_true rfl), rfl⟩ (Nat.le_of_ble_eq_true rfl) (by exact Nat.le_of_ble_eq_true rfl) (by exact k_167 hJ.F) ?_
        refine S_bad0 hJ.F hJ.2.2 ?_
        show Wp g mX12_badBoth _ _ _ 52 _ (_ :: _) _ Q
        refine r_if_eq 59 dX12_badBoth_52 rfl (fun _ => ?_) (fun hz => absurd hz (by decide))
        refine r_iconst (0) dX12_badBoth_59 rfl ?_
        refine r_ireturn dX12_badBoth_60 rfl rfl ?_
        obtain ⟨jw, hjwn, hjw⟩ := i32_below (n := n2) (by have := hJ.1.2.2.2.2.2.2.1.2; omega) w37a w37b
        exact k hz jl hjl hjln jw hjw hjwn
      ·
        show Wp g mX12_badBoth _ _ _ 40 _ (_ :: _) _ Q
        refine r_if_ne 47 dX12_badBoth_40 rfl (fun hz => absurd hz (by decide)) (fun _ => ?_)
        refine r_iconst (1) dX12_badBoth_43 rfl ?_
        refine r_goto 48 dX12_badBoth_44 rfl ?_
        refine r_iconst (2) dX12_badBoth_48 rfl ?_
        refine r_callV2 (ci := 12) (d1 := 0) (c1 := 0) (n1 := 0) dX12_badBoth_49 mvX12_86 rfl ⟨(Nat.le_of_ble_eq_true rfl), rfl⟩ (Nat.le_of_ble_eq_true rfl) (by exact Nat.le_of_ble_eq_true rfl) (by exact k_167 hJ.F) ?_
        refine S_bad1 hJ.F hJ.2.2 (by decide) ?_
        show Wp g mX12_badBoth _ _ _ 52 _ (_ :: _) _ Q
        refine r_if_eq 59 dX12_badBoth_52 rfl (fun hz => absurd hz (by decide)) (fun _ => ?_)
        refine r_iconst (1) dX12_badBoth_55 rfl ?_
        refine r_goto 60 dX12_badBoth_56 rfl ?_
        refine r_ireturn dX12_badBoth_60 rfl rfl ?_
        first | exact kx hz (Or.inl l0) | exact kx hz (Or.inr (not_in (by have := hJ.1.2.2.2.2.2.2.1.2; omega) w37))
    ·
      show Wp g mX12_badBoth _ _ _ 26 _ (_ :: _) _ Q
      refine r_if_eq 43 dX12_badBoth_26 rfl (fun _ => ?_) (fun hz => absurd hz (by decide))
      refine r_iconst (1) dX12_badBoth_43 rfl ?_
      refine r_goto 48 dX12_badBoth_44 rfl ?_
      refine r_iconst (2) dX12_badBoth_48 rfl ?_
      refine r_callV2 (ci := 12) (d1 := 0) (c1 := 0) (n1 := 0) dX12_badBoth_49 mvX12_86 rfl ⟨(Nat.le_of_ble_eq_true rfl), rfl⟩ (Nat.le_of_ble_eq_true rfl) (by exact Nat.le_of_ble_eq_true rfl) (by exact k_167 hJ.F) ?_
      refine S_bad1 hJ.F hJ.2.2 (by decide) ?_
      show Wp g mX12_badBoth _ _ _ 52 _ (_ :: _) _ Q
      refine r_if_eq 59 dX12_badBoth_52 rfl (fun hz => absurd hz (by decide)) (fun _ => ?_)
      refine r_iconst (1) dX12_badBoth_55 rfl ?_
      refine r_goto 60 dX12_badBoth_56 rfl ?_
      refine r_ireturn dX12_badBoth_60 rfl rfl ?_
      first | exact kx hz (Or.inl l0) | exact kx hz (Or.inr (not_in (by have := hJ.1.2.2.2.2.2.2.1.2; omega) w37))
  ·
    refine r_iconst (1) dX12_badBoth_8 rfl ?_
    refine r_goto 13 dX12_badBoth_9 rfl ?_
    refine r_iconst (1) dX12_badBoth_13 rfl ?_
    refine r_callV2 (ci := 12) (d1 := 0) (c1 := 0) (n1 := 0) dX12_badBoth_14 mvX12_86 rfl ⟨(Nat.le_of_ble_eq_true rfl), rfl⟩ (Nat.le_of_ble_eq_true rfl) (by exact Nat.le_of_ble_eq_true rfl) (by exact k_167 hJ.F) ?_
    refine S_bad1 hJ.F hJ.2.2 (by decide) ?_
    show Wp g mX12_badBoth _ _ _ 17 _ (_ :: _) _ Q
    refine r_if_ne 55 dX12_badBoth_17 rfl (fun _ => ?_) (fun hz => absurd hz (by decide))
    refine r_iconst (1) dX12_badBoth_55 rfl ?_
    refine r_goto 60 dX12_badBoth_56 rfl ?_
    refine r_ireturn dX12_badBoth_60 rfl rfl ?_
    exact ke hz
theorem S_X12_error {g : GG} {m : MM} {Q : Out → Prop} {f : Nat → Int32} {fs : Nat → Nat → Int32} {ic : Nat} {tp : Nat → Int32} {tn : Nat} {pl : Int32} {n1 n2 : Nat} {ts : Nat → (Nat → Int32) × Nat} {T1 T2 : Nat → TL} (hV : Vf f) (hI : RI f fs ic tp tn pl n1 n2 ts m) (hK : TKs ts n1 T1 n2 T2) {l w x y : Int32} (ke : f 0 = 0 → ∀ m', RJ f fs ic tp tn pl n1 n2 ts m 1 m' → Q (.inl (some (.long 0)), m')) (kx : ¬ f 0 = 0 → ((l < 0 ∨ nI n1 ≤ l) ∨ (w < 0 ∨ nI n2 ≤ w)) → ∀ m', RJ f fs ic tp tn pl n1 n2 ts m 2 m' → Q (.inl (some (.long 0)), m')) (kb : ¬ f 0 = 0 → ∀ j, l = nI j → j < n1 → ∀ i, w = nI i → i < n2 → ¬ ((1 ≤ x ∧ x ≤ 99) ∧ 1 ≤ y ∧ y ≤ 40) → ∀ m', RJ f fs ic tp tn pl n1 n2 ts m 3 m' → Q (.inl (some (.long 0)), m')) (k : ¬ f 0 = 0 → ∀ j, l = nI j → j < n1 → ∀ i, w = nI i → i < n2 → ((1 ≤ x ∧ x ≤ 99) ∧ 1 ≤ y ∧ y ≤ 40) → ∀ m', RJ f fs ic tp tn pl n1 n2 ts m 0 m' → Q (.inl (some (.long (erV f (hH f) (T1 j) (T2 i) x y))), m')) : Cl g 37 0 0 mX12_error [.ref 167, .int l, .int w, .int x, .int y] m Q := by
  refine Cl.of rfl (by decide) (Nat.le_of_ble_eq_true rfl) ?_
  show Wp g mX12_error 37 0 0 0 [.ref 167, .int l, .int w, .int x, .int y] [] m Q
  refine r_aload_n dX12_error_0 rfl ?_
  refine r_iconst (0) dX12_error_1 rfl ?_
  refine r_putI dX12_error_2 (fpX12_79 _ rfl) rfl (by exact k_167 hI.1) ⟨rfl, rfl⟩ ?_
  have hJ1 := hI.go
  refine r_aload_n dX12_error_5 rfl ?_
  refine r_iload_n dX12_error_6 rfl ?_
  refine r_iload_n dX12_error_7 rfl ?_
  refine r_callV2 (ci := 12) (d1 := 2) (c1 := 0) (n1 := 0) dX12_error_8 mvX12_275 rfl ⟨(Nat.le_of_ble_eq_true rfl), rfl⟩ (Nat.le_of_ble_eq_true rfl) (by exact Nat.le_of_ble_eq_true rfl) (by exact k_167 hJ1.F) ?_
  refine S_X12_badBoth hV hJ1 (fun hz => ?_) (fun hz hlw => ?_) (fun hz jl hjl hjln jw hjw hjwn => ?_)
  ·
    have hJ2 := hJ1.bad 1
    show Wp g mX12_error _ _ _ 11 _ (_ :: _) _ Q
    refine r_if_ne 48 dX12_error_11 rfl (fun _ => ?_) (fun hz => absurd hz (by decide))
    refine r_lconst (0) dX12_error_48 rfl ?_
    refine r_lreturn dX12_error_49 rfl ?_
    exact ke hz _ hJ2
  ·
    have hJ2 := hJ1.bad 2
    show Wp g mX12_error _ _ _ 11 _ (_ :: _) _ Q
    refine r_if_ne 48 dX12_error_11 rfl (fun _ => ?_) (fun hz => absurd hz (by decide))
    refine r_lconst (0) dX12_error_48 rfl ?_
    refine r_lreturn dX12_error_49 rfl ?_
    exact kx hz hlw _ hJ2
  ·
    subst hjl hjw
    show Wp g mX12_error _ _ _ 11 _ (_ :: _) _ Q
    refine r_if_ne 48 dX12_error_11 rfl (fun hz => absurd hz (by decide)) (fun _ => ?_)
    refine r_aload_n dX12_error_14 rfl ?_
    refine r_iload_n dX12_error_15 rfl ?_
    refine r_iconst (1) dX12_error_16 rfl ?_
    refine r_bipush (99) dX12_error_17 rfl ?_
    refine r_callS3 (d1 := 0) (c1 := 0) (n1 := 0) dX12_error_19 msX12_82 rfl (Nat.le_of_ble_eq_true rfl) (by exact Nat.le_of_ble_eq_true rfl) ?_
    refine S_X12_in (fun w19a w19b => ?_) (fun w19 => ?_)
    ·
      show Wp g mX12_error _ _ _ 22 _ (_ :: _) _ Q
      refine r_if_eq 36 dX12_error_22 rfl (fun hz => absurd hz (by decide)) (fun _ => ?_)
      refine r_iload dX12_error_25 rfl ?_
      refine r_iconst (1) dX12_error_27 rfl ?_
      refine r_bipush (40) dX12_error_28 rfl ?_
      refine r_callS3 (d1 := 0) (c1 := 0) (n1 := 0) dX12_error_30 msX12_82 rfl (Nat.le_of_ble_eq_true rfl) (by exact Nat.le_of_ble_eq_true rfl) ?_
      refine S_X12_in (fun w30a w30b => ?_) (fun w30 => ?_)
      ·
        show Wp g mX12_error _ _ _ 33 _ (_ :: _) _ Q
        refine r_if_ne 40 dX12_error_33 rfl (fun _ => ?_) (fun hz => absurd hz (by decide))
        refine r_iconst (0) dX12_error_40 rfl ?_
        refine r_iconst (3) dX12_error_41 rfl ?_
        refine r_callV2 (ci := 12) (d1 := 0) (c1 := 0) (n1 := 0) dX12_error_42 mvX12_86 rfl ⟨(Nat.le_of_ble_eq_true rfl), rfl⟩ (Nat.le_of_ble_eq_true rfl) (by exact Nat.le_of_ble_eq_true rfl) (by exact k_167 hJ1.F) ?_
        refine S_bad0 hJ1.F hJ1.2.2 ?_
        show Wp g mX12_error _ _ _ 45 _ (_ :: _) _ Q
        refine r_if_eq 50 dX12_error_45 rfl (fun _ => ?_) (fun hz => absurd hz (by decide))
        refine r_aload_n dX12_error_50 rfl ?_
        refine r_iload_n dX12_error_51 rfl ?_
        refine r_iload_n dX12_error_52 rfl ?_
        refine r_iload_n dX12_error_53 rfl ?_
        refine r_iload dX12_error_54 rfl ?_
        refine r_callV4 (ci := 12) (d1 := 36) (c1 := 0) (n1 := 0) dX12_error_56 mvX12_279 rfl ⟨(Nat.le_of_ble_eq_true rfl), rfl⟩ (Nat.le_of_ble_eq_true rfl) (by exact Nat.le_of_ble_eq_true rfl) (by exact k_167 hJ1.F) ?_
        refine S_errorOf hV hJ1.1 hK hz hjln hjwn (iv_mk w19a w19b) (iv_mk w30a w30b) (fun m9 s9 => ?_)
        have hJ9 := hJ1.sc s9.1 s9.2
        show Wp g mX12_error _ _ _ 59 _ (_ :: _) _ Q
        refine r_lreturn dX12_error_59 rfl ?_
        exact k hz jl rfl hjln jw rfl hjwn ⟨⟨w19a, w19b⟩, ⟨w30a, w30b⟩⟩ _ hJ9
      ·
        show Wp g mX12_error _ _ _ 33 _ (_ :: _) _ Q
        refine r_if_ne 40 dX12_error_33 rfl (fun hz => absurd hz (by decide)) (fun _ => ?_)
        refine r_iconst (1) dX12_error_36 rfl ?_
        refine r_goto 41 dX12_error_37 rfl ?_
        refine r_iconst (3) dX12_error_41 rfl ?_
        refine r_callV2 (ci := 12) (d1 := 0) (c1 := 0) (n1 := 0) dX12_error_42 mvX12_86 rfl ⟨(Nat.le_of_ble_eq_true rfl), rfl⟩ (Nat.le_of_ble_eq_true rfl) (by exact Nat.le_of_ble_eq_true rfl) (by exact k_167 hJ1.F) ?_
        refine S_bad1 hJ1.F hJ1.2.2 (by decide) ?_
        have hJ2 := hJ1.bad 3
        show Wp g mX12_error _ _ _ 45 _ (_ :: _) _ Q
        refine r_if_eq 50 dX12_error_45 rfl (fun hz => absurd hz (by decide)) (fun _ => ?_)
        refine r_lconst (0) dX12_error_48 rfl ?_
        refine r_lreturn dX12_error_49 rfl ?_
        first | exact kb hz jl rfl hjln jw rfl hjwn (fun q => w19 q.1) _ hJ2 | exact kb hz jl rfl hjln jw rfl hjwn (fun q => w30 q.2) _ hJ2
    ·
      show Wp g mX12_error _ _ _ 22 _ (_ :: _) _ Q
      refine r_if_eq 36 dX12_error_22 rfl (fun _ => ?_) (fun hz => absurd hz (by decide))
      refine r_iconst (1) dX12_error_36 rfl ?_
      refine r_goto 41 dX12_error_37 rfl ?_
      refine r_iconst (3) dX12_error_41 rfl ?_
      refine r_callV2 (ci := 12) (d1 := 0) (c1 := 0) (n1 := 0) dX12_error_42 mvX12_86 rfl ⟨(Nat.le_of_ble_eq_true rfl), rfl⟩ (Nat.le_of_ble_eq_true rfl) (by exact Nat.le_of_ble_eq_true rfl) (by exact k_167 hJ1.F) ?_
      refine S_bad1 hJ1.F hJ1.2.2 (by decide) ?_
      have hJ3 := hJ1.bad 3
      show Wp g mX12_error _ _ _ 45 _ (_ :: _) _ Q
      refine r_if_eq 50 dX12_error_45 rfl (fun hz => absurd hz (by decide)) (fun _ => ?_)
      refine r_lconst (0) dX12_error_48 rfl ?_
      refine r_lreturn dX12_error_49 rfl ?_
      first | exact kb hz jl rfl hjln jw rfl hjwn (fun q => w19 q.1) _ hJ3 | exact kb hz jl rfl hjln jw rfl hjwn (fun q => w30 q.2) _ hJ3
theorem bs_1 {f : Nat → Int32} {h : Nat} {T T2 : TL} {v co : Int32} : ∀ i, i < 100 → ¬ (bsF f h T T2 v co (i + 1)).1 = -1
  | 0, _ => by
    have e : bsF f h T T2 v co 1 = (nI (2 + 0), bsT f h T T2 v co 0) := if_pos (Or.inl rfl)
    rw [e]; exact (show ¬ nI (2 + 0) = -1 by decide)
  | i + 1, hi => by
    show ¬ (if (bsF f h T T2 v co (i + 1)).1 = -1 ∨ _ then _ else bsF f h T T2 v co (i + 1) : Int32 × Int64).1 = -1
    split
    · intro q
      have z := congrArg Int32.toInt q
      rw [nI_int _ (by omega)] at z
      have y : (-1 : Int32).toInt = -1 := rfl
      omega
    · exact bs_1 i (by omega)
theorem L_rsize {g : GG} {Q : Out → Prop} {f : Nat → Int32} {fs : Nat → Nat → Int32} {ic : Nat} {tp : Nat → Int32} {tn : Nat} {pl : Int32} {n1 n2 : Nat} {ts : Nat → (Nat → Int32) × Nat} {T1 T2 : Nat → TL} {m0 : MM} (hV : Vf f) (hK : TKs ts n1 T1 n2 T2) (h0 : ¬ f 0 = 0) {l w : Nat} (hl : l < n1) (hw : w < n2) {v co : Int32} (hv : iv 1 99 v) : ∀ (t i : Nat) (m : MM) (be : Int32) (le : Int64) (x9 : Value), i + t = 39 → (i = 0 ∨ (be, le) = bsF f (hH f) (T1 l) (T2 w) v co i) → RJ f fs ic tp tn pl n1 n2 ts m0 0 m → (∀ m be, be = (bsF f (hH f) (T1 l) (T2 w) v co 39).1 → RJ f fs ic tp tn pl n1 n2 ts m0 0 m → ∀ le x8 x9 x10, Wp g mX12_size 37 0 0 127 [.ref 167, .int (nI l), .int (nI w), .int v, .int co, .int be, .long le, .retAddr 0, x8, x9, x10] [] m Q) → ∀ x10, Wp g mX12_size 37 0 0 60 [.ref 167, .int (nI l), .int (nI w), .int v, .int co, .int be, .long le, .retAddr 0, .int (nI (2 + i)), x9, x10] [] m Q := by
  have hx0 := hH_of hV h0
  intro t
  induction t with
  | zero =>
    intro i m be le x9 hi hb hJ kx x10
    obtain rfl : i = 39 := by omega
    have hb := hb.resolve_left (by omega)
    refine r_iload dX12_size_60 rfl ?_
    refine r_bipush (40) dX12_size_62 rfl ?_
    refine r_icmp_gt 127 dX12_size_64 rfl (fun hgt => ?_) (fun hgt => ?_)
    ·
      exact kx m be (congrArg Prod.fst hb) hJ _ _ _ _
    ·
      exact absurd (nI_lt (a := 40) (b := 2 + 39) (by omega) (by omega)) hgt
  | succ t ih =>
    intro i m be le x9 hi hb hJ kx x10
    have ik : iv 1 40 (nI (2 + i)) := by unfold iv; rw [nI_int _ (by omega)]; omega
    refine r_iload dX12_size_60 rfl ?_
    refine r_bipush (40) dX12_size_62 rfl ?_
    refine r_icmp_gt 127 dX12_size_64 rfl (fun hgt => ?_) (fun hgt => ?_)
    ·
      exact absurd hgt (nI_nlt (a := 40) (b := 2 + i) (by omega) (by omega))
    ·
      refine r_aload_n dX12_size_67 rfl ?_
      refine r_iload_n dX12_size_68 rfl ?_
      refine r_iload_n dX12_size_69 rfl ?_
      refine r_iload_n dX12_size_70 rfl ?_
      refine r_iload dX12_size_71 rfl ?_
      refine r_callV4 (ci := 12) (d1 := 36) (c1 := 0) (n1 := 0) dX12_size_73 mvX12_279 rfl ⟨(Nat.le_of_ble_eq_true rfl), rfl⟩ (Nat.le_of_ble_eq_true rfl) (by exact Nat.le_of_ble_eq_true rfl) (by exact k_167 hJ.F) ?_
      refine S_errorOf hV hJ.1 hK h0 hl hw hv ik (fun m1 s1 => ?_)
      have hJ1 := hJ.sc s1.1 s1.2
      show Wp g mX12_size _ _ _ 76 _ (_ :: _) _ Q
      refine r_iload dX12_size_76 rfl ?_
      refine r_i2l dX12_size_78 ?_
      refine r_aload_n dX12_size_79 rfl ?_
      refine r_aload_n dX12_size_80 rfl ?_
      refine r_getRc dX12_size_81 fgX12_52 rfl (by exact k_167 hJ1.F) (by exact r_167_26 hJ1.F) ?_
      refine r_iconst (0) dX12_size_84 rfl ?_
      refine r_ialoadc (nI (hH f)) dX12_size_85 (by exact k_198 hJ1.F) (vin (j := 0) (by omega) (by omega)) (by exact (hJ1.g (by omega) (l_han (i := 0) (by omega))).trans hx0.1) ?_
      refine r_iload dX12_size_86 rfl ?_
      refine r_iconst (0) dX12_size_88 rfl ?_
      refine r_callV3 (ci := 12) (d1 := 0) (c1 := 0) (n1 := 0) dX12_size_89 mvX12_101 rfl ⟨(Nat.le_of_ble_eq_true rfl), rfl⟩ (Nat.le_of_ble_eq_true rfl) (by exact Nat.le_of_ble_eq_true rfl) (by exact k_167 hJ1.F) ?_
      refine S_rmod0 hV hJ1.1 hx0.2 ik ?_
      show Wp g mX12_size _ _ _ 92 _ (_ :: _) _ Q
      refine r_lmul dX12_size_92 ?_
      refine r_ladd dX12_size_93 ?_
      refine sl_9 dX12_size_94 (by first | rfl | assumption) (Nat.le_of_ble_eq_true rfl) ?_
      refine r_iload dX12_size_96 rfl ?_
      refine r_iconst (2) dX12_size_98 rfl ?_
      refine r_icmp_le 113 dX12_size_99 rfl (fun h2 => ?_) (fun h2 => ?_)
      ·
        refine r_iload dX12_size_113 rfl ?_
        refine si_5 dX12_size_115 (by first | rfl | assumption) (Nat.le_of_ble_eq_true rfl) ?_
        refine r_lload dX12_size_117 rfl ?_
        refine sl_6 dX12_size_119 (by first | rfl | assumption) (Nat.le_of_ble_eq_true rfl) ?_
        refine ic_8 (1) dX12_size_121 rfl rfl (Nat.le_of_ble_eq_true rfl) ?_
        refine r_goto 60 dX12_size_124 rfl ?_
        rw [show nI (2 + i) + 1 = nI (2 + (i + 1)) from nI_1 (2 + i)]
        have i0 : i = 0 := by have z := Int32.le_iff_toInt_le.mp h2; rw [nI_int _ (by omega)] at z; have y : (2 : Int32).toInt = 2 := rfl; omega
        have nb : (nI (2 + i), bsT f (hH f) (T1 l) (T2 w) v co i) = bsF f (hH f) (T1 l) (T2 w) v co (i + 1) := by subst i0; exact (if_pos (Or.inl rfl)).symm
        exact ih (i + 1) m1 _ _ _ (by omega) (Or.inr nb) hJ1 kx _
      ·
        refine r_lload dX12_size_102 rfl ?_
        refine r_lload dX12_size_104 rfl ?_
        refine r_lcmp_lt 113 dX12_size_106 dX12_size_107 rfl (fun hc => ?_) (fun hc => ?_)
        ·
          refine r_iload dX12_size_113 rfl ?_
          refine si_5 dX12_size_115 (by first | rfl | assumption) (Nat.le_of_ble_eq_true rfl) ?_
          refine r_lload dX12_size_117 rfl ?_
          refine sl_6 dX12_size_119 (by first | rfl | assumption) (Nat.le_of_ble_eq_true rfl) ?_
          refine ic_8 (1) dX12_size_121 rfl rfl (Nat.le_of_ble_eq_true rfl) ?_
          refine r_goto 60 dX12_size_124 rfl ?_
          rw [show nI (2 + i) + 1 = nI (2 + (i + 1)) from nI_1 (2 + i)]
          have i0 : ¬ i = 0 := fun q => h2 (by rw [q]; decide)
          have hb := hb.resolve_left i0
          have n1x : ¬ (bsF f (hH f) (T1 l) (T2 w) v co i).1 = -1 := by obtain ⟨c, rfl⟩ : ∃ c, i = c + 1 := ⟨i - 1, by omega⟩; exact bs_1 c (by omega)
          have le2 : le = (bsF f (hH f) (T1 l) (T2 w) v co i).2 := congrArg Prod.snd hb
          have nb : (nI (2 + i), bsT f (hH f) (T1 l) (T2 w) v co i) = bsF f (hH f) (T1 l) (T2 w) v co (i + 1) := (if_pos (Or.inr (by rw [← le2]; exact hc))).symm
          exact ih (i + 1) m1 _ _ _ (by omega) (Or.inr nb) hJ1 kx _
        ·
          refine r_goto 121 dX12_size_110 rfl ?_
          refine ic_8 (1) dX12_size_121 rfl rfl (Nat.le_of_ble_eq_true rfl) ?_
          refine r_goto 60 dX12_size_124 rfl ?_
          rw [show nI (2 + i) + 1 = nI (2 + (i + 1)) from nI_1 (2 + i)]
          have i0 : ¬ i = 0 := fun q => h2 (by rw [q]; decide)
          have hb := hb.resolve_left i0
          have n1x : ¬ (bsF f (hH f) (T1 l) (T2 w) v co i).1 = -1 := by obtain ⟨c, rfl⟩ : ∃ c, i = c + 1 := ⟨i - 1, by omega⟩; exact bs_1 c (by omega)
          have le2 : le = (bsF f (hH f) (T1 l) (T2 w) v co i).2 := congrArg Prod.snd hb
          have nb : (be, le) = bsF f (hH f) (T1 l) (T2 w) v co (i + 1) := hb.trans (if_neg (fun q => q.elim n1x (fun z => hc (by rw [le2]; exact z)))).symm
          exact ih (i + 1) m1 _ _ _ (by omega) (Or.inr nb) hJ1 kx _
theorem S_X12_size {g : GG} {m : MM} {Q : Out → Prop} {f : Nat → Int32} {fs : Nat → Nat → Int32} {ic : Nat} {tp : Nat → Int32} {tn : Nat} {pl : Int32} {n1 n2 : Nat} {ts : Nat → (Nat → Int32) × Nat} {T1 T2 : Nat → TL} (hV : Vf f) (hI : RI f fs ic tp tn pl n1 n2 ts m) (hK : TKs ts n1 T1 n2 T2) {l w x y : Int32} (ke : f 0 = 0 → ∀ m', RJ f fs ic tp tn pl n1 n2 ts m 1 m' → Q (.inl (some (.int 0)), m')) (kx : ¬ f 0 = 0 → ((l < 0 ∨ nI n1 ≤ l) ∨ (w < 0 ∨ nI n2 ≤ w)) → ∀ m', RJ f fs ic tp tn pl n1 n2 ts m 2 m' → Q (.inl (some (.int 0)), m')) (kb : ¬ f 0 = 0 → ∀ j, l = nI j → j < n1 → ∀ i, w = nI i → i < n2 → ¬ ((1 ≤ x ∧ x ≤ 99) ∧ 0 ≤ y ∧ y ≤ 9999) → ∀ m', RJ f fs ic tp tn pl n1 n2 ts m 3 m' → Q (.inl (some (.int 0)), m')) (k : ¬ f 0 = 0 → ∀ j, l = nI j → j < n1 → ∀ i, w = nI i → i < n2 → ((1 ≤ x ∧ x ≤ 99) ∧ 0 ≤ y ∧ y ≤ 9999) → ∀ m', RJ f fs ic tp tn pl n1 n2 ts m 0 m' → Q (.inl (some (.int (bsF f (hH f) (T1 j) (T2 i) x y 39).1)), m')) : Cl g 37 0 0 mX12_size [.ref 167, .int l, .int w, .int x, .int y] m Q := by
  refine Cl.of rfl (by decide) (Nat.le_of_ble_eq_true rfl) ?_
  show Wp g mX12_size 37 0 0 0 [.ref 167, .int l, .int w, .int x, .int y, .retAddr 0, .retAddr 0, .retAddr 0, .retAddr 0, .retAddr 0, .retAddr 0] [] m Q
  refine r_aload_n dX12_size_0 rfl ?_
  refine r_iconst (0) dX12_size_1 rfl ?_
  refine r_putI dX12_size_2 (fpX12_79 _ rfl) rfl (by exact k_167 hI.1) ⟨rfl, rfl⟩ ?_
  have hJ1 := hI.go
  refine r_aload_n dX12_size_5 rfl ?_
  refine r_iload_n dX12_size_6 rfl ?_
  refine r_iload_n dX12_size_7 rfl ?_
  refine r_callV2 (ci := 12) (d1 := 2) (c1 := 0) (n1 := 0) dX12_size_8 mvX12_275 rfl ⟨(Nat.le_of_ble_eq_true rfl), rfl⟩ (Nat.le_of_ble_eq_true rfl) (by exact Nat.le_of_ble_eq_true rfl) (by exact k_167 hJ1.F) ?_
  refine S_X12_badBoth hV hJ1 (fun hz => ?_) (fun hz hlw => ?_) (fun hz jl hjl hjln jw hjw hjwn => ?_)
  ·
    have hJ2 := hJ1.bad 1
    show Wp g mX12_size _ _ _ 11 _ (_ :: _) _ Q
    refine r_if_ne 49 dX12_size_11 rfl (fun _ => ?_) (fun hz => absurd hz (by decide))
    refine r_iconst (0) dX12_size_49 rfl ?_
    refine r_ireturn dX12_size_50 rfl rfl ?_
    exact ke hz _ hJ2
  ·
    have hJ2 := hJ1.bad 2
    show Wp g mX12_size _ _ _ 11 _ (_ :: _) _ Q
    refine r_if_ne 49 dX12_size_11 rfl (fun _ => ?_) (fun hz => absurd hz (by decide))
    refine r_iconst (0) dX12_size_49 rfl ?_
    refine r_ireturn dX12_size_50 rfl rfl ?_
    exact kx hz hlw _ hJ2
  ·
    subst hjl hjw
    show Wp g mX12_size _ _ _ 11 _ (_ :: _) _ Q
    refine r_if_ne 49 dX12_size_11 rfl (fun hz => absurd hz (by decide)) (fun _ => ?_)
    refine r_aload_n dX12_size_14 rfl ?_
    refine r_iload_n dX12_size_15 rfl ?_
    refine r_iconst (1) dX12_size_16 rfl ?_
    refine r_bipush (99) dX12_size_17 rfl ?_
    refine r_callS3 (d1 := 0) (c1 := 0) (n1 := 0) dX12_size_19 msX12_82 rfl (Nat.le_of_ble_eq_true rfl) (by exact Nat.le_of_ble_eq_true rfl) ?_
    refine S_X12_in (fun w19a w19b => ?_) (fun w19 => ?_)
    ·
      show Wp g mX12_size _ _ _ 22 _ (_ :: _) _ Q
      refine r_if_eq 37 dX12_size_22 rfl (fun hz => absurd hz (by decide)) (fun _ => ?_)
      refine r_iload dX12_size_25 rfl ?_
      refine r_iconst (0) dX12_size_27 rfl ?_
      refine r_sipush (9999) dX12_size_28 rfl ?_
      refine r_callS3 (d1 := 0) (c1 := 0) (n1 := 0) dX12_size_31 msX12_82 rfl (Nat.le_of_ble_eq_true rfl) (by exact Nat.le_of_ble_eq_true rfl) ?_
      refine S_X12_in (fun w31a w31b => ?_) (fun w31 => ?_)
      ·
        show Wp g mX12_size _ _ _ 34 _ (_ :: _) _ Q
        refine r_if_ne 41 dX12_size_34 rfl (fun _ => ?_) (fun hz => absurd hz (by decide))
        refine r_iconst (0) dX12_size_41 rfl ?_
        refine r_iconst (3) dX12_size_42 rfl ?_
        refine r_callV2 (ci := 12) (d1 := 0) (c1 := 0) (n1 := 0) dX12_size_43 mvX12_86 rfl ⟨(Nat.le_of_ble_eq_true rfl), rfl⟩ (Nat.le_of_ble_eq_true rfl) (by exact Nat.le_of_ble_eq_true rfl) (by exact k_167 hJ1.F) ?_
        refine S_bad0 hJ1.F hJ1.2.2 ?_
        show Wp g mX12_size _ _ _ 46 _ (_ :: _) _ Q
        refine r_if_eq 51 dX12_size_46 rfl (fun _ => ?_) (fun hz => absurd hz (by decide))
        refine r_iconst (2) dX12_size_51 rfl ?_
        refine si_5 dX12_size_52 rfl (Nat.le_of_ble_eq_true rfl) ?_
        refine r_lconst (0) dX12_size_54 rfl ?_
        refine sl_6 dX12_size_55 rfl (Nat.le_of_ble_eq_true rfl) ?_
        refine r_iconst (2) dX12_size_57 rfl ?_
        refine si_8 dX12_size_58 (by first | rfl | assumption) (Nat.le_of_ble_eq_true rfl) ?_
        refine L_rsize hV hK hz hjln hjwn (iv_mk w19a w19b) 39 0 _ _ _ _ (by omega) (Or.inl rfl) hJ1 (fun m9 be hbe hJ9 le x8 x9 x10 => ?_) _
        refine r_iload dX12_size_127 rfl ?_
        refine r_ireturn dX12_size_129 rfl rfl ?_
        rw [hbe]; exact k hz jl rfl hjln jw rfl hjwn ⟨⟨w19a, w19b⟩, ⟨w31a, w31b⟩⟩ _ hJ9
      ·
        show Wp g mX12_size _ _ _ 34 _ (_ :: _) _ Q
        refine r_if_ne 41 dX12_size_34 rfl (fun hz => absurd hz (by decide)) (fun _ => ?_)
        refine r_iconst (1) dX12_size_37 rfl ?_
        refine r_goto 42 dX12_size_38 rfl ?_
        refine r_iconst (3) dX12_size_42 rfl ?_
        refine r_callV2 (ci := 12) (d1 := 0) (c1 := 0) (n1 := 0) dX12_size_43 mvX12_86 rfl ⟨(Nat.le_of_ble_eq_true rfl), rfl⟩ (Nat.le_of_ble_eq_true rfl) (by exact Nat.le_of_ble_eq_true rfl) (by exact k_167 hJ1.F) ?_
        refine S_bad1 hJ1.F hJ1.2.2 (by decide) ?_
        have hJ2 := hJ1.bad 3
        show Wp g mX12_size _ _ _ 46 _ (_ :: _) _ Q
        refine r_if_eq 51 dX12_size_46 rfl (fun hz => absurd hz (by decide)) (fun _ => ?_)
        refine r_iconst (0) dX12_size_49 rfl ?_
        refine r_ireturn dX12_size_50 rfl rfl ?_
        first | exact kb hz jl rfl hjln jw rfl hjwn (fun q => w19 q.1) _ hJ2 | exact kb hz jl rfl hjln jw rfl hjwn (fun q => w31 q.2) _ hJ2
    ·
      show Wp g mX12_size _ _ _ 22 _ (_ :: _) _ Q
      refine r_if_eq 37 dX12_size_22 rfl (fun _ => ?_) (fun hz => absurd hz (by decide))
      refine r_iconst (1) dX12_size_37 rfl ?_
      refine r_goto 42 dX12_size_38 rfl ?_
      refine r_iconst (3) dX12_size_42 rfl ?_
      refine r_callV2 (ci := 12) (d1 := 0) (c1 := 0) (n1 := 0) dX12_size_43 mvX12_86 rfl ⟨(Nat.le_of_ble_eq_true rfl), rfl⟩ (Nat.le_of_ble_eq_true rfl) (by exact Nat.le_of_ble_eq_true rfl) (by exact k_167 hJ1.F) ?_
      refine S_bad1 hJ1.F hJ1.2.2 (by decide) ?_
      have hJ3 := hJ1.bad 3
      show Wp g mX12_size _ _ _ 46 _ (_ :: _) _ Q
      refine r_if_eq 51 dX12_size_46 rfl (fun hz => absurd hz (by decide)) (fun _ => ?_)
      refine r_iconst (0) dX12_size_49 rfl ?_
      refine r_ireturn dX12_size_50 rfl rfl ?_
      first | exact kb hz jl rfl hjln jw rfl hjwn (fun q => w19 q.1) _ hJ3 | exact kb hz jl rfl hjln jw rfl hjwn (fun q => w31 q.2) _ hJ3
theorem S_pullAt0 {g : GG} {m : MM} {Q : Out → Prop} {f : Nat → Int32} {fs : Nat → Nat → Int32} {ic : Nat} {tp : Nat → Int32} {tn : Nat} {pl : Int32} {n1 n2 : Nat} {ts : Nat → (Nat → Int32) × Nat} {T1 T2 : Nat → TL} (hV : Vf f) (hI : RI f fs ic tp tn pl n1 n2 ts m) (hK : TKs ts n1 T1 n2 T2) (h0 : ¬ f 0 = 0) {l : Nat} (hl : l < n1) {k : Int32} (hk : iv 1 40 k) (kk : ∀ m', Sw m m' → Q (.inl (some (.long (PvV f (hH f) (T1 l) (r6 (f 27) k (f 29) (f 30) (f 31) (f 32))))), m')) : Cl g 36 0 0 mX12_pullAt [.ref 167, .int (nI l), .int k, .int 0] m Q := by
  have hF := hI.1
  have hx0 := hH_of hV h0
  obtain ⟨st, hx⟩ := hK.1 l hl
  refine Cl.of rfl (by decide) (Nat.le_of_ble_eq_true rfl) ?_
  show Wp g mX12_pullAt 36 0 0 0 [.ref 167, .int (nI l), .int k, .int 0] [] m Q
  refine r_aload_n dX12_pullAt_0 rfl ?_
  refine r_aload_n dX12_pullAt_1 rfl ?_
  refine r_getRc dX12_pullAt_2 fgX12_52 rfl (by exact k_167 hF) (by exact r_167_26 hF) ?_
  refine r_iconst (0) dX12_pullAt_5 rfl ?_
  refine r_ialoadc (f 27) dX12_pullAt_6 (by exact k_198 hF) (vin (j := 0) (by omega) (by omega)) (by exact hI.2.1.at (by omega) (l_han (i := 0) (by omega))) ?_
  refine r_iload_n dX12_pullAt_7 rfl ?_
  refine r_aload_n dX12_pullAt_8 rfl ?_
  refine r_getRc dX12_pullAt_9 fgX12_52 rfl (by exact k_167 hF) (by exact r_167_26 hF) ?_
  refine r_iconst (2) dX12_pullAt_12 rfl ?_
  refine r_ialoadc (f 29) dX12_pullAt_13 (by exact k_198 hF) (vin (j := 2) (by omega) (by omega)) (by exact hI.2.1.at (by omega) (l_han (i := 2) (by omega))) ?_
  refine r_iload_n dX12_pullAt_14 rfl ?_
  refine r_if_eq 22 dX12_pullAt_15 rfl (fun _ => ?_) (fun hz => absurd hz (by decide))
  refine r_aload_n dX12_pullAt_22 rfl ?_
  refine r_getRc dX12_pullAt_23 fgX12_52 rfl (by exact k_167 hF) (by exact r_167_26 hF) ?_
  refine r_iconst (3) dX12_pullAt_26 rfl ?_
  refine r_ialoadc (f 30) dX12_pullAt_27 (by exact k_198 hF) (vin (j := 3) (by omega) (by omega)) (by exact hI.2.1.at (by omega) (l_han (i := 3) (by omega))) ?_
  refine r_aload_n dX12_pullAt_28 rfl ?_
  refine r_getRc dX12_pullAt_29 fgX12_52 rfl (by exact k_167 hF) (by exact r_167_26 hF) ?_
  refine r_iconst (4) dX12_pullAt_32 rfl ?_
  refine r_ialoadc (f 31) dX12_pullAt_33 (by exact k_198 hF) (vin (j := 4) (by omega) (by omega)) (by exact hI.2.1.at (by omega) (l_han (i := 4) (by omega))) ?_
  refine r_aload_n dX12_pullAt_34 rfl ?_
  refine r_getRc dX12_pullAt_35 fgX12_52 rfl (by exact k_167 hF) (by exact r_167_26 hF) ?_
  refine r_iconst (5) dX12_pullAt_38 rfl ?_
  refine r_ialoadc (f 32) dX12_pullAt_39 (by exact k_198 hF) (vin (j := 5) (by omega) (by omega)) (by exact hI.2.1.at (by omega) (l_han (i := 5) (by omega))) ?_
  refine r_callV6 (ci := 12) (d1 := 1) (c1 := 0) (n1 := 0) dX12_pullAt_40 mvX12_245 rfl ⟨(Nat.le_of_ble_eq_true rfl), rfl⟩ (Nat.le_of_ble_eq_true rfl) (by exact Nat.le_of_ble_eq_true rfl) (by exact k_167 hF) ?_
  rw [hx0.1]
  refine S_tells hV hI hx0.2 hk hV.2.2.2.1.2.2.2.1 hV.2.2.2.1.2.2.2.2.1 (fun m1 s1 n1x => ?_)
  have hF := s1.1.F hI.1
  have hI1 := hI.sc s1.1
  show Wp g mX12_pullAt _ _ _ 43 _ [] _ Q
  refine r_aload_n dX12_pullAt_43 rfl ?_
  refine r_iload_n dX12_pullAt_44 rfl ?_
  refine r_callV1 (ci := 12) (d1 := 35) (c1 := 0) (n1 := 0) dX12_pullAt_45 mvX12_255 rfl ⟨(Nat.le_of_ble_eq_true rfl), rfl⟩ (Nat.le_of_ble_eq_true rfl) (by exact Nat.le_of_ble_eq_true rfl) (by exact k_167 hF) ?_
  refine S_pullOf hI1 hl hx n1x (fun m2 s2 n2x t2x => ?_)
  show Wp g mX12_pullAt _ _ _ 48 _ (_ :: _) _ Q
  refine r_lreturn dX12_pullAt_48 rfl ?_
  have k9 := kk m2 (s1.tr s2)
  rw [hx0.1] at k9; exact k9
theorem S_pullAt1 {g : GG} {m : MM} {Q : Out → Prop} {f : Nat → Int32} {fs : Nat → Nat → Int32} {ic : Nat} {tp : Nat → Int32} {tn : Nat} {pl : Int32} {n1 n2 : Nat} {ts : Nat → (Nat → Int32) × Nat} {T1 T2 : Nat → TL} (hV : Vf f) (hI : RI f fs ic tp tn pl n1 n2 ts m) (hK : TKs ts n1 T1 n2 T2) (h0 : ¬ f 0 = 0) {l : Nat} (hl : l < n1) {k : Int32} (hk : iv 1 40 k) (kk : ∀ m', Sw m m' → Q (.inl (some (.long (PvV f (hH f) (T1 l) (r6 (f 27) k (f 29) (-1) (f 31) (f 32))))), m')) : Cl g 36 0 0 mX12_pullAt [.ref 167, .int (nI l), .int k, .int 1] m Q := by
  have hF := hI.1
  have hx0 := hH_of hV h0
  obtain ⟨st, hx⟩ := hK.1 l hl
  refine Cl.of rfl (by decide) (Nat.le_of_ble_eq_true rfl) ?_
  show Wp g mX12_pullAt 36 0 0 0 [.ref 167, .int (nI l), .int k, .int 1] [] m Q
  refine r_aload_n dX12_pullAt_0 rfl ?_
  refine r_aload_n dX12_pullAt_1 rfl ?_
  refine r_getRc dX12_pullAt_2 fgX12_52 rfl (by exact k_167 hF) (by exact r_167_26 hF) ?_
  refine r_iconst (0) dX12_pullAt_5 rfl ?_
  refine r_ialoadc (f 27) dX12_pullAt_6 (by exact k_198 hF) (vin (j := 0) (by omega) (by omega)) (by exact hI.2.1.at (by omega) (l_han (i := 0) (by omega))) ?_
  refine r_iload_n dX12_pullAt_7 rfl ?_
  refine r_aload_n dX12_pullAt_8 rfl ?_
  refine r_getRc dX12_pullAt_9 fgX12_52 rfl (by exact k_167 hF) (by exact r_167_26 hF) ?_
  refine r_iconst (2) dX12_pullAt_12 rfl ?_
  refine r_ialoadc (f 29) dX12_pullAt_13 (by exact k_198 hF) (vin (j := 2) (by omega) (by omega)) (by exact hI.2.1.at (by omega) (l_han (i := 2) (by omega))) ?_
  refine r_iload_n dX12_pullAt_14 rfl ?_
  refine r_if_eq 22 dX12_pullAt_15 rfl (fun hz => absurd hz (by decide)) (fun _ => ?_)
  refine r_iconst (-1) dX12_pullAt_18 rfl ?_
  refine r_goto 28 dX12_pullAt_19 rfl ?_
  refine r_aload_n dX12_pullAt_28 rfl ?_
  refine r_getRc dX12_pullAt_29 fgX12_52 rfl (by exact k_167 hF) (by exact r_167_26 hF) ?_
  refine r_iconst (4) dX12_pullAt_32 rfl ?_
  refine r_ialoadc (f 31) dX12_pullAt_33 (by exact k_198 hF) (vin (j := 4) (by omega) (by omega)) (by exact hI.2.1.at (by omega) (l_han (i := 4) (by omega))) ?_
  refine r_aload_n dX12_pullAt_34 rfl ?_
  refine r_getRc dX12_pullAt_35 fgX12_52 rfl (by exact k_167 hF) (by exact r_167_26 hF) ?_
  refine r_iconst (5) dX12_pullAt_38 rfl ?_
  refine r_ialoadc (f 32) dX12_pullAt_39 (by exact k_198 hF) (vin (j := 5) (by omega) (by omega)) (by exact hI.2.1.at (by omega) (l_han (i := 5) (by omega))) ?_
  refine r_callV6 (ci := 12) (d1 := 1) (c1 := 0) (n1 := 0) dX12_pullAt_40 mvX12_245 rfl ⟨(Nat.le_of_ble_eq_true rfl), rfl⟩ (Nat.le_of_ble_eq_true rfl) (by exact Nat.le_of_ble_eq_true rfl) (by exact k_167 hF) ?_
  rw [hx0.1]
  refine S_tells hV hI hx0.2 hk (Or.inl rfl) hV.2.2.2.1.2.2.2.2.1 (fun m1 s1 n1x => ?_)
  have hF := s1.1.F hI.1
  have hI1 := hI.sc s1.1
  show Wp g mX12_pullAt _ _ _ 43 _ [] _ Q
  refine r_aload_n dX12_pullAt_43 rfl ?_
  refine r_iload_n dX12_pullAt_44 rfl ?_
  refine r_callV1 (ci := 12) (d1 := 35) (c1 := 0) (n1 := 0) dX12_pullAt_45 mvX12_255 rfl ⟨(Nat.le_of_ble_eq_true rfl), rfl⟩ (Nat.le_of_ble_eq_true rfl) (by exact Nat.le_of_ble_eq_true rfl) (by exact k_167 hF) ?_
  refine S_pullOf hI1 hl hx n1x (fun m2 s2 n2x t2x => ?_)
  show Wp g mX12_pullAt _ _ _ 48 _ (_ :: _) _ Q
  refine r_lreturn dX12_pullAt_48 rfl ?_
  have k9 := kk m2 (s1.tr s2)
  rw [hx0.1] at k9; exact k9
theorem S_X12_sides {g : GG} {m : MM} {Q : Out → Prop} {f : Nat → Int32} {fs : Nat → Nat → Int32} {ic : Nat} {tp : Nat → Int32} {tn : Nat} {pl : Int32} {n1 n2 : Nat} {ts : Nat → (Nat → Int32) × Nat} {T1 T2 : Nat → TL} (hV : Vf f) (hI : RI f fs ic tp tn pl n1 n2 ts m) (hK : TKs ts n1 T1 n2 T2) {l : Int32} (ke : f 0 = 0 → ∀ m', RJ f fs ic tp tn pl n1 n2 ts m 1 m' → Q (.inl (some (.long 0)), m')) (kl : ¬ f 0 = 0 → (l < 0 ∨ nI n1 ≤ l) → ∀ m', RJ f fs ic tp tn pl n1 n2 ts m 2 m' → Q (.inl (some (.long 0)), m')) (k : ¬ f 0 = 0 → ∀ j, l = nI j → j < n1 → ∀ m', RJ f fs ic tp tn pl n1 n2 ts m 0 m' → Q (.inl (some (.long (PvV f (hH f) (T1 j) (hd f) - PvV f (hH f) (T1 j) (r6 (f 27) (f 28) (f 29) (-1) (f 31) (f 32))))), m')) : Cl g 37 0 0 mX12_sides [.ref 167, .int l] m Q := by
  refine Cl.of rfl (by decide) (Nat.le_of_ble_eq_true rfl) ?_
  show Wp g mX12_sides 37 0 0 0 [.ref 167, .int l] [] m Q
  refine r_aload_n dX12_sides_0 rfl ?_
  refine r_iconst (0) dX12_sides_1 rfl ?_
  refine r_putI dX12_sides_2 (fpX12_79 _ rfl) rfl (by exact k_167 hI.1) ⟨rfl, rfl⟩ ?_
  have hJ1 := hI.go
  refine r_aload_n dX12_sides_5 rfl ?_
  refine r_aload_n dX12_sides_6 rfl ?_
  refine r_getIc (f 0) dX12_sides_7 fgX12_90 rfl (by exact k_167 hJ1.F) (by exact hJ1.g (by omega) l_0) ?_
  refine r_if_ne 17 dX12_sides_10 rfl (fun hz => ?_) (fun hz => ?_)
  ·
    refine r_iconst (0) dX12_sides_17 rfl ?_
    refine r_iconst (1) dX12_sides_18 rfl ?_
    refine r_callV2 (ci := 12) (d1 := 0) (c1 := 0) (n1 := 0) dX12_sides_19 mvX12_86 rfl ⟨(Nat.le_of_ble_eq_true rfl), rfl⟩ (Nat.le_of_ble_eq_true rfl) (by exact Nat.le_of_ble_eq_true rfl) (by exact k_167 hJ1.F) ?_
    refine S_bad0 hJ1.F hJ1.2.2 ?_
    show Wp g mX12_sides _ _ _ 22 _ (_ :: _) _ Q
    refine r_if_ne 46 dX12_sides_22 rfl (fun hz => absurd hz (by decide)) (fun _ => ?_)
    refine r_aload_n dX12_sides_25 rfl ?_
    refine r_aload_n dX12_sides_26 rfl ?_
    refine r_iload_n dX12_sides_27 rfl ?_
    refine r_callV1 (ci := 12) (d1 := 1) (c1 := 0) (n1 := 0) dX12_sides_28 mvX12_252 rfl ⟨(Nat.le_of_ble_eq_true rfl), rfl⟩ (Nat.le_of_ble_eq_true rfl) (by exact Nat.le_of_ble_eq_true rfl) (by exact k_167 hJ1.F) ?_
    refine S_X12_isLaw hV hJ1 (fun jl hjl hjln => ?_) (fun l0 => ?_)
    ·
      subst hjl
      show Wp g mX12_sides _ _ _ 31 _ (_ :: _) _ Q
      refine r_if_ne 38 dX12_sides_31 rfl (fun _ => ?_) (fun hz => absurd hz (by decide))
      refine r_iconst (0) dX12_sides_38 rfl ?_
      refine r_iconst (2) dX12_sides_39 rfl ?_
      refine r_callV2 (ci := 12) (d1 := 0) (c1 := 0) (n1 := 0) dX12_sides_40 mvX12_86 rfl ⟨(Nat.le_of_ble_eq_true rfl), rfl⟩ (Nat.le_of_ble_eq_true rfl) (by exact Nat.le_of_ble_eq_true rfl) (by exact k_167 hJ1.F) ?_
      refine S_bad0 hJ1.F hJ1.2.2 ?_
      show Wp g mX12_sides _ _ _ 43 _ (_ :: _) _ Q
      refine r_if_eq 48 dX12_sides_43 rfl (fun _ => ?_) (fun hz => absurd hz (by decide))
      refine r_aload_n dX12_sides_48 rfl ?_
      refine r_iload_n dX12_sides_49 rfl ?_
      refine r_aload_n dX12_sides_50 rfl ?_
      refine r_getRc dX12_sides_51 fgX12_52 rfl (by exact k_167 hJ1.F) (by exact r_167_26 hJ1.F) ?_
      refine r_iconst (1) dX12_sides_54 rfl ?_
      refine r_ialoadc (f 28) dX12_sides_55 (by exact k_198 hJ1.F) (vin (j := 1) (by omega) (by omega)) (by exact hJ1.g (by omega) (l_han (i := 1) (by omega))) ?_
      refine r_iconst (0) dX12_sides_56 rfl ?_
      refine r_callV3 (ci := 12) (d1 := 36) (c1 := 0) (n1 := 0) dX12_sides_57 mvX12_283 rfl ⟨(Nat.le_of_ble_eq_true rfl), rfl⟩ (Nat.le_of_ble_eq_true rfl) (by exact Nat.le_of_ble_eq_true rfl) (by exact k_167 hJ1.F) ?_
      refine S_pullAt0 hV hJ1.1 hK hz hjln hV.2.2.2.1.2.1 (fun m11 s11 => ?_)
      have hJ11 := hJ1.sc s11.1 s11.2
      show Wp g mX12_sides _ _ _ 60 _ (_ :: _) _ Q
      refine r_aload_n dX12_sides_60 rfl ?_
      refine r_iload_n dX12_sides_61 rfl ?_
      refine r_aload_n dX12_sides_62 rfl ?_
      refine r_getRc dX12_sides_63 fgX12_52 rfl (by exact k_167 hJ11.F) (by exact r_167_26 hJ11.F) ?_
      refine r_iconst (1) dX12_sides_66 rfl ?_
      refine r_ialoadc (f 28) dX12_sides_67 (by exact k_198 hJ11.F) (vin (j := 1) (by omega) (by omega)) (by exact hJ11.g (by omega) (l_han (i := 1) (by omega))) ?_
      refine r_iconst (1) dX12_sides_68 rfl ?_
      refine r_callV3 (ci := 12) (d1 := 36) (c1 := 0) (n1 := 0) dX12_sides_69 mvX12_283 rfl ⟨(Nat.le_of_ble_eq_true rfl), rfl⟩ (Nat.le_of_ble_eq_true rfl) (by exact Nat.le_of_ble_eq_true rfl) (by exact k_167 hJ11.F) ?_
      refine S_pullAt1 hV hJ11.1 hK hz hjln hV.2.2.2.1.2.1 (fun m12 s12 => ?_)
      have hJ12 := hJ11.sc s12.1 s12.2
      show Wp g mX12_sides _ _ _ 72 _ (_ :: _) _ Q
      refine r_lsub dX12_sides_72 ?_
      refine r_lreturn dX12_sides_73 rfl ?_
      have k9 := k hz jl rfl hjln _ hJ12
      rw [show PvV f (hH f) (T1 jl) (hd f) = PvV f (hH f) (T1 jl) (r6 (f 27) (f 28) (f 29) (f 30) (f 31) (f 32)) from by unfold PvV; rw [NmH_congr (r := hd f) (r' := r6 (f 27) (f 28) (f 29) (f 30) (f 31) (f 32)) (fun j hj => (hd_r6 j hj).symm)]] at k9; exact k9
    ·
      show Wp g mX12_sides _ _ _ 31 _ (_ :: _) _ Q
      refine r_if_ne 38 dX12_sides_31 rfl (fun hz => absurd hz (by decide)) (fun _ => ?_)
      refine r_iconst (1) dX12_sides_34 rfl ?_
      refine r_goto 39 dX12_sides_35 rfl ?_
      refine r_iconst (2) dX12_sides_39 rfl ?_
      refine r_callV2 (ci := 12) (d1 := 0) (c1 := 0) (n1 := 0) dX12_sides_40 mvX12_86 rfl ⟨(Nat.le_of_ble_eq_true rfl), rfl⟩ (Nat.le_of_ble_eq_true rfl) (by exact Nat.le_of_ble_eq_true rfl) (by exact k_167 hJ1.F) ?_
      refine S_bad1 hJ1.F hJ1.2.2 (by decide) ?_
      have hJ2 := hJ1.bad 2
      show Wp g mX12_sides _ _ _ 43 _ (_ :: _) _ Q
      refine r_if_eq 48 dX12_sides_43 rfl (fun hz => absurd hz (by decide)) (fun _ => ?_)
      refine r_lconst (0) dX12_sides_46 rfl ?_
      refine r_lreturn dX12_sides_47 rfl ?_
      exact kl hz l0 _ hJ2
  ·
    refine r_iconst (1) dX12_sides_13 rfl ?_
    refine r_goto 18 dX12_sides_14 rfl ?_
    refine r_iconst (1) dX12_sides_18 rfl ?_
    refine r_callV2 (ci := 12) (d1 := 0) (c1 := 0) (n1 := 0) dX12_sides_19 mvX12_86 rfl ⟨(Nat.le_of_ble_eq_true rfl), rfl⟩ (Nat.le_of_ble_eq_true rfl) (by exact Nat.le_of_ble_eq_true rfl) (by exact k_167 hJ1.F) ?_
    refine S_bad1 hJ1.F hJ1.2.2 (by decide) ?_
    have hJ3 := hJ1.bad 1
    show Wp g mX12_sides _ _ _ 22 _ (_ :: _) _ Q
    refine r_if_ne 46 dX12_sides_22 rfl (fun _ => ?_) (fun hz => absurd hz (by decide))
    refine r_lconst (0) dX12_sides_46 rfl ?_
    refine r_lreturn dX12_sides_47 rfl ?_
    exact ke hz _ hJ3
