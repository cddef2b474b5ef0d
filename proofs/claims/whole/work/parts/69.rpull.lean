/-- the texts' meanings -/
def TKs (ts : Nat → (Nat → Int32) × Nat) (n1 : Nat) (T1 : Nat → TL) (n2 : Nat) (T2 : Nat → TL) : Prop := (∀ l, l < n1 → ∃ st, texP (ts l).1 (ts l).2 false = .inr (st, T1 l)) ∧ ∀ w, w < n2 → ∃ st, texP (ts (4 + w)).1 (ts (4 + w)).2 true = .inr (st, T2 w)
theorem Sw.n {m m' : MM} (s : Sw m m') : Sc m m' := s.1
theorem S_X12_pull {g : GG} {m : MM} {Q : Out → Prop} {f : Nat → Int32} {fs : Nat → Nat → Int32} {ic : Nat} {tp : Nat → Int32} {tn : Nat} {pl : Int32} {n1 n2 : Nat} {ts : Nat → (Nat → Int32) × Nat} {T1 T2 : Nat → TL} (hV : Vf f) (hI : RI f fs ic tp tn pl n1 n2 ts m) (hK : TKs ts n1 T1 n2 T2) {l x : Int32} (ke : f 0 = 0 → ∀ m', RJ f fs ic tp tn pl n1 n2 ts m 1 m' → Q (.inl (some (.long 0)), m')) (kl : ¬ f 0 = 0 → (l < 0 ∨ nI n1 ≤ l) → ∀ m', RJ f fs ic tp tn pl n1 n2 ts m 2 m' → Q (.inl (some (.long 0)), m')) (kb : ¬ f 0 = 0 → ∀ j, l = nI j → j < n1 → ¬ (0 ≤ x ∧ x ≤ 4) → ∀ m', RJ f fs ic tp tn pl n1 n2 ts m 3 m' → Q (.inl (some (.long 0)), m')) (k : ¬ f 0 = 0 → ∀ j, l = nI j → j < n1 → ∀ i, i < 5 → x = nI i → ∀ m', RJ f fs ic tp tn pl n1 n2 ts m 0 m' → Q (.inl (some (.long (plV f (hH f) (T1 j) i))), m')) : Cl g 36 0 0 mX12_pull [.ref 167, .int l, .int x] m Q := by
  refine Cl.of rfl (by decide) (Nat.le_of_ble_eq_true rfl) ?_
  show Wp g mX12_pull 36 0 0 0 [.ref 167, .int l, .int x, .retAddr 0, .retAddr 0] [] m Q
  refine r_aload_n dX12_pull_0 rfl ?_
  refine r_iconst (0) dX12_pull_1 rfl ?_
  refine r_putI dX12_pull_2 (fpX12_79 _ rfl) rfl (by exact k_167 hI.1) ⟨rfl, rfl⟩ ?_
  have hJ1 := hI.go
  refine r_aload_n dX12_pull_5 rfl ?_
  refine r_aload_n dX12_pull_6 rfl ?_
  refine r_getIc (f 0) dX12_pull_7 fgX12_90 rfl (by exact k_167 hJ1.F) (by exact hJ1.g (by omega) l_0) ?_
  refine r_if_ne 17 dX12_pull_10 rfl (fun hz => ?_) (fun hz => ?_)
  ·
    refine r_iconst (0) dX12_pull_17 rfl ?_
    refine r_iconst (1) dX12_pull_18 rfl ?_
    refine r_callV2 (ci := 12) (d1 := 0) (c1 := 0) (n1 := 0) dX12_pull_19 mvX12_86 rfl ⟨(Nat.le_of_ble_eq_true rfl), rfl⟩ (Nat.le_of_ble_eq_true rfl) (by exact Nat.le_of_ble_eq_true rfl) (by exact k_167 hJ1.F) ?_
    refine S_bad0 hJ1.F hJ1.2.2 ?_
    show Wp g mX12_pull _ _ _ 22 _ (_ :: _) _ Q
    refine r_if_ne 68 dX12_pull_22 rfl (fun hz => absurd hz (by decide)) (fun _ => ?_)
    refine r_aload_n dX12_pull_25 rfl ?_
    refine r_aload_n dX12_pull_26 rfl ?_
    refine r_iload_n dX12_pull_27 rfl ?_
    refine r_callV1 (ci := 12) (d1 := 1) (c1 := 0) (n1 := 0) dX12_pull_28 mvX12_252 rfl ⟨(Nat.le_of_ble_eq_true rfl), rfl⟩ (Nat.le_of_ble_eq_true rfl) (by exact Nat.le_of_ble_eq_true rfl) (by exact k_167 hJ1.F) ?_
    refine S_X12_isLaw hV hJ1 (fun jl hjl hjln => ?_) (fun l0 => ?_)
    ·
      subst hjl
      show Wp g mX12_pull _ _ _ 31 _ (_ :: _) _ Q
      refine r_if_ne 38 dX12_pull_31 rfl (fun _ => ?_) (fun hz => absurd hz (by decide))
      refine r_iconst (0) dX12_pull_38 rfl ?_
      refine r_iconst (2) dX12_pull_39 rfl ?_
      refine r_callV2 (ci := 12) (d1 := 0) (c1 := 0) (n1 := 0) dX12_pull_40 mvX12_86 rfl ⟨(Nat.le_of_ble_eq_true rfl), rfl⟩ (Nat.le_of_ble_eq_true rfl) (by exact Nat.le_of_ble_eq_true rfl) (by exact k_167 hJ1.F) ?_
      refine S_bad0 hJ1.F hJ1.2.2 ?_
      show Wp g mX12_pull _ _ _ 43 _ (_ :: _) _ Q
      refine r_if_ne 68 dX12_pull_43 rfl (fun hz => absurd hz (by decide)) (fun _ => ?_)
      refine r_aload_n dX12_pull_46 rfl ?_
      refine r_iload_n dX12_pull_47 rfl ?_
      refine r_iconst (0) dX12_pull_48 rfl ?_
      refine r_iconst (4) dX12_pull_49 rfl ?_
      refine r_callS3 (d1 := 0) (c1 := 0) (n1 := 0) dX12_pull_50 msX12_82 rfl (Nat.le_of_ble_eq_true rfl) (by exact Nat.le_of_ble_eq_true rfl) ?_
      refine S_X12_in (fun w50a w50b => ?_) (fun w50 => ?_)
      ·
        show Wp g mX12_pull _ _ _ 53 _ (_ :: _) _ Q
        refine r_if_ne 60 dX12_pull_53 rfl (fun _ => ?_) (fun hz => absurd hz (by decide))
        refine r_iconst (0) dX12_pull_60 rfl ?_
        refine r_iconst (3) dX12_pull_61 rfl ?_
        refine r_callV2 (ci := 12) (d1 := 0) (c1 := 0) (n1 := 0) dX12_pull_62 mvX12_86 rfl ⟨(Nat.le_of_ble_eq_true rfl), rfl⟩ (Nat.le_of_ble_eq_true rfl) (by exact Nat.le_of_ble_eq_true rfl) (by exact k_167 hJ1.F) ?_
        refine S_bad0 hJ1.F hJ1.2.2 ?_
        show Wp g mX12_pull _ _ _ 65 _ (_ :: _) _ Q
        refine r_if_eq 70 dX12_pull_65 rfl (fun _ => ?_) (fun hz => absurd hz (by decide))
        refine r_aload_n dX12_pull_70 rfl ?_
        refine r_callV0 (ci := 12) (d1 := 2) (c1 := 0) (n1 := 0) dX12_pull_71 mvX12_249 rfl ⟨(Nat.le_of_ble_eq_true rfl), rfl⟩ (Nat.le_of_ble_eq_true rfl) (by exact Nat.le_of_ble_eq_true rfl) (by exact k_167 hJ1.F) ?_
        obtain ⟨st, hx⟩ := hK.1 jl hjln
        refine S_atHand hV hJ1.1 hz (fun m8 s8 n8 => ?_)
        have hJ8 := hJ1.sc s8.1 s8.2
        show Wp g mX12_pull _ _ _ 74 _ [] _ Q
        obtain ⟨i, hi, rfl⟩ := i32_small 4 (by omega) w50a w50b
        rcases i with _ | _ | _ | _ | _ | i
        ·
          refine r_iload_n dX12_pull_74 rfl ?_
          refine r_if_ne 84 dX12_pull_75 rfl (fun hz => absurd hz (by decide)) (fun _ => ?_)
          refine r_aload_n dX12_pull_78 rfl ?_
          refine r_iload_n dX12_pull_79 rfl ?_
          refine r_callV1 (ci := 12) (d1 := 35) (c1 := 0) (n1 := 0) dX12_pull_80 mvX12_255 rfl ⟨(Nat.le_of_ble_eq_true rfl), rfl⟩ (Nat.le_of_ble_eq_true rfl) (by exact Nat.le_of_ble_eq_true rfl) (by exact k_167 hJ8.F) ?_
          refine S_pullOf hJ8.1 hjln hx n8 (fun m9 s9 n9 t9 => ?_)
          have hJ9 := hJ8.sc s9.1 s9.2
          show Wp g mX12_pull _ _ _ 83 _ (_ :: _) _ Q
          refine r_lreturn dX12_pull_83 rfl ?_
          exact k hz jl rfl hjln 0 (by omega) rfl _ hJ9
        ·
          refine r_iload_n dX12_pull_74 rfl ?_
          refine r_if_ne 84 dX12_pull_75 rfl (fun _ => ?_) (fun hz => absurd hz (by decide))
          refine r_iload_n dX12_pull_84 rfl ?_
          refine r_iconst (4) dX12_pull_85 rfl ?_
          refine r_icmp_ne 95 dX12_pull_86 rfl (fun _ => ?_) (fun hz => absurd hz (by decide))
          refine r_aload_n dX12_pull_95 rfl ?_
          refine r_iload_n dX12_pull_96 rfl ?_
          refine r_callV1 (ci := 12) (d1 := 33) (c1 := 0) (n1 := 0) dX12_pull_97 mvX12_238 rfl ⟨(Nat.le_of_ble_eq_true rfl), rfl⟩ (Nat.le_of_ble_eq_true rfl) (by exact Nat.le_of_ble_eq_true rfl) (by exact k_167 hJ8.F) ?_
          refine S_skinOf hJ8.1 hjln hx n8 (fun m9 s9 n9 t9 => ?_)
          have hJ9 := hJ8.sc s9.1 s9.2
          show Wp g mX12_pull _ _ _ 100 _ (_ :: _) _ Q
          refine sl_3 dX12_pull_100 rfl (Nat.le_of_ble_eq_true rfl) ?_
          refine r_iload_n dX12_pull_101 rfl ?_
          refine r_iconst (1) dX12_pull_102 rfl ?_
          refine r_icmp_ne 110 dX12_pull_103 rfl (fun hz => absurd hz (by decide)) (fun _ => ?_)
          refine r_lload_n dX12_pull_106 rfl ?_
          refine r_goto 130 dX12_pull_107 rfl ?_
          refine r_lreturn dX12_pull_130 rfl ?_
          exact k hz jl rfl hjln 1 (by omega) rfl _ hJ9
        ·
          refine r_iload_n dX12_pull_74 rfl ?_
          refine r_if_ne 84 dX12_pull_75 rfl (fun _ => ?_) (fun hz => absurd hz (by decide))
          refine r_iload_n dX12_pull_84 rfl ?_
          refine r_iconst (4) dX12_pull_85 rfl ?_
          refine r_icmp_ne 95 dX12_pull_86 rfl (fun _ => ?_) (fun hz => absurd hz (by decide))
          refine r_aload_n dX12_pull_95 rfl ?_
          refine r_iload_n dX12_pull_96 rfl ?_
          refine r_callV1 (ci := 12) (d1 := 33) (c1 := 0) (n1 := 0) dX12_pull_97 mvX12_238 rfl ⟨(Nat.le_of_ble_eq_true rfl), rfl⟩ (Nat.le_of_ble_eq_true rfl) (by exact Nat.le_of_ble_eq_true rfl) (by exact k_167 hJ8.F) ?_
          refine S_skinOf hJ8.1 hjln hx n8 (fun m9 s9 n9 t9 => ?_)
          have hJ9 := hJ8.sc s9.1 s9.2
          show Wp g mX12_pull _ _ _ 100 _ (_ :: _) _ Q
          refine sl_3 dX12_pull_100 rfl (Nat.le_of_ble_eq_true rfl) ?_
          refine r_iload_n dX12_pull_101 rfl ?_
          refine r_iconst (1) dX12_pull_102 rfl ?_
          refine r_icmp_ne 110 dX12_pull_103 rfl (fun _ => ?_) (fun hz => absurd hz (by decide))
          refine r_iload_n dX12_pull_110 rfl ?_
          refine r_iconst (2) dX12_pull_111 rfl ?_
          refine r_icmp_ne 124 dX12_pull_112 rfl (fun hz => absurd hz (by decide)) (fun _ => ?_)
          refine r_aload_n dX12_pull_115 rfl ?_
          refine r_getRc dX12_pull_116 fgX12_31 rfl (by exact k_167 hJ9.F) (by exact r_167_17 hJ9.F) ?_
          refine r_iconst (1) dX12_pull_119 rfl ?_
          refine r_laloadc (capT 1 (T1 jl (cut (NmH f (hH f) (hd f))) 1)) dX12_pull_120 (by exact k_179 hJ9.F) (vin (j := 1) (by omega) (by omega)) (by exact t9 1 (by omega)) ?_
          refine r_goto 130 dX12_pull_121 rfl ?_
          refine r_lreturn dX12_pull_130 rfl ?_
          exact k hz jl rfl hjln 2 (by omega) rfl _ hJ9
        ·
          refine r_iload_n dX12_pull_74 rfl ?_
          refine r_if_ne 84 dX12_pull_75 rfl (fun _ => ?_) (fun hz => absurd hz (by decide))
          refine r_iload_n dX12_pull_84 rfl ?_
          refine r_iconst (4) dX12_pull_85 rfl ?_
          refine r_icmp_ne 95 dX12_pull_86 rfl (fun _ => ?_) (fun hz => absurd hz (by decide))
          refine r_aload_n dX12_pull_95 rfl ?_
          refine r_iload_n dX12_pull_96 rfl ?_
          refine r_callV1 (ci := 12) (d1 := 33) (c1 := 0) (n1 := 0) dX12_pull_97 mvX12_238 rfl ⟨(Nat.le_of_ble_eq_true rfl), rfl⟩ (Nat.le_of_ble_eq_true rfl) (by exact Nat.le_of_ble_eq_true rfl) (by exact k_167 hJ8.F) ?_
          refine S_skinOf hJ8.1 hjln hx n8 (fun m9 s9 n9 t9 => ?_)
          have hJ9 := hJ8.sc s9.1 s9.2
          show Wp g mX12_pull _ _ _ 100 _ (_ :: _) _ Q
          refine sl_3 dX12_pull_100 rfl (Nat.le_of_ble_eq_true rfl) ?_
          refine r_iload_n dX12_pull_101 rfl ?_
          refine r_iconst (1) dX12_pull_102 rfl ?_
          refine r_icmp_ne 110 dX12_pull_103 rfl (fun _ => ?_) (fun hz => absurd hz (by decide))
          refine r_iload_n dX12_pull_110 rfl ?_
          refine r_iconst (2) dX12_pull_111 rfl ?_
          refine r_icmp_ne 124 dX12_pull_112 rfl (fun _ => ?_) (fun hz => absurd hz (by decide))
          refine r_aload_n dX12_pull_124 rfl ?_
          refine r_getRc dX12_pull_125 fgX12_31 rfl (by exact k_167 hJ9.F) (by exact r_167_17 hJ9.F) ?_
          refine r_iconst (2) dX12_pull_128 rfl ?_
          refine r_laloadc (capT 2 (T1 jl (cut (NmH f (hH f) (hd f))) 2)) dX12_pull_129 (by exact k_179 hJ9.F) (vin (j := 2) (by omega) (by omega)) (by exact t9 2 (by omega)) ?_
          refine r_lreturn dX12_pull_130 rfl ?_
          exact k hz jl rfl hjln 3 (by omega) rfl _ hJ9
        ·
          refine r_iload_n dX12_pull_74 rfl ?_
          refine r_if_ne 84 dX12_pull_75 rfl (fun _ => ?_) (fun hz => absurd hz (by decide))
          refine r_iload_n dX12_pull_84 rfl ?_
          refine r_iconst (4) dX12_pull_85 rfl ?_
          refine r_icmp_ne 95 dX12_pull_86 rfl (fun hz => absurd hz (by decide)) (fun _ => ?_)
          refine r_aload_n dX12_pull_89 rfl ?_
          refine r_iload_n dX12_pull_90 rfl ?_
          refine r_callV1 (ci := 12) (d1 := 34) (c1 := 0) (n1 := 0) dX12_pull_91 mvX12_242 rfl ⟨(Nat.le_of_ble_eq_true rfl), rfl⟩ (Nat.le_of_ble_eq_true rfl) (by exact Nat.le_of_ble_eq_true rfl) (by exact k_167 hJ8.F) ?_
          refine S_allOf hJ8.1 hjln hx n8 (fun m9 s9 n9 t9 => ?_)
          have hJ9 := hJ8.sc s9.1 s9.2
          show Wp g mX12_pull _ _ _ 94 _ (_ :: _) _ Q
          refine r_lreturn dX12_pull_94 rfl ?_
          exact k hz jl rfl hjln 4 (by omega) rfl _ hJ9
        · omega
      ·
        show Wp g mX12_pull _ _ _ 53 _ (_ :: _) _ Q
        refine r_if_ne 60 dX12_pull_53 rfl (fun hz => absurd hz (by decide)) (fun _ => ?_)
        refine r_iconst (1) dX12_pull_56 rfl ?_
        refine r_goto 61 dX12_pull_57 rfl ?_
        refine r_iconst (3) dX12_pull_61 rfl ?_
        refine r_callV2 (ci := 12) (d1 := 0) (c1 := 0) (n1 := 0) dX12_pull_62 mvX12_86 rfl ⟨(Nat.le_of_ble_eq_true rfl), rfl⟩ (Nat.le_of_ble_eq_true rfl) (by exact Nat.le_of_ble_eq_true rfl) (by exact k_167 hJ1.F) ?_
        refine S_bad1 hJ1.F hJ1.2.2 (by decide) ?_
        have hJ2 := hJ1.bad 3
        show Wp g mX12_pull _ _ _ 65 _ (_ :: _) _ Q
        refine r_if_eq 70 dX12_pull_65 rfl (fun hz => absurd hz (by decide)) (fun _ => ?_)
        refine r_lconst (0) dX12_pull_68 rfl ?_
        refine r_lreturn dX12_pull_69 rfl ?_
        exact kb hz jl rfl hjln w50 _ hJ2
    ·
      show Wp g mX12_pull _ _ _ 31 _ (_ :: _) _ Q
      refine r_if_ne 38 dX12_pull_31 rfl (fun hz => absurd hz (by decide)) (fun _ => ?_)
      refine r_iconst (1) dX12_pull_34 rfl ?_
      refine r_goto 39 dX12_pull_35 rfl ?_
      refine r_iconst (2) dX12_pull_39 rfl ?_
      refine r_callV2 (ci := 12) (d1 := 0) (c1 := 0) (n1 := 0) dX12_pull_40 mvX12_86 rfl ⟨(Nat.le_of_ble_eq_true rfl), rfl⟩ (Nat.le_of_ble_eq_true rfl) (by exact Nat.le_of_ble_eq_true rfl) (by exact k_167 hJ1.F) ?_
      refine S_bad1 hJ1.F hJ1.2.2 (by decide) ?_
      have hJ3 := hJ1.bad 2
      show Wp g mX12_pull _ _ _ 43 _ (_ :: _) _ Q
      refine r_if_ne 68 dX12_pull_43 rfl (fun _ => ?_) (fun hz => absurd hz (by decide))
      refine r_lconst (0) dX12_pull_68 rfl ?_
      refine r_lreturn dX12_pull_69 rfl ?_
      exact kl hz l0 _ hJ3
  ·
    refine r_iconst (1) dX12_pull_13 rfl ?_
    refine r_goto 18 dX12_pull_14 rfl ?_
    refine r_iconst (1) dX12_pull_18 rfl ?_
    refine r_callV2 (ci := 12) (d1 := 0) (c1 := 0) (n1 := 0) dX12_pull_19 mvX12_86 rfl ⟨(Nat.le_of_ble_eq_true rfl), rfl⟩ (Nat.le_of_ble_eq_true rfl) (by exact Nat.le_of_ble_eq_true rfl) (by exact k_167 hJ1.F) ?_
    refine S_bad1 hJ1.F hJ1.2.2 (by decide) ?_
    have hJ4 := hJ1.bad 1
    show Wp g mX12_pull _ _ _ 22 _ (_ :: _) _ Q
    refine r_if_ne 68 dX12_pull_22 rfl (fun _ => ?_) (fun hz => absurd hz (by decide))
    refine r_lconst (0) dX12_pull_68 rfl ?_
    refine r_lreturn dX12_pull_69 rfl ?_
    exact ke hz _ hJ4
theorem sh_nn {k sp : Int32} (hk : iv 1 40 k) (hs : iv 1 99 sp) : 0 ≤ (rtF (k.toInt64 * sp.toInt64 * sp.toInt64)).toInt ∧ wiN (rtF (k.toInt64 * sp.toInt64 * sp.toInt64)) 0 99 = (if 99 < rtF (k.toInt64 * sp.toInt64 * sp.toInt64) then 99 else rtF (k.toInt64 * sp.toInt64 * sp.toInt64)) := by
  have a := t64B (x := k) (A := 40) ⟨by have := hk.1; omega, hk.2⟩
  have c := t64B (x := sp) (A := 99) ⟨by have := hs.1; omega, hs.2⟩
  have p := mulB a c (by omega)
  have q := mulB ⟨p.2.1, p.2.2⟩ c (by omega)
  have r := rtF_sq (v := k.toInt64 * sp.toInt64 * sp.toInt64) q.2.1
  refine ⟨r.1, ?_⟩
  unfold wiN
  rw [if_neg (fun z => by have := Int64.lt_iff_toInt_lt.mp z; have y : (0 : Int64).toInt = 0 := rfl; have := r.1; omega)]
theorem sh_b {k sp : Int32} (hk : iv 1 40 k) (hs : iv 1 99 sp) : 0 ≤ (shS (r6 0 k sp 0 0 0)).toInt ∧ (shS (r6 0 k sp 0 0 0)).toInt ≤ 99 := by
  have := sh_nn hk hs
  show 0 ≤ (if 99 < rtF (k.toInt64 * sp.toInt64 * sp.toInt64) then 99 else rtF (k.toInt64 * sp.toInt64 * sp.toInt64) : Int64).toInt ∧ (if 99 < rtF (k.toInt64 * sp.toInt64 * sp.toInt64) then 99 else rtF (k.toInt64 * sp.toInt64 * sp.toInt64) : Int64).toInt ≤ 99
  split
  · decide
  · rename_i z
    refine ⟨this.1, ?_⟩
    have z2 : ¬ (99 : Int64).toInt < _ := fun w => z (Int64.lt_iff_toInt_lt.mpr w)
    have y : (99 : Int64).toInt = 99 := rfl
    omega
theorem S_shipSpeed {g : GG} {m : MM} {Q : Out → Prop} {k sp : Int32} (hk : iv 1 40 k) (hs : iv 1 99 sp) (kk : Q (.inl (some (.int (shS (r6 0 k sp 0 0 0)).toInt32)), m)) : Cl g 1 0 0 mX12_shipSpeed [.int k, .int sp] m Q := by
  refine Cl.of rfl (by decide) (Nat.le_of_ble_eq_true rfl) ?_
  show Wp g mX12_shipSpeed 1 0 0 0 [.int k, .int sp] [] m Q
  refine r_iload_n dX12_shipSpeed_0 rfl ?_
  refine r_i2l dX12_shipSpeed_1 ?_
  refine r_iload_n dX12_shipSpeed_2 rfl ?_
  refine r_i2l dX12_shipSpeed_3 ?_
  refine r_lmul dX12_shipSpeed_4 ?_
  refine r_iload_n dX12_shipSpeed_5 rfl ?_
  refine r_i2l dX12_shipSpeed_6 ?_
  refine r_lmul dX12_shipSpeed_7 ?_
  refine r_callS1 (d1 := 0) (c1 := 0) (n1 := 0) dX12_shipSpeed_8 msX12_187 rfl (Nat.le_of_ble_eq_true rfl) (by exact Nat.le_of_ble_eq_true rfl) ?_
  refine S_X12_root ?_
  show Wp g mX12_shipSpeed _ _ _ 11 _ (_ :: _) _ Q
  refine r_lconst (0) dX12_shipSpeed_11 rfl ?_
  refine r_ldc2 (99) dX12_shipSpeed_12 ctX12_258 ?_
  refine r_callS3 (d1 := 0) (c1 := 0) (n1 := 0) dX12_shipSpeed_15 msX12_231 rfl (Nat.le_of_ble_eq_true rfl) (by exact Nat.le_of_ble_eq_true rfl) ?_
  refine S_X12_within ?_
  show Wp g mX12_shipSpeed _ _ _ 18 _ (_ :: _) _ Q
  refine r_l2i dX12_shipSpeed_18 ?_
  refine r_ireturn dX12_shipSpeed_19 rfl rfl ?_
  rw [(sh_nn hk hs).2]; exact kk
theorem nd_eq {pl c : Int64} (hp : 0 ≤ pl.toInt ∧ pl.toInt ≤ 1000000000) (hc : 0 ≤ c.toInt ∧ c.toInt ≤ 1000000000) : (0 < pl - c) ↔ ¬ pl ≤ c := by
  have e : (pl - c).toInt = pl.toInt - c.toInt := by rw [Int64.toInt_sub, Int.bmod_eq_of_le (by omega) (by omega)]
  rw [Int64.lt_iff_toInt_lt, Int64.le_iff_toInt_le, e]
  have y : (0 : Int64).toInt = 0 := rfl
  omega
theorem capT_rng {j : Int32} {x : Int64} : 0 ≤ (capT j x).toInt ∧ (capT j x).toInt ≤ 1000000000 := by
  unfold capT
  have y : (0 : Int64).toInt = 0 := rfl
  have y1 : (10000 : Int64).toInt = 10000 := rfl
  have y2 : (1000000000 : Int64).toInt = 1000000000 := rfl
  split
  · omega
  · rename_i z
    have z1 : ¬ x.toInt < (0 : Int64).toInt := fun w => z (Int64.lt_iff_toInt_lt.mpr w)
    by_cases c : j = 4 ∨ j = 3 ∨ j = 7
    · rw [if_pos c]
      split
      · omega
      · rename_i w
        have w1 : ¬ (10000 : Int64).toInt < x.toInt := fun q => w (Int64.lt_iff_toInt_lt.mpr q)
        omega
    · rw [if_neg c]
      split
      · omega
      · rename_i w
        have w1 : ¬ (1000000000 : Int64).toInt < x.toInt := fun q => w (Int64.lt_iff_toInt_lt.mpr q)
        omega
theorem r6_sh {h : Nat} {k sp tk wi mo : Int32} : shS (r6 0 k sp 0 0 0) = shS (r6 (nI h) k sp tk wi mo) := rfl
theorem S_needOf0 {g : GG} {m : MM} {Q : Out → Prop} {f : Nat → Int32} {fs : Nat → Nat → Int32} {ic : Nat} {tp : Nat → Int32} {tn : Nat} {pl : Int32} {n1 n2 : Nat} {ts : Nat → (Nat → Int32) × Nat} {T1 T2 : Nat → TL} (hV : Vf f) (hI : RI f fs ic tp tn pl n1 n2 ts m) (hK : TKs ts n1 T1 n2 T2) {h : Nat} (hh : h < nH f) {k sp tk wi mo : Int32} (hk : iv 1 40 k) (hsp : iv 1 99 sp) (htk : tk = -1 ∨ ∃ t, tk = nI t ∧ t < nT f) (hwi : wi = 0 ∨ wi = 1) {wy : Nat} (hwy : wy < n2) {pv : Int64} (hpv : 0 ≤ pv.toInt ∧ pv.toInt ≤ 1000000000) (kk : ∀ m', Sw m m' → Q (.inl (some (.long (ndR f h (T2 wy) (r6 (nI h) k sp tk wi mo) pv))), m')) : Cl g 33 0 0 mX12_needOf [.ref 167, .int (nI wy), .long pv, .int 0, .int (nI h), .int k, .int sp, .int tk, .int wi, .int mo] m Q := by
  have hF := hI.1
  have h3 := hI.2.2.2.2.2.2.1.2
  obtain ⟨st, hx⟩ := hK.2 wy hwy
  refine Cl.of rfl (by decide) (Nat.le_of_ble_eq_true rfl) ?_
  show Wp g mX12_needOf 33 0 0 0 [.ref 167, .int (nI wy), .long pv, .retAddr 0, .int 0, .int (nI h), .int k, .int sp, .int tk, .int wi, .int mo, .retAddr 0, .retAddr 0, .retAddr 0, .retAddr 0, .retAddr 0, .retAddr 0] [] m Q
  refine r_aload_n dX12_needOf_0 rfl ?_
  refine r_iload dX12_needOf_1 rfl ?_
  refine r_iload dX12_needOf_3 rfl ?_
  refine r_iload dX12_needOf_5 rfl ?_
  refine r_iload dX12_needOf_7 rfl ?_
  refine r_iload dX12_needOf_9 rfl ?_
  refine r_iload dX12_needOf_11 rfl ?_
  refine r_callV6 (ci := 12) (d1 := 1) (c1 := 0) (n1 := 0) dX12_needOf_13 mvX12_245 rfl ⟨(Nat.le_of_ble_eq_true rfl), rfl⟩ (Nat.le_of_ble_eq_true rfl) (by exact Nat.le_of_ble_eq_true rfl) (by exact k_167 hF) ?_
  refine S_tells hV hI hh hk htk hwi (fun m1 s1 n1x => ?_)
  have hF := s1.1.F hI.1
  have hI1 := hI.sc s1.1
  show Wp g mX12_needOf _ _ _ 16 _ [] _ Q
  refine r_aload_n dX12_needOf_16 rfl ?_
  refine r_iconst (4) dX12_needOf_17 rfl ?_
  refine r_iload_n dX12_needOf_18 rfl ?_
  refine r_iadd dX12_needOf_19 ?_
  refine r_callV1 (ci := 12) (d1 := 32) (c1 := 0) (n1 := 0) dX12_needOf_20 mvX12_235 rfl ⟨(Nat.le_of_ble_eq_true rfl), rfl⟩ (Nat.le_of_ble_eq_true rfl) (by exact Nat.le_of_ble_eq_true rfl) (by exact k_167 hF) ?_
  rw [show (4 : Int32) + nI wy = nI (4 + wy) from nI_ad2 (a := 4) (by omega)]
  refine S_asks1 hI1 (l := 4 + wy) (by omega) hx n1x (fun m2 s2 n2x t2x => ?_)
  have hF := s2.1.F hI1.1
  have hI2 := hI1.sc s2.1
  show Wp g mX12_needOf _ _ _ 23 _ [] _ Q
  refine r_lload_n dX12_needOf_23 rfl ?_
  refine r_aload_n dX12_needOf_24 rfl ?_
  refine r_getRc dX12_needOf_25 fgX12_31 rfl (by exact k_167 hF) (by exact r_167_17 hF) ?_
  refine r_iconst (5) dX12_needOf_28 rfl ?_
  refine r_laloadc (capT 5 (T2 wy (cut (NmH f h (r6 (nI h) k sp tk wi mo))) 5)) dX12_needOf_29 (by exact k_179 hF) (vin (j := 5) (by omega) (by omega)) (by exact t2x 5 (by omega)) ?_
  refine r_lcmp_le 45 dX12_needOf_30 dX12_needOf_31 rfl (fun hc => ?_) (fun hc => ?_)
  ·
    refine r_lconst (0) dX12_needOf_45 rfl ?_
    rw [show (0 : Int64) = ndR f h (T2 wy) (r6 (nI h) k sp tk wi mo) pv from (if_neg (fun q => (nd_eq hpv capT_rng).mp q hc)).symm]
    refine sl_11 dX12_needOf_46 (by first | rfl | assumption) (Nat.le_of_ble_eq_true rfl) ?_
    refine r_lload dX12_needOf_48 rfl ?_
    refine r_iload dX12_needOf_50 rfl ?_
    refine r_i2l dX12_needOf_52 ?_
    refine r_lmul dX12_needOf_53 ?_
    refine r_iload dX12_needOf_54 rfl ?_
    refine r_i2l dX12_needOf_56 ?_
    refine r_lmul dX12_needOf_57 ?_
    refine r_iload dX12_needOf_58 rfl ?_
    refine r_i2l dX12_needOf_60 ?_
    refine r_lmul dX12_needOf_61 ?_
    refine sl_13 dX12_needOf_62 (by first | rfl | assumption) (Nat.le_of_ble_eq_true rfl) ?_
    refine r_iload dX12_needOf_64 rfl ?_
    refine r_iconst (2) dX12_needOf_66 rfl ?_
    refine r_icmp_ge 83 dX12_needOf_67 rfl (fun hz => absurd hz (by decide)) (fun _ => ?_)
    refine r_iload dX12_needOf_70 rfl ?_
    refine r_if_ne 80 dX12_needOf_72 rfl (fun hz => absurd hz (by decide)) (fun _ => ?_)
    refine r_lload dX12_needOf_75 rfl ?_
    refine r_goto 82 dX12_needOf_77 rfl ?_
    refine r_lreturn dX12_needOf_82 rfl ?_
    exact kk m2 (s1.tr s2)
  ·
    refine r_lload_n dX12_needOf_34 rfl ?_
    refine r_aload_n dX12_needOf_35 rfl ?_
    refine r_getRc dX12_needOf_36 fgX12_31 rfl (by exact k_167 hF) (by exact r_167_17 hF) ?_
    refine r_iconst (5) dX12_needOf_39 rfl ?_
    refine r_laloadc (capT 5 (T2 wy (cut (NmH f h (r6 (nI h) k sp tk wi mo))) 5)) dX12_needOf_40 (by exact k_179 hF) (vin (j := 5) (by omega) (by omega)) (by exact t2x 5 (by omega)) ?_
    refine r_lsub dX12_needOf_41 ?_
    refine r_goto 46 dX12_needOf_42 rfl ?_
    rw [show pv - capT 5 (T2 wy (cut (NmH f h (r6 (nI h) k sp tk wi mo))) 5) = ndR f h (T2 wy) (r6 (nI h) k sp tk wi mo) pv from (if_pos ((nd_eq hpv capT_rng).mpr hc)).symm]
    refine sl_11 dX12_needOf_46 (by first | rfl | assumption) (Nat.le_of_ble_eq_true rfl) ?_
    refine r_lload dX12_needOf_48 rfl ?_
    refine r_iload dX12_needOf_50 rfl ?_
    refine r_i2l dX12_needOf_52 ?_
    refine r_lmul dX12_needOf_53 ?_
    refine r_iload dX12_needOf_54 rfl ?_
    refine r_i2l dX12_needOf_56 ?_
    refine r_lmul dX12_needOf_57 ?_
    refine r_iload dX12_needOf_58 rfl ?_
    refine r_i2l dX12_needOf_60 ?_
    refine r_lmul dX12_needOf_61 ?_
    refine sl_13 dX12_needOf_62 (by first | rfl | assumption) (Nat.le_of_ble_eq_true rfl) ?_
    refine r_iload dX12_needOf_64 rfl ?_
    refine r_iconst (2) dX12_needOf_66 rfl ?_
    refine r_icmp_ge 83 dX12_needOf_67 rfl (fun hz => absurd hz (by decide)) (fun _ => ?_)
    refine r_iload dX12_needOf_70 rfl ?_
    refine r_if_ne 80 dX12_needOf_72 rfl (fun hz => absurd hz (by decide)) (fun _ => ?_)
    refine r_lload dX12_needOf_75 rfl ?_
    refine r_goto 82 dX12_needOf_77 rfl ?_
    refine r_lreturn dX12_needOf_82 rfl ?_
    exact kk m2 (s1.tr s2)
theorem S_needOf1 {g : GG} {m : MM} {Q : Out → Prop} {f : Nat → Int32} {fs : Nat → Nat → Int32} {ic : Nat} {tp : Nat → Int32} {tn : Nat} {pl : Int32} {n1 n2 : Nat} {ts : Nat → (Nat → Int32) × Nat} {T1 T2 : Nat → TL} (hV : Vf f) (hI : RI f fs ic tp tn pl n1 n2 ts m) (hK : TKs ts n1 T1 n2 T2) {h : Nat} (hh : h < nH f) {k sp tk wi mo : Int32} (hk : iv 1 40 k) (hsp : iv 1 99 sp) (htk : tk = -1 ∨ ∃ t, tk = nI t ∧ t < nT f) (hwi : wi = 0 ∨ wi = 1) {wy : Nat} (hwy : wy < n2) {pv : Int64} (hpv : 0 ≤ pv.toInt ∧ pv.toInt ≤ 1000000000) (kk : ∀ m', Sw m m' → Q (.inl (some (.long (ndG f h (T2 wy) (r6 (nI h) k sp tk wi mo) pv))), m')) : Cl g 33 0 0 mX12_needOf [.ref 167, .int (nI wy), .long pv, .int 1, .int (nI h), .int k, .int sp, .int tk, .int wi, .int mo] m Q := by
  have hF := hI.1
  have h3 := hI.2.2.2.2.2.2.1.2
  obtain ⟨st, hx⟩ := hK.2 wy hwy
  refine Cl.of rfl (by decide) (Nat.le_of_ble_eq_true rfl) ?_
  show Wp g mX12_needOf 33 0 0 0 [.ref 167, .int (nI wy), .long pv, .retAddr 0, .int 1, .int (nI h), .int k, .int sp, .int tk, .int wi, .int mo, .retAddr 0, .retAddr 0, .retAddr 0, .retAddr 0, .retAddr 0, .retAddr 0] [] m Q
  refine r_aload_n dX12_needOf_0 rfl ?_
  refine r_iload dX12_needOf_1 rfl ?_
  refine r_iload dX12_needOf_3 rfl ?_
  refine r_iload dX12_needOf_5 rfl ?_
  refine r_iload dX12_needOf_7 rfl ?_
  refine r_iload dX12_needOf_9 rfl ?_
  refine r_iload dX12_needOf_11 rfl ?_
  refine r_callV6 (ci := 12) (d1 := 1) (c1 := 0) (n1 := 0) dX12_needOf_13 mvX12_245 rfl ⟨(Nat.le_of_ble_eq_true rfl), rfl⟩ (Nat.le_of_ble_eq_true rfl) (by exact Nat.le_of_ble_eq_true rfl) (by exact k_167 hF) ?_
  refine S_tells hV hI hh hk htk hwi (fun m1 s1 n1x => ?_)
  have hF := s1.1.F hI.1
  have hI1 := hI.sc s1.1
  show Wp g mX12_needOf _ _ _ 16 _ [] _ Q
  refine r_aload_n dX12_needOf_16 rfl ?_
  refine r_iconst (4) dX12_needOf_17 rfl ?_
  refine r_iload_n dX12_needOf_18 rfl ?_
  refine r_iadd dX12_needOf_19 ?_
  refine r_callV1 (ci := 12) (d1 := 32) (c1 := 0) (n1 := 0) dX12_needOf_20 mvX12_235 rfl ⟨(Nat.le_of_ble_eq_true rfl), rfl⟩ (Nat.le_of_ble_eq_true rfl) (by exact Nat.le_of_ble_eq_true rfl) (by exact k_167 hF) ?_
  rw [show (4 : Int32) + nI wy = nI (4 + wy) from nI_ad2 (a := 4) (by omega)]
  refine S_asks1 hI1 (l := 4 + wy) (by omega) hx n1x (fun m2 s2 n2x t2x => ?_)
  have hF := s2.1.F hI1.1
  have hI2 := hI1.sc s2.1
  show Wp g mX12_needOf _ _ _ 23 _ [] _ Q
  refine r_lload_n dX12_needOf_23 rfl ?_
  refine r_aload_n dX12_needOf_24 rfl ?_
  refine r_getRc dX12_needOf_25 fgX12_31 rfl (by exact k_167 hF) (by exact r_167_17 hF) ?_
  refine r_iconst (5) dX12_needOf_28 rfl ?_
  refine r_laloadc (capT 5 (T2 wy (cut (NmH f h (r6 (nI h) k sp tk wi mo))) 5)) dX12_needOf_29 (by exact k_179 hF) (vin (j := 5) (by omega) (by omega)) (by exact t2x 5 (by omega)) ?_
  refine r_lcmp_le 45 dX12_needOf_30 dX12_needOf_31 rfl (fun hc => ?_) (fun hc => ?_)
  ·
    refine r_lconst (0) dX12_needOf_45 rfl ?_
    rw [show (0 : Int64) = ndR f h (T2 wy) (r6 (nI h) k sp tk wi mo) pv from (if_neg (fun q => (nd_eq hpv capT_rng).mp q hc)).symm]
    refine sl_11 dX12_needOf_46 (by first | rfl | assumption) (Nat.le_of_ble_eq_true rfl) ?_
    refine r_lload dX12_needOf_48 rfl ?_
    refine r_iload dX12_needOf_50 rfl ?_
    refine r_i2l dX12_needOf_52 ?_
    refine r_lmul dX12_needOf_53 ?_
    refine r_iload dX12_needOf_54 rfl ?_
    refine r_i2l dX12_needOf_56 ?_
    refine r_lmul dX12_needOf_57 ?_
    refine r_iload dX12_needOf_58 rfl ?_
    refine r_i2l dX12_needOf_60 ?_
    refine r_lmul dX12_needOf_61 ?_
    refine sl_13 dX12_needOf_62 (by first | rfl | assumption) (Nat.le_of_ble_eq_true rfl) ?_
    refine r_iload dX12_needOf_64 rfl ?_
    refine r_iconst (2) dX12_needOf_66 rfl ?_
    refine r_icmp_ge 83 dX12_needOf_67 rfl (fun hz => absurd hz (by decide)) (fun _ => ?_)
    refine r_iload dX12_needOf_70 rfl ?_
    refine r_if_ne 80 dX12_needOf_72 rfl (fun _ => ?_) (fun hz => absurd hz (by decide))
    refine r_lload dX12_needOf_80 rfl ?_
    refine r_lreturn dX12_needOf_82 rfl ?_
    exact kk m2 (s1.tr s2)
  ·
    refine r_lload_n dX12_needOf_34 rfl ?_
    refine r_aload_n dX12_needOf_35 rfl ?_
    refine r_getRc dX12_needOf_36 fgX12_31 rfl (by exact k_167 hF) (by exact r_167_17 hF) ?_
    refine r_iconst (5) dX12_needOf_39 rfl ?_
    refine r_laloadc (capT 5 (T2 wy (cut (NmH f h (r6 (nI h) k sp tk wi mo))) 5)) dX12_needOf_40 (by exact k_179 hF) (vin (j := 5) (by omega) (by omega)) (by exact t2x 5 (by omega)) ?_
    refine r_lsub dX12_needOf_41 ?_
    refine r_goto 46 dX12_needOf_42 rfl ?_
    rw [show pv - capT 5 (T2 wy (cut (NmH f h (r6 (nI h) k sp tk wi mo))) 5) = ndR f h (T2 wy) (r6 (nI h) k sp tk wi mo) pv from (if_pos ((nd_eq hpv capT_rng).mpr hc)).symm]
    refine sl_11 dX12_needOf_46 (by first | rfl | assumption) (Nat.le_of_ble_eq_true rfl) ?_
    refine r_lload dX12_needOf_48 rfl ?_
    refine r_iload dX12_needOf_50 rfl ?_
    refine r_i2l dX12_needOf_52 ?_
    refine r_lmul dX12_needOf_53 ?_
    refine r_iload dX12_needOf_54 rfl ?_
    refine r_i2l dX12_needOf_56 ?_
    refine r_lmul dX12_needOf_57 ?_
    refine r_iload dX12_needOf_58 rfl ?_
    refine r_i2l dX12_needOf_60 ?_
    refine r_lmul dX12_needOf_61 ?_
    refine sl_13 dX12_needOf_62 (by first | rfl | assumption) (Nat.le_of_ble_eq_true rfl) ?_
    refine r_iload dX12_needOf_64 rfl ?_
    refine r_iconst (2) dX12_needOf_66 rfl ?_
    refine r_icmp_ge 83 dX12_needOf_67 rfl (fun hz => absurd hz (by decide)) (fun _ => ?_)
    refine r_iload dX12_needOf_70 rfl ?_
    refine r_if_ne 80 dX12_needOf_72 rfl (fun _ => ?_) (fun hz => absurd hz (by decide))
    refine r_lload dX12_needOf_80 rfl ?_
    refine r_lreturn dX12_needOf_82 rfl ?_
    exact kk m2 (s1.tr s2)
theorem S_needOf2 {g : GG} {m : MM} {Q : Out → Prop} {f : Nat → Int32} {fs : Nat → Nat → Int32} {ic : Nat} {tp : Nat → Int32} {tn : Nat} {pl : Int32} {n1 n2 : Nat} {ts : Nat → (Nat → Int32) × Nat} {T1 T2 : Nat → TL} (hV : Vf f) (hI : RI f fs ic tp tn pl n1 n2 ts m) (hK : TKs ts n1 T1 n2 T2) {h : Nat} (hh : h < nH f) {k sp tk wi mo : Int32} (hk : iv 1 40 k) (hsp : iv 1 99 sp) (htk : tk = -1 ∨ ∃ t, tk = nI t ∧ t < nT f) (hwi : wi = 0 ∨ wi = 1) {wy : Nat} (hwy : wy < n2) {pv : Int64} (hpv : 0 ≤ pv.toInt ∧ pv.toInt ≤ 1000000000) (kk : ∀ m', Sw m m' → Q (.inl (some (.long (ndV f h (T2 wy) (r6 (nI h) k sp tk wi mo) pv))), m')) : Cl g 33 0 0 mX12_needOf [.ref 167, .int (nI wy), .long pv, .int 2, .int (nI h), .int k, .int sp, .int tk, .int wi, .int mo] m Q := by
  have hF := hI.1
  have h3 := hI.2.2.2.2.2.2.1.2
  obtain ⟨st, hx⟩ := hK.2 wy hwy
  refine Cl.of rfl (by decide) (Nat.le_of_ble_eq_true rfl) ?_
  show Wp g mX12_needOf 33 0 0 0 [.ref 167, .int (nI wy), .long pv, .retAddr 0, .int 2, .int (nI h), .int k, .int sp, .int tk, .int wi, .int mo, .retAddr 0, .retAddr 0, .retAddr 0, .retAddr 0, .retAddr 0, .retAddr 0] [] m Q
  refine r_aload_n dX12_needOf_0 rfl ?_
  refine r_iload dX12_needOf_1 rfl ?_
  refine r_iload dX12_needOf_3 rfl ?_
  refine r_iload dX12_needOf_5 rfl ?_
  refine r_iload dX12_needOf_7 rfl ?_
  refine r_iload dX12_needOf_9 rfl ?_
  refine r_iload dX12_needOf_11 rfl ?_
  refine r_callV6 (ci := 12) (d1 := 1) (c1 := 0) (n1 := 0) dX12_needOf_13 mvX12_245 rfl ⟨(Nat.le_of_ble_eq_true rfl), rfl⟩ (Nat.le_of_ble_eq_true rfl) (by exact Nat.le_of_ble_eq_true rfl) (by exact k_167 hF) ?_
  refine S_tells hV hI hh hk htk hwi (fun m1 s1 n1x => ?_)
  have hF := s1.1.F hI.1
  have hI1 := hI.sc s1.1
  show Wp g mX12_needOf _ _ _ 16 _ [] _ Q
  refine r_aload_n dX12_needOf_16 rfl ?_
  refine r_iconst (4) dX12_needOf_17 rfl ?_
  refine r_iload_n dX12_needOf_18 rfl ?_
  refine r_iadd dX12_needOf_19 ?_
  refine r_callV1 (ci := 12) (d1 := 32) (c1 := 0) (n1 := 0) dX12_needOf_20 mvX12_235 rfl ⟨(Nat.le_of_ble_eq_true rfl), rfl⟩ (Nat.le_of_ble_eq_true rfl) (by exact Nat.le_of_ble_eq_true rfl) (by exact k_167 hF) ?_
  rw [show (4 : Int32) + nI wy = nI (4 + wy) from nI_ad2 (a := 4) (by omega)]
  refine S_asks1 hI1 (l := 4 + wy) (by omega) hx n1x (fun m2 s2 n2x t2x => ?_)
  have hF := s2.1.F hI1.1
  have hI2 := hI1.sc s2.1
  show Wp g mX12_needOf _ _ _ 23 _ [] _ Q
  refine r_lload_n dX12_needOf_23 rfl ?_
  refine r_aload_n dX12_needOf_24 rfl ?_
  refine r_getRc dX12_needOf_25 fgX12_31 rfl (by exact k_167 hF) (by exact r_167_17 hF) ?_
  refine r_iconst (5) dX12_needOf_28 rfl ?_
  refine r_laloadc (capT 5 (T2 wy (cut (NmH f h (r6 (nI h) k sp tk wi mo))) 5)) dX12_needOf_29 (by exact k_179 hF) (vin (j := 5) (by omega) (by omega)) (by exact t2x 5 (by omega)) ?_
  refine r_lcmp_le 45 dX12_needOf_30 dX12_needOf_31 rfl (fun hc => ?_) (fun hc => ?_)
  ·
    refine r_lconst (0) dX12_needOf_45 rfl ?_
    rw [show (0 : Int64) = ndR f h (T2 wy) (r6 (nI h) k sp tk wi mo) pv from (if_neg (fun q => (nd_eq hpv capT_rng).mp q hc)).symm]
    refine sl_11 dX12_needOf_46 (by first | rfl | assumption) (Nat.le_of_ble_eq_true rfl) ?_
    refine r_lload dX12_needOf_48 rfl ?_
    refine r_iload dX12_needOf_50 rfl ?_
    refine r_i2l dX12_needOf_52 ?_
    refine r_lmul dX12_needOf_53 ?_
    refine r_iload dX12_needOf_54 rfl ?_
    refine r_i2l dX12_needOf_56 ?_
    refine r_lmul dX12_needOf_57 ?_
    refine r_iload dX12_needOf_58 rfl ?_
    refine r_i2l dX12_needOf_60 ?_
    refine r_lmul dX12_needOf_61 ?_
    refine sl_13 dX12_needOf_62 (by first | rfl | assumption) (Nat.le_of_ble_eq_true rfl) ?_
    refine r_iload dX12_needOf_64 rfl ?_
    refine r_iconst (2) dX12_needOf_66 rfl ?_
    refine r_icmp_ge 83 dX12_needOf_67 rfl (fun _ => ?_) (fun hz => absurd hz (by decide))
    refine r_aload_n dX12_needOf_83 rfl ?_
    refine r_iload dX12_needOf_84 rfl ?_
    refine r_iconst (1) dX12_needOf_86 rfl ?_
    refine r_iload dX12_needOf_87 rfl ?_
    refine r_iload dX12_needOf_89 rfl ?_
    refine r_callS2 (d1 := 1) (c1 := 0) (n1 := 0) dX12_needOf_91 msX12_260 rfl (Nat.le_of_ble_eq_true rfl) (by exact Nat.le_of_ble_eq_true rfl) ?_
    refine S_shipSpeed hk hsp ?_
    show Wp g mX12_needOf _ _ _ 94 _ (_ :: _) _ Q
    refine r_iconst (-1) dX12_needOf_94 rfl ?_
    refine r_iconst (0) dX12_needOf_95 rfl ?_
    refine r_iload dX12_needOf_96 rfl ?_
    refine r_callV6 (ci := 12) (d1 := 1) (c1 := 0) (n1 := 0) dX12_needOf_98 mvX12_245 rfl ⟨(Nat.le_of_ble_eq_true rfl), rfl⟩ (Nat.le_of_ble_eq_true rfl) (by exact Nat.le_of_ble_eq_true rfl) (by exact k_167 hF) ?_
    rw [r6_sh (h := h) (tk := tk) (wi := wi) (mo := mo)]
    refine S_tells hV hI2 hh (k := 1) ⟨by decide, by decide⟩ (Or.inl rfl) (Or.inl rfl) (fun m3 s3 n3x => ?_)
    have hF := s3.1.F hI2.1
    have hI3 := hI2.sc s3.1
    show Wp g mX12_needOf _ _ _ 101 _ [] _ Q
    refine r_aload_n dX12_needOf_101 rfl ?_
    refine r_iconst (4) dX12_needOf_102 rfl ?_
    refine r_iload_n dX12_needOf_103 rfl ?_
    refine r_iadd dX12_needOf_104 ?_
    refine r_callV1 (ci := 12) (d1 := 32) (c1 := 0) (n1 := 0) dX12_needOf_105 mvX12_235 rfl ⟨(Nat.le_of_ble_eq_true rfl), rfl⟩ (Nat.le_of_ble_eq_true rfl) (by exact Nat.le_of_ble_eq_true rfl) (by exact k_167 hF) ?_
    rw [show (4 : Int32) + nI wy = nI (4 + wy) from nI_ad2 (a := 4) (by omega)]
    refine S_asks1 hI3 (l := 4 + wy) (by omega) hx n3x (fun m4 s4 n4x t4x => ?_)
    have hF := s4.1.F hI3.1
    show Wp g mX12_needOf _ _ _ 108 _ [] _ Q
    refine r_lload dX12_needOf_108 rfl ?_
    refine r_aload_n dX12_needOf_110 rfl ?_
    refine r_getRc dX12_needOf_111 fgX12_31 rfl (by exact k_167 hF) (by exact r_167_17 hF) ?_
    refine r_bipush (6) dX12_needOf_114 rfl ?_
    refine r_laloadc (capT 6 (T2 wy (cut (NmH f h (shR (r6 (nI h) k sp tk wi mo)))) 6)) dX12_needOf_116 (by exact k_179 hF) (vin (j := 6) (by omega) (by omega)) (by exact t4x 6 (by omega)) ?_
    refine r_ladd dX12_needOf_117 ?_
    refine sl_15 dX12_needOf_118 (by first | rfl | assumption) (Nat.le_of_ble_eq_true rfl) ?_
    refine r_lload dX12_needOf_120 rfl ?_
    refine r_lload dX12_needOf_122 rfl ?_
    refine r_aload_n dX12_needOf_124 rfl ?_
    refine r_getRc dX12_needOf_125 fgX12_31 rfl (by exact k_167 hF) (by exact r_167_17 hF) ?_
    refine r_bipush (7) dX12_needOf_128 rfl ?_
    refine r_laloadc (capT 7 (T2 wy (cut (NmH f h (shR (r6 (nI h) k sp tk wi mo)))) 7)) dX12_needOf_130 (by exact k_179 hF) (vin (j := 7) (by omega) (by omega)) (by exact t4x 7 (by omega)) ?_
    refine r_lmul dX12_needOf_131 ?_
    refine r_ldc2 (100) dX12_needOf_132 ctX12_97 ?_
    refine r_ldiv dX12_needOf_135 (by decide) ?_
    refine r_ladd dX12_needOf_136 ?_
    refine r_lreturn dX12_needOf_137 rfl ?_
    exact kk m4 (((s1.tr s2).tr s3).tr s4)
  ·
    refine r_lload_n dX12_needOf_34 rfl ?_
    refine r_aload_n dX12_needOf_35 rfl ?_
    refine r_getRc dX12_needOf_36 fgX12_31 rfl (by exact k_167 hF) (by exact r_167_17 hF) ?_
    refine r_iconst (5) dX12_needOf_39 rfl ?_
    refine r_laloadc (capT 5 (T2 wy (cut (NmH f h (r6 (nI h) k sp tk wi mo))) 5)) dX12_needOf_40 (by exact k_179 hF) (vin (j := 5) (by omega) (by omega)) (by exact t2x 5 (by omega)) ?_
    refine r_lsub dX12_needOf_41 ?_
    refine r_goto 46 dX12_needOf_42 rfl ?_
    rw [show pv - capT 5 (T2 wy (cut (NmH f h (r6 (nI h) k sp tk wi mo))) 5) = ndR f h (T2 wy) (r6 (nI h) k sp tk wi mo) pv from (if_pos ((nd_eq hpv capT_rng).mpr hc)).symm]
    refine sl_11 dX12_needOf_46 (by first | rfl | assumption) (Nat.le_of_ble_eq_true rfl) ?_
    refine r_lload dX12_needOf_48 rfl ?_
    refine r_iload dX12_needOf_50 rfl ?_
    refine r_i2l dX12_needOf_52 ?_
    refine r_lmul dX12_needOf_53 ?_
    refine r_iload dX12_needOf_54 rfl ?_
    refine r_i2l dX12_needOf_56 ?_
    refine r_lmul dX12_needOf_57 ?_
    refine r_iload dX12_needOf_58 rfl ?_
    refine r_i2l dX12_needOf_60 ?_
    refine r_lmul dX12_needOf_61 ?_
    refine sl_13 dX12_needOf_62 (by first | rfl | assumption) (Nat.le_of_ble_eq_true rfl) ?_
    refine r_iload dX12_needOf_64 rfl ?_
    refine r_iconst (2) dX12_needOf_66 rfl ?_
    refine r_icmp_ge 83 dX12_needOf_67 rfl (fun _ => ?_) (fun hz => absurd hz (by decide))
    refine r_aload_n dX12_needOf_83 rfl ?_
    refine r_iload dX12_needOf_84 rfl ?_
    refine r_iconst (1) dX12_needOf_86 rfl ?_
    refine r_iload dX12_needOf_87 rfl ?_
    refine r_iload dX12_needOf_89 rfl ?_
    refine r_callS2 (d1 := 1) (c1 := 0) (n1 := 0) dX12_needOf_91 msX12_260 rfl (Nat.le_of_ble_eq_true rfl) (by exact Nat.le_of_ble_eq_true rfl) ?_
    refine S_shipSpeed hk hsp ?_
    show Wp g mX12_needOf _ _ _ 94 _ (_ :: _) _ Q
    refine r_iconst (-1) dX12_needOf_94 rfl ?_
    refine r_iconst (0) dX12_needOf_95 rfl ?_
    refine r_iload dX12_needOf_96 rfl ?_
    refine r_callV6 (ci := 12) (d1 := 1) (c1 := 0) (n1 := 0) dX12_needOf_98 mvX12_245 rfl ⟨(Nat.le_of_ble_eq_true rfl), rfl⟩ (Nat.le_of_ble_eq_true rfl) (by exact Nat.le_of_ble_eq_true rfl) (by exact k_167 hF) ?_
    rw [r6_sh (h := h) (tk := tk) (wi := wi) (mo := mo)]
    refine S_tells hV hI2 hh (k := 1) ⟨by decide, by decide⟩ (Or.inl rfl) (Or.inl rfl) (fun m3 s3 n3x => ?_)
    have hF := s3.1.F hI2.1
    have hI3 := hI2.sc s3.1
    show Wp g mX12_needOf _ _ _ 101 _ [] _ Q
    refine r_aload_n dX12_needOf_101 rfl ?_
    refine r_iconst (4) dX12_needOf_102 rfl ?_
    refine r_iload_n dX12_needOf_103 rfl ?_
    refine r_iadd dX12_needOf_104 ?_
    refine r_callV1 (ci := 12) (d1 := 32) (c1 := 0) (n1 := 0) dX12_needOf_105 mvX12_235 rfl ⟨(Nat.le_of_ble_eq_true rfl), rfl⟩ (Nat.le_of_ble_eq_true rfl) (by exact Nat.le_of_ble_eq_true rfl) (by exact k_167 hF) ?_
    rw [show (4 : Int32) + nI wy = nI (4 + wy) from nI_ad2 (a := 4) (by omega)]
    refine S_asks1 hI3 (l := 4 + wy) (by omega) hx n3x (fun m4 s4 n4x t4x => ?_)
    have hF := s4.1.F hI3.1
    show Wp g mX12_needOf _ _ _ 108 _ [] _ Q
    refine r_lload dX12_needOf_108 rfl ?_
    refine r_aload_n dX12_needOf_110 rfl ?_
    refine r_getRc dX12_needOf_111 fgX12_31 rfl (by exact k_167 hF) (by exact r_167_17 hF) ?_
    refine r_bipush (6) dX12_needOf_114 rfl ?_
    refine r_laloadc (capT 6 (T2 wy (cut (NmH f h (shR (r6 (nI h) k sp tk wi mo)))) 6)) dX12_needOf_116 (by exact k_179 hF) (vin (j := 6) (by omega) (by omega)) (by exact t4x 6 (by omega)) ?_
    refine r_ladd dX12_needOf_117 ?_
    refine sl_15 dX12_needOf_118 (by first | rfl | assumption) (Nat.le_of_ble_eq_true rfl) ?_
    refine r_lload dX12_needOf_120 rfl ?_
    refine r_lload dX12_needOf_122 rfl ?_
    refine r_aload_n dX12_needOf_124 rfl ?_
    refine r_getRc dX12_needOf_125 fgX12_31 rfl (by exact k_167 hF) (by exact r_167_17 hF) ?_
    refine r_bipush (7) dX12_needOf_128 rfl ?_
    refine r_laloadc (capT 7 (T2 wy (cut (NmH f h (shR (r6 (nI h) k sp tk wi mo)))) 7)) dX12_needOf_130 (by exact k_179 hF) (vin (j := 7) (by omega) (by omega)) (by exact t4x 7 (by omega)) ?_
    refine r_lmul dX12_needOf_131 ?_
    refine r_ldc2 (100) dX12_needOf_132 ctX12_97 ?_
    refine r_ldiv dX12_needOf_135 (by decide) ?_
    refine r_ladd dX12_needOf_136 ?_
    refine r_lreturn dX12_needOf_137 rfl ?_
    exact kk m4 (((s1.tr s2).tr s3).tr s4)
theorem nm_hd {f : Nat → Int32} {h : Nat} (e : f 27 = nI h) : NmH f h (hd f) = NmH f h (r6 (nI h) (f 28) (f 29) (f 30) (f 31) (f 32)) := NmH_congr (fun j hj => by rw [← e]; exact (hd_r6 j hj).symm)
theorem nd_hd0 {f : Nat → Int32} {h : Nat} {T : TL} {p : Int64} (e : f 27 = nI h) : ndR f h T (hd f) p = ndR f h T (r6 (nI h) (f 28) (f 29) (f 30) (f 31) (f 32)) p := by unfold ndR; rw [nm_hd e]
theorem nd_hd1 {f : Nat → Int32} {h : Nat} {T : TL} {p : Int64} (e : f 27 = nI h) : ndG f h T (hd f) p = ndG f h T (r6 (nI h) (f 28) (f 29) (f 30) (f 31) (f 32)) p := by unfold ndG; rw [nd_hd0 e]; rfl
theorem nd_hd2 {f : Nat → Int32} {h : Nat} {T : TL} {p : Int64} (e : f 27 = nI h) : ndV f h T (hd f) p = ndV f h T (r6 (nI h) (f 28) (f 29) (f 30) (f 31) (f 32)) p := by
  have s : NmH f h (shR (hd f)) = NmH f h (shR (r6 (nI h) (f 28) (f 29) (f 30) (f 31) (f 32))) := rfl
  unfold ndV ndA; rw [nd_hd1 e, s]
theorem S_X12_need {g : GG} {m : MM} {Q : Out → Prop} {f : Nat → Int32} {fs : Nat → Nat → Int32} {ic : Nat} {tp : Nat → Int32} {tn : Nat} {pl : Int32} {n1 n2 : Nat} {ts : Nat → (Nat → Int32) × Nat} {T1 T2 : Nat → TL} (hV : Vf f) (hI : RI f fs ic tp tn pl n1 n2 ts m) (hK : TKs ts n1 T1 n2 T2) {w y x : Int32} (ke : f 0 = 0 → ∀ m', RJ f fs ic tp tn pl n1 n2 ts m 1 m' → Q (.inl (some (.long 0)), m')) (kw : ¬ f 0 = 0 → (w < 0 ∨ nI n2 ≤ w) → ∀ m', RJ f fs ic tp tn pl n1 n2 ts m 2 m' → Q (.inl (some (.long 0)), m')) (kb : ¬ f 0 = 0 → ∀ j, w = nI j → j < n2 → ¬ ((0 ≤ y ∧ y ≤ 1000000000) ∧ 0 ≤ x ∧ x ≤ 3) → ∀ m', RJ f fs ic tp tn pl n1 n2 ts m 3 m' → Q (.inl (some (.long 0)), m')) (k : ¬ f 0 = 0 → ∀ j, w = nI j → j < n2 → (0 ≤ y ∧ y ≤ 1000000000) → ∀ i, i < 4 → x = nI i → ∀ m', RJ f fs ic tp tn pl n1 n2 ts m 0 m' → Q (.inl (some (.long (neV f (hH f) (T2 j) y.toInt64 i))), m')) : Cl g 34 0 0 mX12_need [.ref 167, .int w, .int y, .int x] m Q := by
  refine Cl.of rfl (by decide) (Nat.le_of_ble_eq_true rfl) ?_
  show Wp g mX12_need 34 0 0 0 [.ref 167, .int w, .int y, .int x] [] m Q
  refine r_aload_n dX12_need_0 rfl ?_
  refine r_iconst (0) dX12_need_1 rfl ?_
  refine r_putI dX12_need_2 (fpX12_79 _ rfl) rfl (by exact k_167 hI.1) ⟨rfl, rfl⟩ ?_
  have hJ1 := hI.go
  refine r_aload_n dX12_need_5 rfl ?_
  refine r_aload_n dX12_need_6 rfl ?_
  refine r_getIc (f 0) dX12_need_7 fgX12_90 rfl (by exact k_167 hJ1.F) (by exact hJ1.g (by omega) l_0) ?_
  refine r_if_ne 17 dX12_need_10 rfl (fun hz => ?_) (fun hz => ?_)
  ·
    refine r_iconst (0) dX12_need_17 rfl ?_
    refine r_iconst (1) dX12_need_18 rfl ?_
    refine r_callV2 (ci := 12) (d1 := 0) (c1 := 0) (n1 := 0) dX12_need_19 mvX12_86 rfl ⟨(Nat.le_of_ble_eq_true rfl), rfl⟩ (Nat.le_of_ble_eq_true rfl) (by exact Nat.le_of_ble_eq_true rfl) (by exact k_167 hJ1.F) ?_
    refine S_bad0 hJ1.F hJ1.2.2 ?_
    show Wp g mX12_need _ _ _ 22 _ (_ :: _) _ Q
    refine r_if_ne 85 dX12_need_22 rfl (fun hz => absurd hz (by decide)) (fun _ => ?_)
    refine r_aload_n dX12_need_25 rfl ?_
    refine r_iload_n dX12_need_26 rfl ?_
    refine r_iconst (0) dX12_need_27 rfl ?_
    refine r_aload_n dX12_need_28 rfl ?_
    refine r_getIc (nI n2) dX12_need_29 fgX12_220 rfl (by exact k_167 hJ1.F) (by exact hJ1.1.2.2.2.2.2.2.1.1) ?_
    refine r_iconst (1) dX12_need_32 rfl ?_
    refine r_isub dX12_need_33 ?_
    refine r_callS3 (d1 := 0) (c1 := 0) (n1 := 0) dX12_need_34 msX12_82 rfl (Nat.le_of_ble_eq_true rfl) (by exact Nat.le_of_ble_eq_true rfl) ?_
    refine S_X12_in (fun w34a w34b => ?_) (fun w34 => ?_)
    ·
      show Wp g mX12_need _ _ _ 37 _ (_ :: _) _ Q
      refine r_if_ne 44 dX12_need_37 rfl (fun _ => ?_) (fun hz => absurd hz (by decide))
      refine r_iconst (0) dX12_need_44 rfl ?_
      refine r_iconst (2) dX12_need_45 rfl ?_
      refine r_callV2 (ci := 12) (d1 := 0) (c1 := 0) (n1 := 0) dX12_need_46 mvX12_86 rfl ⟨(Nat.le_of_ble_eq_true rfl), rfl⟩ (Nat.le_of_ble_eq_true rfl) (by exact Nat.le_of_ble_eq_true rfl) (by exact k_167 hJ1.F) ?_
      refine S_bad0 hJ1.F hJ1.2.2 ?_
      show Wp g mX12_need _ _ _ 49 _ (_ :: _) _ Q
      refine r_if_ne 85 dX12_need_49 rfl (fun hz => absurd hz (by decide)) (fun _ => ?_)
      refine r_aload_n dX12_need_52 rfl ?_
      refine r_iload_n dX12_need_53 rfl ?_
      refine r_iconst (0) dX12_need_54 rfl ?_
      refine r_ldcw (1000000000) dX12_need_55 ctX12_264 ?_
      refine r_callS3 (d1 := 0) (c1 := 0) (n1 := 0) dX12_need_58 msX12_82 rfl (Nat.le_of_ble_eq_true rfl) (by exact Nat.le_of_ble_eq_true rfl) ?_
      refine S_X12_in (fun w58a w58b => ?_) (fun w58 => ?_)
      ·
        show Wp g mX12_need _ _ _ 61 _ (_ :: _) _ Q
        refine r_if_eq 73 dX12_need_61 rfl (fun hz => absurd hz (by decide)) (fun _ => ?_)
        refine r_iload_n dX12_need_64 rfl ?_
        refine r_iconst (0) dX12_need_65 rfl ?_
        refine r_iconst (3) dX12_need_66 rfl ?_
        refine r_callS3 (d1 := 0) (c1 := 0) (n1 := 0) dX12_need_67 msX12_82 rfl (Nat.le_of_ble_eq_true rfl) (by exact Nat.le_of_ble_eq_true rfl) ?_
        refine S_X12_in (fun w67a w67b => ?_) (fun w67 => ?_)
        ·
          show Wp g mX12_need _ _ _ 70 _ (_ :: _) _ Q
          refine r_if_ne 77 dX12_need_70 rfl (fun _ => ?_) (fun hz => absurd hz (by decide))
          refine r_iconst (0) dX12_need_77 rfl ?_
          refine r_iconst (3) dX12_need_78 rfl ?_
          refine r_callV2 (ci := 12) (d1 := 0) (c1 := 0) (n1 := 0) dX12_need_79 mvX12_86 rfl ⟨(Nat.le_of_ble_eq_true rfl), rfl⟩ (Nat.le_of_ble_eq_true rfl) (by exact Nat.le_of_ble_eq_true rfl) (by exact k_167 hJ1.F) ?_
          refine S_bad0 hJ1.F hJ1.2.2 ?_
          show Wp g mX12_need _ _ _ 82 _ (_ :: _) _ Q
          refine r_if_eq 87 dX12_need_82 rfl (fun _ => ?_) (fun hz => absurd hz (by decide))
          obtain ⟨wy, hjw, rfl⟩ := i32_below (n := n2) (by have := hI.2.2.2.2.2.2.1.2; omega) w34a w34b
          have hx0 := hH_of hV hz
          obtain ⟨i, hi, rfl⟩ := i32_small 3 (by omega) w67a w67b
          rcases i with _ | _ | _ | _ | i
          ·
            refine r_iload_n dX12_need_87 rfl ?_
            refine r_iconst (3) dX12_need_88 rfl ?_
            refine r_icmp_ne 109 dX12_need_89 rfl (fun _ => ?_) (fun hz => absurd hz (by decide))
            refine r_aload_n dX12_need_109 rfl ?_
            refine r_iload_n dX12_need_110 rfl ?_
            refine r_iload_n dX12_need_111 rfl ?_
            refine r_i2l dX12_need_112 ?_
            refine r_iload_n dX12_need_113 rfl ?_
            refine r_aload_n dX12_need_114 rfl ?_
            refine r_getRc dX12_need_115 fgX12_52 rfl (by exact k_167 hJ1.F) (by exact r_167_26 hJ1.F) ?_
            refine r_iconst (0) dX12_need_118 rfl ?_
            refine r_ialoadc (f 27) dX12_need_119 (by exact k_198 hJ1.F) (vin (j := 0) (by omega) (by omega)) (by exact hJ1.g (by omega) (l_han (i := 0) (by omega))) ?_
            refine r_aload_n dX12_need_120 rfl ?_
            refine r_getRc dX12_need_121 fgX12_52 rfl (by exact k_167 hJ1.F) (by exact r_167_26 hJ1.F) ?_
            refine r_iconst (1) dX12_need_124 rfl ?_
            refine r_ialoadc (f 28) dX12_need_125 (by exact k_198 hJ1.F) (vin (j := 1) (by omega) (by omega)) (by exact hJ1.g (by omega) (l_han (i := 1) (by omega))) ?_
            refine r_aload_n dX12_need_126 rfl ?_
            refine r_getRc dX12_need_127 fgX12_52 rfl (by exact k_167 hJ1.F) (by exact r_167_26 hJ1.F) ?_
            refine r_iconst (2) dX12_need_130 rfl ?_
            refine r_ialoadc (f 29) dX12_need_131 (by exact k_198 hJ1.F) (vin (j := 2) (by omega) (by omega)) (by exact hJ1.g (by omega) (l_han (i := 2) (by omega))) ?_
            refine r_aload_n dX12_need_132 rfl ?_
            refine r_getRc dX12_need_133 fgX12_52 rfl (by exact k_167 hJ1.F) (by exact r_167_26 hJ1.F) ?_
            refine r_iconst (3) dX12_need_136 rfl ?_
            refine r_ialoadc (f 30) dX12_need_137 (by exact k_198 hJ1.F) (vin (j := 3) (by omega) (by omega)) (by exact hJ1.g (by omega) (l_han (i := 3) (by omega))) ?_
            refine r_aload_n dX12_need_138 rfl ?_
            refine r_getRc dX12_need_139 fgX12_52 rfl (by exact k_167 hJ1.F) (by exact r_167_26 hJ1.F) ?_
            refine r_iconst (4) dX12_need_142 rfl ?_
            refine r_ialoadc (f 31) dX12_need_143 (by exact k_198 hJ1.F) (vin (j := 4) (by omega) (by omega)) (by exact hJ1.g (by omega) (l_han (i := 4) (by omega))) ?_
            refine r_aload_n dX12_need_144 rfl ?_
            refine r_getRc dX12_need_145 fgX12_52 rfl (by exact k_167 hJ1.F) (by exact r_167_26 hJ1.F) ?_
            refine r_iconst (5) dX12_need_148 rfl ?_
            refine r_ialoadc (f 32) dX12_need_149 (by exact k_198 hJ1.F) (vin (j := 5) (by omega) (by omega)) (by exact hJ1.g (by omega) (l_han (i := 5) (by omega))) ?_
            refine r_callV9 (ci := 12) (d1 := 33) (c1 := 0) (n1 := 0) dX12_need_150 mvX12_265 rfl ⟨(Nat.le_of_ble_eq_true rfl), rfl⟩ (Nat.le_of_ble_eq_true rfl) (by exact Nat.le_of_ble_eq_true rfl) (by exact k_167 hJ1.F) ?_
            rw [hx0.1]
            refine S_needOf0 hV hJ1.1 hK hx0.2 hV.2.2.2.1.2.1 hV.2.2.2.1.2.2.1 hV.2.2.2.1.2.2.2.1 hV.2.2.2.1.2.2.2.2.1 hjw (by rw [Int32.toInt_toInt64]; exact iv_mk w58a w58b) (fun m9 s9 => ?_)
            have hJ9 := hJ1.sc s9.1 s9.2
            show Wp g mX12_need _ _ _ 153 _ (_ :: _) _ Q
            refine r_lreturn dX12_need_153 rfl ?_
            have k9 := k hz wy rfl hjw ⟨w58a, w58b⟩ 0 (by omega) rfl m9 hJ9
            rw [show neV f (hH f) (T2 wy) y.toInt64 0 = ndR f (hH f) (T2 wy) (r6 (nI (hH f)) (f 28) (f 29) (f 30) (f 31) (f 32)) y.toInt64 from nd_hd0 hx0.1] at k9; exact k9
          ·
            refine r_iload_n dX12_need_87 rfl ?_
            refine r_iconst (3) dX12_need_88 rfl ?_
            refine r_icmp_ne 109 dX12_need_89 rfl (fun _ => ?_) (fun hz => absurd hz (by decide))
            refine r_aload_n dX12_need_109 rfl ?_
            refine r_iload_n dX12_need_110 rfl ?_
            refine r_iload_n dX12_need_111 rfl ?_
            refine r_i2l dX12_need_112 ?_
            refine r_iload_n dX12_need_113 rfl ?_
            refine r_aload_n dX12_need_114 rfl ?_
            refine r_getRc dX12_need_115 fgX12_52 rfl (by exact k_167 hJ1.F) (by exact r_167_26 hJ1.F) ?_
            refine r_iconst (0) dX12_need_118 rfl ?_
            refine r_ialoadc (f 27) dX12_need_119 (by exact k_198 hJ1.F) (vin (j := 0) (by omega) (by omega)) (by exact hJ1.g (by omega) (l_han (i := 0) (by omega))) ?_
            refine r_aload_n dX12_need_120 rfl ?_
            refine r_getRc dX12_need_121 fgX12_52 rfl (by exact k_167 hJ1.F) (by exact r_167_26 hJ1.F) ?_
            refine r_iconst (1) dX12_need_124 rfl ?_
            refine r_ialoadc (f 28) dX12_need_125 (by exact k_198 hJ1.F) (vin (j := 1) (by omega) (by omega)) (by exact hJ1.g (by omega) (l_han (i := 1) (by omega))) ?_
            refine r_aload_n dX12_need_126 rfl ?_
            refine r_getRc dX12_need_127 fgX12_52 rfl (by exact k_167 hJ1.F) (by exact r_167_26 hJ1.F) ?_
            refine r_iconst (2) dX12_need_130 rfl ?_
            refine r_ialoadc (f 29) dX12_need_131 (by exact k_198 hJ1.F) (vin (j := 2) (by omega) (by omega)) (by exact hJ1.g (by omega) (l_han (i := 2) (by omega))) ?_
            refine r_aload_n dX12_need_132 rfl ?_
            refine r_getRc dX12_need_133 fgX12_52 rfl (by exact k_167 hJ1.F) (by exact r_167_26 hJ1.F) ?_
            refine r_iconst (3) dX12_need_136 rfl ?_
            refine r_ialoadc (f 30) dX12_need_137 (by exact k_198 hJ1.F) (vin (j := 3) (by omega) (by omega)) (by exact hJ1.g (by omega) (l_han (i := 3) (by omega))) ?_
            refine r_aload_n dX12_need_138 rfl ?_
            refine r_getRc dX12_need_139 fgX12_52 rfl (by exact k_167 hJ1.F) (by exact r_167_26 hJ1.F) ?_
            refine r_iconst (4) dX12_need_142 rfl ?_
            refine r_ialoadc (f 31) dX12_need_143 (by exact k_198 hJ1.F) (vin (j := 4) (by omega) (by omega)) (by exact hJ1.g (by omega) (l_han (i := 4) (by omega))) ?_
            refine r_aload_n dX12_need_144 rfl ?_
            refine r_getRc dX12_need_145 fgX12_52 rfl (by exact k_167 hJ1.F) (by exact r_167_26 hJ1.F) ?_
            refine r_iconst (5) dX12_need_148 rfl ?_
            refine r_ialoadc (f 32) dX12_need_149 (by exact k_198 hJ1.F) (vin (j := 5) (by omega) (by omega)) (by exact hJ1.g (by omega) (l_han (i := 5) (by omega))) ?_
            refine r_callV9 (ci := 12) (d1 := 33) (c1 := 0) (n1 := 0) dX12_need_150 mvX12_265 rfl ⟨(Nat.le_of_ble_eq_true rfl), rfl⟩ (Nat.le_of_ble_eq_true rfl) (by exact Nat.le_of_ble_eq_true rfl) (by exact k_167 hJ1.F) ?_
            rw [hx0.1]
            refine S_needOf1 hV hJ1.1 hK hx0.2 hV.2.2.2.1.2.1 hV.2.2.2.1.2.2.1 hV.2.2.2.1.2.2.2.1 hV.2.2.2.1.2.2.2.2.1 hjw (by rw [Int32.toInt_toInt64]; exact iv_mk w58a w58b) (fun m9 s9 => ?_)
            have hJ9 := hJ1.sc s9.1 s9.2
            show Wp g mX12_need _ _ _ 153 _ (_ :: _) _ Q
            refine r_lreturn dX12_need_153 rfl ?_
            have k9 := k hz wy rfl hjw ⟨w58a, w58b⟩ 1 (by omega) rfl m9 hJ9
            rw [show neV f (hH f) (T2 wy) y.toInt64 1 = ndG f (hH f) (T2 wy) (r6 (nI (hH f)) (f 28) (f 29) (f 30) (f 31) (f 32)) y.toInt64 from nd_hd1 hx0.1] at k9; exact k9
          ·
            refine r_iload_n dX12_need_87 rfl ?_
            refine r_iconst (3) dX12_need_88 rfl ?_
            refine r_icmp_ne 109 dX12_need_89 rfl (fun _ => ?_) (fun hz => absurd hz (by decide))
            refine r_aload_n dX12_need_109 rfl ?_
            refine r_iload_n dX12_need_110 rfl ?_
            refine r_iload_n dX12_need_111 rfl ?_
            refine r_i2l dX12_need_112 ?_
            refine r_iload_n dX12_need_113 rfl ?_
            refine r_aload_n dX12_need_114 rfl ?_
            refine r_getRc dX12_need_115 fgX12_52 rfl (by exact k_167 hJ1.F) (by exact r_167_26 hJ1.F) ?_
            refine r_iconst (0) dX12_need_118 rfl ?_
            refine r_ialoadc (f 27) dX12_need_119 (by exact k_198 hJ1.F) (vin (j := 0) (by omega) (by omega)) (by exact hJ1.g (by omega) (l_han (i := 0) (by omega))) ?_
            refine r_aload_n dX12_need_120 rfl ?_
            refine r_getRc dX12_need_121 fgX12_52 rfl (by exact k_167 hJ1.F) (by exact r_167_26 hJ1.F) ?_
            refine r_iconst (1) dX12_need_124 rfl ?_
            refine r_ialoadc (f 28) dX12_need_125 (by exact k_198 hJ1.F) (vin (j := 1) (by omega) (by omega)) (by exact hJ1.g (by omega) (l_han (i := 1) (by omega))) ?_
            refine r_aload_n dX12_need_126 rfl ?_
            refine r_getRc dX12_need_127 fgX12_52 rfl (by exact k_167 hJ1.F) (by exact r_167_26 hJ1.F) ?_
            refine r_iconst (2) dX12_need_130 rfl ?_
            refine r_ialoadc (f 29) dX12_need_131 (by exact k_198 hJ1.F) (vin (j := 2) (by omega) (by omega)) (by exact hJ1.g (by omega) (l_han (i := 2) (by omega))) ?_
            refine r_aload_n dX12_need_132 rfl ?_
            refine r_getRc dX12_need_133 fgX12_52 rfl (by exact k_167 hJ1.F) (by exact r_167_26 hJ1.F) ?_
            refine r_iconst (3) dX12_need_136 rfl ?_
            refine r_ialoadc (f 30) dX12_need_137 (by exact k_198 hJ1.F) (vin (j := 3) (by omega) (by omega)) (by exact hJ1.g (by omega) (l_han (i := 3) (by omega))) ?_
            refine r_aload_n dX12_need_138 rfl ?_
            refine r_getRc dX12_need_139 fgX12_52 rfl (by exact k_167 hJ1.F) (by exact r_167_26 hJ1.F) ?_
            refine r_iconst (4) dX12_need_142 rfl ?_
            refine r_ialoadc (f 31) dX12_need_143 (by exact k_198 hJ1.F) (vin (j := 4) (by omega) (by omega)) (by exact hJ1.g (by omega) (l_han (i := 4) (by omega))) ?_
            refine r_aload_n dX12_need_144 rfl ?_
            refine r_getRc dX12_need_145 fgX12_52 rfl (by exact k_167 hJ1.F) (by exact r_167_26 hJ1.F) ?_
            refine r_iconst (5) dX12_need_148 rfl ?_
            refine r_ialoadc (f 32) dX12_need_149 (by exact k_198 hJ1.F) (vin (j := 5) (by omega) (by omega)) (by exact hJ1.g (by omega) (l_han (i := 5) (by omega))) ?_
            refine r_callV9 (ci := 12) (d1 := 33) (c1 := 0) (n1 := 0) dX12_need_150 mvX12_265 rfl ⟨(Nat.le_of_ble_eq_true rfl), rfl⟩ (Nat.le_of_ble_eq_true rfl) (by exact Nat.le_of_ble_eq_true rfl) (by exact k_167 hJ1.F) ?_
            rw [hx0.1]
            refine S_needOf2 hV hJ1.1 hK hx0.2 hV.2.2.2.1.2.1 hV.2.2.2.1.2.2.1 hV.2.2.2.1.2.2.2.1 hV.2.2.2.1.2.2.2.2.1 hjw (by rw [Int32.toInt_toInt64]; exact iv_mk w58a w58b) (fun m9 s9 => ?_)
            have hJ9 := hJ1.sc s9.1 s9.2
            show Wp g mX12_need _ _ _ 153 _ (_ :: _) _ Q
            refine r_lreturn dX12_need_153 rfl ?_
            have k9 := k hz wy rfl hjw ⟨w58a, w58b⟩ 2 (by omega) rfl m9 hJ9
            rw [show neV f (hH f) (T2 wy) y.toInt64 2 = ndV f (hH f) (T2 wy) (r6 (nI (hH f)) (f 28) (f 29) (f 30) (f 31) (f 32)) y.toInt64 from nd_hd2 hx0.1] at k9; exact k9
          ·
            refine r_iload_n dX12_need_87 rfl ?_
            refine r_iconst (3) dX12_need_88 rfl ?_
            refine r_icmp_ne 109 dX12_need_89 rfl (fun hz => absurd hz (by decide)) (fun _ => ?_)
            refine r_aload_n dX12_need_92 rfl ?_
            refine r_getRc dX12_need_93 fgX12_52 rfl (by exact k_167 hJ1.F) (by exact r_167_26 hJ1.F) ?_
            refine r_iconst (1) dX12_need_96 rfl ?_
            refine r_ialoadc (f 28) dX12_need_97 (by exact k_198 hJ1.F) (vin (j := 1) (by omega) (by omega)) (by exact hJ1.g (by omega) (l_han (i := 1) (by omega))) ?_
            refine r_aload_n dX12_need_98 rfl ?_
            refine r_getRc dX12_need_99 fgX12_52 rfl (by exact k_167 hJ1.F) (by exact r_167_26 hJ1.F) ?_
            refine r_iconst (2) dX12_need_102 rfl ?_
            refine r_ialoadc (f 29) dX12_need_103 (by exact k_198 hJ1.F) (vin (j := 2) (by omega) (by omega)) (by exact hJ1.g (by omega) (l_han (i := 2) (by omega))) ?_
            refine r_callS2 (d1 := 1) (c1 := 0) (n1 := 0) dX12_need_104 msX12_260 rfl (Nat.le_of_ble_eq_true rfl) (by exact Nat.le_of_ble_eq_true rfl) ?_
            refine S_shipSpeed hV.2.2.2.1.2.1 hV.2.2.2.1.2.2.1 ?_
            show Wp g mX12_need _ _ _ 107 _ (_ :: _) _ Q
            refine r_i2l dX12_need_107 ?_
            refine r_lreturn dX12_need_108 rfl ?_
            have sb := sh_b hV.2.2.2.1.2.1 hV.2.2.2.1.2.2.1
            rw [rt32 ⟨sb.1, by have := sb.2; omega⟩]
            exact k hz wy rfl hjw ⟨w58a, w58b⟩ 3 (by omega) rfl _ hJ1
          · omega
        ·
          show Wp g mX12_need _ _ _ 70 _ (_ :: _) _ Q
          refine r_if_ne 77 dX12_need_70 rfl (fun hz => absurd hz (by decide)) (fun _ => ?_)
          refine r_iconst (1) dX12_need_73 rfl ?_
          refine r_goto 78 dX12_need_74 rfl ?_
          refine r_iconst (3) dX12_need_78 rfl ?_
          refine r_callV2 (ci := 12) (d1 := 0) (c1 := 0) (n1 := 0) dX12_need_79 mvX12_86 rfl ⟨(Nat.le_of_ble_eq_true rfl), rfl⟩ (Nat.le_of_ble_eq_true rfl) (by exact Nat.le_of_ble_eq_true rfl) (by exact k_167 hJ1.F) ?_
          refine S_bad1 hJ1.F hJ1.2.2 (by decide) ?_
          have hJ2 := hJ1.bad 3
          show Wp g mX12_need _ _ _ 82 _ (_ :: _) _ Q
          refine r_if_eq 87 dX12_need_82 rfl (fun hz => absurd hz (by decide)) (fun _ => ?_)
          refine r_lconst (0) dX12_need_85 rfl ?_
          refine r_lreturn dX12_need_86 rfl ?_
          obtain ⟨wy, hjw, rfl⟩ := i32_below (n := n2) (by have := hI.2.2.2.2.2.2.1.2; omega) w34a w34b
          first | exact kb hz wy rfl hjw (fun q => w58 q.1) _ hJ2 | exact kb hz wy rfl hjw (fun q => w67 q.2) _ hJ2
      ·
        show Wp g mX12_need _ _ _ 61 _ (_ :: _) _ Q
        refine r_if_eq 73 dX12_need_61 rfl (fun _ => ?_) (fun hz => absurd hz (by decide))
        refine r_iconst (1) dX12_need_73 rfl ?_
        refine r_goto 78 dX12_need_74 rfl ?_
        refine r_iconst (3) dX12_need_78 rfl ?_
        refine r_callV2 (ci := 12) (d1 := 0) (c1 := 0) (n1 := 0) dX12_need_79 mvX12_86 rfl ⟨(Nat.le_of_ble_eq_true rfl), rfl⟩ (Nat.le_of_ble_eq_true rfl) (by exact Nat.le_of_ble_eq_true rfl) (by exact k_167 hJ1.F) ?_
        refine S_bad1 hJ1.F hJ1.2.2 (by decide) ?_
        have hJ3 := hJ1.bad 3
        show Wp g mX12_need _ _ _ 82 _ (_ :: _) _ Q
        refine r_if_eq 87 dX12_need_82 rfl (fun hz => absurd hz (by decide)) (fun _ => ?_)
        refine r_lconst (0) dX12_need_85 rfl ?_
        refine r_lreturn dX12_need_86 rfl ?_
        obtain ⟨wy, hjw, rfl⟩ := i32_below (n := n2) (by have := hI.2.2.2.2.2.2.1.2; omega) w34a w34b
        first | exact kb hz wy rfl hjw (fun q => w58 q.1) _ hJ3 | exact kb hz wy rfl hjw (fun q => w67 q.2) _ hJ3
    ·
      show Wp g mX12_need _ _ _ 37 _ (_ :: _) _ Q
      refine r_if_ne 44 dX12_need_37 rfl (fun hz => absurd hz (by decide)) (fun _ => ?_)
      refine r_iconst (1) dX12_need_40 rfl ?_
      refine r_goto 45 dX12_need_41 rfl ?_
      refine r_iconst (2) dX12_need_45 rfl ?_
      refine r_callV2 (ci := 12) (d1 := 0) (c1 := 0) (n1 := 0) dX12_need_46 mvX12_86 rfl ⟨(Nat.le_of_ble_eq_true rfl), rfl⟩ (Nat.le_of_ble_eq_true rfl) (by exact Nat.le_of_ble_eq_true rfl) (by exact k_167 hJ1.F) ?_
      refine S_bad1 hJ1.F hJ1.2.2 (by decide) ?_
      have hJ4 := hJ1.bad 2
      show Wp g mX12_need _ _ _ 49 _ (_ :: _) _ Q
      refine r_if_ne 85 dX12_need_49 rfl (fun _ => ?_) (fun hz => absurd hz (by decide))
      refine r_lconst (0) dX12_need_85 rfl ?_
      refine r_lreturn dX12_need_86 rfl ?_
      exact kw hz (not_in (by have := hI.2.2.2.2.2.2.1.2; omega) w34) _ hJ4
  ·
    refine r_iconst (1) dX12_need_13 rfl ?_
    refine r_goto 18 dX12_need_14 rfl ?_
    refine r_iconst (1) dX12_need_18 rfl ?_
    refine r_callV2 (ci := 12) (d1 := 0) (c1 := 0) (n1 := 0) dX12_need_19 mvX12_86 rfl ⟨(Nat.le_of_ble_eq_true rfl), rfl⟩ (Nat.le_of_ble_eq_true rfl) (by exact Nat.le_of_ble_eq_true rfl) (by exact k_167 hJ1.F) ?_
    refine S_bad1 hJ1.F hJ1.2.2 (by decide) ?_
    have hJ5 := hJ1.bad 1
    show Wp g mX12_need _ _ _ 22 _ (_ :: _) _ Q
    refine r_if_ne 85 dX12_need_22 rfl (fun _ => ?_) (fun hz => absurd hz (by decide))
    refine r_lconst (0) dX12_need_85 rfl ?_
    refine r_lreturn dX12_need_86 rfl ?_
    exact ke hz _ hJ5
