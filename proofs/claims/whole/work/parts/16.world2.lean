def omF (M : Nat) : Nat → Int32
  | 0 => 1
  | i + 1 => omF M i * (nI M - 1 - nI i) / (nI i + 1)
def msF (t : Int32) (ρ : Nat → Int32) (M : Nat) : Nat → Int32
  | 0 => 0
  | i + 1 => msF t ρ M i + (if ¬ t = 0 ∧ nI i - nI i / 2 * 2 = 1 then -(omF M i * ρ i) else omF M i * ρ i)
theorem nI_s0 {i : Nat} (h : i < 1000) : ¬ nI i + 1 = 0 := by rw [nI_1, show (0 : Int32) = nI 0 from rfl, nI_eq (by omega) (by omega)]; omega
theorem nI_spec {x : Int32} {n j : Nat} (e : x = nI j) (h : j < n) (hn : n < 1000) : (x < 0 ∨ nI n ≤ x) → False := fun h9 => absurd h9 (by rw [e]; exact fun q => q.elim (nI_pos (by omega)) (nI_ge h (by omega)))
theorem S_at {g : GG} {m : MM} {Q : Out → Prop} {a c z n : Nat} (ha : kdl m a = some (5, 0)) (hr : ldR m a 0 = c) (hc : kdl m c = some (13, z)) (hz : z < 1000) (hn : ldI m a 1 = nI n) (hnz : n ≤ z) {x : Int32} {i : Nat} (hx : x = nI i) (hi : i < n) (k : Q (.inl (some (.int (ldI m c i))), m)) : Cl g 0 0 0 mX5_at [.ref a, .int x] m Q := by
  refine S_X5_at ha hr hc (by omega) hn hnz (fun j hj hjn => ?_) (fun h9 => (nI_spec hx hi (by omega) h9).elim)
  obtain rfl := (nI_eq (by omega) (by omega)).mp (hx.symm.trans hj)
  exact k
theorem last_le {M i : Nat} (h1 : 1 ≤ M) (hM : M ≤ 6) (hi : i < M) : ¬ nI M - 1 < nI i := by
  obtain ⟨k, rfl⟩ : ∃ k, M = k + 1 := ⟨M - 1, by omega⟩
  rw [nI_pred]; exact nI_nlt (by omega) (by omega)
theorem last_gt {M : Nat} (h1 : 1 ≤ M) (hM : M ≤ 6) : nI M - 1 < nI M := by
  obtain ⟨k, rfl⟩ : ∃ k, M = k + 1 := ⟨M - 1, by omega⟩
  rw [nI_pred]; exact nI_lt (by omega) (by omega)
theorem L_mile {g : GG} {m : MM} {Q : Out → Prop} (hF : Fx m) {M : Nat} (hn : ldI m 35 1 = nI M) (hM : M ≤ 6) (hM1 : 1 ≤ M) {t0 : Int32}  (kx : ∀ (x6 : Value), x6.category = 1 → Wp g mX10_mileSum 1 0 0 80 [.ref 5, .int t0, .int (nI M - 1), .int (omF M M), .int (msF t0 (ldI m 36) M M), .int (nI M), x6] [] (m) Q) : ∀ (t i : Nat) (x6 : Value), i + t = M → x6.category = 1 → Wp g mX10_mileSum 1 0 0 18 [.ref 5, .int t0, .int (nI M - 1), .int (omF M i), .int (msF t0 (ldI m 36) M i), .int (nI i), x6] [] (m) Q := by
  intro t
  induction t with
  | zero =>
    intro i x6 hi hI
    have hi : i = M := by omega
    subst hi
    refine r_iload dX10_mileSum_18 rfl ?_
    refine r_iload_n dX10_mileSum_20 rfl ?_
    refine r_icmp_gt 80 dX10_mileSum_21 rfl (fun h1 => ?_) (fun h1 => ?_)
    ·
      exact kx _ hI
    ·
      exact absurd (last_gt hM1 hM) h1
  | succ t ih =>
    intro i x6 hi hI
    have hin : i < M := by omega
    refine r_iload dX10_mileSum_18 rfl ?_
    refine r_iload_n dX10_mileSum_20 rfl ?_
    refine r_icmp_gt 80 dX10_mileSum_21 rfl (fun h1 => ?_) (fun h1 => ?_)
    ·
      exact absurd h1 (last_le hM1 hM hin)
    ·
      refine r_iload_n dX10_mileSum_24 rfl ?_
      refine r_aload_n dX10_mileSum_25 rfl ?_
      refine r_getRc dX10_mileSum_26 fgX10_47 rfl (by exact k_5 hF) (by exact r_5_7 hF) ?_
      refine r_iload dX10_mileSum_29 rfl ?_
      refine r_callV1 (ci := 5) (d1 := 0) (c1 := 0) (n1 := 0) dX10_mileSum_31 mvX10_91 rfl ⟨(Nat.le_of_ble_eq_true rfl), rfl⟩ (Nat.le_of_ble_eq_true rfl) (by exact Nat.le_of_ble_eq_true rfl) (by exact k_35 hF) ?_
      refine S_at (a := 35) (c := 36) (z := 6) (n := M) (by exact k_35 hF) (by exact r_35_0 hF) (by exact k_36 hF) (by omega) (by exact hn) hM (i := i) rfl hin ?_
      show Wp g mX10_mileSum _ _ _ 34 _ (_ :: _) _ Q
      refine r_imul dX10_mileSum_34 ?_
      refine si_6 dX10_mileSum_35 rfl (Nat.le_of_ble_eq_true rfl) ?_
      refine r_iload dX10_mileSum_37 rfl ?_
      refine r_iload_n dX10_mileSum_39 rfl ?_
      refine r_if_eq 57 dX10_mileSum_40 rfl (fun h2 => ?_) (fun h2 => ?_)
      ·
        refine r_iload dX10_mileSum_57 rfl ?_
        refine r_iadd dX10_mileSum_59 ?_
        refine si_4 dX10_mileSum_60 rfl (Nat.le_of_ble_eq_true rfl) ?_
        refine r_iload_n dX10_mileSum_62 rfl ?_
        refine r_iload_n dX10_mileSum_63 rfl ?_
        refine r_iload dX10_mileSum_64 rfl ?_
        refine r_isub dX10_mileSum_66 ?_
        refine r_imul dX10_mileSum_67 ?_
        refine r_iload dX10_mileSum_68 rfl ?_
        refine r_iconst (1) dX10_mileSum_70 rfl ?_
        refine r_iadd dX10_mileSum_71 ?_
        refine r_idiv dX10_mileSum_72 (nI_s0 (by omega)) ?_
        refine si_3 dX10_mileSum_73 rfl (Nat.le_of_ble_eq_true rfl) ?_
        refine ic_5 (1) dX10_mileSum_74 rfl rfl (Nat.le_of_ble_eq_true rfl) ?_
        refine r_goto 18 dX10_mileSum_77 rfl ?_
        refine Wp_l (ls' := [.ref 5, .int t0, .int (nI M - 1), .int (omF M (i + 1)), .int (msF t0 (ldI m 36) M (i + 1)), .int (nI (i + 1)), .int (omF M i * ldI m 36 i)]) ?_ ?_
        · rw [← nI_1 i, show msF t0 (ldI m 36) M (i + 1) = msF t0 (ldI m 36) M i + _ from congrArg (msF t0 (ldI m 36) M i + ·) (if_neg (fun q => q.1 h2))]; rfl
        exact ih (i + 1) _ (by omega) rfl
      ·
        refine r_iload dX10_mileSum_43 rfl ?_
        refine r_iconst (2) dX10_mileSum_45 rfl ?_
        refine r_irem dX10_mileSum_46 (by decide) ?_
        refine r_iconst (1) dX10_mileSum_47 rfl ?_
        refine r_icmp_ne 57 dX10_mileSum_48 rfl (fun h3 => ?_) (fun h3 => ?_)
        ·
          refine r_iload dX10_mileSum_57 rfl ?_
          refine r_iadd dX10_mileSum_59 ?_
          refine si_4 dX10_mileSum_60 rfl (Nat.le_of_ble_eq_true rfl) ?_
          refine r_iload_n dX10_mileSum_62 rfl ?_
          refine r_iload_n dX10_mileSum_63 rfl ?_
          refine r_iload dX10_mileSum_64 rfl ?_
          refine r_isub dX10_mileSum_66 ?_
          refine r_imul dX10_mileSum_67 ?_
          refine r_iload dX10_mileSum_68 rfl ?_
          refine r_iconst (1) dX10_mileSum_70 rfl ?_
          refine r_iadd dX10_mileSum_71 ?_
          refine r_idiv dX10_mileSum_72 (nI_s0 (by omega)) ?_
          refine si_3 dX10_mileSum_73 rfl (Nat.le_of_ble_eq_true rfl) ?_
          refine ic_5 (1) dX10_mileSum_74 rfl rfl (Nat.le_of_ble_eq_true rfl) ?_
          refine r_goto 18 dX10_mileSum_77 rfl ?_
          refine Wp_l (ls' := [.ref 5, .int t0, .int (nI M - 1), .int (omF M (i + 1)), .int (msF t0 (ldI m 36) M (i + 1)), .int (nI (i + 1)), .int (omF M i * ldI m 36 i)]) ?_ ?_
          · rw [← nI_1 i, show msF t0 (ldI m 36) M (i + 1) = msF t0 (ldI m 36) M i + _ from congrArg (msF t0 (ldI m 36) M i + ·) (if_neg (fun q => h3 q.2))]; rfl
          exact ih (i + 1) _ (by omega) rfl
        ·
          refine r_iload dX10_mileSum_51 rfl ?_
          refine r_ineg dX10_mileSum_53 ?_
          refine r_goto 59 dX10_mileSum_54 rfl ?_
          refine r_iadd dX10_mileSum_59 ?_
          refine si_4 dX10_mileSum_60 rfl (Nat.le_of_ble_eq_true rfl) ?_
          refine r_iload_n dX10_mileSum_62 rfl ?_
          refine r_iload_n dX10_mileSum_63 rfl ?_
          refine r_iload dX10_mileSum_64 rfl ?_
          refine r_isub dX10_mileSum_66 ?_
          refine r_imul dX10_mileSum_67 ?_
          refine r_iload dX10_mileSum_68 rfl ?_
          refine r_iconst (1) dX10_mileSum_70 rfl ?_
          refine r_iadd dX10_mileSum_71 ?_
          refine r_idiv dX10_mileSum_72 (nI_s0 (by omega)) ?_
          refine si_3 dX10_mileSum_73 rfl (Nat.le_of_ble_eq_true rfl) ?_
          refine ic_5 (1) dX10_mileSum_74 rfl rfl (Nat.le_of_ble_eq_true rfl) ?_
          refine r_goto 18 dX10_mileSum_77 rfl ?_
          refine Wp_l (ls' := [.ref 5, .int t0, .int (nI M - 1), .int (omF M (i + 1)), .int (msF t0 (ldI m 36) M (i + 1)), .int (nI (i + 1)), .int (omF M i * ldI m 36 i)]) ?_ ?_
          · rw [← nI_1 i, show msF t0 (ldI m 36) M (i + 1) = msF t0 (ldI m 36) M i + _ from congrArg (msF t0 (ldI m 36) M i + ·) (if_pos ⟨h2, h3⟩)]; rfl
          exact ih (i + 1) _ (by omega) rfl
theorem S_X10_mileSum {g : GG} {m : MM} {Q : Out → Prop} (hF : Fx m) {M : Nat} (hn : ldI m 35 1 = nI M) (hM : M ≤ 6) (hM1 : 1 ≤ M) {t0 : Int32} (k : Q (.inl (some (.int (msF t0 (ldI m 36) M M))), m)) : Cl g 1 0 0 mX10_mileSum [.ref 5, .int t0] m Q := by
  refine Cl.of rfl (by decide) (Nat.le_of_ble_eq_true rfl) ?_
  show Wp g mX10_mileSum 1 0 0 0 [.ref 5, .int t0, .retAddr 0, .retAddr 0, .retAddr 0, .retAddr 0, .retAddr 0] [] m Q
  refine r_aload_n dX10_mileSum_0 rfl ?_
  refine r_getRc dX10_mileSum_1 fgX10_47 rfl (by exact k_5 hF) (by exact r_5_7 hF) ?_
  refine r_callV0 (ci := 5) (d1 := 0) (c1 := 0) (n1 := 0) dX10_mileSum_4 mvX10_87 rfl ⟨(Nat.le_of_ble_eq_true rfl), rfl⟩ (Nat.le_of_ble_eq_true rfl) (by exact Nat.le_of_ble_eq_true rfl) (by exact k_35 hF) ?_
  refine S_X5_filled (by exact k_35 hF) ?_
  show Wp g mX10_mileSum _ _ _ 7 _ (_ :: _) _ Q
  refine r_iconst (1) dX10_mileSum_7 rfl ?_
  refine r_isub dX10_mileSum_8 ?_
  refine si_2 dX10_mileSum_9 rfl (Nat.le_of_ble_eq_true rfl) ?_
  refine r_iconst (1) dX10_mileSum_10 rfl ?_
  refine si_3 dX10_mileSum_11 rfl (Nat.le_of_ble_eq_true rfl) ?_
  refine r_iconst (0) dX10_mileSum_12 rfl ?_
  refine si_4 dX10_mileSum_13 rfl (Nat.le_of_ble_eq_true rfl) ?_
  refine r_iconst (0) dX10_mileSum_15 rfl ?_
  refine si_5 dX10_mileSum_16 rfl (Nat.le_of_ble_eq_true rfl) ?_
  refine Wp_l (ls' := [.ref 5, .int t0, .int (nI M - 1), .int (omF M 0), .int (msF t0 (ldI m 36) M 0), .int (nI 0), .retAddr 0]) (by rw [hn]; rfl) ?_
  refine L_mile hF hn hM hM1 (fun x6 _ => ?_) M 0 _ (by omega) rfl
  refine r_iload dX10_mileSum_80 rfl ?_
  refine r_ireturn dX10_mileSum_82 rfl rfl ?_
  exact k
def adF (m : MM) (n : Nat) (x y : Int32) : MM := stI (stI (stI (stI m 38 n x) 37 1 (nI (n + 1))) 40 n y) 39 1 (nI (n + 1))
theorem S_X10_addFouling {g : GG} {m : MM} {Q : Out → Prop} (hF : Fx m) {n : Nat} (hn : ldI m 37 1 = nI n) (hn2 : ldI m 39 1 = nI n) (hn8 : n ≤ 8) {x y : Int32} (k8 : n = 8 → Q (.inl (some (.int (-1))), m)) (k2 : n < 8 → 0 < n → x ≤ ldI m 38 (n - 1) → Q (.inl (some (.int (-2))), m)) (k : n < 8 → (n = 0 ∨ ldI m 38 (n - 1) < x) → Q (.inl (some (.int (nI (n + 1)))), adF m n x y)) : Cl g 1 0 0 mX10_addFouling [.ref 5, .int x, .int y] m Q := by
  refine Cl.of rfl (by decide) (Nat.le_of_ble_eq_true rfl) ?_
  show Wp g mX10_addFouling 1 0 0 0 [.ref 5, .int x, .int y, .retAddr 0] [] m Q
  refine r_aload_n dX10_addFouling_0 rfl ?_
  refine r_getRc dX10_addFouling_1 fgX10_50 rfl (by exact k_5 hF) (by exact r_5_8 hF) ?_
  refine r_callV0 (ci := 5) (d1 := 0) (c1 := 0) (n1 := 0) dX10_addFouling_4 mvX10_80 rfl ⟨(Nat.le_of_ble_eq_true rfl), rfl⟩ (Nat.le_of_ble_eq_true rfl) (by exact Nat.le_of_ble_eq_true rfl) (by exact k_37 hF) ?_
  refine S_X5_isFull (a := 37) (c := 38) (z := 8) (n := n) (by exact k_37 hF) (by exact r_37_0 hF) (by exact k_38 hF) (by omega) (by exact hn) hn8 (fun h1 => ?_) (fun h1 => ?_)
  ·
    show Wp g mX10_addFouling _ _ _ 7 _ (_ :: _) _ Q
    refine r_if_eq 12 dX10_addFouling_7 rfl (fun hz => absurd hz (by decide)) (fun _ => ?_)
    refine r_iconst (-1) dX10_addFouling_10 rfl ?_
    refine r_ireturn dX10_addFouling_11 rfl rfl ?_
    exact k8 h1
  ·
    show Wp g mX10_addFouling _ _ _ 7 _ (_ :: _) _ Q
    refine r_if_eq 12 dX10_addFouling_7 rfl (fun _ => ?_) (fun hz => absurd hz (by decide))
    refine r_aload_n dX10_addFouling_12 rfl ?_
    refine r_getRc dX10_addFouling_13 fgX10_50 rfl (by exact k_5 hF) (by exact r_5_8 hF) ?_
    refine r_callV0 (ci := 5) (d1 := 0) (c1 := 0) (n1 := 0) dX10_addFouling_16 mvX10_87 rfl ⟨(Nat.le_of_ble_eq_true rfl), rfl⟩ (Nat.le_of_ble_eq_true rfl) (by exact Nat.le_of_ble_eq_true rfl) (by exact k_37 hF) ?_
    refine S_X5_filled (by exact k_37 hF) ?_
    show Wp g mX10_addFouling _ _ _ 19 _ (_ :: _) _ Q
    refine si_3 dX10_addFouling_19 rfl (Nat.le_of_ble_eq_true rfl) ?_
    refine r_iload_n dX10_addFouling_20 rfl ?_
    refine r_if_le 41 dX10_addFouling_21 rfl (fun h2 => ?_) (fun h2 => ?_)
    ·
      refine r_aload_n dX10_addFouling_41 rfl ?_
      refine r_getRc dX10_addFouling_42 fgX10_50 rfl (by exact k_5 hF) (by exact r_5_8 hF) ?_
      refine r_iload_n dX10_addFouling_45 rfl ?_
      refine r_callV1 (ci := 5) (d1 := 0) (c1 := 0) (n1 := 0) dX10_addFouling_46 mvX10_84 rfl ⟨(Nat.le_of_ble_eq_true rfl), rfl⟩ (Nat.le_of_ble_eq_true rfl) (by exact Nat.le_of_ble_eq_true rfl) (by exact k_37 hF) ?_
      refine S_X5_add (a := 37) (c := 38) (z := 8) (n := n) (by exact k_37 hF) (by exact r_37_0 hF) (by exact k_38 hF) (by omega) (by exact hn) hn8 (by decide) (fun _ => ?_) (fun h9 => absurd h9 (by omega))
      show Wp g mX10_addFouling _ _ _ 49 _ [] _ Q
      refine r_aload_n dX10_addFouling_49 rfl ?_
      refine r_getRc dX10_addFouling_50 fgX10_53 rfl (by exact k_5 hF) (by exact r_5_9 hF) ?_
      refine r_iload_n dX10_addFouling_53 rfl ?_
      refine r_callV1 (ci := 5) (d1 := 0) (c1 := 0) (n1 := 0) dX10_addFouling_54 mvX10_84 rfl ⟨(Nat.le_of_ble_eq_true rfl), rfl⟩ (Nat.le_of_ble_eq_true rfl) (by exact Nat.le_of_ble_eq_true rfl) (by exact k_39 hF) ?_
      refine S_X5_add (a := 39) (c := 40) (z := 8) (n := n) (by exact k_39 hF) (by exact r_39_0 hF) (by exact k_40 hF) (by omega) (by exact (ld_n (by decide) (ld_n (by omega) hn2))) hn8 (by decide) (fun _ => ?_) (fun h9 => absurd h9 (by omega))
      show Wp g mX10_addFouling _ _ _ 57 _ [] _ Q
      refine r_aload_n dX10_addFouling_57 rfl ?_
      refine r_getRc dX10_addFouling_58 fgX10_50 rfl (by exact k_5 hF) (by exact r_5_8 hF) ?_
      refine r_callV0 (ci := 5) (d1 := 0) (c1 := 0) (n1 := 0) dX10_addFouling_61 mvX10_87 rfl ⟨(Nat.le_of_ble_eq_true rfl), rfl⟩ (Nat.le_of_ble_eq_true rfl) (by exact Nat.le_of_ble_eq_true rfl) (by exact k_37 hF) ?_
      refine S_X5_filled (by exact k_37 hF) ?_
      show Wp g mX10_addFouling _ _ _ 64 _ (_ :: _) _ Q
      refine r_ireturn dX10_addFouling_64 rfl rfl ?_
      have e1 : ldI (adF m n x y) 37 1 = nI (n + 1) := ld_n (by decide) (ld_n (by omega) ld_s)
      rw [show ldI (stI (stI (stI (stI m 38 n x) 37 1 (nI (n + 1))) 40 n y) 39 1 (nI (n + 1))) 37 1 = nI (n + 1) from e1]
      exact k (by omega) (Or.inl (Nat.eq_zero_of_not_pos (fun q => absurd h2 (by rw [hn]; exact i32_nle.mpr (nI_lt (a := 0) q (by omega))))))
    ·
      have hp : 0 < n := Nat.pos_of_ne_zero (fun q => h2 (by rw [hn, q]; decide))
      refine r_iload_n dX10_addFouling_24 rfl ?_
      refine r_aload_n dX10_addFouling_25 rfl ?_
      refine r_getRc dX10_addFouling_26 fgX10_50 rfl (by exact k_5 hF) (by exact r_5_8 hF) ?_
      refine r_iload_n dX10_addFouling_29 rfl ?_
      refine r_iconst (1) dX10_addFouling_30 rfl ?_
      refine r_isub dX10_addFouling_31 ?_
      refine r_callV1 (ci := 5) (d1 := 0) (c1 := 0) (n1 := 0) dX10_addFouling_32 mvX10_91 rfl ⟨(Nat.le_of_ble_eq_true rfl), rfl⟩ (Nat.le_of_ble_eq_true rfl) (by exact Nat.le_of_ble_eq_true rfl) (by exact k_37 hF) ?_
      refine S_at (a := 37) (c := 38) (z := 8) (n := n) (by exact k_37 hF) (by exact r_37_0 hF) (by exact k_38 hF) (by omega) (by exact hn) hn8 (i := n - 1) (by obtain ⟨k, rfl⟩ : ∃ k, n = k + 1 := ⟨n - 1, by omega⟩; rw [hn]; exact nI_pred _) (by omega) ?_
      show Wp g mX10_addFouling _ _ _ 35 _ (_ :: _) _ Q
      refine r_icmp_gt 41 dX10_addFouling_35 rfl (fun h3 => ?_) (fun h3 => ?_)
      ·
        refine r_aload_n dX10_addFouling_41 rfl ?_
        refine r_getRc dX10_addFouling_42 fgX10_50 rfl (by exact k_5 hF) (by exact r_5_8 hF) ?_
        refine r_iload_n dX10_addFouling_45 rfl ?_
        refine r_callV1 (ci := 5) (d1 := 0) (c1 := 0) (n1 := 0) dX10_addFouling_46 mvX10_84 rfl ⟨(Nat.le_of_ble_eq_true rfl), rfl⟩ (Nat.le_of_ble_eq_true rfl) (by exact Nat.le_of_ble_eq_true rfl) (by exact k_37 hF) ?_
        refine S_X5_add (a := 37) (c := 38) (z := 8) (n := n) (by exact k_37 hF) (by exact r_37_0 hF) (by exact k_38 hF) (by omega) (by exact hn) hn8 (by decide) (fun _ => ?_) (fun h9 => absurd h9 (by omega))
        show Wp g mX10_addFouling _ _ _ 49 _ [] _ Q
        refine r_aload_n dX10_addFouling_49 rfl ?_
        refine r_getRc dX10_addFouling_50 fgX10_53 rfl (by exact k_5 hF) (by exact r_5_9 hF) ?_
        refine r_iload_n dX10_addFouling_53 rfl ?_
        refine r_callV1 (ci := 5) (d1 := 0) (c1 := 0) (n1 := 0) dX10_addFouling_54 mvX10_84 rfl ⟨(Nat.le_of_ble_eq_true rfl), rfl⟩ (Nat.le_of_ble_eq_true rfl) (by exact Nat.le_of_ble_eq_true rfl) (by exact k_39 hF) ?_
        refine S_X5_add (a := 39) (c := 40) (z := 8) (n := n) (by exact k_39 hF) (by exact r_39_0 hF) (by exact k_40 hF) (by omega) (by exact (ld_n (by decide) (ld_n (by omega) hn2))) hn8 (by decide) (fun _ => ?_) (fun h9 => absurd h9 (by omega))
        show Wp g mX10_addFouling _ _ _ 57 _ [] _ Q
        refine r_aload_n dX10_addFouling_57 rfl ?_
        refine r_getRc dX10_addFouling_58 fgX10_50 rfl (by exact k_5 hF) (by exact r_5_8 hF) ?_
        refine r_callV0 (ci := 5) (d1 := 0) (c1 := 0) (n1 := 0) dX10_addFouling_61 mvX10_87 rfl ⟨(Nat.le_of_ble_eq_true rfl), rfl⟩ (Nat.le_of_ble_eq_true rfl) (by exact Nat.le_of_ble_eq_true rfl) (by exact k_37 hF) ?_
        refine S_X5_filled (by exact k_37 hF) ?_
        show Wp g mX10_addFouling _ _ _ 64 _ (_ :: _) _ Q
        refine r_ireturn dX10_addFouling_64 rfl rfl ?_
        have e1 : ldI (adF m n x y) 37 1 = nI (n + 1) := ld_n (by decide) (ld_n (by omega) ld_s)
        rw [show ldI (stI (stI (stI (stI m 38 n x) 37 1 (nI (n + 1))) 40 n y) 39 1 (nI (n + 1))) 37 1 = nI (n + 1) from e1]
        exact k (by omega) (Or.inr h3)
      ·
        refine r_bipush (-2) dX10_addFouling_38 rfl ?_
        refine r_ireturn dX10_addFouling_40 rfl rfl ?_
        exact k2 (by omega) hp (i32_nlt.mp h3)
def LeadP (ρ : Nat → Int32) (x : Int32) (n b : Nat) : Prop := b ≤ n ∧ (∀ i, i < b → ρ i ≤ x) ∧ (b < n → x < ρ b)
def foV (ρ η : Nat → Int32) (x : Int32) (n b : Nat) : Int32 := if b = 0 then (if n = 0 then 0 else η 0) else if b = n then η (b - 1) else η (b - 1) + (ovF ((η b - η (b - 1)).toInt64 * (x - ρ (b - 1)).toInt64) (ρ b - ρ (b - 1)).toInt64).toInt32
theorem nI_pr1 {b : Nat} (h : 0 < b) : nI b - 1 = nI (b - 1) := by obtain ⟨k, rfl⟩ : ∃ k, b = k + 1 := ⟨b - 1, by omega⟩; exact nI_pred _
theorem L_foul {g : GG} {m : MM} {Q : Out → Prop} (hF : Fx m) {n : Nat} (hn : ldI m 37 1 = nI n) (hn2 : ldI m 39 1 = nI n) (hn8 : n ≤ 8) {x : Int32} (kx : ∀ b, LeadP (ldI m 38) x n b → Wp g mX10_fouledBy 1 0 0 41 [.ref 5, .int x, .int (nI n), .int (nI b), .int (nI b), .retAddr 0, .retAddr 0, .retAddr 0] [] m Q) : ∀ (t i : Nat), i + t = n → (∀ j, j < i → ldI m 38 j ≤ x) → Wp g mX10_fouledBy 1 0 0 13 [.ref 5, .int x, .int (nI n), .int (nI i), .int (nI i), .retAddr 0, .retAddr 0, .retAddr 0] [] m Q := by
  intro t
  induction t with
  | zero =>
    intro i hi hI
    obtain rfl : i = n := by omega
    refine r_iload dX10_fouledBy_13 rfl ?_
    refine r_iload_n dX10_fouledBy_15 rfl ?_
    refine r_icmp_ge 41 dX10_fouledBy_16 rfl (fun h1 => ?_) (fun h1 => ?_)
    ·
      exact kx i ⟨Nat.le_refl _, hI, fun q => absurd q (Nat.lt_irrefl _)⟩
    ·
      exact absurd (nI_le (Nat.le_refl _) (by omega)) h1
  | succ t ih =>
    intro i hi hI
    have hin : i < n := by omega
    refine r_iload dX10_fouledBy_13 rfl ?_
    refine r_iload_n dX10_fouledBy_15 rfl ?_
    refine r_icmp_ge 41 dX10_fouledBy_16 rfl (fun h1 => ?_) (fun h1 => ?_)
    ·
      exact absurd h1 (nI_ge hin (by omega))
    ·
      refine r_aload_n dX10_fouledBy_19 rfl ?_
      refine r_getRc dX10_fouledBy_20 fgX10_50 rfl (by exact k_5 hF) (by exact r_5_8 hF) ?_
      refine r_iload dX10_fouledBy_23 rfl ?_
      refine r_callV1 (ci := 5) (d1 := 0) (c1 := 0) (n1 := 0) dX10_fouledBy_25 mvX10_91 rfl ⟨(Nat.le_of_ble_eq_true rfl), rfl⟩ (Nat.le_of_ble_eq_true rfl) (by exact Nat.le_of_ble_eq_true rfl) (by exact k_37 hF) ?_
      refine S_at (a := 37) (c := 38) (z := 8) (n := n) (by exact k_37 hF) (by exact r_37_0 hF) (by exact k_38 hF) (by omega) (by exact hn) hn8 (i := i) rfl hin ?_
      show Wp g mX10_fouledBy _ _ _ 28 _ (_ :: _) _ Q
      refine r_iload_n dX10_fouledBy_28 rfl ?_
      refine r_icmp_gt 41 dX10_fouledBy_29 rfl (fun h2 => ?_) (fun h2 => ?_)
      ·
        exact kx i ⟨by omega, hI, fun _ => h2⟩
      ·
        refine ic_3 (1) dX10_fouledBy_32 rfl rfl (Nat.le_of_ble_eq_true rfl) ?_
        refine ic_4 (1) dX10_fouledBy_35 rfl rfl (Nat.le_of_ble_eq_true rfl) ?_
        refine r_goto 13 dX10_fouledBy_38 rfl ?_
        rw [nI_1 i]
        exact ih (i + 1) (by omega) (fun j hj => by rcases Nat.lt_succ_iff_lt_or_eq.mp hj with q | rfl; exact hI j q; exact i32_nlt.mp h2)
theorem S_X10_fouledBy {g : GG} {m : MM} {Q : Out → Prop} (hF : Fx m) {n : Nat} (hn : ldI m 37 1 = nI n) (hn2 : ldI m 39 1 = nI n) (hn8 : n ≤ 8) {x : Int32} (k : ∀ b, LeadP (ldI m 38) x n b → Q (.inl (some (.int (foV (ldI m 38) (ldI m 40) x n b))), m)) : Cl g 1 0 0 mX10_fouledBy [.ref 5, .int x] m Q := by
  refine Cl.of rfl (by decide) (Nat.le_of_ble_eq_true rfl) ?_
  show Wp g mX10_fouledBy 1 0 0 0 [.ref 5, .int x, .retAddr 0, .retAddr 0, .retAddr 0, .retAddr 0, .retAddr 0, .retAddr 0] [] m Q
  refine r_aload_n dX10_fouledBy_0 rfl ?_
  refine r_getRc dX10_fouledBy_1 fgX10_50 rfl (by exact k_5 hF) (by exact r_5_8 hF) ?_
  refine r_callV0 (ci := 5) (d1 := 0) (c1 := 0) (n1 := 0) dX10_fouledBy_4 mvX10_87 rfl ⟨(Nat.le_of_ble_eq_true rfl), rfl⟩ (Nat.le_of_ble_eq_true rfl) (by exact Nat.le_of_ble_eq_true rfl) (by exact k_37 hF) ?_
  refine S_X5_filled (by exact k_37 hF) ?_
  show Wp g mX10_fouledBy _ _ _ 7 _ (_ :: _) _ Q
  refine si_2 dX10_fouledBy_7 rfl (Nat.le_of_ble_eq_true rfl) ?_
  refine r_iconst (0) dX10_fouledBy_8 rfl ?_
  refine si_3 dX10_fouledBy_9 rfl (Nat.le_of_ble_eq_true rfl) ?_
  refine r_iconst (0) dX10_fouledBy_10 rfl ?_
  refine si_4 dX10_fouledBy_11 rfl (Nat.le_of_ble_eq_true rfl) ?_
  refine Wp_l (ls' := [.ref 5, .int x, .int (nI n), .int (nI 0), .int (nI 0), .retAddr 0, .retAddr 0, .retAddr 0]) (by rw [hn]; rfl) ?_
  refine L_foul hF hn hn2 hn8 (fun b hb => ?_) n 0 (by omega) (fun j hj => absurd hj (by omega))
  have hb1 := hb.1
  refine r_iload_n dX10_fouledBy_41 rfl ?_
  refine r_if_ne 54 dX10_fouledBy_42 rfl (fun h3 => ?_) (fun h3 => ?_)
  ·
    have hb0 : ¬ b = 0 := fun q => h3 (by rw [q]; rfl)
    refine r_aload_n dX10_fouledBy_54 rfl ?_
    refine r_getRc dX10_fouledBy_55 fgX10_53 rfl (by exact k_5 hF) (by exact r_5_9 hF) ?_
    refine r_iload_n dX10_fouledBy_58 rfl ?_
    refine r_iconst (1) dX10_fouledBy_59 rfl ?_
    refine r_isub dX10_fouledBy_60 ?_
    refine r_callV1 (ci := 5) (d1 := 0) (c1 := 0) (n1 := 0) dX10_fouledBy_61 mvX10_91 rfl ⟨(Nat.le_of_ble_eq_true rfl), rfl⟩ (Nat.le_of_ble_eq_true rfl) (by exact Nat.le_of_ble_eq_true rfl) (by exact k_39 hF) ?_
    refine S_at (a := 39) (c := 40) (z := 8) (n := n) (by exact k_39 hF) (by exact r_39_0 hF) (by exact k_40 hF) (by omega) (by exact hn2) hn8 (i := b - 1) (nI_pr1 (by omega)) (by omega) ?_
    show Wp g mX10_fouledBy _ _ _ 64 _ (_ :: _) _ Q
    refine si_4 dX10_fouledBy_64 rfl (Nat.le_of_ble_eq_true rfl) ?_
    refine r_iload_n dX10_fouledBy_66 rfl ?_
    refine r_iload_n dX10_fouledBy_67 rfl ?_
    refine r_icmp_ne 74 dX10_fouledBy_68 rfl (fun h4 => ?_) (fun h4 => ?_)
    ·
      have hbn : ¬ b = n := fun q => h4 (by rw [q])
      have hb3 : b < n := by omega
      refine r_aload_n dX10_fouledBy_74 rfl ?_
      refine r_getRc dX10_fouledBy_75 fgX10_50 rfl (by exact k_5 hF) (by exact r_5_8 hF) ?_
      refine r_iload_n dX10_fouledBy_78 rfl ?_
      refine r_iconst (1) dX10_fouledBy_79 rfl ?_
      refine r_isub dX10_fouledBy_80 ?_
      refine r_callV1 (ci := 5) (d1 := 0) (c1 := 0) (n1 := 0) dX10_fouledBy_81 mvX10_91 rfl ⟨(Nat.le_of_ble_eq_true rfl), rfl⟩ (Nat.le_of_ble_eq_true rfl) (by exact Nat.le_of_ble_eq_true rfl) (by exact k_37 hF) ?_
      refine S_at (a := 37) (c := 38) (z := 8) (n := n) (by exact k_37 hF) (by exact r_37_0 hF) (by exact k_38 hF) (by omega) (by exact hn) hn8 (i := b - 1) (nI_pr1 (by omega)) (by omega) ?_
      show Wp g mX10_fouledBy _ _ _ 84 _ (_ :: _) _ Q
      refine si_5 dX10_fouledBy_84 rfl (Nat.le_of_ble_eq_true rfl) ?_
      refine r_aload_n dX10_fouledBy_86 rfl ?_
      refine r_getRc dX10_fouledBy_87 fgX10_53 rfl (by exact k_5 hF) (by exact r_5_9 hF) ?_
      refine r_iload_n dX10_fouledBy_90 rfl ?_
      refine r_callV1 (ci := 5) (d1 := 0) (c1 := 0) (n1 := 0) dX10_fouledBy_91 mvX10_91 rfl ⟨(Nat.le_of_ble_eq_true rfl), rfl⟩ (Nat.le_of_ble_eq_true rfl) (by exact Nat.le_of_ble_eq_true rfl) (by exact k_39 hF) ?_
      refine S_at (a := 39) (c := 40) (z := 8) (n := n) (by exact k_39 hF) (by exact r_39_0 hF) (by exact k_40 hF) (by omega) (by exact hn2) hn8 (i := b) rfl (by omega) ?_
      show Wp g mX10_fouledBy _ _ _ 94 _ (_ :: _) _ Q
      refine r_iload dX10_fouledBy_94 rfl ?_
      refine r_isub dX10_fouledBy_96 ?_
      refine r_i2l dX10_fouledBy_97 ?_
      refine r_iload_n dX10_fouledBy_98 rfl ?_
      refine r_iload dX10_fouledBy_99 rfl ?_
      refine r_isub dX10_fouledBy_101 ?_
      refine r_i2l dX10_fouledBy_102 ?_
      refine r_lmul dX10_fouledBy_103 ?_
      refine sl_6 dX10_fouledBy_104 rfl (Nat.le_of_ble_eq_true rfl) ?_
      refine r_iload dX10_fouledBy_106 rfl ?_
      refine r_lload dX10_fouledBy_108 rfl ?_
      refine r_aload_n dX10_fouledBy_110 rfl ?_
      refine r_getRc dX10_fouledBy_111 fgX10_50 rfl (by exact k_5 hF) (by exact r_5_8 hF) ?_
      refine r_iload_n dX10_fouledBy_114 rfl ?_
      refine r_callV1 (ci := 5) (d1 := 0) (c1 := 0) (n1 := 0) dX10_fouledBy_115 mvX10_91 rfl ⟨(Nat.le_of_ble_eq_true rfl), rfl⟩ (Nat.le_of_ble_eq_true rfl) (by exact Nat.le_of_ble_eq_true rfl) (by exact k_37 hF) ?_
      refine S_at (a := 37) (c := 38) (z := 8) (n := n) (by exact k_37 hF) (by exact r_37_0 hF) (by exact k_38 hF) (by omega) (by exact hn) hn8 (i := b) rfl (by omega) ?_
      show Wp g mX10_fouledBy _ _ _ 118 _ (_ :: _) _ Q
      refine r_iload dX10_fouledBy_118 rfl ?_
      refine r_isub dX10_fouledBy_120 ?_
      refine r_i2l dX10_fouledBy_121 ?_
      refine r_callN2 (d1 := 0) (c1 := 0) (n1 := 0) dX10_fouledBy_122 msX10_130 (Nat.le_of_ble_eq_true rfl) (by exact Nat.le_of_ble_eq_true rfl) ?_
      refine S_over ?_
      show Wp g mX10_fouledBy _ _ _ 125 _ (_ :: _) _ Q
      refine r_l2i dX10_fouledBy_125 ?_
      refine r_iadd dX10_fouledBy_126 ?_
      refine r_ireturn dX10_fouledBy_127 rfl rfl ?_
      have k9 := k b hb
      rw [foV, if_neg hb0, if_neg hbn] at k9; exact k9
    ·
      refine r_iload dX10_fouledBy_71 rfl ?_
      refine r_ireturn dX10_fouledBy_73 rfl rfl ?_
      have k9 := k b hb
      rw [foV, if_neg hb0, if_pos ((nI_eq (by omega) (by omega)).mp h4)] at k9; exact k9
  ·
    refine r_aload_n dX10_fouledBy_45 rfl ?_
    refine r_getRc dX10_fouledBy_46 fgX10_53 rfl (by exact k_5 hF) (by exact r_5_9 hF) ?_
    refine r_iconst (0) dX10_fouledBy_49 rfl ?_
    refine r_callV1 (ci := 5) (d1 := 0) (c1 := 0) (n1 := 0) dX10_fouledBy_50 mvX10_91 rfl ⟨(Nat.le_of_ble_eq_true rfl), rfl⟩ (Nat.le_of_ble_eq_true rfl) (by exact Nat.le_of_ble_eq_true rfl) (by exact k_39 hF) ?_
    refine S_X5_at (a := 39) (c := 40) (z := 8) (n := n) (by exact k_39 hF) (by exact r_39_0 hF) (by exact k_40 hF) (by omega) (by exact hn2) hn8 (fun j hj hjn => ?_) (fun h9 => ?_)
    ·
      show Wp g mX10_fouledBy _ _ _ 53 _ (_ :: _) _ Q
      refine r_ireturn dX10_fouledBy_53 rfl rfl ?_
      have k9 := k b hb
      have hb0 : b = 0 := (nI_eq (b := 0) (by omega) (by omega)).mp h3
      obtain rfl : j = 0 := ((nI_eq (a := 0) (by omega) (by omega)).mp hj).symm
      rw [foV, if_pos hb0, if_neg (by omega)] at k9; exact k9
    ·
      show Wp g mX10_fouledBy _ _ _ 53 _ (_ :: _) _ Q
      refine r_ireturn dX10_fouledBy_53 rfl rfl ?_
      have k9 := k b hb
      have hb0 : b = 0 := (nI_eq (b := 0) (by omega) (by omega)).mp h3
      have hn0 : n = 0 := h9.elim (fun q => absurd q (by decide)) (fun q => Nat.eq_zero_of_not_pos (fun z => nI_ge (a := 0) z (by omega) q))
      rw [foV, if_pos hb0, if_pos hn0] at k9; exact k9
