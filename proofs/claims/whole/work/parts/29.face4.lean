theorem foV_congr {ρ ρ' η η' : Nat → Int32} {x : Int32} {n b : Nat} (hb : b ≤ n) (h1 : ∀ j, j < n → ρ j = ρ' j) (h2 : ∀ j, j < n → η j = η' j) : foV ρ η x n b = foV ρ' η' x n b := by
  unfold foV
  by_cases q : b = 0
  · rw [if_pos q, if_pos q]
    by_cases q1 : n = 0
    · rw [if_pos q1, if_pos q1]
    · rw [if_neg q1, if_neg q1, h2 0 (by omega)]
  · rw [if_neg q, if_neg q]
    by_cases q1 : b = n
    · rw [if_pos q1, if_pos q1, h2 (b - 1) (by omega)]
    · rw [if_neg q1, if_neg q1, h2 (b - 1) (by omega), h2 b (by omega), h1 (b - 1) (by omega), h1 b (by omega)]
def foM (f : Nat → Int32) : Nat → Int32 := fun j => f (649 + 2 * j)
def foH (f : Nat → Int32) : Nat → Int32 := fun j => f (650 + 2 * j)
theorem S_X11_grown {g : GG} {m : MM} {Q : Out → Prop} {f : Nat → Int32} {fs : Nat → Nat → Int32} {ic : Nat} {tp : Nat → Int32} {tn : Nat} {pl : Int32} {n1 : Nat} {T1 : Nat → (Nat → Int64) → Nat → Int64} {n2 : Nat} {T2 : Nat → (Nat → Int64) → Nat → Int64} (hC : CI f fs ic tp tn pl n1 T1 n2 T2 m) {x : Int32} (kb : ¬ (0 ≤ x ∧ x ≤ 999) → Q (.inr EIAE, m)) (k : (0 ≤ x ∧ x ≤ 999) → ∀ b, LeadP (foM f) x (nFo f) b → Q (.inl (some (.int (foV (foM f) (foH f) x (nFo f) b))), m)) : Cl g 7 1 6 mX11_grown [.ref 4, .int x] m Q := by
  refine Cl.of rfl (by decide) (Nat.le_of_ble_eq_true rfl) ?_
  show Wp g mX11_grown 7 1 6 0 [.ref 4, .int x] [] m Q
  have hF := hC.1
  have hV := hC.2.1
  have hW := hC.2.2.1
  have hn := hW.2.2.2.2.2.2.2.1.trans hV.1.2.2.2.2.2.1
  have hn2 := hW.2.2.2.2.2.2.2.2.1.trans hV.1.2.2.2.2.2.1
  have hF8 := hV.1.2.2.2.2.2.2
  refine r_iload_n dX11_grown_0 rfl ?_
  refine r_iconst (0) dX11_grown_1 rfl ?_
  refine r_sipush (999) dX11_grown_2 rfl ?_
  refine r_callS3 (d1 := 0) (c1 := 0) (n1 := 0) dX11_grown_5 msX11_59 rfl (Nat.le_of_ble_eq_true rfl) (by exact Nat.le_of_ble_eq_true rfl) ?_
  refine S_X11_isWithin (fun w5a w5b => ?_) (fun w5 => ?_)
  ·
    show Wp g mX11_grown _ _ _ 8 _ (_ :: _) _ Q
    refine r_callS1 (d1 := 6) (c1 := 1) (n1 := 6) dX11_grown_8 msX11_63 rfl (Nat.le_of_ble_eq_true rfl) (by exact Nat.le_of_ble_eq_true rfl) ?_
    refine S_demand1 ?_
    show Wp g mX11_grown _ _ _ 11 _ [] _ Q
    refine r_aload_n dX11_grown_11 rfl ?_
    refine r_getRc dX11_grown_12 fgX11_12 rfl (by exact k_4 hF) (by exact r_4_0 hF) ?_
    refine r_iload_n dX11_grown_15 rfl ?_
    refine r_callV1 (ci := 10) (d1 := 1) (c1 := 0) (n1 := 0) dX11_grown_16 mvX11_277 rfl ⟨(Nat.le_of_ble_eq_true rfl), rfl⟩ (Nat.le_of_ble_eq_true rfl) (by exact Nat.le_of_ble_eq_true rfl) (by exact k_5 hF) ?_
    refine S_X10_fouledBy hF hn hn2 hF8 (fun b hb => ?_)
    show Wp g mX11_grown _ _ _ 19 _ (_ :: _) _ Q
    refine r_ireturn dX11_grown_19 rfl rfl ?_
    have e1 : ∀ j, j < nFo f → ldI m 38 j = foM f j := fun j hj => (hW.2.2.2.2.2.2.2.2.2 j hj).1
    have e2 : ∀ j, j < nFo f → ldI m 40 j = foH f j := fun j hj => (hW.2.2.2.2.2.2.2.2.2 j hj).2
    have k9 := k ⟨w5a, w5b⟩ b ⟨hb.1, fun i hi => by rw [← e1 i (by have := hb.1; omega)]; exact hb.2.1 i hi, fun q => by rw [← e1 b q]; exact hb.2.2 q⟩
    rw [← foV_congr hb.1 e1 e2] at k9; exact k9
  ·
    show Wp g mX11_grown _ _ _ 8 _ (_ :: _) _ Q
    refine r_callS1 (d1 := 6) (c1 := 1) (n1 := 6) dX11_grown_8 msX11_63 rfl (Nat.le_of_ble_eq_true rfl) (by exact Nat.le_of_ble_eq_true rfl) ?_
    refine S_demand0 ?_
    exact kb w5
def miS (f : Nat → Int32) : Nat → Int32 := fun j => f (637 + 2 * j) + f (638 + 2 * j) / 10
theorem msF_congr {t : Int32} {ρ η : Nat → Int32} {M : Nat} : ∀ n, (∀ j, j < n → ρ j = η j) → msF t ρ M n = msF t η M n
  | 0, _ => rfl
  | n + 1, h => by
    show msF t ρ M n + (if _ then _ else _) = msF t η M n + (if _ then _ else _)
    rw [msF_congr n (fun j hj => h j (by omega)), h n (by omega)]
theorem S_X11_mean {g : GG} {m : MM} {Q : Out → Prop} {f : Nat → Int32} {fs : Nat → Nat → Int32} {ic : Nat} {tp : Nat → Int32} {tn : Nat} {pl : Int32} {n1 : Nat} {T1 : Nat → (Nat → Int64) → Nat → Int64} {n2 : Nat} {T2 : Nat → (Nat → Int64) → Nat → Int64} (hC : CI f fs ic tp tn pl n1 T1 n2 T2 m) {t0 : Int32} (k0 : ¬ 2 ≤ f 4 → Q (.inl (some (.int (-2147483648))), m)) (k1 : 2 ≤ f 4 → Q (.inl (some (.int (msF t0 (miS f) (nM f) (nM f)))), m)) : Cl g 2 0 0 mX11_mean [.ref 4, .int t0] m Q := by
  refine Cl.of rfl (by decide) (Nat.le_of_ble_eq_true rfl) ?_
  show Wp g mX11_mean 2 0 0 0 [.ref 4, .int t0] [] m Q
  have hF := hC.1
  have hV := hC.2.1
  have hW := hC.2.2.1
  have hn := hW.2.2.2.2.2.2.1.1.trans hV.1.2.2.2.2.1.1
  have hM := hV.1.2.2.2.2.1.2
  refine r_aload_n dX11_mean_0 rfl ?_
  refine r_getRc dX11_mean_1 fgX11_12 rfl (by exact k_4 hF) (by exact r_4_0 hF) ?_
  refine r_getRc dX11_mean_4 fgX11_257 rfl (by exact k_5 hF) (by exact r_5_7 hF) ?_
  refine r_callV0 (ci := 5) (d1 := 0) (c1 := 0) (n1 := 0) dX11_mean_7 mvX11_99 rfl ⟨(Nat.le_of_ble_eq_true rfl), rfl⟩ (Nat.le_of_ble_eq_true rfl) (by exact Nat.le_of_ble_eq_true rfl) (by exact k_35 hF) ?_
  refine S_X5_filled (by exact k_35 hF) ?_
  rw [show ldI m 35 1 = f 4 from hW.2.2.2.2.2.2.1.1]
  show Wp g mX11_mean _ _ _ 10 _ (_ :: _) _ Q
  refine r_iconst (2) dX11_mean_10 rfl ?_
  refine r_icmp_ge 20 dX11_mean_11 rfl (fun h1 => ?_) (fun h1 => ?_)
  ·
    have hM1 : 1 ≤ nM f := Nat.pos_of_ne_zero (fun q => absurd h1 (by rw [hV.1.2.2.2.2.1.1, q]; decide))
    refine r_aload_n dX11_mean_20 rfl ?_
    refine r_getRc dX11_mean_21 fgX11_12 rfl (by exact k_4 hF) (by exact r_4_0 hF) ?_
    refine r_iload_n dX11_mean_24 rfl ?_
    refine r_callV1 (ci := 10) (d1 := 1) (c1 := 0) (n1 := 0) dX11_mean_25 mvX11_264 rfl ⟨(Nat.le_of_ble_eq_true rfl), rfl⟩ (Nat.le_of_ble_eq_true rfl) (by exact Nat.le_of_ble_eq_true rfl) (by exact k_5 hF) ?_
    refine S_X10_mileSum hF hn hM hM1 ?_
    show Wp g mX11_mean _ _ _ 28 _ (_ :: _) _ Q
    refine r_ireturn dX11_mean_28 rfl rfl ?_
    rw [msF_congr (nM f) (fun j hj => hW.2.2.2.2.2.2.1.2 j hj)]; exact k1 h1
  ·
    refine r_ldcw (-2147483648) dX11_mean_14 ctX11_263 ?_
    refine r_goto 28 dX11_mean_17 rfl ?_
    refine r_ireturn dX11_mean_28 rfl rfl ?_
    exact k0 h1
