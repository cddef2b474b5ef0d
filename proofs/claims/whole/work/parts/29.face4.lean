theorem foV_congr {ρ ρ' η η' : Nat → Int32} {x : Int32} {n b : Nat} (hb : b ≤ n) (h1 : ∀ j, j < n → ρ j = ρ' j) (h2 : ∀ j, j < n → η j = η' j) : foV ρ η x n b = foV ρ' η' x n b := by
  unfold foV
  by_cases q : b = 0
  · rw [if_pos q, if_pos q]
    by_cases q1 : n = 0
    · rw [if_pos q1, if_pos q1]
    · rw [if_neg q1, if_neg q1, h2 0 (by omega)]
  · rw [if_neg q, if_neg q]
    by_cases q1 : b = n
    · rw [if_pos q1, if_pos q1, h2 (b - 1) (by omega)]
    · rw [if_neg q1, if_neg q1, h2 (b - 1) (by omega), h2 b (by omega), h1 (b - 1) (by omega), h1 b (by omega)]
def foM (f : Nat → Int32) : Nat → Int32 := fun j => f (649 + 2 * j)
def foH (f : Nat → Int32) : Nat → Int32 := fun j => f (650 + 2 * j)
theorem S_X11_grown {g : GG} {m : MM} {Q : Out → Prop} {f : Nat → Int32} {fs : Nat → Nat → Int32} {ic : Nat} {tp : Nat → Int32} {tn : Nat} {pl : Int32} {n1 : Nat} {T1 : Nat → (Nat → Int64) → Nat → Int64} {n2 : Nat} {T2 : Nat → (Nat → Int64) → Nat → Int64} (hC : CI f fs ic tp tn pl n1 T1 n2 T2 m) {x : Int32} (kb : ¬ (0 ≤ x ∧ x ≤ 999) → Q (.inr EIAE, m)) (k : (0 ≤ x ∧ x ≤ 999) → ∀ b, LeadP (foM f) x (nFo f) b → Q (.inl (some (.int (foV (foM f) (foH f) x (nFo f) b))), m)) : Cl g 7 1 6 mX11_grown [.ref 4, .int x] m Q := by
  refine Cl.of rfl (by decide) (Nat.le_of_ble_eq_true rfl) ?_
  show Wp g mX11_grown 7 1 6 0 [.ref 4, .int x] [] m Q
  have hF := hC.1
  have hV := hC.2.1
  have hW := hC.2.2.1
  have hn := hW.2.2.2.2.2.2.2.1.trans hV.1.2.2.2.2.2.1
  have hn2 := hW.2.2.2.2.2.2.2.2.1.trans hV.1.2.2.2.2.2.1
  have hF8 := hV.1.2.2.2.2.2.2
  refine r_iload_n dX11_grown_0 rfl ?_
  refine r_iconst (0) dX11_grown_1 rfl ?_
  refine r_sipush (999) dX11_grown_2 rfl ?_
  refine r_callS3 (d1 := 0) (c1 := 0) (n1 := 0) dX11_grown_5 msX11_59 rfl (Nat.le_of_ble_eq_true rfl) (by exact Nat.le_of_ble_eq_true rfl) ?_
  refine S_X11_isWithin (fun w5a w5b => ?_) (fun w5 => ?_)
  ·
    show Wp g mX11_grown _ _ _ 8 _ (_ :: _) _ Q
    refine r_callS1 (d1 := 6) (c1 := 1) (n1 := 6) dX11_grown_8 msX11_63 rfl (Nat.le_of_ble_eq_true rfl) (by exact Nat.le_of_ble_eq_true rfl) ?_
    refine S_demand1 ?_
    show Wp g mX11_grown _ _ _ 11 _ [] _ Q
    refine r_aload_n dX11_grown_11 rfl ?_
    refine r_getRc dX11_grown_12 fgX11_12 rfl (by exact k_4 hF) (by exact r_4_0 hF) ?_
    refine r_iload_n dX11_grown_15 rfl ?_
    refine r_callV1 (ci := 10) (d1 := 1) (c1 := 0) (n1 := 0) dX11_grown_16 mvX11_277 rfl ⟨(Nat.le_of_ble_eq_true rfl), rfl⟩ (Nat.le_of_ble_eq_true rfl) (by exact Nat.le_of_ble_eq_true rfl) (by exact k_5 hF) ?_
    refine S_X10_fouledBy hF hn hn2 hF8 (fun b hb => ?_)
    show Wp g mX11_grown _ _ _ 19 _ (_ :: _) _ Q
    refine r_ireturn dX11_grown_19 rfl rfl ?_
    have e1 : ∀ j, j < nFo f → ldI m 38 j = foM f j := fun j hj => (hW.2.2.2.2.2.2.2.2.2 j hj).1
    have e2 : ∀ j, j < nFo f → ldI m 40 j = foH f j := fun j hj => (hW.2.2.2.2.2.2.2.2.2 j hj).2
    have k9 := k ⟨w5a, w5b⟩ b ⟨hb.1, fun i hi => by rw [← e1 i (by have := hb.1; omega)]; exact hb.2.1 i hi, fun q => by rw [← e1 b q]; exact hb.2.2 q⟩
    rw [← foV_congr hb.1 e1 e2] at k9; exact k9
  ·
    show Wp g mX11_grown _ _ _ 8 _ (_ :: _) _ Q
    refine r_callS1 (d1 := 6) (c1 := 1) (n1 := 6) dX11_grown_8 msX11_63 rfl (Nat.le_of_ble_eq_true rfl) (by exact Nat.le_of_ble_eq_true rfl) ?_
    refine S_demand0 ?_
    exact kb w5
def miS (f : Nat → Int32) : Nat → Int32 := fun j => f (637 + 2 * j) + f (638 + 2 * j) / 10
theorem msF_congr {t : Int32} {ρ η : Nat → Int32} {M : Nat} : ∀ n, (∀ j, j < n → ρ j = η j) → msF t ρ M n = msF t η M n
  | 0, _ => rfl
  | n + 1, h => by
    show msF t ρ M n + (if _ then _ else _) = msF t η M n + (if _ then _ else _)
    rw [msF_congr n (fun j hj => h j (by omega)), h n (by omega)]
theorem S_X11_mean {g : GG} {m : MM} {Q : Out → Prop} {f : Nat → Int32} {fs : Nat → Nat → Int32} {ic : Nat} {tp : Nat → Int32} {tn : Nat} {pl : Int32} {n1 : Nat} {T1 : Nat → (Nat → Int64) → Nat → Int64} {n2 : Nat} {T2 : Nat → (Nat → Int64) → Nat → Int64} (hC : CI f fs ic tp tn pl n1 T1 n2 T2 m) {t0 : Int32} (k0 : ¬ 2 ≤ f 4 → Q (.inl (some (.int (-2147483648))), m)) (k1 : 2 ≤ f 4 → Q (.inl (some (.int (msF t0 (miS f) (nM f) (nM f)))), m)) : Cl g 2 0 0 mX11_mean [.ref 4, .int t0] m Q := by
  refine Cl.of rfl (by decide) (Nat.le_of_ble_eq_true rfl) ?_
  show Wp g mX11_mean 2 0 0 0 [.ref 4, .int t0] [] m Q
  have hF := hC.1
  have hV := hC.2.1
  have hW := hC.2.2.1
  have hn := hW.2.2.2.2.2.2.1.1.trans hV.1.2.2.2.2.1.1
  have hM := hV.1.2.2.2.2.1.2
  refine r_aload_n dX11_mean_0 rfl ?_
  refine r_getRc dX11_mean_1 fgX11_12 rfl (by exact k_4 hF) (by exact r_4_0 hF) ?_
  refine r_getRc dX11_mean_4 fgX11_257 rfl (by exact k_5 hF) (by exact r_5_7 hF) ?_
  refine r_callV0 (ci := 5) (d1 := 0) (c1 := 0) (n1 := 0) dX11_mean_7 mvX11_99 rfl ⟨(Nat.le_of_ble_eq_true rfl), rfl⟩ (Nat.le_of_ble_eq_true rfl) (by exact Nat.le_of_ble_eq_true rfl) (by exact k_35 hF) ?_
  refine S_X5_filled (by exact k_35 hF) ?_
  rw [show ldI m 35 1 = f 4 from hW.2.2.2.2.2.2.1.1]
  show Wp g mX11_mean _ _ _ 10 _ (_ :: _) _ Q
  refine r_iconst (2) dX11_mean_10 rfl ?_
  refine r_icmp_ge 20 dX11_mean_11 rfl (fun h1 => ?_) (fun h1 => ?_)
  ·
    have hM1 : 1 ≤ nM f := Nat.pos_of_ne_zero (fun q => absurd h1 (by rw [hV.1.2.2.2.2.1.1, q]; decide))
    refine r_aload_n dX11_mean_20 rfl ?_
    refine r_getRc dX11_mean_21 fgX11_12 rfl (by exact k_4 hF) (by exact r_4_0 hF) ?_
    refine r_iload_n dX11_mean_24 rfl ?_
    refine r_callV1 (ci := 10) (d1 := 1) (c1 := 0) (n1 := 0) dX11_mean_25 mvX11_264 rfl ⟨(Nat.le_of_ble_eq_true rfl), rfl⟩ (Nat.le_of_ble_eq_true rfl) (by exact Nat.le_of_ble_eq_true rfl) (by exact k_5 hF) ?_
    refine S_X10_mileSum hF hn hM hM1 ?_
    show Wp g mX11_mean _ _ _ 28 _ (_ :: _) _ Q
    refine r_ireturn dX11_mean_28 rfl rfl ?_
    rw [msF_congr (nM f) (fun j hj => hW.2.2.2.2.2.2.1.2 j hj)]; exact k1 h1
  ·
    refine r_ldcw (-2147483648) dX11_mean_14 ctX11_263 ?_
    refine r_goto 28 dX11_mean_17 rfl ?_
    refine r_ireturn dX11_mean_28 rfl rfl ?_
    exact k0 h1
def runF (f : Nat → Int32) (p : Int32) : Nat → Int32 := fun z => if z = 2 then nI (nR f + 1) else if 217 + 7 * nR f ≤ z ∧ z < 224 + 7 * nR f then (if z = 223 + 7 * nR f then p else f (27 + (z - (217 + 7 * nR f)))) else f z
theorem runF_R {f : Nat → Int32} {p : Int32} (h : nR f < 60) : nR (runF f p) = nR f + 1 := by show (if 2 = 2 then nI (nR f + 1) else _ : Int32).toNatClampNeg = _; rw [if_pos rfl, nI_cl _ (by omega)]
theorem runF_o {f : Nat → Int32} {p : Int32} {z : Nat} (h : z ≠ 2) (h1 : z < 217 + 7 * nR f ∨ 224 + 7 * nR f ≤ z) : runF f p z = f z := (if_neg h).trans (if_neg (by omega))
theorem runF_i {f : Nat → Int32} {p : Int32} {j : Nat} (h : j < 6) : runF f p (217 + 7 * nR f + j) = f (27 + j) := (if_neg (by omega)).trans ((if_pos (by omega)).trans ((if_neg (by omega)).trans (congrArg f (by omega))))
theorem runF_p {f : Nat → Int32} {p : Int32} : runF f p (217 + 7 * nR f + 6) = p := (if_neg (by omega)).trans ((if_pos (by omega)).trans (if_pos (by omega)))
theorem adN_c {m : MM} {q : Nat} {v : Nat → Int32} : ∀ i j, ldI (adN m q v i) 31 j = if 7 * q ≤ j ∧ j < 7 * q + i then v (j - 7 * q) else ldI m 31 j
  | 0, j => (if_neg (by omega)).symm
  | i + 1, j => by
    show ldI (stI (stI (adN m q v i) 31 (7 * q + i) (v i)) 30 1 _) 31 j = _
    by_cases z : j = 7 * q + i
    · subst z; rw [if_pos (by omega), show 7 * q + i - 7 * q = i from by omega]; exact ld_n (by omega) ld_s
    · refine ld_n (by omega) (ld_n (by omega) ?_)
      rw [adN_c i j]
      by_cases z2 : 7 * q ≤ j ∧ j < 7 * q + i
      · rw [if_pos z2, if_pos (by omega)]
      · rw [if_neg z2, if_neg (by omega)]
theorem adN_off {m : MM} {q : Nat} {v : Nat → Int32} : ∀ i, Off 30 31 m (adN m q v i)
  | 0 => Off.rf
  | i + 1 => ((adN_off i).stI (by omega) (by omega)).stI (by omega) (by omega)
theorem Vf_run {f : Nat → Int32} {p : Int32} (hV : Vf f) (hH : 0 < nH f) (h : nR f < 60) (hp : iv 0 1000000000 p) : Vf (runF f p) := by
  refine Vf_R hV (fun z hz => runF_o (by omega) (by omega)) ?_ ?_
  · rw [runF_R h]; exact ⟨if_pos rfl, by omega⟩
  · rw [runF_R h]
    intro r hr
    have e0 : nH (runF f p) = nH f := by unfold nH; rw [runF_o (by omega) (by omega)]
    have e1 : nT (runF f p) = nT f := by unfold nT; rw [runF_o (by omega) (by omega)]
    by_cases q : r = nR f
    · subst q
      have z : ∀ j, j < 6 → rn (runF f p) (nR f) j = f (27 + j) := fun j hj => runF_i hj
      unfold VR
      rw [e0, e1, z 0 (by omega), z 1 (by omega), z 2 (by omega), z 3 (by omega), z 4 (by omega), z 5 (by omega), show rn (runF f p) (nR f) 6 = p from runF_p]
      obtain ⟨⟨w, w1, w2⟩, r1, r2, r3, r4, r5⟩ := hV.2.2.2.1
      exact ⟨⟨⟨w, w1, by omega⟩, r1, r2, r3, r4, r5⟩, hp⟩
    · have z : ∀ j, j < 7 → rn (runF f p) r j = rn f r j := fun j hj => runF_o (by omega) (by omega)
      unfold VR
      rw [e0, e1, z 0 (by omega), z 1 (by omega), z 2 (by omega), z 3 (by omega), z 4 (by omega), z 5 (by omega), z 6 (by omega)]
      exact hV.2.2.2.2.1 r (by omega)
theorem Wd_run {f : Nat → Int32} {m : MM} {p : Int32} (hV : Vf f) (hW : Wd f 5 m) (h : nR f < 60) : Wd (runF f p) 5 (adN m (nR f) (runv m p) 7) := by
  have o := adN_off (m := m) (q := nR f) (v := runv m p) 7
  refine Wd_R hV hW (fun z hz => runF_o (by omega) (by omega)) ((o.2 5 (by omega)).1 1) ((o.2 5 (by omega)).1 10) (fun a ha _ _ k => (o.2 a (by omega)).1 k) ⟨?_, ?_⟩
  · rw [runF_R h]; exact adN_n hW.2.2.2.2.1.1 7
  · rw [runF_R h]
    intro j hj
    rw [show 5 + 26 = 31 from rfl, adN_c 7 j]
    by_cases q : 7 * nR f ≤ j ∧ j < 7 * nR f + 7
    · rw [if_pos q]
      by_cases q6 : j = 7 * nR f + 6
      · subst q6
        rw [show 217 + (7 * nR f + 6) = 217 + 7 * nR f + 6 from by omega, runF_p]; unfold runv; rw [if_pos (by omega)]
      · rw [show 217 + j = 217 + 7 * nR f + (j - 7 * nR f) from by omega, runF_i (by omega)]; unfold runv; rw [if_neg (by omega)]
        exact hW.2.2.2.1 (j - 7 * nR f) (by omega)
    · rw [if_neg q, runF_o (by omega) (by omega)]; exact hW.2.2.2.2.1.2 j (by omega)
theorem nH_pos {f : Nat → Int32} (hV : Vf f) (h : ¬ f 0 = 0) : 0 < nH f := Nat.pos_of_ne_zero (fun q => h (by rw [hV.1.1.1, q]; rfl))
theorem S_X11_run {g : GG} {m : MM} {Q : Out → Prop} {f : Nat → Int32} {fs : Nat → Nat → Int32} {ic : Nat} {tp : Nat → Int32} {tn : Nat} {pl : Int32} {n1 : Nat} {T1 : Nat → (Nat → Int64) → Nat → Int64} {n2 : Nat} {T2 : Nat → (Nat → Int64) → Nat → Int64} (hC : CI f fs ic tp tn pl n1 T1 n2 T2 m) {p : Int32} (ke : f 0 = 0 → Q (.inr EISE, m)) (kb : ¬ f 0 = 0 → ¬ (0 ≤ p ∧ p ≤ 1000000000) → Q (.inr EIAE, m)) (kf : ¬ f 0 = 0 → (0 ≤ p ∧ p ≤ 1000000000) → nR f = 60 → Q (.inl (some (.int (-1))), m)) (k : ¬ f 0 = 0 → (0 ≤ p ∧ p ≤ 1000000000) → nR f < 60 → ∀ m', CI (runF f p) fs ic tp tn pl n1 T1 n2 T2 m' → NoR m m' → Q (.inl (some (.int (nI (nR f)))), m')) : Cl g 7 2 12 mX11_run [.ref 4, .int p] m Q := by
  refine Cl.of rfl (by decide) (Nat.le_of_ble_eq_true rfl) ?_
  show Wp g mX11_run 7 2 12 0 [.ref 4, .int p] [] m Q
  have hF := hC.1
  have hV := hC.2.1
  have hW := hC.2.2.1
  refine r_aload_n dX11_run_0 rfl ?_
  refine r_callV0 (ci := 11) (d1 := 6) (c1 := 1) (n1 := 6) dX11_run_1 mvX11_151 rfl ⟨(Nat.le_of_ble_eq_true rfl), rfl⟩ (Nat.le_of_ble_eq_true rfl) (by exact Nat.le_of_ble_eq_true rfl) (by exact k_4 hF) ?_
  refine S_X11_demandAnyHull hF hV hW (fun a1 => ?_) (fun a0 => ?_)
  ·
    show Wp g mX11_run _ _ _ 4 _ [] _ Q
    refine r_iload_n dX11_run_4 rfl ?_
    refine r_iconst (0) dX11_run_5 rfl ?_
    refine r_ldc (1000000000) dX11_run_6 ctX11_165 ?_
    refine r_callS3 (d1 := 0) (c1 := 0) (n1 := 0) dX11_run_8 msX11_59 rfl (Nat.le_of_ble_eq_true rfl) (by exact Nat.le_of_ble_eq_true rfl) ?_
    refine S_X11_isWithin (fun w8a w8b => ?_) (fun w8 => ?_)
    ·
      show Wp g mX11_run _ _ _ 11 _ (_ :: _) _ Q
      refine r_callS1 (d1 := 6) (c1 := 1) (n1 := 6) dX11_run_11 msX11_63 rfl (Nat.le_of_ble_eq_true rfl) (by exact Nat.le_of_ble_eq_true rfl) ?_
      refine S_demand1 ?_
      show Wp g mX11_run _ _ _ 14 _ [] _ Q
      refine r_aload_n dX11_run_14 rfl ?_
      refine r_getRc dX11_run_15 fgX11_12 rfl (by exact k_4 hF) (by exact r_4_0 hF) ?_
      refine r_iload_n dX11_run_18 rfl ?_
      refine r_callV1 (ci := 10) (d1 := 2) (c1 := 0) (n1 := 0) dX11_run_19 mvX11_186 rfl ⟨(Nat.le_of_ble_eq_true rfl), rfl⟩ (Nat.le_of_ble_eq_true rfl) (by exact Nat.le_of_ble_eq_true rfl) (by exact k_5 hF) ?_
      refine S_X10_addRun hF hW.2.2.2.2.1.1 hV.1.2.2.1.2 (by rw [show ldI m 29 4 = f 31 from hW.2.2.2.1 4 (by omega)]; exact hV.2.2.2.1.2.2.2.2.1) (fun h60 => ?_) (fun h60 => ?_)
      ·
        show Wp g mX11_run _ _ _ 22 _ (_ :: _) _ Q
        refine r_ireturn dX11_run_22 rfl rfl ?_
        exact kf a1 ⟨w8a, w8b⟩ h60
      ·
        show Wp g mX11_run _ _ _ 22 _ (_ :: _) _ Q
        refine r_ireturn dX11_run_22 rfl rfl ?_
        exact k a1 ⟨w8a, w8b⟩ h60 _ (hC.now ((adN_off 7).wd (by omega) (by omega)) (Vf_run hV (nH_pos hV a1) h60 (iv_mk w8a w8b)) (Wd_run hV hW h60)) ((adN_off 7).nor (by omega))
    ·
      show Wp g mX11_run _ _ _ 11 _ (_ :: _) _ Q
      refine r_callS1 (d1 := 6) (c1 := 1) (n1 := 6) dX11_run_11 msX11_63 rfl (Nat.le_of_ble_eq_true rfl) (by exact Nat.le_of_ble_eq_true rfl) ?_
      refine S_demand0 ?_
      exact kb a1 w8
  ·
    exact ke a0
