def hH (f : Nat → Int32) : Nat := (f 27).toNatClampNeg
theorem hH_of {f : Nat → Int32} (hV : Vf f) (h : ¬ f 0 = 0) : f 27 = nI (hH f) ∧ hH f < nH f := by
  obtain ⟨w, w1, w2⟩ := hV.2.2.2.1.1
  have hp := nH_pos hV h
  have h6 := hV.1.1.2
  have e : hH f = w := by unfold hH; rw [w1, nI_cl w (by omega)]
  rw [e]; exact ⟨w1, by omega⟩
theorem i32_small {x : Int32} (n : Nat) (hn : n < 1000) (h0 : 0 ≤ x) (h : x ≤ nI n) : ∃ j, j ≤ n ∧ x = nI j := by
  rw [Int32.le_iff_toInt_le] at h0 h
  rw [nI_int n (by omega)] at h
  have z0 : (0 : Int32).toInt = 0 := rfl
  refine ⟨x.toInt.toNat, by omega, Int32.toInt_inj.mp ?_⟩
  rw [nI_int _ (by omega)]; omega
theorem nI_small {n j : Nat} (hn : n < 1000) (h : nI j ≤ nI n) (hj : j < 1000) : j ≤ n := by
  rw [Int32.le_iff_toInt_le, nI_int n (by omega), nI_int j (by omega)] at h; omega
def plV (f : Nat → Int32) (h : Nat) (T : (Nat → Int64) → Nat → Int64) : Nat → Int64 := fun j => match j with
  | 0 => PvV f h T (hd f)
  | 1 => skF (T (cut (NmH f h (hd f))))
  | 2 => capT 1 (T (cut (NmH f h (hd f))) 1)
  | 3 => capT 2 (T (cut (NmH f h (hd f))) 2)
  | _ => alF (T (cut (NmH f h (hd f))))
def neV (f : Nat → Int32) (h : Nat) (T : (Nat → Int64) → Nat → Int64) (pl : Int64) : Nat → Int64 := fun j => match j with
  | 0 => ndR f h T (hd f) pl
  | 1 => ndG f h T (hd f) pl
  | 2 => ndV f h T (hd f) pl
  | _ => shS (hd f)
theorem S_pullAny {g : GG} {m : MM} {Q : Out → Prop} (hF : Fx m) {f : Nat → Int32} (hV : Vf f) (hW : Wd f 5 m) {h : Nat} (hh0 : f 27 = nI h) (hh : h < nH f) {p : Nat} {T : (Nat → Int64) → Nat → Int64} (hp : Pr T p m)  {j : Nat} (hj : j < 5) (k : ∀ m', Off 160 166 m m' → Q (.inl (some (.long (plV f h T j))), m')) : Cl g 4 0 0 mX0_pullPart [.ref 159, .ref p, .int (nI j)] m Q := by
  rcases j with _ | _ | _ | _ | _ | j
  · exact S_pullPart0 hF hV hW hh0 hh hp k
  · exact S_pullPart1 hF hV hW hh0 hh hp k
  · exact S_pullPart2 hF hV hW hh0 hh hp k
  · exact S_pullPart3 hF hV hW hh0 hh hp k
  · exact S_pullPart4 hF hV hW hh0 hh hp k
  · omega
theorem S_needAny {g : GG} {m : MM} {Q : Out → Prop} (hF : Fx m) {f : Nat → Int32} (hV : Vf f) (hW : Wd f 5 m) {h : Nat} (hh0 : f 27 = nI h) (hh : h < nH f) {p : Nat} {T : (Nat → Int64) → Nat → Int64} (hp : Pr T p m) {pl : Int64}  {j : Nat} (hj : j < 4) (k : ∀ m', Off 160 166 m m' → Q (.inl (some (.long (neV f h T pl j))), m')) : Cl g 4 0 0 mX0_needPart [.ref 159, .ref p, .ref 29, .long pl, .int (nI j)] m Q := by
  rcases j with _ | _ | _ | _ | j
  · exact S_need29_0 hF hV hW hh0 hh hp k
  · exact S_need29_1 hF hV hW hh0 hh hp k
  · exact S_need29_2 hF hV hW hh0 hh hp k
  · exact S_need29_3 hF hV hW hh0 hh hp k
  · omega
theorem S_modAny {g : GG} {m : MM} {Q : Out → Prop} (hF : Fx m) {f : Nat → Int32} (hV : Vf f) (hW : Wd f 5 m) {h : Nat} (hh : h < nH f) {x : Int32}  {j : Nat} (hj : j < 6) (k : ∀ m', Off 160 166 m m' → Q (.inl (some (.int (mdH f h x j))), m')) : Cl g 2 0 0 mX0_modelPart [.ref 159, .ref (7 + 3 * h), .int x, .int (nI j)] m Q := by
  rcases j with _ | _ | _ | _ | _ | _ | j
  · exact S_modelPart0 hF hV hW hh k
  · exact S_modelPart1 hF hV hW hh k
  · exact S_modelPart2 hF hV hW hh k
  · exact S_modelPart3 hF hV hW hh k
  · exact S_modelPart4 hF hV hW hh k
  · exact S_modelPart5 hF hV hW hh k
  · omega
theorem S_X11_model {g : GG} {m : MM} {Q : Out → Prop} {f : Nat → Int32} {fs : Nat → Nat → Int32} {ic : Nat} {tp : Nat → Int32} {tn : Nat} {pl : Int32} {n1 : Nat} {T1 : Nat → (Nat → Int64) → Nat → Int64} {n2 : Nat} {T2 : Nat → (Nat → Int64) → Nat → Int64} (hC : CI f fs ic tp tn pl n1 T1 n2 T2 m) {x y z : Int32} (kh : (x < 0 ∨ nI (nH f) ≤ x) → Q (.inr ENSE, m)) (kb : ∀ j, x = nI j → j < nH f → ¬ ((1 ≤ y ∧ y ≤ 40) ∧ 0 ≤ z ∧ z ≤ 5) → Q (.inr EIAE, m)) (k : ∀ j, x = nI j → j < nH f → (1 ≤ y ∧ y ≤ 40) → ∀ i, i < 6 → z = nI i → ∀ m', CI f fs ic tp tn pl n1 T1 n2 T2 m' → NoR m m' → Q (.inl (some (.int (mdH f j y i))), m')) : Cl g 7 2 12 mX11_model [.ref 4, .int x, .int y, .int z] m Q := by
  refine Cl.of rfl (by decide) (Nat.le_of_ble_eq_true rfl) ?_
  show Wp g mX11_model 7 2 12 0 [.ref 4, .int x, .int y, .int z, .retAddr 0] [] m Q
  have hF := hC.1
  have hV := hC.2.1
  have hW := hC.2.2.1
  refine r_aload_n dX11_model_0 rfl ?_
  refine r_iload_n dX11_model_1 rfl ?_
  refine r_callV1 (ci := 11) (d1 := 6) (c1 := 1) (n1 := 6) dX11_model_2 mvX11_71 rfl ⟨(Nat.le_of_ble_eq_true rfl), rfl⟩ (Nat.le_of_ble_eq_true rfl) (by exact Nat.le_of_ble_eq_true rfl) (by exact k_4 hF) ?_
  refine S_X11_demandHull hF hV hW (fun j hj hjn => ?_) (fun h0 => ?_)
  ·
    subst hj
    show Wp g mX11_model _ _ _ 5 _ (_ :: _) _ Q
    refine sa_4 dX11_model_5 rfl (Nat.le_of_ble_eq_true rfl) ?_
    refine r_iload_n dX11_model_7 rfl ?_
    refine r_iconst (1) dX11_model_8 rfl ?_
    refine r_bipush (40) dX11_model_9 rfl ?_
    refine r_callS3 (d1 := 0) (c1 := 0) (n1 := 0) dX11_model_11 msX11_59 rfl (Nat.le_of_ble_eq_true rfl) (by exact Nat.le_of_ble_eq_true rfl) ?_
    refine S_X11_isWithin (fun w11a w11b => ?_) (fun w11 => ?_)
    ·
      show Wp g mX11_model _ _ _ 14 _ (_ :: _) _ Q
      refine r_if_eq 30 dX11_model_14 rfl (fun hz => absurd hz (by decide)) (fun _ => ?_)
      refine r_iload_n dX11_model_17 rfl ?_
      refine r_iconst (0) dX11_model_18 rfl ?_
      refine r_iconst (5) dX11_model_19 rfl ?_
      refine r_callS3 (d1 := 0) (c1 := 0) (n1 := 0) dX11_model_20 msX11_59 rfl (Nat.le_of_ble_eq_true rfl) (by exact Nat.le_of_ble_eq_true rfl) ?_
      refine S_X11_isWithin (fun w20a w20b => ?_) (fun w20 => ?_)
      ·
        show Wp g mX11_model _ _ _ 23 _ (_ :: _) _ Q
        refine r_if_eq 30 dX11_model_23 rfl (fun hz => absurd hz (by decide)) (fun _ => ?_)
        refine r_iconst (1) dX11_model_26 rfl ?_
        refine r_goto 31 dX11_model_27 rfl ?_
        refine r_callS1 (d1 := 6) (c1 := 1) (n1 := 6) dX11_model_31 msX11_63 rfl (Nat.le_of_ble_eq_true rfl) (by exact Nat.le_of_ble_eq_true rfl) ?_
        refine S_demand1 ?_
        show Wp g mX11_model _ _ _ 34 _ [] _ Q
        refine r_aload_n dX11_model_34 rfl ?_
        refine r_getRc dX11_model_35 fgX11_51 rfl (by exact k_4 hF) (by exact r_4_6 hF) ?_
        refine r_aload dX11_model_38 rfl ?_
        refine r_iload_n dX11_model_40 rfl ?_
        refine r_iload_n dX11_model_41 rfl ?_
        refine r_callV3 (ci := 0) (d1 := 2) (c1 := 0) (n1 := 0) dX11_model_42 mvX11_92 rfl ⟨(Nat.le_of_ble_eq_true rfl), rfl⟩ (Nat.le_of_ble_eq_true rfl) (by exact Nat.le_of_ble_eq_true rfl) (by exact k_159 hF) ?_
        obtain ⟨i, hi, rfl⟩ := i32_small 5 (by omega) w20a w20b
        refine S_modAny hF hV hW hjn (j := i) (by omega) (fun m1 o1 => ?_)
        show Wp g mX11_model _ _ _ 45 _ (_ :: _) _ Q
        refine r_ireturn dX11_model_45 rfl rfl ?_
        exact k j rfl hjn ⟨w11a, w11b⟩ i (by omega) rfl m1 (hC.off o1 (by omega) (by omega)) (o1.nor (by omega))
      ·
        show Wp g mX11_model _ _ _ 23 _ (_ :: _) _ Q
        refine r_if_eq 30 dX11_model_23 rfl (fun _ => ?_) (fun hz => absurd hz (by decide))
        refine r_iconst (0) dX11_model_30 rfl ?_
        refine r_callS1 (d1 := 6) (c1 := 1) (n1 := 6) dX11_model_31 msX11_63 rfl (Nat.le_of_ble_eq_true rfl) (by exact Nat.le_of_ble_eq_true rfl) ?_
        refine S_demand0 ?_
        first | exact kb j rfl hjn (fun q => w11 q.1) | exact kb j rfl hjn (fun q => w20 q.2)
    ·
      show Wp g mX11_model _ _ _ 14 _ (_ :: _) _ Q
      refine r_if_eq 30 dX11_model_14 rfl (fun _ => ?_) (fun hz => absurd hz (by decide))
      refine r_iconst (0) dX11_model_30 rfl ?_
      refine r_callS1 (d1 := 6) (c1 := 1) (n1 := 6) dX11_model_31 msX11_63 rfl (Nat.le_of_ble_eq_true rfl) (by exact Nat.le_of_ble_eq_true rfl) ?_
      refine S_demand0 ?_
      first | exact kb j rfl hjn (fun q => w11 q.1) | exact kb j rfl hjn (fun q => w20 q.2)
  ·
    exact kh h0
theorem S_X11_name {g : GG} {m : MM} {Q : Out → Prop} {f : Nat → Int32} {fs : Nat → Nat → Int32} {ic : Nat} {tp : Nat → Int32} {tn : Nat} {pl : Int32} {n1 : Nat} {T1 : Nat → (Nat → Int64) → Nat → Int64} {n2 : Nat} {T2 : Nat → (Nat → Int64) → Nat → Int64} (hC : CI f fs ic tp tn pl n1 T1 n2 T2 m) {x : Int32} (ke : f 0 = 0 → Q (.inr EISE, m)) (kb : ¬ f 0 = 0 → ¬ (0 ≤ x ∧ x ≤ 9) → Q (.inr EIAE, m)) (k : ¬ f 0 = 0 → ∀ i, i < 10 → x = nI i → ∀ m', CI f fs ic tp tn pl n1 T1 n2 T2 m' → NoR m m' → Q (.inl (some (.int (NmH f (hH f) (hd f) i).toInt32)), m')) : Cl g 7 2 12 mX11_name [.ref 4, .int x] m Q := by
  refine Cl.of rfl (by decide) (Nat.le_of_ble_eq_true rfl) ?_
  show Wp g mX11_name 7 2 12 0 [.ref 4, .int x] [] m Q
  have hF := hC.1
  have hV := hC.2.1
  have hW := hC.2.2.1
  refine r_aload_n dX11_name_0 rfl ?_
  refine r_callV0 (ci := 11) (d1 := 6) (c1 := 1) (n1 := 6) dX11_name_1 mvX11_151 rfl ⟨(Nat.le_of_ble_eq_true rfl), rfl⟩ (Nat.le_of_ble_eq_true rfl) (by exact Nat.le_of_ble_eq_true rfl) (by exact k_4 hF) ?_
  refine S_X11_demandAnyHull hF hV hW (fun a1 => ?_) (fun a0 => ?_)
  ·
    show Wp g mX11_name _ _ _ 4 _ [] _ Q
    refine r_iload_n dX11_name_4 rfl ?_
    refine r_iconst (0) dX11_name_5 rfl ?_
    refine r_bipush (9) dX11_name_6 rfl ?_
    refine r_callS3 (d1 := 0) (c1 := 0) (n1 := 0) dX11_name_8 msX11_59 rfl (Nat.le_of_ble_eq_true rfl) (by exact Nat.le_of_ble_eq_true rfl) ?_
    refine S_X11_isWithin (fun w8a w8b => ?_) (fun w8 => ?_)
    ·
      show Wp g mX11_name _ _ _ 11 _ (_ :: _) _ Q
      refine r_callS1 (d1 := 6) (c1 := 1) (n1 := 6) dX11_name_11 msX11_63 rfl (Nat.le_of_ble_eq_true rfl) (by exact Nat.le_of_ble_eq_true rfl) ?_
      refine S_demand1 ?_
      show Wp g mX11_name _ _ _ 14 _ [] _ Q
      refine r_aload_n dX11_name_14 rfl ?_
      refine r_getRc dX11_name_15 fgX11_51 rfl (by exact k_4 hF) (by exact r_4_6 hF) ?_
      refine r_iload_n dX11_name_18 rfl ?_
      refine r_callV1 (ci := 0) (d1 := 3) (c1 := 0) (n1 := 0) dX11_name_19 mvX11_154 rfl ⟨(Nat.le_of_ble_eq_true rfl), rfl⟩ (Nat.le_of_ble_eq_true rfl) (by exact Nat.le_of_ble_eq_true rfl) (by exact k_159 hF) ?_
      obtain ⟨i, hi, rfl⟩ := i32_small 9 (by omega) w8a w8b
      have hx := hH_of hV a1
      refine S_X0_nameAtHand hF hV hW hx.1 hx.2 (j := i) (by omega) (fun m1 o1 => ?_)
      show Wp g mX11_name _ _ _ 22 _ (_ :: _) _ Q
      refine r_ireturn dX11_name_22 rfl rfl ?_
      exact k a1 i (by omega) rfl m1 (hC.off o1 (by omega) (by omega)) (o1.nor (by omega))
    ·
      show Wp g mX11_name _ _ _ 11 _ (_ :: _) _ Q
      refine r_callS1 (d1 := 6) (c1 := 1) (n1 := 6) dX11_name_11 msX11_63 rfl (Nat.le_of_ble_eq_true rfl) (by exact Nat.le_of_ble_eq_true rfl) ?_
      refine S_demand0 ?_
      exact kb a1 w8
  ·
    exact ke a0
theorem S_X11_pull {g : GG} {m : MM} {Q : Out → Prop} {f : Nat → Int32} {fs : Nat → Nat → Int32} {ic : Nat} {tp : Nat → Int32} {tn : Nat} {pl : Int32} {n1 : Nat} {T1 : Nat → (Nat → Int64) → Nat → Int64} {n2 : Nat} {T2 : Nat → (Nat → Int64) → Nat → Int64} (hC : CI f fs ic tp tn pl n1 T1 n2 T2 m) {l x : Int32} (ke : f 0 = 0 → Q (.inr EISE, m)) (kl : ¬ f 0 = 0 → (l < 0 ∨ nI n1 ≤ l) → Q (.inr EIOB, m)) (kb : ¬ f 0 = 0 → ∀ j155, l = nI j155 → j155 < n1 → ¬ (0 ≤ x ∧ x ≤ 4) → Q (.inr EIAE, m)) (k : ¬ f 0 = 0 → ∀ j155, l = nI j155 → j155 < n1 → ∀ i, i < 5 → x = nI i → ∀ m', CI f fs ic tp tn pl n1 T1 n2 T2 m' → NoR m m' → Q (.inl (some (.long (plV f (hH f) (T1 j155) i))), m')) : Cl g 7 3 18 mX11_pull [.ref 4, .int l, .int x] m Q := by
  refine Cl.of rfl (by decide) (Nat.le_of_ble_eq_true rfl) ?_
  show Wp g mX11_pull 7 3 18 0 [.ref 4, .int l, .int x, .retAddr 0] [] m Q
  have hF := hC.1
  have hV := hC.2.1
  have hW := hC.2.2.1
  have hS155 := hC.2.2.2.2.2.2.1
  have hS157 := hC.2.2.2.2.2.2.2
  refine r_aload_n dX11_pull_0 rfl ?_
  refine r_callV0 (ci := 11) (d1 := 6) (c1 := 1) (n1 := 6) dX11_pull_1 mvX11_151 rfl ⟨(Nat.le_of_ble_eq_true rfl), rfl⟩ (Nat.le_of_ble_eq_true rfl) (by exact Nat.le_of_ble_eq_true rfl) (by exact k_4 hF) ?_
  refine S_X11_demandAnyHull hF hV hW (fun a1 => ?_) (fun a0 => ?_)
  ·
    show Wp g mX11_pull _ _ _ 4 _ [] _ Q
    refine r_aload_n dX11_pull_4 rfl ?_
    refine r_getRc dX11_pull_5 fgX11_39 rfl (by exact k_4 hF) (by exact r_4_4 hF) ?_
    refine r_iload_n dX11_pull_8 rfl ?_
    refine r_callS2 (d1 := 6) (c1 := 1) (n1 := 6) dX11_pull_9 msX11_157 rfl (Nat.le_of_ble_eq_true rfl) (by exact Nat.le_of_ble_eq_true rfl) ?_
    refine S_demP155 hF hS155 (fun j155 hj155 hjn155 hp155 => ?_) (fun p155 => ?_)
    ·
      subst hj155
      show Wp g mX11_pull _ _ _ 12 _ (_ :: _) _ Q
      refine sa_3 dX11_pull_12 rfl (Nat.le_of_ble_eq_true rfl) ?_
      refine r_iload_n dX11_pull_13 rfl ?_
      refine r_iconst (0) dX11_pull_14 rfl ?_
      refine r_iconst (4) dX11_pull_15 rfl ?_
      refine r_callS3 (d1 := 0) (c1 := 0) (n1 := 0) dX11_pull_16 msX11_59 rfl (Nat.le_of_ble_eq_true rfl) (by exact Nat.le_of_ble_eq_true rfl) ?_
      refine S_X11_isWithin (fun w16a w16b => ?_) (fun w16 => ?_)
      ·
        show Wp g mX11_pull _ _ _ 19 _ (_ :: _) _ Q
        refine r_callS1 (d1 := 6) (c1 := 1) (n1 := 6) dX11_pull_19 msX11_63 rfl (Nat.le_of_ble_eq_true rfl) (by exact Nat.le_of_ble_eq_true rfl) ?_
        refine S_demand1 ?_
        show Wp g mX11_pull _ _ _ 22 _ [] _ Q
        refine r_aload_n dX11_pull_22 rfl ?_
        refine r_getRc dX11_pull_23 fgX11_51 rfl (by exact k_4 hF) (by exact r_4_6 hF) ?_
        refine r_aload_n dX11_pull_26 rfl ?_
        refine r_iload_n dX11_pull_27 rfl ?_
        refine r_callV2 (ci := 0) (d1 := 4) (c1 := 0) (n1 := 0) dX11_pull_28 mvX11_161 rfl ⟨(Nat.le_of_ble_eq_true rfl), rfl⟩ (Nat.le_of_ble_eq_true rfl) (by exact Nat.le_of_ble_eq_true rfl) (by exact k_159 hF) ?_
        have hx := hH_of hV a1
        obtain ⟨i, hi, rfl⟩ := i32_small 4 (by omega) w16a w16b
        refine S_pullAny hF hV hW hx.1 hx.2 hp155 (j := i) (by omega) (fun m1 o1 => ?_)
        show Wp g mX11_pull _ _ _ 31 _ (_ :: _) _ Q
        refine r_lreturn dX11_pull_31 rfl ?_
        exact k a1 j155 rfl hjn155 i (by omega) rfl m1 (hC.off o1 (by omega) (by omega)) (o1.nor (by omega))
      ·
        show Wp g mX11_pull _ _ _ 19 _ (_ :: _) _ Q
        refine r_callS1 (d1 := 6) (c1 := 1) (n1 := 6) dX11_pull_19 msX11_63 rfl (Nat.le_of_ble_eq_true rfl) (by exact Nat.le_of_ble_eq_true rfl) ?_
        refine S_demand0 ?_
        exact kb a1 j155 rfl hjn155 w16
    ·
      exact kl a1 p155
  ·
    exact ke a0
theorem S_X11_need {g : GG} {m : MM} {Q : Out → Prop} {f : Nat → Int32} {fs : Nat → Nat → Int32} {ic : Nat} {tp : Nat → Int32} {tn : Nat} {pl : Int32} {n1 : Nat} {T1 : Nat → (Nat → Int64) → Nat → Int64} {n2 : Nat} {T2 : Nat → (Nat → Int64) → Nat → Int64} (hC : CI f fs ic tp tn pl n1 T1 n2 T2 m) {w y x : Int32} (ke : f 0 = 0 → Q (.inr EISE, m)) (kw : ¬ f 0 = 0 → (w < 0 ∨ nI n2 ≤ w) → Q (.inr EIOB, m)) (kb : ¬ f 0 = 0 → ∀ j157, w = nI j157 → j157 < n2 → ¬ ((0 ≤ y ∧ y ≤ 1000000000) ∧ 0 ≤ x ∧ x ≤ 3) → Q (.inr EIAE, m)) (k : ¬ f 0 = 0 → ∀ j157, w = nI j157 → j157 < n2 → (0 ≤ y ∧ y ≤ 1000000000) → ∀ i, i < 4 → x = nI i → ∀ m', CI f fs ic tp tn pl n1 T1 n2 T2 m' → NoR m m' → Q (.inl (some (.long (neV f (hH f) (T2 j157) y.toInt64 i))), m')) : Cl g 7 3 18 mX11_need [.ref 4, .int w, .int y, .int x] m Q := by
  refine Cl.of rfl (by decide) (Nat.le_of_ble_eq_true rfl) ?_
  show Wp g mX11_need 7 3 18 0 [.ref 4, .int w, .int y, .int x, .retAddr 0] [] m Q
  have hF := hC.1
  have hV := hC.2.1
  have hW := hC.2.2.1
  have hS155 := hC.2.2.2.2.2.2.1
  have hS157 := hC.2.2.2.2.2.2.2
  refine r_aload_n dX11_need_0 rfl ?_
  refine r_callV0 (ci := 11) (d1 := 6) (c1 := 1) (n1 := 6) dX11_need_1 mvX11_151 rfl ⟨(Nat.le_of_ble_eq_true rfl), rfl⟩ (Nat.le_of_ble_eq_true rfl) (by exact Nat.le_of_ble_eq_true rfl) (by exact k_4 hF) ?_
  refine S_X11_demandAnyHull hF hV hW (fun a1 => ?_) (fun a0 => ?_)
  ·
    show Wp g mX11_need _ _ _ 4 _ [] _ Q
    refine r_aload_n dX11_need_4 rfl ?_
    refine r_getRc dX11_need_5 fgX11_43 rfl (by exact k_4 hF) (by exact r_4_5 hF) ?_
    refine r_iload_n dX11_need_8 rfl ?_
    refine r_callS2 (d1 := 6) (c1 := 1) (n1 := 6) dX11_need_9 msX11_157 rfl (Nat.le_of_ble_eq_true rfl) (by exact Nat.le_of_ble_eq_true rfl) ?_
    refine S_demP157 hF hS157 (fun j157 hj157 hjn157 hp157 => ?_) (fun p157 => ?_)
    ·
      subst hj157
      show Wp g mX11_need _ _ _ 12 _ (_ :: _) _ Q
      refine sa_4 dX11_need_12 rfl (Nat.le_of_ble_eq_true rfl) ?_
      refine r_iload_n dX11_need_14 rfl ?_
      refine r_iconst (0) dX11_need_15 rfl ?_
      refine r_ldc (1000000000) dX11_need_16 ctX11_165 ?_
      refine r_callS3 (d1 := 0) (c1 := 0) (n1 := 0) dX11_need_18 msX11_59 rfl (Nat.le_of_ble_eq_true rfl) (by exact Nat.le_of_ble_eq_true rfl) ?_
      refine S_X11_isWithin (fun w18a w18b => ?_) (fun w18 => ?_)
      ·
        show Wp g mX11_need _ _ _ 21 _ (_ :: _) _ Q
        refine r_if_eq 37 dX11_need_21 rfl (fun hz => absurd hz (by decide)) (fun _ => ?_)
        refine r_iload_n dX11_need_24 rfl ?_
        refine r_iconst (0) dX11_need_25 rfl ?_
        refine r_iconst (3) dX11_need_26 rfl ?_
        refine r_callS3 (d1 := 0) (c1 := 0) (n1 := 0) dX11_need_27 msX11_59 rfl (Nat.le_of_ble_eq_true rfl) (by exact Nat.le_of_ble_eq_true rfl) ?_
        refine S_X11_isWithin (fun w27a w27b => ?_) (fun w27 => ?_)
        ·
          show Wp g mX11_need _ _ _ 30 _ (_ :: _) _ Q
          refine r_if_eq 37 dX11_need_30 rfl (fun hz => absurd hz (by decide)) (fun _ => ?_)
          refine r_iconst (1) dX11_need_33 rfl ?_
          refine r_goto 38 dX11_need_34 rfl ?_
          refine r_callS1 (d1 := 6) (c1 := 1) (n1 := 6) dX11_need_38 msX11_63 rfl (Nat.le_of_ble_eq_true rfl) (by exact Nat.le_of_ble_eq_true rfl) ?_
          refine S_demand1 ?_
          show Wp g mX11_need _ _ _ 41 _ [] _ Q
          refine r_aload_n dX11_need_41 rfl ?_
          refine r_getRc dX11_need_42 fgX11_51 rfl (by exact k_4 hF) (by exact r_4_6 hF) ?_
          refine r_aload dX11_need_45 rfl ?_
          refine r_aload_n dX11_need_47 rfl ?_
          refine r_getRc dX11_need_48 fgX11_12 rfl (by exact k_4 hF) (by exact r_4_0 hF) ?_
          refine r_getRc dX11_need_51 fgX11_131 rfl (by exact k_5 hF) (by exact r_5_4 hF) ?_
          refine r_iload_n dX11_need_54 rfl ?_
          refine r_i2l dX11_need_55 ?_
          refine r_iload_n dX11_need_56 rfl ?_
          refine r_callV4 (ci := 0) (d1 := 4) (c1 := 0) (n1 := 0) dX11_need_57 mvX11_166 rfl ⟨(Nat.le_of_ble_eq_true rfl), rfl⟩ (Nat.le_of_ble_eq_true rfl) (by exact Nat.le_of_ble_eq_true rfl) (by exact k_159 hF) ?_
          have hx := hH_of hV a1
          obtain ⟨i, hi, rfl⟩ := i32_small 3 (by omega) w27a w27b
          refine S_needAny hF hV hW hx.1 hx.2 hp157 (j := i) (by omega) (fun m1 o1 => ?_)
          show Wp g mX11_need _ _ _ 60 _ (_ :: _) _ Q
          refine r_lreturn dX11_need_60 rfl ?_
          exact k a1 j157 rfl hjn157 ⟨w18a, w18b⟩ i (by omega) rfl m1 (hC.off o1 (by omega) (by omega)) (o1.nor (by omega))
        ·
          show Wp g mX11_need _ _ _ 30 _ (_ :: _) _ Q
          refine r_if_eq 37 dX11_need_30 rfl (fun _ => ?_) (fun hz => absurd hz (by decide))
          refine r_iconst (0) dX11_need_37 rfl ?_
          refine r_callS1 (d1 := 6) (c1 := 1) (n1 := 6) dX11_need_38 msX11_63 rfl (Nat.le_of_ble_eq_true rfl) (by exact Nat.le_of_ble_eq_true rfl) ?_
          refine S_demand0 ?_
          first | exact kb a1 j157 rfl hjn157 (fun q => w18 q.1) | exact kb a1 j157 rfl hjn157 (fun q => w27 q.2)
      ·
        show Wp g mX11_need _ _ _ 21 _ (_ :: _) _ Q
        refine r_if_eq 37 dX11_need_21 rfl (fun _ => ?_) (fun hz => absurd hz (by decide))
        refine r_iconst (0) dX11_need_37 rfl ?_
        refine r_callS1 (d1 := 6) (c1 := 1) (n1 := 6) dX11_need_38 msX11_63 rfl (Nat.le_of_ble_eq_true rfl) (by exact Nat.le_of_ble_eq_true rfl) ?_
        refine S_demand0 ?_
        first | exact kb a1 j157 rfl hjn157 (fun q => w18 q.1) | exact kb a1 j157 rfl hjn157 (fun q => w27 q.2)
    ·
      exact kw a1 p157
  ·
    exact ke a0
theorem S_X11_error {g : GG} {m : MM} {Q : Out → Prop} {f : Nat → Int32} {fs : Nat → Nat → Int32} {ic : Nat} {tp : Nat → Int32} {tn : Nat} {pl : Int32} {n1 : Nat} {T1 : Nat → (Nat → Int64) → Nat → Int64} {n2 : Nat} {T2 : Nat → (Nat → Int64) → Nat → Int64} (hC : CI f fs ic tp tn pl n1 T1 n2 T2 m) {l w x y : Int32} (ke : f 0 = 0 → Q (.inr EISE, m)) (kl : ¬ f 0 = 0 → (l < 0 ∨ nI n1 ≤ l) → Q (.inr EIOB, m)) (kw : ¬ f 0 = 0 → ∀ j155, l = nI j155 → j155 < n1 → (w < 0 ∨ nI n2 ≤ w) → Q (.inr EIOB, m)) (kb : ¬ f 0 = 0 → ∀ j155, l = nI j155 → j155 < n1 → ∀ j157, w = nI j157 → j157 < n2 → ¬ ((1 ≤ x ∧ x ≤ 99) ∧ 1 ≤ y ∧ y ≤ 40) → Q (.inr EIAE, m)) (k : ¬ f 0 = 0 → ∀ j155, l = nI j155 → j155 < n1 → ∀ j157, w = nI j157 → j157 < n2 → ((1 ≤ x ∧ x ≤ 99) ∧ 1 ≤ y ∧ y ≤ 40) → ∀ m', CI f fs ic tp tn pl n1 T1 n2 T2 m' → NoR m m' → Q (.inl (some (.long (erV f (hH f) (T1 j155) (T2 j157) x y))), m')) : Cl g 7 4 24 mX11_error [.ref 4, .int l, .int w, .int x, .int y] m Q := by
  refine Cl.of rfl (by decide) (Nat.le_of_ble_eq_true rfl) ?_
  show Wp g mX11_error 7 4 24 0 [.ref 4, .int l, .int w, .int x, .int y, .retAddr 0, .retAddr 0] [] m Q
  have hF := hC.1
  have hV := hC.2.1
  have hW := hC.2.2.1
  have hS155 := hC.2.2.2.2.2.2.1
  have hS157 := hC.2.2.2.2.2.2.2
  refine r_aload_n dX11_error_0 rfl ?_
  refine r_callV0 (ci := 11) (d1 := 6) (c1 := 1) (n1 := 6) dX11_error_1 mvX11_151 rfl ⟨(Nat.le_of_ble_eq_true rfl), rfl⟩ (Nat.le_of_ble_eq_true rfl) (by exact Nat.le_of_ble_eq_true rfl) (by exact k_4 hF) ?_
  refine S_X11_demandAnyHull hF hV hW (fun a1 => ?_) (fun a0 => ?_)
  ·
    show Wp g mX11_error _ _ _ 4 _ [] _ Q
    refine r_aload_n dX11_error_4 rfl ?_
    refine r_getRc dX11_error_5 fgX11_39 rfl (by exact k_4 hF) (by exact r_4_4 hF) ?_
    refine r_iload_n dX11_error_8 rfl ?_
    refine r_callS2 (d1 := 6) (c1 := 1) (n1 := 6) dX11_error_9 msX11_157 rfl (Nat.le_of_ble_eq_true rfl) (by exact Nat.le_of_ble_eq_true rfl) ?_
    refine S_demP155 hF hS155 (fun j155 hj155 hjn155 hp155 => ?_) (fun p155 => ?_)
    ·
      subst hj155
      show Wp g mX11_error _ _ _ 12 _ (_ :: _) _ Q
      refine sa_5 dX11_error_12 rfl (Nat.le_of_ble_eq_true rfl) ?_
      refine r_aload_n dX11_error_14 rfl ?_
      refine r_getRc dX11_error_15 fgX11_43 rfl (by exact k_4 hF) (by exact r_4_5 hF) ?_
      refine r_iload_n dX11_error_18 rfl ?_
      refine r_callS2 (d1 := 6) (c1 := 1) (n1 := 6) dX11_error_19 msX11_157 rfl (Nat.le_of_ble_eq_true rfl) (by exact Nat.le_of_ble_eq_true rfl) ?_
      refine S_demP157 hF hS157 (fun j157 hj157 hjn157 hp157 => ?_) (fun p157 => ?_)
      ·
        subst hj157
        show Wp g mX11_error _ _ _ 22 _ (_ :: _) _ Q
        refine sa_6 dX11_error_22 rfl (Nat.le_of_ble_eq_true rfl) ?_
        refine r_iload_n dX11_error_24 rfl ?_
        refine r_iconst (1) dX11_error_25 rfl ?_
        refine r_bipush (99) dX11_error_26 rfl ?_
        refine r_callS3 (d1 := 0) (c1 := 0) (n1 := 0) dX11_error_28 msX11_59 rfl (Nat.le_of_ble_eq_true rfl) (by exact Nat.le_of_ble_eq_true rfl) ?_
        refine S_X11_isWithin (fun w28a w28b => ?_) (fun w28 => ?_)
        ·
          show Wp g mX11_error _ _ _ 31 _ (_ :: _) _ Q
          refine r_if_eq 49 dX11_error_31 rfl (fun hz => absurd hz (by decide)) (fun _ => ?_)
          refine r_iload dX11_error_34 rfl ?_
          refine r_iconst (1) dX11_error_36 rfl ?_
          refine r_bipush (40) dX11_error_37 rfl ?_
          refine r_callS3 (d1 := 0) (c1 := 0) (n1 := 0) dX11_error_39 msX11_59 rfl (Nat.le_of_ble_eq_true rfl) (by exact Nat.le_of_ble_eq_true rfl) ?_
          refine S_X11_isWithin (fun w39a w39b => ?_) (fun w39 => ?_)
          ·
            show Wp g mX11_error _ _ _ 42 _ (_ :: _) _ Q
            refine r_if_eq 49 dX11_error_42 rfl (fun hz => absurd hz (by decide)) (fun _ => ?_)
            refine r_iconst (1) dX11_error_45 rfl ?_
            refine r_goto 50 dX11_error_46 rfl ?_
            refine r_callS1 (d1 := 6) (c1 := 1) (n1 := 6) dX11_error_50 msX11_63 rfl (Nat.le_of_ble_eq_true rfl) (by exact Nat.le_of_ble_eq_true rfl) ?_
            refine S_demand1 ?_
            show Wp g mX11_error _ _ _ 53 _ [] _ Q
            refine r_aload_n dX11_error_53 rfl ?_
            refine r_getRc dX11_error_54 fgX11_51 rfl (by exact k_4 hF) (by exact r_4_6 hF) ?_
            refine r_aload dX11_error_57 rfl ?_
            refine r_aload dX11_error_59 rfl ?_
            refine r_iload_n dX11_error_61 rfl ?_
            refine r_iload dX11_error_62 rfl ?_
            refine r_callV4 (ci := 0) (d1 := 6) (c1 := 0) (n1 := 0) dX11_error_64 mvX11_170 rfl ⟨(Nat.le_of_ble_eq_true rfl), rfl⟩ (Nat.le_of_ble_eq_true rfl) (by exact Nat.le_of_ble_eq_true rfl) (by exact k_159 hF) ?_
            have hx := hH_of hV a1
            refine S_X0_errorOf hF hV hW hx.1 hx.2 hp155 hp157 (fun m1 o1 => ?_)
            show Wp g mX11_error _ _ _ 67 _ (_ :: _) _ Q
            refine r_lreturn dX11_error_67 rfl ?_
            exact k a1 j155 rfl hjn155 j157 rfl hjn157 ⟨⟨w28a, w28b⟩, ⟨w39a, w39b⟩⟩ m1 (hC.off o1 (by omega) (by omega)) (o1.nor (by omega))
          ·
            show Wp g mX11_error _ _ _ 42 _ (_ :: _) _ Q
            refine r_if_eq 49 dX11_error_42 rfl (fun _ => ?_) (fun hz => absurd hz (by decide))
            refine r_iconst (0) dX11_error_49 rfl ?_
            refine r_callS1 (d1 := 6) (c1 := 1) (n1 := 6) dX11_error_50 msX11_63 rfl (Nat.le_of_ble_eq_true rfl) (by exact Nat.le_of_ble_eq_true rfl) ?_
            refine S_demand0 ?_
            first | exact kb a1 j155 rfl hjn155 j157 rfl hjn157 (fun q => w28 q.1) | exact kb a1 j155 rfl hjn155 j157 rfl hjn157 (fun q => w39 q.2)
        ·
          show Wp g mX11_error _ _ _ 31 _ (_ :: _) _ Q
          refine r_if_eq 49 dX11_error_31 rfl (fun _ => ?_) (fun hz => absurd hz (by decide))
          refine r_iconst (0) dX11_error_49 rfl ?_
          refine r_callS1 (d1 := 6) (c1 := 1) (n1 := 6) dX11_error_50 msX11_63 rfl (Nat.le_of_ble_eq_true rfl) (by exact Nat.le_of_ble_eq_true rfl) ?_
          refine S_demand0 ?_
          first | exact kb a1 j155 rfl hjn155 j157 rfl hjn157 (fun q => w28 q.1) | exact kb a1 j155 rfl hjn155 j157 rfl hjn157 (fun q => w39 q.2)
      ·
        exact kw a1 j155 rfl hjn155 p157
    ·
      exact kl a1 p155
  ·
    exact ke a0
theorem S_X11_size {g : GG} {m : MM} {Q : Out → Prop} {f : Nat → Int32} {fs : Nat → Nat → Int32} {ic : Nat} {tp : Nat → Int32} {tn : Nat} {pl : Int32} {n1 : Nat} {T1 : Nat → (Nat → Int64) → Nat → Int64} {n2 : Nat} {T2 : Nat → (Nat → Int64) → Nat → Int64} (hC : CI f fs ic tp tn pl n1 T1 n2 T2 m) {l w x y : Int32} (ke : f 0 = 0 → Q (.inr EISE, m)) (kl : ¬ f 0 = 0 → (l < 0 ∨ nI n1 ≤ l) → Q (.inr EIOB, m)) (kw : ¬ f 0 = 0 → ∀ j155, l = nI j155 → j155 < n1 → (w < 0 ∨ nI n2 ≤ w) → Q (.inr EIOB, m)) (kb : ¬ f 0 = 0 → ∀ j155, l = nI j155 → j155 < n1 → ∀ j157, w = nI j157 → j157 < n2 → ¬ ((1 ≤ x ∧ x ≤ 99) ∧ 0 ≤ y ∧ y ≤ 9999) → Q (.inr EIAE, m)) (k : ¬ f 0 = 0 → ∀ j155, l = nI j155 → j155 < n1 → ∀ j157, w = nI j157 → j157 < n2 → ((1 ≤ x ∧ x ≤ 99) ∧ 0 ≤ y ∧ y ≤ 9999) → ∀ m', CI f fs ic tp tn pl n1 T1 n2 T2 m' → NoR m m' → Q (.inl (some (.int (bsF f (hH f) (T1 j155) (T2 j157) x y 39).1)), m')) : Cl g 7 4 24 mX11_size [.ref 4, .int l, .int w, .int x, .int y] m Q := by
  refine Cl.of rfl (by decide) (Nat.le_of_ble_eq_true rfl) ?_
  show Wp g mX11_size 7 4 24 0 [.ref 4, .int l, .int w, .int x, .int y, .retAddr 0, .retAddr 0] [] m Q
  have hF := hC.1
  have hV := hC.2.1
  have hW := hC.2.2.1
  have hS155 := hC.2.2.2.2.2.2.1
  have hS157 := hC.2.2.2.2.2.2.2
  refine r_aload_n dX11_size_0 rfl ?_
  refine r_callV0 (ci := 11) (d1 := 6) (c1 := 1) (n1 := 6) dX11_size_1 mvX11_151 rfl ⟨(Nat.le_of_ble_eq_true rfl), rfl⟩ (Nat.le_of_ble_eq_true rfl) (by exact Nat.le_of_ble_eq_true rfl) (by exact k_4 hF) ?_
  refine S_X11_demandAnyHull hF hV hW (fun a1 => ?_) (fun a0 => ?_)
  ·
    show Wp g mX11_size _ _ _ 4 _ [] _ Q
    refine r_aload_n dX11_size_4 rfl ?_
    refine r_getRc dX11_size_5 fgX11_39 rfl (by exact k_4 hF) (by exact r_4_4 hF) ?_
    refine r_iload_n dX11_size_8 rfl ?_
    refine r_callS2 (d1 := 6) (c1 := 1) (n1 := 6) dX11_size_9 msX11_157 rfl (Nat.le_of_ble_eq_true rfl) (by exact Nat.le_of_ble_eq_true rfl) ?_
    refine S_demP155 hF hS155 (fun j155 hj155 hjn155 hp155 => ?_) (fun p155 => ?_)
    ·
      subst hj155
      show Wp g mX11_size _ _ _ 12 _ (_ :: _) _ Q
      refine sa_5 dX11_size_12 rfl (Nat.le_of_ble_eq_true rfl) ?_
      refine r_aload_n dX11_size_14 rfl ?_
      refine r_getRc dX11_size_15 fgX11_43 rfl (by exact k_4 hF) (by exact r_4_5 hF) ?_
      refine r_iload_n dX11_size_18 rfl ?_
      refine r_callS2 (d1 := 6) (c1 := 1) (n1 := 6) dX11_size_19 msX11_157 rfl (Nat.le_of_ble_eq_true rfl) (by exact Nat.le_of_ble_eq_true rfl) ?_
      refine S_demP157 hF hS157 (fun j157 hj157 hjn157 hp157 => ?_) (fun p157 => ?_)
      ·
        subst hj157
        show Wp g mX11_size _ _ _ 22 _ (_ :: _) _ Q
        refine sa_6 dX11_size_22 rfl (Nat.le_of_ble_eq_true rfl) ?_
        refine r_iload_n dX11_size_24 rfl ?_
        refine r_iconst (1) dX11_size_25 rfl ?_
        refine r_bipush (99) dX11_size_26 rfl ?_
        refine r_callS3 (d1 := 0) (c1 := 0) (n1 := 0) dX11_size_28 msX11_59 rfl (Nat.le_of_ble_eq_true rfl) (by exact Nat.le_of_ble_eq_true rfl) ?_
        refine S_X11_isWithin (fun w28a w28b => ?_) (fun w28 => ?_)
        ·
          show Wp g mX11_size _ _ _ 31 _ (_ :: _) _ Q
          refine r_if_eq 50 dX11_size_31 rfl (fun hz => absurd hz (by decide)) (fun _ => ?_)
          refine r_iload dX11_size_34 rfl ?_
          refine r_iconst (0) dX11_size_36 rfl ?_
          refine r_sipush (9999) dX11_size_37 rfl ?_
          refine r_callS3 (d1 := 0) (c1 := 0) (n1 := 0) dX11_size_40 msX11_59 rfl (Nat.le_of_ble_eq_true rfl) (by exact Nat.le_of_ble_eq_true rfl) ?_
          refine S_X11_isWithin (fun w40a w40b => ?_) (fun w40 => ?_)
          ·
            show Wp g mX11_size _ _ _ 43 _ (_ :: _) _ Q
            refine r_if_eq 50 dX11_size_43 rfl (fun hz => absurd hz (by decide)) (fun _ => ?_)
            refine r_iconst (1) dX11_size_46 rfl ?_
            refine r_goto 51 dX11_size_47 rfl ?_
            refine r_callS1 (d1 := 6) (c1 := 1) (n1 := 6) dX11_size_51 msX11_63 rfl (Nat.le_of_ble_eq_true rfl) (by exact Nat.le_of_ble_eq_true rfl) ?_
            refine S_demand1 ?_
            show Wp g mX11_size _ _ _ 54 _ [] _ Q
            refine r_aload_n dX11_size_54 rfl ?_
            refine r_getRc dX11_size_55 fgX11_51 rfl (by exact k_4 hF) (by exact r_4_6 hF) ?_
            refine r_aload dX11_size_58 rfl ?_
            refine r_aload dX11_size_60 rfl ?_
            refine r_iload_n dX11_size_62 rfl ?_
            refine r_iload dX11_size_63 rfl ?_
            refine r_callV4 (ci := 0) (d1 := 6) (c1 := 0) (n1 := 0) dX11_size_65 mvX11_174 rfl ⟨(Nat.le_of_ble_eq_true rfl), rfl⟩ (Nat.le_of_ble_eq_true rfl) (by exact Nat.le_of_ble_eq_true rfl) (by exact k_159 hF) ?_
            have hx := hH_of hV a1
            refine S_X0_bestScale hF hV hW hx.1 hx.2 hp155 hp157 (fun m1 o1 => ?_)
            show Wp g mX11_size _ _ _ 68 _ (_ :: _) _ Q
            refine r_ireturn dX11_size_68 rfl rfl ?_
            exact k a1 j155 rfl hjn155 j157 rfl hjn157 ⟨⟨w28a, w28b⟩, ⟨w40a, w40b⟩⟩ m1 (hC.off o1 (by omega) (by omega)) (o1.nor (by omega))
          ·
            show Wp g mX11_size _ _ _ 43 _ (_ :: _) _ Q
            refine r_if_eq 50 dX11_size_43 rfl (fun _ => ?_) (fun hz => absurd hz (by decide))
            refine r_iconst (0) dX11_size_50 rfl ?_
            refine r_callS1 (d1 := 6) (c1 := 1) (n1 := 6) dX11_size_51 msX11_63 rfl (Nat.le_of_ble_eq_true rfl) (by exact Nat.le_of_ble_eq_true rfl) ?_
            refine S_demand0 ?_
            first | exact kb a1 j155 rfl hjn155 j157 rfl hjn157 (fun q => w28 q.1) | exact kb a1 j155 rfl hjn155 j157 rfl hjn157 (fun q => w40 q.2)
        ·
          show Wp g mX11_size _ _ _ 31 _ (_ :: _) _ Q
          refine r_if_eq 50 dX11_size_31 rfl (fun _ => ?_) (fun hz => absurd hz (by decide))
          refine r_iconst (0) dX11_size_50 rfl ?_
          refine r_callS1 (d1 := 6) (c1 := 1) (n1 := 6) dX11_size_51 msX11_63 rfl (Nat.le_of_ble_eq_true rfl) (by exact Nat.le_of_ble_eq_true rfl) ?_
          refine S_demand0 ?_
          first | exact kb a1 j155 rfl hjn155 j157 rfl hjn157 (fun q => w28 q.1) | exact kb a1 j155 rfl hjn155 j157 rfl hjn157 (fun q => w40 q.2)
      ·
        exact kw a1 j155 rfl hjn155 p157
    ·
      exact kl a1 p155
  ·
    exact ke a0
theorem S_X11_sides {g : GG} {m : MM} {Q : Out → Prop} {f : Nat → Int32} {fs : Nat → Nat → Int32} {ic : Nat} {tp : Nat → Int32} {tn : Nat} {pl : Int32} {n1 : Nat} {T1 : Nat → (Nat → Int64) → Nat → Int64} {n2 : Nat} {T2 : Nat → (Nat → Int64) → Nat → Int64} (hC : CI f fs ic tp tn pl n1 T1 n2 T2 m) {l : Int32} (ke : f 0 = 0 → Q (.inr EISE, m)) (kl : ¬ f 0 = 0 → (l < 0 ∨ nI n1 ≤ l) → Q (.inr EIOB, m)) (k : ¬ f 0 = 0 → ∀ j155, l = nI j155 → j155 < n1 → ∀ m', CI f fs ic tp tn pl n1 T1 n2 T2 m' → NoR m m' → Q (.inl (some (.long (PvV f (hH f) (T1 j155) (hd f) - PvV f (hH f) (T1 j155) (r6 (f 27) (f 28) (f 29) (-1) (f 31) (f 32))))), m')) : Cl g 7 2 12 mX11_sides [.ref 4, .int l] m Q := by
  refine Cl.of rfl (by decide) (Nat.le_of_ble_eq_true rfl) ?_
  show Wp g mX11_sides 7 2 12 0 [.ref 4, .int l, .retAddr 0] [] m Q
  have hF := hC.1
  have hV := hC.2.1
  have hW := hC.2.2.1
  have hS155 := hC.2.2.2.2.2.2.1
  have hS157 := hC.2.2.2.2.2.2.2
  refine r_aload_n dX11_sides_0 rfl ?_
  refine r_callV0 (ci := 11) (d1 := 6) (c1 := 1) (n1 := 6) dX11_sides_1 mvX11_151 rfl ⟨(Nat.le_of_ble_eq_true rfl), rfl⟩ (Nat.le_of_ble_eq_true rfl) (by exact Nat.le_of_ble_eq_true rfl) (by exact k_4 hF) ?_
  refine S_X11_demandAnyHull hF hV hW (fun a1 => ?_) (fun a0 => ?_)
  ·
    show Wp g mX11_sides _ _ _ 4 _ [] _ Q
    refine r_aload_n dX11_sides_4 rfl ?_
    refine r_getRc dX11_sides_5 fgX11_39 rfl (by exact k_4 hF) (by exact r_4_4 hF) ?_
    refine r_iload_n dX11_sides_8 rfl ?_
    refine r_callS2 (d1 := 6) (c1 := 1) (n1 := 6) dX11_sides_9 msX11_157 rfl (Nat.le_of_ble_eq_true rfl) (by exact Nat.le_of_ble_eq_true rfl) ?_
    refine S_demP155 hF hS155 (fun j155 hj155 hjn155 hp155 => ?_) (fun p155 => ?_)
    ·
      subst hj155
      show Wp g mX11_sides _ _ _ 12 _ (_ :: _) _ Q
      refine sa_2 dX11_sides_12 rfl (Nat.le_of_ble_eq_true rfl) ?_
      refine r_aload_n dX11_sides_13 rfl ?_
      refine r_getRc dX11_sides_14 fgX11_51 rfl (by exact k_4 hF) (by exact r_4_6 hF) ?_
      refine r_aload_n dX11_sides_17 rfl ?_
      refine r_callV1 (ci := 0) (d1 := 4) (c1 := 0) (n1 := 0) dX11_sides_18 mvX11_178 rfl ⟨(Nat.le_of_ble_eq_true rfl), rfl⟩ (Nat.le_of_ble_eq_true rfl) (by exact Nat.le_of_ble_eq_true rfl) (by exact k_159 hF) ?_
      have hx := hH_of hV a1
      refine S_X0_sidesAtHand hF hV hW hx.1 hx.2 hp155 (fun m1 o1 => ?_)
      show Wp g mX11_sides _ _ _ 21 _ (_ :: _) _ Q
      refine r_lreturn dX11_sides_21 rfl ?_
      exact k a1 j155 rfl hjn155 m1 (hC.off o1 (by omega) (by omega)) (o1.nor (by omega))
    ·
      exact kl a1 p155
  ·
    exact ke a0
def wdP (f : Nat → Int32) (h : Nat) (T : (Nat → Int64) → Nat → Int64) (o v : Int32) : Prop := (v = -1 ∧ ∀ i, i < 40 → ¬ lwP f h T o i) ∨ ∃ i, i < 40 ∧ v = nI (1 + i) ∧ lwP f h T o i ∧ ∀ j, j < i → ¬ lwP f h T o j
theorem S_X11_widest {g : GG} {m : MM} {Q : Out → Prop} {f : Nat → Int32} {fs : Nat → Nat → Int32} {ic : Nat} {tp : Nat → Int32} {tn : Nat} {pl : Int32} {n1 : Nat} {T1 : Nat → (Nat → Int64) → Nat → Int64} {n2 : Nat} {T2 : Nat → (Nat → Int64) → Nat → Int64} (hC : CI f fs ic tp tn pl n1 T1 n2 T2 m) {l x : Int32} (ke : f 0 = 0 → Q (.inr EISE, m)) (kl : ¬ f 0 = 0 → (l < 0 ∨ nI n1 ≤ l) → Q (.inr EIOB, m)) (kb : ¬ f 0 = 0 → ∀ j155, l = nI j155 → j155 < n1 → ¬ (0 ≤ x ∧ x ≤ 99) → Q (.inr EIAE, m)) (k : ¬ f 0 = 0 → ∀ j155, l = nI j155 → j155 < n1 → (0 ≤ x ∧ x ≤ 99) → ∀ v, wdP f (hH f) (T1 j155) x v → ∀ m', CI f fs ic tp tn pl n1 T1 n2 T2 m' → NoR m m' → Q (.inl (some (.int v)), m')) : Cl g 7 3 18 mX11_widest [.ref 4, .int l, .int x] m Q := by
  refine Cl.of rfl (by decide) (Nat.le_of_ble_eq_true rfl) ?_
  show Wp g mX11_widest 7 3 18 0 [.ref 4, .int l, .int x, .retAddr 0] [] m Q
  have hF := hC.1
  have hV := hC.2.1
  have hW := hC.2.2.1
  have hS155 := hC.2.2.2.2.2.2.1
  have hS157 := hC.2.2.2.2.2.2.2
  refine r_aload_n dX11_widest_0 rfl ?_
  refine r_callV0 (ci := 11) (d1 := 6) (c1 := 1) (n1 := 6) dX11_widest_1 mvX11_151 rfl ⟨(Nat.le_of_ble_eq_true rfl), rfl⟩ (Nat.le_of_ble_eq_true rfl) (by exact Nat.le_of_ble_eq_true rfl) (by exact k_4 hF) ?_
  refine S_X11_demandAnyHull hF hV hW (fun a1 => ?_) (fun a0 => ?_)
  ·
    show Wp g mX11_widest _ _ _ 4 _ [] _ Q
    refine r_aload_n dX11_widest_4 rfl ?_
    refine r_getRc dX11_widest_5 fgX11_39 rfl (by exact k_4 hF) (by exact r_4_4 hF) ?_
    refine r_iload_n dX11_widest_8 rfl ?_
    refine r_callS2 (d1 := 6) (c1 := 1) (n1 := 6) dX11_widest_9 msX11_157 rfl (Nat.le_of_ble_eq_true rfl) (by exact Nat.le_of_ble_eq_true rfl) ?_
    refine S_demP155 hF hS155 (fun j155 hj155 hjn155 hp155 => ?_) (fun p155 => ?_)
    ·
      subst hj155
      show Wp g mX11_widest _ _ _ 12 _ (_ :: _) _ Q
      refine sa_3 dX11_widest_12 rfl (Nat.le_of_ble_eq_true rfl) ?_
      refine r_iload_n dX11_widest_13 rfl ?_
      refine r_iconst (0) dX11_widest_14 rfl ?_
      refine r_bipush (99) dX11_widest_15 rfl ?_
      refine r_callS3 (d1 := 0) (c1 := 0) (n1 := 0) dX11_widest_17 msX11_59 rfl (Nat.le_of_ble_eq_true rfl) (by exact Nat.le_of_ble_eq_true rfl) ?_
      refine S_X11_isWithin (fun w17a w17b => ?_) (fun w17 => ?_)
      ·
        show Wp g mX11_widest _ _ _ 20 _ (_ :: _) _ Q
        refine r_callS1 (d1 := 6) (c1 := 1) (n1 := 6) dX11_widest_20 msX11_63 rfl (Nat.le_of_ble_eq_true rfl) (by exact Nat.le_of_ble_eq_true rfl) ?_
        refine S_demand1 ?_
        show Wp g mX11_widest _ _ _ 23 _ [] _ Q
        refine r_aload_n dX11_widest_23 rfl ?_
        refine r_getRc dX11_widest_24 fgX11_51 rfl (by exact k_4 hF) (by exact r_4_6 hF) ?_
        refine r_aload_n dX11_widest_27 rfl ?_
        refine r_iload_n dX11_widest_28 rfl ?_
        refine r_callV2 (ci := 0) (d1 := 4) (c1 := 0) (n1 := 0) dX11_widest_29 mvX11_182 rfl ⟨(Nat.le_of_ble_eq_true rfl), rfl⟩ (Nat.le_of_ble_eq_true rfl) (by exact Nat.le_of_ble_eq_true rfl) (by exact k_159 hF) ?_
        have hx := hH_of hV a1
        refine S_X0_leastScaleWithin hF hV hW hx.1 hx.2 hp155 hV.1.1.2 (fun u0 m1 o1 => ?_) (fun i hi u1 u2 m1 o1 => ?_)
        ·
          show Wp g mX11_widest _ _ _ 32 _ (_ :: _) _ Q
          refine r_ireturn dX11_widest_32 rfl rfl ?_
          exact k a1 j155 rfl hjn155 ⟨w17a, w17b⟩ _ (Or.inl ⟨rfl, u0⟩) m1 (hC.off o1 (by omega) (by omega)) (o1.nor (by omega))
        ·
          show Wp g mX11_widest _ _ _ 32 _ (_ :: _) _ Q
          refine r_ireturn dX11_widest_32 rfl rfl ?_
          exact k a1 j155 rfl hjn155 ⟨w17a, w17b⟩ _ (Or.inr ⟨i, hi, rfl, u2, u1⟩) m1 (hC.off o1 (by omega) (by omega)) (o1.nor (by omega))
      ·
        show Wp g mX11_widest _ _ _ 20 _ (_ :: _) _ Q
        refine r_callS1 (d1 := 6) (c1 := 1) (n1 := 6) dX11_widest_20 msX11_63 rfl (Nat.le_of_ble_eq_true rfl) (by exact Nat.le_of_ble_eq_true rfl) ?_
        refine S_demand0 ?_
        exact kb a1 j155 rfl hjn155 w17
    ·
      exact kl a1 p155
  ·
    exact ke a0
theorem S_X11_wire {g : GG} {m : MM} {Q : Out → Prop} {f : Nat → Int32} {fs : Nat → Nat → Int32} {ic : Nat} {tp : Nat → Int32} {tn : Nat} {pl : Int32} {n1 : Nat} {T1 : Nat → (Nat → Int64) → Nat → Int64} {n2 : Nat} {T2 : Nat → (Nat → Int64) → Nat → Int64} (hC : CI f fs ic tp tn pl n1 T1 n2 T2 m) (ke : f 0 = 0 → Q (.inr EISE, m)) (k : ¬ f 0 = 0 → ∀ m', CI f fs ic tp tn pl n1 T1 n2 T2 m' → NoR m m' → Q (.inl (some (.long (wrV (wrF f (nR f))))), m')) : Cl g 7 1 6 mX11_wire [.ref 4] m Q := by
  refine Cl.of rfl (by decide) (Nat.le_of_ble_eq_true rfl) ?_
  show Wp g mX11_wire 7 1 6 0 [.ref 4] [] m Q
  have hF := hC.1
  have hV := hC.2.1
  have hW := hC.2.2.1
  have hS155 := hC.2.2.2.2.2.2.1
  have hS157 := hC.2.2.2.2.2.2.2
  refine r_aload_n dX11_wire_0 rfl ?_
  refine r_callV0 (ci := 11) (d1 := 6) (c1 := 1) (n1 := 6) dX11_wire_1 mvX11_151 rfl ⟨(Nat.le_of_ble_eq_true rfl), rfl⟩ (Nat.le_of_ble_eq_true rfl) (by exact Nat.le_of_ble_eq_true rfl) (by exact k_4 hF) ?_
  refine S_X11_demandAnyHull hF hV hW (fun a1 => ?_) (fun a0 => ?_)
  ·
    show Wp g mX11_wire _ _ _ 4 _ [] _ Q
    refine r_aload_n dX11_wire_4 rfl ?_
    refine r_getRc dX11_wire_5 fgX11_51 rfl (by exact k_4 hF) (by exact r_4_6 hF) ?_
    refine r_callV0 (ci := 0) (d1 := 3) (c1 := 0) (n1 := 0) dX11_wire_8 mvX11_208 rfl ⟨(Nat.le_of_ble_eq_true rfl), rfl⟩ (Nat.le_of_ble_eq_true rfl) (by exact Nat.le_of_ble_eq_true rfl) (by exact k_159 hF) ?_
    refine S_X0_wirePart hF hV hW ?_
    show Wp g mX11_wire _ _ _ 11 _ (_ :: _) _ Q
    refine r_lreturn dX11_wire_11 rfl ?_
    exact k a1 m hC NoR.rf
  ·
    exact ke a0
theorem S_X11_fits {g : GG} {m : MM} {Q : Out → Prop} {f : Nat → Int32} {fs : Nat → Nat → Int32} {ic : Nat} {tp : Nat → Int32} {tn : Nat} {pl : Int32} {n1 : Nat} {T1 : Nat → (Nat → Int64) → Nat → Int64} {n2 : Nat} {T2 : Nat → (Nat → Int64) → Nat → Int64} (hC : CI f fs ic tp tn pl n1 T1 n2 T2 m) {x : Int32} (kb : ¬ (0 ≤ x ∧ x ≤ 99) → Q (.inr EIAE, m)) (k : (0 ≤ x ∧ x ≤ 99) → ∀ m', CI f fs ic tp tn pl n1 T1 n2 T2 m' → NoR m m' → Q (.inl (some (.int (bitsF (fitB f T1 x) n1))), m')) : Cl g 7 1 6 mX11_fits [.ref 4, .int x] m Q := by
  refine Cl.of rfl (by decide) (Nat.le_of_ble_eq_true rfl) ?_
  show Wp g mX11_fits 7 1 6 0 [.ref 4, .int x] [] m Q
  have hF := hC.1
  have hV := hC.2.1
  have hW := hC.2.2.1
  have hS155 := hC.2.2.2.2.2.2.1
  have hS157 := hC.2.2.2.2.2.2.2
  refine r_iload_n dX11_fits_0 rfl ?_
  refine r_iconst (0) dX11_fits_1 rfl ?_
  refine r_bipush (99) dX11_fits_2 rfl ?_
  refine r_callS3 (d1 := 0) (c1 := 0) (n1 := 0) dX11_fits_4 msX11_59 rfl (Nat.le_of_ble_eq_true rfl) (by exact Nat.le_of_ble_eq_true rfl) ?_
  refine S_X11_isWithin (fun w4a w4b => ?_) (fun w4 => ?_)
  ·
    show Wp g mX11_fits _ _ _ 7 _ (_ :: _) _ Q
    refine r_callS1 (d1 := 6) (c1 := 1) (n1 := 6) dX11_fits_7 msX11_63 rfl (Nat.le_of_ble_eq_true rfl) (by exact Nat.le_of_ble_eq_true rfl) ?_
    refine S_demand1 ?_
    show Wp g mX11_fits _ _ _ 10 _ [] _ Q
    refine r_aload_n dX11_fits_10 rfl ?_
    refine r_getRc dX11_fits_11 fgX11_51 rfl (by exact k_4 hF) (by exact r_4_6 hF) ?_
    refine r_aload_n dX11_fits_14 rfl ?_
    refine r_getRc dX11_fits_15 fgX11_39 rfl (by exact k_4 hF) (by exact r_4_4 hF) ?_
    refine r_iload_n dX11_fits_18 rfl ?_
    refine r_callV2 (ci := 0) (d1 := 5) (c1 := 0) (n1 := 0) dX11_fits_19 mvX11_212 rfl ⟨(Nat.le_of_ble_eq_true rfl), rfl⟩ (Nat.le_of_ble_eq_true rfl) (by exact Nat.le_of_ble_eq_true rfl) (by exact k_159 hF) ?_
    refine S_X0_fittingLaws hF hV hW hS155 (fun m1 o1 => ?_)
    show Wp g mX11_fits _ _ _ 22 _ (_ :: _) _ Q
    refine r_ireturn dX11_fits_22 rfl rfl ?_
    exact k ⟨w4a, w4b⟩ m1 (hC.off o1 (by omega) (by omega)) (o1.nor (by omega))
  ·
    show Wp g mX11_fits _ _ _ 7 _ (_ :: _) _ Q
    refine r_callS1 (d1 := 6) (c1 := 1) (n1 := 6) dX11_fits_7 msX11_63 rfl (Nat.le_of_ble_eq_true rfl) (by exact Nat.le_of_ble_eq_true rfl) ?_
    refine S_demand0 ?_
    exact kb w4
theorem S_X11_telling {g : GG} {m : MM} {Q : Out → Prop} {f : Nat → Int32} {fs : Nat → Nat → Int32} {ic : Nat} {tp : Nat → Int32} {tn : Nat} {pl : Int32} {n1 : Nat} {T1 : Nat → (Nat → Int64) → Nat → Int64} {n2 : Nat} {T2 : Nat → (Nat → Int64) → Nat → Int64} (hC : CI f fs ic tp tn pl n1 T1 n2 T2 m) {x : Int32} (ke : f 0 = 0 → Q (.inr EISE, m)) (kb : ¬ f 0 = 0 → ¬ (0 ≤ x ∧ x ≤ 99) → Q (.inr EIAE, m)) (k : ¬ f 0 = 0 → (0 ≤ x ∧ x ≤ 99) → ∀ m', CI f fs ic tp tn pl n1 T1 n2 T2 m' → NoR m m' → Q (.inl (some (.int (if bcV (bitsF (fitB f T1 x) n1) < 2 then -1 else (tlF f (hH f) T1 (fitB f T1 x) n1 99).1))), m')) : Cl g 7 2 12 mX11_telling [.ref 4, .int x] m Q := by
  refine Cl.of rfl (by decide) (Nat.le_of_ble_eq_true rfl) ?_
  show Wp g mX11_telling 7 2 12 0 [.ref 4, .int x] [] m Q
  have hF := hC.1
  have hV := hC.2.1
  have hW := hC.2.2.1
  have hS155 := hC.2.2.2.2.2.2.1
  have hS157 := hC.2.2.2.2.2.2.2
  have hn6 := hV.1.1.2
  refine r_aload_n dX11_telling_0 rfl ?_
  refine r_callV0 (ci := 11) (d1 := 6) (c1 := 1) (n1 := 6) dX11_telling_1 mvX11_151 rfl ⟨(Nat.le_of_ble_eq_true rfl), rfl⟩ (Nat.le_of_ble_eq_true rfl) (by exact Nat.le_of_ble_eq_true rfl) (by exact k_4 hF) ?_
  refine S_X11_demandAnyHull hF hV hW (fun a1 => ?_) (fun a0 => ?_)
  ·
    show Wp g mX11_telling _ _ _ 4 _ [] _ Q
    refine r_iload_n dX11_telling_4 rfl ?_
    refine r_iconst (0) dX11_telling_5 rfl ?_
    refine r_bipush (99) dX11_telling_6 rfl ?_
    refine r_callS3 (d1 := 0) (c1 := 0) (n1 := 0) dX11_telling_8 msX11_59 rfl (Nat.le_of_ble_eq_true rfl) (by exact Nat.le_of_ble_eq_true rfl) ?_
    refine S_X11_isWithin (fun w8a w8b => ?_) (fun w8 => ?_)
    ·
      show Wp g mX11_telling _ _ _ 11 _ (_ :: _) _ Q
      refine r_callS1 (d1 := 6) (c1 := 1) (n1 := 6) dX11_telling_11 msX11_63 rfl (Nat.le_of_ble_eq_true rfl) (by exact Nat.le_of_ble_eq_true rfl) ?_
      refine S_demand1 ?_
      show Wp g mX11_telling _ _ _ 14 _ [] _ Q
      refine r_aload_n dX11_telling_14 rfl ?_
      refine r_getRc dX11_telling_15 fgX11_51 rfl (by exact k_4 hF) (by exact r_4_6 hF) ?_
      refine r_aload_n dX11_telling_18 rfl ?_
      refine r_getRc dX11_telling_19 fgX11_39 rfl (by exact k_4 hF) (by exact r_4_4 hF) ?_
      refine r_aload_n dX11_telling_22 rfl ?_
      refine r_getRc dX11_telling_23 fgX11_51 rfl (by exact k_4 hF) (by exact r_4_6 hF) ?_
      refine r_aload_n dX11_telling_26 rfl ?_
      refine r_getRc dX11_telling_27 fgX11_39 rfl (by exact k_4 hF) (by exact r_4_4 hF) ?_
      refine r_iload_n dX11_telling_30 rfl ?_
      refine r_callV2 (ci := 0) (d1 := 5) (c1 := 0) (n1 := 0) dX11_telling_31 mvX11_212 rfl ⟨(Nat.le_of_ble_eq_true rfl), rfl⟩ (Nat.le_of_ble_eq_true rfl) (by exact Nat.le_of_ble_eq_true rfl) (by exact k_159 hF) ?_
      have hx := hH_of hV a1
      refine S_X0_fittingLaws hF hV hW hS155 (fun m1 q1 => ?_)
      have o1 := (Off.rf (lo := 160) (hi := 166) (m := m)).tr ((q1).wd (by omega) (by omega))
      have hF1 := Fx_of o1.1 hF
      have hW1 := hW.off o1 (by omega) hn6
      show Wp g mX11_telling _ _ _ 34 _ (_ :: _) _ Q
      refine r_callV2 (ci := 0) (d1 := 5) (c1 := 0) (n1 := 0) dX11_telling_34 mvX11_216 rfl ⟨(Nat.le_of_ble_eq_true rfl), rfl⟩ (Nat.le_of_ble_eq_true rfl) (by exact Nat.le_of_ble_eq_true rfl) (by exact k_159 hF1) ?_
      refine S_X0_tellingSpeed hF1 hV hW1 hx.1 hx.2 (hS155.off o1 (by omega) (by omega)) (fun m2 o2 => ?_)
      show Wp g mX11_telling _ _ _ 37 _ (_ :: _) _ Q
      refine r_ireturn dX11_telling_37 rfl rfl ?_
      exact k a1 ⟨w8a, w8b⟩ m2 (hC.off (o1.tr o2) (by omega) (by omega)) ((o1.tr o2).nor (by omega))
    ·
      show Wp g mX11_telling _ _ _ 11 _ (_ :: _) _ Q
      refine r_callS1 (d1 := 6) (c1 := 1) (n1 := 6) dX11_telling_11 msX11_63 rfl (Nat.le_of_ble_eq_true rfl) (by exact Nat.le_of_ble_eq_true rfl) ?_
      refine S_demand0 ?_
      exact kb a1 w8
  ·
    exact ke a0
