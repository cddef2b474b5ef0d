theorem addB {x y : Int64} {A B : Int} (hx : 0 ≤ x.toInt ∧ x.toInt ≤ A) (hy : 0 ≤ y.toInt ∧ y.toInt ≤ B) (h : A + B < 4611686018427387904) : (x + y).toInt = x.toInt + y.toInt ∧ 0 ≤ (x + y).toInt ∧ (x + y).toInt ≤ A + B := by
  have e : (x + y).toInt = x.toInt + y.toInt := by rw [Int64.toInt_add, Int.bmod_eq_of_le (by omega) (by omega)]
  rw [e]; exact ⟨rfl, by omega, by omega⟩
theorem c34 {j : Int32} {x : Int64} (h : j = 4 ∨ j = 3 ∨ j = 7) : 0 ≤ (capT j x).toInt ∧ (capT j x).toInt ≤ 10000 := by
  unfold capT
  have y : (0 : Int64).toInt = 0 := rfl
  have y1 : (10000 : Int64).toInt = 10000 := rfl
  rw [if_pos h]
  split
  · omega
  · rename_i z
    have z1 : ¬ x.toInt < (0 : Int64).toInt := fun w => z (Int64.lt_iff_toInt_lt.mpr w)
    split
    · omega
    · rename_i w
      have w1 : ¬ (10000 : Int64).toInt < x.toInt := fun q => w (Int64.lt_iff_toInt_lt.mpr q)
      omega
theorem sk_b (t : Nat → Int64) : 0 ≤ (skF t).toInt ∧ (skF t).toInt ≤ 10001000000000 := by
  have a := capT_rng (j := 0) (x := t 0)
  have p := mulB a (c34 (j := 4) (x := t 4) (by decide)) (by omega)
  have q := divB (y := 100) ⟨p.2.1, p.2.2⟩ (by omega) (by decide)
  have r := addB a ⟨q.2.1, q.2.2⟩ (by omega)
  exact ⟨r.2.1, by have := r.2.2; unfold skF; omega⟩
theorem al_b (t : Nat → Int64) : 0 ≤ (alF t).toInt ∧ (alF t).toInt ≤ 10003000000000 := by
  have a := addB (sk_b t) (capT_rng (j := 1) (x := t 1)) (by omega)
  have r := addB ⟨a.2.1, a.2.2⟩ (capT_rng (j := 2) (x := t 2)) (by omega)
  exact ⟨r.2.1, by have := r.2.2; unfold alF; omega⟩
theorem pu_b (t : Nat → Int64) : 0 ≤ (puF t).toInt ∧ (puF t).toInt ≤ 100040003000000000 := by
  have a := al_b t
  have p := mulB a (c34 (j := 3) (x := t 3) (by decide)) (by omega)
  have q := divB (y := 100) ⟨p.2.1, p.2.2⟩ (by omega) (by decide)
  have r := addB a ⟨q.2.1, q.2.2⟩ (by omega)
  exact ⟨r.2.1, by have := r.2.2; unfold puF; omega⟩
theorem mn_wi {x : Int64} (h : 0 ≤ x.toInt) : wiN x 0 1000000000 = mnP x ∧ 0 ≤ (mnP x).toInt ∧ (mnP x).toInt ≤ 1000000000 := by
  refine ⟨?_, mnP_ge h, mnP_le x⟩
  unfold wiN mnP
  rw [if_neg (fun z => by have := Int64.lt_iff_toInt_lt.mp z; have y : (0 : Int64).toInt = 0 := rfl; omega)]
theorem nd_b {f : Nat → Int32} {h : Nat} {T : TL} {rv : Nat → Int32} {pl : Int64} (hk : iv 1 40 (rv 1)) (hp : 0 ≤ pl.toInt ∧ pl.toInt ≤ 1000000000) : 0 ≤ (ndV f h T rv pl).toInt ∧ (ndV f h T rv pl).toInt ≤ 4000000000000000000 := by
  have y : (0 : Int64).toInt = 0 := rfl
  have c5 := capT_rng (j := 5) (x := T (cut (NmH f h rv)) 5)
  have r0 : 0 ≤ (ndR f h T rv pl).toInt ∧ (ndR f h T rv pl).toInt ≤ 1000000000 := by
    unfold ndR
    split
    · rename_i z
      have e : (pl - capT 5 (T (cut (NmH f h rv)) 5)).toInt = pl.toInt - (capT 5 (T (cut (NmH f h rv)) 5)).toInt := by rw [Int64.toInt_sub, Int.bmod_eq_of_le (by omega) (by omega)]
      have z1 := Int64.lt_iff_toInt_lt.mp z
      rw [e] at z1 ⊢
      omega
    · omega
  have k1 := t64B (x := rv 1) (A := 40) ⟨by have := hk.1; omega, hk.2⟩
  have g1 := mulB r0 k1 (by omega)
  have g2 := mulB ⟨g1.2.1, g1.2.2⟩ k1 (by omega)
  have g3 := mulB ⟨g2.2.1, g2.2.2⟩ k1 (by omega)
  have a1 := addB (x := ndG f h T rv pl) ⟨g3.2.1, g3.2.2⟩ (capT_rng (j := 6) (x := T (cut (NmH f h (shR rv))) 6)) (by omega)
  have p := mulB (x := ndA f h T rv pl) ⟨a1.2.1, a1.2.2⟩ (c34 (j := 7) (x := T (cut (NmH f h (shR rv))) 7) (by decide)) (by omega)
  have q := divB (y := 100) ⟨p.2.1, p.2.2⟩ (by omega) (by decide)
  have r := addB (x := ndA f h T rv pl) ⟨a1.2.1, a1.2.2⟩ ⟨q.2.1, q.2.2⟩ (by omega)
  exact ⟨r.2.1, by have := r.2.2; unfold ndV; omega⟩
def amN (x : Int64) : Int64 := if x < 0 then -x else x
theorem am_dst {x y : Int64} (hx : 0 ≤ x.toInt ∧ x.toInt ≤ 4000000000000000000) (hy : 0 ≤ y.toInt ∧ y.toInt ≤ 4000000000000000000) : amN (x - y) = dst x y := by
  have e : (x - y).toInt = x.toInt - y.toInt := by rw [Int64.toInt_sub, Int.bmod_eq_of_le (by omega) (by omega)]
  have z : (0 : Int64).toInt = 0 := rfl
  unfold amN dst
  by_cases c : y ≤ x
  · have c1 := Int64.le_iff_toInt_le.mp c
    rw [if_pos c, if_neg (fun q => by have := Int64.lt_iff_toInt_lt.mp q; omega)]
  · have c1 : ¬ y.toInt ≤ x.toInt := fun q => c (Int64.le_iff_toInt_le.mpr q)
    rw [if_neg c, if_pos (Int64.lt_iff_toInt_lt.mpr (by omega))]
    refine Int64.toInt_inj.mp ?_
    rw [Int64.toInt_neg, e, Int64.toInt_sub, Int.bmod_eq_of_le (by omega) (by omega), Int.bmod_eq_of_le (by omega) (by omega)]; omega
theorem S_X12_amount {g : GG} {m : MM} {Q : Out → Prop} {v : Int64} (k : Q (.inl (some (.long (amN v))), m)) : Cl g 0 0 0 mX12_amount [.long v] m Q := by
  refine Cl.of rfl (by decide) (Nat.le_of_ble_eq_true rfl) ?_
  show Wp g mX12_amount 0 0 0 0 [.long v, .retAddr 0] [] m Q
  refine r_lload_n dX12_amount_0 rfl ?_
  refine r_lconst (0) dX12_amount_1 rfl ?_
  refine r_lcmp_ge 11 dX12_amount_2 dX12_amount_3 rfl (fun a => ?_) (fun a => ?_)
  ·
    refine r_lload_n dX12_amount_11 rfl ?_
    refine r_lreturn dX12_amount_12 rfl ?_
    unfold amN at k; first | (rw [if_neg (i64_nlt.mpr a)] at k; exact k) | (rw [if_pos (i64_nle.mp a)] at k; exact k)
  ·
    refine r_lload_n dX12_amount_6 rfl ?_
    refine r_lneg dX12_amount_7 ?_
    refine r_goto 12 dX12_amount_8 rfl ?_
    refine r_lreturn dX12_amount_12 rfl ?_
    unfold amN at k; first | (rw [if_neg (i64_nlt.mpr a)] at k; exact k) | (rw [if_pos (i64_nle.mp a)] at k; exact k)
theorem ms_spec {v k : Int32} (hv : iv 1 99 v) (hk : iv 1 40 k) : ∃ M : Nat, 1 ≤ M ∧ M ≤ 99 ∧ (msS v k).toInt32 = nI M ∧ (∀ j : Nat, 1 ≤ j → j < M → ((j : Int) + 1) * (j + 1) * k.toInt ≤ v.toInt * v.toInt) ∧ v.toInt * v.toInt < ((M : Int) + 1) * (M + 1) * k.toInt := by
  unfold iv at hv hk
  have a := t64B (x := v) (A := 99) ⟨by omega, hv.2⟩
  have p := mulB a a (by omega)
  have k1 : (1 : Int) ≤ k.toInt64.toInt := by rw [Int32.toInt_toInt64]; exact hk.1
  have d := divB (y := k.toInt64) ⟨p.2.1, p.2.2⟩ (by omega) k1
  have kz : ¬ k.toInt64 = 0 := fun q => by rw [q] at k1; exact absurd k1 (by decide)
  have eX : ovF (v.toInt64 * v.toInt64) k.toInt64 = v.toInt64 * v.toInt64 / k.toInt64 := if_neg kz
  have sq := rtF_sq (v := v.toInt64 * v.toInt64 / k.toInt64) d.2.1
  have eI : (v.toInt64 * v.toInt64 / k.toInt64).toInt = v.toInt * v.toInt / k.toInt := by rw [d.1, p.1, Int32.toInt_toInt64, Int32.toInt_toInt64]
  rw [eI] at sq
  obtain ⟨r0, r1, r2, r3⟩ := sq
  have vv : v.toInt * v.toInt ≤ 99 * 99 := Int.mul_le_mul hv.2 hv.2 (by omega) (by omega)
  have v0 : 0 ≤ v.toInt * v.toInt := Int.mul_nonneg (by omega) (by omega)
  have xl : v.toInt * v.toInt / k.toInt ≤ v.toInt * v.toInt := Int.ediv_le_self _ v0
  have xk : v.toInt * v.toInt / k.toInt * k.toInt ≤ v.toInt * v.toInt := Int.ediv_mul_le _ (by omega)
  have xu : v.toInt * v.toInt < (v.toInt * v.toInt / k.toInt + 1) * k.toInt := Int.lt_ediv_add_one_mul_self _ (by omega)
  generalize hR : (rtF (v.toInt64 * v.toInt64 / k.toInt64)).toInt = R at r0 r1 r2 r3
  have R99 : R ≤ 99 := by
    refine Int.not_lt.mp (fun q => ?_)
    have : 100 * 100 ≤ R * R := Int.mul_le_mul (by omega) (by omega) (by omega) (by omega)
    omega
  have o : (1 : Int64).toInt = 1 := rfl
  have em : (msS v k).toInt = if 1 < R then R else 1 := by
    unfold msS
    rw [eX]
    by_cases c : 1 < R
    · rw [if_pos (Int64.lt_iff_toInt_lt.mpr (by rw [hR, o]; exact c)), if_pos c]; exact hR
    · rw [if_neg (fun q => c (by have := Int64.lt_iff_toInt_lt.mp q; rw [hR, o] at this; exact this)), if_neg c]; exact o
  refine ⟨(if 1 < R then R else 1).toNat, ?_, ?_, ?_, ?_, ?_⟩
  · split <;> omega
  · split <;> omega
  · refine Int32.toInt_inj.mp ?_
    rw [nI_int _ (by split <;> omega), Int64.toInt_toInt32, em, Int.bmod_eq_of_le (by split <;> omega) (by split <;> omega)]
    split <;> omega
  · intro j j1 hj
    have c : 1 < R := by
      by_cases c : 1 < R
      · exact c
      · rw [if_neg c] at hj; omega
    rw [if_pos c] at hj
    have g1 : ((j : Int) + 1) * (j + 1) ≤ R * R := Int.mul_le_mul (by omega) (by omega) (by omega) (by omega)
    have g2 : ((j : Int) + 1) * (j + 1) * k.toInt ≤ v.toInt * v.toInt / k.toInt * k.toInt := Int.mul_le_mul_of_nonneg_right (by omega) (by omega)
    omega
  · have g1 : v.toInt * v.toInt / k.toInt + 1 ≤ (((if 1 < R then R else 1).toNat : Int) + 1) * (((if 1 < R then R else 1).toNat : Int) + 1) := by
      by_cases c : 1 < R
      · rw [if_pos c, show ((R.toNat : Int)) = R from by omega]
        omega
      · rw [if_neg c]
        have : R = 0 ∨ R = 1 := by omega
        rcases this with q | q
        · rw [q] at r3; show _ ≤ ((1 : Int) + 1) * (1 + 1); omega
        · rw [q] at r3; show _ ≤ ((1 : Int) + 1) * (1 + 1); omega
    have g2 := Int.mul_le_mul_of_nonneg_right g1 (show 0 ≤ k.toInt by omega)
    omega
theorem ms_i {v k : Int32} {j : Nat} (hv : iv 1 99 v) (hk : iv 1 40 k) (hj : j ≤ 99) : ((nI j + 1) * (nI j + 1) * k).toInt = ((j : Int) + 1) * (j + 1) * k.toInt ∧ (v * v).toInt = v.toInt * v.toInt := by
  have e := nI_1 j
  rw [e]
  have b1 : iv 0 100 (nI (j + 1)) := by unfold iv; rw [nI_int _ (by omega)]; omega
  unfold iv at hv hk
  have i1 := nI_int (j + 1) (by omega)
  have m1 : ((j : Int) + 1) * (j + 1) ≤ 100 * 100 := Int.mul_le_mul (by omega) (by omega) (by omega) (by omega)
  have m0 : 0 ≤ ((j : Int) + 1) * (j + 1) := Int.mul_nonneg (by omega) (by omega)
  have m2 : ((j : Int) + 1) * (j + 1) * k.toInt ≤ 100 * 100 * 40 := Int.mul_le_mul m1 hk.2 (by omega) (by omega)
  have m3 : 0 ≤ ((j : Int) + 1) * (j + 1) * k.toInt := Int.mul_nonneg m0 (by omega)
  have v1 : v.toInt * v.toInt ≤ 99 * 99 := Int.mul_le_mul hv.2 hv.2 (by omega) (by omega)
  have v0 : 0 ≤ v.toInt * v.toInt := Int.mul_nonneg (by omega) (by omega)
  refine ⟨?_, by rw [Int32.toInt_mul, Int.bmod_eq_of_le (by omega) (by omega)]⟩
  rw [Int32.toInt_mul, Int32.toInt_mul, i1, show ((j + 1 : Nat) : Int) = (j : Int) + 1 from by omega, Int.bmod_eq_of_le (n := ((j : Int) + 1) * (j + 1)) (by omega) (by omega), Int.bmod_eq_of_le (by omega) (by omega)]
theorem L_msp {g : GG} {m : MM} {Q : Out → Prop} {v k : Int32} (hv : iv 1 99 v) (hk : iv 1 40 k) {M : Nat} (hM : M ≤ 99) (h1 : ∀ j : Nat, 1 ≤ j → j < M → ((j : Int) + 1) * (j + 1) * k.toInt ≤ v.toInt * v.toInt) (h2 : v.toInt * v.toInt < ((M : Int) + 1) * (M + 1) * k.toInt) (kk : Q (.inl (some (.int (nI M))), m)) : ∀ (t j : Nat), j + t = M → 1 ≤ j → Wp g mX12_modelSpeed 0 0 0 2 [.int v, .int k, .int (nI j)] [] m Q := by
  intro t
  induction t with
  | zero =>
    intro j hj j1
    obtain rfl : j = M := by omega
    have e := ms_i (j := j) hv hk (by omega)
    refine r_iload_n dX12_modelSpeed_2 rfl ?_
    refine r_iconst (1) dX12_modelSpeed_3 rfl ?_
    refine r_iadd dX12_modelSpeed_4 ?_
    refine r_iload_n dX12_modelSpeed_5 rfl ?_
    refine r_iconst (1) dX12_modelSpeed_6 rfl ?_
    refine r_iadd dX12_modelSpeed_7 ?_
    refine r_imul dX12_modelSpeed_8 ?_
    refine r_iload_n dX12_modelSpeed_9 rfl ?_
    refine r_imul dX12_modelSpeed_10 ?_
    refine r_iload_n dX12_modelSpeed_11 rfl ?_
    refine r_iload_n dX12_modelSpeed_12 rfl ?_
    refine r_imul dX12_modelSpeed_13 ?_
    refine r_icmp_gt 23 dX12_modelSpeed_14 rfl (fun hgt => ?_) (fun hgt => ?_)
    ·
      refine r_iload_n dX12_modelSpeed_23 rfl ?_
      refine r_ireturn dX12_modelSpeed_24 rfl rfl ?_
      exact kk
    ·
      exact absurd (Int32.lt_iff_toInt_lt.mpr (by rw [e.1, e.2]; exact h2)) hgt
  | succ t ih =>
    intro j hj j1
    have e := ms_i (j := j) hv hk (by omega)
    have h1j := h1 j j1 (by omega)
    refine r_iload_n dX12_modelSpeed_2 rfl ?_
    refine r_iconst (1) dX12_modelSpeed_3 rfl ?_
    refine r_iadd dX12_modelSpeed_4 ?_
    refine r_iload_n dX12_modelSpeed_5 rfl ?_
    refine r_iconst (1) dX12_modelSpeed_6 rfl ?_
    refine r_iadd dX12_modelSpeed_7 ?_
    refine r_imul dX12_modelSpeed_8 ?_
    refine r_iload_n dX12_modelSpeed_9 rfl ?_
    refine r_imul dX12_modelSpeed_10 ?_
    refine r_iload_n dX12_modelSpeed_11 rfl ?_
    refine r_iload_n dX12_modelSpeed_12 rfl ?_
    refine r_imul dX12_modelSpeed_13 ?_
    refine r_icmp_gt 23 dX12_modelSpeed_14 rfl (fun hgt => ?_) (fun hgt => ?_)
    ·
      exact absurd (Int32.lt_iff_toInt_lt.mp hgt) (by rw [e.1, e.2]; omega)
    ·
      refine ic_2 (1) dX12_modelSpeed_17 rfl rfl (Nat.le_of_ble_eq_true rfl) ?_
      refine r_goto 2 dX12_modelSpeed_20 rfl ?_
      rw [nI_1 j]; exact ih (j + 1) (by omega) (by omega)
theorem S_modelSpeed {g : GG} {m : MM} {Q : Out → Prop} {v k : Int32} (hv : iv 1 99 v) (hk : iv 1 40 k) (kk : iv 1 99 (msS v k).toInt32 → Q (.inl (some (.int (msS v k).toInt32)), m)) : Cl g 0 0 0 mX12_modelSpeed [.int v, .int k] m Q := by
  obtain ⟨M, a1, a2, a3, a4, a5⟩ := ms_spec hv hk
  have k9 := kk (by unfold iv; rw [a3, nI_int _ (by omega)]; omega)
  rw [a3] at k9
  refine Cl.of rfl (by decide) (Nat.le_of_ble_eq_true rfl) ?_
  show Wp g mX12_modelSpeed 0 0 0 0 [.int v, .int k, .retAddr 0] [] m Q
  refine r_iconst (1) dX12_modelSpeed_0 rfl ?_
  refine si_2 dX12_modelSpeed_1 rfl (Nat.le_of_ble_eq_true rfl) ?_
  exact L_msp hv hk a2 a4 a5 k9 (M - 1) 1 (by omega) (by omega)
theorem S_errorOf {g : GG} {m : MM} {Q : Out → Prop} {f : Nat → Int32} {fs : Nat → Nat → Int32} {ic : Nat} {tp : Nat → Int32} {tn : Nat} {pl : Int32} {n1 n2 : Nat} {ts : Nat → (Nat → Int32) × Nat} {T1 T2 : Nat → TL} (hV : Vf f) (hI : RI f fs ic tp tn pl n1 n2 ts m) (hK : TKs ts n1 T1 n2 T2) (h0 : ¬ f 0 = 0) {l w : Nat} (hl : l < n1) (hw : w < n2) {v k : Int32} (hv : iv 1 99 v) (hk : iv 1 40 k) (kk : ∀ m', Sw m m' → Q (.inl (some (.long (erV f (hH f) (T1 l) (T2 w) v k))), m')) : Cl g 36 0 0 mX12_errorOf [.ref 167, .int (nI l), .int (nI w), .int v, .int k] m Q := by
  have hF := hI.1
  have hx0 := hH_of hV h0
  obtain ⟨st, hx⟩ := hK.1 l hl
  refine Cl.of rfl (by decide) (Nat.le_of_ble_eq_true rfl) ?_
  show Wp g mX12_errorOf 36 0 0 0 [.ref 167, .int (nI l), .int (nI w), .int v, .int k, .retAddr 0, .retAddr 0, .retAddr 0, .retAddr 0, .retAddr 0] [] m Q
  refine r_iload_n dX12_errorOf_0 rfl ?_
  refine r_iload dX12_errorOf_1 rfl ?_
  refine r_callS2 (d1 := 0) (c1 := 0) (n1 := 0) dX12_errorOf_3 msX12_269 rfl (Nat.le_of_ble_eq_true rfl) (by exact Nat.le_of_ble_eq_true rfl) ?_
  refine S_modelSpeed hv hk (fun hms => ?_)
  show Wp g mX12_errorOf _ _ _ 6 _ (_ :: _) _ Q
  refine si_5 dX12_errorOf_6 (by first | rfl | assumption) (Nat.le_of_ble_eq_true rfl) ?_
  refine r_aload_n dX12_errorOf_8 rfl ?_
  refine r_aload_n dX12_errorOf_9 rfl ?_
  refine r_getRc dX12_errorOf_10 fgX12_52 rfl (by exact k_167 hF) (by exact r_167_26 hF) ?_
  refine r_iconst (0) dX12_errorOf_13 rfl ?_
  refine r_ialoadc (nI (hH f)) dX12_errorOf_14 (by exact k_198 hF) (vin (j := 0) (by omega) (by omega)) (by exact ((hI).2.1.at (by omega) (l_han (i := 0) (by omega))).trans hx0.1) ?_
  refine r_iload dX12_errorOf_15 rfl ?_
  refine r_iload dX12_errorOf_17 rfl ?_
  refine r_iconst (-1) dX12_errorOf_19 rfl ?_
  refine r_iconst (0) dX12_errorOf_20 rfl ?_
  refine r_iconst (0) dX12_errorOf_21 rfl ?_
  refine r_callV6 (ci := 12) (d1 := 1) (c1 := 0) (n1 := 0) dX12_errorOf_22 mvX12_245 rfl ⟨(Nat.le_of_ble_eq_true rfl), rfl⟩ (Nat.le_of_ble_eq_true rfl) (by exact Nat.le_of_ble_eq_true rfl) (by exact k_167 hF) ?_
  refine S_tells hV hI hx0.2 hk (Or.inl rfl) (Or.inl rfl) (fun m1 s1 n1x => ?_)
  have hF := s1.1.F hI.1
  have hI1 := hI.sc s1.1
  show Wp g mX12_errorOf _ _ _ 25 _ [] _ Q
  refine r_aload_n dX12_errorOf_25 rfl ?_
  refine r_iload_n dX12_errorOf_26 rfl ?_
  refine r_callV1 (ci := 12) (d1 := 35) (c1 := 0) (n1 := 0) dX12_errorOf_27 mvX12_255 rfl ⟨(Nat.le_of_ble_eq_true rfl), rfl⟩ (Nat.le_of_ble_eq_true rfl) (by exact Nat.le_of_ble_eq_true rfl) (by exact k_167 hF) ?_
  refine S_pullOf hI1 hl hx n1x (fun m2 s2 n2x t2x => ?_)
  have hF := s2.1.F hI1.1
  have hI2 := hI1.sc s2.1
  show Wp g mX12_errorOf _ _ _ 30 _ (_ :: _) _ Q
  refine r_lconst (0) dX12_errorOf_30 rfl ?_
  refine r_ldc2 (1000000000) dX12_errorOf_31 ctX12_229 ?_
  refine r_callS3 (d1 := 0) (c1 := 0) (n1 := 0) dX12_errorOf_34 msX12_231 rfl (Nat.le_of_ble_eq_true rfl) (by exact Nat.le_of_ble_eq_true rfl) ?_
  refine S_X12_within ?_
  show Wp g mX12_errorOf _ _ _ 37 _ (_ :: _) _ Q
  refine sl_6 dX12_errorOf_37 (by first | rfl | assumption) (Nat.le_of_ble_eq_true rfl) ?_
  refine r_aload_n dX12_errorOf_39 rfl ?_
  refine r_iload_n dX12_errorOf_40 rfl ?_
  refine r_lload dX12_errorOf_41 rfl ?_
  refine r_iconst (2) dX12_errorOf_43 rfl ?_
  refine r_aload_n dX12_errorOf_44 rfl ?_
  refine r_getRc dX12_errorOf_45 fgX12_52 rfl (by exact k_167 hF) (by exact r_167_26 hF) ?_
  refine r_iconst (0) dX12_errorOf_48 rfl ?_
  refine r_ialoadc (nI (hH f)) dX12_errorOf_49 (by exact k_198 hF) (vin (j := 0) (by omega) (by omega)) (by exact ((hI2).2.1.at (by omega) (l_han (i := 0) (by omega))).trans hx0.1) ?_
  refine r_iload dX12_errorOf_50 rfl ?_
  refine r_iload dX12_errorOf_52 rfl ?_
  refine r_iconst (-1) dX12_errorOf_54 rfl ?_
  refine r_iconst (0) dX12_errorOf_55 rfl ?_
  refine r_iconst (0) dX12_errorOf_56 rfl ?_
  refine r_callV9 (ci := 12) (d1 := 33) (c1 := 0) (n1 := 0) dX12_errorOf_57 mvX12_265 rfl ⟨(Nat.le_of_ble_eq_true rfl), rfl⟩ (Nat.le_of_ble_eq_true rfl) (by exact Nat.le_of_ble_eq_true rfl) (by exact k_167 hF) ?_
  have mw := mn_wi (pu_b (T1 l (cut (NmH f (hH f) (r6 (nI (hH f)) k (msS v k).toInt32 (-1) 0 0))))).1
  rw [mw.1]
  refine S_needOf2 hV hI2 hK hx0.2 hk hms (Or.inl rfl) (Or.inl rfl) hw mw.2 (fun m3 s3 => ?_)
  have hF := s3.1.F hI2.1
  have hI3 := hI2.sc s3.1
  show Wp g mX12_errorOf _ _ _ 60 _ (_ :: _) _ Q
  refine sl_8 dX12_errorOf_60 (by first | rfl | assumption) (Nat.le_of_ble_eq_true rfl) ?_
  refine r_aload_n dX12_errorOf_62 rfl ?_
  refine r_aload_n dX12_errorOf_63 rfl ?_
  refine r_getRc dX12_errorOf_64 fgX12_52 rfl (by exact k_167 hF) (by exact r_167_26 hF) ?_
  refine r_iconst (0) dX12_errorOf_67 rfl ?_
  refine r_ialoadc (nI (hH f)) dX12_errorOf_68 (by exact k_198 hF) (vin (j := 0) (by omega) (by omega)) (by exact ((hI3).2.1.at (by omega) (l_han (i := 0) (by omega))).trans hx0.1) ?_
  refine r_iconst (1) dX12_errorOf_69 rfl ?_
  refine r_iload_n dX12_errorOf_70 rfl ?_
  refine r_iconst (-1) dX12_errorOf_71 rfl ?_
  refine r_iconst (0) dX12_errorOf_72 rfl ?_
  refine r_iconst (0) dX12_errorOf_73 rfl ?_
  refine r_callV6 (ci := 12) (d1 := 1) (c1 := 0) (n1 := 0) dX12_errorOf_74 mvX12_245 rfl ⟨(Nat.le_of_ble_eq_true rfl), rfl⟩ (Nat.le_of_ble_eq_true rfl) (by exact Nat.le_of_ble_eq_true rfl) (by exact k_167 hF) ?_
  refine S_tells hV hI3 hx0.2 (k := 1) ⟨by decide, by decide⟩ (Or.inl rfl) (Or.inl rfl) (fun m4 s4 n4x => ?_)
  have hF := s4.1.F hI3.1
  have hI4 := hI3.sc s4.1
  show Wp g mX12_errorOf _ _ _ 77 _ [] _ Q
  refine r_lload dX12_errorOf_77 rfl ?_
  refine r_aload_n dX12_errorOf_79 rfl ?_
  refine r_iload_n dX12_errorOf_80 rfl ?_
  refine r_callV1 (ci := 12) (d1 := 35) (c1 := 0) (n1 := 0) dX12_errorOf_81 mvX12_255 rfl ⟨(Nat.le_of_ble_eq_true rfl), rfl⟩ (Nat.le_of_ble_eq_true rfl) (by exact Nat.le_of_ble_eq_true rfl) (by exact k_167 hF) ?_
  refine S_pullOf hI4 hl hx n4x (fun m5 s5 n5x t5x => ?_)
  have hF := s5.1.F hI4.1
  show Wp g mX12_errorOf _ _ _ 84 _ (_ :: _) _ Q
  refine r_lsub dX12_errorOf_84 ?_
  refine r_callS1 (d1 := 0) (c1 := 0) (n1 := 0) dX12_errorOf_85 msX12_272 rfl (Nat.le_of_ble_eq_true rfl) (by exact Nat.le_of_ble_eq_true rfl) ?_
  refine S_X12_amount ?_
  show Wp g mX12_errorOf _ _ _ 88 _ (_ :: _) _ Q
  refine r_lreturn dX12_errorOf_88 rfl ?_
  rw [am_dst (nd_b (rv := (r6 (nI (hH f)) k (msS v k).toInt32 (-1) 0 0)) hk mw.2) ⟨(pu_b _).1, by have := (pu_b (T1 l (cut (NmH f (hH f) (r6 (nI (hH f)) 1 v (-1) 0 0))))).2; omega⟩]
  have k9 := kk m5 ((((s1.tr s2).tr s3).tr s4).tr s5)
  unfold erV fnV clR PvV at k9
  rw [hx0.1] at k9
  exact k9
