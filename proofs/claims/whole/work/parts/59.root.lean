def SqP (v r : Int) : Prop := 0 ≤ r ∧ r ≤ 3037000499 ∧ r * r ≤ v ∧ (3037000499 < r + 1 ∨ v < (r + 1) * (r + 1))
theorem SqP.uniq {v r q : Int} (h : SqP v r) (h2 : SqP v q) : r = q := by
  obtain ⟨a1, a2, a3, a4⟩ := h
  obtain ⟨b1, b2, b3, b4⟩ := h2
  rcases Int.lt_trichotomy r q with c | c | c
  · exfalso
    have : (r + 1) * (r + 1) ≤ q * q := Int.mul_le_mul (by omega) (by omega) (by omega) (by omega)
    omega
  · exact c
  · exfalso
    have : (q + 1) * (q + 1) ≤ r * r := Int.mul_le_mul (by omega) (by omega) (by omega) (by omega)
    omega
theorem sq_int {x : Int64} (h0 : 0 ≤ x.toInt) (h : x.toInt ≤ 3037000499) : (x * x).toInt = x.toInt * x.toInt := by
  have h1 : x.toInt * x.toInt ≤ 3037000499 * 3037000499 := Int.mul_le_mul h h h0 (by omega)
  have h2 : 0 ≤ x.toInt * x.toInt := Int.mul_nonneg h0 h0
  rw [Int64.toInt_mul, Int.bmod_eq_of_le (by omega) (by omega)]
theorem p2_int : ∀ b, b < 32 → ((1 : Int64) <<< ((nI b).toInt64 &&& 63)).toInt = 2 ^ b := by decide +kernel
theorem add_int {x y : Int64} (h0 : 0 ≤ x.toInt) (h : x.toInt ≤ 8000000000) (h1 : 0 ≤ y.toInt) (h2 : y.toInt ≤ 8000000000) : (x + y).toInt = x.toInt + y.toInt := by
  rw [Int64.toInt_add, Int.bmod_eq_of_le (by omega) (by omega)]
theorem rtL_sq {v : Int64} : ∀ (b : Nat) (r : Int64), b ≤ 32 → 0 ≤ r.toInt → r.toInt ≤ 3037000499 → r.toInt * r.toInt ≤ v.toInt → (3037000499 < r.toInt + 2 ^ b ∨ v.toInt < (r.toInt + 2 ^ b) * (r.toInt + 2 ^ b)) → SqP v.toInt (rtL v b r).toInt
  | 0, r, _, h0, h1, h2, h3 => ⟨h0, h1, h2, h3⟩
  | b + 1, r, hb, h0, h1, h2, h3 => by
    have e := p2_int b (by omega)
    have p1 : (2 : Int) ^ b ≤ 2 ^ 31 := by
      have : (2 : Nat) ^ b ≤ 2 ^ 31 := Nat.pow_le_pow_right (by omega) (by omega)
      exact_mod_cast this
    have p0 : (0 : Int) ≤ 2 ^ b := by
      have : (0 : Nat) ≤ 2 ^ b := Nat.zero_le _
      exact_mod_cast this
    have a := add_int (x := r) (y := 1 <<< ((nI b).toInt64 &&& 63)) h0 (by omega) (by rw [e]; omega) (by rw [e]; omega)
    rw [e] at a
    have cp : (3037000499 : Int64).toInt = 3037000499 := rfl
    show SqP v.toInt (if r + (1 <<< ((nI b).toInt64 &&& 63)) ≤ 3037000499 ∧ (r + (1 <<< ((nI b).toInt64 &&& 63))) * (r + (1 <<< ((nI b).toInt64 &&& 63))) ≤ v then rtL v b (r + (1 <<< ((nI b).toInt64 &&& 63))) else rtL v b r).toInt
    have s2 : (2 : Int) ^ (b + 1) = 2 ^ b + 2 ^ b := by rw [Int.pow_succ]; omega
    generalize (1 : Int64) <<< ((nI b).toInt64 &&& 63) = p at a ⊢
    by_cases c1 : r + p ≤ 3037000499
    · have c1' := Int64.le_iff_toInt_le.mp c1
      rw [cp, a] at c1'
      have sq := sq_int (x := r + p) (by rw [a]; omega) (by rw [a]; omega)
      by_cases c2 : (r + p) * (r + p) ≤ v
      · rw [if_pos ⟨c1, c2⟩]
        have c2' := Int64.le_iff_toInt_le.mp c2
        rw [sq] at c2'
        refine rtL_sq b (r + p) (by omega) (by rw [a]; omega) (by rw [a]; omega) c2' ?_
        rw [a, show r.toInt + 2 ^ b + 2 ^ b = r.toInt + 2 ^ (b + 1) from by omega]; exact h3
      · rw [if_neg (fun q => c2 q.2)]
        refine rtL_sq b r (by omega) h0 h1 h2 (Or.inr ?_)
        have c2' := fun z => c2 (Int64.le_iff_toInt_le.mpr z)
        rw [sq, a] at c2'
        exact Int.not_le.mp c2'
    · rw [if_neg (fun q => c1 q.1)]
      refine rtL_sq b r (by omega) h0 h1 h2 (Or.inl ?_)
      have c1' := fun z => c1 (Int64.le_iff_toInt_le.mpr z)
      rw [cp, a] at c1'
      exact Int.not_le.mp c1'
theorem rtF_sq {v : Int64} (h : 0 ≤ v.toInt) : SqP v.toInt (rtF v).toInt := by
  have z : (0 : Int64).toInt = 0 := rfl
  unfold rtF
  rw [if_neg (fun q => by have := Int64.lt_iff_toInt_lt.mp q; omega)]
  exact rtL_sq 32 0 (by omega) (by omega) (by rw [z]; omega) (by rw [z]; omega) (Or.inl (by rw [z]; decide))
theorem rtF_0 {v : Int64} (h : v < 1) : rtF v = 0 := by
  have h := Int64.lt_iff_toInt_lt.mp h
  have o : (1 : Int64).toInt = 1 := rfl
  have z : (0 : Int64).toInt = 0 := rfl
  by_cases c : v.toInt < 0
  · unfold rtF; rw [if_pos (Int64.lt_iff_toInt_lt.mpr (by omega))]
  · obtain ⟨a1, a2, a3, a4⟩ := rtF_sq (v := v) (by omega)
    refine Int64.toInt_inj.mp ?_
    rw [z]
    rcases Int.lt_trichotomy (rtF v).toInt 0 with q | q | q
    · omega
    · exact q
    · have : 1 * 1 ≤ (rtF v).toInt * (rtF v).toInt := Int.mul_le_mul (by omega) (by omega) (by omega) (by omega)
      omega
theorem L_rroot {g : GG} {m : MM} {Q : Out → Prop} {v : Int64} (k : Q (.inl (some (.long (rtF v))), m)) : ∀ (t : Nat) (lo hi : Int64) (x y : Value), (hi.toInt - lo.toInt).toNat < t → 1 ≤ lo.toInt → lo.toInt ≤ hi.toInt → hi.toInt ≤ 3037000499 → lo.toInt * lo.toInt ≤ v.toInt → (3037000499 < hi.toInt + 1 ∨ v.toInt < (hi.toInt + 1) * (hi.toInt + 1)) → Wp g mX12_root 0 0 0 15 [.long v, .retAddr 0, .long lo, .retAddr 0, .long hi, .retAddr 0, x, y] [] m Q := by
  intro t
  induction t with
  | zero => intro lo hi x y ht; exact absurd ht (by omega)
  | succ t ih =>
    intro lo hi x y ht h1 h2 h3 h4 h5
    have o : (1 : Int64).toInt = 1 := rfl
    have tw : (2 : Int64).toInt = 2 := rfl
    have a1 := add_int (x := lo) (y := hi) (by omega) (by omega) (by omega) (by omega)
    have a2 := add_int (x := lo + hi) (y := 1) (by omega) (by omega) (by omega) (by omega)
    have a3 : ((lo + hi + 1) / 2).toInt = (lo.toInt + hi.toInt + 1) / 2 := by
      rw [Int64.toInt_div, a2, a1, o, tw, Int.tdiv_eq_ediv_of_nonneg (by omega), Int.bmod_eq_of_le (by omega) (by omega)]
    refine r_lload_n dX12_root_15 rfl ?_
    refine r_lload dX12_root_16 rfl ?_
    refine r_lcmp_ge 59 dX12_root_18 dX12_root_19 rfl (fun hlt => ?_) (fun hlt => ?_)
    ·
      refine r_lload_n dX12_root_59 rfl ?_
      refine r_lreturn dX12_root_60 rfl ?_
      have e9 : lo.toInt = hi.toInt := by have := Int64.le_iff_toInt_le.mp hlt; omega
      have e8 : SqP v.toInt lo.toInt := ⟨by omega, by omega, h4, by rw [e9]; exact h5⟩
      have p0 : 0 ≤ v.toInt := Int.le_trans (Int.mul_nonneg (by omega) (by omega)) h4
      rw [← Int64.toInt_inj.mp ((rtF_sq p0).uniq e8)]; exact k
    ·
      refine r_lload_n dX12_root_22 rfl ?_
      refine r_lload dX12_root_23 rfl ?_
      refine r_ladd dX12_root_25 ?_
      refine r_lconst (1) dX12_root_26 rfl ?_
      refine r_ladd dX12_root_27 ?_
      refine r_ldc2 (2) dX12_root_28 ctX12_165 ?_
      refine r_ldiv dX12_root_31 (by decide) ?_
      refine sl_6 dX12_root_32 (by first | rfl | assumption) (Nat.le_of_ble_eq_true rfl) ?_
      refine r_lload dX12_root_34 rfl ?_
      refine r_lload dX12_root_36 rfl ?_
      refine r_lmul dX12_root_38 ?_
      refine r_lload_n dX12_root_39 rfl ?_
      refine r_lcmp_gt 50 dX12_root_40 dX12_root_41 rfl (fun hm => ?_) (fun hm => ?_)
      ·
        refine r_lload dX12_root_50 rfl ?_
        refine r_lconst (1) dX12_root_52 rfl ?_
        refine r_lsub dX12_root_53 ?_
        refine sl_4 dX12_root_54 (by first | rfl | assumption) (Nat.le_of_ble_eq_true rfl) ?_
        refine r_goto 15 dX12_root_56 rfl ?_
        have hl := Int64.lt_iff_toInt_lt.mp (i64_nle.mp hlt)
        have sq := sq_int (x := (lo + hi + 1) / 2) (by omega) (by omega)
        have hm2 := Int64.lt_iff_toInt_lt.mp hm
        have e1 : ((lo + hi + 1) / 2 - 1).toInt = (lo.toInt + hi.toInt + 1) / 2 - 1 := by rw [Int64.toInt_sub, a3, o, Int.bmod_eq_of_le (by omega) (by omega)]
        refine ih lo _ _ _ (by omega) h1 (by omega) (by omega) h4 (Or.inr ?_)
        rw [e1, Int.sub_add_cancel, ← a3, ← sq]; exact hm2
      ·
        refine r_lload dX12_root_44 rfl ?_
        refine sl_2 dX12_root_46 (by first | rfl | assumption) (Nat.le_of_ble_eq_true rfl) ?_
        refine r_goto 56 dX12_root_47 rfl ?_
        refine r_goto 15 dX12_root_56 rfl ?_
        have hl := Int64.lt_iff_toInt_lt.mp (i64_nle.mp hlt)
        have sq := sq_int (x := (lo + hi + 1) / 2) (by omega) (by omega)
        have hm2 := Int64.le_iff_toInt_le.mp (i64_nlt.mp hm)
        refine ih _ hi _ _ (by omega) (by omega) (by omega) h3 ?_ h5
        rw [← sq]; exact hm2
theorem S_X12_root {g : GG} {m : MM} {Q : Out → Prop} {v : Int64} (k : Q (.inl (some (.long (rtF v))), m)) : Cl g 0 0 0 mX12_root [.long v] m Q := by
  refine Cl.of rfl (by decide) (Nat.le_of_ble_eq_true rfl) ?_
  show Wp g mX12_root 0 0 0 0 [.long v, .retAddr 0, .retAddr 0, .retAddr 0, .retAddr 0, .retAddr 0, .retAddr 0, .retAddr 0] [] m Q
  refine r_lload_n dX12_root_0 rfl ?_
  refine r_lconst (1) dX12_root_1 rfl ?_
  refine r_lcmp_ge 8 dX12_root_2 dX12_root_3 rfl (fun h1 => ?_) (fun h1 => ?_)
  ·
    refine r_lconst (1) dX12_root_8 rfl ?_
    refine sl_2 dX12_root_9 (by first | rfl | assumption) (Nat.le_of_ble_eq_true rfl) ?_
    refine r_ldc2 (3037000499) dX12_root_10 ctX12_163 ?_
    refine sl_4 dX12_root_13 (by first | rfl | assumption) (Nat.le_of_ble_eq_true rfl) ?_
    have o : (1 : Int64).toInt = 1 := rfl
    have h9 := Int64.le_iff_toInt_le.mp h1
    exact L_rroot k 3037000500 1 3037000499 _ _ (by decide) (by decide) (by decide) (by decide) (by rw [o]; omega) (Or.inl (by decide))
  ·
    refine r_lconst (0) dX12_root_6 rfl ?_
    refine r_lreturn dX12_root_7 rfl ?_
    rw [rtF_0 (i64_nle.mp h1)] at k; exact k
