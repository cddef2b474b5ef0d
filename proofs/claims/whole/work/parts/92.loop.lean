theorem LD {g : GG} {m : MM} {Q : Out → Prop} {c0 n0 i : Nat} (hX : XI m) (hi : i + 6 ≤ gL g) (hL : gL g ≤ 3072) (kk : ∀ m', XI m' → Wp g mL_law_ 60 c0 n0 2601 [.ref 1, .ref 4, .ref 167, .ref 283, .int (nI i), .retAddr 0, .retAddr 0, .retAddr 0] [] m' Q) : ∀ j : Nat, j < 64 → Wp g mL_law_ 60 (c0 + 4) (n0 + 407) 40 [.ref 1, .ref 4, .ref 167, .ref 283, .int (nI i), .retAddr 0, .retAddr 0, .retAddr 0] [.int (nI j)] m Q := fun j hj => match j, hj with
  | 0, _ => r_tabIn 212 dL_law__40 (by decide) (by decide) rfl rfl (LC_0 hX hi hL kk)
  | 1, _ => r_tabIn 280 dL_law__40 (by decide) (by decide) rfl rfl (LC_1 hX hi hL kk)
  | 2, _ => r_tabIn 372 dL_law__40 (by decide) (by decide) rfl rfl (LC_2 hX hi hL kk)
  | 3, _ => r_tabIn 452 dL_law__40 (by decide) (by decide) rfl rfl (LC_3 hX hi hL kk)
  | 4, _ => r_tabIn 520 dL_law__40 (by decide) (by decide) rfl rfl (LC_4 hX hi hL kk)
  | 5, _ => r_tabIn 593 dL_law__40 (by decide) (by decide) rfl rfl (LC_5 hX hi hL kk)
  | 6, _ => r_tabIn 677 dL_law__40 (by decide) (by decide) rfl rfl (LC_6 hX hi hL kk)
  | 7, _ => r_tabIn 690 dL_law__40 (by decide) (by decide) rfl rfl (LC_7 hX hi hL kk)
  | 8, _ => r_tabIn 782 dL_law__40 (by decide) (by decide) rfl rfl (LC_8 hX hi hL kk)
  | 9, _ => r_tabIn 866 dL_law__40 (by decide) (by decide) rfl rfl (LC_9 hX hi hL kk)
  | 10, _ => r_tabIn 922 dL_law__40 (by decide) (by decide) rfl rfl (LC_10 hX hi hL kk)
  | 11, _ => r_tabIn 989 dL_law__40 (by decide) (by decide) rfl rfl (LC_11 hX hi hL kk)
  | 12, _ => r_tabIn 1068 dL_law__40 (by decide) (by decide) rfl rfl (LC_12 hX hi hL kk)
  | 13, _ => r_tabIn 1159 dL_law__40 (by decide) (by decide) rfl rfl (LC_13 hX hi hL kk)
  | 14, _ => r_tabIn 1251 dL_law__40 (by decide) (by decide) rfl rfl (LC_14 hX hi hL kk)
  | 15, _ => r_tabIn 1306 dL_law__40 (by decide) (by decide) rfl rfl (LC_15 hX hi hL kk)
  | 16, _ => r_tabIn 1374 dL_law__40 (by decide) (by decide) rfl rfl (LC_16 hX hi hL kk)
  | 17, _ => r_tabIn 1430 dL_law__40 (by decide) (by decide) rfl rfl (LC_17 hX hi hL kk)
  | 18, _ => r_tabIn 1498 dL_law__40 (by decide) (by decide) rfl rfl (LC_18 hX hi hL kk)
  | 19, _ => r_tabIn 1566 dL_law__40 (by decide) (by decide) rfl rfl (LC_19 hX hi hL kk)
  | 20, _ => r_tabIn 1591 dL_law__40 (by decide) (by decide) rfl rfl (LC_20 hX hi hL kk)
  | 21, _ => r_tabIn 1634 dL_law__40 (by decide) (by decide) rfl rfl (LC_21 hX hi hL kk)
  | 22, _ => r_tabIn 1690 dL_law__40 (by decide) (by decide) rfl rfl (LC_22 hX hi hL kk)
  | 23, _ => r_tabIn 1746 dL_law__40 (by decide) (by decide) rfl rfl (LC_23 hX hi hL kk)
  | 24, _ => r_tabIn 1814 dL_law__40 (by decide) (by decide) rfl rfl (LC_24 hX hi hL kk)
  | 25, _ => r_tabIn 1870 dL_law__40 (by decide) (by decide) rfl rfl (LC_25 hX hi hL kk)
  | 26, _ => r_tabIn 1926 dL_law__40 (by decide) (by decide) rfl rfl (LC_26 hX hi hL kk)
  | 27, _ => r_tabIn 2009 dL_law__40 (by decide) (by decide) rfl rfl (LC_27 hX hi hL kk)
  | 28, _ => r_tabIn 2076 dL_law__40 (by decide) (by decide) rfl rfl (LC_28 hX hi hL kk)
  | 29, _ => r_tabIn 2144 dL_law__40 (by decide) (by decide) rfl rfl (LC_29 hX hi hL kk)
  | 30, _ => r_tabIn 2212 dL_law__40 (by decide) (by decide) rfl rfl (LC_30 hX hi hL kk)
  | 31, _ => r_tabIn 2253 dL_law__40 (by decide) (by decide) rfl rfl (LC_31 hX hi hL kk)
  | 32, _ => r_tabIn 2266 dL_law__40 (by decide) (by decide) rfl rfl (LC_32 hX hi hL kk)
  | 33, _ => r_tabIn 2334 dL_law__40 (by decide) (by decide) rfl rfl (LC_33 hX hi hL kk)
  | 34, _ => r_tabIn 2426 dL_law__40 (by decide) (by decide) rfl rfl (LC_34 hX hi hL kk)
  | 35, _ => r_tabIn 2494 dL_law__40 (by decide) (by decide) rfl rfl (LC_35 hX hi hL kk)
  | 36, _ => r_tabIn 2550 dL_law__40 (by decide) (by decide) rfl rfl (LC_36 hX hi hL kk)
  | 37, _ => r_tabIn 2563 dL_law__40 (by decide) (by decide) rfl rfl (LC_37 hX hi hL kk)
  | 38, _ => r_tabIn 2576 dL_law__40 (by decide) (by decide) rfl rfl (LC_38 hX hi hL kk)
  | j + 39, hj => r_tabOut 2601 dL_law__40 (Or.inr (by rw [nI_int _ (by omega)]; omega)) rfl (w_wide (c' := c0) (n' := n0) (by omega) (by omega) (kk m hX))
theorem lg_gt {L i : Nat} (hL : L ≤ 3072) (hi : i ≤ 4000) : nI L - 6 < nI i ↔ L < i + 6 := by
  rw [Int32.lt_iff_toInt_lt, Int32.toInt_sub, nI_int _ (by omega), nI_int _ (by omega)]
  show Int.bmod ((L : Int) - 6) (2 ^ 32) < _ ↔ _
  rw [Int.bmod_eq_of_le (by omega) (by omega)]
  omega
def QL : Out → Prop := fun o => o.1 = .inl (some (.int 1))
theorem law_loop {g : GG} (hL : gL g ≤ 3072) : ∀ (t i : Nat) (m : MM), XI m → i ≤ gL g + 6 → gL g < i + 6 * t + 6 → Wp g mL_law_ 60 (4 * t) (407 * t) 23 [.ref 1, .ref 4, .ref 167, .ref 283, .int (nI i), .retAddr 0, .retAddr 0, .retAddr 0] [] m QL := by
  intro t
  induction t with
  | zero =>
    intro i m hX h1 h2
    refine r_iload dL_law__23 rfl ?_
    refine r_aload_n dL_law__25 rfl ?_
    refine r_slen (nI (gL g)) rfl dL_law__26 ?_
    refine r_bipush (6) dL_law__27 rfl ?_
    refine r_isub dL_law__29 ?_
    refine r_icmp_gt 2607 dL_law__30 rfl (fun _ => ?_) (fun hq => absurd ((lg_gt hL (by omega)).mpr (by omega)) hq)
    refine r_iconst (1) dL_law__2607 rfl ?_
    refine r_ireturn dL_law__2608 rfl rfl ?_
    rfl
  | succ t ih =>
    intro i m hX h1 h2
    refine r_iload dL_law__23 rfl ?_
    refine r_aload_n dL_law__25 rfl ?_
    refine r_slen (nI (gL g)) rfl dL_law__26 ?_
    refine r_bipush (6) dL_law__27 rfl ?_
    refine r_isub dL_law__29 ?_
    refine r_icmp_gt 2607 dL_law__30 rfl (fun _ => ?_) (fun hq => ?_)
    · refine r_iconst (1) dL_law__2607 rfl ?_
      refine r_ireturn dL_law__2608 rfl rfl ?_
      rfl
    · have hi : i + 6 ≤ gL g := Nat.not_lt.mp fun q => hq ((lg_gt hL (by omega)).mpr q)
      refine r_aload_n dL_law__33 rfl ?_
      refine r_iload dL_law__34 rfl ?_
      refine r_sld dL_law__36 (vin (by omega) (by omega)) ?_
      refine r_bipush (63) dL_law__37 rfl ?_
      refine r_iand dL_law__39 ?_
      obtain ⟨j, hj, e⟩ := pk_andE (gX g (nI i).toNatClampNeg) (m := 63) 6 rfl
      rw [e]
      refine w_wide (c' := 4 * t + 4) (n' := 407 * t + 407) (by omega) (by omega) ?_
      refine LD hX hi hL (fun m' hX' => ?_) j hj
      refine ic_4 (6) dL_law__2601 rfl rfl (Nat.le_of_ble_eq_true rfl) ?_
      refine w_ls (congrArg (fun q : Int32 => ([.ref 1, .ref 4, .ref 167, .ref 283, .int q, .retAddr 0, .retAddr 0, .retAddr 0] : List Value)) (show nI i + 6 = nI (i + 6) from nI_ad2 (a := i) (c := 6) (by omega))) ?_
      refine r_goto 23 dL_law__2604 rfl ?_
      exact ih (i + 6) m' hX' (by omega) (by omega)
