def us (x k : Int32) : Int32 := (x.toUInt32 >>> (k.toUInt32 &&& Int32.toUInt32 31)).toInt32
def bc1 (x : Int32) : Int32 := x - (us x 1 &&& 1431655765)
def bc2 (x : Int32) : Int32 := (x &&& 858993459) + (us x 2 &&& 858993459)
def bc3 (x : Int32) : Int32 := (x + us x 4) &&& 252645135
def bcV (x : Int32) : Int32 := ((bc3 (bc2 (bc1 x)) + us (bc3 (bc2 (bc1 x))) 8) + us (bc3 (bc2 (bc1 x)) + us (bc3 (bc2 (bc1 x))) 8) 16) &&& 63
theorem S_J6_bitCount_0f7a4 {g : GG} {m : MM} {Q : Out → Prop} {x : Int32} (k : Q (.inl (some (.int (bcV x))), m)) : Cl g 0 0 0 mJ6_bitCount_0f7a4 [.int x] m Q := by
  refine Cl.of rfl (by decide) (Nat.le_of_ble_eq_true rfl) ?_
  show Wp g mJ6_bitCount_0f7a4 0 0 0 0 [.int x] [] m Q
  refine r_iload_n dJ6_bitCount_0f7a4_0 rfl ?_
  refine r_iload_n dJ6_bitCount_0f7a4_1 rfl ?_
  refine r_iconst (1) dJ6_bitCount_0f7a4_2 rfl ?_
  refine r_iushr dJ6_bitCount_0f7a4_3 ?_
  refine r_ldcw (1431655765) dJ6_bitCount_0f7a4_4 ctJ6_265 ?_
  refine r_iand dJ6_bitCount_0f7a4_7 ?_
  refine r_isub dJ6_bitCount_0f7a4_8 ?_
  refine si_0 dJ6_bitCount_0f7a4_9 (Nat.le_of_ble_eq_true rfl) ?_
  refine r_iload_n dJ6_bitCount_0f7a4_10 rfl ?_
  refine r_ldcw (858993459) dJ6_bitCount_0f7a4_11 ctJ6_266 ?_
  refine r_iand dJ6_bitCount_0f7a4_14 ?_
  refine r_iload_n dJ6_bitCount_0f7a4_15 rfl ?_
  refine r_iconst (2) dJ6_bitCount_0f7a4_16 rfl ?_
  refine r_iushr dJ6_bitCount_0f7a4_17 ?_
  refine r_ldcw (858993459) dJ6_bitCount_0f7a4_18 ctJ6_266 ?_
  refine r_iand dJ6_bitCount_0f7a4_21 ?_
  refine r_iadd dJ6_bitCount_0f7a4_22 ?_
  refine si_0 dJ6_bitCount_0f7a4_23 (Nat.le_of_ble_eq_true rfl) ?_
  refine r_iload_n dJ6_bitCount_0f7a4_24 rfl ?_
  refine r_iload_n dJ6_bitCount_0f7a4_25 rfl ?_
  refine r_iconst (4) dJ6_bitCount_0f7a4_26 rfl ?_
  refine r_iushr dJ6_bitCount_0f7a4_27 ?_
  refine r_iadd dJ6_bitCount_0f7a4_28 ?_
  refine r_ldcw (252645135) dJ6_bitCount_0f7a4_29 ctJ6_267 ?_
  refine r_iand dJ6_bitCount_0f7a4_32 ?_
  refine si_0 dJ6_bitCount_0f7a4_33 (Nat.le_of_ble_eq_true rfl) ?_
  refine r_iload_n dJ6_bitCount_0f7a4_34 rfl ?_
  refine r_iload_n dJ6_bitCount_0f7a4_35 rfl ?_
  refine r_bipush (8) dJ6_bitCount_0f7a4_36 rfl ?_
  refine r_iushr dJ6_bitCount_0f7a4_38 ?_
  refine r_iadd dJ6_bitCount_0f7a4_39 ?_
  refine si_0 dJ6_bitCount_0f7a4_40 (Nat.le_of_ble_eq_true rfl) ?_
  refine r_iload_n dJ6_bitCount_0f7a4_41 rfl ?_
  refine r_iload_n dJ6_bitCount_0f7a4_42 rfl ?_
  refine r_bipush (16) dJ6_bitCount_0f7a4_43 rfl ?_
  refine r_iushr dJ6_bitCount_0f7a4_45 ?_
  refine r_iadd dJ6_bitCount_0f7a4_46 ?_
  refine si_0 dJ6_bitCount_0f7a4_47 (Nat.le_of_ble_eq_true rfl) ?_
  refine r_iload_n dJ6_bitCount_0f7a4_48 rfl ?_
  refine r_bipush (63) dJ6_bitCount_0f7a4_49 rfl ?_
  refine r_iand dJ6_bitCount_0f7a4_51 ?_
  refine r_ireturn dJ6_bitCount_0f7a4_52 rfl rfl ?_
  exact k
def tlF (f : Nat → Int32) (h : Nat) (Ts : Nat → (Nat → Int64) → Nat → Int64) (p : Nat → Bool) (n : Nat) : Nat → Int32 × Int64
  | 0 => (-1, 0)
  | i + 1 => if (tlF f h Ts p n i).1 = -1 ∨ (tlF f h Ts p n i).2 < apV f h Ts p n (nI (1 + i)) then (nI (1 + i), apV f h Ts p n (nI (1 + i))) else tlF f h Ts p n i
theorem L_tell {g : GG} {m : MM} {Q : Out → Prop} (hF : Fx m) {f : Nat → Int32} (hV : Vf f) (hW : Wd f 5 m) {h : Nat} (hh0 : f 27 = nI h) (hh : h < nH f) {n : Nat} {Ts : Nat → (Nat → Int64) → Nat → Int64} (hS : Shf 155 156 4 n Ts m) {p : Nat → Bool}  (kx : ∀ (x7 x8 : Value) (m1 : MM), Off 160 166 m m1 → Wp g mX0_tellingSpeed 5 0 0 61 [.ref 159, .ref 155, .int (bitsF p n), .int (tlF f h Ts p n 99).1, .long (tlF f h Ts p n 99).2, .retAddr 0, .int (nI (1 + 99)), x7, x8] [] (m1) Q) : ∀ (t i : Nat) (x7 x8 : Value) (m1 : MM), i + t = 99 → Off 160 166 m m1 → Wp g mX0_tellingSpeed 5 0 0 18 [.ref 159, .ref 155, .int (bitsF p n), .int (tlF f h Ts p n i).1, .long (tlF f h Ts p n i).2, .retAddr 0, .int (nI (1 + i)), x7, x8] [] (m1) Q := by
  intro t
  induction t with
  | zero =>
    intro i x7 x8 m1 hi hI
    have hi : i = 99 := by omega
    subst hi
    have hn6 := hV.1.1.2
    have o1 := hI
    have hF1 := Fx_of o1.1 hF
    have hW1 := hW.off o1 (by omega) hn6
    refine r_iload dX0_tellingSpeed_18 rfl ?_
    refine r_bipush (99) dX0_tellingSpeed_20 rfl ?_
    refine r_icmp_gt 61 dX0_tellingSpeed_22 rfl (fun h1 => ?_) (fun h1 => ?_)
    ·
      exact kx _ _ _ hI
    ·
      exact absurd (by decide) h1
  | succ t ih =>
    intro i x7 x8 m1 hi hI
    have hin : i < 99 := by omega
    have hn6 := hV.1.1.2
    have o1 := hI
    have hF1 := Fx_of o1.1 hF
    have hW1 := hW.off o1 (by omega) hn6
    refine r_iload dX0_tellingSpeed_18 rfl ?_
    refine r_bipush (99) dX0_tellingSpeed_20 rfl ?_
    refine r_icmp_gt 61 dX0_tellingSpeed_22 rfl (fun h1 => ?_) (fun h1 => ?_)
    ·
      exact absurd h1 (nI_nlt (a := 99) (b := 1 + i) (by omega) (by omega))
    ·
      refine r_aload_n dX0_tellingSpeed_25 rfl ?_
      refine r_aload_n dX0_tellingSpeed_26 rfl ?_
      refine r_iload_n dX0_tellingSpeed_27 rfl ?_
      refine r_iload dX0_tellingSpeed_28 rfl ?_
      refine r_callV3 (ci := 0) (d1 := 4) (c1 := 0) (n1 := 0) dX0_tellingSpeed_30 mvX0_241 rfl ⟨(Nat.le_of_ble_eq_true rfl), rfl⟩ (Nat.le_of_ble_eq_true rfl) (by exact Nat.le_of_ble_eq_true rfl) (by exact k_159 hF1) ?_
      refine S_X0_apartAt hF1 hV hW1 hh0 hh (hS.off o1 (by omega) (by omega)) (p := p) (fun m2 q2 => ?_)
      have o2 := (o1).tr ((q2).wd (by omega) (by omega))
      have hF2 := Fx_of o2.1 hF
      have hW2 := hW.off o2 (by omega) hn6
      show Wp g mX0_tellingSpeed _ _ _ 33 _ (_ :: _) _ Q
      refine sl_7 dX0_tellingSpeed_33 rfl (Nat.le_of_ble_eq_true rfl) ?_
      refine r_iload_n dX0_tellingSpeed_35 rfl ?_
      refine r_iconst (-1) dX0_tellingSpeed_36 rfl ?_
      refine r_icmp_eq 48 dX0_tellingSpeed_37 rfl (fun h2 => ?_) (fun h2 => ?_)
      ·
        refine r_iload dX0_tellingSpeed_48 rfl ?_
        refine si_3 dX0_tellingSpeed_50 rfl (Nat.le_of_ble_eq_true rfl) ?_
        refine r_lload dX0_tellingSpeed_51 rfl ?_
        refine sl_4 dX0_tellingSpeed_53 rfl (Nat.le_of_ble_eq_true rfl) ?_
        refine ic_6 (1) dX0_tellingSpeed_55 rfl rfl (Nat.le_of_ble_eq_true rfl) ?_
        refine r_goto 18 dX0_tellingSpeed_58 rfl ?_
        have z := fun x7 x8 => ih (i + 1) x7 x8 m2 (by omega) o2
        rw [show tlF f h Ts p n (i + 1) = _ from if_pos (Or.inl h2)] at z
        rw [nI_1 (1 + i)]
        exact z _ _
      ·
        refine r_lload dX0_tellingSpeed_40 rfl ?_
        refine r_lload dX0_tellingSpeed_42 rfl ?_
        refine r_lcmp_le 55 dX0_tellingSpeed_44 dX0_tellingSpeed_45 rfl (fun h3 => ?_) (fun h3 => ?_)
        ·
          refine ic_6 (1) dX0_tellingSpeed_55 rfl rfl (Nat.le_of_ble_eq_true rfl) ?_
          refine r_goto 18 dX0_tellingSpeed_58 rfl ?_
          have z := fun x7 x8 => ih (i + 1) x7 x8 m2 (by omega) o2
          rw [show tlF f h Ts p n (i + 1) = _ from if_neg (fun q => q.elim h2 (i64_nlt.mpr h3))] at z
          rw [nI_1 (1 + i)]
          exact z _ _
        ·
          refine r_iload dX0_tellingSpeed_48 rfl ?_
          refine si_3 dX0_tellingSpeed_50 rfl (Nat.le_of_ble_eq_true rfl) ?_
          refine r_lload dX0_tellingSpeed_51 rfl ?_
          refine sl_4 dX0_tellingSpeed_53 rfl (Nat.le_of_ble_eq_true rfl) ?_
          refine ic_6 (1) dX0_tellingSpeed_55 rfl rfl (Nat.le_of_ble_eq_true rfl) ?_
          refine r_goto 18 dX0_tellingSpeed_58 rfl ?_
          have z := fun x7 x8 => ih (i + 1) x7 x8 m2 (by omega) o2
          rw [show tlF f h Ts p n (i + 1) = _ from if_pos (Or.inr (i64_nle.mp h3))] at z
          rw [nI_1 (1 + i)]
          exact z _ _
theorem S_X0_tellingSpeed {g : GG} {m : MM} {Q : Out → Prop} (hF : Fx m) {f : Nat → Int32} (hV : Vf f) (hW : Wd f 5 m) {h : Nat} (hh0 : f 27 = nI h) (hh : h < nH f) {n : Nat} {Ts : Nat → (Nat → Int64) → Nat → Int64} (hS : Shf 155 156 4 n Ts m) {p : Nat → Bool} (k : ∀ m', Off 160 166 m m' → Q (.inl (some (.int (if bcV (bitsF p n) < 2 then -1 else (tlF f h Ts p n 99).1))), m')) : Cl g 5 0 0 mX0_tellingSpeed [.ref 159, .ref 155, .int (bitsF p n)] m Q := by
  refine Cl.of rfl (by decide) (Nat.le_of_ble_eq_true rfl) ?_
  show Wp g mX0_tellingSpeed 5 0 0 0 [.ref 159, .ref 155, .int (bitsF p n), .retAddr 0, .retAddr 0, .retAddr 0, .retAddr 0, .retAddr 0, .retAddr 0] [] m Q
  refine r_iload_n dX0_tellingSpeed_0 rfl ?_
  refine r_callS1 (d1 := 0) (c1 := 0) (n1 := 0) dX0_tellingSpeed_1 msX0_236 rfl (Nat.le_of_ble_eq_true rfl) (by exact Nat.le_of_ble_eq_true rfl) ?_
  refine S_J6_bitCount_0f7a4 ?_
  show Wp g mX0_tellingSpeed _ _ _ 4 _ (_ :: _) _ Q
  refine r_iconst (2) dX0_tellingSpeed_4 rfl ?_
  refine r_icmp_ge 10 dX0_tellingSpeed_5 rfl (fun h1 => ?_) (fun h1 => ?_)
  ·
    refine r_iconst (-1) dX0_tellingSpeed_10 rfl ?_
    refine si_3 dX0_tellingSpeed_11 rfl (Nat.le_of_ble_eq_true rfl) ?_
    refine r_lconst (0) dX0_tellingSpeed_12 rfl ?_
    refine sl_4 dX0_tellingSpeed_13 rfl (Nat.le_of_ble_eq_true rfl) ?_
    refine r_iconst (1) dX0_tellingSpeed_15 rfl ?_
    refine si_6 dX0_tellingSpeed_16 (by first | rfl | assumption) (Nat.le_of_ble_eq_true rfl) ?_
    refine L_tell hF hV hW hh0 hh hS (p := p) (fun x7 x8 m9 o9 => ?_) 99 0 _ _ m (by omega) Off.rf
    refine r_iload_n dX0_tellingSpeed_61 rfl ?_
    refine r_ireturn dX0_tellingSpeed_62 rfl rfl ?_
    have k9 := k m9 o9; rw [if_neg (i32_nlt.mpr h1)] at k9; exact k9
  ·
    refine r_iconst (-1) dX0_tellingSpeed_8 rfl ?_
    refine r_ireturn dX0_tellingSpeed_9 rfl rfl ?_
    have k9 := k m Off.rf; rw [if_pos (i32_nle.mp h1)] at k9; exact k9
def wgM (m : MM) (P : Int64) (x y z : Int32) : MM := if P < ldL m 159 5 then stI (stI (stI (stL m 159 5 P) 159 6 x) 159 7 y) 159 8 z else m
theorem S_weigh1 {g : GG} {m : MM} {Q : Out → Prop} (hF : Fx m) {f : Nat → Int32} (hV : Vf f) (hW : Wd f 5 m) {h : Nat} (hh0 : f 27 = nI h) (hh : h < nH f) {p : Nat} {T : (Nat → Int64) → Nat → Int64} (hp : Pr T p m) {x y z : Int32} (k : ∀ m', Off 160 166 m m' → Q (.inl none, wgM m' (PvV f h T (hd f)) x y z)) : Cl g 4 0 0 mX0_weigh [.ref 159, .ref p, .int 1, .int x, .int y, .int z] m Q := by
  refine Cl.of rfl (by decide) (Nat.le_of_ble_eq_true rfl) ?_
  show Wp g mX0_weigh 4 0 0 0 [.ref 159, .ref p, .int 1, .int x, .int y, .int z, .retAddr 0, .retAddr 0] [] m Q
  have hn6 := hV.1.1.2
  refine r_iload_n dX0_weigh_0 rfl ?_
  refine r_if_ne 5 dX0_weigh_1 rfl (fun _ => ?_) (fun hz => absurd hz (by decide))
  refine r_aload_n dX0_weigh_5 rfl ?_
  refine r_aload_n dX0_weigh_6 rfl ?_
  refine r_aload_n dX0_weigh_7 rfl ?_
  refine r_getRc dX0_weigh_8 fgX0_9 rfl (by exact k_159 hF) (by exact r_159_0 hF) ?_
  refine r_getRc dX0_weigh_11 fgX0_47 rfl (by exact k_5 hF) (by exact r_5_4 hF) ?_
  refine r_callV2 (ci := 0) (d1 := 3) (c1 := 0) (n1 := 0) dX0_weigh_14 mvX0_149 rfl ⟨(Nat.le_of_ble_eq_true rfl), rfl⟩ (Nat.le_of_ble_eq_true rfl) (by exact Nat.le_of_ble_eq_true rfl) (by exact k_159 hF) ?_
  refine S_X0_pullOf hF hV hW (r := 29) (h := h) (rv := hd f) (by exact k_29 hF) (by omega) (fun j hj => hW.2.2.2.1 j hj) hh0 hh hp (fun m1 q1 hT1 hs1 ha1 => ?_)
  have o1 := (Off.rf (lo := 160) (hi := 166) (m := m)).tr ((q1).wd (by omega) (by omega))
  have hF1 := Fx_of o1.1 hF
  have hW1 := hW.off o1 (by omega) hn6
  show Wp g mX0_weigh _ _ _ 17 _ (_ :: _) _ Q
  refine sl_6 dX0_weigh_17 rfl (Nat.le_of_ble_eq_true rfl) ?_
  refine r_lload dX0_weigh_19 rfl ?_
  refine r_aload_n dX0_weigh_21 rfl ?_
  refine r_getL dX0_weigh_22 fgX0_247 rfl (by exact k_159 hF1) ?_
  refine r_lcmp_ge 52 dX0_weigh_25 dX0_weigh_26 rfl (fun h2 => ?_) (fun h2 => ?_)
  ·
    refine r_return dX0_weigh_52 rfl ?_
    have h2 : ldL m1 159 5 ≤ PvV f h T (hd f) := h2
    have k9 := k m1 o1; rw [wgM, if_neg (i64_nlt.mpr h2)] at k9; exact k9
  ·
    refine r_aload_n dX0_weigh_29 rfl ?_
    refine r_lload dX0_weigh_30 rfl ?_
    refine r_putL dX0_weigh_32 (fpX0_247 _ rfl) rfl (by exact k_159 hF1) ?_
    refine r_aload_n dX0_weigh_35 rfl ?_
    refine r_iload_n dX0_weigh_36 rfl ?_
    refine r_putI dX0_weigh_37 (fpX0_250 _ rfl) rfl (by exact k_159 hF1) ⟨rfl, rfl⟩ ?_
    refine r_aload_n dX0_weigh_40 rfl ?_
    refine r_iload dX0_weigh_41 rfl ?_
    refine r_putI dX0_weigh_43 (fpX0_270 _ rfl) rfl (by exact k_159 hF1) ⟨rfl, rfl⟩ ?_
    refine r_aload_n dX0_weigh_46 rfl ?_
    refine r_iload dX0_weigh_47 rfl ?_
    refine r_putI dX0_weigh_49 (fpX0_273 _ rfl) rfl (by exact k_159 hF1) ⟨rfl, rfl⟩ ?_
    refine r_return dX0_weigh_52 rfl ?_
    have h2 : ¬ ldL m1 159 5 ≤ PvV f h T (hd f) := h2
    have k9 := k m1 o1; rw [wgM, if_pos (i64_nle.mp h2)] at k9; exact k9
theorem S_weigh0 {g : GG} {m : MM} {Q : Out → Prop} {p : Nat} {x y z : Int32} (k : Q (.inl none, m)) : Cl g 4 0 0 mX0_weigh [.ref 159, .ref p, .int 0, .int x, .int y, .int z] m Q := by
  refine Cl.of rfl (by decide) (Nat.le_of_ble_eq_true rfl) ?_
  show Wp g mX0_weigh 4 0 0 0 [.ref 159, .ref p, .int 0, .int x, .int y, .int z, .retAddr 0, .retAddr 0] [] m Q
  refine r_iload_n dX0_weigh_0 rfl ?_
  refine r_if_ne 5 dX0_weigh_1 rfl (fun hz => absurd hz (by decide)) (fun _ => ?_)
  refine r_return dX0_weigh_4 rfl ?_
  exact k
theorem S_betterPart0 {g : GG} {m : MM} {Q : Out → Prop} (hF : Fx m) (k : Q (.inl (some (.long ((ldI m 159 6).toInt64))), m)) : Cl g 0 0 0 mX0_betterPart [.ref 159, .int (0)] m Q := by
  refine Cl.of rfl (by decide) (Nat.le_of_ble_eq_true rfl) ?_
  show Wp g mX0_betterPart 0 0 0 0 [.ref 159, .int (0)] [] m Q
  refine r_iload_n dX0_betterPart_0 rfl ?_
  refine r_tabIn 28 dX0_betterPart_1 (by decide) (by decide) rfl rfl ?_
  refine r_aload_n dX0_betterPart_28 rfl ?_
  refine r_getI dX0_betterPart_29 fgX0_250 rfl (by exact k_159 hF) ?_
  refine r_i2l dX0_betterPart_32 ?_
  refine r_lreturn dX0_betterPart_33 rfl ?_
  exact k
theorem S_betterPart1 {g : GG} {m : MM} {Q : Out → Prop} (hF : Fx m) (k : Q (.inl (some (.long ((ldI m 159 7).toInt64))), m)) : Cl g 0 0 0 mX0_betterPart [.ref 159, .int (1)] m Q := by
  refine Cl.of rfl (by decide) (Nat.le_of_ble_eq_true rfl) ?_
  show Wp g mX0_betterPart 0 0 0 0 [.ref 159, .int (1)] [] m Q
  refine r_iload_n dX0_betterPart_0 rfl ?_
  refine r_tabIn 34 dX0_betterPart_1 (by decide) (by decide) rfl rfl ?_
  refine r_aload_n dX0_betterPart_34 rfl ?_
  refine r_getI dX0_betterPart_35 fgX0_270 rfl (by exact k_159 hF) ?_
  refine r_i2l dX0_betterPart_38 ?_
  refine r_lreturn dX0_betterPart_39 rfl ?_
  exact k
theorem S_betterPart2 {g : GG} {m : MM} {Q : Out → Prop} (hF : Fx m) (k : Q (.inl (some (.long ((ldI m 159 8).toInt64))), m)) : Cl g 0 0 0 mX0_betterPart [.ref 159, .int (2)] m Q := by
  refine Cl.of rfl (by decide) (Nat.le_of_ble_eq_true rfl) ?_
  show Wp g mX0_betterPart 0 0 0 0 [.ref 159, .int (2)] [] m Q
  refine r_iload_n dX0_betterPart_0 rfl ?_
  refine r_tabIn 40 dX0_betterPart_1 (by decide) (by decide) rfl rfl ?_
  refine r_aload_n dX0_betterPart_40 rfl ?_
  refine r_getI dX0_betterPart_41 fgX0_273 rfl (by exact k_159 hF) ?_
  refine r_i2l dX0_betterPart_44 ?_
  refine r_lreturn dX0_betterPart_45 rfl ?_
  exact k
theorem S_betterPart3 {g : GG} {m : MM} {Q : Out → Prop} (hF : Fx m) (k : Q (.inl (some (.long (ldL m 159 5))), m)) : Cl g 0 0 0 mX0_betterPart [.ref 159, .int (-1)] m Q := by
  refine Cl.of rfl (by decide) (Nat.le_of_ble_eq_true rfl) ?_
  show Wp g mX0_betterPart 0 0 0 0 [.ref 159, .int (-1)] [] m Q
  refine r_iload_n dX0_betterPart_0 rfl ?_
  refine r_tabOut 46 dX0_betterPart_1 (by decide) rfl ?_
  refine r_aload_n dX0_betterPart_46 rfl ?_
  refine r_getL dX0_betterPart_47 fgX0_247 rfl (by exact k_159 hF) ?_
  refine r_lreturn dX0_betterPart_50 rfl ?_
  exact k
