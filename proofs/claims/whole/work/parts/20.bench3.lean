theorem S_cell {g : GG} {m : MM} {Q : Out → Prop} (hF : Fx m) {f : Nat → Int32} (hV : Vf f) (hW : Wd f 5 m) {r w : Nat} (hr : r < nR f) (hw : w < 7) (k : Q (.inl (some (.int (rn f r w))), m)) : Cl g 1 0 0 mX10_runCell [.ref 5, .int (nI r), .int (nI w)] m Q := by
  refine S_X10_runCell hF hW.2.2.2.2.1.1 hV.1.2.2.1.2 hr hw ?_
  rw [show ldI m 31 (7 * r + w) = rn f r w from (hW.2.2.2.2.1.2 (7 * r + w) (by omega)).trans (congrArg f (by omega))]; exact k
theorem S_runN {g : GG} {m : MM} {Q : Out → Prop} (hF : Fx m) {f : Nat → Int32} (hV : Vf f) (hW : Wd f 5 m) (k : Q (.inl (some (.int (nI (nR f)))), m)) : Cl g 1 0 0 mX10_runCount [.ref 5] m Q := S_X10_runCount hF hW.2.2.2.2.1.1 hV.1.2.2.1.2 k
theorem S_fetch {g : GG} {m : MM} {Q : Out → Prop} (hF : Fx m) {f : Nat → Int32} (hV : Vf f) (hW : Wd f 5 m) {r : Nat} (hr : r < nR f) (k : ∀ m', Off 165 165 m m' → (∀ j, j < 6 → ldI m' 165 j = rn f r j) → Q (.inl none, m')) : Cl g 2 0 0 mX10_fetchRun [.ref 5, .int (nI r), .ref 165] m Q := by
  have e : ∀ w, w < 7 → ldI m 31 (7 * r + w) = rn f r w := fun w hw => (hW.2.2.2.2.1.2 (7 * r + w) (by omega)).trans (congrArg f (by omega))
  refine S_X10_fetchRun hF hW.2.2.2.2.1.1 hV.1.2.2.1.2 hr (by rw [e 4 (by omega)]; exact (hV.2.2.2.2.1 r hr).1.2.2.2.2.1) ?_
  refine k _ rDrPl_off (fun j hj => ?_)
  rw [r6_ld j hj]
  rcases j with _ | _ | _ | _ | _ | _ | j
  · exact e 0 (by omega)
  · exact e 1 (by omega)
  · exact e 2 (by omega)
  · exact e 3 (by omega)
  · exact e 4 (by omega)
  · exact e 5 (by omega)
  · omega
def atH (f : Nat → Int32) (r : Nat) : Prop := rn f r 0 = f 27 ∧ rn f r 1 = f 28 ∧ rn f r 2 = f 29
def wrF (f : Nat → Int32) : Nat → Int64 × Int64 × Int32 × Int32
  | 0 => (0, 0, 0, 0)
  | i + 1 => if ¬ (rn f i 0 = f 27 ∧ rn f i 1 = f 28 ∧ rn f i 2 = f 29) then wrF f i else if rn f i 4 = 1 then ((wrF f i).1 + (rn f i 6).toInt64, (wrF f i).2.1, (wrF f i).2.2.1 + 1, (wrF f i).2.2.2) else ((wrF f i).1, (wrF f i).2.1 + (rn f i 6).toInt64, (wrF f i).2.2.1, (wrF f i).2.2.2 + 1)
def wrV (s : Int64 × Int64 × Int32 × Int32) : Int64 := if s.2.2.1 = 0 ∨ s.2.2.2 = 0 then 0 else s.1 * s.2.2.2.toInt64 - s.2.1 * s.2.2.1.toInt64
theorem S_X0_isAtHand {g : GG} {m : MM} {Q : Out → Prop} (hF : Fx m) {f : Nat → Int32} (hV : Vf f) (hW : Wd f 5 m) {r : Nat} (hr : r < nR f) (k1 : atH f r → Q (.inl (some (.int 1)), m)) (k0 : ¬ atH f r → Q (.inl (some (.int 0)), m)) : Cl g 2 0 0 mX0_isAtHand [.ref 159, .int (nI r)] m Q := by
  refine Cl.of rfl (by decide) (Nat.le_of_ble_eq_true rfl) ?_
  show Wp g mX0_isAtHand 2 0 0 0 [.ref 159, .int (nI r)] [] m Q
  refine r_aload_n dX0_isAtHand_0 rfl ?_
  refine r_getRc dX0_isAtHand_1 fgX0_9 rfl (by exact k_159 hF) (by exact r_159_0 hF) ?_
  refine r_iload_n dX0_isAtHand_4 rfl ?_
  refine r_iconst (0) dX0_isAtHand_5 rfl ?_
  refine r_callV2 (ci := 10) (d1 := 1) (c1 := 0) (n1 := 0) dX0_isAtHand_6 mvX0_216 rfl ⟨(Nat.le_of_ble_eq_true rfl), rfl⟩ (Nat.le_of_ble_eq_true rfl) (by exact Nat.le_of_ble_eq_true rfl) (by exact k_5 hF) ?_
  refine S_cell hF hV hW (r := r) hr (w := 0) (by decide) ?_
  show Wp g mX0_isAtHand _ _ _ 9 _ (_ :: _) _ Q
  refine r_aload_n dX0_isAtHand_9 rfl ?_
  refine r_getRc dX0_isAtHand_10 fgX0_9 rfl (by exact k_159 hF) (by exact r_159_0 hF) ?_
  refine r_getRc dX0_isAtHand_13 fgX0_47 rfl (by exact k_5 hF) (by exact r_5_4 hF) ?_
  refine r_getIc (f 27) dX0_isAtHand_16 fgX0_60 rfl (by exact k_29 hF) (by exact hW.2.2.2.1 0 (by omega)) ?_
  refine r_icmp_ne 70 dX0_isAtHand_19 rfl (fun h1 => ?_) (fun h1 => ?_)
  ·
    refine r_iconst (0) dX0_isAtHand_70 rfl ?_
    refine r_ireturn dX0_isAtHand_71 rfl rfl ?_
    first | exact k1 ⟨h1, h2, h3⟩ | exact k0 (fun q => h1 q.1) | exact k0 (fun q => h2 q.2.1) | exact k0 (fun q => h3 q.2.2)
  ·
    refine r_aload_n dX0_isAtHand_22 rfl ?_
    refine r_getRc dX0_isAtHand_23 fgX0_9 rfl (by exact k_159 hF) (by exact r_159_0 hF) ?_
    refine r_iload_n dX0_isAtHand_26 rfl ?_
    refine r_iconst (1) dX0_isAtHand_27 rfl ?_
    refine r_callV2 (ci := 10) (d1 := 1) (c1 := 0) (n1 := 0) dX0_isAtHand_28 mvX0_216 rfl ⟨(Nat.le_of_ble_eq_true rfl), rfl⟩ (Nat.le_of_ble_eq_true rfl) (by exact Nat.le_of_ble_eq_true rfl) (by exact k_5 hF) ?_
    refine S_cell hF hV hW (r := r) hr (w := 1) (by decide) ?_
    show Wp g mX0_isAtHand _ _ _ 31 _ (_ :: _) _ Q
    refine r_aload_n dX0_isAtHand_31 rfl ?_
    refine r_getRc dX0_isAtHand_32 fgX0_9 rfl (by exact k_159 hF) (by exact r_159_0 hF) ?_
    refine r_getRc dX0_isAtHand_35 fgX0_47 rfl (by exact k_5 hF) (by exact r_5_4 hF) ?_
    refine r_getIc (f 28) dX0_isAtHand_38 fgX0_68 rfl (by exact k_29 hF) (by exact hW.2.2.2.1 1 (by omega)) ?_
    refine r_icmp_ne 70 dX0_isAtHand_41 rfl (fun h2 => ?_) (fun h2 => ?_)
    ·
      refine r_iconst (0) dX0_isAtHand_70 rfl ?_
      refine r_ireturn dX0_isAtHand_71 rfl rfl ?_
      first | exact k1 ⟨h1, h2, h3⟩ | exact k0 (fun q => h1 q.1) | exact k0 (fun q => h2 q.2.1) | exact k0 (fun q => h3 q.2.2)
    ·
      refine r_aload_n dX0_isAtHand_44 rfl ?_
      refine r_getRc dX0_isAtHand_45 fgX0_9 rfl (by exact k_159 hF) (by exact r_159_0 hF) ?_
      refine r_iload_n dX0_isAtHand_48 rfl ?_
      refine r_iconst (2) dX0_isAtHand_49 rfl ?_
      refine r_callV2 (ci := 10) (d1 := 1) (c1 := 0) (n1 := 0) dX0_isAtHand_50 mvX0_216 rfl ⟨(Nat.le_of_ble_eq_true rfl), rfl⟩ (Nat.le_of_ble_eq_true rfl) (by exact Nat.le_of_ble_eq_true rfl) (by exact k_5 hF) ?_
      refine S_cell hF hV hW (r := r) hr (w := 2) (by decide) ?_
      show Wp g mX0_isAtHand _ _ _ 53 _ (_ :: _) _ Q
      refine r_aload_n dX0_isAtHand_53 rfl ?_
      refine r_getRc dX0_isAtHand_54 fgX0_9 rfl (by exact k_159 hF) (by exact r_159_0 hF) ?_
      refine r_getRc dX0_isAtHand_57 fgX0_47 rfl (by exact k_5 hF) (by exact r_5_4 hF) ?_
      refine r_getIc (f 29) dX0_isAtHand_60 fgX0_78 rfl (by exact k_29 hF) (by exact hW.2.2.2.1 2 (by omega)) ?_
      refine r_icmp_ne 70 dX0_isAtHand_63 rfl (fun h3 => ?_) (fun h3 => ?_)
      ·
        refine r_iconst (0) dX0_isAtHand_70 rfl ?_
        refine r_ireturn dX0_isAtHand_71 rfl rfl ?_
        first | exact k1 ⟨h1, h2, h3⟩ | exact k0 (fun q => h1 q.1) | exact k0 (fun q => h2 q.2.1) | exact k0 (fun q => h3 q.2.2)
      ·
        refine r_iconst (1) dX0_isAtHand_66 rfl ?_
        refine r_goto 71 dX0_isAtHand_67 rfl ?_
        refine r_ireturn dX0_isAtHand_71 rfl rfl ?_
        first | exact k1 ⟨h1, h2, h3⟩ | exact k0 (fun q => h1 q.1) | exact k0 (fun q => h2 q.2.1) | exact k0 (fun q => h3 q.2.2)
theorem L_wire {g : GG} {m : MM} {Q : Out → Prop} (hF : Fx m) {f : Nat → Int32} (hV : Vf f) (hW : Wd f 5 m)  (kx : Wp g mX0_wirePart 3 0 0 96 [.ref 159, .long (wrF f (nR f)).1, .retAddr 0, .long (wrF f (nR f)).2.1, .retAddr 0, .int (wrF f (nR f)).2.2.1, .int (wrF f (nR f)).2.2.2, .int (nI (nR f))] [] (m) Q) : ∀ (t i : Nat) , i + t = (nR f) → Wp g mX0_wirePart 3 0 0 13 [.ref 159, .long (wrF f i).1, .retAddr 0, .long (wrF f i).2.1, .retAddr 0, .int (wrF f i).2.2.1, .int (wrF f i).2.2.2, .int (nI i)] [] (m) Q := by
  intro t
  induction t with
  | zero =>
    intro i  hi 
    have hi : i = (nR f) := by omega
    subst hi
    refine r_iload dX0_wirePart_13 rfl ?_
    refine r_aload_n dX0_wirePart_15 rfl ?_
    refine r_getRc dX0_wirePart_16 fgX0_9 rfl (by exact k_159 hF) (by exact r_159_0 hF) ?_
    refine r_callV0 (ci := 10) (d1 := 1) (c1 := 0) (n1 := 0) dX0_wirePart_19 mvX0_208 rfl ⟨(Nat.le_of_ble_eq_true rfl), rfl⟩ (Nat.le_of_ble_eq_true rfl) (by exact Nat.le_of_ble_eq_true rfl) (by exact k_5 hF) ?_
    refine S_runN hF hV hW ?_
    show Wp g mX0_wirePart _ _ _ 22 _ (_ :: _) _ Q
    refine r_icmp_ge 96 dX0_wirePart_22 rfl (fun h1 => ?_) (fun h1 => ?_)
    ·
      exact kx 
    ·
      exact absurd (nI_le (Nat.le_refl _) (by have := hV.1.2.2.1.2; omega)) h1
  | succ t ih =>
    intro i  hi 
    have hin : i < (nR f) := by omega
    refine r_iload dX0_wirePart_13 rfl ?_
    refine r_aload_n dX0_wirePart_15 rfl ?_
    refine r_getRc dX0_wirePart_16 fgX0_9 rfl (by exact k_159 hF) (by exact r_159_0 hF) ?_
    refine r_callV0 (ci := 10) (d1 := 1) (c1 := 0) (n1 := 0) dX0_wirePart_19 mvX0_208 rfl ⟨(Nat.le_of_ble_eq_true rfl), rfl⟩ (Nat.le_of_ble_eq_true rfl) (by exact Nat.le_of_ble_eq_true rfl) (by exact k_5 hF) ?_
    refine S_runN hF hV hW ?_
    show Wp g mX0_wirePart _ _ _ 22 _ (_ :: _) _ Q
    refine r_icmp_ge 96 dX0_wirePart_22 rfl (fun h1 => ?_) (fun h1 => ?_)
    ·
      exact absurd h1 (nI_ge hin (by have := hV.1.2.2.1.2; omega))
    ·
      refine r_aload_n dX0_wirePart_25 rfl ?_
      refine r_iload dX0_wirePart_26 rfl ?_
      refine r_callV1 (ci := 0) (d1 := 2) (c1 := 0) (n1 := 0) dX0_wirePart_28 mvX0_212 rfl ⟨(Nat.le_of_ble_eq_true rfl), rfl⟩ (Nat.le_of_ble_eq_true rfl) (by exact Nat.le_of_ble_eq_true rfl) (by exact k_159 hF) ?_
      refine S_X0_isAtHand hF hV hW (r := i) hin (fun hA => ?_) (fun hA => ?_)
      ·
        show Wp g mX0_wirePart _ _ _ 31 _ (_ :: _) _ Q
        refine r_if_ne 37 dX0_wirePart_31 rfl (fun _ => ?_) (fun hz => absurd hz (by decide))
        refine r_aload_n dX0_wirePart_37 rfl ?_
        refine r_getRc dX0_wirePart_38 fgX0_9 rfl (by exact k_159 hF) (by exact r_159_0 hF) ?_
        refine r_iload dX0_wirePart_41 rfl ?_
        refine r_iconst (4) dX0_wirePart_43 rfl ?_
        refine r_callV2 (ci := 10) (d1 := 1) (c1 := 0) (n1 := 0) dX0_wirePart_44 mvX0_216 rfl ⟨(Nat.le_of_ble_eq_true rfl), rfl⟩ (Nat.le_of_ble_eq_true rfl) (by exact Nat.le_of_ble_eq_true rfl) (by exact k_5 hF) ?_
        refine S_cell hF hV hW (r := i) hin (w := 4) (by decide) ?_
        show Wp g mX0_wirePart _ _ _ 47 _ (_ :: _) _ Q
        refine r_iconst (1) dX0_wirePart_47 rfl ?_
        refine r_icmp_ne 72 dX0_wirePart_48 rfl (fun h2 => ?_) (fun h2 => ?_)
        ·
          refine r_lload_n dX0_wirePart_72 rfl ?_
          refine r_aload_n dX0_wirePart_73 rfl ?_
          refine r_getRc dX0_wirePart_74 fgX0_9 rfl (by exact k_159 hF) (by exact r_159_0 hF) ?_
          refine r_iload dX0_wirePart_77 rfl ?_
          refine r_bipush (6) dX0_wirePart_79 rfl ?_
          refine r_callV2 (ci := 10) (d1 := 1) (c1 := 0) (n1 := 0) dX0_wirePart_81 mvX0_216 rfl ⟨(Nat.le_of_ble_eq_true rfl), rfl⟩ (Nat.le_of_ble_eq_true rfl) (by exact Nat.le_of_ble_eq_true rfl) (by exact k_5 hF) ?_
          refine S_cell hF hV hW (r := i) hin (w := 6) (by decide) ?_
          show Wp g mX0_wirePart _ _ _ 84 _ (_ :: _) _ Q
          refine r_i2l dX0_wirePart_84 ?_
          refine r_ladd dX0_wirePart_85 ?_
          refine sl_3 dX0_wirePart_86 (by first | rfl | assumption) (Nat.le_of_ble_eq_true rfl) ?_
          refine ic_6 (1) dX0_wirePart_87 rfl rfl (Nat.le_of_ble_eq_true rfl) ?_
          refine ic_7 (1) dX0_wirePart_90 rfl rfl (Nat.le_of_ble_eq_true rfl) ?_
          refine r_goto 13 dX0_wirePart_93 rfl ?_
          have z := ih (i + 1) (by omega)
          rw [show wrF f (i + 1) = _ from (if_neg (fun q => q hA)).trans (if_neg h2)] at z
          rw [nI_1 i]
          exact z
        ·
          refine r_lload_n dX0_wirePart_51 rfl ?_
          refine r_aload_n dX0_wirePart_52 rfl ?_
          refine r_getRc dX0_wirePart_53 fgX0_9 rfl (by exact k_159 hF) (by exact r_159_0 hF) ?_
          refine r_iload dX0_wirePart_56 rfl ?_
          refine r_bipush (6) dX0_wirePart_58 rfl ?_
          refine r_callV2 (ci := 10) (d1 := 1) (c1 := 0) (n1 := 0) dX0_wirePart_60 mvX0_216 rfl ⟨(Nat.le_of_ble_eq_true rfl), rfl⟩ (Nat.le_of_ble_eq_true rfl) (by exact Nat.le_of_ble_eq_true rfl) (by exact k_5 hF) ?_
          refine S_cell hF hV hW (r := i) hin (w := 6) (by decide) ?_
          show Wp g mX0_wirePart _ _ _ 63 _ (_ :: _) _ Q
          refine r_i2l dX0_wirePart_63 ?_
          refine r_ladd dX0_wirePart_64 ?_
          refine sl_1 dX0_wirePart_65 rfl (Nat.le_of_ble_eq_true rfl) ?_
          refine ic_5 (1) dX0_wirePart_66 rfl rfl (Nat.le_of_ble_eq_true rfl) ?_
          refine r_goto 90 dX0_wirePart_69 rfl ?_
          refine ic_7 (1) dX0_wirePart_90 rfl rfl (Nat.le_of_ble_eq_true rfl) ?_
          refine r_goto 13 dX0_wirePart_93 rfl ?_
          have z := ih (i + 1) (by omega)
          rw [show wrF f (i + 1) = _ from (if_neg (fun q => q hA)).trans (if_pos h2)] at z
          rw [nI_1 i]
          exact z
      ·
        show Wp g mX0_wirePart _ _ _ 31 _ (_ :: _) _ Q
        refine r_if_ne 37 dX0_wirePart_31 rfl (fun hz => absurd hz (by decide)) (fun _ => ?_)
        refine r_goto 90 dX0_wirePart_34 rfl ?_
        refine ic_7 (1) dX0_wirePart_90 rfl rfl (Nat.le_of_ble_eq_true rfl) ?_
        refine r_goto 13 dX0_wirePart_93 rfl ?_
        have z := ih (i + 1) (by omega)
        rw [show wrF f (i + 1) = _ from if_pos hA] at z
        rw [nI_1 i]
        exact z
theorem S_X0_wirePart {g : GG} {m : MM} {Q : Out → Prop} (hF : Fx m) {f : Nat → Int32} (hV : Vf f) (hW : Wd f 5 m) (k : Q (.inl (some (.long (wrV (wrF f (nR f))))), m)) : Cl g 3 0 0 mX0_wirePart [.ref 159] m Q := by
  refine Cl.of rfl (by decide) (Nat.le_of_ble_eq_true rfl) ?_
  show Wp g mX0_wirePart 3 0 0 0 [.ref 159, .retAddr 0, .retAddr 0, .retAddr 0, .retAddr 0, .retAddr 0, .retAddr 0, .retAddr 0] [] m Q
  refine r_lconst (0) dX0_wirePart_0 rfl ?_
  refine sl_1 dX0_wirePart_1 rfl (Nat.le_of_ble_eq_true rfl) ?_
  refine r_lconst (0) dX0_wirePart_2 rfl ?_
  refine sl_3 dX0_wirePart_3 (by first | rfl | assumption) (Nat.le_of_ble_eq_true rfl) ?_
  refine r_iconst (0) dX0_wirePart_4 rfl ?_
  refine si_5 dX0_wirePart_5 (by first | rfl | assumption) (Nat.le_of_ble_eq_true rfl) ?_
  refine r_iconst (0) dX0_wirePart_7 rfl ?_
  refine si_6 dX0_wirePart_8 rfl (Nat.le_of_ble_eq_true rfl) ?_
  refine r_iconst (0) dX0_wirePart_10 rfl ?_
  refine si_7 dX0_wirePart_11 rfl (Nat.le_of_ble_eq_true rfl) ?_
  refine L_wire hF hV hW ?_ (nR f) 0 (by omega)
  refine r_iload dX0_wirePart_96 rfl ?_
  refine r_if_eq 106 dX0_wirePart_98 rfl (fun h5 => ?_) (fun h5 => ?_)
  ·
    refine r_lconst (0) dX0_wirePart_106 rfl ?_
    refine r_goto 121 dX0_wirePart_107 rfl ?_
    refine r_lreturn dX0_wirePart_121 rfl ?_
    rw [wrV, if_pos (Or.inl h5)] at k; exact k
  ·
    refine r_iload dX0_wirePart_101 rfl ?_
    refine r_if_ne 110 dX0_wirePart_103 rfl (fun h6 => ?_) (fun h6 => ?_)
    ·
      refine r_lload_n dX0_wirePart_110 rfl ?_
      refine r_iload dX0_wirePart_111 rfl ?_
      refine r_i2l dX0_wirePart_113 ?_
      refine r_lmul dX0_wirePart_114 ?_
      refine r_lload_n dX0_wirePart_115 rfl ?_
      refine r_iload dX0_wirePart_116 rfl ?_
      refine r_i2l dX0_wirePart_118 ?_
      refine r_lmul dX0_wirePart_119 ?_
      refine r_lsub dX0_wirePart_120 ?_
      refine r_lreturn dX0_wirePart_121 rfl ?_
      rw [wrV, if_neg (fun q => q.elim h5 h6)] at k; exact k
    ·
      refine r_lconst (0) dX0_wirePart_106 rfl ?_
      refine r_goto 121 dX0_wirePart_107 rfl ?_
      refine r_lreturn dX0_wirePart_121 rfl ?_
      rw [wrV, if_pos (Or.inr h6)] at k; exact k
def PvR (f : Nat → Int32) (T : (Nat → Int64) → Nat → Int64) (rv : Nat → Int32) : Int64 := PvV f (rv 0).toNatClampNeg T rv
def fitP (f : Nat → Int32) (T : (Nat → Int64) → Nat → Int64) (o : Int32) (r : Nat) : Bool := decide (dst (rn f r 6).toInt64 (PvR f T (rn f r)) ≤ PvR f T (rn f r) * o.toInt64 / 100)
def fitN (f : Nat → Int32) (T : (Nat → Int64) → Nat → Int64) (o : Int32) : Nat → Bool
  | 0 => true
  | r + 1 => fitN f T o r && fitP f T o r
theorem fitN_f {f : Nat → Int32} {T : (Nat → Int64) → Nat → Int64} {o : Int32} {i : Nat} (h : fitP f T o i = false) : ∀ n, i < n → fitN f T o n = false
  | 0, q => absurd q (by omega)
  | n + 1, q => by
    show (fitN f T o n && fitP f T o n) = false
    by_cases z : i = n
    · subst z; rw [h, Bool.and_false]
    · rw [fitN_f h n (by omega), Bool.false_and]
theorem VR_h {f g : Nat → Int32} (h : VR f g) (h6 : nH f ≤ 6) : g 0 = nI (g 0).toNatClampNeg ∧ (g 0).toNatClampNeg < nH f := by
  obtain ⟨⟨x, hx, hl⟩, -⟩ := h
  rw [hx, nI_cl x (by omega)]; exact ⟨rfl, hl⟩
theorem L_fit {g : GG} {m : MM} {Q : Out → Prop} (hF : Fx m) {f : Nat → Int32} (hV : Vf f) (hW : Wd f 5 m) {p : Nat} {T : (Nat → Int64) → Nat → Int64} (hp : Pr T p m) {o : Int32} (k : ∀ m', Off 160 166 m m' → Q (.inl (some (.int (if fitN f T o (nR f) then 1 else 0))), m')) : ∀ (t i : Nat) (x4 x5 : Value) (m1 : MM), i + t = nR f → (Off 160 166 m m1 ∧ fitN f T o i = true) → Wp g mX0_isFitting 4 0 0 2 [.ref 159, .ref p, .int o, .int (nI i), x4, x5] [] m1 Q := by
  have hn6 := hV.1.1.2
  have hR := hV.1.2.2.1.2
  intro t
  induction t with
  | zero =>
    intro i x4 x5 m1 hi hI
    obtain rfl : i = nR f := by omega
    have o1 := hI.1
    have hF1 := Fx_of o1.1 hF
    have hW1 := hW.off o1 (by omega) hn6
    refine r_iload_n dX0_isFitting_2 rfl ?_
    refine r_aload_n dX0_isFitting_3 rfl ?_
    refine r_getRc dX0_isFitting_4 fgX0_9 rfl (by exact k_159 hF1) (by exact r_159_0 hF1) ?_
    refine r_callV0 (ci := 10) (d1 := 1) (c1 := 0) (n1 := 0) dX0_isFitting_7 mvX0_208 rfl ⟨(Nat.le_of_ble_eq_true rfl), rfl⟩ (Nat.le_of_ble_eq_true rfl) (by exact Nat.le_of_ble_eq_true rfl) (by exact k_5 hF1) ?_
    refine S_runN hF1 hV hW1 ?_
    show Wp g mX0_isFitting _ _ _ 10 _ (_ :: _) _ Q
    refine r_icmp_ge 71 dX0_isFitting_10 rfl (fun h1 => ?_) (fun h1 => ?_)
    ·
      refine r_iconst (1) dX0_isFitting_71 rfl ?_
      refine r_ireturn dX0_isFitting_72 rfl rfl ?_
      have k9 := k m1 o1; rw [hI.2] at k9; exact k9
    ·
      exact absurd (nI_le (Nat.le_refl _) (by omega)) h1
  | succ t ih =>
    intro i x4 x5 m1 hi hI
    have o1 := hI.1
    have hF1 := Fx_of o1.1 hF
    have hW1 := hW.off o1 (by omega) hn6
    have hin : i < nR f := by omega
    have hh := VR_h (hV.2.2.2.2.1 i hin).1 hn6
    refine r_iload_n dX0_isFitting_2 rfl ?_
    refine r_aload_n dX0_isFitting_3 rfl ?_
    refine r_getRc dX0_isFitting_4 fgX0_9 rfl (by exact k_159 hF1) (by exact r_159_0 hF1) ?_
    refine r_callV0 (ci := 10) (d1 := 1) (c1 := 0) (n1 := 0) dX0_isFitting_7 mvX0_208 rfl ⟨(Nat.le_of_ble_eq_true rfl), rfl⟩ (Nat.le_of_ble_eq_true rfl) (by exact Nat.le_of_ble_eq_true rfl) (by exact k_5 hF1) ?_
    refine S_runN hF1 hV hW1 ?_
    show Wp g mX0_isFitting _ _ _ 10 _ (_ :: _) _ Q
    refine r_icmp_ge 71 dX0_isFitting_10 rfl (fun h1 => ?_) (fun h1 => ?_)
    ·
      exact absurd h1 (nI_ge hin (by omega))
    ·
      refine r_aload_n dX0_isFitting_13 rfl ?_
      refine r_getRc dX0_isFitting_14 fgX0_9 rfl (by exact k_159 hF1) (by exact r_159_0 hF1) ?_
      refine r_iload_n dX0_isFitting_17 rfl ?_
      refine r_aload_n dX0_isFitting_18 rfl ?_
      refine r_getRc dX0_isFitting_19 fgX0_32 rfl (by exact k_159 hF1) (by exact r_159_3 hF1) ?_
      refine r_callV2 (ci := 10) (d1 := 2) (c1 := 0) (n1 := 0) dX0_isFitting_22 mvX0_232 rfl ⟨(Nat.le_of_ble_eq_true rfl), rfl⟩ (Nat.le_of_ble_eq_true rfl) (by exact Nat.le_of_ble_eq_true rfl) (by exact k_5 hF1) ?_
      refine S_fetch hF1 hV hW1 hin (fun m2 q2 ht2 => ?_)
      have o2 := (o1).tr ((q2).wd (by omega) (by omega))
      have hF2 := Fx_of o2.1 hF
      have hW2 := hW.off o2 (by omega) hn6
      show Wp g mX0_isFitting _ _ _ 25 _ [] _ Q
      refine r_aload_n dX0_isFitting_25 rfl ?_
      refine r_aload_n dX0_isFitting_26 rfl ?_
      refine r_aload_n dX0_isFitting_27 rfl ?_
      refine r_getRc dX0_isFitting_28 fgX0_32 rfl (by exact k_159 hF2) (by exact r_159_3 hF2) ?_
      refine r_callV2 (ci := 0) (d1 := 3) (c1 := 0) (n1 := 0) dX0_isFitting_31 mvX0_149 rfl ⟨(Nat.le_of_ble_eq_true rfl), rfl⟩ (Nat.le_of_ble_eq_true rfl) (by exact Nat.le_of_ble_eq_true rfl) (by exact k_159 hF2) ?_
      refine S_X0_pullOf hF2 hV hW2 (r := 165) (h := (rn f i 0).toNatClampNeg) (rv := rn f i) (by exact k_165 hF2) (by omega) ht2 hh.1 hh.2 (hp.off o2 (by omega)) (fun m3 q3 _ _ _ => ?_)
      have o3 := (o2).tr ((q3).wd (by omega) (by omega))
      have hF3 := Fx_of o3.1 hF
      have hW3 := hW.off o3 (by omega) hn6
      have ht3 := fun j hj => (((q3).2 165 (by omega)).1 j).trans (ht2 j hj)
      show Wp g mX0_isFitting _ _ _ 34 _ (_ :: _) _ Q
      refine sl_4 dX0_isFitting_34 rfl (Nat.le_of_ble_eq_true rfl) ?_
      refine r_aload_n dX0_isFitting_36 rfl ?_
      refine r_getRc dX0_isFitting_37 fgX0_9 rfl (by exact k_159 hF3) (by exact r_159_0 hF3) ?_
      refine r_iload_n dX0_isFitting_40 rfl ?_
      refine r_bipush (6) dX0_isFitting_41 rfl ?_
      refine r_callV2 (ci := 10) (d1 := 1) (c1 := 0) (n1 := 0) dX0_isFitting_43 mvX0_216 rfl ⟨(Nat.le_of_ble_eq_true rfl), rfl⟩ (Nat.le_of_ble_eq_true rfl) (by exact Nat.le_of_ble_eq_true rfl) (by exact k_5 hF3) ?_
      refine S_cell hF3 hV hW3 (r := i) hin (w := 6) (by decide) ?_
      show Wp g mX0_isFitting _ _ _ 46 _ (_ :: _) _ Q
      refine r_i2l dX0_isFitting_46 ?_
      refine r_lload dX0_isFitting_47 rfl ?_
      refine r_callN2 (d1 := 0) (c1 := 0) (n1 := 0) dX0_isFitting_49 msX0_189 (Nat.le_of_ble_eq_true rfl) (by exact Nat.le_of_ble_eq_true rfl) ?_
      refine S_dist ?_
      show Wp g mX0_isFitting _ _ _ 52 _ (_ :: _) _ Q
      refine r_lload dX0_isFitting_52 rfl ?_
      refine r_iload_n dX0_isFitting_54 rfl ?_
      refine r_i2l dX0_isFitting_55 ?_
      refine r_callN2 (d1 := 0) (c1 := 0) (n1 := 0) dX0_isFitting_56 msX0_178 (Nat.le_of_ble_eq_true rfl) (by exact Nat.le_of_ble_eq_true rfl) ?_
      refine S_X11_hundredths ?_
      show Wp g mX0_isFitting _ _ _ 59 _ (_ :: _) _ Q
      refine r_lcmp_le 65 dX0_isFitting_59 dX0_isFitting_60 rfl (fun h2 => ?_) (fun h2 => ?_)
      ·
        refine ic_3 (1) dX0_isFitting_65 rfl rfl (Nat.le_of_ble_eq_true rfl) ?_
        refine r_goto 2 dX0_isFitting_68 rfl ?_
        rw [nI_1 i]
        exact ih (i + 1) _ _ m3 (by omega) ⟨o3, by show (fitN f T o i && fitP f T o i) = true; rw [hI.2, Bool.true_and]; exact decide_eq_true h2⟩
      ·
        refine r_iconst (0) dX0_isFitting_63 rfl ?_
        refine r_ireturn dX0_isFitting_64 rfl rfl ?_
        have k9 := k m3 o3; rw [fitN_f (decide_eq_false (i64_nle.mpr (i64_nle.mp h2))) (nR f) hin] at k9; exact k9
theorem S_X0_isFitting {g : GG} {m : MM} {Q : Out → Prop} (hF : Fx m) {f : Nat → Int32} (hV : Vf f) (hW : Wd f 5 m) {p : Nat} {T : (Nat → Int64) → Nat → Int64} (hp : Pr T p m) {o : Int32} (k : ∀ m', Off 160 166 m m' → Q (.inl (some (.int (if fitN f T o (nR f) then 1 else 0))), m'))  : Cl g 4 0 0 mX0_isFitting [.ref 159, .ref p, .int o] m Q := by
  refine Cl.of rfl (by decide) (Nat.le_of_ble_eq_true rfl) ?_
  show Wp g mX0_isFitting 4 0 0 0 [.ref 159, .ref p, .int o, .retAddr 0, .retAddr 0, .retAddr 0] [] m Q
  refine r_iconst (0) dX0_isFitting_0 rfl ?_
  refine si_3 dX0_isFitting_1 rfl (Nat.le_of_ble_eq_true rfl) ?_
  exact L_fit hF hV hW hp k (nR f) 0 _ _ m (by omega) ⟨Off.rf, rfl⟩
def Shf (a c z : Nat) (n : Nat) (Ts : Nat → (Nat → Int64) → Nat → Int64) (m : MM) : Prop := ldI m a 1 = nI n ∧ n ≤ z ∧ ∀ j, j < n → Pr (Ts j) (ldR m c j) m
theorem Shf.off {a c z n lo hi : Nat} {Ts : Nat → (Nat → Int64) → Nat → Int64} {m m' : MM} (h : Shf a c z n Ts m) (o : Off lo hi m m') (ha : a < lo ∨ hi < a) (h2 : hi < 284) : Shf a c z n Ts m' := ⟨((o.2 a ha).1 1).trans h.1, h.2.1, fun j hj => by rw [ldR_of o.1]; exact (h.2.2 j hj).off o h2⟩
theorem S_shAt {g : GG} {m : MM} {Q : Out → Prop} {a c z n : Nat} {Ts : Nat → (Nat → Int64) → Nat → Int64} (ha : kdl m a = some (7, 0)) (hr : ldR m a 0 = c) (hc : kdl m c = some (16, z)) (hz : z < 1000) (h : Shf a c z n Ts m) {j : Nat} (hj : j < n) (k : Q (.inl (some (.ref (ldR m c j))), m)) : Cl g 0 0 0 mX7_at [.ref a, .int (nI j)] m Q := by
  have hnz := h.2.1
  refine S_X7_at ha hr hc hz h.1 hnz (fun i hi hin => ?_) (fun h9 => (nI_spec rfl hj (by omega) h9).elim)
  obtain rfl := (nI_eq (by omega) (by omega)).mp hi
  exact k
def fitB (f : Nat → Int32) (Ts : Nat → (Nat → Int64) → Nat → Int64) (o : Int32) : Nat → Bool := fun i => fitN f (Ts i) o (nR f)
theorem L_fits {g : GG} {m : MM} {Q : Out → Prop} (hF : Fx m) {f : Nat → Int32} (hV : Vf f) (hW : Wd f 5 m) {n : Nat} {Ts : Nat → (Nat → Int64) → Nat → Int64} (hS : Shf 155 156 4 n Ts m) {o : Int32}  (kx : ∀ (x5 : Value) (m1 : MM), Off 160 166 m m1 → Wp g mX0_fittingLaws 5 0 0 50 [.ref 159, .ref 155, .int o, .int (bitsF (fitB f Ts o) n), .int (nI n), x5] [] (m1) Q) : ∀ (t i : Nat) (x5 : Value) (m1 : MM), i + t = n → Off 160 166 m m1 → Wp g mX0_fittingLaws 5 0 0 5 [.ref 159, .ref 155, .int o, .int (bitsF (fitB f Ts o) i), .int (nI i), x5] [] (m1) Q := by
  intro t
  induction t with
  | zero =>
    intro i x5 m1 hi hI
    have hi : i = n := by omega
    subst hi
    have hn6 := hV.1.1.2
    have hn4 := hS.2.1
    have o1 := hI
    have hF1 := Fx_of o1.1 hF
    have hW1 := hW.off o1 (by omega) hn6
    have hS1 := hS.off o1 (by omega) (by omega)
    refine r_iload dX0_fittingLaws_5 rfl ?_
    refine r_aload_n dX0_fittingLaws_7 rfl ?_
    refine r_callV0 (ci := 7) (d1 := 0) (c1 := 0) (n1 := 0) dX0_fittingLaws_8 mvX0_220 rfl ⟨(Nat.le_of_ble_eq_true rfl), rfl⟩ (Nat.le_of_ble_eq_true rfl) (by exact Nat.le_of_ble_eq_true rfl) (by exact k_155 hF1) ?_
    refine S_X7_filled (by exact k_155 hF1) ?_
    rw [hS1.1]
    show Wp g mX0_fittingLaws _ _ _ 11 _ (_ :: _) _ Q
    refine r_icmp_ge 50 dX0_fittingLaws_11 rfl (fun h1 => ?_) (fun h1 => ?_)
    ·
      exact kx _ _ hI
    ·
      exact absurd (nI_le (Nat.le_refl _) (by omega)) h1
  | succ t ih =>
    intro i x5 m1 hi hI
    have hin : i < n := by omega
    have hn6 := hV.1.1.2
    have hn4 := hS.2.1
    have o1 := hI
    have hF1 := Fx_of o1.1 hF
    have hW1 := hW.off o1 (by omega) hn6
    have hS1 := hS.off o1 (by omega) (by omega)
    refine r_iload dX0_fittingLaws_5 rfl ?_
    refine r_aload_n dX0_fittingLaws_7 rfl ?_
    refine r_callV0 (ci := 7) (d1 := 0) (c1 := 0) (n1 := 0) dX0_fittingLaws_8 mvX0_220 rfl ⟨(Nat.le_of_ble_eq_true rfl), rfl⟩ (Nat.le_of_ble_eq_true rfl) (by exact Nat.le_of_ble_eq_true rfl) (by exact k_155 hF1) ?_
    refine S_X7_filled (by exact k_155 hF1) ?_
    rw [hS1.1]
    show Wp g mX0_fittingLaws _ _ _ 11 _ (_ :: _) _ Q
    refine r_icmp_ge 50 dX0_fittingLaws_11 rfl (fun h1 => ?_) (fun h1 => ?_)
    ·
      exact absurd h1 (nI_ge hin (by omega))
    ·
      refine r_aload_n dX0_fittingLaws_14 rfl ?_
      refine r_iload dX0_fittingLaws_15 rfl ?_
      refine r_callV1 (ci := 7) (d1 := 0) (c1 := 0) (n1 := 0) dX0_fittingLaws_17 mvX0_225 rfl ⟨(Nat.le_of_ble_eq_true rfl), rfl⟩ (Nat.le_of_ble_eq_true rfl) (by exact Nat.le_of_ble_eq_true rfl) (by exact k_155 hF1) ?_
      refine S_shAt (by exact k_155 hF1) (by exact r_155_0 hF1) (by exact k_156 hF1) (by omega) (n := n) (Ts := Ts) hS1 (j := i) hin ?_
      have hpi := hS1.2.2 i hin
      show Wp g mX0_fittingLaws _ _ _ 20 _ (_ :: _) _ Q
      refine sa_5 dX0_fittingLaws_20 rfl (Nat.le_of_ble_eq_true rfl) ?_
      refine r_aload dX0_fittingLaws_22 rfl ?_
      refine r_ifnull 44 dX0_fittingLaws_24 rfl (fun hnull => ?_) (fun hnull => ?_)
      ·
        exact absurd hnull (by have := hpi.1; omega)
      ·
        refine r_aload_n dX0_fittingLaws_27 rfl ?_
        refine r_aload dX0_fittingLaws_28 rfl ?_
        refine r_iload_n dX0_fittingLaws_30 rfl ?_
        refine r_callV2 (ci := 0) (d1 := 4) (c1 := 0) (n1 := 0) dX0_fittingLaws_31 mvX0_228 rfl ⟨(Nat.le_of_ble_eq_true rfl), rfl⟩ (Nat.le_of_ble_eq_true rfl) (by exact Nat.le_of_ble_eq_true rfl) (by exact k_159 hF1) ?_
        refine S_X0_isFitting hF1 hV hW1 hpi (fun m2 q2 => ?_)
        have o2 := (o1).tr ((q2).wd (by omega) (by omega))
        have hF2 := Fx_of o2.1 hF
        have hW2 := hW.off o2 (by omega) hn6
        show Wp g mX0_fittingLaws _ _ _ 34 _ (_ :: _) _ Q
        refine r_if_eq 44 dX0_fittingLaws_34 rfl (fun h2 => ?_) (fun h2 => ?_)
        ·
          refine ic_4 (1) dX0_fittingLaws_44 rfl rfl (Nat.le_of_ble_eq_true rfl) ?_
          refine r_goto 5 dX0_fittingLaws_47 rfl ?_
          rw [nI_1 i, bits_f (p := fitB f Ts o) (i := i) (fun q => by rw [show fitN f (Ts i) o (nR f) = true from q] at h2; exact absurd h2 (by decide))]
          exact ih (i + 1) _ m2 (by omega) o2
        ·
          refine r_iload_n dX0_fittingLaws_37 rfl ?_
          refine r_iconst (1) dX0_fittingLaws_38 rfl ?_
          refine r_iload dX0_fittingLaws_39 rfl ?_
          refine r_ishl dX0_fittingLaws_41 ?_
          refine r_ior dX0_fittingLaws_42 ?_
          refine si_3 dX0_fittingLaws_43 rfl (Nat.le_of_ble_eq_true rfl) ?_
          refine ic_4 (1) dX0_fittingLaws_44 rfl rfl (Nat.le_of_ble_eq_true rfl) ?_
          refine r_goto 5 dX0_fittingLaws_47 rfl ?_
          rw [nI_1 i, bits_t (p := fitB f Ts o) (i := i) (Classical.byContradiction (fun q => h2 (if_neg q)))]
          exact ih (i + 1) _ m2 (by omega) o2
theorem S_X0_fittingLaws {g : GG} {m : MM} {Q : Out → Prop} (hF : Fx m) {f : Nat → Int32} (hV : Vf f) (hW : Wd f 5 m) {n : Nat} {Ts : Nat → (Nat → Int64) → Nat → Int64} (hS : Shf 155 156 4 n Ts m) {o : Int32} (k : ∀ m', Off 160 166 m m' → Q (.inl (some (.int (bitsF (fitB f Ts o) n))), m')) : Cl g 5 0 0 mX0_fittingLaws [.ref 159, .ref 155, .int o] m Q := by
  refine Cl.of rfl (by decide) (Nat.le_of_ble_eq_true rfl) ?_
  show Wp g mX0_fittingLaws 5 0 0 0 [.ref 159, .ref 155, .int o, .retAddr 0, .retAddr 0, .retAddr 0] [] m Q
  refine r_iconst (0) dX0_fittingLaws_0 rfl ?_
  refine si_3 dX0_fittingLaws_1 rfl (Nat.le_of_ble_eq_true rfl) ?_
  refine r_iconst (0) dX0_fittingLaws_2 rfl ?_
  refine si_4 dX0_fittingLaws_3 rfl (Nat.le_of_ble_eq_true rfl) ?_
  refine L_fits hF hV hW hS (fun x5 m9 o9 => ?_) n 0 _ m (by omega) Off.rf
  refine r_iload_n dX0_fittingLaws_50 rfl ?_
  refine r_ireturn dX0_fittingLaws_51 rfl rfl ?_
  exact k m9 o9
def apW (f : Nat → Int32) (h : Nat) (Ts : Nat → (Nat → Int64) → Nat → Int64) (v : Int32) (i : Nat) : Int64 := PvV f h (Ts i) (clR f (f 28) v)
def apF (f : Nat → Int32) (h : Nat) (Ts : Nat → (Nat → Int64) → Nat → Int64) (p : Nat → Bool) (v : Int32) : Nat → Int64 × Int64
  | 0 => (-1, -1)
  | i + 1 => if p i then (if (apF f h Ts p v i).1 = -1 then apW f h Ts v i else if apW f h Ts v i < (apF f h Ts p v i).1 then apW f h Ts v i else (apF f h Ts p v i).1, if apW f h Ts v i < (apF f h Ts p v i).2 then (apF f h Ts p v i).2 else apW f h Ts v i) else apF f h Ts p v i
def apV (f : Nat → Int32) (h : Nat) (Ts : Nat → (Nat → Int64) → Nat → Int64) (p : Nat → Bool) (n : Nat) (v : Int32) : Int64 := (apF f h Ts p v n).2 - (apF f h Ts p v n).1
theorem L_apart {g : GG} {m : MM} {Q : Out → Prop} (hF : Fx m) {f : Nat → Int32} (hV : Vf f) (hW : Wd f 5 m) {h : Nat} (hh0 : f 27 = nI h) (hh : h < nH f) {n : Nat} {Ts : Nat → (Nat → Int64) → Nat → Int64} (hS : Shf 155 156 4 n Ts m) {p : Nat → Bool} {v : Int32}  (kx : ∀ (x9 x10 x11 : Value) (m1 : MM), Off 160 166 m m1 → Wp g mX0_apartAt 4 0 0 106 [.ref 159, .ref 155, .int (bitsF p n), .int v, .long (apF f h Ts p v n).1, .retAddr 0, .long (apF f h Ts p v n).2, .retAddr 0, .int (nI n), x9, x10, x11] [] (m1) Q) : ∀ (t i : Nat) (x9 x10 x11 : Value) (m1 : MM), i + t = n → Off 160 166 m m1 → Wp g mX0_apartAt 4 0 0 13 [.ref 159, .ref 155, .int (bitsF p n), .int v, .long (apF f h Ts p v i).1, .retAddr 0, .long (apF f h Ts p v i).2, .retAddr 0, .int (nI i), x9, x10, x11] [] (m1) Q := by
  intro t
  induction t with
  | zero =>
    intro i x9 x10 x11 m1 hi hI
    have hi : i = n := by omega
    subst hi
    have hn6 := hV.1.1.2
    have hn4 := hS.2.1
    have o1 := hI
    have hF1 := Fx_of o1.1 hF
    have hW1 := hW.off o1 (by omega) hn6
    have hS1 := hS.off o1 (by omega) (by omega)
    refine r_iload dX0_apartAt_13 rfl ?_
    refine r_aload_n dX0_apartAt_15 rfl ?_
    refine r_callV0 (ci := 7) (d1 := 0) (c1 := 0) (n1 := 0) dX0_apartAt_16 mvX0_220 rfl ⟨(Nat.le_of_ble_eq_true rfl), rfl⟩ (Nat.le_of_ble_eq_true rfl) (by exact Nat.le_of_ble_eq_true rfl) (by exact k_155 hF1) ?_
    refine S_X7_filled (by exact k_155 hF1) ?_
    rw [hS1.1]
    show Wp g mX0_apartAt _ _ _ 19 _ (_ :: _) _ Q
    refine r_icmp_ge 106 dX0_apartAt_19 rfl (fun h1 => ?_) (fun h1 => ?_)
    ·
      exact kx _ _ _ _ hI
    ·
      exact absurd (nI_le (Nat.le_refl _) (by omega)) h1
  | succ t ih =>
    intro i x9 x10 x11 m1 hi hI
    have hin : i < n := by omega
    have hn6 := hV.1.1.2
    have hn4 := hS.2.1
    have o1 := hI
    have hF1 := Fx_of o1.1 hF
    have hW1 := hW.off o1 (by omega) hn6
    have hS1 := hS.off o1 (by omega) (by omega)
    refine r_iload dX0_apartAt_13 rfl ?_
    refine r_aload_n dX0_apartAt_15 rfl ?_
    refine r_callV0 (ci := 7) (d1 := 0) (c1 := 0) (n1 := 0) dX0_apartAt_16 mvX0_220 rfl ⟨(Nat.le_of_ble_eq_true rfl), rfl⟩ (Nat.le_of_ble_eq_true rfl) (by exact Nat.le_of_ble_eq_true rfl) (by exact k_155 hF1) ?_
    refine S_X7_filled (by exact k_155 hF1) ?_
    rw [hS1.1]
    show Wp g mX0_apartAt _ _ _ 19 _ (_ :: _) _ Q
    refine r_icmp_ge 106 dX0_apartAt_19 rfl (fun h1 => ?_) (fun h1 => ?_)
    ·
      exact absurd h1 (nI_ge hin (by omega))
    ·
      refine r_aload_n dX0_apartAt_22 rfl ?_
      refine r_iload dX0_apartAt_23 rfl ?_
      refine r_callV1 (ci := 7) (d1 := 0) (c1 := 0) (n1 := 0) dX0_apartAt_25 mvX0_225 rfl ⟨(Nat.le_of_ble_eq_true rfl), rfl⟩ (Nat.le_of_ble_eq_true rfl) (by exact Nat.le_of_ble_eq_true rfl) (by exact k_155 hF1) ?_
      refine S_shAt (by exact k_155 hF1) (by exact r_155_0 hF1) (by exact k_156 hF1) (by omega) (n := n) (Ts := Ts) hS1 (j := i) hin ?_
      have hpi := hS1.2.2 i hin
      show Wp g mX0_apartAt _ _ _ 28 _ (_ :: _) _ Q
      refine sa_9 dX0_apartAt_28 rfl (Nat.le_of_ble_eq_true rfl) ?_
      refine r_aload dX0_apartAt_30 rfl ?_
      refine r_ifnull 100 dX0_apartAt_32 rfl (fun hnull => ?_) (fun hnull => ?_)
      ·
        exact absurd hnull (by have := hpi.1; omega)
      ·
        refine r_iload_n dX0_apartAt_35 rfl ?_
        refine r_iload dX0_apartAt_36 rfl ?_
        refine r_ishr dX0_apartAt_38 ?_
        refine r_iconst (1) dX0_apartAt_39 rfl ?_
        refine r_iand dX0_apartAt_40 ?_
        refine r_iconst (1) dX0_apartAt_41 rfl ?_
        refine r_icmp_ne 100 dX0_apartAt_42 rfl (fun h2 => ?_) (fun h2 => ?_)
        ·
          refine ic_8 (1) dX0_apartAt_100 rfl rfl (Nat.le_of_ble_eq_true rfl) ?_
          refine r_goto 13 dX0_apartAt_103 rfl ?_
          have z := fun x9 x10 x11 => ih (i + 1) x9 x10 x11 m1 (by omega) o1
          rw [show apF f h Ts p v (i + 1) = _ from if_neg (fun q => h2 (by rw [bitAt (by omega) hin, if_pos q]))] at z
          rw [nI_1 i]
          exact z _ _ _
        ·
          refine r_aload_n dX0_apartAt_45 rfl ?_
          refine r_aload dX0_apartAt_46 rfl ?_
          refine r_aload_n dX0_apartAt_48 rfl ?_
          refine r_aload_n dX0_apartAt_49 rfl ?_
          refine r_getRc dX0_apartAt_50 fgX0_9 rfl (by exact k_159 hF1) (by exact r_159_0 hF1) ?_
          refine r_getRc dX0_apartAt_53 fgX0_47 rfl (by exact k_5 hF1) (by exact r_5_4 hF1) ?_
          refine r_getIc (f 28) dX0_apartAt_56 fgX0_68 rfl (by exact k_29 hF1) (by exact hW1.2.2.2.1 1 (by omega)) ?_
          refine r_iload_n dX0_apartAt_59 rfl ?_
          refine r_callV2 (ci := 0) (d1 := 1) (c1 := 0) (n1 := 0) dX0_apartAt_60 mvX0_181 rfl ⟨(Nat.le_of_ble_eq_true rfl), rfl⟩ (Nat.le_of_ble_eq_true rfl) (by exact Nat.le_of_ble_eq_true rfl) (by exact k_159 hF1) ?_
          refine S_X0_calm hF1 hV hW1 hh0 hh (fun m2 q2 ht2 => ?_)
          have o2 := (o1).tr ((q2).wd (by omega) (by omega))
          have hF2 := Fx_of o2.1 hF
          have hW2 := hW.off o2 (by omega) hn6
          have hpj := hpi.off q2 (by omega)
          show Wp g mX0_apartAt _ _ _ 63 _ (_ :: _) _ Q
          refine r_callV2 (ci := 0) (d1 := 3) (c1 := 0) (n1 := 0) dX0_apartAt_63 mvX0_149 rfl ⟨(Nat.le_of_ble_eq_true rfl), rfl⟩ (Nat.le_of_ble_eq_true rfl) (by exact Nat.le_of_ble_eq_true rfl) (by exact k_159 hF2) ?_
          refine S_X0_pullOf hF2 hV hW2 (r := 165) (h := h) (rv := clR f (f 28) v) (by exact k_165 hF2) (by omega) ht2 hh0 hh hpj (fun m3 q3 _ _ _ => ?_)
          have o3 := (o2).tr ((q3).wd (by omega) (by omega))
          have hF3 := Fx_of o3.1 hF
          have hW3 := hW.off o3 (by omega) hn6
          have ht3 := fun j hj => (((q3).2 165 (by omega)).1 j).trans (ht2 j hj)
          show Wp g mX0_apartAt _ _ _ 66 _ (_ :: _) _ Q
          refine sl_10 dX0_apartAt_66 rfl (Nat.le_of_ble_eq_true rfl) ?_
          refine r_lload dX0_apartAt_68 rfl ?_
          refine r_ldc2 (-1) dX0_apartAt_70 ctX0_245 ?_
          refine r_lcmp_ne 82 dX0_apartAt_73 dX0_apartAt_74 rfl (fun h3 => ?_) (fun h3 => ?_)
          ·
            refine r_lload dX0_apartAt_82 rfl ?_
            refine r_lload dX0_apartAt_84 rfl ?_
            refine r_mminL dX0_apartAt_86 msX0_166 (Nat.le_of_ble_eq_true rfl) (by exact Nat.le_of_ble_eq_true rfl) ?_
            refine sl_4 dX0_apartAt_89 rfl (Nat.le_of_ble_eq_true rfl) ?_
            refine r_lload dX0_apartAt_91 rfl ?_
            refine r_lload dX0_apartAt_93 rfl ?_
            refine r_mmaxL dX0_apartAt_95 msX0_175 (Nat.le_of_ble_eq_true rfl) (by exact Nat.le_of_ble_eq_true rfl) ?_
            refine sl_6 dX0_apartAt_98 (by first | rfl | assumption) (Nat.le_of_ble_eq_true rfl) ?_
            refine ic_8 (1) dX0_apartAt_100 rfl rfl (Nat.le_of_ble_eq_true rfl) ?_
            refine r_goto 13 dX0_apartAt_103 rfl ?_
            have z := fun x9 x10 x11 => ih (i + 1) x9 x10 x11 m3 (by omega) o3
            rw [show apF f h Ts p v (i + 1) = _ from (if_pos (Classical.byContradiction (fun q => absurd h2 (by rw [bitAt (by omega) hin, if_neg q]; decide)))).trans (congrArg (fun z => (z, _)) (if_neg h3))] at z
            rw [nI_1 i]
            exact z _ _ _
          ·
            refine r_lload dX0_apartAt_77 rfl ?_
            refine r_goto 89 dX0_apartAt_79 rfl ?_
            refine sl_4 dX0_apartAt_89 rfl (Nat.le_of_ble_eq_true rfl) ?_
            refine r_lload dX0_apartAt_91 rfl ?_
            refine r_lload dX0_apartAt_93 rfl ?_
            refine r_mmaxL dX0_apartAt_95 msX0_175 (Nat.le_of_ble_eq_true rfl) (by exact Nat.le_of_ble_eq_true rfl) ?_
            refine sl_6 dX0_apartAt_98 (by first | rfl | assumption) (Nat.le_of_ble_eq_true rfl) ?_
            refine ic_8 (1) dX0_apartAt_100 rfl rfl (Nat.le_of_ble_eq_true rfl) ?_
            refine r_goto 13 dX0_apartAt_103 rfl ?_
            have z := fun x9 x10 x11 => ih (i + 1) x9 x10 x11 m3 (by omega) o3
            rw [show apF f h Ts p v (i + 1) = _ from (if_pos (Classical.byContradiction (fun q => absurd h2 (by rw [bitAt (by omega) hin, if_neg q]; decide)))).trans (congrArg (fun z => (z, _)) (if_pos h3))] at z
            rw [nI_1 i]
            exact z _ _ _
theorem S_X0_apartAt {g : GG} {m : MM} {Q : Out → Prop} (hF : Fx m) {f : Nat → Int32} (hV : Vf f) (hW : Wd f 5 m) {h : Nat} (hh0 : f 27 = nI h) (hh : h < nH f) {n : Nat} {Ts : Nat → (Nat → Int64) → Nat → Int64} (hS : Shf 155 156 4 n Ts m) {p : Nat → Bool} {v : Int32} (k : ∀ m', Off 160 166 m m' → Q (.inl (some (.long (apV f h Ts p n v))), m')) : Cl g 4 0 0 mX0_apartAt [.ref 159, .ref 155, .int (bitsF p n), .int v] m Q := by
  refine Cl.of rfl (by decide) (Nat.le_of_ble_eq_true rfl) ?_
  show Wp g mX0_apartAt 4 0 0 0 [.ref 159, .ref 155, .int (bitsF p n), .int v, .retAddr 0, .retAddr 0, .retAddr 0, .retAddr 0, .retAddr 0, .retAddr 0, .retAddr 0, .retAddr 0] [] m Q
  refine r_ldc2 (-1) dX0_apartAt_0 ctX0_245 ?_
  refine sl_4 dX0_apartAt_3 rfl (Nat.le_of_ble_eq_true rfl) ?_
  refine r_ldc2 (-1) dX0_apartAt_5 ctX0_245 ?_
  refine sl_6 dX0_apartAt_8 (by first | rfl | assumption) (Nat.le_of_ble_eq_true rfl) ?_
  refine r_iconst (0) dX0_apartAt_10 rfl ?_
  refine si_8 dX0_apartAt_11 (by first | rfl | assumption) (Nat.le_of_ble_eq_true rfl) ?_
  refine L_apart hF hV hW hh0 hh hS (p := p) (fun x9 x10 x11 m9 o9 => ?_) n 0 _ _ _ m (by omega) Off.rf
  refine r_lload dX0_apartAt_106 rfl ?_
  refine r_lload dX0_apartAt_108 rfl ?_
  refine r_lsub dX0_apartAt_110 ?_
  refine r_lreturn dX0_apartAt_111 rfl ?_
  exact k m9 o9
