theorem bit_step : ∀ i, i < 4 → ∀ v, v < 16 → v < 2 ^ i → nI v ||| ((1 : Int32) <<< (nI i &&& 31)) = nI (v + 2 ^ i) := by decide +kernel
theorem bits_v (p : Nat → Bool) : ∀ n, n ≤ 4 → ∃ v, v < 2 ^ n ∧ bitsF p n = nI v
  | 0, _ => ⟨0, by decide, rfl⟩
  | n + 1, h => by
    obtain ⟨v, hv, e⟩ := bits_v p n (by omega)
    have h2 : 2 ^ n ≤ 8 := Nat.le_trans (Nat.pow_le_pow_right (n := 2) (by omega) (show n ≤ 3 by omega)) (by decide)
    by_cases q : p n = true
    · exact ⟨v + 2 ^ n, by rw [Nat.pow_succ]; omega, by rw [show bitsF p (n + 1) = bitsF p n ||| (1 <<< (nI n &&& 31)) from if_pos q, e]; exact bit_step n (by omega) v (by omega) hv⟩
    · exact ⟨v, by rw [Nat.pow_succ]; omega, by rw [show bitsF p (n + 1) = bitsF p n from if_neg q]; exact e⟩
theorem few_b : ∀ v, v < 16 → ((nI v &&& (nI v - 1)) = 0 ↔ bcV (nI v) < 2) := by decide +kernel
theorem few_bits (p : Nat → Bool) {n : Nat} (h : n ≤ 4) : (bitsF p n &&& (bitsF p n - 1)) = 0 ↔ bcV (bitsF p n) < 2 := by
  obtain ⟨v, hv, e⟩ := bits_v p n h
  have h2 : 2 ^ n ≤ 16 := Nat.le_trans (Nat.pow_le_pow_right (n := 2) (by omega) h) (by decide)
  rw [e]; exact few_b v (by omega)
theorem nn_m1 {W : Int64} (h : 0 ≤ W.toInt) : ¬ W < -1 ∧ ¬ W = -1 := by
  have y : (-1 : Int64).toInt = -1 := rfl
  exact ⟨fun q => by have := Int64.lt_iff_toInt_lt.mp q; omega, fun q => by rw [q, y] at h; omega⟩
theorem hi_eq {W H : Int64} : (if W < H then H else W) = (if W ≤ H then H else W) := by
  by_cases c : W < H
  · rw [if_pos c, if_pos (Int64.le_iff_toInt_le.mpr (by have := Int64.lt_iff_toInt_lt.mp c; omega))]
  · rw [if_neg c]
    by_cases d : W ≤ H
    · rw [if_pos d]; exact Int64.toInt_inj.mp (by have := Int64.le_iff_toInt_le.mp d; have a : ¬ W.toInt < H.toInt := fun q => c (Int64.lt_iff_toInt_lt.mpr q); omega)
    · rw [if_neg d]
theorem L_rtin {g : GG} {Q : Out → Prop} {f : Nat → Int32} {fs : Nat → Nat → Int32} {ic : Nat} {tp : Nat → Int32} {tn : Nat} {pl : Int32} {n1 n2 : Nat} {ts : Nat → (Nat → Int32) × Nat} {T1 T2 : Nat → TL} {m0 : MM} (hV : Vf f) (hK : TKs ts n1 T1 n2 T2) (h0 : ¬ f 0 = 0) (h4 : n1 ≤ 4) {p : Nat → Bool} {x best v : Int32} {ap : Int64} (k : (∀ m' lo hi has x12 x13 x14, hi - lo = apV f (hH f) T1 p n1 v → RJ f fs ic tp tn pl n1 n2 ts m0 0 m' → Wp g mX12_telling 38 0 0 196 [.ref 167, .int x, .int (bitsF p n1), .int best, .long ap, .retAddr 0, .int v, .long lo, .retAddr 0, .long hi, .retAddr 0, .int has, x12, x13, x14] [] m' Q)) : ∀ (t i : Nat) (m : MM) (lo hi : Int64) (has : Int32) (x13 x14 : Value), i + t = n1 → ((has = 0 ∧ apF f (hH f) T1 p v i = (-1, -1) ∧ lo = 0 ∧ hi = 0) ∨ (has = 1 ∧ apF f (hH f) T1 p v i = (lo, hi) ∧ 0 ≤ lo.toInt ∧ 0 ≤ hi.toInt)) → RJ f fs ic tp tn pl n1 n2 ts m0 0 m → Wp g mX12_telling 38 0 0 93 [.ref 167, .int x, .int (bitsF p n1), .int best, .long ap, .retAddr 0, .int v, .long lo, .retAddr 0, .long hi, .retAddr 0, .int has, .int (nI i), x13, x14] [] m Q := by
  have hx0 := hH_of hV h0
  intro t
  induction t with
  | zero =>
    intro i m lo hi has x13 x14 hi' hb hJ
    have hi' : i = n1 := by omega
    subst hi'
    refine r_iload dX12_telling_93 rfl ?_
    refine r_aload_n dX12_telling_95 rfl ?_
    refine r_getIc (nI i) dX12_telling_96 fgX12_223 rfl (by exact k_167 hJ.F) (by exact hJ.1.2.2.2.2.2.1.1) ?_
    refine r_icmp_ge 196 dX12_telling_99 rfl (fun hge => ?_) (fun hge => ?_)
    ·
      refine k m lo hi has _ _ _ ?_ hJ
      rcases hb with ⟨-, e, rfl, rfl⟩ | ⟨-, e, -⟩
      · unfold apV; rw [e]; rfl
      · unfold apV; rw [e]
    ·
      exact absurd (nI_le (Nat.le_refl _) (by omega)) hge
  | succ t ih =>
    intro i m lo hi has x13 x14 hi' hb hJ
    have hin : i < n1 := by omega
    refine r_iload dX12_telling_93 rfl ?_
    refine r_aload_n dX12_telling_95 rfl ?_
    refine r_getIc (nI n1) dX12_telling_96 fgX12_223 rfl (by exact k_167 hJ.F) (by exact hJ.1.2.2.2.2.2.1.1) ?_
    refine r_icmp_ge 196 dX12_telling_99 rfl (fun hge => ?_) (fun hge => ?_)
    ·
      exact absurd hge (nI_ge (by omega) (by omega))
    ·
      refine r_iload_n dX12_telling_102 rfl ?_
      refine r_iload dX12_telling_103 rfl ?_
      refine r_ishr dX12_telling_105 ?_
      refine r_iconst (1) dX12_telling_106 rfl ?_
      refine r_iand dX12_telling_107 ?_
      refine r_if_ne 114 dX12_telling_108 rfl (fun h2 => ?_) (fun h2 => ?_)
      ·
        refine r_aload_n dX12_telling_114 rfl ?_
        refine r_aload_n dX12_telling_115 rfl ?_
        refine r_getRc dX12_telling_116 fgX12_52 rfl (by exact k_167 hJ.F) (by exact r_167_26 hJ.F) ?_
        refine r_iconst (0) dX12_telling_119 rfl ?_
        refine r_ialoadc (nI (hH f)) dX12_telling_120 (by exact k_198 hJ.F) (vin (j := 0) (by omega) (by omega)) (by exact (hJ.g (by omega) (l_han (i := 0) (by omega))).trans hx0.1) ?_
        refine r_aload_n dX12_telling_121 rfl ?_
        refine r_getRc dX12_telling_122 fgX12_52 rfl (by exact k_167 hJ.F) (by exact r_167_26 hJ.F) ?_
        refine r_iconst (1) dX12_telling_125 rfl ?_
        refine r_ialoadc (f 28) dX12_telling_126 (by exact k_198 hJ.F) (vin (j := 1) (by omega) (by omega)) (by exact hJ.g (by omega) (l_han (i := 1) (by omega))) ?_
        refine r_iload dX12_telling_127 rfl ?_
        refine r_iconst (-1) dX12_telling_129 rfl ?_
        refine r_iconst (0) dX12_telling_130 rfl ?_
        refine r_iconst (0) dX12_telling_131 rfl ?_
        refine r_callV6 (ci := 12) (d1 := 1) (c1 := 0) (n1 := 0) dX12_telling_132 mvX12_245 rfl ⟨(Nat.le_of_ble_eq_true rfl), rfl⟩ (Nat.le_of_ble_eq_true rfl) (by exact Nat.le_of_ble_eq_true rfl) (by exact k_167 hJ.F) ?_
        obtain ⟨st, hx⟩ := hK.1 i hin
        refine S_tells hV hJ.1 hx0.2 hV.2.2.2.1.2.1 (Or.inl rfl) (Or.inl rfl) (fun m1 s1 n1x => ?_)
        have hJ1 := hJ.sc s1.1 s1.2
        show Wp g mX12_telling _ _ _ 135 _ [] _ Q
        refine r_aload_n dX12_telling_135 rfl ?_
        refine r_iload dX12_telling_136 rfl ?_
        refine r_callV1 (ci := 12) (d1 := 35) (c1 := 0) (n1 := 0) dX12_telling_138 mvX12_255 rfl ⟨(Nat.le_of_ble_eq_true rfl), rfl⟩ (Nat.le_of_ble_eq_true rfl) (by exact Nat.le_of_ble_eq_true rfl) (by exact k_167 hJ1.F) ?_
        refine S_pullOf hJ1.1 hin hx n1x (fun m2 s2 n2x t2x => ?_)
        have hJ2 := hJ1.sc s2.1 s2.2
        have pb := (pu_b (T1 i (cut (NmH f (hH f) (r6 (nI (hH f)) (f 28) v (-1) 0 0))))).1
        have pe : apW f (hH f) T1 v i = puF (T1 i (cut (NmH f (hH f) (r6 (nI (hH f)) (f 28) v (-1) 0 0)))) := by unfold apW PvV clR; rw [hx0.1]
        show Wp g mX12_telling _ _ _ 141 _ (_ :: _) _ Q
        refine sl_13 dX12_telling_141 (by first | rfl | assumption) (Nat.le_of_ble_eq_true rfl) ?_
        rcases hb with ⟨rfl, e, rfl, rfl⟩ | ⟨rfl, e, lb, hb⟩
        ·
          refine r_iload dX12_telling_143 rfl ?_
          refine r_if_eq 156 dX12_telling_145 rfl (fun _ => ?_) (fun hz => absurd hz (by decide))
          refine r_lload dX12_telling_156 rfl ?_
          refine r_goto 163 dX12_telling_158 rfl ?_
          refine sl_7 dX12_telling_163 (by first | rfl | assumption) (Nat.le_of_ble_eq_true rfl) ?_
          refine r_iload dX12_telling_165 rfl ?_
          refine r_if_eq 178 dX12_telling_167 rfl (fun _ => ?_) (fun hz => absurd hz (by decide))
          refine r_lload dX12_telling_178 rfl ?_
          refine r_goto 185 dX12_telling_180 rfl ?_
          refine sl_9 dX12_telling_185 (by first | rfl | assumption) (Nat.le_of_ble_eq_true rfl) ?_
          refine r_iconst (1) dX12_telling_187 rfl ?_
          refine si_11 dX12_telling_188 (by first | rfl | assumption) (Nat.le_of_ble_eq_true rfl) ?_
          refine ic_12 (1) dX12_telling_190 rfl rfl (Nat.le_of_ble_eq_true rfl) ?_
          refine r_goto 93 dX12_telling_193 rfl ?_
          rw [nI_1 i]
          have fb : p i = true := Classical.byContradiction (fun q => h2 (by rw [bitAt (by omega) hin, if_neg q]))
          have st1 : apF f (hH f) T1 p v (i + 1) = _ := if_pos fb
          rw [e, if_pos rfl, if_neg (by rw [pe]; exact (nn_m1 pb).1), pe] at st1
          exact ih (i + 1) m2 _ _ _ _ _ (by omega) (Or.inr ⟨rfl, st1, pb, pb⟩) hJ2
        ·
          refine r_iload dX12_telling_143 rfl ?_
          refine r_if_eq 156 dX12_telling_145 rfl (fun hz => absurd hz (by decide)) (fun _ => ?_)
          refine r_lload dX12_telling_148 rfl ?_
          refine r_lload dX12_telling_150 rfl ?_
          refine r_lcmp_ge 161 dX12_telling_152 dX12_telling_153 rfl (fun hl => ?_) (fun hl => ?_)
          ·
            refine r_lload dX12_telling_161 rfl ?_
            refine sl_7 dX12_telling_163 (by first | rfl | assumption) (Nat.le_of_ble_eq_true rfl) ?_
            refine r_iload dX12_telling_165 rfl ?_
            refine r_if_eq 178 dX12_telling_167 rfl (fun hz => absurd hz (by decide)) (fun _ => ?_)
            refine r_lload dX12_telling_170 rfl ?_
            refine r_lload dX12_telling_172 rfl ?_
            refine r_lcmp_le 183 dX12_telling_174 dX12_telling_175 rfl (fun hh => ?_) (fun hh => ?_)
            ·
              refine r_lload dX12_telling_183 rfl ?_
              refine sl_9 dX12_telling_185 (by first | rfl | assumption) (Nat.le_of_ble_eq_true rfl) ?_
              refine r_iconst (1) dX12_telling_187 rfl ?_
              refine si_11 dX12_telling_188 (by first | rfl | assumption) (Nat.le_of_ble_eq_true rfl) ?_
              refine ic_12 (1) dX12_telling_190 rfl rfl (Nat.le_of_ble_eq_true rfl) ?_
              refine r_goto 93 dX12_telling_193 rfl ?_
              rw [nI_1 i]
              have fb : p i = true := Classical.byContradiction (fun q => h2 (by rw [bitAt (by omega) hin, if_neg q]))
              have st1 : apF f (hH f) T1 p v (i + 1) = _ := if_pos fb
              rw [e, if_neg (nn_m1 lb).2, pe, hi_eq] at st1
              rw [if_neg (i64_nlt.mpr hl), if_pos hh] at st1
              exact ih (i + 1) m2 _ _ _ _ _ (by omega) (Or.inr ⟨rfl, st1, lb, hb⟩) hJ2
            ·
              refine r_lload dX12_telling_178 rfl ?_
              refine r_goto 185 dX12_telling_180 rfl ?_
              refine sl_9 dX12_telling_185 (by first | rfl | assumption) (Nat.le_of_ble_eq_true rfl) ?_
              refine r_iconst (1) dX12_telling_187 rfl ?_
              refine si_11 dX12_telling_188 (by first | rfl | assumption) (Nat.le_of_ble_eq_true rfl) ?_
              refine ic_12 (1) dX12_telling_190 rfl rfl (Nat.le_of_ble_eq_true rfl) ?_
              refine r_goto 93 dX12_telling_193 rfl ?_
              rw [nI_1 i]
              have fb : p i = true := Classical.byContradiction (fun q => h2 (by rw [bitAt (by omega) hin, if_neg q]))
              have st1 : apF f (hH f) T1 p v (i + 1) = _ := if_pos fb
              rw [e, if_neg (nn_m1 lb).2, pe, hi_eq] at st1
              rw [if_neg (i64_nlt.mpr hl), if_neg hh] at st1
              exact ih (i + 1) m2 _ _ _ _ _ (by omega) (Or.inr ⟨rfl, st1, lb, pb⟩) hJ2
          ·
            refine r_lload dX12_telling_156 rfl ?_
            refine r_goto 163 dX12_telling_158 rfl ?_
            refine sl_7 dX12_telling_163 (by first | rfl | assumption) (Nat.le_of_ble_eq_true rfl) ?_
            refine r_iload dX12_telling_165 rfl ?_
            refine r_if_eq 178 dX12_telling_167 rfl (fun hz => absurd hz (by decide)) (fun _ => ?_)
            refine r_lload dX12_telling_170 rfl ?_
            refine r_lload dX12_telling_172 rfl ?_
            refine r_lcmp_le 183 dX12_telling_174 dX12_telling_175 rfl (fun hh => ?_) (fun hh => ?_)
            ·
              refine r_lload dX12_telling_183 rfl ?_
              refine sl_9 dX12_telling_185 (by first | rfl | assumption) (Nat.le_of_ble_eq_true rfl) ?_
              refine r_iconst (1) dX12_telling_187 rfl ?_
              refine si_11 dX12_telling_188 (by first | rfl | assumption) (Nat.le_of_ble_eq_true rfl) ?_
              refine ic_12 (1) dX12_telling_190 rfl rfl (Nat.le_of_ble_eq_true rfl) ?_
              refine r_goto 93 dX12_telling_193 rfl ?_
              rw [nI_1 i]
              have fb : p i = true := Classical.byContradiction (fun q => h2 (by rw [bitAt (by omega) hin, if_neg q]))
              have st1 : apF f (hH f) T1 p v (i + 1) = _ := if_pos fb
              rw [e, if_neg (nn_m1 lb).2, pe, hi_eq] at st1
              rw [if_pos (i64_nle.mp hl), if_pos hh] at st1
              exact ih (i + 1) m2 _ _ _ _ _ (by omega) (Or.inr ⟨rfl, st1, pb, hb⟩) hJ2
            ·
              refine r_lload dX12_telling_178 rfl ?_
              refine r_goto 185 dX12_telling_180 rfl ?_
              refine sl_9 dX12_telling_185 (by first | rfl | assumption) (Nat.le_of_ble_eq_true rfl) ?_
              refine r_iconst (1) dX12_telling_187 rfl ?_
              refine si_11 dX12_telling_188 (by first | rfl | assumption) (Nat.le_of_ble_eq_true rfl) ?_
              refine ic_12 (1) dX12_telling_190 rfl rfl (Nat.le_of_ble_eq_true rfl) ?_
              refine r_goto 93 dX12_telling_193 rfl ?_
              rw [nI_1 i]
              have fb : p i = true := Classical.byContradiction (fun q => h2 (by rw [bitAt (by omega) hin, if_neg q]))
              have st1 : apF f (hH f) T1 p v (i + 1) = _ := if_pos fb
              rw [e, if_neg (nn_m1 lb).2, pe, hi_eq] at st1
              rw [if_pos (i64_nle.mp hl), if_neg hh] at st1
              exact ih (i + 1) m2 _ _ _ _ _ (by omega) (Or.inr ⟨rfl, st1, pb, pb⟩) hJ2
      ·
        refine r_goto 190 dX12_telling_111 rfl ?_
        refine ic_12 (1) dX12_telling_190 rfl rfl (Nat.le_of_ble_eq_true rfl) ?_
        refine r_goto 93 dX12_telling_193 rfl ?_
        rw [nI_1 i]
        have fb : ¬ p i = true := fun q => absurd h2 (by rw [bitAt (by omega) hin, if_pos q]; decide)
        exact ih (i + 1) m _ _ _ _ _ (by omega) (by rw [show apF f (hH f) T1 p v (i + 1) = apF f (hH f) T1 p v i from if_neg fb]; exact hb) hJ
theorem L_rtell {g : GG} {Q : Out → Prop} {f : Nat → Int32} {fs : Nat → Nat → Int32} {ic : Nat} {tp : Nat → Int32} {tn : Nat} {pl : Int32} {n1 n2 : Nat} {ts : Nat → (Nat → Int32) × Nat} {T1 T2 : Nat → TL} {m0 : MM} (hV : Vf f) (hK : TKs ts n1 T1 n2 T2) (h0 : ¬ f 0 = 0) (h4 : n1 ≤ 4) {p : Nat → Bool} {x : Int32} (k : ∀ m', RJ f fs ic tp tn pl n1 n2 ts m0 0 m' → Q (.inl (some (.int (tlF f (hH f) T1 p n1 99).1)), m')) : ∀ (t i : Nat) (m : MM) (x7 x8 x9 x10 x11 x12 x13 x14 : Value), i + t = 99 → RJ f fs ic tp tn pl n1 n2 ts m0 0 m → Wp g mX12_telling 38 0 0 74 [.ref 167, .int x, .int (bitsF p n1), .int (tlF f (hH f) T1 p n1 i).1, .long (tlF f (hH f) T1 p n1 i).2, .retAddr 0, .int (nI (1 + i)), x7, x8, x9, x10, x11, x12, x13, x14] [] m Q := by
  intro t
  induction t with
  | zero =>
    intro i m x7 x8 x9 x10 x11 x12 x13 x14 hi hJ
    have hi : i = 99 := by omega
    subst hi
    refine r_iload dX12_telling_74 rfl ?_
    refine r_bipush (100) dX12_telling_76 rfl ?_
    refine r_icmp_ge 231 dX12_telling_78 rfl (fun hge => ?_) (fun hge => ?_)
    ·
      refine r_iload_n dX12_telling_231 rfl ?_
      refine r_ireturn dX12_telling_232 rfl rfl ?_
      exact k m hJ
    ·
      exact absurd (by decide) hge
  | succ t ih =>
    intro i m x7 x8 x9 x10 x11 x12 x13 x14 hi hJ
    refine r_iload dX12_telling_74 rfl ?_
    refine r_bipush (100) dX12_telling_76 rfl ?_
    refine r_icmp_ge 231 dX12_telling_78 rfl (fun hge => ?_) (fun hge => ?_)
    ·
      exact absurd hge (nI_nlt (a := 99) (b := 1 + i) (by omega) (by omega))
    ·
      refine r_lconst (0) dX12_telling_81 rfl ?_
      refine sl_7 dX12_telling_82 (by first | rfl | assumption) (Nat.le_of_ble_eq_true rfl) ?_
      refine r_lconst (0) dX12_telling_84 rfl ?_
      refine sl_9 dX12_telling_85 (by first | rfl | assumption) (Nat.le_of_ble_eq_true rfl) ?_
      refine r_iconst (0) dX12_telling_87 rfl ?_
      refine si_11 dX12_telling_88 (by first | rfl | assumption) (Nat.le_of_ble_eq_true rfl) ?_
      refine r_iconst (0) dX12_telling_90 rfl ?_
      refine si_12 dX12_telling_91 (by first | rfl | assumption) (Nat.le_of_ble_eq_true rfl) ?_
      refine L_rtin hV hK h0 h4 (fun m1 lo hi has x12 x13 x14 ea hJ1 => ?_) n1 0 m _ _ _ _ _ (by omega) (Or.inl ⟨rfl, rfl, rfl, rfl⟩) hJ
      refine r_iload_n dX12_telling_196 rfl ?_
      refine r_iconst (-1) dX12_telling_197 rfl ?_
      refine r_icmp_eq 215 dX12_telling_198 rfl (fun hm => ?_) (fun hm => ?_)
      ·
        refine r_iload dX12_telling_215 rfl ?_
        refine si_3 dX12_telling_217 (by first | rfl | assumption) (Nat.le_of_ble_eq_true rfl) ?_
        refine r_lload dX12_telling_218 rfl ?_
        refine r_lload dX12_telling_220 rfl ?_
        refine r_lsub dX12_telling_222 ?_
        refine sl_4 dX12_telling_223 (by first | rfl | assumption) (Nat.le_of_ble_eq_true rfl) ?_
        refine ic_6 (1) dX12_telling_225 rfl rfl (Nat.le_of_ble_eq_true rfl) ?_
        refine r_goto 74 dX12_telling_228 rfl ?_
        have L := fun x7 x8 x9 x10 x11 x12 x13 x14 => ih (i + 1) m1 x7 x8 x9 x10 x11 x12 x13 x14 (by omega) hJ1
        rw [show tlF f (hH f) T1 p n1 (i + 1) = _ from if_pos (Or.inl hm)] at L
        rw [nI_1 (1 + i)]
        rw [← ea] at L
        exact L _ _ _ _ _ _ _ _
      ·
        refine r_lload dX12_telling_201 rfl ?_
        refine r_lload dX12_telling_203 rfl ?_
        refine r_lsub dX12_telling_205 ?_
        refine r_lload dX12_telling_206 rfl ?_
        refine r_lcmp_gt 215 dX12_telling_208 dX12_telling_209 rfl (fun hc => ?_) (fun hc => ?_)
        ·
          refine r_iload dX12_telling_215 rfl ?_
          refine si_3 dX12_telling_217 (by first | rfl | assumption) (Nat.le_of_ble_eq_true rfl) ?_
          refine r_lload dX12_telling_218 rfl ?_
          refine r_lload dX12_telling_220 rfl ?_
          refine r_lsub dX12_telling_222 ?_
          refine sl_4 dX12_telling_223 (by first | rfl | assumption) (Nat.le_of_ble_eq_true rfl) ?_
          refine ic_6 (1) dX12_telling_225 rfl rfl (Nat.le_of_ble_eq_true rfl) ?_
          refine r_goto 74 dX12_telling_228 rfl ?_
          have L := fun x7 x8 x9 x10 x11 x12 x13 x14 => ih (i + 1) m1 x7 x8 x9 x10 x11 x12 x13 x14 (by omega) hJ1
          rw [show tlF f (hH f) T1 p n1 (i + 1) = _ from if_pos (Or.inr (by rw [← ea]; exact hc))] at L
          rw [nI_1 (1 + i)]
          rw [← ea] at L
          exact L _ _ _ _ _ _ _ _
        ·
          refine r_goto 225 dX12_telling_212 rfl ?_
          refine ic_6 (1) dX12_telling_225 rfl rfl (Nat.le_of_ble_eq_true rfl) ?_
          refine r_goto 74 dX12_telling_228 rfl ?_
          have L := fun x7 x8 x9 x10 x11 x12 x13 x14 => ih (i + 1) m1 x7 x8 x9 x10 x11 x12 x13 x14 (by omega) hJ1
          rw [show tlF f (hH f) T1 p n1 (i + 1) = _ from if_neg (fun q => q.elim hm (fun w => hc (by rw [ea]; exact w)))] at L
          rw [nI_1 (1 + i)]
          exact L _ _ _ _ _ _ _ _
theorem S_X12_telling {g : GG} {m : MM} {Q : Out → Prop} {f : Nat → Int32} {fs : Nat → Nat → Int32} {ic : Nat} {tp : Nat → Int32} {tn : Nat} {pl : Int32} {n1 n2 : Nat} {ts : Nat → (Nat → Int32) × Nat} {T1 T2 : Nat → TL} (hV : Vf f) (hI : RI f fs ic tp tn pl n1 n2 ts m) (hK : TKs ts n1 T1 n2 T2) {x : Int32} (ke : f 0 = 0 → ∀ m', RJ f fs ic tp tn pl n1 n2 ts m 1 m' → Q (.inl (some (.int 0)), m')) (kb : ¬ f 0 = 0 → ¬ (0 ≤ x ∧ x ≤ 99) → ∀ m', RJ f fs ic tp tn pl n1 n2 ts m 2 m' → Q (.inl (some (.int 0)), m')) (k : ¬ f 0 = 0 → (0 ≤ x ∧ x ≤ 99) → ∀ m', RJ f fs ic tp tn pl n1 n2 ts m 0 m' → Q (.inl (some (.int (if bcV (bitsF (fitB f T1 x) n1) < 2 then -1 else (tlF f (hH f) T1 (fitB f T1 x) n1 99).1))), m')) : Cl g 38 0 0 mX12_telling [.ref 167, .int x] m Q := by
  refine Cl.of rfl (by decide) (Nat.le_of_ble_eq_true rfl) ?_
  show Wp g mX12_telling 38 0 0 0 [.ref 167, .int x, .retAddr 0, .retAddr 0, .retAddr 0, .retAddr 0, .retAddr 0, .retAddr 0, .retAddr 0, .retAddr 0, .retAddr 0, .retAddr 0, .retAddr 0, .retAddr 0, .retAddr 0] [] m Q
  refine r_aload_n dX12_telling_0 rfl ?_
  refine r_iconst (0) dX12_telling_1 rfl ?_
  refine r_putI dX12_telling_2 (fpX12_79 _ rfl) rfl (by exact k_167 hI.1) ⟨rfl, rfl⟩ ?_
  have hJ1 := hI.go
  refine r_aload_n dX12_telling_5 rfl ?_
  refine r_aload_n dX12_telling_6 rfl ?_
  refine r_getIc (f 0) dX12_telling_7 fgX12_90 rfl (by exact k_167 hJ1.F) (by exact hJ1.g (by omega) l_0) ?_
  refine r_if_ne 17 dX12_telling_10 rfl (fun hz => ?_) (fun hz => ?_)
  ·
    refine r_iconst (0) dX12_telling_17 rfl ?_
    refine r_iconst (1) dX12_telling_18 rfl ?_
    refine r_callV2 (ci := 12) (d1 := 0) (c1 := 0) (n1 := 0) dX12_telling_19 mvX12_86 rfl ⟨(Nat.le_of_ble_eq_true rfl), rfl⟩ (Nat.le_of_ble_eq_true rfl) (by exact Nat.le_of_ble_eq_true rfl) (by exact k_167 hJ1.F) ?_
    refine S_bad0 hJ1.F hJ1.2.2 ?_
    show Wp g mX12_telling _ _ _ 22 _ (_ :: _) _ Q
    refine r_if_ne 48 dX12_telling_22 rfl (fun hz => absurd hz (by decide)) (fun _ => ?_)
    refine r_aload_n dX12_telling_25 rfl ?_
    refine r_iload_n dX12_telling_26 rfl ?_
    refine r_iconst (0) dX12_telling_27 rfl ?_
    refine r_bipush (99) dX12_telling_28 rfl ?_
    refine r_callS3 (d1 := 0) (c1 := 0) (n1 := 0) dX12_telling_30 msX12_82 rfl (Nat.le_of_ble_eq_true rfl) (by exact Nat.le_of_ble_eq_true rfl) ?_
    refine S_X12_in (fun w30a w30b => ?_) (fun w30 => ?_)
    ·
      show Wp g mX12_telling _ _ _ 33 _ (_ :: _) _ Q
      refine r_if_ne 40 dX12_telling_33 rfl (fun _ => ?_) (fun hz => absurd hz (by decide))
      refine r_iconst (0) dX12_telling_40 rfl ?_
      refine r_iconst (2) dX12_telling_41 rfl ?_
      refine r_callV2 (ci := 12) (d1 := 0) (c1 := 0) (n1 := 0) dX12_telling_42 mvX12_86 rfl ⟨(Nat.le_of_ble_eq_true rfl), rfl⟩ (Nat.le_of_ble_eq_true rfl) (by exact Nat.le_of_ble_eq_true rfl) (by exact k_167 hJ1.F) ?_
      refine S_bad0 hJ1.F hJ1.2.2 ?_
      show Wp g mX12_telling _ _ _ 45 _ (_ :: _) _ Q
      refine r_if_eq 50 dX12_telling_45 rfl (fun _ => ?_) (fun hz => absurd hz (by decide))
      refine r_aload_n dX12_telling_50 rfl ?_
      refine r_iload_n dX12_telling_51 rfl ?_
      refine r_callV1 (ci := 12) (d1 := 37) (c1 := 0) (n1 := 0) dX12_telling_52 mvX12_297 rfl ⟨(Nat.le_of_ble_eq_true rfl), rfl⟩ (Nat.le_of_ble_eq_true rfl) (by exact Nat.le_of_ble_eq_true rfl) (by exact k_167 hJ1.F) ?_
      refine S_fitting hV hK hJ1 (fun m9 hJ9 => ?_)
      show Wp g mX12_telling _ _ _ 55 _ (_ :: _) _ Q
      refine si_2 dX12_telling_55 rfl (Nat.le_of_ble_eq_true rfl) ?_
      refine r_iconst (-1) dX12_telling_56 rfl ?_
      refine si_3 dX12_telling_57 rfl (Nat.le_of_ble_eq_true rfl) ?_
      refine r_lconst (0) dX12_telling_58 rfl ?_
      refine sl_4 dX12_telling_59 rfl (Nat.le_of_ble_eq_true rfl) ?_
      refine r_iload_n dX12_telling_61 rfl ?_
      refine r_iload_n dX12_telling_62 rfl ?_
      refine r_iconst (1) dX12_telling_63 rfl ?_
      refine r_isub dX12_telling_64 ?_
      refine r_iand dX12_telling_65 ?_
      refine r_if_ne 71 dX12_telling_66 rfl (fun hf => ?_) (fun hf => ?_)
      ·
        refine r_iconst (1) dX12_telling_71 rfl ?_
        refine si_6 dX12_telling_72 (by first | rfl | assumption) (Nat.le_of_ble_eq_true rfl) ?_
        exact L_rtell hV hK hz hJ9.1.2.2.2.2.2.1.2 (fun m8 hJ8 => by have k9 := k hz ⟨w30a, w30b⟩ m8 hJ8; rw [if_neg (fun q => hf ((few_bits _ hJ9.1.2.2.2.2.2.1.2).mpr q))] at k9; exact k9) 99 0 m9 _ _ _ _ _ _ _ _ (by omega) hJ9
      ·
        refine r_iconst (-1) dX12_telling_69 rfl ?_
        refine r_ireturn dX12_telling_70 rfl rfl ?_
        have k9 := k hz ⟨w30a, w30b⟩ m9 hJ9; rw [if_pos ((few_bits _ hJ9.1.2.2.2.2.2.1.2).mp hf)] at k9; exact k9
    ·
      show Wp g mX12_telling _ _ _ 33 _ (_ :: _) _ Q
      refine r_if_ne 40 dX12_telling_33 rfl (fun hz => absurd hz (by decide)) (fun _ => ?_)
      refine r_iconst (1) dX12_telling_36 rfl ?_
      refine r_goto 41 dX12_telling_37 rfl ?_
      refine r_iconst (2) dX12_telling_41 rfl ?_
      refine r_callV2 (ci := 12) (d1 := 0) (c1 := 0) (n1 := 0) dX12_telling_42 mvX12_86 rfl ⟨(Nat.le_of_ble_eq_true rfl), rfl⟩ (Nat.le_of_ble_eq_true rfl) (by exact Nat.le_of_ble_eq_true rfl) (by exact k_167 hJ1.F) ?_
      refine S_bad1 hJ1.F hJ1.2.2 (by decide) ?_
      have hJ2 := hJ1.bad 2
      show Wp g mX12_telling _ _ _ 45 _ (_ :: _) _ Q
      refine r_if_eq 50 dX12_telling_45 rfl (fun hz => absurd hz (by decide)) (fun _ => ?_)
      refine r_iconst (0) dX12_telling_48 rfl ?_
      refine r_ireturn dX12_telling_49 rfl rfl ?_
      exact kb hz w30 _ hJ2
  ·
    refine r_iconst (1) dX12_telling_13 rfl ?_
    refine r_goto 18 dX12_telling_14 rfl ?_
    refine r_iconst (1) dX12_telling_18 rfl ?_
    refine r_callV2 (ci := 12) (d1 := 0) (c1 := 0) (n1 := 0) dX12_telling_19 mvX12_86 rfl ⟨(Nat.le_of_ble_eq_true rfl), rfl⟩ (Nat.le_of_ble_eq_true rfl) (by exact Nat.le_of_ble_eq_true rfl) (by exact k_167 hJ1.F) ?_
    refine S_bad1 hJ1.F hJ1.2.2 (by decide) ?_
    have hJ3 := hJ1.bad 1
    show Wp g mX12_telling _ _ _ 22 _ (_ :: _) _ Q
    refine r_if_ne 48 dX12_telling_22 rfl (fun _ => ?_) (fun hz => absurd hz (by decide))
    refine r_iconst (0) dX12_telling_48 rfl ?_
    refine r_ireturn dX12_telling_49 rfl rfl ?_
    exact ke hz _ hJ3
