theorem bq_L {m : MM} {a k : Nat} {v : Int64} : ldL (stL m a k v) a k = v := if_pos ⟨rfl, rfl⟩
theorem bq_s {m : MM} {p : Int64} {x y z : Int32} : BtQ (stI (stI (stI (stL m 167 41 p) 167 38 x) 167 39 y) 167 40 z) (p, x, y, z) := ⟨bq_L (m := m), ld_n (by omega) (ld_n (by omega) ld_s), Or.inr ⟨ld_n (by omega) ld_s, ld_s⟩⟩
theorem bq_0 {m : MM} {p : Int64} {x y : Int32} : BtQ (stI (stL m 167 41 p) 167 38 (-1)) (p, -1, x, y) := ⟨bq_L (m := m), ld_s, Or.inl rfl⟩
theorem L_rfb {g : GG} {Q : Out → Prop} {f : Nat → Int32} {fs : Nat → Nat → Int32} {ic : Nat} {tp : Nat → Int32} {tn : Nat} {pl : Int32} {n1 n2 : Nat} {ts : Nat → (Nat → Int32) × Nat} {T1 T2 : Nat → TL} {m0 : MM} (hV : Vf f) (hK : TKs ts n1 T1 n2 T2) (h0 : ¬ f 0 = 0) {l : Nat} (hl : l < n1) (k : ∀ m', RJ f fs ic tp tn pl n1 n2 ts m0 0 m' → BtQ m' (sbF f (hH f) (T1 l) (mdH f (hH f) 1 2) (nS f (hH f)) (PvV f (hH f) (T1 l) (hd f), -1, 0, 0) (2 * (nS f (hH f) * nS f (hH f)))) → Q (.inl none, m')) : ∀ (t v : Nat) (m : MM) (x6 x7 x8 x9 x10 : Value), v + t = 2 * (nS f (hH f) * nS f (hH f)) → BtQ m (sbF f (hH f) (T1 l) (mdH f (hH f) 1 2) (nS f (hH f)) (PvV f (hH f) (T1 l) (hd f), -1, 0, 0) v) → RJ f fs ic tp tn pl n1 n2 ts m0 0 m → Wp g mX12_findBetter 36 0 0 46 [.ref 167, .int (nI l), .int (nI (nS f (hH f))), .long (mdH f (hH f) 1 2).toInt64, .retAddr 0, .int (nI v), x6, x7, x8, x9, x10] [] m Q := by
  have hx0 := hH_of hV h0
  have h6 := hV.1.1.2
  obtain ⟨-, -, s1, s12, -⟩ := hV.2.1 _ hx0.2
  obtain ⟨st, hx⟩ := hK.1 l hl
  have nn : nS f (hH f) * nS f (hH f) ≤ 144 := Nat.mul_le_mul s12 s12
  have e2 : (2 : Int32) * nI (nS f (hH f)) * nI (nS f (hH f)) = nI (2 * (nS f (hH f) * nS f (hH f))) := by rw [show (2 : Int32) = nI 2 from rfl, pk_mul, pk_mul, Nat.mul_assoc]
  have np : 0 < nS f (hH f) := by omega
  have np2 : 0 < nS f (hH f) * nS f (hH f) := Nat.mul_pos np np
  intro t
  induction t with
  | zero =>
    intro v m x6 x7 x8 x9 x10 hi hB hJ
    have hi : v = 2 * (nS f (hH f) * nS f (hH f)) := by omega
    subst hi
    refine r_iload dX12_findBetter_46 rfl ?_
    refine r_iconst (2) dX12_findBetter_48 rfl ?_
    refine r_iload_n dX12_findBetter_49 rfl ?_
    refine r_imul dX12_findBetter_50 ?_
    refine r_iload_n dX12_findBetter_51 rfl ?_
    refine r_imul dX12_findBetter_52 ?_
    rw [e2]
    refine r_icmp_ge 182 dX12_findBetter_53 rfl (fun hge => ?_) (fun hge => ?_)
    ·
      refine r_return dX12_findBetter_182 rfl ?_
      exact k m hJ hB
    ·
      exact absurd (nI_le (Nat.le_refl _) (by omega)) hge
  | succ t ih =>
    intro v m x6 x7 x8 x9 x10 hi hB hJ
    have hin : v < 2 * (nS f (hH f) * nS f (hH f)) := by omega
    have hK2 : v / (nS f (hH f) * nS f (hH f)) < 2 := Nat.div_lt_of_lt_mul (by rw [Nat.mul_comm]; exact hin)
    have hI1 : v / (nS f (hH f)) % (nS f (hH f)) < nS f (hH f) := Nat.mod_lt _ np
    have hI2 : v % (nS f (hH f)) < nS f (hH f) := Nat.mod_lt _ np
    have st1 : sbF f (hH f) (T1 l) (mdH f (hH f) 1 2) (nS f (hH f)) (PvV f (hH f) (T1 l) (hd f), -1, 0, 0) (v + 1) = sbT f (hH f) (T1 l) (mdH f (hH f) 1 2) (hb (hH f) (v / (nS f (hH f) * nS f (hH f)))) (nI (v / (nS f (hH f) * nS f (hH f)))) (v / (nS f (hH f)) % (nS f (hH f))) (v % (nS f (hH f))) (sbF f (hH f) (T1 l) (mdH f (hH f) 1 2) (nS f (hH f)) (PvV f (hH f) (T1 l) (hd f), -1, 0, 0) v) := rfl
    have e3 : nI v / (nI (nS f (hH f)) * nI (nS f (hH f))) = nI (v / (nS f (hH f) * nS f (hH f))) := by rw [pk_mul]; exact pk_div (by omega) np2 (by omega)
    have e4 : nI v / nI (nS f (hH f)) = nI (v / (nS f (hH f))) := pk_div (by omega) np (by omega)
    have dv : v / (nS f (hH f)) ≤ v := Nat.div_le_self _ _
    have e5 : nI (v / (nS f (hH f))) - nI (v / (nS f (hH f))) / nI (nS f (hH f)) * nI (nS f (hH f)) = nI (v / (nS f (hH f)) % (nS f (hH f))) := rem_nI (by omega) np (by omega)
    have e6 : nI v - nI v / nI (nS f (hH f)) * nI (nS f (hH f)) = nI (v % (nS f (hH f))) := rem_nI (by omega) np (by omega)
    have nz1 : ¬ nI (nS f (hH f)) = 0 := fun q => by have z := congrArg Int32.toInt q; rw [nI_int _ (by omega)] at z; have y : (0 : Int32).toInt = 0 := rfl; omega
    have nz2 : ¬ nI (nS f (hH f)) * nI (nS f (hH f)) = 0 := fun q => by rw [pk_mul] at q; have z := congrArg Int32.toInt q; rw [nI_int _ (by omega)] at z; have y : (0 : Int32).toInt = 0 := rfl; omega
    generalize hk9 : v / (nS f (hH f) * nS f (hH f)) = K at *
    generalize hi9 : v / (nS f (hH f)) % (nS f (hH f)) = i at *
    generalize hj9 : v % (nS f (hH f)) = j at *
    refine r_iload dX12_findBetter_46 rfl ?_
    refine r_iconst (2) dX12_findBetter_48 rfl ?_
    refine r_iload_n dX12_findBetter_49 rfl ?_
    refine r_imul dX12_findBetter_50 ?_
    refine r_iload_n dX12_findBetter_51 rfl ?_
    refine r_imul dX12_findBetter_52 ?_
    rw [e2]
    refine r_icmp_ge 182 dX12_findBetter_53 rfl (fun hge => ?_) (fun hge => ?_)
    ·
      exact absurd hge (nI_ge (by omega) (by omega))
    ·
      refine r_iload dX12_findBetter_56 rfl ?_
      refine r_iload_n dX12_findBetter_58 rfl ?_
      refine r_iload_n dX12_findBetter_59 rfl ?_
      refine r_imul dX12_findBetter_60 ?_
      refine r_idiv dX12_findBetter_61 nz2 ?_
      rw [e3]
      refine si_6 dX12_findBetter_62 (by first | rfl | assumption) (Nat.le_of_ble_eq_true rfl) ?_
      refine r_iload dX12_findBetter_64 rfl ?_
      refine r_iload_n dX12_findBetter_66 rfl ?_
      refine r_idiv dX12_findBetter_67 nz1 ?_
      rw [e4]
      refine r_iload_n dX12_findBetter_68 rfl ?_
      refine r_irem dX12_findBetter_69 nz1 ?_
      rw [e5]
      refine si_7 dX12_findBetter_70 (by first | rfl | assumption) (Nat.le_of_ble_eq_true rfl) ?_
      refine r_iload dX12_findBetter_72 rfl ?_
      refine r_iload_n dX12_findBetter_74 rfl ?_
      refine r_irem dX12_findBetter_75 nz1 ?_
      rw [e6]
      refine si_8 dX12_findBetter_76 (by first | rfl | assumption) (Nat.le_of_ble_eq_true rfl) ?_
      refine r_iload dX12_findBetter_78 rfl ?_
      refine r_iload dX12_findBetter_80 rfl ?_
      refine r_icmp_eq 176 dX12_findBetter_82 rfl (fun hij => ?_) (fun hij => ?_)
      ·
        refine ic_5 (1) dX12_findBetter_176 rfl rfl (Nat.le_of_ble_eq_true rfl) ?_
        refine r_goto 46 dX12_findBetter_179 rfl ?_
        rw [nI_1 v]
        have ij : i = j := (nI_eq (by omega) (by omega)).mp hij
        have nx : sbF f (hH f) (T1 l) (mdH f (hH f) 1 2) (nS f (hH f)) (PvV f (hH f) (T1 l) (hd f), -1, 0, 0) (v + 1) = sbF f (hH f) (T1 l) (mdH f (hH f) 1 2) (nS f (hH f)) (PvV f (hH f) (T1 l) (hd f), -1, 0, 0) v := st1.trans (if_neg (fun q => q.1 ij))
        exact ih (v + 1) m _ _ _ _ _ (by omega) (by rw [nx]; exact hB) hJ
      ·
        have hij : i ≠ j := fun q => hij (by rw [q])
        refine r_aload_n dX12_findBetter_85 rfl ?_
        refine r_iload dX12_findBetter_86 rfl ?_
        refine r_iload dX12_findBetter_88 rfl ?_
        refine r_iload dX12_findBetter_90 rfl ?_
        refine r_iconst (1) dX12_findBetter_92 rfl ?_
        refine r_callV4 (ci := 12) (d1 := 1) (c1 := 0) (n1 := 0) dX12_findBetter_93 mvX12_323 rfl ⟨(Nat.le_of_ble_eq_true rfl), rfl⟩ (Nat.le_of_ble_eq_true rfl) (by exact Nat.le_of_ble_eq_true rfl) (by exact k_167 hJ.F) ?_
        refine S_chgp hV hx0.1 hx0.2 hI1 hI2 hij hK2 hJ (fun hX m1 hJ1 b1 => ?_) (fun hX => ?_)
        ·
          have hB1 := hB.k b1
          have hVx := Vf_xh hV hx0.2 hI1 hI2 hX
          have xo := fun x hx => xh_o (f := f) (h := hH f) (i := i) (j := j) (K := K) (x := x) (by omega) (by omega) (by omega) hx
          have xH : hH (xf f (hb (hH f) K) i j) = hH f := congrArg Int32.toNatClampNeg (xo 27 (by omega))
          have xz : ¬ (xf f (hb (hH f) K) i j) 0 = 0 := by rw [xo 0 (by omega)]; exact h0
          show Wp g mX12_findBetter _ _ _ 96 _ (_ :: _) _ Q
          refine r_if_ne 102 dX12_findBetter_96 rfl (fun _ => ?_) (fun hz => absurd hz (by decide))
          refine r_aload_n dX12_findBetter_102 rfl ?_
          refine r_callV0 (ci := 12) (d1 := 2) (c1 := 0) (n1 := 0) dX12_findBetter_103 mvX12_249 rfl ⟨(Nat.le_of_ble_eq_true rfl), rfl⟩ (Nat.le_of_ble_eq_true rfl) (by exact Nat.le_of_ble_eq_true rfl) (by exact k_167 hJ1.F) ?_
          refine S_atHand hVx hJ1.1 xz (fun m2 s2 n2x => ?_)
          have hJ2 := hJ1.sc s2.1 s2.2
          have hB2 := hB1.sc s2.1
          rw [xH] at n2x
          show Wp g mX12_findBetter _ _ _ 106 _ [] _ Q
          refine r_aload_n dX12_findBetter_106 rfl ?_
          refine r_iload_n dX12_findBetter_107 rfl ?_
          refine r_callV1 (ci := 12) (d1 := 35) (c1 := 0) (n1 := 0) dX12_findBetter_108 mvX12_255 rfl ⟨(Nat.le_of_ble_eq_true rfl), rfl⟩ (Nat.le_of_ble_eq_true rfl) (by exact Nat.le_of_ble_eq_true rfl) (by exact k_167 hJ2.F) ?_
          refine S_pullOf hJ2.1 hl hx n2x (fun m3 s3 n3x t3x => ?_)
          have hJ3 := hJ2.sc s3.1 s3.2
          have hB3 := hB2.sc s3.1
          show Wp g mX12_findBetter _ _ _ 111 _ (_ :: _) _ Q
          refine sl_9 dX12_findBetter_111 (by first | rfl | assumption) (Nat.le_of_ble_eq_true rfl) ?_
          refine r_aload_n dX12_findBetter_113 rfl ?_
          refine r_aload_n dX12_findBetter_114 rfl ?_
          refine r_getRc dX12_findBetter_115 fgX12_52 rfl (by exact k_167 hJ3.F) (by exact r_167_26 hJ3.F) ?_
          refine r_iconst (0) dX12_findBetter_118 rfl ?_
          refine r_ialoadc (nI (hH f)) dX12_findBetter_119 (by exact k_198 hJ3.F) (vin (j := 0) (by omega) (by omega)) (by exact (hJ3.g (by omega) (l_han (i := 0) (by omega))).trans ((xo 27 (by omega)).trans hx0.1)) ?_
          refine r_iconst (1) dX12_findBetter_120 rfl ?_
          refine r_iconst (2) dX12_findBetter_121 rfl ?_
          refine r_callV3 (ci := 12) (d1 := 0) (c1 := 0) (n1 := 0) dX12_findBetter_122 mvX12_101 rfl ⟨(Nat.le_of_ble_eq_true rfl), rfl⟩ (Nat.le_of_ble_eq_true rfl) (by exact Nat.le_of_ble_eq_true rfl) (by exact k_167 hJ3.F) ?_
          refine S_rmod2 hVx hJ3.1 (h := hH f) (by have z := (hH_of hVx xz).2; rw [xH] at z; exact z) ⟨by decide, by decide⟩ ?_
          show Wp g mX12_findBetter _ _ _ 125 _ (_ :: _) _ Q
          refine r_lload_n dX12_findBetter_125 rfl ?_
          refine r_lcmp_lt 164 dX12_findBetter_126 dX12_findBetter_127 rfl (fun hvol => ?_) (fun hvol => ?_)
          ·
            have nx : sbF f (hH f) (T1 l) (mdH f (hH f) 1 2) (nS f (hH f)) (PvV f (hH f) (T1 l) (hd f), -1, 0, 0) (v + 1) = sbF f (hH f) (T1 l) (mdH f (hH f) 1 2) (nS f (hH f)) (PvV f (hH f) (T1 l) (hd f), -1, 0, 0) v := st1.trans ((if_pos hX).trans (if_neg (fun q => i64_n32.mp hvol q.1)))
            have hB4 := hB3
            refine r_aload_n dX12_findBetter_164 rfl ?_
            refine r_iload dX12_findBetter_165 rfl ?_
            refine r_iload dX12_findBetter_167 rfl ?_
            refine r_iload dX12_findBetter_169 rfl ?_
            refine r_iconst (-1) dX12_findBetter_171 rfl ?_
            refine r_callV4 (ci := 12) (d1 := 1) (c1 := 0) (n1 := 0) dX12_findBetter_172 mvX12_323 rfl ⟨(Nat.le_of_ble_eq_true rfl), rfl⟩ (Nat.le_of_ble_eq_true rfl) (by exact Nat.le_of_ble_eq_true rfl) (by exact k_167 hJ3.F) ?_
            refine S_chgm hV (by rw [xo 27 (by omega)]; exact hx0.1) hx0.2 hI1 hI2 hij hK2 hJ3 (fun m9 hJ9 b9 => ?_)
            show Wp g mX12_findBetter _ _ _ 175 _ (_ :: _) _ Q
            refine r_pop dX12_findBetter_175 rfl ?_
            refine ic_5 (1) dX12_findBetter_176 rfl rfl (Nat.le_of_ble_eq_true rfl) ?_
            refine r_goto 46 dX12_findBetter_179 rfl ?_
            rw [nI_1 v]
            exact ih (v + 1) m9 _ _ _ _ _ (by omega) (by rw [nx]; exact hB4.k b9) hJ9
          ·
            refine r_lload dX12_findBetter_130 rfl ?_
            refine r_aload_n dX12_findBetter_132 rfl ?_
            refine r_getLc ((sbF f (hH f) (T1 l) (mdH f (hH f) 1 2) (nS f (hH f)) (PvV f (hH f) (T1 l) (hd f), -1, 0, 0) v).1) dX12_findBetter_133 fgX12_316 rfl (by exact k_167 hJ3.F) (by exact hB3.1) ?_
            refine r_lcmp_ge 164 dX12_findBetter_136 dX12_findBetter_137 rfl (fun hbp => ?_) (fun hbp => ?_)
            ·
              have nx : sbF f (hH f) (T1 l) (mdH f (hH f) 1 2) (nS f (hH f)) (PvV f (hH f) (T1 l) (hd f), -1, 0, 0) (v + 1) = sbF f (hH f) (T1 l) (mdH f (hH f) 1 2) (nS f (hH f)) (PvV f (hH f) (T1 l) (hd f), -1, 0, 0) v := st1.trans ((if_pos hX).trans (if_neg (fun q => i64_nlt.mpr hbp q.2)))
              have hB4 := hB3
              refine r_aload_n dX12_findBetter_164 rfl ?_
              refine r_iload dX12_findBetter_165 rfl ?_
              refine r_iload dX12_findBetter_167 rfl ?_
              refine r_iload dX12_findBetter_169 rfl ?_
              refine r_iconst (-1) dX12_findBetter_171 rfl ?_
              refine r_callV4 (ci := 12) (d1 := 1) (c1 := 0) (n1 := 0) dX12_findBetter_172 mvX12_323 rfl ⟨(Nat.le_of_ble_eq_true rfl), rfl⟩ (Nat.le_of_ble_eq_true rfl) (by exact Nat.le_of_ble_eq_true rfl) (by exact k_167 hJ3.F) ?_
              refine S_chgm hV (by rw [xo 27 (by omega)]; exact hx0.1) hx0.2 hI1 hI2 hij hK2 hJ3 (fun m9 hJ9 b9 => ?_)
              show Wp g mX12_findBetter _ _ _ 175 _ (_ :: _) _ Q
              refine r_pop dX12_findBetter_175 rfl ?_
              refine ic_5 (1) dX12_findBetter_176 rfl rfl (Nat.le_of_ble_eq_true rfl) ?_
              refine r_goto 46 dX12_findBetter_179 rfl ?_
              rw [nI_1 v]
              exact ih (v + 1) m9 _ _ _ _ _ (by omega) (by rw [nx]; exact hB4.k b9) hJ9
            ·
              refine r_aload_n dX12_findBetter_140 rfl ?_
              refine r_lload dX12_findBetter_141 rfl ?_
              refine r_putL dX12_findBetter_143 (fpX12_316 _ rfl) rfl (by exact k_167 hJ3.F) ?_
              have hJ196 := hJ3.bl (k := 41) (PvV (xf f (hb (hH f) K) i j) (hH f) (T1 l) (hd (xf f (hb (hH f) K) i j)))
              refine r_aload_n dX12_findBetter_146 rfl ?_
              refine r_iload dX12_findBetter_147 rfl ?_
              refine r_putI dX12_findBetter_149 (fpX12_320 _ rfl) rfl (by exact k_167 hJ196.F) ⟨rfl, rfl⟩ ?_
              have hJ202 := hJ196.b (k := 38) (nI K) (by omega) (by omega)
              refine r_aload_n dX12_findBetter_152 rfl ?_
              refine r_iload dX12_findBetter_153 rfl ?_
              refine r_putI dX12_findBetter_155 (fpX12_327 _ rfl) rfl (by exact k_167 hJ202.F) ⟨rfl, rfl⟩ ?_
              have hJ208 := hJ202.b (k := 39) (nI i) (by omega) (by omega)
              refine r_aload_n dX12_findBetter_158 rfl ?_
              refine r_iload dX12_findBetter_159 rfl ?_
              refine r_putI dX12_findBetter_161 (fpX12_330 _ rfl) rfl (by exact k_167 hJ208.F) ⟨rfl, rfl⟩ ?_
              have nx : sbF f (hH f) (T1 l) (mdH f (hH f) 1 2) (nS f (hH f)) (PvV f (hH f) (T1 l) (hd f), -1, 0, 0) (v + 1) = (PvV (xf f (hb (hH f) K) i j) (hH f) (T1 l) (hd (xf f (hb (hH f) K) i j)), nI K, nI i, nI j) := st1.trans ((if_pos hX).trans (if_pos ⟨Classical.byContradiction (fun q => hvol (i64_n32.mpr q)), i64_nle.mp hbp⟩))
              have hJ4 := (((hJ3.bl (k := 41) (PvV (xf f (hb (hH f) K) i j) (hH f) (T1 l) (hd (xf f (hb (hH f) K) i j)))).b (k := 38) (nI K) (by omega) (by omega)).b (k := 39) (nI i) (by omega) (by omega)).b (k := 40) (nI j) (by omega) (by omega)
              refine r_aload_n dX12_findBetter_164 rfl ?_
              refine r_iload dX12_findBetter_165 rfl ?_
              refine r_iload dX12_findBetter_167 rfl ?_
              refine r_iload dX12_findBetter_169 rfl ?_
              refine r_iconst (-1) dX12_findBetter_171 rfl ?_
              refine r_callV4 (ci := 12) (d1 := 1) (c1 := 0) (n1 := 0) dX12_findBetter_172 mvX12_323 rfl ⟨(Nat.le_of_ble_eq_true rfl), rfl⟩ (Nat.le_of_ble_eq_true rfl) (by exact Nat.le_of_ble_eq_true rfl) (by exact k_167 hJ4.F) ?_
              refine S_chgm hV (by rw [xo 27 (by omega)]; exact hx0.1) hx0.2 hI1 hI2 hij hK2 hJ4 (fun m9 hJ9 b9 => ?_)
              show Wp g mX12_findBetter _ _ _ 175 _ (_ :: _) _ Q
              refine r_pop dX12_findBetter_175 rfl ?_
              refine ic_5 (1) dX12_findBetter_176 rfl rfl (Nat.le_of_ble_eq_true rfl) ?_
              refine r_goto 46 dX12_findBetter_179 rfl ?_
              rw [nI_1 v]
              exact ih (v + 1) m9 _ _ _ _ _ (by omega) (by rw [nx]; exact BtQ.k bq_s b9) hJ9
        ·
          show Wp g mX12_findBetter _ _ _ 96 _ (_ :: _) _ Q
          refine r_if_ne 102 dX12_findBetter_96 rfl (fun hz => absurd hz (by decide)) (fun _ => ?_)
          refine r_goto 176 dX12_findBetter_99 rfl ?_
          refine ic_5 (1) dX12_findBetter_176 rfl rfl (Nat.le_of_ble_eq_true rfl) ?_
          refine r_goto 46 dX12_findBetter_179 rfl ?_
          rw [nI_1 v]
          have nx : sbF f (hH f) (T1 l) (mdH f (hH f) 1 2) (nS f (hH f)) (PvV f (hH f) (T1 l) (hd f), -1, 0, 0) (v + 1) = sbF f (hH f) (T1 l) (mdH f (hH f) 1 2) (nS f (hH f)) (PvV f (hH f) (T1 l) (hd f), -1, 0, 0) v := st1.trans (if_neg hX)
          exact ih (v + 1) m _ _ _ _ _ (by omega) (by rw [nx]; exact hB) hJ
theorem S_findB {g : GG} {m : MM} {Q : Out → Prop} {f : Nat → Int32} {fs : Nat → Nat → Int32} {ic : Nat} {tp : Nat → Int32} {tn : Nat} {pl : Int32} {n1 n2 : Nat} {ts : Nat → (Nat → Int32) × Nat} {T1 T2 : Nat → TL} {m0 : MM} (hV : Vf f) (hK : TKs ts n1 T1 n2 T2) (h0 : ¬ f 0 = 0) {l : Nat} (hl : l < n1) (hJ : RJ f fs ic tp tn pl n1 n2 ts m0 0 m) (k : ∀ m', RJ f fs ic tp tn pl n1 n2 ts m0 0 m' → BtQ m' (sbG f (T1 l)) → Q (.inl none, m')) : Cl g 36 0 0 mX12_findBetter [.ref 167, .int (nI l)] m Q := by
  have hx0 := hH_of hV h0
  have h6 := hV.1.1.2
  have hst := hV.2.1 _ hx0.2
  obtain ⟨st, hx⟩ := hK.1 l hl
  refine Cl.of rfl (by decide) (Nat.le_of_ble_eq_true rfl) ?_
  show Wp g mX12_findBetter 36 0 0 0 [.ref 167, .int (nI l), .retAddr 0, .retAddr 0, .retAddr 0, .retAddr 0, .retAddr 0, .retAddr 0, .retAddr 0, .retAddr 0, .retAddr 0] [] m Q
  refine r_aload_n dX12_findBetter_0 rfl ?_
  refine r_getRc dX12_findBetter_1 fgX12_37 rfl (by exact k_167 hJ.F) (by exact r_167_21 hJ.F) ?_
  refine r_aload_n dX12_findBetter_4 rfl ?_
  refine r_getRc dX12_findBetter_5 fgX12_52 rfl (by exact k_167 hJ.F) (by exact r_167_26 hJ.F) ?_
  refine r_iconst (0) dX12_findBetter_8 rfl ?_
  refine r_ialoadc (nI (hH f)) dX12_findBetter_9 (by exact k_198 hJ.F) (vin (j := 0) (by omega) (by omega)) (by exact (hJ.g (by omega) (l_han (i := 0) (by omega))).trans hx0.1) ?_
  refine r_ialoadc (nI (nS f (hH f))) dX12_findBetter_10 (by exact k_181 hJ.F) (vin (by omega) (by omega)) (by rw [nI_cl _ (by omega)]; exact (hJ.g (by omega) (l_sta (by omega))).trans hst.2.1) ?_
  refine si_2 dX12_findBetter_11 rfl (Nat.le_of_ble_eq_true rfl) ?_
  refine r_aload_n dX12_findBetter_12 rfl ?_
  refine r_aload_n dX12_findBetter_13 rfl ?_
  refine r_getRc dX12_findBetter_14 fgX12_52 rfl (by exact k_167 hJ.F) (by exact r_167_26 hJ.F) ?_
  refine r_iconst (0) dX12_findBetter_17 rfl ?_
  refine r_ialoadc (nI (hH f)) dX12_findBetter_18 (by exact k_198 hJ.F) (vin (j := 0) (by omega) (by omega)) (by exact (hJ.g (by omega) (l_han (i := 0) (by omega))).trans hx0.1) ?_
  refine r_iconst (1) dX12_findBetter_19 rfl ?_
  refine r_iconst (2) dX12_findBetter_20 rfl ?_
  refine r_callV3 (ci := 12) (d1 := 0) (c1 := 0) (n1 := 0) dX12_findBetter_21 mvX12_101 rfl ⟨(Nat.le_of_ble_eq_true rfl), rfl⟩ (Nat.le_of_ble_eq_true rfl) (by exact Nat.le_of_ble_eq_true rfl) (by exact k_167 hJ.F) ?_
  refine S_rmod2 hV hJ.1 hx0.2 ⟨by decide, by decide⟩ ?_
  show Wp g mX12_findBetter _ _ _ 24 _ (_ :: _) _ Q
  refine sl_3 dX12_findBetter_24 rfl (Nat.le_of_ble_eq_true rfl) ?_
  refine r_aload_n dX12_findBetter_25 rfl ?_
  refine r_callV0 (ci := 12) (d1 := 2) (c1 := 0) (n1 := 0) dX12_findBetter_26 mvX12_249 rfl ⟨(Nat.le_of_ble_eq_true rfl), rfl⟩ (Nat.le_of_ble_eq_true rfl) (by exact Nat.le_of_ble_eq_true rfl) (by exact k_167 hJ.F) ?_
  refine S_atHand hV hJ.1 h0 (fun m2 s2 n2x => ?_)
  have hJ2 := hJ.sc s2.1 s2.2
  show Wp g mX12_findBetter _ _ _ 29 _ [] _ Q
  refine r_aload_n dX12_findBetter_29 rfl ?_
  refine r_aload_n dX12_findBetter_30 rfl ?_
  refine r_iload_n dX12_findBetter_31 rfl ?_
  refine r_callV1 (ci := 12) (d1 := 35) (c1 := 0) (n1 := 0) dX12_findBetter_32 mvX12_255 rfl ⟨(Nat.le_of_ble_eq_true rfl), rfl⟩ (Nat.le_of_ble_eq_true rfl) (by exact Nat.le_of_ble_eq_true rfl) (by exact k_167 hJ2.F) ?_
  refine S_pullOf hJ2.1 hl hx n2x (fun m3 s3 n3x t3x => ?_)
  have hJ3 := hJ2.sc s3.1 s3.2
  show Wp g mX12_findBetter _ _ _ 35 _ (_ :: _) _ Q
  refine r_putL dX12_findBetter_35 (fpX12_316 _ rfl) rfl (by exact k_167 hJ3.F) ?_
  have hJ88 := hJ3.bl (k := 41) (PvV f (hH f) (T1 l) (hd f))
  refine r_aload_n dX12_findBetter_38 rfl ?_
  refine r_iconst (-1) dX12_findBetter_39 rfl ?_
  refine r_putI dX12_findBetter_40 (fpX12_320 _ rfl) rfl (by exact k_167 hJ88.F) ⟨rfl, rfl⟩ ?_
  have hJ93 := hJ88.b (k := 38) (-1) (by omega) (by omega)
  refine r_iconst (0) dX12_findBetter_43 rfl ?_
  refine si_5 dX12_findBetter_44 (by first | rfl | assumption) (Nat.le_of_ble_eq_true rfl) ?_
  exact L_rfb hV hK h0 hl k (2 * (nS f (hH f) * nS f (hH f))) 0 _ _ _ _ _ _ (by omega) bq_0 hJ93
