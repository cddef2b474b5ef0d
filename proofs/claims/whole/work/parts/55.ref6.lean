theorem byt_eq {x e : Int32} {q : Nat} (hq : q < 4) (h : (e &&& 31) = (nI (24 - 8 * q) &&& 31)) : (x >>> (e &&& 31)) &&& 255 = byt x q := by
  unfold byt us
  rw [h]
  apply b_ext
  intro i hi
  rw [b_and, b_and, b_sshr _ (by omega) _ hi, b_ushr _ (by omega), b_255]
  by_cases c : i < 8
  · rw [if_pos (by omega)]
  · rw [decide_eq_false c, Bool.and_false, Bool.and_false]
def wdF (a b c d e : Int32) : Nat → Int32 := fun q => match q with
  | 0 => a
  | 1 => b
  | 2 => c
  | 3 => d
  | _ => e
def fdT (tp : Nat → Int32) (tn : Nat) (a b c d e : Int32) : Nat → Int32 := fun j => if j < tn then tp j else byt (wdF a b c d e ((j - tn) / 4)) ((j - tn) % 4)
theorem fdT_at {tp : Nat → Int32} {tn i : Nat} {a b c d e : Int32} : fdT tp tn a b c d e (tn + i) = byt (wdF a b c d e (i / 4)) (i % 4) := by
  unfold fdT; rw [if_neg (by omega), show tn + i - tn = i from by omega]
theorem fdT_eq {tp : Nat → Int32} {tn j : Nat} {a b c d e : Int32} (h : j < tn + 20) : fdT tp tn a b c d e j = fdF (fdF (fdF (fdF (fdF tp tn a) (tn + 4) b) (tn + 4 + 4) c) (tn + 4 + 4 + 4) d) (tn + 4 + 4 + 4 + 4) e j := by
  by_cases q : j < tn
  · rw [show fdT tp tn a b c d e j = tp j from if_pos q]
    unfold fdF
    rw [if_pos (by omega), if_pos (by omega), if_pos (by omega), if_pos (by omega), if_pos (by omega)]
  · obtain ⟨i, rfl⟩ : ∃ i, j = tn + i := ⟨j - tn, by omega⟩
    rw [fdT_at]
    unfold fdF
    by_cases c1 : i < 4
    · rw [if_pos (by omega), if_pos (by omega), if_pos (by omega), if_pos (by omega), if_neg (by omega), show i / 4 = 0 from by omega, show i % 4 = i from by omega, show tn + i - tn = i from by omega]; rfl
    by_cases c2 : i < 8
    · rw [if_pos (by omega), if_pos (by omega), if_pos (by omega), if_neg (by omega), show i / 4 = 1 from by omega, show i % 4 = i - 4 from by omega, show tn + i - (tn + 4) = i - 4 from by omega]; rfl
    by_cases c3 : i < 12
    · rw [if_pos (by omega), if_pos (by omega), if_neg (by omega), show i / 4 = 2 from by omega, show i % 4 = i - 8 from by omega, show tn + i - (tn + 4 + 4) = i - 8 from by omega]; rfl
    by_cases c4 : i < 16
    · rw [if_pos (by omega), if_neg (by omega), show i / 4 = 3 from by omega, show i % 4 = i - 12 from by omega, show tn + i - (tn + 4 + 4 + 4) = i - 12 from by omega]; rfl
    · rw [if_neg (by omega), show i / 4 = 4 from by omega, show i % 4 = i - 16 from by omega, show tn + i - (tn + 4 + 4 + 4 + 4) = i - 16 from by omega]; rfl
section Fd
variable {f : Nat → Int32} {fs : Nat → Nat → Int32} {ic : Nat} {tp : Nat → Int32} {tn : Nat} {pl : Int32} {n1 n2 : Nat} {ts : Nat → (Nat → Int32) × Nat} {m0 m : MM} {t : Int32}
theorem RI.tpc {tp' : Nat → Int32} (h : RI f fs ic tp tn pl n1 n2 ts m) (e : ∀ j, j < tn → tp j = tp' j) : RI f fs ic tp' tn pl n1 n2 ts m := by
  obtain ⟨a, b, c, ⟨d1, d2, d3⟩, r⟩ := h
  exact ⟨a, b, c, ⟨d1, d2, fun j hj => by rw [← e j hj]; exact d3 j hj⟩, r⟩
theorem RJ.fd (h : RJ f fs ic tp tn pl n1 n2 ts m0 t m) (hn : tn < 400) {v : Int32} (hv : v = tp tn) (h2 : iv 0 255 v) : RJ f fs ic tp (tn + 1) pl n1 n2 ts m0 t (stI (stI m 168 tn v) 167 1 (nI (tn + 1))) := by
  obtain ⟨⟨a, b, ⟨c1, c2, c3⟩, ⟨d1, d2, d3⟩, e1, ⟨f1, f2⟩, ⟨g1, g2⟩, h1⟩, o, t1⟩ := h
  have e : ∀ a k, a ≠ 168 → ¬ (a = 167 ∧ k = 1) → ldI (stI (stI m 168 tn v) 167 1 (nI (tn + 1))) a k = ldI m a k := fun a k h1 h2 => ld_n (by omega) (ld_n (by omega) rfl)
  refine ⟨⟨Fx_of (m := m) rfl a, fun z hz => (e _ _ (by have := lA_ok hz; omega) (by have := lA_ok hz; omega)).trans (b z hz), ⟨(e _ _ (by decide) (by decide)).trans c1, c2, fun k hk z hz => (e _ _ (by omega) (by omega)).trans (c3 k hk z hz)⟩, ⟨ld_s, by omega, fun j hj => ?_⟩, (e _ _ (by decide) (by decide)).trans e1, ⟨(e _ _ (by decide) (by decide)).trans f1, f2⟩, ⟨(e _ _ (by decide) (by decide)).trans g1, g2⟩, fun l hl => ⟨(e _ _ (by omega) (by omega)).trans (h1 l hl).1, (h1 l hl).2.1, fun j hj => ⟨(e _ _ (by omega) (by omega)).trans ((h1 l hl).2.2 j hj).1, ((h1 l hl).2.2 j hj).2⟩⟩⟩, (o.stI (by omega) (by omega)).stI (by omega) (by omega), (e _ _ (by decide) (by decide)).trans t1⟩
  by_cases q : j = tn
  · subst q; rw [← hv]; exact ⟨ld_n (by omega) ld_s, h2⟩
  · exact ⟨ld_n (by omega) (ld_n (by omega) (d3 j (by omega)).1), (d3 j (by omega)).2⟩
end Fd
set_option maxHeartbeats 4000000 in
theorem S_X12_feed {g : GG} {m : MM} {Q : Out → Prop} {f : Nat → Int32} {fs : Nat → Nat → Int32} {ic : Nat} {tp : Nat → Int32} {tn : Nat} {pl : Int32} {n1 n2 : Nat} {ts : Nat → (Nat → Int32) × Nat} (hV : Vf f) (hI : RI f fs ic tp tn pl n1 n2 ts m) {a0 b0 c0 d0 e0 : Int32} (kf : ¬ tn + 20 ≤ 400 → ∀ m', RJ f fs ic tp tn pl n1 n2 ts m 0 m' → Q (.inl (some (.int (-1))), m')) (k : tn + 20 ≤ 400 → ∀ m', RJ f fs ic (fdF (fdF (fdF (fdF (fdF tp tn a0) (tn + 4) b0) (tn + 4 + 4) c0) (tn + 4 + 4 + 4) d0) (tn + 4 + 4 + 4 + 4) e0) (tn + 20) pl n1 n2 ts m 0 m' → Q (.inl (some (.int (nI (tn + 20)))), m')) : Cl g 0 0 0 mX12_feed [.ref 167, .int a0, .int b0, .int c0, .int d0, .int e0] m Q := by
  refine Cl.of rfl (by decide) (Nat.le_of_ble_eq_true rfl) ?_
  show Wp g mX12_feed 0 0 0 0 [.ref 167, .int a0, .int b0, .int c0, .int d0, .int e0, .retAddr 0, .retAddr 0] [] m Q
  have ht4 := hI.2.2.2.1.2.1
  refine r_aload_n dX12_feed_0 rfl ?_
  refine r_iconst (0) dX12_feed_1 rfl ?_
  refine r_putI dX12_feed_2 (fpX12_79 _ rfl) rfl (by exact k_167 hI.1) ⟨rfl, rfl⟩ ?_
  have hJ1 := hI.go
  refine r_aload_n dX12_feed_5 rfl ?_
  refine r_getIc (nI tn) dX12_feed_6 fgX12_108 rfl (by exact k_167 hJ1.F) (by exact hJ1.1.2.2.2.1.1) ?_
  refine r_bipush (20) dX12_feed_9 rfl ?_
  refine r_iadd dX12_feed_11 ?_
  refine r_sipush (400) dX12_feed_12 rfl ?_
  refine r_icmp_le 20 dX12_feed_15 rfl (fun hz => ?_) (fun hz => ?_)
  ·
    have hz9 := (fd_le ht4).mp hz
    have hJ2 : RJ f fs ic (fdT tp tn a0 b0 c0 d0 e0) (tn + 0) pl n1 n2 ts m 0 (stI m 167 0 0) := ⟨hJ1.1.tpc (fun j hj => (if_pos hj).symm), hJ1.2⟩
    generalize stI m 167 0 0 = M2 at hJ2 ⊢
    clear hJ1
    refine r_iconst (0) dX12_feed_20 rfl ?_
    refine si_6 dX12_feed_21 rfl (Nat.le_of_ble_eq_true rfl) ?_
    refine r_iload dX12_feed_23 rfl ?_
    refine r_bipush (20) dX12_feed_25 rfl ?_
    refine r_icmp_ge 120 dX12_feed_27 rfl (fun hz => absurd hz (by decide)) (fun _ => ?_)
    refine r_iload dX12_feed_30 rfl ?_
    refine r_iconst (4) dX12_feed_32 rfl ?_
    refine r_icmp_ge 40 dX12_feed_33 rfl (fun hz => absurd hz (by decide)) (fun _ => ?_)
    refine r_iload_n dX12_feed_36 rfl ?_
    refine r_goto 76 dX12_feed_37 rfl ?_
    refine si_7 dX12_feed_76 rfl (Nat.le_of_ble_eq_true rfl) ?_
    refine r_aload_n dX12_feed_78 rfl ?_
    refine r_getRc dX12_feed_79 fgX12_15 rfl (by exact k_167 hJ2.F) (by exact r_167_10 hJ2.F) ?_
    refine r_aload_n dX12_feed_82 rfl ?_
    refine r_getIc (nI (tn + 0)) dX12_feed_83 fgX12_108 rfl (by exact k_167 hJ2.F) (by exact hJ2.1.2.2.2.1.1) ?_
    refine r_iload dX12_feed_86 rfl ?_
    refine r_bipush (24) dX12_feed_88 rfl ?_
    refine r_bipush (8) dX12_feed_90 rfl ?_
    refine r_iload dX12_feed_92 rfl ?_
    refine r_iconst (4) dX12_feed_94 rfl ?_
    refine r_irem dX12_feed_95 (by decide) ?_
    refine r_imul dX12_feed_96 ?_
    refine r_isub dX12_feed_97 ?_
    refine r_ishr dX12_feed_98 ?_
    refine r_sipush (255) dX12_feed_99 rfl ?_
    refine r_iand dX12_feed_102 ?_
    rw [show ((a0 >>> ((24 - 8 * (0 - (0) / 4 * 4)) &&& 31)) &&& 255 : Int32) = byt a0 0 from byt_eq (by omega) rfl]
    refine r_iastoren (tn + 0) (nI_cl _ (by omega)) dX12_feed_103 (by exact k_168 hJ2.F) (vin (by omega) (by omega)) ?_
    refine r_aload_n dX12_feed_104 rfl ?_
    refine r_dup dX12_feed_105 rfl ?_
    refine r_getIc (nI (tn + 0)) dX12_feed_106 fgX12_108 rfl (by exact k_167 hJ2.F) (by exact ld_n (by omega) hJ2.1.2.2.2.1.1) ?_
    refine r_iconst (1) dX12_feed_109 rfl ?_
    refine r_iadd dX12_feed_110 ?_
    refine r_putI dX12_feed_111 (fpX12_108 _ rfl) rfl (by exact k_167 hJ2.F) ⟨rfl, rfl⟩ ?_
    rw [nI_1]
    have hJ3 : RJ f fs ic (fdT tp tn a0 b0 c0 d0 e0) (tn + 1) pl n1 n2 ts m 0 (stI (stI M2 168 (tn + 0) (byt a0 0)) 167 1 (nI (tn + 0 + 1))) := hJ2.fd (v := byt a0 0) (by omega) (fdT_at (i := 0)).symm (byt_iv _ _)
    generalize stI (stI M2 168 (tn + 0) (byt a0 0)) 167 1 (nI (tn + 0 + 1)) = M3 at hJ3 ⊢
    clear hJ2
    refine ic_6 (1) dX12_feed_114 rfl rfl (Nat.le_of_ble_eq_true rfl) ?_
    refine r_goto 23 dX12_feed_117 rfl ?_
    rw [show ((0 : Int32) + 1) = 1 from rfl]
    refine r_iload dX12_feed_23 rfl ?_
    refine r_bipush (20) dX12_feed_25 rfl ?_
    refine r_icmp_ge 120 dX12_feed_27 rfl (fun hz => absurd hz (by decide)) (fun _ => ?_)
    refine r_iload dX12_feed_30 rfl ?_
    refine r_iconst (4) dX12_feed_32 rfl ?_
    refine r_icmp_ge 40 dX12_feed_33 rfl (fun hz => absurd hz (by decide)) (fun _ => ?_)
    refine r_iload_n dX12_feed_36 rfl ?_
    refine r_goto 76 dX12_feed_37 rfl ?_
    refine si_7 dX12_feed_76 rfl (Nat.le_of_ble_eq_true rfl) ?_
    refine r_aload_n dX12_feed_78 rfl ?_
    refine r_getRc dX12_feed_79 fgX12_15 rfl (by exact k_167 hJ3.F) (by exact r_167_10 hJ3.F) ?_
    refine r_aload_n dX12_feed_82 rfl ?_
    refine r_getIc (nI (tn + 1)) dX12_feed_83 fgX12_108 rfl (by exact k_167 hJ3.F) (by exact hJ3.1.2.2.2.1.1) ?_
    refine r_iload dX12_feed_86 rfl ?_
    refine r_bipush (24) dX12_feed_88 rfl ?_
    refine r_bipush (8) dX12_feed_90 rfl ?_
    refine r_iload dX12_feed_92 rfl ?_
    refine r_iconst (4) dX12_feed_94 rfl ?_
    refine r_irem dX12_feed_95 (by decide) ?_
    refine r_imul dX12_feed_96 ?_
    refine r_isub dX12_feed_97 ?_
    refine r_ishr dX12_feed_98 ?_
    refine r_sipush (255) dX12_feed_99 rfl ?_
    refine r_iand dX12_feed_102 ?_
    rw [show ((a0 >>> ((24 - 8 * (1 - (1) / 4 * 4)) &&& 31)) &&& 255 : Int32) = byt a0 1 from byt_eq (by omega) rfl]
    refine r_iastoren (tn + 1) (nI_cl _ (by omega)) dX12_feed_103 (by exact k_168 hJ3.F) (vin (by omega) (by omega)) ?_
    refine r_aload_n dX12_feed_104 rfl ?_
    refine r_dup dX12_feed_105 rfl ?_
    refine r_getIc (nI (tn + 1)) dX12_feed_106 fgX12_108 rfl (by exact k_167 hJ3.F) (by exact ld_n (by omega) hJ3.1.2.2.2.1.1) ?_
    refine r_iconst (1) dX12_feed_109 rfl ?_
    refine r_iadd dX12_feed_110 ?_
    refine r_putI dX12_feed_111 (fpX12_108 _ rfl) rfl (by exact k_167 hJ3.F) ⟨rfl, rfl⟩ ?_
    rw [nI_1]
    have hJ4 : RJ f fs ic (fdT tp tn a0 b0 c0 d0 e0) (tn + 2) pl n1 n2 ts m 0 (stI (stI M3 168 (tn + 1) (byt a0 1)) 167 1 (nI (tn + 1 + 1))) := hJ3.fd (v := byt a0 1) (by omega) (fdT_at (i := 1)).symm (byt_iv _ _)
    generalize stI (stI M3 168 (tn + 1) (byt a0 1)) 167 1 (nI (tn + 1 + 1)) = M4 at hJ4 ⊢
    clear hJ3
    refine ic_6 (1) dX12_feed_114 rfl rfl (Nat.le_of_ble_eq_true rfl) ?_
    refine r_goto 23 dX12_feed_117 rfl ?_
    rw [show ((1 : Int32) + 1) = 2 from rfl]
    refine r_iload dX12_feed_23 rfl ?_
    refine r_bipush (20) dX12_feed_25 rfl ?_
    refine r_icmp_ge 120 dX12_feed_27 rfl (fun hz => absurd hz (by decide)) (fun _ => ?_)
    refine r_iload dX12_feed_30 rfl ?_
    refine r_iconst (4) dX12_feed_32 rfl ?_
    refine r_icmp_ge 40 dX12_feed_33 rfl (fun hz => absurd hz (by decide)) (fun _ => ?_)
    refine r_iload_n dX12_feed_36 rfl ?_
    refine r_goto 76 dX12_feed_37 rfl ?_
    refine si_7 dX12_feed_76 rfl (Nat.le_of_ble_eq_true rfl) ?_
    refine r_aload_n dX12_feed_78 rfl ?_
    refine r_getRc dX12_feed_79 fgX12_15 rfl (by exact k_167 hJ4.F) (by exact r_167_10 hJ4.F) ?_
    refine r_aload_n dX12_feed_82 rfl ?_
    refine r_getIc (nI (tn + 2)) dX12_feed_83 fgX12_108 rfl (by exact k_167 hJ4.F) (by exact hJ4.1.2.2.2.1.1) ?_
    refine r_iload dX12_feed_86 rfl ?_
    refine r_bipush (24) dX12_feed_88 rfl ?_
    refine r_bipush (8) dX12_feed_90 rfl ?_
    refine r_iload dX12_feed_92 rfl ?_
    refine r_iconst (4) dX12_feed_94 rfl ?_
    refine r_irem dX12_feed_95 (by decide) ?_
    refine r_imul dX12_feed_96 ?_
    refine r_isub dX12_feed_97 ?_
    refine r_ishr dX12_feed_98 ?_
    refine r_sipush (255) dX12_feed_99 rfl ?_
    refine r_iand dX12_feed_102 ?_
    rw [show ((a0 >>> ((24 - 8 * (2 - (2) / 4 * 4)) &&& 31)) &&& 255 : Int32) = byt a0 2 from byt_eq (by omega) rfl]
    refine r_iastoren (tn + 2) (nI_cl _ (by omega)) dX12_feed_103 (by exact k_168 hJ4.F) (vin (by omega) (by omega)) ?_
    refine r_aload_n dX12_feed_104 rfl ?_
    refine r_dup dX12_feed_105 rfl ?_
    refine r_getIc (nI (tn + 2)) dX12_feed_106 fgX12_108 rfl (by exact k_167 hJ4.F) (by exact ld_n (by omega) hJ4.1.2.2.2.1.1) ?_
    refine r_iconst (1) dX12_feed_109 rfl ?_
    refine r_iadd dX12_feed_110 ?_
    refine r_putI dX12_feed_111 (fpX12_108 _ rfl) rfl (by exact k_167 hJ4.F) ⟨rfl, rfl⟩ ?_
    rw [nI_1]
    have hJ5 : RJ f fs ic (fdT tp tn a0 b0 c0 d0 e0) (tn + 3) pl n1 n2 ts m 0 (stI (stI M4 168 (tn + 2) (byt a0 2)) 167 1 (nI (tn + 2 + 1))) := hJ4.fd (v := byt a0 2) (by omega) (fdT_at (i := 2)).symm (byt_iv _ _)
    generalize stI (stI M4 168 (tn + 2) (byt a0 2)) 167 1 (nI (tn + 2 + 1)) = M5 at hJ5 ⊢
    clear hJ4
    refine ic_6 (1) dX12_feed_114 rfl rfl (Nat.le_of_ble_eq_true rfl) ?_
    refine r_goto 23 dX12_feed_117 rfl ?_
    rw [show ((2 : Int32) + 1) = 3 from rfl]
    refine r_iload dX12_feed_23 rfl ?_
    refine r_bipush (20) dX12_feed_25 rfl ?_
    refine r_icmp_ge 120 dX12_feed_27 rfl (fun hz => absurd hz (by decide)) (fun _ => ?_)
    refine r_iload dX12_feed_30 rfl ?_
    refine r_iconst (4) dX12_feed_32 rfl ?_
    refine r_icmp_ge 40 dX12_feed_33 rfl (fun hz => absurd hz (by decide)) (fun _ => ?_)
    refine r_iload_n dX12_feed_36 rfl ?_
    refine r_goto 76 dX12_feed_37 rfl ?_
    refine si_7 dX12_feed_76 rfl (Nat.le_of_ble_eq_true rfl) ?_
    refine r_aload_n dX12_feed_78 rfl ?_
    refine r_getRc dX12_feed_79 fgX12_15 rfl (by exact k_167 hJ5.F) (by exact r_167_10 hJ5.F) ?_
    refine r_aload_n dX12_feed_82 rfl ?_
    refine r_getIc (nI (tn + 3)) dX12_feed_83 fgX12_108 rfl (by exact k_167 hJ5.F) (by exact hJ5.1.2.2.2.1.1) ?_
    refine r_iload dX12_feed_86 rfl ?_
    refine r_bipush (24) dX12_feed_88 rfl ?_
    refine r_bipush (8) dX12_feed_90 rfl ?_
    refine r_iload dX12_feed_92 rfl ?_
    refine r_iconst (4) dX12_feed_94 rfl ?_
    refine r_irem dX12_feed_95 (by decide) ?_
    refine r_imul dX12_feed_96 ?_
    refine r_isub dX12_feed_97 ?_
    refine r_ishr dX12_feed_98 ?_
    refine r_sipush (255) dX12_feed_99 rfl ?_
    refine r_iand dX12_feed_102 ?_
    rw [show ((a0 >>> ((24 - 8 * (3 - (3) / 4 * 4)) &&& 31)) &&& 255 : Int32) = byt a0 3 from byt_eq (by omega) rfl]
    refine r_iastoren (tn + 3) (nI_cl _ (by omega)) dX12_feed_103 (by exact k_168 hJ5.F) (vin (by omega) (by omega)) ?_
    refine r_aload_n dX12_feed_104 rfl ?_
    refine r_dup dX12_feed_105 rfl ?_
    refine r_getIc (nI (tn + 3)) dX12_feed_106 fgX12_108 rfl (by exact k_167 hJ5.F) (by exact ld_n (by omega) hJ5.1.2.2.2.1.1) ?_
    refine r_iconst (1) dX12_feed_109 rfl ?_
    refine r_iadd dX12_feed_110 ?_
    refine r_putI dX12_feed_111 (fpX12_108 _ rfl) rfl (by exact k_167 hJ5.F) ⟨rfl, rfl⟩ ?_
    rw [nI_1]
    have hJ6 : RJ f fs ic (fdT tp tn a0 b0 c0 d0 e0) (tn + 4) pl n1 n2 ts m 0 (stI (stI M5 168 (tn + 3) (byt a0 3)) 167 1 (nI (tn + 3 + 1))) := hJ5.fd (v := byt a0 3) (by omega) (fdT_at (i := 3)).symm (byt_iv _ _)
    generalize stI (stI M5 168 (tn + 3) (byt a0 3)) 167 1 (nI (tn + 3 + 1)) = M6 at hJ6 ⊢
    clear hJ5
    refine ic_6 (1) dX12_feed_114 rfl rfl (Nat.le_of_ble_eq_true rfl) ?_
    refine r_goto 23 dX12_feed_117 rfl ?_
    rw [show ((3 : Int32) + 1) = 4 from rfl]
    refine r_iload dX12_feed_23 rfl ?_
    refine r_bipush (20) dX12_feed_25 rfl ?_
    refine r_icmp_ge 120 dX12_feed_27 rfl (fun hz => absurd hz (by decide)) (fun _ => ?_)
    refine r_iload dX12_feed_30 rfl ?_
    refine r_iconst (4) dX12_feed_32 rfl ?_
    refine r_icmp_ge 40 dX12_feed_33 rfl (fun _ => ?_) (fun hz => absurd hz (by decide))
    refine r_iload dX12_feed_40 rfl ?_
    refine r_bipush (8) dX12_feed_42 rfl ?_
    refine r_icmp_ge 51 dX12_feed_44 rfl (fun hz => absurd hz (by decide)) (fun _ => ?_)
    refine r_iload_n dX12_feed_47 rfl ?_
    refine r_goto 76 dX12_feed_48 rfl ?_
    refine si_7 dX12_feed_76 rfl (Nat.le_of_ble_eq_true rfl) ?_
    refine r_aload_n dX12_feed_78 rfl ?_
    refine r_getRc dX12_feed_79 fgX12_15 rfl (by exact k_167 hJ6.F) (by exact r_167_10 hJ6.F) ?_
    refine r_aload_n dX12_feed_82 rfl ?_
    refine r_getIc (nI (tn + 4)) dX12_feed_83 fgX12_108 rfl (by exact k_167 hJ6.F) (by exact hJ6.1.2.2.2.1.1) ?_
    refine r_iload dX12_feed_86 rfl ?_
    refine r_bipush (24) dX12_feed_88 rfl ?_
    refine r_bipush (8) dX12_feed_90 rfl ?_
    refine r_iload dX12_feed_92 rfl ?_
    refine r_iconst (4) dX12_feed_94 rfl ?_
    refine r_irem dX12_feed_95 (by decide) ?_
    refine r_imul dX12_feed_96 ?_
    refine r_isub dX12_feed_97 ?_
    refine r_ishr dX12_feed_98 ?_
    refine r_sipush (255) dX12_feed_99 rfl ?_
    refine r_iand dX12_feed_102 ?_
    rw [show ((b0 >>> ((24 - 8 * (4 - (4) / 4 * 4)) &&& 31)) &&& 255 : Int32) = byt b0 0 from byt_eq (by omega) rfl]
    refine r_iastoren (tn + 4) (nI_cl _ (by omega)) dX12_feed_103 (by exact k_168 hJ6.F) (vin (by omega) (by omega)) ?_
    refine r_aload_n dX12_feed_104 rfl ?_
    refine r_dup dX12_feed_105 rfl ?_
    refine r_getIc (nI (tn + 4)) dX12_feed_106 fgX12_108 rfl (by exact k_167 hJ6.F) (by exact ld_n (by omega) hJ6.1.2.2.2.1.1) ?_
    refine r_iconst (1) dX12_feed_109 rfl ?_
    refine r_iadd dX12_feed_110 ?_
    refine r_putI dX12_feed_111 (fpX12_108 _ rfl) rfl (by exact k_167 hJ6.F) ⟨rfl, rfl⟩ ?_
    rw [nI_1]
    have hJ7 : RJ f fs ic (fdT tp tn a0 b0 c0 d0 e0) (tn + 5) pl n1 n2 ts m 0 (stI (stI M6 168 (tn + 4) (byt b0 0)) 167 1 (nI (tn + 4 + 1))) := hJ6.fd (v := byt b0 0) (by omega) (fdT_at (i := 4)).symm (byt_iv _ _)
    generalize stI (stI M6 168 (tn + 4) (byt b0 0)) 167 1 (nI (tn + 4 + 1)) = M7 at hJ7 ⊢
    clear hJ6
    refine ic_6 (1) dX12_feed_114 rfl rfl (Nat.le_of_ble_eq_true rfl) ?_
    refine r_goto 23 dX12_feed_117 rfl ?_
    rw [show ((4 : Int32) + 1) = 5 from rfl]
    refine r_iload dX12_feed_23 rfl ?_
    refine r_bipush (20) dX12_feed_25 rfl ?_
    refine r_icmp_ge 120 dX12_feed_27 rfl (fun hz => absurd hz (by decide)) (fun _ => ?_)
    refine r_iload dX12_feed_30 rfl ?_
    refine r_iconst (4) dX12_feed_32 rfl ?_
    refine r_icmp_ge 40 dX12_feed_33 rfl (fun _ => ?_) (fun hz => absurd hz (by decide))
    refine r_iload dX12_feed_40 rfl ?_
    refine r_bipush (8) dX12_feed_42 rfl ?_
    refine r_icmp_ge 51 dX12_feed_44 rfl (fun hz => absurd hz (by decide)) (fun _ => ?_)
    refine r_iload_n dX12_feed_47 rfl ?_
    refine r_goto 76 dX12_feed_48 rfl ?_
    refine si_7 dX12_feed_76 rfl (Nat.le_of_ble_eq_true rfl) ?_
    refine r_aload_n dX12_feed_78 rfl ?_
    refine r_getRc dX12_feed_79 fgX12_15 rfl (by exact k_167 hJ7.F) (by exact r_167_10 hJ7.F) ?_
    refine r_aload_n dX12_feed_82 rfl ?_
    refine r_getIc (nI (tn + 5)) dX12_feed_83 fgX12_108 rfl (by exact k_167 hJ7.F) (by exact hJ7.1.2.2.2.1.1) ?_
    refine r_iload dX12_feed_86 rfl ?_
    refine r_bipush (24) dX12_feed_88 rfl ?_
    refine r_bipush (8) dX12_feed_90 rfl ?_
    refine r_iload dX12_feed_92 rfl ?_
    refine r_iconst (4) dX12_feed_94 rfl ?_
    refine r_irem dX12_feed_95 (by decide) ?_
    refine r_imul dX12_feed_96 ?_
    refine r_isub dX12_feed_97 ?_
    refine r_ishr dX12_feed_98 ?_
    refine r_sipush (255) dX12_feed_99 rfl ?_
    refine r_iand dX12_feed_102 ?_
    rw [show ((b0 >>> ((24 - 8 * (5 - (5) / 4 * 4)) &&& 31)) &&& 255 : Int32) = byt b0 1 from byt_eq (by omega) rfl]
    refine r_iastoren (tn + 5) (nI_cl _ (by omega)) dX12_feed_103 (by exact k_168 hJ7.F) (vin (by omega) (by omega)) ?_
    refine r_aload_n dX12_feed_104 rfl ?_
    refine r_dup dX12_feed_105 rfl ?_
    refine r_getIc (nI (tn + 5)) dX12_feed_106 fgX12_108 rfl (by exact k_167 hJ7.F) (by exact ld_n (by omega) hJ7.1.2.2.2.1.1) ?_
    refine r_iconst (1) dX12_feed_109 rfl ?_
    refine r_iadd dX12_feed_110 ?_
    refine r_putI dX12_feed_111 (fpX12_108 _ rfl) rfl (by exact k_167 hJ7.F) ⟨rfl, rfl⟩ ?_
    rw [nI_1]
    have hJ8 : RJ f fs ic (fdT tp tn a0 b0 c0 d0 e0) (tn + 6) pl n1 n2 ts m 0 (stI (stI M7 168 (tn + 5) (byt b0 1)) 167 1 (nI (tn + 5 + 1))) := hJ7.fd (v := byt b0 1) (by omega) (fdT_at (i := 5)).symm (byt_iv _ _)
    generalize stI (stI M7 168 (tn + 5) (byt b0 1)) 167 1 (nI (tn + 5 + 1)) = M8 at hJ8 ⊢
    clear hJ7
    refine ic_6 (1) dX12_feed_114 rfl rfl (Nat.le_of_ble_eq_true rfl) ?_
    refine r_goto 23 dX12_feed_117 rfl ?_
    rw [show ((5 : Int32) + 1) = 6 from rfl]
    refine r_iload dX12_feed_23 rfl ?_
    refine r_bipush (20) dX12_feed_25 rfl ?_
    refine r_icmp_ge 120 dX12_feed_27 rfl (fun hz => absurd hz (by decide)) (fun _ => ?_)
    refine r_iload dX12_feed_30 rfl ?_
    refine r_iconst (4) dX12_feed_32 rfl ?_
    refine r_icmp_ge 40 dX12_feed_33 rfl (fun _ => ?_) (fun hz => absurd hz (by decide))
    refine r_iload dX12_feed_40 rfl ?_
    refine r_bipush (8) dX12_feed_42 rfl ?_
    refine r_icmp_ge 51 dX12_feed_44 rfl (fun hz => absurd hz (by decide)) (fun _ => ?_)
    refine r_iload_n dX12_feed_47 rfl ?_
    refine r_goto 76 dX12_feed_48 rfl ?_
    refine si_7 dX12_feed_76 rfl (Nat.le_of_ble_eq_true rfl) ?_
    refine r_aload_n dX12_feed_78 rfl ?_
    refine r_getRc dX12_feed_79 fgX12_15 rfl (by exact k_167 hJ8.F) (by exact r_167_10 hJ8.F) ?_
    refine r_aload_n dX12_feed_82 rfl ?_
    refine r_getIc (nI (tn + 6)) dX12_feed_83 fgX12_108 rfl (by exact k_167 hJ8.F) (by exact hJ8.1.2.2.2.1.1) ?_
    refine r_iload dX12_feed_86 rfl ?_
    refine r_bipush (24) dX12_feed_88 rfl ?_
    refine r_bipush (8) dX12_feed_90 rfl ?_
    refine r_iload dX12_feed_92 rfl ?_
    refine r_iconst (4) dX12_feed_94 rfl ?_
    refine r_irem dX12_feed_95 (by decide) ?_
    refine r_imul dX12_feed_96 ?_
    refine r_isub dX12_feed_97 ?_
    refine r_ishr dX12_feed_98 ?_
    refine r_sipush (255) dX12_feed_99 rfl ?_
    refine r_iand dX12_feed_102 ?_
    rw [show ((b0 >>> ((24 - 8 * (6 - (6) / 4 * 4)) &&& 31)) &&& 255 : Int32) = byt b0 2 from byt_eq (by omega) rfl]
    refine r_iastoren (tn + 6) (nI_cl _ (by omega)) dX12_feed_103 (by exact k_168 hJ8.F) (vin (by omega) (by omega)) ?_
    refine r_aload_n dX12_feed_104 rfl ?_
    refine r_dup dX12_feed_105 rfl ?_
    refine r_getIc (nI (tn + 6)) dX12_feed_106 fgX12_108 rfl (by exact k_167 hJ8.F) (by exact ld_n (by omega) hJ8.1.2.2.2.1.1) ?_
    refine r_iconst (1) dX12_feed_109 rfl ?_
    refine r_iadd dX12_feed_110 ?_
    refine r_putI dX12_feed_111 (fpX12_108 _ rfl) rfl (by exact k_167 hJ8.F) ⟨rfl, rfl⟩ ?_
    rw [nI_1]
    have hJ9 : RJ f fs ic (fdT tp tn a0 b0 c0 d0 e0) (tn + 7) pl n1 n2 ts m 0 (stI (stI M8 168 (tn + 6) (byt b0 2)) 167 1 (nI (tn + 6 + 1))) := hJ8.fd (v := byt b0 2) (by omega) (fdT_at (i := 6)).symm (byt_iv _ _)
    generalize stI (stI M8 168 (tn + 6) (byt b0 2)) 167 1 (nI (tn + 6 + 1)) = M9 at hJ9 ⊢
    clear hJ8
    refine ic_6 (1) dX12_feed_114 rfl rfl (Nat.le_of_ble_eq_true rfl) ?_
    refine r_goto 23 dX12_feed_117 rfl ?_
    rw [show ((6 : Int32) + 1) = 7 from rfl]
    refine r_iload dX12_feed_23 rfl ?_
    refine r_bipush (20) dX12_feed_25 rfl ?_
    refine r_icmp_ge 120 dX12_feed_27 rfl (fun hz => absurd hz (by decide)) (fun _ => ?_)
    refine r_iload dX12_feed_30 rfl ?_
    refine r_iconst (4) dX12_feed_32 rfl ?_
    refine r_icmp_ge 40 dX12_feed_33 rfl (fun _ => ?_) (fun hz => absurd hz (by decide))
    refine r_iload dX12_feed_40 rfl ?_
    refine r_bipush (8) dX12_feed_42 rfl ?_
    refine r_icmp_ge 51 dX12_feed_44 rfl (fun hz => absurd hz (by decide)) (fun _ => ?_)
    refine r_iload_n dX12_feed_47 rfl ?_
    refine r_goto 76 dX12_feed_48 rfl ?_
    refine si_7 dX12_feed_76 rfl (Nat.le_of_ble_eq_true rfl) ?_
    refine r_aload_n dX12_feed_78 rfl ?_
    refine r_getRc dX12_feed_79 fgX12_15 rfl (by exact k_167 hJ9.F) (by exact r_167_10 hJ9.F) ?_
    refine r_aload_n dX12_feed_82 rfl ?_
    refine r_getIc (nI (tn + 7)) dX12_feed_83 fgX12_108 rfl (by exact k_167 hJ9.F) (by exact hJ9.1.2.2.2.1.1) ?_
    refine r_iload dX12_feed_86 rfl ?_
    refine r_bipush (24) dX12_feed_88 rfl ?_
    refine r_bipush (8) dX12_feed_90 rfl ?_
    refine r_iload dX12_feed_92 rfl ?_
    refine r_iconst (4) dX12_feed_94 rfl ?_
    refine r_irem dX12_feed_95 (by decide) ?_
    refine r_imul dX12_feed_96 ?_
    refine r_isub dX12_feed_97 ?_
    refine r_ishr dX12_feed_98 ?_
    refine r_sipush (255) dX12_feed_99 rfl ?_
    refine r_iand dX12_feed_102 ?_
    rw [show ((b0 >>> ((24 - 8 * (7 - (7) / 4 * 4)) &&& 31)) &&& 255 : Int32) = byt b0 3 from byt_eq (by omega) rfl]
    refine r_iastoren (tn + 7) (nI_cl _ (by omega)) dX12_feed_103 (by exact k_168 hJ9.F) (vin (by omega) (by omega)) ?_
    refine r_aload_n dX12_feed_104 rfl ?_
    refine r_dup dX12_feed_105 rfl ?_
    refine r_getIc (nI (tn + 7)) dX12_feed_106 fgX12_108 rfl (by exact k_167 hJ9.F) (by exact ld_n (by omega) hJ9.1.2.2.2.1.1) ?_
    refine r_iconst (1) dX12_feed_109 rfl ?_
    refine r_iadd dX12_feed_110 ?_
    refine r_putI dX12_feed_111 (fpX12_108 _ rfl) rfl (by exact k_167 hJ9.F) ⟨rfl, rfl⟩ ?_
    rw [nI_1]
    have hJ10 : RJ f fs ic (fdT tp tn a0 b0 c0 d0 e0) (tn + 8) pl n1 n2 ts m 0 (stI (stI M9 168 (tn + 7) (byt b0 3)) 167 1 (nI (tn + 7 + 1))) := hJ9.fd (v := byt b0 3) (by omega) (fdT_at (i := 7)).symm (byt_iv _ _)
    generalize stI (stI M9 168 (tn + 7) (byt b0 3)) 167 1 (nI (tn + 7 + 1)) = M10 at hJ10 ⊢
    clear hJ9
    refine ic_6 (1) dX12_feed_114 rfl rfl (Nat.le_of_ble_eq_true rfl) ?_
    refine r_goto 23 dX12_feed_117 rfl ?_
    rw [show ((7 : Int32) + 1) = 8 from rfl]
    refine r_iload dX12_feed_23 rfl ?_
    refine r_bipush (20) dX12_feed_25 rfl ?_
    refine r_icmp_ge 120 dX12_feed_27 rfl (fun hz => absurd hz (by decide)) (fun _ => ?_)
    refine r_iload dX12_feed_30 rfl ?_
    refine r_iconst (4) dX12_feed_32 rfl ?_
    refine r_icmp_ge 40 dX12_feed_33 rfl (fun _ => ?_) (fun hz => absurd hz (by decide))
    refine r_iload dX12_feed_40 rfl ?_
    refine r_bipush (8) dX12_feed_42 rfl ?_
    refine r_icmp_ge 51 dX12_feed_44 rfl (fun _ => ?_) (fun hz => absurd hz (by decide))
    refine r_iload dX12_feed_51 rfl ?_
    refine r_bipush (12) dX12_feed_53 rfl ?_
    refine r_icmp_ge 62 dX12_feed_55 rfl (fun hz => absurd hz (by decide)) (fun _ => ?_)
    refine r_iload_n dX12_feed_58 rfl ?_
    refine r_goto 76 dX12_feed_59 rfl ?_
    refine si_7 dX12_feed_76 rfl (Nat.le_of_ble_eq_true rfl) ?_
    refine r_aload_n dX12_feed_78 rfl ?_
    refine r_getRc dX12_feed_79 fgX12_15 rfl (by exact k_167 hJ10.F) (by exact r_167_10 hJ10.F) ?_
    refine r_aload_n dX12_feed_82 rfl ?_
    refine r_getIc (nI (tn + 8)) dX12_feed_83 fgX12_108 rfl (by exact k_167 hJ10.F) (by exact hJ10.1.2.2.2.1.1) ?_
    refine r_iload dX12_feed_86 rfl ?_
    refine r_bipush (24) dX12_feed_88 rfl ?_
    refine r_bipush (8) dX12_feed_90 rfl ?_
    refine r_iload dX12_feed_92 rfl ?_
    refine r_iconst (4) dX12_feed_94 rfl ?_
    refine r_irem dX12_feed_95 (by decide) ?_
    refine r_imul dX12_feed_96 ?_
    refine r_isub dX12_feed_97 ?_
    refine r_ishr dX12_feed_98 ?_
    refine r_sipush (255) dX12_feed_99 rfl ?_
    refine r_iand dX12_feed_102 ?_
    rw [show ((c0 >>> ((24 - 8 * (8 - (8) / 4 * 4)) &&& 31)) &&& 255 : Int32) = byt c0 0 from byt_eq (by omega) rfl]
    refine r_iastoren (tn + 8) (nI_cl _ (by omega)) dX12_feed_103 (by exact k_168 hJ10.F) (vin (by omega) (by omega)) ?_
    refine r_aload_n dX12_feed_104 rfl ?_
    refine r_dup dX12_feed_105 rfl ?_
    refine r_getIc (nI (tn + 8)) dX12_feed_106 fgX12_108 rfl (by exact k_167 hJ10.F) (by exact ld_n (by omega) hJ10.1.2.2.2.1.1) ?_
    refine r_iconst (1) dX12_feed_109 rfl ?_
    refine r_iadd dX12_feed_110 ?_
    refine r_putI dX12_feed_111 (fpX12_108 _ rfl) rfl (by exact k_167 hJ10.F) ⟨rfl, rfl⟩ ?_
    rw [nI_1]
    have hJ11 : RJ f fs ic (fdT tp tn a0 b0 c0 d0 e0) (tn + 9) pl n1 n2 ts m 0 (stI (stI M10 168 (tn + 8) (byt c0 0)) 167 1 (nI (tn + 8 + 1))) := hJ10.fd (v := byt c0 0) (by omega) (fdT_at (i := 8)).symm (byt_iv _ _)
    generalize stI (stI M10 168 (tn + 8) (byt c0 0)) 167 1 (nI (tn + 8 + 1)) = M11 at hJ11 ⊢
    clear hJ10
    refine ic_6 (1) dX12_feed_114 rfl rfl (Nat.le_of_ble_eq_true rfl) ?_
    refine r_goto 23 dX12_feed_117 rfl ?_
    rw [show ((8 : Int32) + 1) = 9 from rfl]
    refine r_iload dX12_feed_23 rfl ?_
    refine r_bipush (20) dX12_feed_25 rfl ?_
    refine r_icmp_ge 120 dX12_feed_27 rfl (fun hz => absurd hz (by decide)) (fun _ => ?_)
    refine r_iload dX12_feed_30 rfl ?_
    refine r_iconst (4) dX12_feed_32 rfl ?_
    refine r_icmp_ge 40 dX12_feed_33 rfl (fun _ => ?_) (fun hz => absurd hz (by decide))
    refine r_iload dX12_feed_40 rfl ?_
    refine r_bipush (8) dX12_feed_42 rfl ?_
    refine r_icmp_ge 51 dX12_feed_44 rfl (fun _ => ?_) (fun hz => absurd hz (by decide))
    refine r_iload dX12_feed_51 rfl ?_
    refine r_bipush (12) dX12_feed_53 rfl ?_
    refine r_icmp_ge 62 dX12_feed_55 rfl (fun hz => absurd hz (by decide)) (fun _ => ?_)
    refine r_iload_n dX12_feed_58 rfl ?_
    refine r_goto 76 dX12_feed_59 rfl ?_
    refine si_7 dX12_feed_76 rfl (Nat.le_of_ble_eq_true rfl) ?_
    refine r_aload_n dX12_feed_78 rfl ?_
    refine r_getRc dX12_feed_79 fgX12_15 rfl (by exact k_167 hJ11.F) (by exact r_167_10 hJ11.F) ?_
    refine r_aload_n dX12_feed_82 rfl ?_
    refine r_getIc (nI (tn + 9)) dX12_feed_83 fgX12_108 rfl (by exact k_167 hJ11.F) (by exact hJ11.1.2.2.2.1.1) ?_
    refine r_iload dX12_feed_86 rfl ?_
    refine r_bipush (24) dX12_feed_88 rfl ?_
    refine r_bipush (8) dX12_feed_90 rfl ?_
    refine r_iload dX12_feed_92 rfl ?_
    refine r_iconst (4) dX12_feed_94 rfl ?_
    refine r_irem dX12_feed_95 (by decide) ?_
    refine r_imul dX12_feed_96 ?_
    refine r_isub dX12_feed_97 ?_
    refine r_ishr dX12_feed_98 ?_
    refine r_sipush (255) dX12_feed_99 rfl ?_
    refine r_iand dX12_feed_102 ?_
    rw [show ((c0 >>> ((24 - 8 * (9 - (9) / 4 * 4)) &&& 31)) &&& 255 : Int32) = byt c0 1 from byt_eq (by omega) rfl]
    refine r_iastoren (tn + 9) (nI_cl _ (by omega)) dX12_feed_103 (by exact k_168 hJ11.F) (vin (by omega) (by omega)) ?_
    refine r_aload_n dX12_feed_104 rfl ?_
    refine r_dup dX12_feed_105 rfl ?_
    refine r_getIc (nI (tn + 9)) dX12_feed_106 fgX12_108 rfl (by exact k_167 hJ11.F) (by exact ld_n (by omega) hJ11.1.2.2.2.1.1) ?_
    refine r_iconst (1) dX12_feed_109 rfl ?_
    refine r_iadd dX12_feed_110 ?_
    refine r_putI dX12_feed_111 (fpX12_108 _ rfl) rfl (by exact k_167 hJ11.F) ⟨rfl, rfl⟩ ?_
    rw [nI_1]
    have hJ12 : RJ f fs ic (fdT tp tn a0 b0 c0 d0 e0) (tn + 10) pl n1 n2 ts m 0 (stI (stI M11 168 (tn + 9) (byt c0 1)) 167 1 (nI (tn + 9 + 1))) := hJ11.fd (v := byt c0 1) (by omega) (fdT_at (i := 9)).symm (byt_iv _ _)
    generalize stI (stI M11 168 (tn + 9) (byt c0 1)) 167 1 (nI (tn + 9 + 1)) = M12 at hJ12 ⊢
    clear hJ11
    refine ic_6 (1) dX12_feed_114 rfl rfl (Nat.le_of_ble_eq_true rfl) ?_
    refine r_goto 23 dX12_feed_117 rfl ?_
    rw [show ((9 : Int32) + 1) = 10 from rfl]
    refine r_iload dX12_feed_23 rfl ?_
    refine r_bipush (20) dX12_feed_25 rfl ?_
    refine r_icmp_ge 120 dX12_feed_27 rfl (fun hz => absurd hz (by decide)) (fun _ => ?_)
    refine r_iload dX12_feed_30 rfl ?_
    refine r_iconst (4) dX12_feed_32 rfl ?_
    refine r_icmp_ge 40 dX12_feed_33 rfl (fun _ => ?_) (fun hz => absurd hz (by decide))
    refine r_iload dX12_feed_40 rfl ?_
    refine r_bipush (8) dX12_feed_42 rfl ?_
    refine r_icmp_ge 51 dX12_feed_44 rfl (fun _ => ?_) (fun hz => absurd hz (by decide))
    refine r_iload dX12_feed_51 rfl ?_
    refine r_bipush (12) dX12_feed_53 rfl ?_
    refine r_icmp_ge 62 dX12_feed_55 rfl (fun hz => absurd hz (by decide)) (fun _ => ?_)
    refine r_iload_n dX12_feed_58 rfl ?_
    refine r_goto 76 dX12_feed_59 rfl ?_
    refine si_7 dX12_feed_76 rfl (Nat.le_of_ble_eq_true rfl) ?_
    refine r_aload_n dX12_feed_78 rfl ?_
    refine r_getRc dX12_feed_79 fgX12_15 rfl (by exact k_167 hJ12.F) (by exact r_167_10 hJ12.F) ?_
    refine r_aload_n dX12_feed_82 rfl ?_
    refine r_getIc (nI (tn + 10)) dX12_feed_83 fgX12_108 rfl (by exact k_167 hJ12.F) (by exact hJ12.1.2.2.2.1.1) ?_
    refine r_iload dX12_feed_86 rfl ?_
    refine r_bipush (24) dX12_feed_88 rfl ?_
    refine r_bipush (8) dX12_feed_90 rfl ?_
    refine r_iload dX12_feed_92 rfl ?_
    refine r_iconst (4) dX12_feed_94 rfl ?_
    refine r_irem dX12_feed_95 (by decide) ?_
    refine r_imul dX12_feed_96 ?_
    refine r_isub dX12_feed_97 ?_
    refine r_ishr dX12_feed_98 ?_
    refine r_sipush (255) dX12_feed_99 rfl ?_
    refine r_iand dX12_feed_102 ?_
    rw [show ((c0 >>> ((24 - 8 * (10 - (10) / 4 * 4)) &&& 31)) &&& 255 : Int32) = byt c0 2 from byt_eq (by omega) rfl]
    refine r_iastoren (tn + 10) (nI_cl _ (by omega)) dX12_feed_103 (by exact k_168 hJ12.F) (vin (by omega) (by omega)) ?_
    refine r_aload_n dX12_feed_104 rfl ?_
    refine r_dup dX12_feed_105 rfl ?_
    refine r_getIc (nI (tn + 10)) dX12_feed_106 fgX12_108 rfl (by exact k_167 hJ12.F) (by exact ld_n (by omega) hJ12.1.2.2.2.1.1) ?_
    refine r_iconst (1) dX12_feed_109 rfl ?_
    refine r_iadd dX12_feed_110 ?_
    refine r_putI dX12_feed_111 (fpX12_108 _ rfl) rfl (by exact k_167 hJ12.F) ⟨rfl, rfl⟩ ?_
    rw [nI_1]
    have hJ13 : RJ f fs ic (fdT tp tn a0 b0 c0 d0 e0) (tn + 11) pl n1 n2 ts m 0 (stI (stI M12 168 (tn + 10) (byt c0 2)) 167 1 (nI (tn + 10 + 1))) := hJ12.fd (v := byt c0 2) (by omega) (fdT_at (i := 10)).symm (byt_iv _ _)
    generalize stI (stI M12 168 (tn + 10) (byt c0 2)) 167 1 (nI (tn + 10 + 1)) = M13 at hJ13 ⊢
    clear hJ12
    refine ic_6 (1) dX12_feed_114 rfl rfl (Nat.le_of_ble_eq_true rfl) ?_
    refine r_goto 23 dX12_feed_117 rfl ?_
    rw [show ((10 : Int32) + 1) = 11 from rfl]
    refine r_iload dX12_feed_23 rfl ?_
    refine r_bipush (20) dX12_feed_25 rfl ?_
    refine r_icmp_ge 120 dX12_feed_27 rfl (fun hz => absurd hz (by decide)) (fun _ => ?_)
    refine r_iload dX12_feed_30 rfl ?_
    refine r_iconst (4) dX12_feed_32 rfl ?_
    refine r_icmp_ge 40 dX12_feed_33 rfl (fun _ => ?_) (fun hz => absurd hz (by decide))
    refine r_iload dX12_feed_40 rfl ?_
    refine r_bipush (8) dX12_feed_42 rfl ?_
    refine r_icmp_ge 51 dX12_feed_44 rfl (fun _ => ?_) (fun hz => absurd hz (by decide))
    refine r_iload dX12_feed_51 rfl ?_
    refine r_bipush (12) dX12_feed_53 rfl ?_
    refine r_icmp_ge 62 dX12_feed_55 rfl (fun hz => absurd hz (by decide)) (fun _ => ?_)
    refine r_iload_n dX12_feed_58 rfl ?_
    refine r_goto 76 dX12_feed_59 rfl ?_
    refine si_7 dX12_feed_76 rfl (Nat.le_of_ble_eq_true rfl) ?_
    refine r_aload_n dX12_feed_78 rfl ?_
    refine r_getRc dX12_feed_79 fgX12_15 rfl (by exact k_167 hJ13.F) (by exact r_167_10 hJ13.F) ?_
    refine r_aload_n dX12_feed_82 rfl ?_
    refine r_getIc (nI (tn + 11)) dX12_feed_83 fgX12_108 rfl (by exact k_167 hJ13.F) (by exact hJ13.1.2.2.2.1.1) ?_
    refine r_iload dX12_feed_86 rfl ?_
    refine r_bipush (24) dX12_feed_88 rfl ?_
    refine r_bipush (8) dX12_feed_90 rfl ?_
    refine r_iload dX12_feed_92 rfl ?_
    refine r_iconst (4) dX12_feed_94 rfl ?_
    refine r_irem dX12_feed_95 (by decide) ?_
    refine r_imul dX12_feed_96 ?_
    refine r_isub dX12_feed_97 ?_
    refine r_ishr dX12_feed_98 ?_
    refine r_sipush (255) dX12_feed_99 rfl ?_
    refine r_iand dX12_feed_102 ?_
    rw [show ((c0 >>> ((24 - 8 * (11 - (11) / 4 * 4)) &&& 31)) &&& 255 : Int32) = byt c0 3 from byt_eq (by omega) rfl]
    refine r_iastoren (tn + 11) (nI_cl _ (by omega)) dX12_feed_103 (by exact k_168 hJ13.F) (vin (by omega) (by omega)) ?_
    refine r_aload_n dX12_feed_104 rfl ?_
    refine r_dup dX12_feed_105 rfl ?_
    refine r_getIc (nI (tn + 11)) dX12_feed_106 fgX12_108 rfl (by exact k_167 hJ13.F) (by exact ld_n (by omega) hJ13.1.2.2.2.1.1) ?_
    refine r_iconst (1) dX12_feed_109 rfl ?_
    refine r_iadd dX12_feed_110 ?_
    refine r_putI dX12_feed_111 (fpX12_108 _ rfl) rfl (by exact k_167 hJ13.F) ⟨rfl, rfl⟩ ?_
    rw [nI_1]
    have hJ14 : RJ f fs ic (fdT tp tn a0 b0 c0 d0 e0) (tn + 12) pl n1 n2 ts m 0 (stI (stI M13 168 (tn + 11) (byt c0 3)) 167 1 (nI (tn + 11 + 1))) := hJ13.fd (v := byt c0 3) (by omega) (fdT_at (i := 11)).symm (byt_iv _ _)
    generalize stI (stI M13 168 (tn + 11) (byt c0 3)) 167 1 (nI (tn + 11 + 1)) = M14 at hJ14 ⊢
    clear hJ13
    refine ic_6 (1) dX12_feed_114 rfl rfl (Nat.le_of_ble_eq_true rfl) ?_
    refine r_goto 23 dX12_feed_117 rfl ?_
    rw [show ((11 : Int32) + 1) = 12 from rfl]
    refine r_iload dX12_feed_23 rfl ?_
    refine r_bipush (20) dX12_feed_25 rfl ?_
    refine r_icmp_ge 120 dX12_feed_27 rfl (fun hz => absurd hz (by decide)) (fun _ => ?_)
    refine r_iload dX12_feed_30 rfl ?_
    refine r_iconst (4) dX12_feed_32 rfl ?_
    refine r_icmp_ge 40 dX12_feed_33 rfl (fun _ => ?_) (fun hz => absurd hz (by decide))
    refine r_iload dX12_feed_40 rfl ?_
    refine r_bipush (8) dX12_feed_42 rfl ?_
    refine r_icmp_ge 51 dX12_feed_44 rfl (fun _ => ?_) (fun hz => absurd hz (by decide))
    refine r_iload dX12_feed_51 rfl ?_
    refine r_bipush (12) dX12_feed_53 rfl ?_
    refine r_icmp_ge 62 dX12_feed_55 rfl (fun _ => ?_) (fun hz => absurd hz (by decide))
    refine r_iload dX12_feed_62 rfl ?_
    refine r_bipush (16) dX12_feed_64 rfl ?_
    refine r_icmp_ge 74 dX12_feed_66 rfl (fun hz => absurd hz (by decide)) (fun _ => ?_)
    refine r_iload dX12_feed_69 rfl ?_
    refine r_goto 76 dX12_feed_71 rfl ?_
    refine si_7 dX12_feed_76 rfl (Nat.le_of_ble_eq_true rfl) ?_
    refine r_aload_n dX12_feed_78 rfl ?_
    refine r_getRc dX12_feed_79 fgX12_15 rfl (by exact k_167 hJ14.F) (by exact r_167_10 hJ14.F) ?_
    refine r_aload_n dX12_feed_82 rfl ?_
    refine r_getIc (nI (tn + 12)) dX12_feed_83 fgX12_108 rfl (by exact k_167 hJ14.F) (by exact hJ14.1.2.2.2.1.1) ?_
    refine r_iload dX12_feed_86 rfl ?_
    refine r_bipush (24) dX12_feed_88 rfl ?_
    refine r_bipush (8) dX12_feed_90 rfl ?_
    refine r_iload dX12_feed_92 rfl ?_
    refine r_iconst (4) dX12_feed_94 rfl ?_
    refine r_irem dX12_feed_95 (by decide) ?_
    refine r_imul dX12_feed_96 ?_
    refine r_isub dX12_feed_97 ?_
    refine r_ishr dX12_feed_98 ?_
    refine r_sipush (255) dX12_feed_99 rfl ?_
    refine r_iand dX12_feed_102 ?_
    rw [show ((d0 >>> ((24 - 8 * (12 - (12) / 4 * 4)) &&& 31)) &&& 255 : Int32) = byt d0 0 from byt_eq (by omega) rfl]
    refine r_iastoren (tn + 12) (nI_cl _ (by omega)) dX12_feed_103 (by exact k_168 hJ14.F) (vin (by omega) (by omega)) ?_
    refine r_aload_n dX12_feed_104 rfl ?_
    refine r_dup dX12_feed_105 rfl ?_
    refine r_getIc (nI (tn + 12)) dX12_feed_106 fgX12_108 rfl (by exact k_167 hJ14.F) (by exact ld_n (by omega) hJ14.1.2.2.2.1.1) ?_
    refine r_iconst (1) dX12_feed_109 rfl ?_
    refine r_iadd dX12_feed_110 ?_
    refine r_putI dX12_feed_111 (fpX12_108 _ rfl) rfl (by exact k_167 hJ14.F) ⟨rfl, rfl⟩ ?_
    rw [nI_1]
    have hJ15 : RJ f fs ic (fdT tp tn a0 b0 c0 d0 e0) (tn + 13) pl n1 n2 ts m 0 (stI (stI M14 168 (tn + 12) (byt d0 0)) 167 1 (nI (tn + 12 + 1))) := hJ14.fd (v := byt d0 0) (by omega) (fdT_at (i := 12)).symm (byt_iv _ _)
    generalize stI (stI M14 168 (tn + 12) (byt d0 0)) 167 1 (nI (tn + 12 + 1)) = M15 at hJ15 ⊢
    clear hJ14
    refine ic_6 (1) dX12_feed_114 rfl rfl (Nat.le_of_ble_eq_true rfl) ?_
    refine r_goto 23 dX12_feed_117 rfl ?_
    rw [show ((12 : Int32) + 1) = 13 from rfl]
    refine r_iload dX12_feed_23 rfl ?_
    refine r_bipush (20) dX12_feed_25 rfl ?_
    refine r_icmp_ge 120 dX12_feed_27 rfl (fun hz => absurd hz (by decide)) (fun _ => ?_)
    refine r_iload dX12_feed_30 rfl ?_
    refine r_iconst (4) dX12_feed_32 rfl ?_
    refine r_icmp_ge 40 dX12_feed_33 rfl (fun _ => ?_) (fun hz => absurd hz (by decide))
    refine r_iload dX12_feed_40 rfl ?_
    refine r_bipush (8) dX12_feed_42 rfl ?_
    refine r_icmp_ge 51 dX12_feed_44 rfl (fun _ => ?_) (fun hz => absurd hz (by decide))
    refine r_iload dX12_feed_51 rfl ?_
    refine r_bipush (12) dX12_feed_53 rfl ?_
    refine r_icmp_ge 62 dX12_feed_55 rfl (fun _ => ?_) (fun hz => absurd hz (by decide))
    refine r_iload dX12_feed_62 rfl ?_
    refine r_bipush (16) dX12_feed_64 rfl ?_
    refine r_icmp_ge 74 dX12_feed_66 rfl (fun hz => absurd hz (by decide)) (fun _ => ?_)
    refine r_iload dX12_feed_69 rfl ?_
    refine r_goto 76 dX12_feed_71 rfl ?_
    refine si_7 dX12_feed_76 rfl (Nat.le_of_ble_eq_true rfl) ?_
    refine r_aload_n dX12_feed_78 rfl ?_
    refine r_getRc dX12_feed_79 fgX12_15 rfl (by exact k_167 hJ15.F) (by exact r_167_10 hJ15.F) ?_
    refine r_aload_n dX12_feed_82 rfl ?_
    refine r_getIc (nI (tn + 13)) dX12_feed_83 fgX12_108 rfl (by exact k_167 hJ15.F) (by exact hJ15.1.2.2.2.1.1) ?_
    refine r_iload dX12_feed_86 rfl ?_
    refine r_bipush (24) dX12_feed_88 rfl ?_
    refine r_bipush (8) dX12_feed_90 rfl ?_
    refine r_iload dX12_feed_92 rfl ?_
    refine r_iconst (4) dX12_feed_94 rfl ?_
    refine r_irem dX12_feed_95 (by decide) ?_
    refine r_imul dX12_feed_96 ?_
    refine r_isub dX12_feed_97 ?_
    refine r_ishr dX12_feed_98 ?_
    refine r_sipush (255) dX12_feed_99 rfl ?_
    refine r_iand dX12_feed_102 ?_
    rw [show ((d0 >>> ((24 - 8 * (13 - (13) / 4 * 4)) &&& 31)) &&& 255 : Int32) = byt d0 1 from byt_eq (by omega) rfl]
    refine r_iastoren (tn + 13) (nI_cl _ (by omega)) dX12_feed_103 (by exact k_168 hJ15.F) (vin (by omega) (by omega)) ?_
    refine r_aload_n dX12_feed_104 rfl ?_
    refine r_dup dX12_feed_105 rfl ?_
    refine r_getIc (nI (tn + 13)) dX12_feed_106 fgX12_108 rfl (by exact k_167 hJ15.F) (by exact ld_n (by omega) hJ15.1.2.2.2.1.1) ?_
    refine r_iconst (1) dX12_feed_109 rfl ?_
    refine r_iadd dX12_feed_110 ?_
    refine r_putI dX12_feed_111 (fpX12_108 _ rfl) rfl (by exact k_167 hJ15.F) ⟨rfl, rfl⟩ ?_
    rw [nI_1]
    have hJ16 : RJ f fs ic (fdT tp tn a0 b0 c0 d0 e0) (tn + 14) pl n1 n2 ts m 0 (stI (stI M15 168 (tn + 13) (byt d0 1)) 167 1 (nI (tn + 13 + 1))) := hJ15.fd (v := byt d0 1) (by omega) (fdT_at (i := 13)).symm (byt_iv _ _)
    generalize stI (stI M15 168 (tn + 13) (byt d0 1)) 167 1 (nI (tn + 13 + 1)) = M16 at hJ16 ⊢
    clear hJ15
    refine ic_6 (1) dX12_feed_114 rfl rfl (Nat.le_of_ble_eq_true rfl) ?_
    refine r_goto 23 dX12_feed_117 rfl ?_
    rw [show ((13 : Int32) + 1) = 14 from rfl]
    refine r_iload dX12_feed_23 rfl ?_
    refine r_bipush (20) dX12_feed_25 rfl ?_
    refine r_icmp_ge 120 dX12_feed_27 rfl (fun hz => absurd hz (by decide)) (fun _ => ?_)
    refine r_iload dX12_feed_30 rfl ?_
    refine r_iconst (4) dX12_feed_32 rfl ?_
    refine r_icmp_ge 40 dX12_feed_33 rfl (fun _ => ?_) (fun hz => absurd hz (by decide))
    refine r_iload dX12_feed_40 rfl ?_
    refine r_bipush (8) dX12_feed_42 rfl ?_
    refine r_icmp_ge 51 dX12_feed_44 rfl (fun _ => ?_) (fun hz => absurd hz (by decide))
    refine r_iload dX12_feed_51 rfl ?_
    refine r_bipush (12) dX12_feed_53 rfl ?_
    refine r_icmp_ge 62 dX12_feed_55 rfl (fun _ => ?_) (fun hz => absurd hz (by decide))
    refine r_iload dX12_feed_62 rfl ?_
    refine r_bipush (16) dX12_feed_64 rfl ?_
    refine r_icmp_ge 74 dX12_feed_66 rfl (fun hz => absurd hz (by decide)) (fun _ => ?_)
    refine r_iload dX12_feed_69 rfl ?_
    refine r_goto 76 dX12_feed_71 rfl ?_
    refine si_7 dX12_feed_76 rfl (Nat.le_of_ble_eq_true rfl) ?_
    refine r_aload_n dX12_feed_78 rfl ?_
    refine r_getRc dX12_feed_79 fgX12_15 rfl (by exact k_167 hJ16.F) (by exact r_167_10 hJ16.F) ?_
    refine r_aload_n dX12_feed_82 rfl ?_
    refine r_getIc (nI (tn + 14)) dX12_feed_83 fgX12_108 rfl (by exact k_167 hJ16.F) (by exact hJ16.1.2.2.2.1.1) ?_
    refine r_iload dX12_feed_86 rfl ?_
    refine r_bipush (24) dX12_feed_88 rfl ?_
    refine r_bipush (8) dX12_feed_90 rfl ?_
    refine r_iload dX12_feed_92 rfl ?_
    refine r_iconst (4) dX12_feed_94 rfl ?_
    refine r_irem dX12_feed_95 (by decide) ?_
    refine r_imul dX12_feed_96 ?_
    refine r_isub dX12_feed_97 ?_
    refine r_ishr dX12_feed_98 ?_
    refine r_sipush (255) dX12_feed_99 rfl ?_
    refine r_iand dX12_feed_102 ?_
    rw [show ((d0 >>> ((24 - 8 * (14 - (14) / 4 * 4)) &&& 31)) &&& 255 : Int32) = byt d0 2 from byt_eq (by omega) rfl]
    refine r_iastoren (tn + 14) (nI_cl _ (by omega)) dX12_feed_103 (by exact k_168 hJ16.F) (vin (by omega) (by omega)) ?_
    refine r_aload_n dX12_feed_104 rfl ?_
    refine r_dup dX12_feed_105 rfl ?_
    refine r_getIc (nI (tn + 14)) dX12_feed_106 fgX12_108 rfl (by exact k_167 hJ16.F) (by exact ld_n (by omega) hJ16.1.2.2.2.1.1) ?_
    refine r_iconst (1) dX12_feed_109 rfl ?_
    refine r_iadd dX12_feed_110 ?_
    refine r_putI dX12_feed_111 (fpX12_108 _ rfl) rfl (by exact k_167 hJ16.F) ⟨rfl, rfl⟩ ?_
    rw [nI_1]
    have hJ17 : RJ f fs ic (fdT tp tn a0 b0 c0 d0 e0) (tn + 15) pl n1 n2 ts m 0 (stI (stI M16 168 (tn + 14) (byt d0 2)) 167 1 (nI (tn + 14 + 1))) := hJ16.fd (v := byt d0 2) (by omega) (fdT_at (i := 14)).symm (byt_iv _ _)
    generalize stI (stI M16 168 (tn + 14) (byt d0 2)) 167 1 (nI (tn + 14 + 1)) = M17 at hJ17 ⊢
    clear hJ16
    refine ic_6 (1) dX12_feed_114 rfl rfl (Nat.le_of_ble_eq_true rfl) ?_
    refine r_goto 23 dX12_feed_117 rfl ?_
    rw [show ((14 : Int32) + 1) = 15 from rfl]
    refine r_iload dX12_feed_23 rfl ?_
    refine r_bipush (20) dX12_feed_25 rfl ?_
    refine r_icmp_ge 120 dX12_feed_27 rfl (fun hz => absurd hz (by decide)) (fun _ => ?_)
    refine r_iload dX12_feed_30 rfl ?_
    refine r_iconst (4) dX12_feed_32 rfl ?_
    refine r_icmp_ge 40 dX12_feed_33 rfl (fun _ => ?_) (fun hz => absurd hz (by decide))
    refine r_iload dX12_feed_40 rfl ?_
    refine r_bipush (8) dX12_feed_42 rfl ?_
    refine r_icmp_ge 51 dX12_feed_44 rfl (fun _ => ?_) (fun hz => absurd hz (by decide))
    refine r_iload dX12_feed_51 rfl ?_
    refine r_bipush (12) dX12_feed_53 rfl ?_
    refine r_icmp_ge 62 dX12_feed_55 rfl (fun _ => ?_) (fun hz => absurd hz (by decide))
    refine r_iload dX12_feed_62 rfl ?_
    refine r_bipush (16) dX12_feed_64 rfl ?_
    refine r_icmp_ge 74 dX12_feed_66 rfl (fun hz => absurd hz (by decide)) (fun _ => ?_)
    refine r_iload dX12_feed_69 rfl ?_
    refine r_goto 76 dX12_feed_71 rfl ?_
    refine si_7 dX12_feed_76 rfl (Nat.le_of_ble_eq_true rfl) ?_
    refine r_aload_n dX12_feed_78 rfl ?_
    refine r_getRc dX12_feed_79 fgX12_15 rfl (by exact k_167 hJ17.F) (by exact r_167_10 hJ17.F) ?_
    refine r_aload_n dX12_feed_82 rfl ?_
    refine r_getIc (nI (tn + 15)) dX12_feed_83 fgX12_108 rfl (by exact k_167 hJ17.F) (by exact hJ17.1.2.2.2.1.1) ?_
    refine r_iload dX12_feed_86 rfl ?_
    refine r_bipush (24) dX12_feed_88 rfl ?_
    refine r_bipush (8) dX12_feed_90 rfl ?_
    refine r_iload dX12_feed_92 rfl ?_
    refine r_iconst (4) dX12_feed_94 rfl ?_
    refine r_irem dX12_feed_95 (by decide) ?_
    refine r_imul dX12_feed_96 ?_
    refine r_isub dX12_feed_97 ?_
    refine r_ishr dX12_feed_98 ?_
    refine r_sipush (255) dX12_feed_99 rfl ?_
    refine r_iand dX12_feed_102 ?_
    rw [show ((d0 >>> ((24 - 8 * (15 - (15) / 4 * 4)) &&& 31)) &&& 255 : Int32) = byt d0 3 from byt_eq (by omega) rfl]
    refine r_iastoren (tn + 15) (nI_cl _ (by omega)) dX12_feed_103 (by exact k_168 hJ17.F) (vin (by omega) (by omega)) ?_
    refine r_aload_n dX12_feed_104 rfl ?_
    refine r_dup dX12_feed_105 rfl ?_
    refine r_getIc (nI (tn + 15)) dX12_feed_106 fgX12_108 rfl (by exact k_167 hJ17.F) (by exact ld_n (by omega) hJ17.1.2.2.2.1.1) ?_
    refine r_iconst (1) dX12_feed_109 rfl ?_
    refine r_iadd dX12_feed_110 ?_
    refine r_putI dX12_feed_111 (fpX12_108 _ rfl) rfl (by exact k_167 hJ17.F) ⟨rfl, rfl⟩ ?_
    rw [nI_1]
    have hJ18 : RJ f fs ic (fdT tp tn a0 b0 c0 d0 e0) (tn + 16) pl n1 n2 ts m 0 (stI (stI M17 168 (tn + 15) (byt d0 3)) 167 1 (nI (tn + 15 + 1))) := hJ17.fd (v := byt d0 3) (by omega) (fdT_at (i := 15)).symm (byt_iv _ _)
    generalize stI (stI M17 168 (tn + 15) (byt d0 3)) 167 1 (nI (tn + 15 + 1)) = M18 at hJ18 ⊢
    clear hJ17
    refine ic_6 (1) dX12_feed_114 rfl rfl (Nat.le_of_ble_eq_true rfl) ?_
    refine r_goto 23 dX12_feed_117 rfl ?_
    rw [show ((15 : Int32) + 1) = 16 from rfl]
    refine r_iload dX12_feed_23 rfl ?_
    refine r_bipush (20) dX12_feed_25 rfl ?_
    refine r_icmp_ge 120 dX12_feed_27 rfl (fun hz => absurd hz (by decide)) (fun _ => ?_)
    refine r_iload dX12_feed_30 rfl ?_
    refine r_iconst (4) dX12_feed_32 rfl ?_
    refine r_icmp_ge 40 dX12_feed_33 rfl (fun _ => ?_) (fun hz => absurd hz (by decide))
    refine r_iload dX12_feed_40 rfl ?_
    refine r_bipush (8) dX12_feed_42 rfl ?_
    refine r_icmp_ge 51 dX12_feed_44 rfl (fun _ => ?_) (fun hz => absurd hz (by decide))
    refine r_iload dX12_feed_51 rfl ?_
    refine r_bipush (12) dX12_feed_53 rfl ?_
    refine r_icmp_ge 62 dX12_feed_55 rfl (fun _ => ?_) (fun hz => absurd hz (by decide))
    refine r_iload dX12_feed_62 rfl ?_
    refine r_bipush (16) dX12_feed_64 rfl ?_
    refine r_icmp_ge 74 dX12_feed_66 rfl (fun _ => ?_) (fun hz => absurd hz (by decide))
    refine r_iload dX12_feed_74 rfl ?_
    refine si_7 dX12_feed_76 rfl (Nat.le_of_ble_eq_true rfl) ?_
    refine r_aload_n dX12_feed_78 rfl ?_
    refine r_getRc dX12_feed_79 fgX12_15 rfl (by exact k_167 hJ18.F) (by exact r_167_10 hJ18.F) ?_
    refine r_aload_n dX12_feed_82 rfl ?_
    refine r_getIc (nI (tn + 16)) dX12_feed_83 fgX12_108 rfl (by exact k_167 hJ18.F) (by exact hJ18.1.2.2.2.1.1) ?_
    refine r_iload dX12_feed_86 rfl ?_
    refine r_bipush (24) dX12_feed_88 rfl ?_
    refine r_bipush (8) dX12_feed_90 rfl ?_
    refine r_iload dX12_feed_92 rfl ?_
    refine r_iconst (4) dX12_feed_94 rfl ?_
    refine r_irem dX12_feed_95 (by decide) ?_
    refine r_imul dX12_feed_96 ?_
    refine r_isub dX12_feed_97 ?_
    refine r_ishr dX12_feed_98 ?_
    refine r_sipush (255) dX12_feed_99 rfl ?_
    refine r_iand dX12_feed_102 ?_
    rw [show ((e0 >>> ((24 - 8 * (16 - (16) / 4 * 4)) &&& 31)) &&& 255 : Int32) = byt e0 0 from byt_eq (by omega) rfl]
    refine r_iastoren (tn + 16) (nI_cl _ (by omega)) dX12_feed_103 (by exact k_168 hJ18.F) (vin (by omega) (by omega)) ?_
    refine r_aload_n dX12_feed_104 rfl ?_
    refine r_dup dX12_feed_105 rfl ?_
    refine r_getIc (nI (tn + 16)) dX12_feed_106 fgX12_108 rfl (by exact k_167 hJ18.F) (by exact ld_n (by omega) hJ18.1.2.2.2.1.1) ?_
    refine r_iconst (1) dX12_feed_109 rfl ?_
    refine r_iadd dX12_feed_110 ?_
    refine r_putI dX12_feed_111 (fpX12_108 _ rfl) rfl (by exact k_167 hJ18.F) ⟨rfl, rfl⟩ ?_
    rw [nI_1]
    have hJ19 : RJ f fs ic (fdT tp tn a0 b0 c0 d0 e0) (tn + 17) pl n1 n2 ts m 0 (stI (stI M18 168 (tn + 16) (byt e0 0)) 167 1 (nI (tn + 16 + 1))) := hJ18.fd (v := byt e0 0) (by omega) (fdT_at (i := 16)).symm (byt_iv _ _)
    generalize stI (stI M18 168 (tn + 16) (byt e0 0)) 167 1 (nI (tn + 16 + 1)) = M19 at hJ19 ⊢
    clear hJ18
    refine ic_6 (1) dX12_feed_114 rfl rfl (Nat.le_of_ble_eq_true rfl) ?_
    refine r_goto 23 dX12_feed_117 rfl ?_
    rw [show ((16 : Int32) + 1) = 17 from rfl]
    refine r_iload dX12_feed_23 rfl ?_
    refine r_bipush (20) dX12_feed_25 rfl ?_
    refine r_icmp_ge 120 dX12_feed_27 rfl (fun hz => absurd hz (by decide)) (fun _ => ?_)
    refine r_iload dX12_feed_30 rfl ?_
    refine r_iconst (4) dX12_feed_32 rfl ?_
    refine r_icmp_ge 40 dX12_feed_33 rfl (fun _ => ?_) (fun hz => absurd hz (by decide))
    refine r_iload dX12_feed_40 rfl ?_
    refine r_bipush (8) dX12_feed_42 rfl ?_
    refine r_icmp_ge 51 dX12_feed_44 rfl (fun _ => ?_) (fun hz => absurd hz (by decide))
    refine r_iload dX12_feed_51 rfl ?_
    refine r_bipush (12) dX12_feed_53 rfl ?_
    refine r_icmp_ge 62 dX12_feed_55 rfl (fun _ => ?_) (fun hz => absurd hz (by decide))
    refine r_iload dX12_feed_62 rfl ?_
    refine r_bipush (16) dX12_feed_64 rfl ?_
    refine r_icmp_ge 74 dX12_feed_66 rfl (fun _ => ?_) (fun hz => absurd hz (by decide))
    refine r_iload dX12_feed_74 rfl ?_
    refine si_7 dX12_feed_76 rfl (Nat.le_of_ble_eq_true rfl) ?_
    refine r_aload_n dX12_feed_78 rfl ?_
    refine r_getRc dX12_feed_79 fgX12_15 rfl (by exact k_167 hJ19.F) (by exact r_167_10 hJ19.F) ?_
    refine r_aload_n dX12_feed_82 rfl ?_
    refine r_getIc (nI (tn + 17)) dX12_feed_83 fgX12_108 rfl (by exact k_167 hJ19.F) (by exact hJ19.1.2.2.2.1.1) ?_
    refine r_iload dX12_feed_86 rfl ?_
    refine r_bipush (24) dX12_feed_88 rfl ?_
    refine r_bipush (8) dX12_feed_90 rfl ?_
    refine r_iload dX12_feed_92 rfl ?_
    refine r_iconst (4) dX12_feed_94 rfl ?_
    refine r_irem dX12_feed_95 (by decide) ?_
    refine r_imul dX12_feed_96 ?_
    refine r_isub dX12_feed_97 ?_
    refine r_ishr dX12_feed_98 ?_
    refine r_sipush (255) dX12_feed_99 rfl ?_
    refine r_iand dX12_feed_102 ?_
    rw [show ((e0 >>> ((24 - 8 * (17 - (17) / 4 * 4)) &&& 31)) &&& 255 : Int32) = byt e0 1 from byt_eq (by omega) rfl]
    refine r_iastoren (tn + 17) (nI_cl _ (by omega)) dX12_feed_103 (by exact k_168 hJ19.F) (vin (by omega) (by omega)) ?_
    refine r_aload_n dX12_feed_104 rfl ?_
    refine r_dup dX12_feed_105 rfl ?_
    refine r_getIc (nI (tn + 17)) dX12_feed_106 fgX12_108 rfl (by exact k_167 hJ19.F) (by exact ld_n (by omega) hJ19.1.2.2.2.1.1) ?_
    refine r_iconst (1) dX12_feed_109 rfl ?_
    refine r_iadd dX12_feed_110 ?_
    refine r_putI dX12_feed_111 (fpX12_108 _ rfl) rfl (by exact k_167 hJ19.F) ⟨rfl, rfl⟩ ?_
    rw [nI_1]
    have hJ20 : RJ f fs ic (fdT tp tn a0 b0 c0 d0 e0) (tn + 18) pl n1 n2 ts m 0 (stI (stI M19 168 (tn + 17) (byt e0 1)) 167 1 (nI (tn + 17 + 1))) := hJ19.fd (v := byt e0 1) (by omega) (fdT_at (i := 17)).symm (byt_iv _ _)
    generalize stI (stI M19 168 (tn + 17) (byt e0 1)) 167 1 (nI (tn + 17 + 1)) = M20 at hJ20 ⊢
    clear hJ19
    refine ic_6 (1) dX12_feed_114 rfl rfl (Nat.le_of_ble_eq_true rfl) ?_
    refine r_goto 23 dX12_feed_117 rfl ?_
    rw [show ((17 : Int32) + 1) = 18 from rfl]
    refine r_iload dX12_feed_23 rfl ?_
    refine r_bipush (20) dX12_feed_25 rfl ?_
    refine r_icmp_ge 120 dX12_feed_27 rfl (fun hz => absurd hz (by decide)) (fun _ => ?_)
    refine r_iload dX12_feed_30 rfl ?_
    refine r_iconst (4) dX12_feed_32 rfl ?_
    refine r_icmp_ge 40 dX12_feed_33 rfl (fun _ => ?_) (fun hz => absurd hz (by decide))
    refine r_iload dX12_feed_40 rfl ?_
    refine r_bipush (8) dX12_feed_42 rfl ?_
    refine r_icmp_ge 51 dX12_feed_44 rfl (fun _ => ?_) (fun hz => absurd hz (by decide))
    refine r_iload dX12_feed_51 rfl ?_
    refine r_bipush (12) dX12_feed_53 rfl ?_
    refine r_icmp_ge 62 dX12_feed_55 rfl (fun _ => ?_) (fun hz => absurd hz (by decide))
    refine r_iload dX12_feed_62 rfl ?_
    refine r_bipush (16) dX12_feed_64 rfl ?_
    refine r_icmp_ge 74 dX12_feed_66 rfl (fun _ => ?_) (fun hz => absurd hz (by decide))
    refine r_iload dX12_feed_74 rfl ?_
    refine si_7 dX12_feed_76 rfl (Nat.le_of_ble_eq_true rfl) ?_
    refine r_aload_n dX12_feed_78 rfl ?_
    refine r_getRc dX12_feed_79 fgX12_15 rfl (by exact k_167 hJ20.F) (by exact r_167_10 hJ20.F) ?_
    refine r_aload_n dX12_feed_82 rfl ?_
    refine r_getIc (nI (tn + 18)) dX12_feed_83 fgX12_108 rfl (by exact k_167 hJ20.F) (by exact hJ20.1.2.2.2.1.1) ?_
    refine r_iload dX12_feed_86 rfl ?_
    refine r_bipush (24) dX12_feed_88 rfl ?_
    refine r_bipush (8) dX12_feed_90 rfl ?_
    refine r_iload dX12_feed_92 rfl ?_
    refine r_iconst (4) dX12_feed_94 rfl ?_
    refine r_irem dX12_feed_95 (by decide) ?_
    refine r_imul dX12_feed_96 ?_
    refine r_isub dX12_feed_97 ?_
    refine r_ishr dX12_feed_98 ?_
    refine r_sipush (255) dX12_feed_99 rfl ?_
    refine r_iand dX12_feed_102 ?_
    rw [show ((e0 >>> ((24 - 8 * (18 - (18) / 4 * 4)) &&& 31)) &&& 255 : Int32) = byt e0 2 from byt_eq (by omega) rfl]
    refine r_iastoren (tn + 18) (nI_cl _ (by omega)) dX12_feed_103 (by exact k_168 hJ20.F) (vin (by omega) (by omega)) ?_
    refine r_aload_n dX12_feed_104 rfl ?_
    refine r_dup dX12_feed_105 rfl ?_
    refine r_getIc (nI (tn + 18)) dX12_feed_106 fgX12_108 rfl (by exact k_167 hJ20.F) (by exact ld_n (by omega) hJ20.1.2.2.2.1.1) ?_
    refine r_iconst (1) dX12_feed_109 rfl ?_
    refine r_iadd dX12_feed_110 ?_
    refine r_putI dX12_feed_111 (fpX12_108 _ rfl) rfl (by exact k_167 hJ20.F) ⟨rfl, rfl⟩ ?_
    rw [nI_1]
    have hJ21 : RJ f fs ic (fdT tp tn a0 b0 c0 d0 e0) (tn + 19) pl n1 n2 ts m 0 (stI (stI M20 168 (tn + 18) (byt e0 2)) 167 1 (nI (tn + 18 + 1))) := hJ20.fd (v := byt e0 2) (by omega) (fdT_at (i := 18)).symm (byt_iv _ _)
    generalize stI (stI M20 168 (tn + 18) (byt e0 2)) 167 1 (nI (tn + 18 + 1)) = M21 at hJ21 ⊢
    clear hJ20
    refine ic_6 (1) dX12_feed_114 rfl rfl (Nat.le_of_ble_eq_true rfl) ?_
    refine r_goto 23 dX12_feed_117 rfl ?_
    rw [show ((18 : Int32) + 1) = 19 from rfl]
    refine r_iload dX12_feed_23 rfl ?_
    refine r_bipush (20) dX12_feed_25 rfl ?_
    refine r_icmp_ge 120 dX12_feed_27 rfl (fun hz => absurd hz (by decide)) (fun _ => ?_)
    refine r_iload dX12_feed_30 rfl ?_
    refine r_iconst (4) dX12_feed_32 rfl ?_
    refine r_icmp_ge 40 dX12_feed_33 rfl (fun _ => ?_) (fun hz => absurd hz (by decide))
    refine r_iload dX12_feed_40 rfl ?_
    refine r_bipush (8) dX12_feed_42 rfl ?_
    refine r_icmp_ge 51 dX12_feed_44 rfl (fun _ => ?_) (fun hz => absurd hz (by decide))
    refine r_iload dX12_feed_51 rfl ?_
    refine r_bipush (12) dX12_feed_53 rfl ?_
    refine r_icmp_ge 62 dX12_feed_55 rfl (fun _ => ?_) (fun hz => absurd hz (by decide))
    refine r_iload dX12_feed_62 rfl ?_
    refine r_bipush (16) dX12_feed_64 rfl ?_
    refine r_icmp_ge 74 dX12_feed_66 rfl (fun _ => ?_) (fun hz => absurd hz (by decide))
    refine r_iload dX12_feed_74 rfl ?_
    refine si_7 dX12_feed_76 rfl (Nat.le_of_ble_eq_true rfl) ?_
    refine r_aload_n dX12_feed_78 rfl ?_
    refine r_getRc dX12_feed_79 fgX12_15 rfl (by exact k_167 hJ21.F) (by exact r_167_10 hJ21.F) ?_
    refine r_aload_n dX12_feed_82 rfl ?_
    refine r_getIc (nI (tn + 19)) dX12_feed_83 fgX12_108 rfl (by exact k_167 hJ21.F) (by exact hJ21.1.2.2.2.1.1) ?_
    refine r_iload dX12_feed_86 rfl ?_
    refine r_bipush (24) dX12_feed_88 rfl ?_
    refine r_bipush (8) dX12_feed_90 rfl ?_
    refine r_iload dX12_feed_92 rfl ?_
    refine r_iconst (4) dX12_feed_94 rfl ?_
    refine r_irem dX12_feed_95 (by decide) ?_
    refine r_imul dX12_feed_96 ?_
    refine r_isub dX12_feed_97 ?_
    refine r_ishr dX12_feed_98 ?_
    refine r_sipush (255) dX12_feed_99 rfl ?_
    refine r_iand dX12_feed_102 ?_
    rw [show ((e0 >>> ((24 - 8 * (19 - (19) / 4 * 4)) &&& 31)) &&& 255 : Int32) = byt e0 3 from byt_eq (by omega) rfl]
    refine r_iastoren (tn + 19) (nI_cl _ (by omega)) dX12_feed_103 (by exact k_168 hJ21.F) (vin (by omega) (by omega)) ?_
    refine r_aload_n dX12_feed_104 rfl ?_
    refine r_dup dX12_feed_105 rfl ?_
    refine r_getIc (nI (tn + 19)) dX12_feed_106 fgX12_108 rfl (by exact k_167 hJ21.F) (by exact ld_n (by omega) hJ21.1.2.2.2.1.1) ?_
    refine r_iconst (1) dX12_feed_109 rfl ?_
    refine r_iadd dX12_feed_110 ?_
    refine r_putI dX12_feed_111 (fpX12_108 _ rfl) rfl (by exact k_167 hJ21.F) ⟨rfl, rfl⟩ ?_
    rw [nI_1]
    have hJ22 : RJ f fs ic (fdT tp tn a0 b0 c0 d0 e0) (tn + 20) pl n1 n2 ts m 0 (stI (stI M21 168 (tn + 19) (byt e0 3)) 167 1 (nI (tn + 19 + 1))) := hJ21.fd (v := byt e0 3) (by omega) (fdT_at (i := 19)).symm (byt_iv _ _)
    generalize stI (stI M21 168 (tn + 19) (byt e0 3)) 167 1 (nI (tn + 19 + 1)) = M22 at hJ22 ⊢
    clear hJ21
    refine ic_6 (1) dX12_feed_114 rfl rfl (Nat.le_of_ble_eq_true rfl) ?_
    refine r_goto 23 dX12_feed_117 rfl ?_
    rw [show ((19 : Int32) + 1) = 20 from rfl]
    refine r_iload dX12_feed_23 rfl ?_
    refine r_bipush (20) dX12_feed_25 rfl ?_
    refine r_icmp_ge 120 dX12_feed_27 rfl (fun _ => ?_) (fun hz => absurd hz (by decide))
    refine r_aload_n dX12_feed_120 rfl ?_
    refine r_getIc (nI (tn + 20)) dX12_feed_121 fgX12_108 rfl (by exact k_167 hJ22.F) (by exact hJ22.1.2.2.2.1.1) ?_
    refine r_ireturn dX12_feed_124 rfl rfl ?_
    exact k hz9 _ ⟨hJ22.1.tpc (fun j hj => fdT_eq (by omega)), hJ22.2⟩
  ·
    refine r_iconst (-1) dX12_feed_18 rfl ?_
    refine r_ireturn dX12_feed_19 rfl rfl ?_
    exact kf (fun q => hz ((fd_le ht4).mpr q)) _ hJ1
