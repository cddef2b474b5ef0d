/-! law of the reference -/
def upS (ts : Nat → (Nat → Int32) × Nat) (l : Nat) (v : (Nat → Int32) × Nat) : Nat → (Nat → Int32) × Nat := fun j => if j = l then v else ts j
theorem TKs.up0 {ts : Nat → (Nat → Int32) × Nat} {n1 n2 : Nat} {T1 T2 : Nat → TL} (h : TKs ts n1 T1 n2 T2) (h4 : n1 < 4) {b : Nat → Int32} {N : Nat} {r : List Int32 × TL} (e : texP b N false = .inr r) : TKs (upS ts n1 (b, N)) (n1 + 1) (upT T1 n1 r.2) n2 T2 := by
  refine ⟨fun l hl => ?_, fun w hw => ?_⟩
  · by_cases q : l = n1
    · subst q; refine ⟨r.1, ?_⟩; unfold upS upT; rw [if_pos rfl, if_pos rfl]; exact e
    · unfold upS upT; rw [if_neg q, if_neg q]; exact h.1 l (by omega)
  · unfold upS; rw [if_neg (by omega)]; exact h.2 w hw
theorem TKs.up1 {ts : Nat → (Nat → Int32) × Nat} {n1 n2 : Nat} {T1 T2 : Nat → TL} (h : TKs ts n1 T1 n2 T2) (h4 : n1 ≤ 4) {b : Nat → Int32} {N : Nat} {r : List Int32 × TL} (e : texP b N true = .inr r) : TKs (upS ts (4 + n2) (b, N)) n1 T1 (n2 + 1) (upT T2 n2 r.2) := by
  refine ⟨fun l hl => ?_, fun w hw => ?_⟩
  · unfold upS; rw [if_neg (by omega)]; exact h.1 l hl
  · by_cases q : w = n2
    · subst q; refine ⟨r.1, ?_⟩; unfold upS upT; rw [if_pos rfl, if_pos rfl]; exact e
    · unfold upS upT; rw [if_neg (by omega), if_neg q]; exact h.2 w (by omega)
section RIl
variable {f : Nat → Int32} {fs : Nat → Nat → Int32} {ic : Nat} {tp : Nat → Int32} {tn : Nat} {pl : Int32} {n1 n2 : Nat} {ts : Nat → (Nat → Int32) × Nat} {m m' : MM}
theorem RI.tape (h : RI f fs ic tp tn pl n1 n2 ts m) {p : Int32} (hF : Fx m') (e0 : ldI m' 167 1 = 0) (e1 : ldI m' 167 3 = p) (e : ∀ a k, ¬ (a = 167 ∧ (k = 0 ∨ k = 1 ∨ k = 3)) → ldI m' a k = ldI m a k) : RI f fs ic tp 0 p n1 n2 ts m' := by
  obtain ⟨-, d, ⟨c1, c2, c3⟩, -, -, ⟨f1, f2⟩, ⟨g1, g2⟩, h1⟩ := h
  exact ⟨hF, fun z hz => (e _ _ (by have := (lA_ok hz).1; omega)).trans (d z hz), ⟨(e _ _ (by omega)).trans c1, c2, fun k hk z hz => (e _ _ (by omega)).trans (c3 k hk z hz)⟩, ⟨e0, by omega, fun j hj => absurd hj (by omega)⟩, e1, ⟨(e _ _ (by omega)).trans f1, f2⟩, ⟨(e _ _ (by omega)).trans g1, g2⟩, fun l hl => ⟨(e _ _ (by omega)).trans (h1 l hl).1, (h1 l hl).2.1, fun j hj => ⟨(e _ _ (by omega)).trans ((h1 l hl).2.2 j hj).1, ((h1 l hl).2.2 j hj).2⟩⟩⟩
theorem RI.txt0 (h : RI f fs ic tp 0 pl n1 n2 ts m) (hn : n1 < 4) {N : Nat} (hF : Fx m') (hN : N ≤ 400) (e0 : ldI m' 167 13 = nI (n1 + 1)) (e1 : ldI m' 177 n1 = nI N) (e2 : ∀ j, j < N → ldI m' (170 + n1) j = tp j ∧ iv 0 255 (tp j)) (e : ∀ a k, a ≠ 170 + n1 → ¬ (a = 177 ∧ k = n1) → ¬ (a = 167 ∧ k = 13) → ldI m' a k = ldI m a k) : RI f fs ic tp 0 pl (n1 + 1) n2 (upS ts n1 (tp, N)) m' := by
  obtain ⟨-, d, ⟨c1, c2, c3⟩, ⟨d1, -, -⟩, p1, ⟨f1, f2⟩, ⟨g1, g2⟩, h1⟩ := h
  refine ⟨hF, fun z hz => (e _ _ (by have := (lA_ok hz); omega) (by have := (lA_ok hz); omega) (by have := (lA_ok hz).1; omega)).trans (d z hz), ⟨(e _ _ (by omega) (by omega) (by omega)).trans c1, c2, fun k hk z hz => (e _ _ (by omega) (by omega) (by omega)).trans (c3 k hk z hz)⟩, ⟨(e _ _ (by omega) (by omega) (by omega)).trans d1, by omega, fun j hj => absurd hj (by omega)⟩, (e _ _ (by omega) (by omega) (by omega)).trans p1, ⟨e0, by omega⟩, ⟨(e _ _ (by omega) (by omega) (by omega)).trans g1, g2⟩, fun l hl => ?_⟩
  by_cases q : l = n1
  · have u : upS ts n1 (tp, N) l = (tp, N) := if_pos q
    rw [u, q]; exact ⟨e1, hN, e2⟩
  · have u : upS ts n1 (tp, N) l = ts l := if_neg q
    rw [u]
    have z := h1 l (by omega)
    exact ⟨(e _ _ (by omega) (by omega) (by omega)).trans z.1, z.2.1, fun j hj => ⟨(e _ _ (by omega) (by omega) (by omega)).trans (z.2.2 j hj).1, (z.2.2 j hj).2⟩⟩
theorem RI.txt1 (h : RI f fs ic tp 0 pl n1 n2 ts m) (hn : n2 < 3) {N : Nat} (hF : Fx m') (hN : N ≤ 400) (e0 : ldI m' 167 14 = nI (n2 + 1)) (e1 : ldI m' 177 (4 + n2) = nI N) (e2 : ∀ j, j < N → ldI m' (170 + (4 + n2)) j = tp j ∧ iv 0 255 (tp j)) (e : ∀ a k, a ≠ 170 + (4 + n2) → ¬ (a = 177 ∧ k = (4 + n2)) → ¬ (a = 167 ∧ k = 14) → ldI m' a k = ldI m a k) : RI f fs ic tp 0 pl n1 (n2 + 1) (upS ts (4 + n2) (tp, N)) m' := by
  obtain ⟨-, d, ⟨c1, c2, c3⟩, ⟨d1, -, -⟩, p1, ⟨f1, f2⟩, ⟨g1, g2⟩, h1⟩ := h
  refine ⟨hF, fun z hz => (e _ _ (by have := (lA_ok hz); omega) (by have := (lA_ok hz); omega) (by have := (lA_ok hz).1; omega)).trans (d z hz), ⟨(e _ _ (by omega) (by omega) (by omega)).trans c1, c2, fun k hk z hz => (e _ _ (by omega) (by omega) (by omega)).trans (c3 k hk z hz)⟩, ⟨(e _ _ (by omega) (by omega) (by omega)).trans d1, by omega, fun j hj => absurd hj (by omega)⟩, (e _ _ (by omega) (by omega) (by omega)).trans p1, ⟨(e _ _ (by omega) (by omega) (by omega)).trans f1, f2⟩, ⟨e0, by omega⟩, fun l hl => ?_⟩
  by_cases q : l = (4 + n2)
  · have u : upS ts (4 + n2) (tp, N) l = (tp, N) := if_pos q
    rw [u, q]; exact ⟨e1, hN, e2⟩
  · have u : upS ts (4 + n2) (tp, N) l = ts l := if_neg q
    rw [u]
    have z := h1 l (by omega)
    exact ⟨(e _ _ (by omega) (by omega) (by omega)).trans z.1, z.2.1, fun j hj => ⟨(e _ _ (by omega) (by omega) (by omega)).trans (z.2.2 j hj).1, (z.2.2 j hj).2⟩⟩
end RIl
theorem L_rcp {g : GG} {Q : Out → Prop} {m8 : MM} (hF8 : Fx m8) {w N : Nat} (hw : w < 7) (hN : N ≤ 400) {tp : Nat → Int32} (h8 : ∀ j, j < N → ldI m8 168 j = tp j) {wy : Int32} (k : ∀ m', Off 167 282 m8 m' → (∀ j, j < N → ldI m' (170 + w) j = tp j) → (∀ a k, a ≠ 170 + w → ldI m' a k = ldI m8 a k) → Wp g mX12_law 32 0 0 158 [.ref 167, .int (nI N), .int wy, .int (nI w), .int (nI N)] [] m' Q) : ∀ (t i : Nat) (m : MM), i + t = N → Off 167 282 m8 m → (∀ j, j < i → ldI m (170 + w) j = tp j) → (∀ a k, a ≠ 170 + w → ldI m a k = ldI m8 a k) → Wp g mX12_law 32 0 0 130 [.ref 167, .int (nI N), .int wy, .int (nI w), .int (nI i)] [] m Q := by
  intro t
  induction t with
  | zero =>
    intro i m hi o hr he
    obtain rfl : i = N := by omega
    have hF := Fx_of o.1 hF8
    refine r_iload dX12_law_130 rfl ?_
    refine r_iload_n dX12_law_132 rfl ?_
    refine r_icmp_ge 158 dX12_law_133 rfl (fun hge => ?_) (fun hge => ?_)
    ·
      exact k m o hr he
    ·
      exact absurd (nI_le (Nat.le_refl _) (by omega)) hge
  | succ t ih =>
    intro i m hi o hr he
    have hF := Fx_of o.1 hF8
    refine r_iload dX12_law_130 rfl ?_
    refine r_iload_n dX12_law_132 rfl ?_
    refine r_icmp_ge 158 dX12_law_133 rfl (fun hge => ?_) (fun hge => ?_)
    ·
      exact absurd hge (nI_ge (by omega) (by omega))
    ·
      refine r_aload_n dX12_law_136 rfl ?_
      refine r_getRc dX12_law_137 fgX12_21 rfl (by exact k_167 hF) (by exact r_167_11 hF) ?_
      refine r_iload_n dX12_law_140 rfl ?_
      refine r_aaloadc (b := 170 + w) dX12_law_141 ⟨Nat.le_of_ble_eq_true rfl, Nat.le_of_ble_eq_true rfl⟩ (by exact k_169 hF) (vin (by omega) (by omega)) (by rw [nI_cl _ (by omega)]; exact R_txt hF hw) ?_
      refine r_iload dX12_law_142 rfl ?_
      refine r_aload_n dX12_law_144 rfl ?_
      refine r_getRc dX12_law_145 fgX12_15 rfl (by exact k_167 hF) (by exact r_167_10 hF) ?_
      refine r_iload dX12_law_148 rfl ?_
      refine r_ialoadc (tp i) dX12_law_150 (by exact k_168 hF) (vin (by omega) (by omega)) (by rw [nI_cl _ (by omega)]; exact (he 168 i (by omega)).trans (h8 i (by omega))) ?_
      refine r_iastoren (i) (nI_cl _ (by omega)) dX12_law_151 (by exact K_txt hF hw) (vin (by omega) (by omega)) ?_
      refine ic_4 (1) dX12_law_152 rfl rfl (Nat.le_of_ble_eq_true rfl) ?_
      refine r_goto 130 dX12_law_155 rfl ?_
      rw [nI_1 i]
      refine ih (i + 1) _ (by omega) (o.stI (by omega) (by omega)) (fun j hj => ?_) (fun a k ha => ld_n (by omega) (he a k ha))
      by_cases q : j = i
      · rw [q]; exact ld_s
      · exact ld_n (by omega) (hr j (by omega))
theorem S_rlaw0 {g : GG} {m : MM} {Q : Out → Prop} {f : Nat → Int32} {fs : Nat → Nat → Int32} {ic : Nat} {tp : Nat → Int32} {tn : Nat} {pl : Int32} {n1 n2 : Nat} {ts : Nat → (Nat → Int32) × Nat} (hI : RI f fs ic tp tn pl n1 n2 ts m) {x : Int32} (kb : ¬ (0 ≤ x ∧ x ≤ nI tn) → ∀ m', RJ f fs ic tp tn pl n1 n2 ts m 1 m' → Q (.inl (some (.int 0)), m')) (kf : (0 ≤ x ∧ x ≤ nI tn) → n1 = 4 → ∀ m', RJ f fs ic tp 0 (-1) n1 n2 ts m 0 m' → Q (.inl (some (.int (-1))), m')) (ke : ∀ N, x = nI N → N ≤ tn → n1 < 4 → ∀ e, texP tp N false = .inl e → ∀ m', RJ f fs ic tp 0 (nI e.2) n1 n2 ts m 0 m' → Q (.inl (some (.int (e.1 - 10))), m')) (k : ∀ N, x = nI N → N ≤ tn → n1 < 4 → ∀ r, texP tp N false = .inr r → ∀ m', RJ f fs ic tp 0 (-1) (n1 + 1) n2 (upS ts n1 (tp, N)) m 0 m' → Q (.inl (some (.int (nI n1))), m')) : Cl g 32 0 0 mX12_law [.ref 167, .int x, .int 0] m Q := by
  refine Cl.of rfl (by decide) (Nat.le_of_ble_eq_true rfl) ?_
  show Wp g mX12_law 32 0 0 0 [.ref 167, .int x, .int 0, .retAddr 0, .retAddr 0] [] m Q
  refine r_aload_n dX12_law_0 rfl ?_
  refine r_iconst (0) dX12_law_1 rfl ?_
  refine r_putI dX12_law_2 (fpX12_79 _ rfl) rfl (by exact k_167 hI.1) ⟨rfl, rfl⟩ ?_
  have hJ1 := hI.go
  refine r_aload_n dX12_law_5 rfl ?_
  refine r_iload_n dX12_law_6 rfl ?_
  refine r_iconst (0) dX12_law_7 rfl ?_
  refine r_aload_n dX12_law_8 rfl ?_
  refine r_getIc (nI tn) dX12_law_9 fgX12_108 rfl (by exact k_167 hJ1.F) (by exact hJ1.1.2.2.2.1.1) ?_
  refine r_callS3 (d1 := 0) (c1 := 0) (n1 := 0) dX12_law_12 msX12_82 rfl (Nat.le_of_ble_eq_true rfl) (by exact Nat.le_of_ble_eq_true rfl) ?_
  refine S_X12_in (fun w12a w12b => ?_) (fun w12 => ?_)
  ·
    show Wp g mX12_law _ _ _ 15 _ (_ :: _) _ Q
    refine r_if_ne 22 dX12_law_15 rfl (fun _ => ?_) (fun hz => absurd hz (by decide))
    refine r_iconst (0) dX12_law_22 rfl ?_
    refine r_iconst (1) dX12_law_23 rfl ?_
    refine r_callV2 (ci := 12) (d1 := 0) (c1 := 0) (n1 := 0) dX12_law_24 mvX12_86 rfl ⟨(Nat.le_of_ble_eq_true rfl), rfl⟩ (Nat.le_of_ble_eq_true rfl) (by exact Nat.le_of_ble_eq_true rfl) (by exact k_167 hJ1.F) ?_
    refine S_bad0 hJ1.F hJ1.2.2 ?_
    show Wp g mX12_law _ _ _ 27 _ (_ :: _) _ Q
    refine r_if_eq 32 dX12_law_27 rfl (fun _ => ?_) (fun hz => absurd hz (by decide))
    refine r_aload_n dX12_law_32 rfl ?_
    refine r_iconst (0) dX12_law_33 rfl ?_
    refine r_putI dX12_law_34 (fpX12_108 _ rfl) rfl (by exact k_167 hJ1.F) ⟨rfl, rfl⟩ ?_
    have hF2 : Fx (stI (stI m 167 0 0) 167 1 0) := Fx_of (m := m) rfl hI.1
    refine r_aload_n dX12_law_37 rfl ?_
    refine r_iconst (-1) dX12_law_38 rfl ?_
    refine r_putI dX12_law_39 (fpX12_11 _ rfl) rfl (by exact k_167 hF2) ⟨rfl, rfl⟩ ?_
    have hI3 : RI f fs ic tp 0 (-1) n1 n2 ts (stI (stI (stI m 167 0 0) 167 1 0) 167 3 (-1)) := hI.tape (Fx_of (m := m) rfl hI.1) (ld_n (by omega) ld_s) ld_s (fun a k ha => ld_n (by omega) (ld_n (by omega) (ld_n (by omega) rfl)))
    have o3 : Off 167 282 m (stI (stI (stI m 167 0 0) 167 1 0) 167 3 (-1)) := ((hJ1.2.1.stI (by omega) (by omega)).stI (by omega) (by omega))
    have hF2 := hI3.1
    refine r_iload_n dX12_law_42 rfl ?_
    refine r_if_eq 57 dX12_law_43 rfl (fun _ => ?_) (fun hz => absurd hz (by decide))
    refine r_aload_n dX12_law_57 rfl ?_
    refine r_getIc (nI n1) dX12_law_58 fgX12_223 rfl (by exact k_167 hI3.1) (by exact hI3.2.2.2.2.2.1.1) ?_
    refine r_iconst (4) dX12_law_61 rfl ?_
    refine r_icmp_ne 67 dX12_law_62 rfl (fun hfull => ?_) (fun hfull => ?_)
    ·
      have hn4 : n1 < 4 := Nat.lt_of_le_of_ne hI3.2.2.2.2.2.1.2 (fun q => hfull (by rw [q]; rfl))
      have h400 := hI.2.2.2.1.2.1
      have tb := hI.2.2.2.1.2.2
      obtain ⟨N, hN, rfl⟩ : ∃ N, N ≤ tn ∧ x = nI N := i32_small tn (by omega) w12a w12b
      have hF3 := hI3.1
      refine r_aload_n dX12_law_67 rfl ?_
      refine r_iconst (-1) dX12_law_68 rfl ?_
      refine r_putI dX12_law_69 (fpX12_114 _ rfl) rfl (by exact k_167 hF3) ⟨rfl, rfl⟩ ?_
      have hF3 : Fx (stI (stI (stI (stI m 167 0 0) 167 1 0) 167 3 (-1)) 167 8 (-1)) := Fx_of (m := m) rfl hI.1
      refine r_aload_n dX12_law_72 rfl ?_
      refine r_iload_n dX12_law_73 rfl ?_
      refine r_putI dX12_law_74 (fpX12_111 _ rfl) rfl (by exact k_167 hF3) ⟨rfl, rfl⟩ ?_
      have hF3 : Fx (stI (stI (stI (stI (stI m 167 0 0) 167 1 0) 167 3 (-1)) 167 8 (-1)) 167 2 (nI N)) := Fx_of (m := m) rfl hI.1
      refine r_aload_n dX12_law_77 rfl ?_
      refine r_iload_n dX12_law_78 rfl ?_
      refine r_putI dX12_law_79 (fpX12_207 _ rfl) rfl (by exact k_167 hF3) ⟨rfl, rfl⟩ ?_
      have hF6 : Fx (stI (stI (stI (stI (stI (stI m 167 0 0) 167 1 0) 167 3 (-1)) 167 8 (-1)) 167 2 (nI N)) 167 15 0) := Fx_of (m := m) rfl hI.1
      have sc6 : Sc (stI (stI (stI m 167 0 0) 167 1 0) 167 3 (-1)) (stI (stI (stI (stI (stI (stI m 167 0 0) 167 1 0) 167 3 (-1)) 167 8 (-1)) 167 2 (nI N)) 167 15 0) := ((Sc.rf.s (by unfold scS; omega)).s (by unfold scS; omega)).s (by unfold scS; omega)
      have hI6 := hI3.sc sc6
      have hT : TxB tp N (stI (stI (stI (stI (stI (stI m 167 0 0) 167 1 0) 167 3 (-1)) 167 8 (-1)) 167 2 (nI N)) 167 15 0) := ⟨hF6, by omega, fun j hj => (tb j (by omega)).2, ld_n (by omega) ld_s, Or.inl ⟨ld_n (by omega) (ld_n (by omega) ld_s), fun k hk => ld_n (by omega) (ld_n (by omega) (ld_n (by omega) (ld_n (by omega) (ld_n (by omega) (ld_n (by omega) (tb k (by omega)).1)))))⟩⟩
      refine r_aload_n dX12_law_82 rfl ?_
      refine r_callV0 (ci := 12) (d1 := 31) (c1 := 0) (n1 := 0) dX12_law_83 mvX12_226 rfl ⟨(Nat.le_of_ble_eq_true rfl), rfl⟩ (Nat.le_of_ble_eq_true rfl) (by exact Nat.le_of_ble_eq_true rfl) (by exact k_167 hF6) ?_
      refine S_walks0 hT (N := ldL (stI (stI (stI (stI (stI (stI m 167 0 0) 167 1 0) 167 3 (-1)) 167 8 (-1)) 167 2 (nI N)) 167 15 0) 178) (fun _ _ => rfl) ld_s (fun e he m7 s7 v1 v2 v3 => ?_) (fun r he m7 s7 v1 v3 n7 t7 => ?_)
      ·
        have hF7 := s7.1.F hF6
        have hI7 := hI6.sc s7.1
        show Wp g mX12_law _ _ _ 86 _ [] _ Q
        refine r_aload_n dX12_law_86 rfl ?_
        refine r_aload_n dX12_law_87 rfl ?_
        refine r_getIc (nI e.2) dX12_law_88 fgX12_127 rfl (by exact k_167 hF7) (by exact v3) ?_
        refine r_putI dX12_law_91 (fpX12_11 _ rfl) rfl (by exact k_167 hF7) ⟨rfl, rfl⟩ ?_
        have hI8 : RI f fs ic tp 0 (nI e.2) n1 n2 ts (stI m7 167 3 (nI e.2)) := hI7.tape (Fx_of (m := m7) rfl hF7) (ld_n (by omega) hI7.2.2.2.1.1) ld_s (fun a k ha => ld_n (by omega) rfl)
        have hF8 := hI8.1
        have o8 : Off 167 282 m (stI m7 167 3 (nI e.2)) := ((o3.tr sc6.off).tr s7.1.off).stI (by omega) (by omega)
        have th8 : ldI (stI m7 167 3 (nI e.2)) 167 0 = 0 := ld_n (by omega) (s7.2.trans (ld_n (by omega) (ld_n (by omega) (ld_n (by omega) (ld_n (by omega) (ld_n (by omega) ld_s))))))
        refine r_aload_n dX12_law_94 rfl ?_
        refine r_getIc (e.1) dX12_law_95 fgX12_124 rfl (by exact k_167 hF8) (by exact ld_n (by omega) v1) ?_
        refine r_if_eq 109 dX12_law_98 rfl (fun hf => ?_) (fun hf => ?_)
        ·
          exact absurd hf v2
        ·
          refine r_aload_n dX12_law_101 rfl ?_
          refine r_getIc (e.1) dX12_law_102 fgX12_124 rfl (by exact k_167 hF8) (by exact ld_n (by omega) v1) ?_
          refine r_bipush (10) dX12_law_105 rfl ?_
          refine r_isub dX12_law_107 ?_
          refine r_ireturn dX12_law_108 rfl rfl ?_
          exact ke N rfl hN hn4 e he _ ⟨hI8, o8, th8⟩
      ·
        have hF7 := s7.1.F hF6
        have hI7 := hI6.sc s7.1
        show Wp g mX12_law _ _ _ 86 _ [] _ Q
        refine r_aload_n dX12_law_86 rfl ?_
        refine r_aload_n dX12_law_87 rfl ?_
        refine r_getIc (-1) dX12_law_88 fgX12_127 rfl (by exact k_167 hF7) (by exact v3) ?_
        refine r_putI dX12_law_91 (fpX12_11 _ rfl) rfl (by exact k_167 hF7) ⟨rfl, rfl⟩ ?_
        have hI8 : RI f fs ic tp 0 (-1) n1 n2 ts (stI m7 167 3 (-1)) := hI7.tape (Fx_of (m := m7) rfl hF7) (ld_n (by omega) hI7.2.2.2.1.1) ld_s (fun a k ha => ld_n (by omega) rfl)
        have hF8 := hI8.1
        have o8 : Off 167 282 m (stI m7 167 3 (-1)) := ((o3.tr sc6.off).tr s7.1.off).stI (by omega) (by omega)
        have th8 : ldI (stI m7 167 3 (-1)) 167 0 = 0 := ld_n (by omega) (s7.2.trans (ld_n (by omega) (ld_n (by omega) (ld_n (by omega) (ld_n (by omega) (ld_n (by omega) ld_s))))))
        refine r_aload_n dX12_law_94 rfl ?_
        refine r_getIc (0) dX12_law_95 fgX12_124 rfl (by exact k_167 hF8) (by exact ld_n (by omega) v1) ?_
        refine r_if_eq 109 dX12_law_98 rfl (fun _ => ?_) (fun hz => absurd hz (by decide))
        refine r_iload_n dX12_law_109 rfl ?_
        refine r_if_eq 122 dX12_law_110 rfl (fun _ => ?_) (fun hz => absurd hz (by decide))
        refine r_aload_n dX12_law_122 rfl ?_
        refine r_getIc (nI n1) dX12_law_123 fgX12_223 rfl (by exact k_167 hF8) (by exact hI8.2.2.2.2.2.1.1) ?_
        refine si_3 dX12_law_126 rfl (Nat.le_of_ble_eq_true rfl) ?_
        refine r_iconst (0) dX12_law_127 rfl ?_
        refine si_4 dX12_law_128 rfl (Nat.le_of_ble_eq_true rfl) ?_
        refine L_rcp hF8 (w := n1) (by omega) (by omega) (tp := tp) (fun j hj => ld_n (by omega) (((s7.1.2.2 168 j (by omega) (by omega)).1.trans ((sc6.2.2 168 j (by omega) (by omega)).1)).trans (ld_n (by omega) (ld_n (by omega) (ld_n (by omega) (tb j (by omega)).1))))) (fun m9 o9 hr9 he9 => ?_) N 0 _ (by omega) Off.rf (fun j hj => absurd hj (by omega)) (fun a k ha => rfl)
        have hF9 := Fx_of o9.1 hF8
        refine r_aload_n dX12_law_158 rfl ?_
        refine r_getRc dX12_law_159 fgX12_24 rfl (by exact k_167 hF9) (by exact r_167_12 hF9) ?_
        refine r_iload_n dX12_law_162 rfl ?_
        refine r_iload_n dX12_law_163 rfl ?_
        refine r_iastoren (n1) (nI_cl _ (by omega)) dX12_law_164 (by exact k_177 hF9) (vin (by omega) (by omega)) ?_
        have hFa : Fx (stI m9 177 n1 (nI N)) := Fx_of (m := m9) rfl hF9
        refine r_iload_n dX12_law_165 rfl ?_
        refine r_if_eq 182 dX12_law_166 rfl (fun _ => ?_) (fun hz => absurd hz (by decide))
        refine r_aload_n dX12_law_182 rfl ?_
        refine r_dup dX12_law_183 rfl ?_
        refine r_getIc (nI n1) dX12_law_184 fgX12_223 rfl (by exact k_167 hFa) (by exact ld_n (by omega) ((he9 167 13 (by omega)).trans hI8.2.2.2.2.2.1.1)) ?_
        refine r_iconst (1) dX12_law_187 rfl ?_
        refine r_iadd dX12_law_188 ?_
        rw [nI_1 n1]
        refine r_putI dX12_law_189 (fpX12_223 _ rfl) rfl (by exact k_167 hFa) ⟨rfl, rfl⟩ ?_
        have hFb : Fx (stI (stI m9 177 n1 (nI N)) 167 13 (nI (n1 + 1))) := Fx_of (m := m9) rfl hF9
        refine r_iload_n dX12_law_192 rfl ?_
        refine r_if_eq 205 dX12_law_193 rfl (fun _ => ?_) (fun hz => absurd hz (by decide))
        refine r_aload_n dX12_law_205 rfl ?_
        refine r_getIc (nI (n1 + 1)) dX12_law_206 fgX12_223 rfl (by exact k_167 hFb) (by exact ld_s) ?_
        refine r_iconst (1) dX12_law_209 rfl ?_
        refine r_isub dX12_law_210 ?_
        refine r_ireturn dX12_law_211 rfl rfl ?_
        rw [nI_p1]
        exact k N rfl hN hn4 r he _ ⟨hI8.txt0 hn4 hFb (by omega) ld_s (ld_n (by omega) ld_s) (fun j hj => ⟨ld_n (by omega) (ld_n (by omega) (hr9 j hj)), (tb j (by omega)).2⟩) (fun a k h1 h2 h3 => ld_n (by omega) (ld_n (by omega) (he9 a k h1))), ((o8.tr o9).stI (by omega) (by omega)).stI (by omega) (by omega), ld_n (by omega) (ld_n (by omega) ((he9 167 0 (by omega)).trans th8))⟩
    ·
      refine r_iconst (-1) dX12_law_65 rfl ?_
      refine r_ireturn dX12_law_66 rfl rfl ?_
      exact kf ⟨w12a, w12b⟩ ((nI_eq (b := 4) (by have := hI3.2.2.2.2.2.1.2; omega) (by omega)).mp hfull) _ ⟨hI3, o3, ld_n (by omega) (ld_n (by omega) ld_s)⟩
  ·
    show Wp g mX12_law _ _ _ 15 _ (_ :: _) _ Q
    refine r_if_ne 22 dX12_law_15 rfl (fun hz => absurd hz (by decide)) (fun _ => ?_)
    refine r_iconst (1) dX12_law_18 rfl ?_
    refine r_goto 23 dX12_law_19 rfl ?_
    refine r_iconst (1) dX12_law_23 rfl ?_
    refine r_callV2 (ci := 12) (d1 := 0) (c1 := 0) (n1 := 0) dX12_law_24 mvX12_86 rfl ⟨(Nat.le_of_ble_eq_true rfl), rfl⟩ (Nat.le_of_ble_eq_true rfl) (by exact Nat.le_of_ble_eq_true rfl) (by exact k_167 hJ1.F) ?_
    refine S_bad1 hJ1.F hJ1.2.2 (by decide) ?_
    have hJ2 := hJ1.bad 1
    show Wp g mX12_law _ _ _ 27 _ (_ :: _) _ Q
    refine r_if_eq 32 dX12_law_27 rfl (fun hz => absurd hz (by decide)) (fun _ => ?_)
    refine r_iconst (0) dX12_law_30 rfl ?_
    refine r_ireturn dX12_law_31 rfl rfl ?_
    exact kb w12 _ hJ2
theorem S_rlaw1 {g : GG} {m : MM} {Q : Out → Prop} {f : Nat → Int32} {fs : Nat → Nat → Int32} {ic : Nat} {tp : Nat → Int32} {tn : Nat} {pl : Int32} {n1 n2 : Nat} {ts : Nat → (Nat → Int32) × Nat} (hI : RI f fs ic tp tn pl n1 n2 ts m) {x : Int32} (kb : ¬ (0 ≤ x ∧ x ≤ nI tn) → ∀ m', RJ f fs ic tp tn pl n1 n2 ts m 1 m' → Q (.inl (some (.int 0)), m')) (kf : (0 ≤ x ∧ x ≤ nI tn) → n2 = 3 → ∀ m', RJ f fs ic tp 0 (-1) n1 n2 ts m 0 m' → Q (.inl (some (.int (-1))), m')) (ke : ∀ N, x = nI N → N ≤ tn → n2 < 3 → ∀ e, texP tp N true = .inl e → ∀ m', RJ f fs ic tp 0 (nI e.2) n1 n2 ts m 0 m' → Q (.inl (some (.int (e.1 - 10))), m')) (k : ∀ N, x = nI N → N ≤ tn → n2 < 3 → ∀ r, texP tp N true = .inr r → ∀ m', RJ f fs ic tp 0 (-1) n1 (n2 + 1) (upS ts (4 + n2) (tp, N)) m 0 m' → Q (.inl (some (.int (nI n2))), m')) : Cl g 32 0 0 mX12_law [.ref 167, .int x, .int 1] m Q := by
  refine Cl.of rfl (by decide) (Nat.le_of_ble_eq_true rfl) ?_
  show Wp g mX12_law 32 0 0 0 [.ref 167, .int x, .int 1, .retAddr 0, .retAddr 0] [] m Q
  refine r_aload_n dX12_law_0 rfl ?_
  refine r_iconst (0) dX12_law_1 rfl ?_
  refine r_putI dX12_law_2 (fpX12_79 _ rfl) rfl (by exact k_167 hI.1) ⟨rfl, rfl⟩ ?_
  have hJ1 := hI.go
  refine r_aload_n dX12_law_5 rfl ?_
  refine r_iload_n dX12_law_6 rfl ?_
  refine r_iconst (0) dX12_law_7 rfl ?_
  refine r_aload_n dX12_law_8 rfl ?_
  refine r_getIc (nI tn) dX12_law_9 fgX12_108 rfl (by exact k_167 hJ1.F) (by exact hJ1.1.2.2.2.1.1) ?_
  refine r_callS3 (d1 := 0) (c1 := 0) (n1 := 0) dX12_law_12 msX12_82 rfl (Nat.le_of_ble_eq_true rfl) (by exact Nat.le_of_ble_eq_true rfl) ?_
  refine S_X12_in (fun w12a w12b => ?_) (fun w12 => ?_)
  ·
    show Wp g mX12_law _ _ _ 15 _ (_ :: _) _ Q
    refine r_if_ne 22 dX12_law_15 rfl (fun _ => ?_) (fun hz => absurd hz (by decide))
    refine r_iconst (0) dX12_law_22 rfl ?_
    refine r_iconst (1) dX12_law_23 rfl ?_
    refine r_callV2 (ci := 12) (d1 := 0) (c1 := 0) (n1 := 0) dX12_law_24 mvX12_86 rfl ⟨(Nat.le_of_ble_eq_true rfl), rfl⟩ (Nat.le_of_ble_eq_true rfl) (by exact Nat.le_of_ble_eq_true rfl) (by exact k_167 hJ1.F) ?_
    refine S_bad0 hJ1.F hJ1.2.2 ?_
    show Wp g mX12_law _ _ _ 27 _ (_ :: _) _ Q
    refine r_if_eq 32 dX12_law_27 rfl (fun _ => ?_) (fun hz => absurd hz (by decide))
    refine r_aload_n dX12_law_32 rfl ?_
    refine r_iconst (0) dX12_law_33 rfl ?_
    refine r_putI dX12_law_34 (fpX12_108 _ rfl) rfl (by exact k_167 hJ1.F) ⟨rfl, rfl⟩ ?_
    have hF2 : Fx (stI (stI m 167 0 0) 167 1 0) := Fx_of (m := m) rfl hI.1
    refine r_aload_n dX12_law_37 rfl ?_
    refine r_iconst (-1) dX12_law_38 rfl ?_
    refine r_putI dX12_law_39 (fpX12_11 _ rfl) rfl (by exact k_167 hF2) ⟨rfl, rfl⟩ ?_
    have hI3 : RI f fs ic tp 0 (-1) n1 n2 ts (stI (stI (stI m 167 0 0) 167 1 0) 167 3 (-1)) := hI.tape (Fx_of (m := m) rfl hI.1) (ld_n (by omega) ld_s) ld_s (fun a k ha => ld_n (by omega) (ld_n (by omega) (ld_n (by omega) rfl)))
    have o3 : Off 167 282 m (stI (stI (stI m 167 0 0) 167 1 0) 167 3 (-1)) := ((hJ1.2.1.stI (by omega) (by omega)).stI (by omega) (by omega))
    have hF2 := hI3.1
    refine r_iload_n dX12_law_42 rfl ?_
    refine r_if_eq 57 dX12_law_43 rfl (fun hz => absurd hz (by decide)) (fun _ => ?_)
    refine r_aload_n dX12_law_46 rfl ?_
    refine r_getIc (nI n2) dX12_law_47 fgX12_220 rfl (by exact k_167 hI3.1) (by exact hI3.2.2.2.2.2.2.1.1) ?_
    refine r_iconst (3) dX12_law_50 rfl ?_
    refine r_icmp_ne 67 dX12_law_51 rfl (fun hfull => ?_) (fun hfull => ?_)
    ·
      have hn4 : n2 < 3 := Nat.lt_of_le_of_ne hI3.2.2.2.2.2.2.1.2 (fun q => hfull (by rw [q]; rfl))
      have h400 := hI.2.2.2.1.2.1
      have tb := hI.2.2.2.1.2.2
      obtain ⟨N, hN, rfl⟩ : ∃ N, N ≤ tn ∧ x = nI N := i32_small tn (by omega) w12a w12b
      have hF3 := hI3.1
      refine r_aload_n dX12_law_67 rfl ?_
      refine r_iconst (-1) dX12_law_68 rfl ?_
      refine r_putI dX12_law_69 (fpX12_114 _ rfl) rfl (by exact k_167 hF3) ⟨rfl, rfl⟩ ?_
      have hF3 : Fx (stI (stI (stI (stI m 167 0 0) 167 1 0) 167 3 (-1)) 167 8 (-1)) := Fx_of (m := m) rfl hI.1
      refine r_aload_n dX12_law_72 rfl ?_
      refine r_iload_n dX12_law_73 rfl ?_
      refine r_putI dX12_law_74 (fpX12_111 _ rfl) rfl (by exact k_167 hF3) ⟨rfl, rfl⟩ ?_
      have hF3 : Fx (stI (stI (stI (stI (stI m 167 0 0) 167 1 0) 167 3 (-1)) 167 8 (-1)) 167 2 (nI N)) := Fx_of (m := m) rfl hI.1
      refine r_aload_n dX12_law_77 rfl ?_
      refine r_iload_n dX12_law_78 rfl ?_
      refine r_putI dX12_law_79 (fpX12_207 _ rfl) rfl (by exact k_167 hF3) ⟨rfl, rfl⟩ ?_
      have hF6 : Fx (stI (stI (stI (stI (stI (stI m 167 0 0) 167 1 0) 167 3 (-1)) 167 8 (-1)) 167 2 (nI N)) 167 15 1) := Fx_of (m := m) rfl hI.1
      have sc6 : Sc (stI (stI (stI m 167 0 0) 167 1 0) 167 3 (-1)) (stI (stI (stI (stI (stI (stI m 167 0 0) 167 1 0) 167 3 (-1)) 167 8 (-1)) 167 2 (nI N)) 167 15 1) := ((Sc.rf.s (by unfold scS; omega)).s (by unfold scS; omega)).s (by unfold scS; omega)
      have hI6 := hI3.sc sc6
      have hT : TxB tp N (stI (stI (stI (stI (stI (stI m 167 0 0) 167 1 0) 167 3 (-1)) 167 8 (-1)) 167 2 (nI N)) 167 15 1) := ⟨hF6, by omega, fun j hj => (tb j (by omega)).2, ld_n (by omega) ld_s, Or.inl ⟨ld_n (by omega) (ld_n (by omega) ld_s), fun k hk => ld_n (by omega) (ld_n (by omega) (ld_n (by omega) (ld_n (by omega) (ld_n (by omega) (ld_n (by omega) (tb k (by omega)).1)))))⟩⟩
      refine r_aload_n dX12_law_82 rfl ?_
      refine r_callV0 (ci := 12) (d1 := 31) (c1 := 0) (n1 := 0) dX12_law_83 mvX12_226 rfl ⟨(Nat.le_of_ble_eq_true rfl), rfl⟩ (Nat.le_of_ble_eq_true rfl) (by exact Nat.le_of_ble_eq_true rfl) (by exact k_167 hF6) ?_
      refine S_walks1 hT (N := ldL (stI (stI (stI (stI (stI (stI m 167 0 0) 167 1 0) 167 3 (-1)) 167 8 (-1)) 167 2 (nI N)) 167 15 1) 178) (fun _ _ => rfl) ld_s (fun e he m7 s7 v1 v2 v3 => ?_) (fun r he m7 s7 v1 v3 n7 t7 => ?_)
      ·
        have hF7 := s7.1.F hF6
        have hI7 := hI6.sc s7.1
        show Wp g mX12_law _ _ _ 86 _ [] _ Q
        refine r_aload_n dX12_law_86 rfl ?_
        refine r_aload_n dX12_law_87 rfl ?_
        refine r_getIc (nI e.2) dX12_law_88 fgX12_127 rfl (by exact k_167 hF7) (by exact v3) ?_
        refine r_putI dX12_law_91 (fpX12_11 _ rfl) rfl (by exact k_167 hF7) ⟨rfl, rfl⟩ ?_
        have hI8 : RI f fs ic tp 0 (nI e.2) n1 n2 ts (stI m7 167 3 (nI e.2)) := hI7.tape (Fx_of (m := m7) rfl hF7) (ld_n (by omega) hI7.2.2.2.1.1) ld_s (fun a k ha => ld_n (by omega) rfl)
        have hF8 := hI8.1
        have o8 : Off 167 282 m (stI m7 167 3 (nI e.2)) := ((o3.tr sc6.off).tr s7.1.off).stI (by omega) (by omega)
        have th8 : ldI (stI m7 167 3 (nI e.2)) 167 0 = 0 := ld_n (by omega) (s7.2.trans (ld_n (by omega) (ld_n (by omega) (ld_n (by omega) (ld_n (by omega) (ld_n (by omega) ld_s))))))
        refine r_aload_n dX12_law_94 rfl ?_
        refine r_getIc (e.1) dX12_law_95 fgX12_124 rfl (by exact k_167 hF8) (by exact ld_n (by omega) v1) ?_
        refine r_if_eq 109 dX12_law_98 rfl (fun hf => ?_) (fun hf => ?_)
        ·
          exact absurd hf v2
        ·
          refine r_aload_n dX12_law_101 rfl ?_
          refine r_getIc (e.1) dX12_law_102 fgX12_124 rfl (by exact k_167 hF8) (by exact ld_n (by omega) v1) ?_
          refine r_bipush (10) dX12_law_105 rfl ?_
          refine r_isub dX12_law_107 ?_
          refine r_ireturn dX12_law_108 rfl rfl ?_
          exact ke N rfl hN hn4 e he _ ⟨hI8, o8, th8⟩
      ·
        have hF7 := s7.1.F hF6
        have hI7 := hI6.sc s7.1
        show Wp g mX12_law _ _ _ 86 _ [] _ Q
        refine r_aload_n dX12_law_86 rfl ?_
        refine r_aload_n dX12_law_87 rfl ?_
        refine r_getIc (-1) dX12_law_88 fgX12_127 rfl (by exact k_167 hF7) (by exact v3) ?_
        refine r_putI dX12_law_91 (fpX12_11 _ rfl) rfl (by exact k_167 hF7) ⟨rfl, rfl⟩ ?_
        have hI8 : RI f fs ic tp 0 (-1) n1 n2 ts (stI m7 167 3 (-1)) := hI7.tape (Fx_of (m := m7) rfl hF7) (ld_n (by omega) hI7.2.2.2.1.1) ld_s (fun a k ha => ld_n (by omega) rfl)
        have hF8 := hI8.1
        have o8 : Off 167 282 m (stI m7 167 3 (-1)) := ((o3.tr sc6.off).tr s7.1.off).stI (by omega) (by omega)
        have th8 : ldI (stI m7 167 3 (-1)) 167 0 = 0 := ld_n (by omega) (s7.2.trans (ld_n (by omega) (ld_n (by omega) (ld_n (by omega) (ld_n (by omega) (ld_n (by omega) ld_s))))))
        refine r_aload_n dX12_law_94 rfl ?_
        refine r_getIc (0) dX12_law_95 fgX12_124 rfl (by exact k_167 hF8) (by exact ld_n (by omega) v1) ?_
        refine r_if_eq 109 dX12_law_98 rfl (fun _ => ?_) (fun hz => absurd hz (by decide))
        refine r_iload_n dX12_law_109 rfl ?_
        refine r_if_eq 122 dX12_law_110 rfl (fun hz => absurd hz (by decide)) (fun _ => ?_)
        refine r_iconst (4) dX12_law_113 rfl ?_
        refine r_aload_n dX12_law_114 rfl ?_
        refine r_getIc (nI n2) dX12_law_115 fgX12_220 rfl (by exact k_167 hF8) (by exact hI8.2.2.2.2.2.2.1.1) ?_
        refine r_iadd dX12_law_118 ?_
        rw [show (4 : Int32) + nI n2 = nI (4 + n2) from nI_ad2 (a := 4) (by omega)]
        refine r_goto 126 dX12_law_119 rfl ?_
        refine si_3 dX12_law_126 rfl (Nat.le_of_ble_eq_true rfl) ?_
        refine r_iconst (0) dX12_law_127 rfl ?_
        refine si_4 dX12_law_128 rfl (Nat.le_of_ble_eq_true rfl) ?_
        refine L_rcp hF8 (w := (4 + n2)) (by omega) (by omega) (tp := tp) (fun j hj => ld_n (by omega) (((s7.1.2.2 168 j (by omega) (by omega)).1.trans ((sc6.2.2 168 j (by omega) (by omega)).1)).trans (ld_n (by omega) (ld_n (by omega) (ld_n (by omega) (tb j (by omega)).1))))) (fun m9 o9 hr9 he9 => ?_) N 0 _ (by omega) Off.rf (fun j hj => absurd hj (by omega)) (fun a k ha => rfl)
        have hF9 := Fx_of o9.1 hF8
        refine r_aload_n dX12_law_158 rfl ?_
        refine r_getRc dX12_law_159 fgX12_24 rfl (by exact k_167 hF9) (by exact r_167_12 hF9) ?_
        refine r_iload_n dX12_law_162 rfl ?_
        refine r_iload_n dX12_law_163 rfl ?_
        refine r_iastoren ((4 + n2)) (nI_cl _ (by omega)) dX12_law_164 (by exact k_177 hF9) (vin (by omega) (by omega)) ?_
        have hFa : Fx (stI m9 177 (4 + n2) (nI N)) := Fx_of (m := m9) rfl hF9
        refine r_iload_n dX12_law_165 rfl ?_
        refine r_if_eq 182 dX12_law_166 rfl (fun hz => absurd hz (by decide)) (fun _ => ?_)
        refine r_aload_n dX12_law_169 rfl ?_
        refine r_dup dX12_law_170 rfl ?_
        refine r_getIc (nI n2) dX12_law_171 fgX12_220 rfl (by exact k_167 hFa) (by exact ld_n (by omega) ((he9 167 14 (by omega)).trans hI8.2.2.2.2.2.2.1.1)) ?_
        refine r_iconst (1) dX12_law_174 rfl ?_
        refine r_iadd dX12_law_175 ?_
        rw [nI_1 n2]
        refine r_putI dX12_law_176 (fpX12_220 _ rfl) rfl (by exact k_167 hFa) ⟨rfl, rfl⟩ ?_
        refine r_goto 192 dX12_law_179 rfl ?_
        have hFb : Fx (stI (stI m9 177 (4 + n2) (nI N)) 167 14 (nI (n2 + 1))) := Fx_of (m := m9) rfl hF9
        refine r_iload_n dX12_law_192 rfl ?_
        refine r_if_eq 205 dX12_law_193 rfl (fun hz => absurd hz (by decide)) (fun _ => ?_)
        refine r_aload_n dX12_law_196 rfl ?_
        refine r_getIc (nI (n2 + 1)) dX12_law_197 fgX12_220 rfl (by exact k_167 hFb) (by exact ld_s) ?_
        refine r_iconst (1) dX12_law_200 rfl ?_
        refine r_isub dX12_law_201 ?_
        refine r_goto 211 dX12_law_202 rfl ?_
        refine r_ireturn dX12_law_211 rfl rfl ?_
        rw [nI_p1]
        exact k N rfl hN hn4 r he _ ⟨hI8.txt1 hn4 hFb (by omega) ld_s (ld_n (by omega) ld_s) (fun j hj => ⟨ld_n (by omega) (ld_n (by omega) (hr9 j hj)), (tb j (by omega)).2⟩) (fun a k h1 h2 h3 => ld_n (by omega) (ld_n (by omega) (he9 a k h1))), ((o8.tr o9).stI (by omega) (by omega)).stI (by omega) (by omega), ld_n (by omega) (ld_n (by omega) ((he9 167 0 (by omega)).trans th8))⟩
    ·
      refine r_goto 65 dX12_law_54 rfl ?_
      refine r_iconst (-1) dX12_law_65 rfl ?_
      refine r_ireturn dX12_law_66 rfl rfl ?_
      exact kf ⟨w12a, w12b⟩ ((nI_eq (b := 3) (by have := hI3.2.2.2.2.2.2.1.2; omega) (by omega)).mp hfull) _ ⟨hI3, o3, ld_n (by omega) (ld_n (by omega) ld_s)⟩
  ·
    show Wp g mX12_law _ _ _ 15 _ (_ :: _) _ Q
    refine r_if_ne 22 dX12_law_15 rfl (fun hz => absurd hz (by decide)) (fun _ => ?_)
    refine r_iconst (1) dX12_law_18 rfl ?_
    refine r_goto 23 dX12_law_19 rfl ?_
    refine r_iconst (1) dX12_law_23 rfl ?_
    refine r_callV2 (ci := 12) (d1 := 0) (c1 := 0) (n1 := 0) dX12_law_24 mvX12_86 rfl ⟨(Nat.le_of_ble_eq_true rfl), rfl⟩ (Nat.le_of_ble_eq_true rfl) (by exact Nat.le_of_ble_eq_true rfl) (by exact k_167 hJ1.F) ?_
    refine S_bad1 hJ1.F hJ1.2.2 (by decide) ?_
    have hJ2 := hJ1.bad 1
    show Wp g mX12_law _ _ _ 27 _ (_ :: _) _ Q
    refine r_if_eq 32 dX12_law_27 rfl (fun hz => absurd hz (by decide)) (fun _ => ?_)
    refine r_iconst (0) dX12_law_30 rfl ?_
    refine r_ireturn dX12_law_31 rfl rfl ?_
    exact kb w12 _ hJ2
