/-! images of the reference -/
def mvF (w f : Nat → Int32) (z : Nat) : Nat → Int32 := fun y => if y < z then w y else f y
theorem mvF_up {w f : Nat → Int32} {z : Nat} : upF (mvF w f z) z (w z) = mvF w f (z + 1) := by
  funext y
  by_cases q : y = z
  · subst q; rw [upF_s]; exact (if_pos (by omega)).symm
  · rw [upF_n q rfl]; unfold mvF
    by_cases c : y < z
    · rw [if_pos c, if_pos (by omega)]
    · rw [if_neg c, if_neg (by omega)]
/-- cells moved below z, kept and spot below s -/
def St (b : Int32) (w f : Nat → Int32) (c : Nat) (m0 : MM) (z s : Nat) (m : MM) : Prop := Rd (mvF w f z) m ∧ ldI m 167 44 = nI s ∧ (∀ y, (¬ b = 0 ∨ y < s) → y < 665 → ldI m (280 + c) y = w y) ∧ (b = 0 → w = f) ∧ Fx m ∧ Off 167 282 m0 m ∧ ∀ a k, (a = 167 ∧ (k = 0 ∨ k = 1 ∨ k = 3 ∨ k = 13 ∨ k = 14 ∨ k = 42)) ∨ (168 ≤ a ∧ a ≤ 177) ∨ (280 ≤ a ∧ a ≤ 282 ∧ a ≠ 280 + c) → ldI m a k = ldI m0 a k
theorem St.put {b : Int32} {w f : Nat → Int32} {c z s a k : Nat} {m0 m : MM} (h : St b w f c m0 z s m) (hc : c < 3) (hz : z < 665) (e : lA z = a ∧ lK z = k) : St b w f c m0 (z + 1) s (stI m a k (w z)) := by
  have o := lA_ok hz
  have o2 := lA_bst hz
  rw [e.1, e.2] at o o2
  obtain ⟨h1, h2, h3, h4, h5, h6, h7⟩ := h
  refine ⟨?_, ld_n (by omega) h2, fun y hy hy2 => ld_n (by omega) (h3 y hy hy2), h4, Fx_of (m := m) rfl h5, h6.stI (by omega) (by omega), fun a' k' ha => ld_n (by omega) (h7 a' k' ha)⟩
  rw [← mvF_up]; exact h1.set hz e
theorem St.at {b : Int32} {w f : Nat → Int32} {c z s a k : Nat} {m0 m : MM} (h : St b w f c m0 z s m) (hz : z < 665) (e : lA z = a ∧ lK z = k) : ldI m a k = f z := (h.1.at hz e).trans (if_neg (by omega))
theorem St.sav {b : Int32} {w f : Nat → Int32} {c z : Nat} {m0 m : MM} (h : St b w f c m0 z z m) (hb : b = 0) (hc : c < 3) : St b w f c m0 z (z + 1) (stI (stI m (280 + c) z (f z)) 167 44 (nI (z + 1))) := by
  obtain ⟨h1, h2, h3, h4, h5, h6, h7⟩ := h
  refine ⟨fun y hy => ld_n (fun q => lA_bst hy ⟨q.1, by omega⟩) (ld_n (fun q => by have := lA_ok hy; omega) (h1 y hy)), ld_s, fun y hy hy2 => ld_n (by omega) ?_, h4, Fx_of (m := m) rfl h5, (h6.stI (by omega) (by omega)).stI (by omega) (by omega), fun a' k' ha => ld_n (by omega) (ld_n (by omega) (h7 a' k' ha))⟩
  by_cases q : y = z
  · subst q; rw [h4 hb]; exact ld_s
  · exact ld_n (by omega) (h3 y (Or.inr (by rcases hy with h | h; exact absurd hb h; omega)) hy2)
theorem St.nxt {b : Int32} {w f : Nat → Int32} {c z : Nat} {m0 m : MM} (h : St b w f c m0 z z m) (hb : ¬ b = 0) (hc : c < 3) : St b w f c m0 z (z + 1) (stI m 167 44 (nI (z + 1))) := by
  obtain ⟨h1, h2, h3, h4, h5, h6, h7⟩ := h
  exact ⟨fun y hy => ld_n (fun q => lA_bst hy ⟨q.1, by omega⟩) (h1 y hy), ld_s, fun y hy hy2 => ld_n (by omega) (h3 y (Or.inl hb) hy2), h4, Fx_of (m := m) rfl h5, h6.stI (by omega) (by omega), fun a' k' ha => ld_n (by omega) (h7 a' k' ha)⟩
theorem S_moves {g : GG} {m : MM} {Q : Out → Prop} {b : Int32} {w f : Nat → Int32} {c : Nat} {m0 : MM} (hc : c < 3) {z : Nat} (hz : z < 665) (h : St b w f c m0 z z m) (k : ∀ m', St b w f c m0 z (z + 1) m' → Q (.inl (some (.int (w z))), m')) : Cl g 0 0 0 mX12_moves [.ref 167, .int (nI c), .int (f z), .int b] m Q := by
  refine Cl.of rfl (by decide) (Nat.le_of_ble_eq_true rfl) ?_
  show Wp g mX12_moves 0 0 0 0 [.ref 167, .int (nI c), .int (f z), .int b] [] m Q
  have hF := h.2.2.2.2.1
  refine r_iload_n dX12_moves_0 rfl ?_
  refine r_if_ne 16 dX12_moves_1 rfl (fun hb => ?_) (fun hb => ?_)
  ·
    skip
    refine r_aload_n dX12_moves_16 rfl ?_
    refine r_dup dX12_moves_17 rfl ?_
    refine r_getIc (nI z) dX12_moves_18 fgX12_352 rfl (by exact k_167 hF) (by exact h.2.1) ?_
    refine r_iconst (1) dX12_moves_21 rfl ?_
    refine r_iadd dX12_moves_22 ?_
    rw [nI_1 z]
    refine r_putI dX12_moves_23 (fpX12_352 _ rfl) rfl (by exact k_167 hF) ⟨rfl, rfl⟩ ?_
    have h1 := h.nxt hb hc
    have hF := h1.2.2.2.2.1
    refine r_aload_n dX12_moves_26 rfl ?_
    refine r_getRc dX12_moves_27 fgX12_76 rfl (by exact k_167 hF) (by exact r_167_43 hF) ?_
    refine r_iload_n dX12_moves_30 rfl ?_
    refine r_aaloadc (b := 280 + c) dX12_moves_31 ⟨Nat.le_of_ble_eq_true rfl, Nat.le_of_ble_eq_true rfl⟩ (by exact k_279 hF) (vin (by omega) (by omega)) (by rw [nI_cl _ (by omega)]; exact R_kep hF hc) ?_
    refine r_aload_n dX12_moves_32 rfl ?_
    refine r_getIc (nI (z + 1)) dX12_moves_33 fgX12_352 rfl (by exact k_167 hF) (by exact h1.2.1) ?_
    refine r_iconst (1) dX12_moves_36 rfl ?_
    refine r_isub dX12_moves_37 ?_
    rw [nI_p1 z]
    refine r_ialoadc (w z) dX12_moves_38 (by exact K_kep hF hc) (vin (by omega) (by omega)) (by rw [nI_cl _ (by omega)]; exact h1.2.2.1 z (Or.inr (by omega)) hz) ?_
    refine r_ireturn dX12_moves_39 rfl rfl ?_
    exact k _ h1
  ·
    refine r_aload_n dX12_moves_4 rfl ?_
    refine r_getRc dX12_moves_5 fgX12_76 rfl (by exact k_167 hF) (by exact r_167_43 hF) ?_
    refine r_iload_n dX12_moves_8 rfl ?_
    refine r_aaloadc (b := 280 + c) dX12_moves_9 ⟨Nat.le_of_ble_eq_true rfl, Nat.le_of_ble_eq_true rfl⟩ (by exact k_279 hF) (vin (by omega) (by omega)) (by rw [nI_cl _ (by omega)]; exact R_kep hF hc) ?_
    refine r_aload_n dX12_moves_10 rfl ?_
    refine r_getIc (nI z) dX12_moves_11 fgX12_352 rfl (by exact k_167 hF) (by exact h.2.1) ?_
    refine r_iload_n dX12_moves_14 rfl ?_
    refine r_iastoren (z) (nI_cl _ (by omega)) dX12_moves_15 (by exact K_kep hF hc) (vin (by omega) (by omega)) ?_
    have hF : Fx _ := Fx_of (m := m) (m' := stI m (280 + c) z (f z)) rfl hF
    refine r_aload_n dX12_moves_16 rfl ?_
    refine r_dup dX12_moves_17 rfl ?_
    refine r_getIc (nI z) dX12_moves_18 fgX12_352 rfl (by exact k_167 hF) (by exact ld_n (by omega) h.2.1) ?_
    refine r_iconst (1) dX12_moves_21 rfl ?_
    refine r_iadd dX12_moves_22 ?_
    rw [nI_1 z]
    refine r_putI dX12_moves_23 (fpX12_352 _ rfl) rfl (by exact k_167 hF) ⟨rfl, rfl⟩ ?_
    have h1 := h.sav hb hc
    have hF := h1.2.2.2.2.1
    refine r_aload_n dX12_moves_26 rfl ?_
    refine r_getRc dX12_moves_27 fgX12_76 rfl (by exact k_167 hF) (by exact r_167_43 hF) ?_
    refine r_iload_n dX12_moves_30 rfl ?_
    refine r_aaloadc (b := 280 + c) dX12_moves_31 ⟨Nat.le_of_ble_eq_true rfl, Nat.le_of_ble_eq_true rfl⟩ (by exact k_279 hF) (vin (by omega) (by omega)) (by rw [nI_cl _ (by omega)]; exact R_kep hF hc) ?_
    refine r_aload_n dX12_moves_32 rfl ?_
    refine r_getIc (nI (z + 1)) dX12_moves_33 fgX12_352 rfl (by exact k_167 hF) (by exact h1.2.1) ?_
    refine r_iconst (1) dX12_moves_36 rfl ?_
    refine r_isub dX12_moves_37 ?_
    rw [nI_p1 z]
    refine r_ialoadc (w z) dX12_moves_38 (by exact K_kep hF hc) (vin (by omega) (by omega)) (by rw [nI_cl _ (by omega)]; exact h1.2.2.1 z (Or.inr (by omega)) hz) ?_
    refine r_ireturn dX12_moves_39 rfl rfl ?_
    exact k _ h1
theorem L_mrow {g : GG} {Q : Out → Prop} {b : Int32} {w f : Nat → Int32} {c : Nat} {m0 : MM} (hc : c < 3) {z0 L a : Nat} (hl : ∀ i, i < L → lA (z0 + i) = a ∧ lK (z0 + i) = i) (hA : ∀ m, Fx m → kdl m a = some (13, L)) (h665 : z0 + L ≤ 665) (k : ∀ m', St b w f c m0 (z0 + L) (z0 + L) m' → Q (.inl none, m')) : ∀ (t i : Nat) (m : MM), i + t = L → St b w f c m0 (z0 + i) (z0 + i) m → Wp g mX12_movesRow 1 0 0 3 [.ref 167, .int (nI c), .ref a, .int b, .int (nI i)] [] m Q := by
  intro t
  induction t with
  | zero =>
    intro i m hi h
    obtain rfl : i = L := by omega
    have hF := h.2.2.2.2.1
    refine r_iload dX12_movesRow_3 rfl ?_
    refine r_aload_n dX12_movesRow_5 rfl ?_
    refine r_alen _ dX12_movesRow_6 ⟨Nat.le_of_ble_eq_true rfl, Nat.le_of_ble_eq_true rfl⟩ (by exact hA _ hF) rfl ?_
    refine r_icmp_ge 30 dX12_movesRow_7 rfl (fun hge => ?_) (fun hge => ?_)
    ·
      refine r_return dX12_movesRow_30 rfl ?_
      exact k m h
    ·
      exact absurd (nI_le (Nat.le_refl _) (by omega)) hge
  | succ t ih =>
    intro i m hi h
    have hF := h.2.2.2.2.1
    refine r_iload dX12_movesRow_3 rfl ?_
    refine r_aload_n dX12_movesRow_5 rfl ?_
    refine r_alen _ dX12_movesRow_6 ⟨Nat.le_of_ble_eq_true rfl, Nat.le_of_ble_eq_true rfl⟩ (by exact hA _ hF) rfl ?_
    refine r_icmp_ge 30 dX12_movesRow_7 rfl (fun hge => ?_) (fun hge => ?_)
    ·
      exact absurd hge (nI_ge (by omega) (by omega))
    ·
      refine r_aload_n dX12_movesRow_10 rfl ?_
      refine r_iload dX12_movesRow_11 rfl ?_
      refine r_aload_n dX12_movesRow_13 rfl ?_
      refine r_iload_n dX12_movesRow_14 rfl ?_
      refine r_aload_n dX12_movesRow_15 rfl ?_
      refine r_iload dX12_movesRow_16 rfl ?_
      refine r_ialoadc (f (z0 + i)) dX12_movesRow_18 (by exact hA _ hF) (vin (by omega) (by omega)) (by rw [nI_cl _ (by omega)]; exact h.at (by omega) (hl i (by omega))) ?_
      refine r_iload_n dX12_movesRow_19 rfl ?_
      refine r_callV3 (ci := 12) (d1 := 0) (c1 := 0) (n1 := 0) dX12_movesRow_20 mvX12_355 rfl ⟨(Nat.le_of_ble_eq_true rfl), rfl⟩ (Nat.le_of_ble_eq_true rfl) (by exact Nat.le_of_ble_eq_true rfl) (by exact k_167 hF) ?_
      refine S_moves hc (z := z0 + i) (by omega) h (fun m1 h1 => ?_)
      have hF := h1.2.2.2.2.1
      show Wp g mX12_movesRow _ _ _ 23 _ (_ :: _) _ Q
      refine r_iastoren (i) (nI_cl _ (by omega)) dX12_movesRow_23 (by exact hA _ hF) (vin (by omega) (by omega)) ?_
      refine ic_4 (1) dX12_movesRow_24 rfl rfl (Nat.le_of_ble_eq_true rfl) ?_
      refine r_goto 3 dX12_movesRow_27 rfl ?_
      rw [nI_1 i]
      exact ih (i + 1) _ (by omega) (h1.put hc (by omega) (hl i (by omega)))
theorem S_mrow {g : GG} {m : MM} {Q : Out → Prop} {b : Int32} {w f : Nat → Int32} {c : Nat} {m0 : MM} (hc : c < 3) {z0 L a : Nat} (hl : ∀ i, i < L → lA (z0 + i) = a ∧ lK (z0 + i) = i) (hA : ∀ m, Fx m → kdl m a = some (13, L)) (h665 : z0 + L ≤ 665) (h : St b w f c m0 z0 z0 m) (k : ∀ m', St b w f c m0 (z0 + L) (z0 + L) m' → Q (.inl none, m')) : Cl g 1 0 0 mX12_movesRow [.ref 167, .int (nI c), .ref a, .int b] m Q := by
  refine Cl.of rfl (by decide) (Nat.le_of_ble_eq_true rfl) ?_
  show Wp g mX12_movesRow 1 0 0 0 [.ref 167, .int (nI c), .ref a, .int b, .retAddr 0] [] m Q
  refine r_iconst (0) dX12_movesRow_0 rfl ?_
  refine si_4 dX12_movesRow_1 rfl (Nat.le_of_ble_eq_true rfl) ?_
  exact L_mrow hc hl hA h665 k L 0 m (by omega) h
theorem L_mvb {g : GG} {Q : Out → Prop} {b : Int32} {w f : Nat → Int32} {c : Nat} {m0 : MM} (hc : c < 3) (k : ∀ m', St b w f c m0 (73 + 24 * 6) (73 + 24 * 6) m' → Wp g mX12_movesAll 2 0 0 211 [.ref 167, .int (nI c), .int b, .int (nI 6)] [] m' Q) : ∀ (t i : Nat) (m : MM), i + t = 6 → St b w f c m0 (73 + 24 * i) (73 + 24 * i) m → Wp g mX12_movesAll 2 0 0 175 [.ref 167, .int (nI c), .int b, .int (nI i)] [] m Q := by
  intro t
  induction t with
  | zero =>
    intro i m hi h
    obtain rfl : i = 6 := by omega
    have hF := h.2.2.2.2.1
    refine r_iload_n dX12_movesAll_175 rfl ?_
    refine r_bipush (6) dX12_movesAll_176 rfl ?_
    refine r_icmp_ge 211 dX12_movesAll_178 rfl (fun hge => ?_) (fun hge => ?_)
    ·
      exact k m h
    ·
      exact absurd (by decide) hge
  | succ t ih =>
    intro i m hi h
    have hF := h.2.2.2.2.1
    refine r_iload_n dX12_movesAll_175 rfl ?_
    refine r_bipush (6) dX12_movesAll_176 rfl ?_
    refine r_icmp_ge 211 dX12_movesAll_178 rfl (fun hge => ?_) (fun hge => ?_)
    ·
      exact absurd hge (show ¬ nI 6 ≤ nI i from nI_ge (by omega) (by omega))
    ·
      refine r_aload_n dX12_movesAll_181 rfl ?_
      refine r_iload_n dX12_movesAll_182 rfl ?_
      refine r_aload_n dX12_movesAll_183 rfl ?_
      refine r_getRc dX12_movesAll_184 fgX12_40 rfl (by exact k_167 hF) (by exact r_167_22 hF) ?_
      refine r_iload_n dX12_movesAll_187 rfl ?_
      refine r_aaloadc (b := 183 + i) dX12_movesAll_188 ⟨Nat.le_of_ble_eq_true rfl, Nat.le_of_ble_eq_true rfl⟩ (by exact k_182 hF) (vin (by omega) (by omega)) (by rw [nI_cl _ (by omega)]; exact R_bea hF (by omega)) ?_
      refine r_iload_n dX12_movesAll_189 rfl ?_
      refine r_callV3 (ci := 12) (d1 := 1) (c1 := 0) (n1 := 0) dX12_movesAll_190 mvX12_358 rfl ⟨(Nat.le_of_ble_eq_true rfl), rfl⟩ (Nat.le_of_ble_eq_true rfl) (by exact Nat.le_of_ble_eq_true rfl) (by exact k_167 hF) ?_
      refine S_mrow hc (z0 := 73 + 24 * i) (L := 12) (a := 183 + i) (fun j hj => l_bea (by omega) (by omega)) (fun m hF => K_bea hF (by omega)) (by omega) h (fun m190 h190 => ?_)
      have hF := h190.2.2.2.2.1
      show Wp g mX12_movesAll _ _ _ 193 _ [] _ Q
      refine r_aload_n dX12_movesAll_193 rfl ?_
      refine r_iload_n dX12_movesAll_194 rfl ?_
      refine r_aload_n dX12_movesAll_195 rfl ?_
      refine r_getRc dX12_movesAll_196 fgX12_43 rfl (by exact k_167 hF) (by exact r_167_23 hF) ?_
      refine r_iload_n dX12_movesAll_199 rfl ?_
      refine r_aaloadc (b := 190 + i) dX12_movesAll_200 ⟨Nat.le_of_ble_eq_true rfl, Nat.le_of_ble_eq_true rfl⟩ (by exact k_189 hF) (vin (by omega) (by omega)) (by rw [nI_cl _ (by omega)]; exact R_dra hF (by omega)) ?_
      refine r_iload_n dX12_movesAll_201 rfl ?_
      refine r_callV3 (ci := 12) (d1 := 1) (c1 := 0) (n1 := 0) dX12_movesAll_202 mvX12_358 rfl ⟨(Nat.le_of_ble_eq_true rfl), rfl⟩ (Nat.le_of_ble_eq_true rfl) (by exact Nat.le_of_ble_eq_true rfl) (by exact k_167 hF) ?_
      refine S_mrow hc (z0 := 85 + 24 * i) (L := 12) (a := 190 + i) (fun j hj => l_dra (by omega) (by omega)) (fun m hF => K_dra hF (by omega)) (by omega) (by have z := h190; rw [show 73 + 24 * i + 12 = 85 + 24 * i from by omega] at z; exact z) (fun m202 h202 => ?_)
      have hF := h202.2.2.2.2.1
      show Wp g mX12_movesAll _ _ _ 205 _ [] _ Q
      refine ic_3 (1) dX12_movesAll_205 rfl rfl (Nat.le_of_ble_eq_true rfl) ?_
      refine r_goto 175 dX12_movesAll_208 rfl ?_
      rw [nI_1 i]
      exact ih (i + 1) _ (by omega) (by have z := h202; rw [show 85 + 24 * i + 12 = 73 + 24 * (i + 1) from by omega] at z; exact z)
theorem L_mvr {g : GG} {Q : Out → Prop} {b : Int32} {w f : Nat → Int32} {c : Nat} {m0 : MM} (hc : c < 3) (k : ∀ m', St b w f c m0 (217 + 7 * 60) (217 + 7 * 60) m' → Wp g mX12_movesAll 2 0 0 237 [.ref 167, .int (nI c), .int b, .int (nI 60)] [] m' Q) : ∀ (t i : Nat) (m : MM), i + t = 60 → St b w f c m0 (217 + 7 * i) (217 + 7 * i) m → Wp g mX12_movesAll 2 0 0 213 [.ref 167, .int (nI c), .int b, .int (nI i)] [] m Q := by
  intro t
  induction t with
  | zero =>
    intro i m hi h
    obtain rfl : i = 60 := by omega
    have hF := h.2.2.2.2.1
    refine r_iload_n dX12_movesAll_213 rfl ?_
    refine r_bipush (60) dX12_movesAll_214 rfl ?_
    refine r_icmp_ge 237 dX12_movesAll_216 rfl (fun hge => ?_) (fun hge => ?_)
    ·
      exact k m h
    ·
      exact absurd (by decide) hge
  | succ t ih =>
    intro i m hi h
    have hF := h.2.2.2.2.1
    refine r_iload_n dX12_movesAll_213 rfl ?_
    refine r_bipush (60) dX12_movesAll_214 rfl ?_
    refine r_icmp_ge 237 dX12_movesAll_216 rfl (fun hge => ?_) (fun hge => ?_)
    ·
      exact absurd hge (show ¬ nI 60 ≤ nI i from nI_ge (by omega) (by omega))
    ·
      refine r_aload_n dX12_movesAll_219 rfl ?_
      refine r_iload_n dX12_movesAll_220 rfl ?_
      refine r_aload_n dX12_movesAll_221 rfl ?_
      refine r_getRc dX12_movesAll_222 fgX12_58 rfl (by exact k_167 hF) (by exact r_167_32 hF) ?_
      refine r_iload_n dX12_movesAll_225 rfl ?_
      refine r_aaloadc (b := 200 + i) dX12_movesAll_226 ⟨Nat.le_of_ble_eq_true rfl, Nat.le_of_ble_eq_true rfl⟩ (by exact k_199 hF) (vin (by omega) (by omega)) (by rw [nI_cl _ (by omega)]; exact R_run hF (by omega)) ?_
      refine r_iload_n dX12_movesAll_227 rfl ?_
      refine r_callV3 (ci := 12) (d1 := 1) (c1 := 0) (n1 := 0) dX12_movesAll_228 mvX12_358 rfl ⟨(Nat.le_of_ble_eq_true rfl), rfl⟩ (Nat.le_of_ble_eq_true rfl) (by exact Nat.le_of_ble_eq_true rfl) (by exact k_167 hF) ?_
      refine S_mrow hc (z0 := 217 + 7 * i) (L := 7) (a := 200 + i) (fun j hj => l_run (by omega) (by omega)) (fun m hF => K_run hF (by omega)) (by omega) h (fun m228 h228 => ?_)
      have hF := h228.2.2.2.2.1
      show Wp g mX12_movesAll _ _ _ 231 _ [] _ Q
      refine ic_3 (1) dX12_movesAll_231 rfl rfl (Nat.le_of_ble_eq_true rfl) ?_
      refine r_goto 213 dX12_movesAll_234 rfl ?_
      rw [nI_1 i]
      exact ih (i + 1) _ (by omega) (by have z := h228; rw [show 217 + 7 * i + 7 = 217 + 7 * (i + 1) from by omega] at z; exact z)
theorem L_mvm {g : GG} {Q : Out → Prop} {b : Int32} {w f : Nat → Int32} {c : Nat} {m0 : MM} (hc : c < 3) (k : ∀ m', St b w f c m0 (637 + 2 * 6) (637 + 2 * 6) m' → Wp g mX12_movesAll 2 0 0 263 [.ref 167, .int (nI c), .int b, .int (nI 6)] [] m' Q) : ∀ (t i : Nat) (m : MM), i + t = 6 → St b w f c m0 (637 + 2 * i) (637 + 2 * i) m → Wp g mX12_movesAll 2 0 0 239 [.ref 167, .int (nI c), .int b, .int (nI i)] [] m Q := by
  intro t
  induction t with
  | zero =>
    intro i m hi h
    obtain rfl : i = 6 := by omega
    have hF := h.2.2.2.2.1
    refine r_iload_n dX12_movesAll_239 rfl ?_
    refine r_bipush (6) dX12_movesAll_240 rfl ?_
    refine r_icmp_ge 263 dX12_movesAll_242 rfl (fun hge => ?_) (fun hge => ?_)
    ·
      exact k m h
    ·
      exact absurd (by decide) hge
  | succ t ih =>
    intro i m hi h
    have hF := h.2.2.2.2.1
    refine r_iload_n dX12_movesAll_239 rfl ?_
    refine r_bipush (6) dX12_movesAll_240 rfl ?_
    refine r_icmp_ge 263 dX12_movesAll_242 rfl (fun hge => ?_) (fun hge => ?_)
    ·
      exact absurd hge (show ¬ nI 6 ≤ nI i from nI_ge (by omega) (by omega))
    ·
      refine r_aload_n dX12_movesAll_245 rfl ?_
      refine r_iload_n dX12_movesAll_246 rfl ?_
      refine r_aload_n dX12_movesAll_247 rfl ?_
      refine r_getRc dX12_movesAll_248 fgX12_70 rfl (by exact k_167 hF) (by exact r_167_36 hF) ?_
      refine r_iload_n dX12_movesAll_251 rfl ?_
      refine r_aaloadc (b := 264 + i) dX12_movesAll_252 ⟨Nat.le_of_ble_eq_true rfl, Nat.le_of_ble_eq_true rfl⟩ (by exact k_263 hF) (vin (by omega) (by omega)) (by rw [nI_cl _ (by omega)]; exact R_mil hF (by omega)) ?_
      refine r_iload_n dX12_movesAll_253 rfl ?_
      refine r_callV3 (ci := 12) (d1 := 1) (c1 := 0) (n1 := 0) dX12_movesAll_254 mvX12_358 rfl ⟨(Nat.le_of_ble_eq_true rfl), rfl⟩ (Nat.le_of_ble_eq_true rfl) (by exact Nat.le_of_ble_eq_true rfl) (by exact k_167 hF) ?_
      refine S_mrow hc (z0 := 637 + 2 * i) (L := 2) (a := 264 + i) (fun j hj => l_mil (by omega) (by omega)) (fun m hF => K_mil hF (by omega)) (by omega) h (fun m254 h254 => ?_)
      have hF := h254.2.2.2.2.1
      show Wp g mX12_movesAll _ _ _ 257 _ [] _ Q
      refine ic_3 (1) dX12_movesAll_257 rfl rfl (Nat.le_of_ble_eq_true rfl) ?_
      refine r_goto 239 dX12_movesAll_260 rfl ?_
      rw [nI_1 i]
      exact ih (i + 1) _ (by omega) (by have z := h254; rw [show 637 + 2 * i + 2 = 637 + 2 * (i + 1) from by omega] at z; exact z)
theorem L_mvf {g : GG} {Q : Out → Prop} {b : Int32} {w f : Nat → Int32} {c : Nat} {m0 : MM} (hc : c < 3) (k : ∀ m', St b w f c m0 (649 + 2 * 8) (649 + 2 * 8) m' → Wp g mX12_movesAll 2 0 0 289 [.ref 167, .int (nI c), .int b, .int (nI 8)] [] m' Q) : ∀ (t i : Nat) (m : MM), i + t = 8 → St b w f c m0 (649 + 2 * i) (649 + 2 * i) m → Wp g mX12_movesAll 2 0 0 265 [.ref 167, .int (nI c), .int b, .int (nI i)] [] m Q := by
  intro t
  induction t with
  | zero =>
    intro i m hi h
    obtain rfl : i = 8 := by omega
    have hF := h.2.2.2.2.1
    refine r_iload_n dX12_movesAll_265 rfl ?_
    refine r_bipush (8) dX12_movesAll_266 rfl ?_
    refine r_icmp_ge 289 dX12_movesAll_268 rfl (fun hge => ?_) (fun hge => ?_)
    ·
      exact k m h
    ·
      exact absurd (by decide) hge
  | succ t ih =>
    intro i m hi h
    have hF := h.2.2.2.2.1
    refine r_iload_n dX12_movesAll_265 rfl ?_
    refine r_bipush (8) dX12_movesAll_266 rfl ?_
    refine r_icmp_ge 289 dX12_movesAll_268 rfl (fun hge => ?_) (fun hge => ?_)
    ·
      exact absurd hge (show ¬ nI 8 ≤ nI i from nI_ge (by omega) (by omega))
    ·
      refine r_aload_n dX12_movesAll_271 rfl ?_
      refine r_iload_n dX12_movesAll_272 rfl ?_
      refine r_aload_n dX12_movesAll_273 rfl ?_
      refine r_getRc dX12_movesAll_274 fgX12_73 rfl (by exact k_167 hF) (by exact r_167_37 hF) ?_
      refine r_iload_n dX12_movesAll_277 rfl ?_
      refine r_aaloadc (b := 271 + i) dX12_movesAll_278 ⟨Nat.le_of_ble_eq_true rfl, Nat.le_of_ble_eq_true rfl⟩ (by exact k_270 hF) (vin (by omega) (by omega)) (by rw [nI_cl _ (by omega)]; exact R_fou hF (by omega)) ?_
      refine r_iload_n dX12_movesAll_279 rfl ?_
      refine r_callV3 (ci := 12) (d1 := 1) (c1 := 0) (n1 := 0) dX12_movesAll_280 mvX12_358 rfl ⟨(Nat.le_of_ble_eq_true rfl), rfl⟩ (Nat.le_of_ble_eq_true rfl) (by exact Nat.le_of_ble_eq_true rfl) (by exact k_167 hF) ?_
      refine S_mrow hc (z0 := 649 + 2 * i) (L := 2) (a := 271 + i) (fun j hj => l_fou (by omega) (by omega)) (fun m hF => K_fou hF (by omega)) (by omega) h (fun m280 h280 => ?_)
      have hF := h280.2.2.2.2.1
      show Wp g mX12_movesAll _ _ _ 283 _ [] _ Q
      refine ic_3 (1) dX12_movesAll_283 rfl rfl (Nat.le_of_ble_eq_true rfl) ?_
      refine r_goto 265 dX12_movesAll_286 rfl ?_
      rw [nI_1 i]
      exact ih (i + 1) _ (by omega) (by have z := h280; rw [show 649 + 2 * i + 2 = 649 + 2 * (i + 1) from by omega] at z; exact z)
theorem S_mvAll {g : GG} {m : MM} {Q : Out → Prop} {b : Int32} {w f : Nat → Int32} {c : Nat} (hc : c < 3) (hF : Fx m) (hd : Rd f m) (hk : ¬ b = 0 → ∀ y, y < 665 → ldI m (280 + c) y = w y) (hw : b = 0 → w = f) (k : ∀ m', St b w f c m 665 665 m' → Q (.inl none, m')) : Cl g 2 0 0 mX12_movesAll [.ref 167, .int (nI c), .int b] m Q := by
  refine Cl.of rfl (by decide) (Nat.le_of_ble_eq_true rfl) ?_
  show Wp g mX12_movesAll 2 0 0 0 [.ref 167, .int (nI c), .int b, .retAddr 0] [] m Q
  refine r_aload_n dX12_movesAll_0 rfl ?_
  refine r_iconst (0) dX12_movesAll_1 rfl ?_
  refine r_putI dX12_movesAll_2 (fpX12_352 _ rfl) rfl (by exact k_167 hF) ⟨rfl, rfl⟩ ?_
  have h5 : St b w f c m 0 0 (stI m 167 44 0) := ⟨fun y hy => ld_n (fun q => lA_bst hy ⟨q.1, by omega⟩) ((hd y hy).trans (if_neg (by omega)).symm), ld_s, fun y hy hy2 => ld_n (by omega) (hk (hy.resolve_right (by omega)) y hy2), hw, Fx_of (m := m) rfl hF, Off.rf.stI (by omega) (by omega), fun a k ha => ld_n (by omega) rfl⟩
  have hF := h5.2.2.2.2.1
  refine r_aload_n dX12_movesAll_5 rfl ?_
  refine r_aload_n dX12_movesAll_6 rfl ?_
  refine r_iload_n dX12_movesAll_7 rfl ?_
  refine r_aload_n dX12_movesAll_8 rfl ?_
  refine r_getIc (f 0) dX12_movesAll_9 fgX12_90 rfl (by exact k_167 hF) (by exact h5.at (by omega) l_0) ?_
  refine r_iload_n dX12_movesAll_12 rfl ?_
  refine r_callV3 (ci := 12) (d1 := 0) (c1 := 0) (n1 := 0) dX12_movesAll_13 mvX12_355 rfl ⟨(Nat.le_of_ble_eq_true rfl), rfl⟩ (Nat.le_of_ble_eq_true rfl) (by exact Nat.le_of_ble_eq_true rfl) (by exact k_167 hF) ?_
  refine S_moves hc (z := 0) (by omega) h5 (fun m13 h13 => ?_)
  have hF := h13.2.2.2.2.1
  show Wp g mX12_movesAll _ _ _ 16 _ (_ :: _) _ Q
  refine r_putI dX12_movesAll_16 (fpX12_90 _ rfl) rfl (by exact k_167 hF) ⟨rfl, rfl⟩ ?_
  have p19 := h13.put hc (by omega) l_0
  have hF := p19.2.2.2.2.1
  refine r_aload_n dX12_movesAll_19 rfl ?_
  refine r_aload_n dX12_movesAll_20 rfl ?_
  refine r_iload_n dX12_movesAll_21 rfl ?_
  refine r_aload_n dX12_movesAll_22 rfl ?_
  refine r_getIc (f 1) dX12_movesAll_23 fgX12_105 rfl (by exact k_167 hF) (by exact p19.at (by omega) l_1) ?_
  refine r_iload_n dX12_movesAll_26 rfl ?_
  refine r_callV3 (ci := 12) (d1 := 0) (c1 := 0) (n1 := 0) dX12_movesAll_27 mvX12_355 rfl ⟨(Nat.le_of_ble_eq_true rfl), rfl⟩ (Nat.le_of_ble_eq_true rfl) (by exact Nat.le_of_ble_eq_true rfl) (by exact k_167 hF) ?_
  refine S_moves hc (z := 1) (by omega) p19 (fun m27 h27 => ?_)
  have hF := h27.2.2.2.2.1
  show Wp g mX12_movesAll _ _ _ 30 _ (_ :: _) _ Q
  refine r_putI dX12_movesAll_30 (fpX12_105 _ rfl) rfl (by exact k_167 hF) ⟨rfl, rfl⟩ ?_
  have p33 := h27.put hc (by omega) l_1
  have hF := p33.2.2.2.2.1
  refine r_aload_n dX12_movesAll_33 rfl ?_
  refine r_aload_n dX12_movesAll_34 rfl ?_
  refine r_iload_n dX12_movesAll_35 rfl ?_
  refine r_aload_n dX12_movesAll_36 rfl ?_
  refine r_getIc (f 2) dX12_movesAll_37 fgX12_287 rfl (by exact k_167 hF) (by exact p33.at (by omega) l_2) ?_
  refine r_iload_n dX12_movesAll_40 rfl ?_
  refine r_callV3 (ci := 12) (d1 := 0) (c1 := 0) (n1 := 0) dX12_movesAll_41 mvX12_355 rfl ⟨(Nat.le_of_ble_eq_true rfl), rfl⟩ (Nat.le_of_ble_eq_true rfl) (by exact Nat.le_of_ble_eq_true rfl) (by exact k_167 hF) ?_
  refine S_moves hc (z := 2) (by omega) p33 (fun m41 h41 => ?_)
  have hF := h41.2.2.2.2.1
  show Wp g mX12_movesAll _ _ _ 44 _ (_ :: _) _ Q
  refine r_putI dX12_movesAll_44 (fpX12_287 _ rfl) rfl (by exact k_167 hF) ⟨rfl, rfl⟩ ?_
  have p47 := h41.put hc (by omega) l_2
  have hF := p47.2.2.2.2.1
  refine r_aload_n dX12_movesAll_47 rfl ?_
  refine r_aload_n dX12_movesAll_48 rfl ?_
  refine r_iload_n dX12_movesAll_49 rfl ?_
  refine r_aload_n dX12_movesAll_50 rfl ?_
  refine r_getIc (f 3) dX12_movesAll_51 fgX12_300 rfl (by exact k_167 hF) (by exact p47.at (by omega) l_3) ?_
  refine r_iload_n dX12_movesAll_54 rfl ?_
  refine r_callV3 (ci := 12) (d1 := 0) (c1 := 0) (n1 := 0) dX12_movesAll_55 mvX12_355 rfl ⟨(Nat.le_of_ble_eq_true rfl), rfl⟩ (Nat.le_of_ble_eq_true rfl) (by exact Nat.le_of_ble_eq_true rfl) (by exact k_167 hF) ?_
  refine S_moves hc (z := 3) (by omega) p47 (fun m55 h55 => ?_)
  have hF := h55.2.2.2.2.1
  show Wp g mX12_movesAll _ _ _ 58 _ (_ :: _) _ Q
  refine r_putI dX12_movesAll_58 (fpX12_300 _ rfl) rfl (by exact k_167 hF) ⟨rfl, rfl⟩ ?_
  have p61 := h55.put hc (by omega) l_3
  have hF := p61.2.2.2.2.1
  refine r_aload_n dX12_movesAll_61 rfl ?_
  refine r_aload_n dX12_movesAll_62 rfl ?_
  refine r_iload_n dX12_movesAll_63 rfl ?_
  refine r_aload_n dX12_movesAll_64 rfl ?_
  refine r_getIc (f 4) dX12_movesAll_65 fgX12_338 rfl (by exact k_167 hF) (by exact p61.at (by omega) l_4) ?_
  refine r_iload_n dX12_movesAll_68 rfl ?_
  refine r_callV3 (ci := 12) (d1 := 0) (c1 := 0) (n1 := 0) dX12_movesAll_69 mvX12_355 rfl ⟨(Nat.le_of_ble_eq_true rfl), rfl⟩ (Nat.le_of_ble_eq_true rfl) (by exact Nat.le_of_ble_eq_true rfl) (by exact k_167 hF) ?_
  refine S_moves hc (z := 4) (by omega) p61 (fun m69 h69 => ?_)
  have hF := h69.2.2.2.2.1
  show Wp g mX12_movesAll _ _ _ 72 _ (_ :: _) _ Q
  refine r_putI dX12_movesAll_72 (fpX12_338 _ rfl) rfl (by exact k_167 hF) ⟨rfl, rfl⟩ ?_
  have p75 := h69.put hc (by omega) l_4
  have hF := p75.2.2.2.2.1
  refine r_aload_n dX12_movesAll_75 rfl ?_
  refine r_aload_n dX12_movesAll_76 rfl ?_
  refine r_iload_n dX12_movesAll_77 rfl ?_
  refine r_aload_n dX12_movesAll_78 rfl ?_
  refine r_getIc (f 5) dX12_movesAll_79 fgX12_349 rfl (by exact k_167 hF) (by exact p75.at (by omega) l_5) ?_
  refine r_iload_n dX12_movesAll_82 rfl ?_
  refine r_callV3 (ci := 12) (d1 := 0) (c1 := 0) (n1 := 0) dX12_movesAll_83 mvX12_355 rfl ⟨(Nat.le_of_ble_eq_true rfl), rfl⟩ (Nat.le_of_ble_eq_true rfl) (by exact Nat.le_of_ble_eq_true rfl) (by exact k_167 hF) ?_
  refine S_moves hc (z := 5) (by omega) p75 (fun m83 h83 => ?_)
  have hF := h83.2.2.2.2.1
  show Wp g mX12_movesAll _ _ _ 86 _ (_ :: _) _ Q
  refine r_putI dX12_movesAll_86 (fpX12_349 _ rfl) rfl (by exact k_167 hF) ⟨rfl, rfl⟩ ?_
  have p89 := h83.put hc (by omega) l_5
  have hF := p89.2.2.2.2.1
  refine r_aload_n dX12_movesAll_89 rfl ?_
  refine r_aload_n dX12_movesAll_90 rfl ?_
  refine r_iload_n dX12_movesAll_91 rfl ?_
  refine r_aload_n dX12_movesAll_92 rfl ?_
  refine r_getIc (f 6) dX12_movesAll_93 fgX12_55 rfl (by exact k_167 hF) (by exact p89.at (by omega) l_6) ?_
  refine r_iload_n dX12_movesAll_96 rfl ?_
  refine r_callV3 (ci := 12) (d1 := 0) (c1 := 0) (n1 := 0) dX12_movesAll_97 mvX12_355 rfl ⟨(Nat.le_of_ble_eq_true rfl), rfl⟩ (Nat.le_of_ble_eq_true rfl) (by exact Nat.le_of_ble_eq_true rfl) (by exact k_167 hF) ?_
  refine S_moves hc (z := 6) (by omega) p89 (fun m97 h97 => ?_)
  have hF := h97.2.2.2.2.1
  show Wp g mX12_movesAll _ _ _ 100 _ (_ :: _) _ Q
  refine r_putI dX12_movesAll_100 (fpX12_55 _ rfl) rfl (by exact k_167 hF) ⟨rfl, rfl⟩ ?_
  have p103 := h97.put hc (by omega) l_6
  have hF := p103.2.2.2.2.1
  refine r_aload_n dX12_movesAll_103 rfl ?_
  refine r_iload_n dX12_movesAll_104 rfl ?_
  refine r_aload_n dX12_movesAll_105 rfl ?_
  refine r_getRc dX12_movesAll_106 fgX12_34 rfl (by exact k_167 hF) (by exact r_167_20 hF) ?_
  refine r_iload_n dX12_movesAll_109 rfl ?_
  refine r_callV3 (ci := 12) (d1 := 1) (c1 := 0) (n1 := 0) dX12_movesAll_110 mvX12_358 rfl ⟨(Nat.le_of_ble_eq_true rfl), rfl⟩ (Nat.le_of_ble_eq_true rfl) (by exact Nat.le_of_ble_eq_true rfl) (by exact k_167 hF) ?_
  refine S_mrow hc (z0 := 7) (L := 6) (a := 180) (fun j hj => l_len (by omega)) (fun m hF => k_180 hF) (by omega) p103 (fun m110 h110 => ?_)
  have hF := h110.2.2.2.2.1
  show Wp g mX12_movesAll _ _ _ 113 _ [] _ Q
  refine r_aload_n dX12_movesAll_113 rfl ?_
  refine r_iload_n dX12_movesAll_114 rfl ?_
  refine r_aload_n dX12_movesAll_115 rfl ?_
  refine r_getRc dX12_movesAll_116 fgX12_37 rfl (by exact k_167 hF) (by exact r_167_21 hF) ?_
  refine r_iload_n dX12_movesAll_119 rfl ?_
  refine r_callV3 (ci := 12) (d1 := 1) (c1 := 0) (n1 := 0) dX12_movesAll_120 mvX12_358 rfl ⟨(Nat.le_of_ble_eq_true rfl), rfl⟩ (Nat.le_of_ble_eq_true rfl) (by exact Nat.le_of_ble_eq_true rfl) (by exact k_167 hF) ?_
  refine S_mrow hc (z0 := 13) (L := 6) (a := 181) (fun j hj => l_sta (by omega)) (fun m hF => k_181 hF) (by omega) h110 (fun m120 h120 => ?_)
  have hF := h120.2.2.2.2.1
  show Wp g mX12_movesAll _ _ _ 123 _ [] _ Q
  refine r_aload_n dX12_movesAll_123 rfl ?_
  refine r_iload_n dX12_movesAll_124 rfl ?_
  refine r_aload_n dX12_movesAll_125 rfl ?_
  refine r_getRc dX12_movesAll_126 fgX12_46 rfl (by exact k_167 hF) (by exact r_167_24 hF) ?_
  refine r_iload_n dX12_movesAll_129 rfl ?_
  refine r_callV3 (ci := 12) (d1 := 1) (c1 := 0) (n1 := 0) dX12_movesAll_130 mvX12_358 rfl ⟨(Nat.le_of_ble_eq_true rfl), rfl⟩ (Nat.le_of_ble_eq_true rfl) (by exact Nat.le_of_ble_eq_true rfl) (by exact k_167 hF) ?_
  refine S_mrow hc (z0 := 19) (L := 4) (a := 196) (fun j hj => l_wid (by omega)) (fun m hF => k_196 hF) (by omega) h120 (fun m130 h130 => ?_)
  have hF := h130.2.2.2.2.1
  show Wp g mX12_movesAll _ _ _ 133 _ [] _ Q
  refine r_aload_n dX12_movesAll_133 rfl ?_
  refine r_iload_n dX12_movesAll_134 rfl ?_
  refine r_aload_n dX12_movesAll_135 rfl ?_
  refine r_getRc dX12_movesAll_136 fgX12_49 rfl (by exact k_167 hF) (by exact r_167_25 hF) ?_
  refine r_iload_n dX12_movesAll_139 rfl ?_
  refine r_callV3 (ci := 12) (d1 := 1) (c1 := 0) (n1 := 0) dX12_movesAll_140 mvX12_358 rfl ⟨(Nat.le_of_ble_eq_true rfl), rfl⟩ (Nat.le_of_ble_eq_true rfl) (by exact Nat.le_of_ble_eq_true rfl) (by exact k_167 hF) ?_
  refine S_mrow hc (z0 := 23) (L := 4) (a := 197) (fun j hj => l_dep (by omega)) (fun m hF => k_197 hF) (by omega) h130 (fun m140 h140 => ?_)
  have hF := h140.2.2.2.2.1
  show Wp g mX12_movesAll _ _ _ 143 _ [] _ Q
  refine r_aload_n dX12_movesAll_143 rfl ?_
  refine r_iload_n dX12_movesAll_144 rfl ?_
  refine r_aload_n dX12_movesAll_145 rfl ?_
  refine r_getRc dX12_movesAll_146 fgX12_52 rfl (by exact k_167 hF) (by exact r_167_26 hF) ?_
  refine r_iload_n dX12_movesAll_149 rfl ?_
  refine r_callV3 (ci := 12) (d1 := 1) (c1 := 0) (n1 := 0) dX12_movesAll_150 mvX12_358 rfl ⟨(Nat.le_of_ble_eq_true rfl), rfl⟩ (Nat.le_of_ble_eq_true rfl) (by exact Nat.le_of_ble_eq_true rfl) (by exact k_167 hF) ?_
  refine S_mrow hc (z0 := 27) (L := 6) (a := 198) (fun j hj => l_han (by omega)) (fun m hF => k_198 hF) (by omega) h140 (fun m150 h150 => ?_)
  have hF := h150.2.2.2.2.1
  show Wp g mX12_movesAll _ _ _ 153 _ [] _ Q
  refine r_aload_n dX12_movesAll_153 rfl ?_
  refine r_iload_n dX12_movesAll_154 rfl ?_
  refine r_aload_n dX12_movesAll_155 rfl ?_
  refine r_getRc dX12_movesAll_156 fgX12_61 rfl (by exact k_167 hF) (by exact r_167_33 hF) ?_
  refine r_iload_n dX12_movesAll_159 rfl ?_
  refine r_callV3 (ci := 12) (d1 := 1) (c1 := 0) (n1 := 0) dX12_movesAll_160 mvX12_358 rfl ⟨(Nat.le_of_ble_eq_true rfl), rfl⟩ (Nat.le_of_ble_eq_true rfl) (by exact Nat.le_of_ble_eq_true rfl) (by exact k_167 hF) ?_
  refine S_mrow hc (z0 := 33) (L := 20) (a := 260) (fun j hj => l_for (by omega)) (fun m hF => k_260 hF) (by omega) h150 (fun m160 h160 => ?_)
  have hF := h160.2.2.2.2.1
  show Wp g mX12_movesAll _ _ _ 163 _ [] _ Q
  refine r_aload_n dX12_movesAll_163 rfl ?_
  refine r_iload_n dX12_movesAll_164 rfl ?_
  refine r_aload_n dX12_movesAll_165 rfl ?_
  refine r_getRc dX12_movesAll_166 fgX12_64 rfl (by exact k_167 hF) (by exact r_167_34 hF) ?_
  refine r_iload_n dX12_movesAll_169 rfl ?_
  refine r_callV3 (ci := 12) (d1 := 1) (c1 := 0) (n1 := 0) dX12_movesAll_170 mvX12_358 rfl ⟨(Nat.le_of_ble_eq_true rfl), rfl⟩ (Nat.le_of_ble_eq_true rfl) (by exact Nat.le_of_ble_eq_true rfl) (by exact k_167 hF) ?_
  refine S_mrow hc (z0 := 53) (L := 20) (a := 261) (fun j hj => l_was (by omega)) (fun m hF => k_261 hF) (by omega) h160 (fun m170 h170 => ?_)
  have hF := h170.2.2.2.2.1
  show Wp g mX12_movesAll _ _ _ 173 _ [] _ Q
  refine r_iconst (0) dX12_movesAll_173 rfl ?_
  refine si_3 dX12_movesAll_174 rfl (Nat.le_of_ble_eq_true rfl) ?_
  refine L_mvb hc (fun m211 h211 => ?_) 6 0 _ (by omega) h170
  have hF := h211.2.2.2.2.1
  refine r_iconst (0) dX12_movesAll_211 rfl ?_
  refine si_3 dX12_movesAll_212 rfl (Nat.le_of_ble_eq_true rfl) ?_
  refine L_mvr hc (fun m237 h237 => ?_) 60 0 _ (by omega) h211
  have hF := h237.2.2.2.2.1
  refine r_iconst (0) dX12_movesAll_237 rfl ?_
  refine si_3 dX12_movesAll_238 rfl (Nat.le_of_ble_eq_true rfl) ?_
  refine L_mvm hc (fun m263 h263 => ?_) 6 0 _ (by omega) h237
  have hF := h263.2.2.2.2.1
  refine r_iconst (0) dX12_movesAll_263 rfl ?_
  refine si_3 dX12_movesAll_264 rfl (Nat.le_of_ble_eq_true rfl) ?_
  refine L_mvf hc (fun m289 h289 => ?_) 8 0 _ (by omega) h263
  have hF := h289.2.2.2.2.1
  refine r_return dX12_movesAll_289 rfl ?_
  exact k _ h289
theorem St.rd {b : Int32} {w f : Nat → Int32} {c : Nat} {m0 m : MM} (h : St b w f c m0 665 665 m) : Rd w m := fun y hy => (h.1 y hy).trans (if_pos hy)
section RImv
variable {f : Nat → Int32} {fs : Nat → Nat → Int32} {ic : Nat} {tp : Nat → Int32} {tn : Nat} {pl : Int32} {n1 n2 : Nat} {ts : Nat → (Nat → Int32) × Nat} {m m' : MM}
theorem RI.mv {w : Nat → Int32} {fs' : Nat → Nat → Int32} {ic' : Nat} (h : RI f fs ic tp tn pl n1 n2 ts m) (hF : Fx m') (hd : Rd w m') (hk : ldI m' 167 42 = nI ic' ∧ ic' ≤ 3 ∧ ∀ k, k < ic' → ∀ z, z < 665 → ldI m' (280 + k) z = fs' k z) (e : ∀ a k, (a = 167 ∧ (k = 1 ∨ k = 3 ∨ k = 13 ∨ k = 14)) ∨ (168 ≤ a ∧ a ≤ 177) → ldI m' a k = ldI m a k) : RI w fs' ic' tp tn pl n1 n2 ts m' := by
  obtain ⟨-, -, -, ⟨d1, d2, d3⟩, e1, ⟨f1, f2⟩, ⟨g1, g2⟩, h1⟩ := h
  exact ⟨hF, hd, hk, ⟨(e 167 1 (by omega)).trans d1, d2, fun j hj => ⟨(e _ _ (by omega)).trans (d3 j hj).1, (d3 j hj).2⟩⟩, (e 167 3 (by omega)).trans e1, ⟨(e 167 13 (by omega)).trans f1, f2⟩, ⟨(e 167 14 (by omega)).trans g1, g2⟩, fun l hl => ⟨(e _ _ (by omega)).trans (h1 l hl).1, (h1 l hl).2.1, fun j hj => ⟨(e _ _ (by omega)).trans ((h1 l hl).2.2 j hj).1, ((h1 l hl).2.2 j hj).2⟩⟩⟩
end RImv
theorem S_X12_image {g : GG} {m : MM} {Q : Out → Prop} {f : Nat → Int32} {fs : Nat → Nat → Int32} {ic : Nat} {tp : Nat → Int32} {tn : Nat} {pl : Int32} {n1 n2 : Nat} {ts : Nat → (Nat → Int32) × Nat} (hI : RI f fs ic tp tn pl n1 n2 ts m) (kf : ic = 3 → ∀ m', RJ f fs ic tp tn pl n1 n2 ts m 0 m' → Q (.inl (some (.int (-1))), m')) (k : ic < 3 → ∀ m', RJ f (imF f fs ic) (ic + 1) tp tn pl n1 n2 ts m 0 m' → Q (.inl (some (.int (nI (ic + 1)))), m')) : Cl g 3 0 0 mX12_image [.ref 167] m Q := by
  refine Cl.of rfl (by decide) (Nat.le_of_ble_eq_true rfl) ?_
  show Wp g mX12_image 3 0 0 0 [.ref 167] [] m Q
  refine r_aload_n dX12_image_0 rfl ?_
  refine r_iconst (0) dX12_image_1 rfl ?_
  refine r_putI dX12_image_2 (fpX12_79 _ rfl) rfl (by exact k_167 hI.1) ⟨rfl, rfl⟩ ?_
  have hJ1 := hI.go
  refine r_aload_n dX12_image_5 rfl ?_
  refine r_getIc (nI ic) dX12_image_6 fgX12_362 rfl (by exact k_167 hJ1.F) (by exact hJ1.1.2.2.1.1) ?_
  refine r_iconst (3) dX12_image_9 rfl ?_
  refine r_icmp_ne 15 dX12_image_10 rfl (fun h3 => ?_) (fun h3 => ?_)
  ·
    have hc : ic < 3 := by have := hI.2.2.1.2.1; exact Nat.lt_of_le_of_ne this (fun q => h3 (by rw [q]; rfl))
    refine r_aload_n dX12_image_15 rfl ?_
    refine r_aload_n dX12_image_16 rfl ?_
    refine r_getIc (nI ic) dX12_image_17 fgX12_362 rfl (by exact k_167 hJ1.F) (by exact hJ1.1.2.2.1.1) ?_
    refine r_iconst (0) dX12_image_20 rfl ?_
    refine r_callV2 (ci := 12) (d1 := 2) (c1 := 0) (n1 := 0) dX12_image_21 mvX12_365 rfl ⟨(Nat.le_of_ble_eq_true rfl), rfl⟩ (Nat.le_of_ble_eq_true rfl) (by exact Nat.le_of_ble_eq_true rfl) (by exact k_167 hJ1.F) ?_
    refine S_mvAll (w := f) (f := f) hc hJ1.F hJ1.1.2.1 (fun q => absurd rfl q) (fun _ => rfl) (fun m9 h9 => ?_)
    have hF9 := h9.2.2.2.2.1
    show Wp g mX12_image _ _ _ 24 _ [] _ Q
    refine r_aload_n dX12_image_24 rfl ?_
    refine r_dup dX12_image_25 rfl ?_
    refine r_getIc (nI ic) dX12_image_26 fgX12_362 rfl (by exact k_167 hF9) (by exact (h9.2.2.2.2.2.2 167 42 (by omega)).trans hJ1.1.2.2.1.1) ?_
    refine r_iconst (1) dX12_image_29 rfl ?_
    refine r_iadd dX12_image_30 ?_
    rw [nI_1 ic]
    refine r_putI dX12_image_31 (fpX12_362 _ rfl) rfl (by exact k_167 hF9) ⟨rfl, rfl⟩ ?_
    have hF9 : Fx _ := Fx_of (m := m9) (m' := stI m9 167 42 (nI (ic + 1))) rfl hF9
    refine r_aload_n dX12_image_34 rfl ?_
    refine r_getIc (nI (ic + 1)) dX12_image_35 fgX12_362 rfl (by exact k_167 hF9) (by exact ld_s) ?_
    refine r_ireturn dX12_image_38 rfl rfl ?_
    refine k hc _ ⟨hJ1.1.mv hF9 (fun z hz => ld_n (fun q => lA_bst hz ⟨q.1, by omega⟩) (h9.rd z hz)) ⟨ld_s, by omega, fun j hj z hz => ld_n (by omega) ?_⟩ (fun a k ha => ld_n (by omega) (h9.2.2.2.2.2.2 a k (by omega))), (hJ1.2.1.tr h9.2.2.2.2.2.1).stI (by omega) (by omega), ld_n (by omega) ((h9.2.2.2.2.2.2 167 0 (by omega)).trans hJ1.2.2)⟩
    by_cases q : j = ic
    · subst q; rw [show imF f fs j j = f from if_pos rfl]; exact h9.2.2.1 z (Or.inr hz) hz
    · rw [show imF f fs ic j = fs j from if_neg q]; exact (h9.2.2.2.2.2.2 (280 + j) z (by omega)).trans (hJ1.1.2.2.1.2.2 j (by omega) z hz)
  ·
    refine r_iconst (-1) dX12_image_13 rfl ?_
    refine r_ireturn dX12_image_14 rfl rfl ?_
    exact kf ((nI_eq (b := 3) (by have := hI.2.2.1.2.1; omega) (by omega)).mp h3) _ hJ1
theorem S_X12_restore {g : GG} {m : MM} {Q : Out → Prop} {f : Nat → Int32} {fs : Nat → Nat → Int32} {ic : Nat} {tp : Nat → Int32} {tn : Nat} {pl : Int32} {n1 n2 : Nat} {ts : Nat → (Nat → Int32) × Nat} (hI : RI f fs ic tp tn pl n1 n2 ts m) (kf : ic = 0 → ∀ m', RJ f fs ic tp tn pl n1 n2 ts m 0 m' → Q (.inl (some (.int (-1))), m')) (k : ∀ q, ic = q + 1 → ∀ m', RJ (fs q) fs q tp tn pl n1 n2 ts m 0 m' → Q (.inl (some (.int (nI q))), m')) : Cl g 3 0 0 mX12_restore [.ref 167] m Q := by
  refine Cl.of rfl (by decide) (Nat.le_of_ble_eq_true rfl) ?_
  show Wp g mX12_restore 3 0 0 0 [.ref 167] [] m Q
  refine r_aload_n dX12_restore_0 rfl ?_
  refine r_iconst (0) dX12_restore_1 rfl ?_
  refine r_putI dX12_restore_2 (fpX12_79 _ rfl) rfl (by exact k_167 hI.1) ⟨rfl, rfl⟩ ?_
  have hJ1 := hI.go
  refine r_aload_n dX12_restore_5 rfl ?_
  refine r_getIc (nI ic) dX12_restore_6 fgX12_362 rfl (by exact k_167 hJ1.F) (by exact hJ1.1.2.2.1.1) ?_
  refine r_if_ne 14 dX12_restore_9 rfl (fun h0 => ?_) (fun h0 => ?_)
  ·
    obtain ⟨q, rfl⟩ : ∃ q, ic = q + 1 := ⟨ic - 1, by have : 0 < ic := Nat.pos_of_ne_zero (fun z => h0 (by rw [z]; rfl)); omega⟩
    have h3 := hI.2.2.1.2.1
    refine r_aload_n dX12_restore_14 rfl ?_
    refine r_dup dX12_restore_15 rfl ?_
    refine r_getIc (nI (q + 1)) dX12_restore_16 fgX12_362 rfl (by exact k_167 hJ1.F) (by exact hJ1.1.2.2.1.1) ?_
    refine r_iconst (1) dX12_restore_19 rfl ?_
    refine r_isub dX12_restore_20 ?_
    rw [nI_p1 q]
    refine r_putI dX12_restore_21 (fpX12_362 _ rfl) rfl (by exact k_167 hJ1.F) ⟨rfl, rfl⟩ ?_
    have hF8 : Fx (stI (stI m 167 0 0) 167 42 (nI q)) := Fx_of (m := m) rfl hI.1
    refine r_aload_n dX12_restore_24 rfl ?_
    refine r_aload_n dX12_restore_25 rfl ?_
    refine r_getIc (nI q) dX12_restore_26 fgX12_362 rfl (by exact k_167 hF8) (by exact ld_s) ?_
    refine r_iconst (1) dX12_restore_29 rfl ?_
    refine r_callV2 (ci := 12) (d1 := 2) (c1 := 0) (n1 := 0) dX12_restore_30 mvX12_365 rfl ⟨(Nat.le_of_ble_eq_true rfl), rfl⟩ (Nat.le_of_ble_eq_true rfl) (by exact Nat.le_of_ble_eq_true rfl) (by exact k_167 hF8) ?_
    refine S_mvAll (w := fs q) (f := f) (c := q) (by omega) hF8 (fun z hz => ld_n (fun q => lA_bst hz ⟨q.1, by omega⟩) (hJ1.1.2.1 z hz)) (fun _ y hy => ld_n (by omega) (hJ1.1.2.2.1.2.2 q (by omega) y hy)) (fun z => absurd z (by decide)) (fun m9 h9 => ?_)
    have hF9 := h9.2.2.2.2.1
    show Wp g mX12_restore _ _ _ 33 _ [] _ Q
    refine r_aload_n dX12_restore_33 rfl ?_
    refine r_getIc (nI q) dX12_restore_34 fgX12_362 rfl (by exact k_167 hF9) (by exact (h9.2.2.2.2.2.2 167 42 (by omega)).trans ld_s) ?_
    refine r_ireturn dX12_restore_37 rfl rfl ?_
    exact k q rfl _ ⟨hJ1.1.mv hF9 h9.rd ⟨(h9.2.2.2.2.2.2 167 42 (by omega)).trans ld_s, by omega, fun j hj z hz => (h9.2.2.2.2.2.2 (280 + j) z (by omega)).trans (ld_n (by omega) (hJ1.1.2.2.1.2.2 j (by omega) z hz))⟩ (fun a k ha => (h9.2.2.2.2.2.2 a k (by omega)).trans (ld_n (by omega) rfl)), (hJ1.2.1.stI (by omega) (by omega)).tr h9.2.2.2.2.2.1, (h9.2.2.2.2.2.2 167 0 (by omega)).trans (ld_n (by omega) hJ1.2.2)⟩
  ·
    refine r_iconst (-1) dX12_restore_12 rfl ?_
    refine r_ireturn dX12_restore_13 rfl rfl ?_
    exact kf ((nI_eq (b := 0) (by have := hI.2.2.1.2.1; omega) (by omega)).mp h0) _ hJ1
